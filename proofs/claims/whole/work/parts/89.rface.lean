theorem dX12_standsAt_0 : decode cX12_standsAt 0 = .ok (.aload_n 0, 1) := by decide +kernel
theorem dX12_standsAt_1 : decode cX12_standsAt 1 = .ok (.iload_n 1, 1) := by decide +kernel
theorem dX12_standsAt_2 : decode cX12_standsAt 2 = .ok (.iconst 0, 1) := by decide +kernel
theorem dX12_standsAt_3 : decode cX12_standsAt 3 = .ok (.invokevirtual 383, 3) := by decide +kernel
theorem dX12_standsAt_6 : decode cX12_standsAt 6 = .ok (.aload_n 0, 1) := by decide +kernel
theorem dX12_standsAt_7 : decode cX12_standsAt 7 = .ok (.getfield 116, 3) := by decide +kernel
theorem dX12_standsAt_10 : decode cX12_standsAt 10 = .ok (.iload_n 3, 1) := by decide +kernel
theorem dX12_standsAt_11 : decode cX12_standsAt 11 = .ok (.aaload, 1) := by decide +kernel
theorem dX12_standsAt_12 : decode cX12_standsAt 12 = .ok (.iload_n 2, 1) := by decide +kernel
theorem dX12_standsAt_13 : decode cX12_standsAt 13 = .ok (.iaload, 1) := by decide +kernel
theorem dX12_standsAt_14 : decode cX12_standsAt 14 = .ok (.i2l, 1) := by decide +kernel
theorem dX12_standsAt_15 : decode cX12_standsAt 15 = .ok (.ldc2_w 381, 3) := by decide +kernel
theorem dX12_standsAt_18 : decode cX12_standsAt 18 = .ok (.lmul, 1) := by decide +kernel
theorem dX12_standsAt_19 : decode cX12_standsAt 19 = .ok (.lcmp, 1) := by decide +kernel
theorem dX12_standsAt_20 : decode cX12_standsAt 20 = .ok (.ifCond .gt 41, 3) := by decide +kernel
theorem dX12_standsAt_23 : decode cX12_standsAt 23 = .ok (.aload_n 0, 1) := by decide +kernel
theorem dX12_standsAt_24 : decode cX12_standsAt 24 = .ok (.iload_n 1, 1) := by decide +kernel
theorem dX12_standsAt_25 : decode cX12_standsAt 25 = .ok (.iconst 1, 1) := by decide +kernel
theorem dX12_standsAt_26 : decode cX12_standsAt 26 = .ok (.invokevirtual 383, 3) := by decide +kernel
theorem dX12_standsAt_29 : decode cX12_standsAt 29 = .ok (.aload_n 0, 1) := by decide +kernel
theorem dX12_standsAt_30 : decode cX12_standsAt 30 = .ok (.getfield 116, 3) := by decide +kernel
theorem dX12_standsAt_33 : decode cX12_standsAt 33 = .ok (.iload_n 3, 1) := by decide +kernel
theorem dX12_standsAt_34 : decode cX12_standsAt 34 = .ok (.aaload, 1) := by decide +kernel
theorem dX12_standsAt_35 : decode cX12_standsAt 35 = .ok (.iload_n 2, 1) := by decide +kernel
theorem dX12_standsAt_36 : decode cX12_standsAt 36 = .ok (.aload_n 0, 1) := by decide +kernel
theorem dX12_standsAt_37 : decode cX12_standsAt 37 = .ok (.getfield 61, 3) := by decide +kernel
theorem dX12_standsAt_40 : decode cX12_standsAt 40 = .ok (.iload_n 1, 1) := by decide +kernel
theorem dX12_standsAt_41 : decode cX12_standsAt 41 = .ok (.aaload, 1) := by decide +kernel
theorem dX12_standsAt_42 : decode cX12_standsAt 42 = .ok (.iconst 1, 1) := by decide +kernel
theorem dX12_standsAt_43 : decode cX12_standsAt 43 = .ok (.iaload, 1) := by decide +kernel
theorem dX12_standsAt_44 : decode cX12_standsAt 44 = .ok (.iadd, 1) := by decide +kernel
theorem dX12_standsAt_45 : decode cX12_standsAt 45 = .ok (.iconst 1, 1) := by decide +kernel
theorem dX12_standsAt_46 : decode cX12_standsAt 46 = .ok (.isub, 1) := by decide +kernel
theorem dX12_standsAt_47 : decode cX12_standsAt 47 = .ok (.iaload, 1) := by decide +kernel
theorem dX12_standsAt_48 : decode cX12_standsAt 48 = .ok (.i2l, 1) := by decide +kernel
theorem dX12_standsAt_49 : decode cX12_standsAt 49 = .ok (.ldc2_w 381, 3) := by decide +kernel
theorem dX12_standsAt_52 : decode cX12_standsAt 52 = .ok (.lmul, 1) := by decide +kernel
theorem dX12_standsAt_53 : decode cX12_standsAt 53 = .ok (.lcmp, 1) := by decide +kernel
theorem dX12_standsAt_54 : decode cX12_standsAt 54 = .ok (.ifCond .gt 7, 3) := by decide +kernel
theorem dX12_standsAt_57 : decode cX12_standsAt 57 = .ok (.iconst 1, 1) := by decide +kernel
theorem dX12_standsAt_58 : decode cX12_standsAt 58 = .ok (.goto 4, 3) := by decide +kernel
theorem dX12_standsAt_61 : decode cX12_standsAt 61 = .ok (.iconst 0, 1) := by decide +kernel
theorem dX12_standsAt_62 : decode cX12_standsAt 62 = .ok (.ireturn, 1) := by decide +kernel
theorem ct_X12_standsAt {g : Gw} (hG : GF g) {z : Bool} (E : Mm) (P : SP) (Q : RX) (hP : WS P) (hR_E : RTS E P Q) (G : GP) (hgw : gW G = sW P) (b x h : Nat) (hh : h < 24) (hbr : ∀ c, c < sW P → E (708 + h) c = bOn G h c) (hb : b < bN (sB P)) (hx : x + bL (sB P) b ≤ sW P) : CT g yX12_standsAt cX12_standsAt 4 (some .boolean) 1 25 0 0 K2 z [mR 125, mI ((b : Nat) : Int), mI ((x : Nat) : Int), mI ((h : Nat) : Int)] (ov E) K2 z (fun r D' => r = some (mI (if stP G (sB P) b x h = true then 1 else 0)) ∧ D' = ov E) := by
  refine CT.mk hG (by decide +kernel) (Nat.le_of_ble_eq_true rfl) (fun κ X Rt _ ok => ?_)
  have hN8 := hP.B.N
  have hW40 := hP.W
  have hlb := hP.B.L (b := b) hb
  refine at_aload_n 1 X rfl rfl dX12_standsAt_0 rfl ?_
  refine at_iload_n 2 X rfl rfl dX12_standsAt_1 rfl ?_
  refine at_iconst 3 X (by decide) dX12_standsAt_2 rfl ?_
  refine at_callV 6 X _ 12 (ct_X12_putsOf hG E P Q hP hR_E b 0 (by omega)) clX12 rfl k_125 mo_X12_putsOf w_2213 vo_X12_putsOf.1 vo_X12_putsOf.2 rfl rfl (crm Rt (by decide)) (Nat.le_of_ble_eq_true rfl) dX12_standsAt_3 rfl ?_
  rintro _ _ ⟨rfl, rfl⟩
  have hLle := onL_le hP.B (b := b) (by omega)
  have hRle := onR_le hP.B (b := b) (by omega)
  refine at_aload_n 7 X rfl rfl dX12_standsAt_6 rfl ?_
  refine m_getR 10 X f_X12_116 k_125 r_125_51 dX12_standsAt_7 rfl ?_
  refine at_iload_n 11 X rfl rfl dX12_standsAt_10 rfl ?_
  refine m_aaloadV 12 X h (by omega) k_707 (by decide) (by omega) (rr_707 _ (by omega)) dX12_standsAt_11 rfl ?_
  refine at_iload_n 13 X rfl rfl dX12_standsAt_12 rfl ?_
  refine m_ialoadV 14 X x (by omega) (bOn G h x) (hbr x (by omega)) (kr_707 _ (by omega)) (er_707 _ (by omega)) (by omega) dX12_standsAt_13 rfl ?_
  have := bOn_in G h x
  refine at_i2l 15 X dX12_standsAt_14 rfl ?_
  refine at_ldc2 18 X (n := 232792560) w_2217 (by decide) (by decide) dX12_standsAt_15 rfl ?_
  refine at_lmulV 19 X ((bOn G h x) * 232792560) (w64_v rfl (by omega) (by omega)) dX12_standsAt_18 rfl ?_
  refine at_lif_gt 20 23 61 X dX12_standsAt_19 rfl dX12_standsAt_20 rfl (by decide) (fun h19 => ?_) (fun h19 => ?_)
  · refine at_iconst 62 X (by decide) dX12_standsAt_61 rfl ?_
    refine at_zret X Rt ?_ (by first | decide | (split <;> decide)) (Nat.le_refl _) (Nat.le_refl _) dX12_standsAt_62
    have e : ¬ stP G (sB P) b x h = true := by
      unfold stP
      simp only [Bool.and_eq_true, decide_eq_true_iff]
      omega
    exact ⟨by rw [if_neg e], rfl⟩
  · refine at_aload_n 24 X rfl rfl dX12_standsAt_23 rfl ?_
    refine at_iload_n 25 X rfl rfl dX12_standsAt_24 rfl ?_
    refine at_iconst 26 X (by decide) dX12_standsAt_25 rfl ?_
    refine at_callV 29 X _ 12 (ct_X12_putsOf hG E P Q hP hR_E b 1 (by omega)) clX12 rfl k_125 mo_X12_putsOf w_2213 vo_X12_putsOf.1 vo_X12_putsOf.2 rfl rfl (crm Rt (by decide)) (Nat.le_of_ble_eq_true rfl) dX12_standsAt_26 rfl ?_
    rintro _ _ ⟨rfl, rfl⟩
    have hLle := onL_le hP.B (b := b) (by omega)
    have hRle := onR_le hP.B (b := b) (by omega)
    refine at_aload_n 30 X rfl rfl dX12_standsAt_29 rfl ?_
    refine m_getR 33 X f_X12_116 k_125 r_125_51 dX12_standsAt_30 rfl ?_
    refine at_iload_n 34 X rfl rfl dX12_standsAt_33 rfl ?_
    refine m_aaloadV 35 X h (by omega) k_707 (by decide) (by omega) (rr_707 _ (by omega)) dX12_standsAt_34 rfl ?_
    refine at_iload_n 36 X rfl rfl dX12_standsAt_35 rfl ?_
    refine at_aload_n 37 X rfl rfl dX12_standsAt_36 rfl ?_
    refine m_getR 40 X f_X12_61 k_125 r_125_24 dX12_standsAt_37 rfl ?_
    refine at_iload_n 41 X rfl rfl dX12_standsAt_40 rfl ?_
    refine m_aaloadV 42 X b (by omega) k_227 (by decide) (by omega) (rr_227 _ (by omega)) dX12_standsAt_41 rfl ?_
    refine at_iconst 43 X (by decide) dX12_standsAt_42 rfl ?_
    refine m_ialoadV 44 X 1 (by omega) ((bL (sB P) b : Nat) : Int) (hR_E.2.2.2.2.2.2 b (by omega)).2.1 (kr_227 _ (by omega)) (er_227 _ (by omega)) (by omega) dX12_standsAt_43 rfl ?_
    have := hP.B.L (b := b) (by omega)
    refine at_iaddV 45 X ((x + bL (sB P) b : Nat) : Int) (w32_v (by omega) (by omega) (by omega)) dX12_standsAt_44 rfl ?_
    refine at_iconst 46 X (by decide) dX12_standsAt_45 rfl ?_
    refine at_isubV 47 X ((x + bL (sB P) b - 1 : Nat) : Int) (w32_v (by omega) (by omega) (by omega)) dX12_standsAt_46 rfl ?_
    refine m_ialoadV 48 X (x + bL (sB P) b - 1) (by omega) (bOn G h (x + bL (sB P) b - 1)) (hbr (x + bL (sB P) b - 1) (by omega)) (kr_707 _ (by omega)) (er_707 _ (by omega)) (by omega) dX12_standsAt_47 rfl ?_
    have := bOn_in G h (x + bL (sB P) b - 1)
    refine at_i2l 49 X dX12_standsAt_48 rfl ?_
    refine at_ldc2 52 X (n := 232792560) w_2217 (by decide) (by decide) dX12_standsAt_49 rfl ?_
    refine at_lmulV 53 X ((bOn G h (x + bL (sB P) b - 1)) * 232792560) (w64_v rfl (by omega) (by omega)) dX12_standsAt_52 rfl ?_
    refine at_lif_gt 54 57 61 X dX12_standsAt_53 rfl dX12_standsAt_54 rfl (by decide) (fun h53 => ?_) (fun h53 => ?_)
    · refine at_iconst 62 X (by decide) dX12_standsAt_61 rfl ?_
      refine at_zret X Rt ?_ (by first | decide | (split <;> decide)) (Nat.le_refl _) (Nat.le_refl _) dX12_standsAt_62
      have e : ¬ stP G (sB P) b x h = true := by
        unfold stP
        simp only [Bool.and_eq_true, decide_eq_true_iff]
        omega
      exact ⟨by rw [if_neg e], rfl⟩
    · refine at_iconst 58 X (by decide) dX12_standsAt_57 rfl ?_
      refine at_goto 62 X dX12_standsAt_58 (by decide) ?_
      refine at_zret X Rt ?_ (by first | decide | (split <;> decide)) (Nat.le_refl _) (Nat.le_refl _) dX12_standsAt_62
      have e : stP G (sB P) b x h = true := by
        unfold stP
        simp only [Bool.and_eq_true, decide_eq_true_iff]
        omega
      exact ⟨by rw [if_pos e], rfl⟩
theorem dX12_endsOf_0 : decode cX12_endsOf 0 = .ok (.aload_n 0, 1) := by decide +kernel
theorem dX12_endsOf_1 : decode cX12_endsOf 1 = .ok (.getfield 23, 3) := by decide +kernel
theorem dX12_endsOf_4 : decode cX12_endsOf 4 = .ok (.iconst 0, 1) := by decide +kernel
theorem dX12_endsOf_5 : decode cX12_endsOf 5 = .ok (.iaload, 1) := by decide +kernel
theorem dX12_endsOf_6 : decode cX12_endsOf 6 = .ok (.aload_n 0, 1) := by decide +kernel
theorem dX12_endsOf_7 : decode cX12_endsOf 7 = .ok (.getfield 61, 3) := by decide +kernel
theorem dX12_endsOf_10 : decode cX12_endsOf 10 = .ok (.iload_n 1, 1) := by decide +kernel
theorem dX12_endsOf_11 : decode cX12_endsOf 11 = .ok (.aaload, 1) := by decide +kernel
theorem dX12_endsOf_12 : decode cX12_endsOf 12 = .ok (.iconst 1, 1) := by decide +kernel
theorem dX12_endsOf_13 : decode cX12_endsOf 13 = .ok (.iaload, 1) := by decide +kernel
theorem dX12_endsOf_14 : decode cX12_endsOf 14 = .ok (.isub, 1) := by decide +kernel
theorem dX12_endsOf_15 : decode cX12_endsOf 15 = .ok (.iconst 1, 1) := by decide +kernel
theorem dX12_endsOf_16 : decode cX12_endsOf 16 = .ok (.iadd, 1) := by decide +kernel
theorem dX12_endsOf_17 : decode cX12_endsOf 17 = .ok (.ireturn, 1) := by decide +kernel
theorem ct_X12_endsOf {g : Gw} (hG : GF g) {z : Bool} (E : Mm) (P : SP) (Q : RX) (hP : WS P) (hR_E : RTS E P Q) (b : Nat) (hb : b < bN (sB P)) (hl : bL (sB P) b ≤ sW P) : CT g yX12_endsOf cX12_endsOf 2 (some .int) 0 0 0 0 K2 z [mR 125, mI ((b : Nat) : Int)] (ov E) K2 z (fun r D' => r = some (mI ((sW P + 1 - bL (sB P) b : Nat) : Int)) ∧ D' = ov E) := by
  refine CT.mk hG (by decide +kernel) (Nat.le_of_ble_eq_true rfl) (fun κ X Rt _ ok => ?_)
  have hN8 := hP.B.N
  have hW40 := hP.W
  have hlb := hP.B.L (b := b) hb
  refine at_aload_n 1 X rfl rfl dX12_endsOf_0 rfl ?_
  refine m_getR 4 X f_X12_23 k_125 r_125_12 dX12_endsOf_1 rfl ?_
  refine at_iconst 5 X (by decide) dX12_endsOf_4 rfl ?_
  refine m_ialoadV 6 X 0 (by omega) ((sW P : Nat) : Int) hR_E.1.1 k_129 e_129 (by omega) dX12_endsOf_5 rfl ?_
  have := hP.W
  refine at_aload_n 7 X rfl rfl dX12_endsOf_6 rfl ?_
  refine m_getR 10 X f_X12_61 k_125 r_125_24 dX12_endsOf_7 rfl ?_
  refine at_iload_n 11 X rfl rfl dX12_endsOf_10 rfl ?_
  refine m_aaloadV 12 X b (by omega) k_227 (by decide) (by omega) (rr_227 _ (by omega)) dX12_endsOf_11 rfl ?_
  refine at_iconst 13 X (by decide) dX12_endsOf_12 rfl ?_
  refine m_ialoadV 14 X 1 (by omega) ((bL (sB P) b : Nat) : Int) (hR_E.2.2.2.2.2.2 b (by omega)).2.1 (kr_227 _ (by omega)) (er_227 _ (by omega)) (by omega) dX12_endsOf_13 rfl ?_
  have := hP.B.L (b := b) (by omega)
  refine at_isubV 15 X ((sW P - (bL (sB P) b) : Nat) : Int) (w32_v (by omega) (by omega) (by omega)) dX12_endsOf_14 rfl ?_
  refine at_iconst 16 X (by decide) dX12_endsOf_15 rfl ?_
  refine at_iaddV 17 X ((sW P - (bL (sB P) b) + 1 : Nat) : Int) (w32_v (by omega) (by omega) (by omega)) dX12_endsOf_16 rfl ?_
  refine at_iret X Rt ?_ (Nat.le_refl _) (Nat.le_refl _) dX12_endsOf_17
  exact ⟨by rw [show sW P - bL (sB P) b + 1 = sW P + 1 - bL (sB P) b by omega], rfl⟩
theorem dX12_placesOf_0 : decode cX12_placesOf 0 = .ok (.iconst 0, 1) := by decide +kernel
theorem dX12_placesOf_1 : decode cX12_placesOf 1 = .ok (.istore_n 3, 1) := by decide +kernel
theorem dX12_placesOf_2 : decode cX12_placesOf 2 = .ok (.iconst 0, 1) := by decide +kernel
theorem dX12_placesOf_3 : decode cX12_placesOf 3 = .ok (.istore 4, 2) := by decide +kernel
theorem dX12_placesOf_5 : decode cX12_placesOf 5 = .ok (.iload 4, 2) := by decide +kernel
theorem dX12_placesOf_7 : decode cX12_placesOf 7 = .ok (.aload_n 0, 1) := by decide +kernel
theorem dX12_placesOf_8 : decode cX12_placesOf 8 = .ok (.iload_n 1, 1) := by decide +kernel
theorem dX12_placesOf_9 : decode cX12_placesOf 9 = .ok (.invokevirtual 410, 3) := by decide +kernel
theorem dX12_placesOf_12 : decode cX12_placesOf 12 = .ok (.if_icmp .ge 28, 3) := by decide +kernel
theorem dX12_placesOf_15 : decode cX12_placesOf 15 = .ok (.iload_n 3, 1) := by decide +kernel
theorem dX12_placesOf_16 : decode cX12_placesOf 16 = .ok (.aload_n 0, 1) := by decide +kernel
theorem dX12_placesOf_17 : decode cX12_placesOf 17 = .ok (.iload_n 1, 1) := by decide +kernel
theorem dX12_placesOf_18 : decode cX12_placesOf 18 = .ok (.iload 4, 2) := by decide +kernel
theorem dX12_placesOf_20 : decode cX12_placesOf 20 = .ok (.iload_n 2, 1) := by decide +kernel
theorem dX12_placesOf_21 : decode cX12_placesOf 21 = .ok (.invokevirtual 413, 3) := by decide +kernel
theorem dX12_placesOf_24 : decode cX12_placesOf 24 = .ok (.ifCond .eq 7, 3) := by decide +kernel
theorem dX12_placesOf_27 : decode cX12_placesOf 27 = .ok (.iconst 1, 1) := by decide +kernel
theorem dX12_placesOf_28 : decode cX12_placesOf 28 = .ok (.goto 4, 3) := by decide +kernel
theorem dX12_placesOf_31 : decode cX12_placesOf 31 = .ok (.iconst 0, 1) := by decide +kernel
theorem dX12_placesOf_32 : decode cX12_placesOf 32 = .ok (.iadd, 1) := by decide +kernel
theorem dX12_placesOf_33 : decode cX12_placesOf 33 = .ok (.istore_n 3, 1) := by decide +kernel
theorem dX12_placesOf_34 : decode cX12_placesOf 34 = .ok (.iinc 4 1, 3) := by decide +kernel
theorem dX12_placesOf_37 : decode cX12_placesOf 37 = .ok (.goto (-32), 3) := by decide +kernel
theorem dX12_placesOf_40 : decode cX12_placesOf 40 = .ok (.iload_n 3, 1) := by decide +kernel
theorem dX12_placesOf_41 : decode cX12_placesOf 41 = .ok (.ireturn, 1) := by decide +kernel
theorem ct_X12_placesOf {g : Gw} (hG : GF g) {z : Bool} (E : Mm) (P : SP) (Q : RX) (hP : WS P) (hR_E : RTS E P Q) (G : GP) (hgw : gW G = sW P) (b h : Nat) (hh : h < 24) (hbr : ∀ c, c < sW P → E (708 + h) c = bOn G h c) (hb : b < bN (sB P)) (hl : bL (sB P) b ≤ sW P) : CT g yX12_placesOf cX12_placesOf 5 (some .int) 2 48 0 0 K2 z [mR 125, mI ((b : Nat) : Int), mI ((h : Nat) : Int)] (ov E) K2 z (fun r D' => r = some (mI (pcN G (sB P) b h : Nat)) ∧ D' = ov E) := by
  refine CT.mk hG (by decide +kernel) (Nat.le_of_ble_eq_true rfl) (fun κ X Rt _ ok => ?_)
  have hN8 := hP.B.N
  have hW40 := hP.W
  have hlb := hP.B.L (b := b) hb
  refine at_iconst 1 X (by decide) dX12_placesOf_0 rfl ?_
  refine at_istore_n 2 X rfl dX12_placesOf_1 rfl (by decide) ?_
  refine at_iconst 3 X (by decide) dX12_placesOf_2 rfl ?_
  refine at_istore 5 X dX12_placesOf_3 rfl (by decide) ?_
  have J5 : ∀ (f5 : Nat) (x : Nat) (n : Nat), 41 - x < f5 → (x ≤ sW P + 1 - bL (sB P) b) → (n = cntp (fun x => stP G (sB P) b x h) x) → AT g κ K2 z 0 0 5 [(0, mR 125), (1, mI ((b : Nat) : Int)), (2, mI ((h : Nat) : Int)), (3, mI ((n : Nat) : Int)), (4, mI ((x : Nat) : Int))] [] (ov E) := by
    intro f5
    induction f5 with
    | zero => intro x n hf5; omega
    | succ f5 ih5 =>
    intro x n hf5 hx hn
    refine at_iload 7 X rfl dX12_placesOf_5 rfl ?_
    have hnl := cntp_le (fun x => stP G (sB P) b x h) x
    refine at_aload_n 8 X rfl rfl dX12_placesOf_7 rfl ?_
    refine at_iload_n 9 X rfl rfl dX12_placesOf_8 rfl ?_
    refine at_callV 12 X _ 12 (ct_X12_endsOf hG E P Q hP hR_E b (by omega) (by omega)) clX12 rfl k_125 mo_X12_endsOf w_2269 vo_X12_endsOf.1 vo_X12_endsOf.2 rfl rfl (crm Rt (by decide)) (Nat.le_of_ble_eq_true rfl) dX12_placesOf_9 rfl ?_
    rintro _ _ ⟨rfl, rfl⟩
    refine at_icmp_ge 15 40 X dX12_placesOf_12 rfl (by decide) (fun h12 => ?_) (fun h12 => ?_)
    · refine at_iload_n 41 X rfl rfl dX12_placesOf_40 rfl ?_
      refine at_iret X Rt ?_ (Nat.le_refl _) (Nat.le_refl _) dX12_placesOf_41
      exact ⟨by unfold pcN; rw [hn, show x = sW P + 1 - bL (sB P) b by omega, hgw], rfl⟩
    · refine at_iload_n 16 X rfl rfl dX12_placesOf_15 rfl ?_
      refine at_aload_n 17 X rfl rfl dX12_placesOf_16 rfl ?_
      refine at_iload_n 18 X rfl rfl dX12_placesOf_17 rfl ?_
      refine at_iload 20 X rfl dX12_placesOf_18 rfl ?_
      refine at_iload_n 21 X rfl rfl dX12_placesOf_20 rfl ?_
      refine at_callV 24 X _ 12 (ct_X12_standsAt hG E P Q hP hR_E G hgw b x h hh hbr hb (by omega)) clX12 rfl k_125 mo_X12_standsAt w_2273 vo_X12_standsAt.1 vo_X12_standsAt.2 rfl rfl (crm Rt (by decide)) (Nat.le_of_ble_eq_true rfl) dX12_placesOf_21 rfl ?_
      rintro _ _ ⟨rfl, rfl⟩
      refine at_if_eq 27 31 X dX12_placesOf_24 rfl (by decide) (fun h24 => ?_) (fun h24 => ?_)
      · have h24 : ¬ (stP G (sB P) b x h = true) := ite_no.mp h24
        refine at_iconst 32 X (by decide) dX12_placesOf_31 rfl ?_
        refine at_iaddV 33 X ((n + 0 : Nat) : Int) (w32_v (by omega) (by omega) (by omega)) dX12_placesOf_32 rfl ?_
        refine at_istore_n 34 X rfl dX12_placesOf_33 rfl (by decide) ?_
        refine at_iincV 37 X ((x + 1 : Nat) : Int) (w32_v (by omega) (by omega) (by omega)) rfl dX12_placesOf_34 rfl (by decide) ?_
        refine at_goto 5 X dX12_placesOf_37 (by decide) ?_
        exact at_sub _ (by exact ⟨rfl, rfl, rfl, rfl, rfl, trivial⟩) (ih5 (x + 1) (n + 0) (by first | omega | (simp only [] at *; omega)) (by first | omega | assumption) (by rw [cntp_s, hn]; first | rw [if_pos h24] | rw [if_neg h24]))
      · have h24 : (stP G (sB P) b x h = true) := ite_yes.mp h24
        refine at_iconst 28 X (by decide) dX12_placesOf_27 rfl ?_
        refine at_goto 32 X dX12_placesOf_28 (by decide) ?_
        refine at_iaddV 33 X ((n + 1 : Nat) : Int) (w32_v (by omega) (by omega) (by omega)) dX12_placesOf_32 rfl ?_
        refine at_istore_n 34 X rfl dX12_placesOf_33 rfl (by decide) ?_
        refine at_iincV 37 X ((x + 1 : Nat) : Int) (w32_v (by omega) (by omega) (by omega)) rfl dX12_placesOf_34 rfl (by decide) ?_
        refine at_goto 5 X dX12_placesOf_37 (by decide) ?_
        exact at_sub _ (by exact ⟨rfl, rfl, rfl, rfl, rfl, trivial⟩) (ih5 (x + 1) (n + 1) (by first | omega | (simp only [] at *; omega)) (by first | omega | assumption) (by rw [cntp_s, hn]; first | rw [if_pos h24] | rw [if_neg h24]))
  exact at_sub _ (by exact ⟨rfl, rfl, rfl, rfl, rfl, trivial⟩) (J5 _ 0 0 (Nat.lt_succ_self _) (by first | omega | assumption | rfl) rfl)
theorem dX12_held_0 : decode cX12_held 0 = .ok (.aload_n 0, 1) := by decide +kernel
theorem dX12_held_1 : decode cX12_held 1 = .ok (.iconst 0, 1) := by decide +kernel
theorem dX12_held_2 : decode cX12_held 2 = .ok (.putfield 152, 3) := by decide +kernel
theorem dX12_held_5 : decode cX12_held 5 = .ok (.aload_n 0, 1) := by decide +kernel
theorem dX12_held_6 : decode cX12_held 6 = .ok (.aload_n 0, 1) := by decide +kernel
theorem dX12_held_7 : decode cX12_held 7 = .ok (.iload_n 1, 1) := by decide +kernel
theorem dX12_held_8 : decode cX12_held 8 = .ok (.invokevirtual 324, 3) := by decide +kernel
theorem dX12_held_11 : decode cX12_held 11 = .ok (.ifCond .ne 7, 3) := by decide +kernel
theorem dX12_held_14 : decode cX12_held 14 = .ok (.iconst 1, 1) := by decide +kernel
theorem dX12_held_15 : decode cX12_held 15 = .ok (.goto 4, 3) := by decide +kernel
theorem dX12_held_18 : decode cX12_held 18 = .ok (.iconst 0, 1) := by decide +kernel
theorem dX12_held_19 : decode cX12_held 19 = .ok (.iconst 1, 1) := by decide +kernel
theorem dX12_held_20 : decode cX12_held 20 = .ok (.iconst 1, 1) := by decide +kernel
theorem dX12_held_21 : decode cX12_held 21 = .ok (.invokevirtual 244, 3) := by decide +kernel
theorem dX12_held_24 : decode cX12_held 24 = .ok (.ifCond .eq 5, 3) := by decide +kernel
theorem dX12_held_27 : decode cX12_held 27 = .ok (.iconst 0, 1) := by decide +kernel
theorem dX12_held_28 : decode cX12_held 28 = .ok (.ireturn, 1) := by decide +kernel
theorem dX12_held_29 : decode cX12_held 29 = .ok (.aload_n 0, 1) := by decide +kernel
theorem dX12_held_30 : decode cX12_held 30 = .ok (.invokevirtual 378, 3) := by decide +kernel
theorem dX12_held_33 : decode cX12_held 33 = .ok (.iconst 0, 1) := by decide +kernel
theorem dX12_held_34 : decode cX12_held 34 = .ok (.istore_n 2, 1) := by decide +kernel
theorem dX12_held_35 : decode cX12_held 35 = .ok (.iconst 0, 1) := by decide +kernel
theorem dX12_held_36 : decode cX12_held 36 = .ok (.istore_n 3, 1) := by decide +kernel
theorem dX12_held_37 : decode cX12_held 37 = .ok (.iload_n 3, 1) := by decide +kernel
theorem dX12_held_38 : decode cX12_held 38 = .ok (.bipush 24, 2) := by decide +kernel
theorem dX12_held_40 : decode cX12_held 40 = .ok (.if_icmp .ge 36, 3) := by decide +kernel
theorem dX12_held_43 : decode cX12_held 43 = .ok (.iload_n 2, 1) := by decide +kernel
theorem dX12_held_44 : decode cX12_held 44 = .ok (.aload_n 0, 1) := by decide +kernel
theorem dX12_held_45 : decode cX12_held 45 = .ok (.iload_n 1, 1) := by decide +kernel
theorem dX12_held_46 : decode cX12_held 46 = .ok (.aload_n 0, 1) := by decide +kernel
theorem dX12_held_47 : decode cX12_held 47 = .ok (.getfield 61, 3) := by decide +kernel
theorem dX12_held_50 : decode cX12_held 50 = .ok (.iload_n 1, 1) := by decide +kernel
theorem dX12_held_51 : decode cX12_held 51 = .ok (.aaload, 1) := by decide +kernel
theorem dX12_held_52 : decode cX12_held 52 = .ok (.iconst 0, 1) := by decide +kernel
theorem dX12_held_53 : decode cX12_held 53 = .ok (.iaload, 1) := by decide +kernel
theorem dX12_held_54 : decode cX12_held 54 = .ok (.iload_n 3, 1) := by decide +kernel
theorem dX12_held_55 : decode cX12_held 55 = .ok (.invokevirtual 413, 3) := by decide +kernel
theorem dX12_held_58 : decode cX12_held 58 = .ok (.ifCond .eq 9, 3) := by decide +kernel
theorem dX12_held_61 : decode cX12_held 61 = .ok (.iconst 1, 1) := by decide +kernel
theorem dX12_held_62 : decode cX12_held 62 = .ok (.iload_n 3, 1) := by decide +kernel
theorem dX12_held_63 : decode cX12_held 63 = .ok (.ishl, 1) := by decide +kernel
theorem dX12_held_64 : decode cX12_held 64 = .ok (.goto 4, 3) := by decide +kernel
theorem dX12_held_67 : decode cX12_held 67 = .ok (.iconst 0, 1) := by decide +kernel
theorem dX12_held_68 : decode cX12_held 68 = .ok (.ior, 1) := by decide +kernel
theorem dX12_held_69 : decode cX12_held 69 = .ok (.istore_n 2, 1) := by decide +kernel
theorem dX12_held_70 : decode cX12_held 70 = .ok (.iinc 3 1, 3) := by decide +kernel
theorem dX12_held_73 : decode cX12_held 73 = .ok (.goto (-36), 3) := by decide +kernel
theorem dX12_held_76 : decode cX12_held 76 = .ok (.iload_n 2, 1) := by decide +kernel
theorem dX12_held_77 : decode cX12_held 77 = .ok (.ireturn, 1) := by decide +kernel
theorem ct_X12_held {g : Gw} (hG : GF g) {z : Bool} (E : Mm) (Q : RX) (P : SP) (L : LW) (T K : LN) (d st : Nat) (hWf : WF P L T K d st) (hI_E : RXI E Q P L T K d st) (x0 : Int) : CT g yX12_held cX12_held 4 (some .int) 7 156 0 0 K2 z [mR 125, mI x0] (ov E) K2 z (fun r' D' => ((0 ≤ x0 ∧ x0 ≤ (bN (sB P) : Int) - 1) ∧ r' = some (mI (mk (fun h => stP (gDay P L d) (sB P) x0.toNat (bX (sB P) x0.toNat) h) 24 : Nat)) ∧ ∃ E1, D' = ov E1 ∧ RXO E E1 Q P L T K d st) ∨ (¬ (0 ≤ x0 ∧ x0 ≤ (bN (sB P) : Int) - 1) ∧ r' = some (mI 0) ∧ D' = ov (badR E 1 1))) := by
  refine CT.mk hG (by decide +kernel) (Nat.le_of_ble_eq_true rfl) (fun κ X Rt _ ok => ?_)
  have hP := hWf.1
  have hN8 := hP.B.N
  have hW40 := hP.W
  have hN11 := hP.N
  have hwN : gN (gDay P L d) ≤ 11 := Nat.le_trans hP.N (by decide)
  have hgw : gW (gDay P L d) = sW P := rfl
  have hDI24 := dyP_DI (G := (gDay P L d)) hP.B hWf.2.2.2.1 (Nat.le_refl 24)
  refine at_aload_n 1 X rfl rfl dX12_held_0 rfl ?_
  refine at_iconst 2 X (by decide) dX12_held_1 rfl ?_
  refine m_putI 5 X f_X12_152 fw_12_0 k_125 rn_125_0 dX12_held_2 rfl ?_
  have hO_E0 := RXO.z hWf hI_E
  generalize hE0 : wr E 125 0 0 = E0 at hO_E0 ⊢
  have hR_E0 := hO_E0.1.1
  refine at_aload_n 6 X rfl rfl dX12_held_5 rfl ?_
  refine at_aload_n 7 X rfl rfl dX12_held_6 rfl ?_
  refine at_iload_n 8 X rfl rfl dX12_held_7 rfl ?_
  refine at_callV 11 X _ 12 (ct_X12_isBeam hG E0 P Q hP hR_E0 x0) clX12 rfl k_125 mo_X12_isBeam w_2122 vo_X12_isBeam.1 vo_X12_isBeam.2 rfl rfl (crm Rt (by decide)) (Nat.le_of_ble_eq_true rfl) dX12_held_8 rfl ?_
  rintro _ _ ⟨rfl, rfl⟩
  refine at_if_ne 14 18 X dX12_held_11 rfl (by decide) (fun h11 => ?_) (fun h11 => ?_)
  · have h11 : (0 ≤ x0 ∧ x0 ≤ (bN (sB P) : Int) - 1) := ite_yes.mp h11
    refine at_iconst 19 X (by decide) dX12_held_18 rfl ?_
    refine at_iconst 20 X (by decide) dX12_held_19 rfl ?_
    refine at_iconst 21 X (by decide) dX12_held_20 rfl ?_
    refine at_callV 24 X _ 12 (ct_bad0 hG E0 1 1 (by decide) hO_E0.2.2.1) clX12 rfl k_125 mo_X12_bad w_1960 vo_X12_bad.1 vo_X12_bad.2 rfl rfl (crm Rt (by decide)) (Nat.le_of_ble_eq_true rfl) dX12_held_21 rfl ?_
    rintro _ _ ⟨rfl, rfl⟩
    have hc0 : 0 ≤ x0 ∧ x0 ≤ (bN (sB P) : Int) - 1 := by omega
    refine at_if_eq 27 29 X dX12_held_24 rfl (by decide) (fun h24 => ?_) (fun h24 => ?_)
    · obtain ⟨b, rfl⟩ : ∃ b : Nat, x0 = (b : Int) := ⟨x0.toNat, by omega⟩
      have hlb := hP.B.L (b := b) (by omega)
      have hxb := hP.B.X (b := b) (by omega)
      refine at_aload_n 30 X rfl rfl dX12_held_29 rfl ?_
      refine at_callV 33 X _ 12 (ct_X12_laysNow hG E0 Q P L T K d st hWf hO_E0.1) clX12 rfl k_125 mo_X12_laysNow w_2158 vo_X12_laysNow.1 vo_X12_laysNow.2 rfl rfl (crm Rt (by decide)) (Nat.le_of_ble_eq_true rfl) dX12_held_30 rfl ?_
      rintro _ _ ⟨rfl, F1, rfl, hI_F1, hY_F1, hs_F1, hz_F1, hv_F1, h0_F1, h7_F1⟩
      have hO_F1 := hO_E0.nx hI_F1 hY_F1 h0_F1 h7_F1
      have hR_F1 := hI_F1.1
      refine at_iconst 34 X (by decide) dX12_held_33 rfl ?_
      refine at_istore_n 35 X rfl dX12_held_34 rfl (by decide) ?_
      refine at_iconst 36 X (by decide) dX12_held_35 rfl ?_
      refine at_istore_n 37 X rfl dX12_held_36 rfl (by decide) ?_
      have J37 : ∀ (f37 : Nat) (h : Nat) (v : Nat), 24 - h < f37 → (h ≤ 24) → (v = mk (fun h => stP (gDay P L d) (sB P) b (bX (sB P) b) h) h) → AT g κ K2 z 0 0 37 [(0, mR 125), (1, mI ((b : Nat) : Int)), (2, mI ((v : Nat) : Int)), (3, mI ((h : Nat) : Int))] [] (ov F1) := by
        intro f37
        induction f37 with
        | zero => intro h v hf37; omega
        | succ f37 ih37 =>
        intro h v hf37 hh hv
        refine at_iload_n 38 X rfl rfl dX12_held_37 rfl ?_
        refine at_bipush 40 X (by decide) (by decide) dX12_held_38 rfl ?_
        refine at_icmp_ge 43 76 X dX12_held_40 rfl (by decide) (fun h40 => ?_) (fun h40 => ?_)
        · refine at_iload_n 77 X rfl rfl dX12_held_76 rfl ?_
          refine at_iret X Rt ?_ (Nat.le_refl _) (Nat.le_refl _) dX12_held_77
          exact Or.inl ⟨hc0, (by rw [hv, show h = 24 by omega]; rfl), _, rfl, hO_F1⟩
        · refine at_iload_n 44 X rfl rfl dX12_held_43 rfl ?_
          refine at_aload_n 45 X rfl rfl dX12_held_44 rfl ?_
          refine at_iload_n 46 X rfl rfl dX12_held_45 rfl ?_
          refine at_aload_n 47 X rfl rfl dX12_held_46 rfl ?_
          refine m_getR 50 X f_X12_61 k_125 r_125_24 dX12_held_47 rfl ?_
          refine at_iload_n 51 X rfl rfl dX12_held_50 rfl ?_
          refine m_aaloadV 52 X b (by omega) k_227 (by decide) (by omega) (rr_227 _ (by omega)) dX12_held_51 rfl ?_
          refine at_iconst 53 X (by decide) dX12_held_52 rfl ?_
          refine m_ialoadV 54 X 0 (by omega) ((bX (sB P) b : Nat) : Int) (hR_F1.2.2.2.2.2.2 b (by omega)).1 (kr_227 _ (by omega)) (er_227 _ (by omega)) (by omega) dX12_held_53 rfl ?_
          have := hP.B.X (b := b) (by omega)
          refine at_iload_n 55 X rfl rfl dX12_held_54 rfl ?_
          refine at_callV 58 X _ 12 (ct_X12_standsAt hG F1 P Q hP hR_F1 (gDay P L d) rfl b (bX (sB P) b) h (by omega) (fun c hc => (hs_F1 h c (by omega) hc).2) (by omega) (by omega)) clX12 rfl k_125 mo_X12_standsAt w_2273 vo_X12_standsAt.1 vo_X12_standsAt.2 rfl rfl (crm Rt (by decide)) (Nat.le_of_ble_eq_true rfl) dX12_held_55 rfl ?_
          rintro _ _ ⟨rfl, rfl⟩
          refine at_if_eq 61 67 X dX12_held_58 rfl (by decide) (fun h58 => ?_) (fun h58 => ?_)
          · have h58 : ¬ (stP (gDay P L d) (sB P) b (bX (sB P) b) h = true) := ite_no.mp h58
            refine at_iconst 68 X (by decide) dX12_held_67 rfl ?_
            refine at_iorV 69 X ((mk (fun h => stP (gDay P L d) (sB P) b (bX (sB P) b) h) (h + 1) : Nat) : Int) (by rw [hv]; have h1 := mk24 (p := fun h => stP (gDay P L d) (sB P) b (bX (sB P) b) h) (n := h) (by omega); first | (rw [ior_nat (by omega) (p2_31 (by omega)), mk_t h58]) | (rw [mk_f (p := fun h => stP (gDay P L d) (sB P) b (bX (sB P) b) h) h58]; exact (ior_nat (n := 0) (by omega) (by decide)).trans (by rw [Nat.or_zero]))) dX12_held_68 rfl ?_
            refine at_istore_n 70 X rfl dX12_held_69 rfl (by decide) ?_
            refine at_iincV 73 X ((h + 1 : Nat) : Int) (w32_v (by omega) (by omega) (by omega)) rfl dX12_held_70 rfl (by decide) ?_
            refine at_goto 37 X dX12_held_73 (by decide) ?_
            exact at_sub _ (by exact ⟨rfl, rfl, rfl, rfl, trivial⟩) (ih37 (h + 1) (mk (fun h => stP (gDay P L d) (sB P) b (bX (sB P) b) h) (h + 1)) (by first | omega | (simp only [] at *; omega)) (by first | omega | assumption) rfl)
          · have h58 : (stP (gDay P L d) (sB P) b (bX (sB P) b) h = true) := ite_yes.mp h58
            refine at_iconst 62 X (by decide) dX12_held_61 rfl ?_
            refine at_iload_n 63 X rfl rfl dX12_held_62 rfl ?_
            refine at_ishlV 64 X ((2 ^ h : Nat) : Int) (ishl1 (by omega)) dX12_held_63 rfl ?_
            refine at_goto 68 X dX12_held_64 (by decide) ?_
            refine at_iorV 69 X ((mk (fun h => stP (gDay P L d) (sB P) b (bX (sB P) b) h) (h + 1) : Nat) : Int) (by rw [hv]; have h1 := mk24 (p := fun h => stP (gDay P L d) (sB P) b (bX (sB P) b) h) (n := h) (by omega); first | (rw [ior_nat (by omega) (p2_31 (by omega)), mk_t h58]) | (rw [mk_f (p := fun h => stP (gDay P L d) (sB P) b (bX (sB P) b) h) h58]; exact (ior_nat (n := 0) (by omega) (by decide)).trans (by rw [Nat.or_zero]))) dX12_held_68 rfl ?_
            refine at_istore_n 70 X rfl dX12_held_69 rfl (by decide) ?_
            refine at_iincV 73 X ((h + 1 : Nat) : Int) (w32_v (by omega) (by omega) (by omega)) rfl dX12_held_70 rfl (by decide) ?_
            refine at_goto 37 X dX12_held_73 (by decide) ?_
            exact at_sub _ (by exact ⟨rfl, rfl, rfl, rfl, trivial⟩) (ih37 (h + 1) (mk (fun h => stP (gDay P L d) (sB P) b (bX (sB P) b) h) (h + 1)) (by first | omega | (simp only [] at *; omega)) (by first | omega | assumption) rfl)
      exact at_sub _ (by exact ⟨rfl, rfl, rfl, rfl, trivial⟩) (J37 _ 0 0 (Nat.lt_succ_self _) (by first | omega | assumption | rfl) rfl)
    · exact absurd h24 (by decide)
  · have h11 : ¬ (0 ≤ x0 ∧ x0 ≤ (bN (sB P) : Int) - 1) := ite_no.mp h11
    refine at_iconst 15 X (by decide) dX12_held_14 rfl ?_
    refine at_goto 19 X dX12_held_15 (by decide) ?_
    refine at_iconst 20 X (by decide) dX12_held_19 rfl ?_
    refine at_iconst 21 X (by decide) dX12_held_20 rfl ?_
    refine at_callV 24 X _ 12 (ct_bad1 hG E0 1 1 (by decide) hO_E0.2.2.1 (by decide)) clX12 rfl k_125 mo_X12_bad w_1960 vo_X12_bad.1 vo_X12_bad.2 rfl rfl (crm Rt (by decide)) (Nat.le_of_ble_eq_true rfl) dX12_held_21 rfl ?_
    rintro _ _ ⟨rfl, rfl⟩
    have hb : ¬ (0 ≤ x0 ∧ x0 ≤ (bN (sB P) : Int) - 1) := by omega
    refine at_if_eq 27 29 X dX12_held_24 rfl (by decide) (fun h24 => ?_) (fun h24 => ?_)
    · exact absurd h24 (by decide)
    · refine at_iconst 28 X (by decide) dX12_held_27 rfl ?_
      refine at_iret X Rt ?_ (Nat.le_refl _) (Nat.le_refl _) dX12_held_28
      exact Or.inr (⟨hb, rfl, congrArg ov (badR_of hE0)⟩)
theorem dX12_share_0 : decode cX12_share 0 = .ok (.aload_n 0, 1) := by decide +kernel
theorem dX12_share_1 : decode cX12_share 1 = .ok (.iconst 0, 1) := by decide +kernel
theorem dX12_share_2 : decode cX12_share 2 = .ok (.putfield 152, 3) := by decide +kernel
theorem dX12_share_5 : decode cX12_share 5 = .ok (.aload_n 0, 1) := by decide +kernel
theorem dX12_share_6 : decode cX12_share 6 = .ok (.aload_n 0, 1) := by decide +kernel
theorem dX12_share_7 : decode cX12_share 7 = .ok (.iload_n 1, 1) := by decide +kernel
theorem dX12_share_8 : decode cX12_share 8 = .ok (.invokevirtual 321, 3) := by decide +kernel
theorem dX12_share_11 : decode cX12_share 11 = .ok (.ifCond .ne 7, 3) := by decide +kernel
theorem dX12_share_14 : decode cX12_share 14 = .ok (.iconst 1, 1) := by decide +kernel
theorem dX12_share_15 : decode cX12_share 15 = .ok (.goto 4, 3) := by decide +kernel
theorem dX12_share_18 : decode cX12_share 18 = .ok (.iconst 0, 1) := by decide +kernel
theorem dX12_share_19 : decode cX12_share 19 = .ok (.iconst 1, 1) := by decide +kernel
theorem dX12_share_20 : decode cX12_share 20 = .ok (.iconst 1, 1) := by decide +kernel
theorem dX12_share_21 : decode cX12_share 21 = .ok (.invokevirtual 244, 3) := by decide +kernel
theorem dX12_share_24 : decode cX12_share 24 = .ok (.ifCond .eq 5, 3) := by decide +kernel
theorem dX12_share_27 : decode cX12_share 27 = .ok (.iconst 0, 1) := by decide +kernel
theorem dX12_share_28 : decode cX12_share 28 = .ok (.ireturn, 1) := by decide +kernel
theorem dX12_share_29 : decode cX12_share 29 = .ok (.aload_n 0, 1) := by decide +kernel
theorem dX12_share_30 : decode cX12_share 30 = .ok (.invokevirtual 378, 3) := by decide +kernel
theorem dX12_share_33 : decode cX12_share 33 = .ok (.iconst 0, 1) := by decide +kernel
theorem dX12_share_34 : decode cX12_share 34 = .ok (.istore_n 2, 1) := by decide +kernel
theorem dX12_share_35 : decode cX12_share 35 = .ok (.iconst 0, 1) := by decide +kernel
theorem dX12_share_36 : decode cX12_share 36 = .ok (.istore_n 3, 1) := by decide +kernel
theorem dX12_share_37 : decode cX12_share 37 = .ok (.iload_n 3, 1) := by decide +kernel
theorem dX12_share_38 : decode cX12_share 38 = .ok (.bipush 24, 2) := by decide +kernel
theorem dX12_share_40 : decode cX12_share 40 = .ok (.if_icmp .ge 52, 3) := by decide +kernel
theorem dX12_share_43 : decode cX12_share 43 = .ok (.iconst 0, 1) := by decide +kernel
theorem dX12_share_44 : decode cX12_share 44 = .ok (.istore 4, 2) := by decide +kernel
theorem dX12_share_46 : decode cX12_share 46 = .ok (.iload 4, 2) := by decide +kernel
theorem dX12_share_48 : decode cX12_share 48 = .ok (.aload_n 0, 1) := by decide +kernel
theorem dX12_share_49 : decode cX12_share 49 = .ok (.getfield 23, 3) := by decide +kernel
theorem dX12_share_52 : decode cX12_share 52 = .ok (.iconst 0, 1) := by decide +kernel
theorem dX12_share_53 : decode cX12_share 53 = .ok (.iaload, 1) := by decide +kernel
theorem dX12_share_54 : decode cX12_share 54 = .ok (.if_icmp .ge 32, 3) := by decide +kernel
theorem dX12_share_57 : decode cX12_share 57 = .ok (.iload_n 2, 1) := by decide +kernel
theorem dX12_share_58 : decode cX12_share 58 = .ok (.aload_n 0, 1) := by decide +kernel
theorem dX12_share_59 : decode cX12_share 59 = .ok (.getfield 113, 3) := by decide +kernel
theorem dX12_share_62 : decode cX12_share 62 = .ok (.iload_n 3, 1) := by decide +kernel
theorem dX12_share_63 : decode cX12_share 63 = .ok (.aaload, 1) := by decide +kernel
theorem dX12_share_64 : decode cX12_share 64 = .ok (.iload 4, 2) := by decide +kernel
theorem dX12_share_66 : decode cX12_share 66 = .ok (.iaload, 1) := by decide +kernel
theorem dX12_share_67 : decode cX12_share 67 = .ok (.iconst 1, 1) := by decide +kernel
theorem dX12_share_68 : decode cX12_share 68 = .ok (.iload_n 1, 1) := by decide +kernel
theorem dX12_share_69 : decode cX12_share 69 = .ok (.ishl, 1) := by decide +kernel
theorem dX12_share_70 : decode cX12_share 70 = .ok (.if_icmp .ne 7, 3) := by decide +kernel
theorem dX12_share_73 : decode cX12_share 73 = .ok (.iconst 1, 1) := by decide +kernel
theorem dX12_share_74 : decode cX12_share 74 = .ok (.goto 4, 3) := by decide +kernel
theorem dX12_share_77 : decode cX12_share 77 = .ok (.iconst 0, 1) := by decide +kernel
theorem dX12_share_78 : decode cX12_share 78 = .ok (.iadd, 1) := by decide +kernel
theorem dX12_share_79 : decode cX12_share 79 = .ok (.istore_n 2, 1) := by decide +kernel
theorem dX12_share_80 : decode cX12_share 80 = .ok (.iinc 4 1, 3) := by decide +kernel
theorem dX12_share_83 : decode cX12_share 83 = .ok (.goto (-37), 3) := by decide +kernel
theorem dX12_share_86 : decode cX12_share 86 = .ok (.iinc 3 1, 3) := by decide +kernel
theorem dX12_share_89 : decode cX12_share 89 = .ok (.goto (-52), 3) := by decide +kernel
theorem dX12_share_92 : decode cX12_share 92 = .ok (.iload_n 2, 1) := by decide +kernel
theorem dX12_share_93 : decode cX12_share 93 = .ok (.ireturn, 1) := by decide +kernel
theorem ct_X12_share {g : Gw} (hG : GF g) {z : Bool} (E : Mm) (Q : RX) (P : SP) (L : LW) (T K : LN) (d st : Nat) (hWf : WF P L T K d st) (hI_E : RXI E Q P L T K d st) (x0 : Int) : CT g yX12_share cX12_share 5 (some .int) 7 156 0 0 K2 z [mR 125, mI x0] (ov E) K2 z (fun r' D' => ((0 ≤ x0 ∧ x0 ≤ (sN P : Int) - 1) ∧ r' = some (mI (shrP (gDay P L d) x0.toNat 24 : Nat)) ∧ ∃ E1, D' = ov E1 ∧ RXO E E1 Q P L T K d st) ∨ (¬ (0 ≤ x0 ∧ x0 ≤ (sN P : Int) - 1) ∧ r' = some (mI 0) ∧ D' = ov (badR E 1 1))) := by
  refine CT.mk hG (by decide +kernel) (Nat.le_of_ble_eq_true rfl) (fun κ X Rt _ ok => ?_)
  have hP := hWf.1
  have hN8 := hP.B.N
  have hW40 := hP.W
  have hN11 := hP.N
  have hwN : gN (gDay P L d) ≤ 11 := Nat.le_trans hP.N (by decide)
  have hgw : gW (gDay P L d) = sW P := rfl
  have hDI24 := dyP_DI (G := (gDay P L d)) hP.B hWf.2.2.2.1 (Nat.le_refl 24)
  refine at_aload_n 1 X rfl rfl dX12_share_0 rfl ?_
  refine at_iconst 2 X (by decide) dX12_share_1 rfl ?_
  refine m_putI 5 X f_X12_152 fw_12_0 k_125 rn_125_0 dX12_share_2 rfl ?_
  have hO_E0 := RXO.z hWf hI_E
  generalize hE0 : wr E 125 0 0 = E0 at hO_E0 ⊢
  have hR_E0 := hO_E0.1.1
  refine at_aload_n 6 X rfl rfl dX12_share_5 rfl ?_
  refine at_aload_n 7 X rfl rfl dX12_share_6 rfl ?_
  refine at_iload_n 8 X rfl rfl dX12_share_7 rfl ?_
  refine at_callV 11 X _ 12 (ct_X12_isPost hG E0 P Q hP hR_E0 x0) clX12 rfl k_125 mo_X12_isPost w_2114 vo_X12_isPost.1 vo_X12_isPost.2 rfl rfl (crm Rt (by decide)) (Nat.le_of_ble_eq_true rfl) dX12_share_8 rfl ?_
  rintro _ _ ⟨rfl, rfl⟩
  refine at_if_ne 14 18 X dX12_share_11 rfl (by decide) (fun h11 => ?_) (fun h11 => ?_)
  · have h11 : (0 ≤ x0 ∧ x0 ≤ (sN P : Int) - 1) := ite_yes.mp h11
    refine at_iconst 19 X (by decide) dX12_share_18 rfl ?_
    refine at_iconst 20 X (by decide) dX12_share_19 rfl ?_
    refine at_iconst 21 X (by decide) dX12_share_20 rfl ?_
    refine at_callV 24 X _ 12 (ct_bad0 hG E0 1 1 (by decide) hO_E0.2.2.1) clX12 rfl k_125 mo_X12_bad w_1960 vo_X12_bad.1 vo_X12_bad.2 rfl rfl (crm Rt (by decide)) (Nat.le_of_ble_eq_true rfl) dX12_share_21 rfl ?_
    rintro _ _ ⟨rfl, rfl⟩
    have hc0 : 0 ≤ x0 ∧ x0 ≤ (sN P : Int) - 1 := by omega
    refine at_if_eq 27 29 X dX12_share_24 rfl (by decide) (fun h24 => ?_) (fun h24 => ?_)
    · obtain ⟨p, rfl⟩ : ∃ p : Nat, x0 = (p : Int) := ⟨x0.toNat, by omega⟩
      refine at_aload_n 30 X rfl rfl dX12_share_29 rfl ?_
      refine at_callV 33 X _ 12 (ct_X12_laysNow hG E0 Q P L T K d st hWf hO_E0.1) clX12 rfl k_125 mo_X12_laysNow w_2158 vo_X12_laysNow.1 vo_X12_laysNow.2 rfl rfl (crm Rt (by decide)) (Nat.le_of_ble_eq_true rfl) dX12_share_30 rfl ?_
      rintro _ _ ⟨rfl, F1, rfl, hI_F1, hY_F1, hs_F1, hz_F1, hv_F1, h0_F1, h7_F1⟩
      have hO_F1 := hO_E0.nx hI_F1 hY_F1 h0_F1 h7_F1
      have hR_F1 := hI_F1.1
      refine at_iconst 34 X (by decide) dX12_share_33 rfl ?_
      refine at_istore_n 35 X rfl dX12_share_34 rfl (by decide) ?_
      refine at_iconst 36 X (by decide) dX12_share_35 rfl ?_
      refine at_istore_n 37 X rfl dX12_share_36 rfl (by decide) ?_
      have J37 : ∀ (f37 : Nat) (h : Nat) (v : Nat), 24 - h < f37 → (h ≤ 24) → (v = shrP (gDay P L d) p h) → AT g κ K2 z 0 0 37 [(0, mR 125), (1, mI ((p : Nat) : Int)), (2, mI ((v : Nat) : Int)), (3, mI ((h : Nat) : Int))] [] (ov F1) := by
        intro f37
        induction f37 with
        | zero => intro h v hf37; omega
        | succ f37 ih37 =>
        intro h v hf37 hh hv
        refine at_iload_n 38 X rfl rfl dX12_share_37 rfl ?_
        have hvl := shrP_le (gDay P L d) hP.W.2 p h
        refine at_bipush 40 X (by decide) (by decide) dX12_share_38 rfl ?_
        refine at_icmp_ge 43 92 X dX12_share_40 rfl (by decide) (fun h40 => ?_) (fun h40 => ?_)
        · refine at_iload_n 93 X rfl rfl dX12_share_92 rfl ?_
          refine at_iret X Rt ?_ (Nat.le_refl _) (Nat.le_refl _) dX12_share_93
          exact Or.inl ⟨hc0, (by (try simp only [Int.toNat_natCast]); rw [hv, show h = 24 by omega]), _, rfl, hO_F1⟩
        · refine at_iconst 44 X (by decide) dX12_share_43 rfl ?_
          refine at_istore 46 X dX12_share_44 rfl (by decide) ?_
          have J46 : ∀ (f46 : Nat) (c : Nat) (u : Nat), 40 - c < f46 → (c ≤ sW P) → (u = v + shrC (gDay P L d) p h c) → AT g κ K2 z 0 0 46 [(0, mR 125), (1, mI ((p : Nat) : Int)), (2, mI ((u : Nat) : Int)), (3, mI ((h : Nat) : Int)), (4, mI ((c : Nat) : Int))] [] (ov F1) := by
            intro f46
            induction f46 with
            | zero => intro c u hf46; omega
            | succ f46 ih46 =>
            intro c u hf46 hc hu
            refine at_iload 48 X rfl dX12_share_46 rfl ?_
            have hul : shrC (gDay P L d) p h c ≤ c := cntp_le _ _
            refine at_aload_n 49 X rfl rfl dX12_share_48 rfl ?_
            refine m_getR 52 X f_X12_23 k_125 r_125_12 dX12_share_49 rfl ?_
            refine at_iconst 53 X (by decide) dX12_share_52 rfl ?_
            refine m_ialoadV 54 X 0 (by omega) ((sW P : Nat) : Int) hR_F1.1.1 k_129 e_129 (by omega) dX12_share_53 rfl ?_
            have := hP.W
            refine at_icmp_ge 57 86 X dX12_share_54 rfl (by decide) (fun h54 => ?_) (fun h54 => ?_)
            · refine at_iincV 89 X ((h + 1 : Nat) : Int) (w32_v (by omega) (by omega) (by omega)) rfl dX12_share_86 rfl (by decide) ?_
              refine at_goto 37 X dX12_share_89 (by decide) ?_
              exact at_sub _ (by exact ⟨rfl, rfl, rfl, rfl, trivial⟩) (ih37 (h + 1) u (by first | omega | (simp only [] at *; omega)) (by first | omega | assumption) (by show _ = shrP (gDay P L d) p h + shrC (gDay P L d) p h (gW (gDay P L d)); rw [hu, hv, show gW (gDay P L d) = c by omega]))
            · refine at_iload_n 58 X rfl rfl dX12_share_57 rfl ?_
              refine at_aload_n 59 X rfl rfl dX12_share_58 rfl ?_
              refine m_getR 62 X f_X12_113 k_125 r_125_50 dX12_share_59 rfl ?_
              refine at_iload_n 63 X rfl rfl dX12_share_62 rfl ?_
              refine m_aaloadV 64 X h (by omega) k_682 (by decide) (by omega) (rr_682 _ (by omega)) dX12_share_63 rfl ?_
              refine at_iload 66 X rfl dX12_share_64 rfl ?_
              refine m_ialoadV 67 X c (by omega) ((shd (gDay P L d) (gLm (gDay P L d) c) h c : Nat) : Int) (hs_F1 h c (by omega) (by omega)).1 (kr_682 _ (by omega)) (er_682 _ (by omega)) (by omega) dX12_share_66 rfl ?_
              have := shd_lt (gDay P L d) hwN (gLm (gDay P L d) c) h c
              refine at_iconst 68 X (by decide) dX12_share_67 rfl ?_
              refine at_iload_n 69 X rfl rfl dX12_share_68 rfl ?_
              refine at_ishlV 70 X ((2 ^ p : Nat) : Int) (ishl1 (by omega)) dX12_share_69 rfl ?_
              refine at_icmp_ne 73 77 X dX12_share_70 rfl (by decide) (fun h70 => ?_) (fun h70 => ?_)
              · refine at_iconst 78 X (by decide) dX12_share_77 rfl ?_
                refine at_iaddV 79 X ((u + 0 : Nat) : Int) (w32_v (by omega) (by omega) (by omega)) dX12_share_78 rfl ?_
                refine at_istore_n 80 X rfl dX12_share_79 rfl (by decide) ?_
                refine at_iincV 83 X ((c + 1 : Nat) : Int) (w32_v (by omega) (by omega) (by omega)) rfl dX12_share_80 rfl (by decide) ?_
                refine at_goto 46 X dX12_share_83 (by decide) ?_
                exact at_sub _ (by exact ⟨rfl, rfl, rfl, rfl, rfl, trivial⟩) (ih46 (c + 1) (u + 0) (by first | omega | (simp only [] at *; omega)) (by first | omega | assumption) (by show _ = v + (shrC (gDay P L d) p h c + if decide (shd (gDay P L d) (gLm (gDay P L d) c) h c = 2 ^ p) = true then 1 else 0); first | (rw [if_neg (by rw [decide_eq_true_eq]; omega)]; omega) | (rw [if_pos (decide_eq_true (by omega))]; omega)))
              · refine at_iconst 74 X (by decide) dX12_share_73 rfl ?_
                refine at_goto 78 X dX12_share_74 (by decide) ?_
                refine at_iaddV 79 X ((u + 1 : Nat) : Int) (w32_v (by omega) (by omega) (by omega)) dX12_share_78 rfl ?_
                refine at_istore_n 80 X rfl dX12_share_79 rfl (by decide) ?_
                refine at_iincV 83 X ((c + 1 : Nat) : Int) (w32_v (by omega) (by omega) (by omega)) rfl dX12_share_80 rfl (by decide) ?_
                refine at_goto 46 X dX12_share_83 (by decide) ?_
                exact at_sub _ (by exact ⟨rfl, rfl, rfl, rfl, rfl, trivial⟩) (ih46 (c + 1) (u + 1) (by first | omega | (simp only [] at *; omega)) (by first | omega | assumption) (by show _ = v + (shrC (gDay P L d) p h c + if decide (shd (gDay P L d) (gLm (gDay P L d) c) h c = 2 ^ p) = true then 1 else 0); first | (rw [if_neg (by rw [decide_eq_true_eq]; omega)]; omega) | (rw [if_pos (decide_eq_true (by omega))]; omega)))
          exact at_sub _ (by exact ⟨rfl, rfl, rfl, rfl, rfl, trivial⟩) (J46 _ 0 v (Nat.lt_succ_self _) (by first | omega | assumption | rfl) rfl)
      exact at_sub _ (by exact ⟨rfl, rfl, rfl, rfl, trivial⟩) (J37 _ 0 0 (Nat.lt_succ_self _) (by first | omega | assumption | rfl) rfl)
    · exact absurd h24 (by decide)
  · have h11 : ¬ (0 ≤ x0 ∧ x0 ≤ (sN P : Int) - 1) := ite_no.mp h11
    refine at_iconst 15 X (by decide) dX12_share_14 rfl ?_
    refine at_goto 19 X dX12_share_15 (by decide) ?_
    refine at_iconst 20 X (by decide) dX12_share_19 rfl ?_
    refine at_iconst 21 X (by decide) dX12_share_20 rfl ?_
    refine at_callV 24 X _ 12 (ct_bad1 hG E0 1 1 (by decide) hO_E0.2.2.1 (by decide)) clX12 rfl k_125 mo_X12_bad w_1960 vo_X12_bad.1 vo_X12_bad.2 rfl rfl (crm Rt (by decide)) (Nat.le_of_ble_eq_true rfl) dX12_share_21 rfl ?_
    rintro _ _ ⟨rfl, rfl⟩
    have hb : ¬ (0 ≤ x0 ∧ x0 ≤ (sN P : Int) - 1) := by omega
    refine at_if_eq 27 29 X dX12_share_24 rfl (by decide) (fun h24 => ?_) (fun h24 => ?_)
    · exact absurd h24 (by decide)
    · refine at_iconst 28 X (by decide) dX12_share_27 rfl ?_
      refine at_iret X Rt ?_ (Nat.le_refl _) (Nat.le_refl _) dX12_share_28
      exact Or.inr (⟨hb, rfl, congrArg ov (badR_of hE0)⟩)
theorem dX12_summed_0 : decode cX12_summed 0 = .ok (.aload_n 0, 1) := by decide +kernel
theorem dX12_summed_1 : decode cX12_summed 1 = .ok (.iconst 0, 1) := by decide +kernel
theorem dX12_summed_2 : decode cX12_summed 2 = .ok (.putfield 152, 3) := by decide +kernel
theorem dX12_summed_5 : decode cX12_summed 5 = .ok (.aload_n 0, 1) := by decide +kernel
theorem dX12_summed_6 : decode cX12_summed 6 = .ok (.iload_n 1, 1) := by decide +kernel
theorem dX12_summed_7 : decode cX12_summed 7 = .ok (.invokestatic 314, 3) := by decide +kernel
theorem dX12_summed_10 : decode cX12_summed 10 = .ok (.ifCond .eq 12, 3) := by decide +kernel
theorem dX12_summed_13 : decode cX12_summed 13 = .ok (.iload_n 2, 1) := by decide +kernel
theorem dX12_summed_14 : decode cX12_summed 14 = .ok (.iconst 0, 1) := by decide +kernel
theorem dX12_summed_15 : decode cX12_summed 15 = .ok (.iconst 1, 1) := by decide +kernel
theorem dX12_summed_16 : decode cX12_summed 16 = .ok (.invokestatic 186, 3) := by decide +kernel
theorem dX12_summed_19 : decode cX12_summed 19 = .ok (.ifCond .ne 7, 3) := by decide +kernel
theorem dX12_summed_22 : decode cX12_summed 22 = .ok (.iconst 1, 1) := by decide +kernel
theorem dX12_summed_23 : decode cX12_summed 23 = .ok (.goto 4, 3) := by decide +kernel
theorem dX12_summed_26 : decode cX12_summed 26 = .ok (.iconst 0, 1) := by decide +kernel
theorem dX12_summed_27 : decode cX12_summed 27 = .ok (.iconst 1, 1) := by decide +kernel
theorem dX12_summed_28 : decode cX12_summed 28 = .ok (.iconst 2, 1) := by decide +kernel
theorem dX12_summed_29 : decode cX12_summed 29 = .ok (.invokevirtual 244, 3) := by decide +kernel
theorem dX12_summed_32 : decode cX12_summed 32 = .ok (.ifCond .eq 5, 3) := by decide +kernel
theorem dX12_summed_35 : decode cX12_summed 35 = .ok (.iconst 0, 1) := by decide +kernel
theorem dX12_summed_36 : decode cX12_summed 36 = .ok (.ireturn, 1) := by decide +kernel
theorem dX12_summed_37 : decode cX12_summed 37 = .ok (.aload_n 0, 1) := by decide +kernel
theorem dX12_summed_38 : decode cX12_summed 38 = .ok (.invokevirtual 378, 3) := by decide +kernel
theorem dX12_summed_41 : decode cX12_summed 41 = .ok (.iconst 0, 1) := by decide +kernel
theorem dX12_summed_42 : decode cX12_summed 42 = .ok (.istore_n 3, 1) := by decide +kernel
theorem dX12_summed_43 : decode cX12_summed 43 = .ok (.iconst 0, 1) := by decide +kernel
theorem dX12_summed_44 : decode cX12_summed 44 = .ok (.istore 4, 2) := by decide +kernel
theorem dX12_summed_46 : decode cX12_summed 46 = .ok (.iconst 0, 1) := by decide +kernel
theorem dX12_summed_47 : decode cX12_summed 47 = .ok (.istore 5, 2) := by decide +kernel
theorem dX12_summed_49 : decode cX12_summed 49 = .ok (.iload 5, 2) := by decide +kernel
theorem dX12_summed_51 : decode cX12_summed 51 = .ok (.aload_n 0, 1) := by decide +kernel
theorem dX12_summed_52 : decode cX12_summed 52 = .ok (.getfield 23, 3) := by decide +kernel
theorem dX12_summed_55 : decode cX12_summed 55 = .ok (.iconst 0, 1) := by decide +kernel
theorem dX12_summed_56 : decode cX12_summed 56 = .ok (.iaload, 1) := by decide +kernel
theorem dX12_summed_57 : decode cX12_summed 57 = .ok (.if_icmp .ge 47, 3) := by decide +kernel
theorem dX12_summed_60 : decode cX12_summed 60 = .ok (.iload_n 3, 1) := by decide +kernel
theorem dX12_summed_61 : decode cX12_summed 61 = .ok (.aload_n 0, 1) := by decide +kernel
theorem dX12_summed_62 : decode cX12_summed 62 = .ok (.getfield 116, 3) := by decide +kernel
theorem dX12_summed_65 : decode cX12_summed 65 = .ok (.iload_n 1, 1) := by decide +kernel
theorem dX12_summed_66 : decode cX12_summed 66 = .ok (.aaload, 1) := by decide +kernel
theorem dX12_summed_67 : decode cX12_summed 67 = .ok (.iload 5, 2) := by decide +kernel
theorem dX12_summed_69 : decode cX12_summed 69 = .ok (.iaload, 1) := by decide +kernel
theorem dX12_summed_70 : decode cX12_summed 70 = .ok (.iadd, 1) := by decide +kernel
theorem dX12_summed_71 : decode cX12_summed 71 = .ok (.istore_n 3, 1) := by decide +kernel
theorem dX12_summed_72 : decode cX12_summed 72 = .ok (.iload 4, 2) := by decide +kernel
theorem dX12_summed_74 : decode cX12_summed 74 = .ok (.aload_n 0, 1) := by decide +kernel
theorem dX12_summed_75 : decode cX12_summed 75 = .ok (.getfield 113, 3) := by decide +kernel
theorem dX12_summed_78 : decode cX12_summed 78 = .ok (.iload_n 1, 1) := by decide +kernel
theorem dX12_summed_79 : decode cX12_summed 79 = .ok (.aaload, 1) := by decide +kernel
theorem dX12_summed_80 : decode cX12_summed 80 = .ok (.iload 5, 2) := by decide +kernel
theorem dX12_summed_82 : decode cX12_summed 82 = .ok (.iaload, 1) := by decide +kernel
theorem dX12_summed_83 : decode cX12_summed 83 = .ok (.invokestatic 360, 3) := by decide +kernel
theorem dX12_summed_86 : decode cX12_summed 86 = .ok (.iconst 1, 1) := by decide +kernel
theorem dX12_summed_87 : decode cX12_summed 87 = .ok (.if_icmp .le 7, 3) := by decide +kernel
theorem dX12_summed_90 : decode cX12_summed 90 = .ok (.iconst 1, 1) := by decide +kernel
theorem dX12_summed_91 : decode cX12_summed 91 = .ok (.goto 4, 3) := by decide +kernel
theorem dX12_summed_94 : decode cX12_summed 94 = .ok (.iconst 0, 1) := by decide +kernel
theorem dX12_summed_95 : decode cX12_summed 95 = .ok (.iadd, 1) := by decide +kernel
theorem dX12_summed_96 : decode cX12_summed 96 = .ok (.istore 4, 2) := by decide +kernel
theorem dX12_summed_98 : decode cX12_summed 98 = .ok (.iinc 5 1, 3) := by decide +kernel
theorem dX12_summed_101 : decode cX12_summed 101 = .ok (.goto (-52), 3) := by decide +kernel
theorem dX12_summed_104 : decode cX12_summed 104 = .ok (.iload_n 2, 1) := by decide +kernel
theorem dX12_summed_105 : decode cX12_summed 105 = .ok (.ifCond .ne 7, 3) := by decide +kernel
theorem dX12_summed_108 : decode cX12_summed 108 = .ok (.iload_n 3, 1) := by decide +kernel
theorem dX12_summed_109 : decode cX12_summed 109 = .ok (.goto 5, 3) := by decide +kernel
theorem dX12_summed_112 : decode cX12_summed 112 = .ok (.iload 4, 2) := by decide +kernel
theorem dX12_summed_114 : decode cX12_summed 114 = .ok (.ireturn, 1) := by decide +kernel
theorem ct_X12_summed {g : Gw} (hG : GF g) {z : Bool} (E : Mm) (Q : RX) (P : SP) (L : LW) (T K : LN) (d st : Nat) (hWf : WF P L T K d st) (hI_E : RXI E Q P L T K d st) (x0 x1 : Int) : CT g yX12_summed cX12_summed 6 (some .int) 7 156 0 0 K2 z [mR 125, mI x0, mI x1] (ov E) K2 z (fun r' D' => (((0 ≤ x0 ∧ x0 ≤ 23) ∧ (0 ≤ x1 ∧ x1 ≤ 1)) ∧ r' = some (mI (if x1 = 0 then sumP (gDay P L d) x0.toNat (sW P) else (crsP (gDay P L d) x0.toNat (sW P) : Nat))) ∧ ∃ E1, D' = ov E1 ∧ RXO E E1 Q P L T K d st) ∨ (¬ ((0 ≤ x0 ∧ x0 ≤ 23) ∧ (0 ≤ x1 ∧ x1 ≤ 1)) ∧ r' = some (mI 0) ∧ D' = ov (badR E 1 2))) := by
  refine CT.mk hG (by decide +kernel) (Nat.le_of_ble_eq_true rfl) (fun κ X Rt _ ok => ?_)
  have hP := hWf.1
  have hN8 := hP.B.N
  have hW40 := hP.W
  have hN11 := hP.N
  have hwN : gN (gDay P L d) ≤ 11 := Nat.le_trans hP.N (by decide)
  have hgw : gW (gDay P L d) = sW P := rfl
  have hDI24 := dyP_DI (G := (gDay P L d)) hP.B hWf.2.2.2.1 (Nat.le_refl 24)
  refine at_aload_n 1 X rfl rfl dX12_summed_0 rfl ?_
  refine at_iconst 2 X (by decide) dX12_summed_1 rfl ?_
  refine m_putI 5 X f_X12_152 fw_12_0 k_125 rn_125_0 dX12_summed_2 rfl ?_
  have hO_E0 := RXO.z hWf hI_E
  generalize hE0 : wr E 125 0 0 = E0 at hO_E0 ⊢
  have hR_E0 := hO_E0.1.1
  refine at_aload_n 6 X rfl rfl dX12_summed_5 rfl ?_
  refine at_iload_n 7 X rfl rfl dX12_summed_6 rfl ?_
  refine at_callS 10 X (ct_X12_isHour hG E0 x0) mo_X12_isHour w_2074 so_X12_isHour rfl rfl (crm Rt (by decide)) (Nat.le_of_ble_eq_true rfl) dX12_summed_7 rfl ?_
  rintro _ _ ⟨rfl, rfl⟩
  refine at_if_eq 13 22 X dX12_summed_10 rfl (by decide) (fun h10 => ?_) (fun h10 => ?_)
  · have h10 : ¬ (0 ≤ x0 ∧ x0 ≤ 23) := ite_no.mp h10
    refine at_iconst 23 X (by decide) dX12_summed_22 rfl ?_
    refine at_goto 27 X dX12_summed_23 (by decide) ?_
    refine at_iconst 28 X (by decide) dX12_summed_27 rfl ?_
    refine at_iconst 29 X (by decide) dX12_summed_28 rfl ?_
    refine at_callV 32 X _ 12 (ct_bad1 hG E0 1 2 (by decide) hO_E0.2.2.1 (by decide)) clX12 rfl k_125 mo_X12_bad w_1960 vo_X12_bad.1 vo_X12_bad.2 rfl rfl (crm Rt (by decide)) (Nat.le_of_ble_eq_true rfl) dX12_summed_29 rfl ?_
    rintro _ _ ⟨rfl, rfl⟩
    have hb : ¬ ((0 ≤ x0 ∧ x0 ≤ 23) ∧ (0 ≤ x1 ∧ x1 ≤ 1)) := by omega
    refine at_if_eq 35 37 X dX12_summed_32 rfl (by decide) (fun h32 => ?_) (fun h32 => ?_)
    · exact absurd h32 (by decide)
    · refine at_iconst 36 X (by decide) dX12_summed_35 rfl ?_
      refine at_iret X Rt ?_ (Nat.le_refl _) (Nat.le_refl _) dX12_summed_36
      exact Or.inr (⟨hb, rfl, congrArg ov (badR_of hE0)⟩)
  · have h10 : (0 ≤ x0 ∧ x0 ≤ 23) := ite_yes.mp h10
    refine at_iload_n 14 X rfl rfl dX12_summed_13 rfl ?_
    refine at_iconst 15 X (by decide) dX12_summed_14 rfl ?_
    refine at_iconst 16 X (by decide) dX12_summed_15 rfl ?_
    refine at_callS 19 X (ct_X12_in hG _ _ _) mo_X12_in w_1957 so_X12_in rfl rfl (crm Rt (by decide)) (Nat.le_of_ble_eq_true rfl) dX12_summed_16 rfl ?_
    rintro _ _ ⟨rfl, rfl⟩
    refine at_if_ne 22 26 X dX12_summed_19 rfl (by decide) (fun h19 => ?_) (fun h19 => ?_)
    · have h19 : (0 ≤ x1 ∧ x1 ≤ 1) := ite_yes.mp h19
      refine at_iconst 27 X (by decide) dX12_summed_26 rfl ?_
      refine at_iconst 28 X (by decide) dX12_summed_27 rfl ?_
      refine at_iconst 29 X (by decide) dX12_summed_28 rfl ?_
      refine at_callV 32 X _ 12 (ct_bad0 hG E0 1 2 (by decide) hO_E0.2.2.1) clX12 rfl k_125 mo_X12_bad w_1960 vo_X12_bad.1 vo_X12_bad.2 rfl rfl (crm Rt (by decide)) (Nat.le_of_ble_eq_true rfl) dX12_summed_29 rfl ?_
      rintro _ _ ⟨rfl, rfl⟩
      have hc0 : (0 ≤ x0 ∧ x0 ≤ 23) ∧ (0 ≤ x1 ∧ x1 ≤ 1) := by omega
      refine at_if_eq 35 37 X dX12_summed_32 rfl (by decide) (fun h32 => ?_) (fun h32 => ?_)
      · obtain ⟨h, rfl⟩ : ∃ h : Nat, x0 = (h : Int) := ⟨x0.toNat, by omega⟩
        refine at_aload_n 38 X rfl rfl dX12_summed_37 rfl ?_
        refine at_callV 41 X _ 12 (ct_X12_laysNow hG E0 Q P L T K d st hWf hO_E0.1) clX12 rfl k_125 mo_X12_laysNow w_2158 vo_X12_laysNow.1 vo_X12_laysNow.2 rfl rfl (crm Rt (by decide)) (Nat.le_of_ble_eq_true rfl) dX12_summed_38 rfl ?_
        rintro _ _ ⟨rfl, F1, rfl, hI_F1, hY_F1, hs_F1, hz_F1, hv_F1, h0_F1, h7_F1⟩
        have hO_F1 := hO_E0.nx hI_F1 hY_F1 h0_F1 h7_F1
        have hR_F1 := hI_F1.1
        refine at_iconst 42 X (by decide) dX12_summed_41 rfl ?_
        refine at_istore_n 43 X rfl dX12_summed_42 rfl (by decide) ?_
        refine at_iconst 44 X (by decide) dX12_summed_43 rfl ?_
        refine at_istore 46 X dX12_summed_44 rfl (by decide) ?_
        refine at_iconst 47 X (by decide) dX12_summed_46 rfl ?_
        refine at_istore 49 X dX12_summed_47 rfl (by decide) ?_
        have J49 : ∀ (f49 : Nat) (c : Nat) (v : Int) (k : Nat), 40 - c < f49 → (c ≤ sW P) → (v = sumP (gDay P L d) h c) → (0 ≤ v ∧ v ≤ c * 999) → (k = crsP (gDay P L d) h c) → AT g κ K2 z 0 0 49 [(0, mR 125), (1, mI ((h : Nat) : Int)), (2, mI x1), (3, mI v), (4, mI ((k : Nat) : Int)), (5, mI ((c : Nat) : Int))] [] (ov F1) := by
          intro f49
          induction f49 with
          | zero => intro c v k hf49; omega
          | succ f49 ih49 =>
          intro c v k hf49 hc hv hvl hk
          refine at_iload 51 X rfl dX12_summed_49 rfl ?_
          have hkl : crsP (gDay P L d) h c ≤ c := cntp_le _ _
          refine at_aload_n 52 X rfl rfl dX12_summed_51 rfl ?_
          refine m_getR 55 X f_X12_23 k_125 r_125_12 dX12_summed_52 rfl ?_
          refine at_iconst 56 X (by decide) dX12_summed_55 rfl ?_
          refine m_ialoadV 57 X 0 (by omega) ((sW P : Nat) : Int) hR_F1.1.1 k_129 e_129 (by omega) dX12_summed_56 rfl ?_
          have := hP.W
          refine at_icmp_ge 60 104 X dX12_summed_57 rfl (by decide) (fun h57 => ?_) (fun h57 => ?_)
          · refine at_iload_n 105 X rfl rfl dX12_summed_104 rfl ?_
            refine at_if_ne 108 112 X dX12_summed_105 rfl (by decide) (fun h105 => ?_) (fun h105 => ?_)
            · refine at_iload 114 X rfl dX12_summed_112 rfl ?_
              refine at_iret X Rt ?_ (Nat.le_refl _) (Nat.le_refl _) dX12_summed_114
              exact Or.inl ⟨hc0, (by (try simp only [Int.toNat_natCast]); first | (rw [if_pos (show x1 = 0 by omega), hv, show c = sW P by omega]; done) | (rw [if_neg (show ¬ x1 = 0 by omega), hk, show c = sW P by omega]; done)), _, rfl, hO_F1⟩
            · refine at_iload_n 109 X rfl rfl dX12_summed_108 rfl ?_
              refine at_goto 114 X dX12_summed_109 (by decide) ?_
              refine at_iret X Rt ?_ (Nat.le_refl _) (Nat.le_refl _) dX12_summed_114
              exact Or.inl ⟨hc0, (by (try simp only [Int.toNat_natCast]); first | (rw [if_pos (show x1 = 0 by omega), hv, show c = sW P by omega]; done) | (rw [if_neg (show ¬ x1 = 0 by omega), hk, show c = sW P by omega]; done)), _, rfl, hO_F1⟩
          · refine at_iload_n 61 X rfl rfl dX12_summed_60 rfl ?_
            refine at_aload_n 62 X rfl rfl dX12_summed_61 rfl ?_
            refine m_getR 65 X f_X12_116 k_125 r_125_51 dX12_summed_62 rfl ?_
            refine at_iload_n 66 X rfl rfl dX12_summed_65 rfl ?_
            refine m_aaloadV 67 X h (by omega) k_707 (by decide) (by omega) (rr_707 _ (by omega)) dX12_summed_66 rfl ?_
            refine at_iload 69 X rfl dX12_summed_67 rfl ?_
            refine m_ialoadV 70 X c (by omega) (bOn (gDay P L d) h c) (hs_F1 h c (by omega) (by omega)).2 (kr_707 _ (by omega)) (er_707 _ (by omega)) (by omega) dX12_summed_69 rfl ?_
            have := bOn_in (gDay P L d) h c
            refine at_iaddV 71 X (v + (bOn (gDay P L d) h c)) (w32_v rfl (by omega) (by omega)) dX12_summed_70 rfl ?_
            refine at_istore_n 72 X rfl dX12_summed_71 rfl (by decide) ?_
            refine at_iload 74 X rfl dX12_summed_72 rfl ?_
            refine at_aload_n 75 X rfl rfl dX12_summed_74 rfl ?_
            refine m_getR 78 X f_X12_113 k_125 r_125_50 dX12_summed_75 rfl ?_
            refine at_iload_n 79 X rfl rfl dX12_summed_78 rfl ?_
            refine m_aaloadV 80 X h (by omega) k_682 (by decide) (by omega) (rr_682 _ (by omega)) dX12_summed_79 rfl ?_
            refine at_iload 82 X rfl dX12_summed_80 rfl ?_
            refine m_ialoadV 83 X c (by omega) ((shd (gDay P L d) (gLm (gDay P L d) c) h c : Nat) : Int) (hs_F1 h c (by omega) (by omega)).1 (kr_682 _ (by omega)) (er_682 _ (by omega)) (by omega) dX12_summed_82 rfl ?_
            have := shd_lt (gDay P L d) hwN (gLm (gDay P L d) c) h c
            refine at_callS 86 X (ct_X12_ones hG F1 (shd (gDay P L d) (gLm (gDay P L d) c) h c) (by omega)) mo_X12_ones w_2186 so_X12_ones rfl rfl (crm Rt (by decide)) (Nat.le_of_ble_eq_true rfl) dX12_summed_83 rfl ?_
            rintro _ _ ⟨rfl, rfl⟩
            rw [cnt_24 (gDay P L d) hwN (gLm (gDay P L d) c) h c]
            have hk11 := cntp_le (fun p => (shd (gDay P L d) (gLm (gDay P L d) c) h c).testBit p) 11
            refine at_iconst 87 X (by decide) dX12_summed_86 rfl ?_
            refine at_icmp_le 90 94 X dX12_summed_87 rfl (by decide) (fun h87 => ?_) (fun h87 => ?_)
            · refine at_iconst 95 X (by decide) dX12_summed_94 rfl ?_
              refine at_iaddV 96 X ((k + 0 : Nat) : Int) (w32_v (by omega) (by omega) (by omega)) dX12_summed_95 rfl ?_
              refine at_istore 98 X dX12_summed_96 rfl (by decide) ?_
              refine at_iincV 101 X ((c + 1 : Nat) : Int) (w32_v (by omega) (by omega) (by omega)) rfl dX12_summed_98 rfl (by decide) ?_
              refine at_goto 49 X dX12_summed_101 (by decide) ?_
              exact at_sub _ (by exact ⟨rfl, rfl, rfl, rfl, rfl, rfl, trivial⟩) (ih49 (c + 1) (v + (bOn (gDay P L d) h c)) (k + 0) (by first | omega | (simp only [] at *; omega)) (by first | omega | assumption) (by show _ = sumP (gDay P L d) h c + bOn (gDay P L d) h c; rw [hv]) (by first | omega | assumption) (by show _ = crsP (gDay P L d) h c + if decide (2 ≤ cntp (fun p => (shd (gDay P L d) (gLm (gDay P L d) c) h c).testBit p) 11) = true then 1 else 0; first | (rw [if_neg (by rw [decide_eq_true_eq]; omega)]; omega) | (rw [if_pos (decide_eq_true (by omega))]; omega)))
            · refine at_iconst 91 X (by decide) dX12_summed_90 rfl ?_
              refine at_goto 95 X dX12_summed_91 (by decide) ?_
              refine at_iaddV 96 X ((k + 1 : Nat) : Int) (w32_v (by omega) (by omega) (by omega)) dX12_summed_95 rfl ?_
              refine at_istore 98 X dX12_summed_96 rfl (by decide) ?_
              refine at_iincV 101 X ((c + 1 : Nat) : Int) (w32_v (by omega) (by omega) (by omega)) rfl dX12_summed_98 rfl (by decide) ?_
              refine at_goto 49 X dX12_summed_101 (by decide) ?_
              exact at_sub _ (by exact ⟨rfl, rfl, rfl, rfl, rfl, rfl, trivial⟩) (ih49 (c + 1) (v + (bOn (gDay P L d) h c)) (k + 1) (by first | omega | (simp only [] at *; omega)) (by first | omega | assumption) (by show _ = sumP (gDay P L d) h c + bOn (gDay P L d) h c; rw [hv]) (by first | omega | assumption) (by show _ = crsP (gDay P L d) h c + if decide (2 ≤ cntp (fun p => (shd (gDay P L d) (gLm (gDay P L d) c) h c).testBit p) 11) = true then 1 else 0; first | (rw [if_neg (by rw [decide_eq_true_eq]; omega)]; omega) | (rw [if_pos (decide_eq_true (by omega))]; omega)))
        exact at_sub _ (by exact ⟨rfl, rfl, rfl, rfl, rfl, rfl, trivial⟩) (J49 _ 0 0 0 (Nat.lt_succ_self _) (by first | omega | assumption | rfl) rfl (by first | omega | assumption | rfl) rfl)
      · exact absurd h32 (by decide)
    · have h19 : ¬ (0 ≤ x1 ∧ x1 ≤ 1) := ite_no.mp h19
      refine at_iconst 23 X (by decide) dX12_summed_22 rfl ?_
      refine at_goto 27 X dX12_summed_23 (by decide) ?_
      refine at_iconst 28 X (by decide) dX12_summed_27 rfl ?_
      refine at_iconst 29 X (by decide) dX12_summed_28 rfl ?_
      refine at_callV 32 X _ 12 (ct_bad1 hG E0 1 2 (by decide) hO_E0.2.2.1 (by decide)) clX12 rfl k_125 mo_X12_bad w_1960 vo_X12_bad.1 vo_X12_bad.2 rfl rfl (crm Rt (by decide)) (Nat.le_of_ble_eq_true rfl) dX12_summed_29 rfl ?_
      rintro _ _ ⟨rfl, rfl⟩
      have hb : ¬ ((0 ≤ x0 ∧ x0 ≤ 23) ∧ (0 ≤ x1 ∧ x1 ≤ 1)) := by omega
      refine at_if_eq 35 37 X dX12_summed_32 rfl (by decide) (fun h32 => ?_) (fun h32 => ?_)
      · exact absurd h32 (by decide)
      · refine at_iconst 36 X (by decide) dX12_summed_35 rfl ?_
        refine at_iret X Rt ?_ (Nat.le_refl _) (Nat.le_refl _) dX12_summed_36
        exact Or.inr (⟨hb, rfl, congrArg ov (badR_of hE0)⟩)
theorem dX12_row_0 : decode cX12_row 0 = .ok (.aload_n 0, 1) := by decide +kernel
theorem dX12_row_1 : decode cX12_row 1 = .ok (.iconst 0, 1) := by decide +kernel
theorem dX12_row_2 : decode cX12_row 2 = .ok (.putfield 152, 3) := by decide +kernel
theorem dX12_row_5 : decode cX12_row 5 = .ok (.aload_n 0, 1) := by decide +kernel
theorem dX12_row_6 : decode cX12_row 6 = .ok (.iload_n 1, 1) := by decide +kernel
theorem dX12_row_7 : decode cX12_row 7 = .ok (.invokestatic 314, 3) := by decide +kernel
theorem dX12_row_10 : decode cX12_row 10 = .ok (.ifCond .eq 12, 3) := by decide +kernel
theorem dX12_row_13 : decode cX12_row 13 = .ok (.iload_n 2, 1) := by decide +kernel
theorem dX12_row_14 : decode cX12_row 14 = .ok (.iconst 0, 1) := by decide +kernel
theorem dX12_row_15 : decode cX12_row 15 = .ok (.iconst 1, 1) := by decide +kernel
theorem dX12_row_16 : decode cX12_row 16 = .ok (.invokestatic 186, 3) := by decide +kernel
theorem dX12_row_19 : decode cX12_row 19 = .ok (.ifCond .ne 7, 3) := by decide +kernel
theorem dX12_row_22 : decode cX12_row 22 = .ok (.iconst 1, 1) := by decide +kernel
theorem dX12_row_23 : decode cX12_row 23 = .ok (.goto 4, 3) := by decide +kernel
theorem dX12_row_26 : decode cX12_row 26 = .ok (.iconst 0, 1) := by decide +kernel
theorem dX12_row_27 : decode cX12_row 27 = .ok (.iconst 1, 1) := by decide +kernel
theorem dX12_row_28 : decode cX12_row 28 = .ok (.iconst 2, 1) := by decide +kernel
theorem dX12_row_29 : decode cX12_row 29 = .ok (.invokevirtual 244, 3) := by decide +kernel
theorem dX12_row_32 : decode cX12_row 32 = .ok (.ifCond .eq 5, 3) := by decide +kernel
theorem dX12_row_35 : decode cX12_row 35 = .ok (.iconst 0, 1) := by decide +kernel
theorem dX12_row_36 : decode cX12_row 36 = .ok (.ireturn, 1) := by decide +kernel
theorem dX12_row_37 : decode cX12_row 37 = .ok (.aload_n 0, 1) := by decide +kernel
theorem dX12_row_38 : decode cX12_row 38 = .ok (.invokevirtual 378, 3) := by decide +kernel
theorem dX12_row_41 : decode cX12_row 41 = .ok (.iconst 0, 1) := by decide +kernel
theorem dX12_row_42 : decode cX12_row 42 = .ok (.istore_n 3, 1) := by decide +kernel
theorem dX12_row_43 : decode cX12_row 43 = .ok (.iconst 0, 1) := by decide +kernel
theorem dX12_row_44 : decode cX12_row 44 = .ok (.istore 4, 2) := by decide +kernel
theorem dX12_row_46 : decode cX12_row 46 = .ok (.iconst (-1), 1) := by decide +kernel
theorem dX12_row_47 : decode cX12_row 47 = .ok (.istore 5, 2) := by decide +kernel
theorem dX12_row_49 : decode cX12_row 49 = .ok (.iconst 0, 1) := by decide +kernel
theorem dX12_row_50 : decode cX12_row 50 = .ok (.istore 6, 2) := by decide +kernel
theorem dX12_row_52 : decode cX12_row 52 = .ok (.iload 6, 2) := by decide +kernel
theorem dX12_row_54 : decode cX12_row 54 = .ok (.aload_n 0, 1) := by decide +kernel
theorem dX12_row_55 : decode cX12_row 55 = .ok (.getfield 23, 3) := by decide +kernel
theorem dX12_row_58 : decode cX12_row 58 = .ok (.iconst 0, 1) := by decide +kernel
theorem dX12_row_59 : decode cX12_row 59 = .ok (.iaload, 1) := by decide +kernel
theorem dX12_row_60 : decode cX12_row 60 = .ok (.if_icmp .ge 49, 3) := by decide +kernel
theorem dX12_row_63 : decode cX12_row 63 = .ok (.aload_n 0, 1) := by decide +kernel
theorem dX12_row_64 : decode cX12_row 64 = .ok (.getfield 116, 3) := by decide +kernel
theorem dX12_row_67 : decode cX12_row 67 = .ok (.iload_n 1, 1) := by decide +kernel
theorem dX12_row_68 : decode cX12_row 68 = .ok (.aaload, 1) := by decide +kernel
theorem dX12_row_69 : decode cX12_row 69 = .ok (.iload 6, 2) := by decide +kernel
theorem dX12_row_71 : decode cX12_row 71 = .ok (.iaload, 1) := by decide +kernel
theorem dX12_row_72 : decode cX12_row 72 = .ok (.ifCond .le 9, 3) := by decide +kernel
theorem dX12_row_75 : decode cX12_row 75 = .ok (.iload_n 3, 1) := by decide +kernel
theorem dX12_row_76 : decode cX12_row 76 = .ok (.iconst 1, 1) := by decide +kernel
theorem dX12_row_77 : decode cX12_row 77 = .ok (.iadd, 1) := by decide +kernel
theorem dX12_row_78 : decode cX12_row 78 = .ok (.goto 4, 3) := by decide +kernel
theorem dX12_row_81 : decode cX12_row 81 = .ok (.iconst 0, 1) := by decide +kernel
theorem dX12_row_82 : decode cX12_row 82 = .ok (.istore_n 3, 1) := by decide +kernel
theorem dX12_row_83 : decode cX12_row 83 = .ok (.iload_n 3, 1) := by decide +kernel
theorem dX12_row_84 : decode cX12_row 84 = .ok (.iload 4, 2) := by decide +kernel
theorem dX12_row_86 : decode cX12_row 86 = .ok (.if_icmp .gt 6, 3) := by decide +kernel
theorem dX12_row_89 : decode cX12_row 89 = .ok (.goto 14, 3) := by decide +kernel
theorem dX12_row_92 : decode cX12_row 92 = .ok (.iload_n 3, 1) := by decide +kernel
theorem dX12_row_93 : decode cX12_row 93 = .ok (.istore 4, 2) := by decide +kernel
theorem dX12_row_95 : decode cX12_row 95 = .ok (.iload 6, 2) := by decide +kernel
theorem dX12_row_97 : decode cX12_row 97 = .ok (.iload_n 3, 1) := by decide +kernel
theorem dX12_row_98 : decode cX12_row 98 = .ok (.isub, 1) := by decide +kernel
theorem dX12_row_99 : decode cX12_row 99 = .ok (.iconst 1, 1) := by decide +kernel
theorem dX12_row_100 : decode cX12_row 100 = .ok (.iadd, 1) := by decide +kernel
theorem dX12_row_101 : decode cX12_row 101 = .ok (.istore 5, 2) := by decide +kernel
theorem dX12_row_103 : decode cX12_row 103 = .ok (.iinc 6 1, 3) := by decide +kernel
theorem dX12_row_106 : decode cX12_row 106 = .ok (.goto (-54), 3) := by decide +kernel
theorem dX12_row_109 : decode cX12_row 109 = .ok (.iload_n 2, 1) := by decide +kernel
theorem dX12_row_110 : decode cX12_row 110 = .ok (.ifCond .ne 8, 3) := by decide +kernel
theorem dX12_row_113 : decode cX12_row 113 = .ok (.iload 4, 2) := by decide +kernel
theorem dX12_row_115 : decode cX12_row 115 = .ok (.goto 5, 3) := by decide +kernel
theorem dX12_row_118 : decode cX12_row 118 = .ok (.iload 5, 2) := by decide +kernel
theorem dX12_row_120 : decode cX12_row 120 = .ok (.ireturn, 1) := by decide +kernel
theorem ct_X12_row {g : Gw} (hG : GF g) {z : Bool} (E : Mm) (Q : RX) (P : SP) (L : LW) (T K : LN) (d st : Nat) (hWf : WF P L T K d st) (hI_E : RXI E Q P L T K d st) (x0 x1 : Int) : CT g yX12_row cX12_row 7 (some .int) 7 156 0 0 K2 z [mR 125, mI x0, mI x1] (ov E) K2 z (fun r' D' => (((0 ≤ x0 ∧ x0 ≤ 23) ∧ (0 ≤ x1 ∧ x1 ≤ 1)) ∧ r' = some (mI (if x1 = 0 then ((rwP (fun c => decide (0 < bOn (gDay P L d) x0.toNat c)) (sW P)).1 : Int) else (rwP (fun c => decide (0 < bOn (gDay P L d) x0.toNat c)) (sW P)).2.1)) ∧ ∃ E1, D' = ov E1 ∧ RXO E E1 Q P L T K d st) ∨ (¬ ((0 ≤ x0 ∧ x0 ≤ 23) ∧ (0 ≤ x1 ∧ x1 ≤ 1)) ∧ r' = some (mI 0) ∧ D' = ov (badR E 1 2))) := by
  refine CT.mk hG (by decide +kernel) (Nat.le_of_ble_eq_true rfl) (fun κ X Rt _ ok => ?_)
  have hP := hWf.1
  have hN8 := hP.B.N
  have hW40 := hP.W
  have hN11 := hP.N
  have hwN : gN (gDay P L d) ≤ 11 := Nat.le_trans hP.N (by decide)
  have hgw : gW (gDay P L d) = sW P := rfl
  have hDI24 := dyP_DI (G := (gDay P L d)) hP.B hWf.2.2.2.1 (Nat.le_refl 24)
  refine at_aload_n 1 X rfl rfl dX12_row_0 rfl ?_
  refine at_iconst 2 X (by decide) dX12_row_1 rfl ?_
  refine m_putI 5 X f_X12_152 fw_12_0 k_125 rn_125_0 dX12_row_2 rfl ?_
  have hO_E0 := RXO.z hWf hI_E
  generalize hE0 : wr E 125 0 0 = E0 at hO_E0 ⊢
  have hR_E0 := hO_E0.1.1
  refine at_aload_n 6 X rfl rfl dX12_row_5 rfl ?_
  refine at_iload_n 7 X rfl rfl dX12_row_6 rfl ?_
  refine at_callS 10 X (ct_X12_isHour hG E0 x0) mo_X12_isHour w_2074 so_X12_isHour rfl rfl (crm Rt (by decide)) (Nat.le_of_ble_eq_true rfl) dX12_row_7 rfl ?_
  rintro _ _ ⟨rfl, rfl⟩
  refine at_if_eq 13 22 X dX12_row_10 rfl (by decide) (fun h10 => ?_) (fun h10 => ?_)
  · have h10 : ¬ (0 ≤ x0 ∧ x0 ≤ 23) := ite_no.mp h10
    refine at_iconst 23 X (by decide) dX12_row_22 rfl ?_
    refine at_goto 27 X dX12_row_23 (by decide) ?_
    refine at_iconst 28 X (by decide) dX12_row_27 rfl ?_
    refine at_iconst 29 X (by decide) dX12_row_28 rfl ?_
    refine at_callV 32 X _ 12 (ct_bad1 hG E0 1 2 (by decide) hO_E0.2.2.1 (by decide)) clX12 rfl k_125 mo_X12_bad w_1960 vo_X12_bad.1 vo_X12_bad.2 rfl rfl (crm Rt (by decide)) (Nat.le_of_ble_eq_true rfl) dX12_row_29 rfl ?_
    rintro _ _ ⟨rfl, rfl⟩
    have hb : ¬ ((0 ≤ x0 ∧ x0 ≤ 23) ∧ (0 ≤ x1 ∧ x1 ≤ 1)) := by omega
    refine at_if_eq 35 37 X dX12_row_32 rfl (by decide) (fun h32 => ?_) (fun h32 => ?_)
    · exact absurd h32 (by decide)
    · refine at_iconst 36 X (by decide) dX12_row_35 rfl ?_
      refine at_iret X Rt ?_ (Nat.le_refl _) (Nat.le_refl _) dX12_row_36
      exact Or.inr (⟨hb, rfl, congrArg ov (badR_of hE0)⟩)
  · have h10 : (0 ≤ x0 ∧ x0 ≤ 23) := ite_yes.mp h10
    refine at_iload_n 14 X rfl rfl dX12_row_13 rfl ?_
    refine at_iconst 15 X (by decide) dX12_row_14 rfl ?_
    refine at_iconst 16 X (by decide) dX12_row_15 rfl ?_
    refine at_callS 19 X (ct_X12_in hG _ _ _) mo_X12_in w_1957 so_X12_in rfl rfl (crm Rt (by decide)) (Nat.le_of_ble_eq_true rfl) dX12_row_16 rfl ?_
    rintro _ _ ⟨rfl, rfl⟩
    refine at_if_ne 22 26 X dX12_row_19 rfl (by decide) (fun h19 => ?_) (fun h19 => ?_)
    · have h19 : (0 ≤ x1 ∧ x1 ≤ 1) := ite_yes.mp h19
      refine at_iconst 27 X (by decide) dX12_row_26 rfl ?_
      refine at_iconst 28 X (by decide) dX12_row_27 rfl ?_
      refine at_iconst 29 X (by decide) dX12_row_28 rfl ?_
      refine at_callV 32 X _ 12 (ct_bad0 hG E0 1 2 (by decide) hO_E0.2.2.1) clX12 rfl k_125 mo_X12_bad w_1960 vo_X12_bad.1 vo_X12_bad.2 rfl rfl (crm Rt (by decide)) (Nat.le_of_ble_eq_true rfl) dX12_row_29 rfl ?_
      rintro _ _ ⟨rfl, rfl⟩
      have hc0 : (0 ≤ x0 ∧ x0 ≤ 23) ∧ (0 ≤ x1 ∧ x1 ≤ 1) := by omega
      refine at_if_eq 35 37 X dX12_row_32 rfl (by decide) (fun h32 => ?_) (fun h32 => ?_)
      · obtain ⟨h, rfl⟩ : ∃ h : Nat, x0 = (h : Int) := ⟨x0.toNat, by omega⟩
        refine at_aload_n 38 X rfl rfl dX12_row_37 rfl ?_
        refine at_callV 41 X _ 12 (ct_X12_laysNow hG E0 Q P L T K d st hWf hO_E0.1) clX12 rfl k_125 mo_X12_laysNow w_2158 vo_X12_laysNow.1 vo_X12_laysNow.2 rfl rfl (crm Rt (by decide)) (Nat.le_of_ble_eq_true rfl) dX12_row_38 rfl ?_
        rintro _ _ ⟨rfl, F1, rfl, hI_F1, hY_F1, hs_F1, hz_F1, hv_F1, h0_F1, h7_F1⟩
        have hO_F1 := hO_E0.nx hI_F1 hY_F1 h0_F1 h7_F1
        have hR_F1 := hI_F1.1
        refine at_iconst 42 X (by decide) dX12_row_41 rfl ?_
        refine at_istore_n 43 X rfl dX12_row_42 rfl (by decide) ?_
        refine at_iconst 44 X (by decide) dX12_row_43 rfl ?_
        refine at_istore 46 X dX12_row_44 rfl (by decide) ?_
        refine at_iconst 47 X (by decide) dX12_row_46 rfl ?_
        refine at_istore 49 X dX12_row_47 rfl (by decide) ?_
        refine at_iconst 50 X (by decide) dX12_row_49 rfl ?_
        refine at_istore 52 X dX12_row_50 rfl (by decide) ?_
        have J52 : ∀ (f52 : Nat) (c : Nat) (lo : Nat) (fi : Int) (e : Nat), 40 - c < f52 → (c ≤ sW P) → (lo = (rwP (fun c => decide (0 < bOn (gDay P L d) h c)) c).1) → (fi = (rwP (fun c => decide (0 < bOn (gDay P L d) h c)) c).2.1) → (e = (rwP (fun c => decide (0 < bOn (gDay P L d) h c)) c).2.2) → (e ≤ c ∧ lo ≤ c) → AT g κ K2 z 0 0 52 [(0, mR 125), (1, mI ((h : Nat) : Int)), (2, mI x1), (3, mI ((e : Nat) : Int)), (4, mI ((lo : Nat) : Int)), (5, mI fi), (6, mI ((c : Nat) : Int))] [] (ov F1) := by
          intro f52
          induction f52 with
          | zero => intro c lo fi e hf52; omega
          | succ f52 ih52 =>
          intro c lo fi e hf52 hc hlo hfi he hel
          refine at_iload 54 X rfl dX12_row_52 rfl ?_
          refine at_aload_n 55 X rfl rfl dX12_row_54 rfl ?_
          refine m_getR 58 X f_X12_23 k_125 r_125_12 dX12_row_55 rfl ?_
          refine at_iconst 59 X (by decide) dX12_row_58 rfl ?_
          refine m_ialoadV 60 X 0 (by omega) ((sW P : Nat) : Int) hR_F1.1.1 k_129 e_129 (by omega) dX12_row_59 rfl ?_
          have := hP.W
          refine at_icmp_ge 63 109 X dX12_row_60 rfl (by decide) (fun h60 => ?_) (fun h60 => ?_)
          · refine at_iload_n 110 X rfl rfl dX12_row_109 rfl ?_
            refine at_if_ne 113 118 X dX12_row_110 rfl (by decide) (fun h110 => ?_) (fun h110 => ?_)
            · refine at_iload 120 X rfl dX12_row_118 rfl ?_
              refine at_iret X Rt ?_ (Nat.le_refl _) (Nat.le_refl _) dX12_row_120
              exact Or.inl ⟨hc0, (by (try simp only [Int.toNat_natCast]); rw [show sW P = c by omega, ← hlo, ← hfi] <;> first | rw [if_pos (show x1 = 0 by omega)] | rw [if_neg (show ¬ x1 = 0 by omega)]), _, rfl, hO_F1⟩
            · refine at_iload 115 X rfl dX12_row_113 rfl ?_
              refine at_goto 120 X dX12_row_115 (by decide) ?_
              refine at_iret X Rt ?_ (Nat.le_refl _) (Nat.le_refl _) dX12_row_120
              exact Or.inl ⟨hc0, (by (try simp only [Int.toNat_natCast]); rw [show sW P = c by omega, ← hlo, ← hfi] <;> first | rw [if_pos (show x1 = 0 by omega)] | rw [if_neg (show ¬ x1 = 0 by omega)]), _, rfl, hO_F1⟩
          · have J83 : ∀ (e2 : Nat), (e2 = (if decide (0 < bOn (gDay P L d) h c) = true then e + 1 else 0)) → (e2 ≤ e + 1) → AT g κ K2 z 0 0 83 [(0, mR 125), (1, mI ((h : Nat) : Int)), (2, mI x1), (3, mI ((e2 : Nat) : Int)), (4, mI ((lo : Nat) : Int)), (5, mI fi), (6, mI ((c : Nat) : Int))] [] (ov F1) := by
              intro e2 he2 he2l
              have hs : rwP (fun c => decide (0 < bOn (gDay P L d) h c)) (c + 1) = if (rwP (fun c => decide (0 < bOn (gDay P L d) h c)) c).1 < (if decide (0 < bOn (gDay P L d) h c) = true then (rwP (fun c => decide (0 < bOn (gDay P L d) h c)) c).2.2 + 1 else 0) then ((if decide (0 < bOn (gDay P L d) h c) = true then (rwP (fun c => decide (0 < bOn (gDay P L d) h c)) c).2.2 + 1 else 0), (c : Int) - (((if decide (0 < bOn (gDay P L d) h c) = true then (rwP (fun c => decide (0 < bOn (gDay P L d) h c)) c).2.2 + 1 else 0) : Nat) : Int) + 1, (if decide (0 < bOn (gDay P L d) h c) = true then (rwP (fun c => decide (0 < bOn (gDay P L d) h c)) c).2.2 + 1 else 0)) else ((rwP (fun c => decide (0 < bOn (gDay P L d) h c)) c).1, (rwP (fun c => decide (0 < bOn (gDay P L d) h c)) c).2.1, (if decide (0 < bOn (gDay P L d) h c) = true then (rwP (fun c => decide (0 < bOn (gDay P L d) h c)) c).2.2 + 1 else 0)) := rfl
              rw [← hlo, ← he, ← hfi, ← he2] at hs
              refine at_iload_n 84 X rfl rfl dX12_row_83 rfl ?_
              refine at_iload 86 X rfl dX12_row_84 rfl ?_
              refine at_icmp_gt 89 92 X dX12_row_86 rfl (by decide) (fun h86 => ?_) (fun h86 => ?_)
              · refine at_iload_n 93 X rfl rfl dX12_row_92 rfl ?_
                refine at_istore 95 X dX12_row_93 rfl (by decide) ?_
                refine at_iload 97 X rfl dX12_row_95 rfl ?_
                refine at_iload_n 98 X rfl rfl dX12_row_97 rfl ?_
                refine at_isubV 99 X (((c : Nat) : Int) - ((e2 : Nat) : Int)) (w32_v rfl (by omega) (by omega)) dX12_row_98 rfl ?_
                refine at_iconst 100 X (by decide) dX12_row_99 rfl ?_
                refine at_iaddV 101 X ((((c : Nat) : Int) - ((e2 : Nat) : Int)) + 1) (w32_v rfl (by omega) (by omega)) dX12_row_100 rfl ?_
                refine at_istore 103 X dX12_row_101 rfl (by decide) ?_
                refine at_iincV 106 X ((c + 1 : Nat) : Int) (w32_v (by omega) (by omega) (by omega)) rfl dX12_row_103 rfl (by decide) ?_
                refine at_goto 52 X dX12_row_106 (by decide) ?_
                exact at_sub _ (by exact ⟨rfl, rfl, rfl, rfl, rfl, rfl, rfl, trivial⟩) (ih52 (c + 1) e2 ((((c : Nat) : Int) - ((e2 : Nat) : Int)) + 1) e2 (by first | omega | (simp only [] at *; omega)) (by first | omega | assumption) (by rw [hs]; first | (rw [if_neg (show ¬ lo < e2 by omega)]; done) | (rw [if_neg (show ¬ lo < e2 by omega)]; rfl) | (rw [if_pos (show lo < e2 by omega)]; done) | (rw [if_pos (show lo < e2 by omega)]; rfl)) (by rw [hs]; first | (rw [if_neg (show ¬ lo < e2 by omega)]; done) | (rw [if_neg (show ¬ lo < e2 by omega)]; rfl) | (rw [if_pos (show lo < e2 by omega)]; done) | (rw [if_pos (show lo < e2 by omega)]; rfl)) (by rw [hs]; first | (rw [if_neg (show ¬ lo < e2 by omega)]; done) | (rw [if_neg (show ¬ lo < e2 by omega)]; rfl) | (rw [if_pos (show lo < e2 by omega)]; done) | (rw [if_pos (show lo < e2 by omega)]; rfl)) (by omega))
              · refine at_goto 103 X dX12_row_89 (by decide) ?_
                refine at_iincV 106 X ((c + 1 : Nat) : Int) (w32_v (by omega) (by omega) (by omega)) rfl dX12_row_103 rfl (by decide) ?_
                refine at_goto 52 X dX12_row_106 (by decide) ?_
                exact at_sub _ (by exact ⟨rfl, rfl, rfl, rfl, rfl, rfl, rfl, trivial⟩) (ih52 (c + 1) lo fi e2 (by first | omega | (simp only [] at *; omega)) (by first | omega | assumption) (by rw [hs]; first | (rw [if_neg (show ¬ lo < e2 by omega)]; done) | (rw [if_neg (show ¬ lo < e2 by omega)]; rfl) | (rw [if_pos (show lo < e2 by omega)]; done) | (rw [if_pos (show lo < e2 by omega)]; rfl)) (by rw [hs]; first | (rw [if_neg (show ¬ lo < e2 by omega)]; done) | (rw [if_neg (show ¬ lo < e2 by omega)]; rfl) | (rw [if_pos (show lo < e2 by omega)]; done) | (rw [if_pos (show lo < e2 by omega)]; rfl)) (by rw [hs]; first | (rw [if_neg (show ¬ lo < e2 by omega)]; done) | (rw [if_neg (show ¬ lo < e2 by omega)]; rfl) | (rw [if_pos (show lo < e2 by omega)]; done) | (rw [if_pos (show lo < e2 by omega)]; rfl)) (by omega))
            refine at_aload_n 64 X rfl rfl dX12_row_63 rfl ?_
            refine m_getR 67 X f_X12_116 k_125 r_125_51 dX12_row_64 rfl ?_
            refine at_iload_n 68 X rfl rfl dX12_row_67 rfl ?_
            refine m_aaloadV 69 X h (by omega) k_707 (by decide) (by omega) (rr_707 _ (by omega)) dX12_row_68 rfl ?_
            refine at_iload 71 X rfl dX12_row_69 rfl ?_
            refine m_ialoadV 72 X c (by omega) (bOn (gDay P L d) h c) (hs_F1 h c (by omega) (by omega)).2 (kr_707 _ (by omega)) (er_707 _ (by omega)) (by omega) dX12_row_71 rfl ?_
            have := bOn_in (gDay P L d) h c
            refine at_if_le 75 81 X dX12_row_72 rfl (by decide) (fun h72 => ?_) (fun h72 => ?_)
            · have hq : ¬ decide (0 < bOn (gDay P L d) h c) = true := fun q => by rw [decide_eq_true_iff] at q; omega
              refine at_iconst 82 X (by decide) dX12_row_81 rfl ?_
              refine at_istore_n 83 X rfl dX12_row_82 rfl (by decide) ?_
              exact at_sub _ (by exact ⟨rfl, rfl, rfl, rfl, rfl, rfl, rfl, trivial⟩) (J83 0 (by first | rw [if_pos (by assumption)] | rw [if_neg (by assumption)]) (by omega))
            · have hq : decide (0 < bOn (gDay P L d) h c) = true := decide_eq_true (by omega)
              refine at_iload_n 76 X rfl rfl dX12_row_75 rfl ?_
              refine at_iconst 77 X (by decide) dX12_row_76 rfl ?_
              refine at_iaddV 78 X ((e + 1 : Nat) : Int) (w32_v (by omega) (by omega) (by omega)) dX12_row_77 rfl ?_
              refine at_goto 82 X dX12_row_78 (by decide) ?_
              refine at_istore_n 83 X rfl dX12_row_82 rfl (by decide) ?_
              exact at_sub _ (by exact ⟨rfl, rfl, rfl, rfl, rfl, rfl, rfl, trivial⟩) (J83 (e + 1) (by first | rw [if_pos (by assumption)] | rw [if_neg (by assumption)]) (by omega))
        exact at_sub _ (by exact ⟨rfl, rfl, rfl, rfl, rfl, rfl, rfl, trivial⟩) (J52 _ 0 0 (-1) 0 (Nat.lt_succ_self _) (by first | omega | assumption | rfl) rfl rfl rfl (by first | omega | assumption | rfl))
      · exact absurd h32 (by decide)
    · have h19 : ¬ (0 ≤ x1 ∧ x1 ≤ 1) := ite_no.mp h19
      refine at_iconst 23 X (by decide) dX12_row_22 rfl ?_
      refine at_goto 27 X dX12_row_23 (by decide) ?_
      refine at_iconst 28 X (by decide) dX12_row_27 rfl ?_
      refine at_iconst 29 X (by decide) dX12_row_28 rfl ?_
      refine at_callV 32 X _ 12 (ct_bad1 hG E0 1 2 (by decide) hO_E0.2.2.1 (by decide)) clX12 rfl k_125 mo_X12_bad w_1960 vo_X12_bad.1 vo_X12_bad.2 rfl rfl (crm Rt (by decide)) (Nat.le_of_ble_eq_true rfl) dX12_row_29 rfl ?_
      rintro _ _ ⟨rfl, rfl⟩
      have hb : ¬ ((0 ≤ x0 ∧ x0 ≤ 23) ∧ (0 ≤ x1 ∧ x1 ≤ 1)) := by omega
      refine at_if_eq 35 37 X dX12_row_32 rfl (by decide) (fun h32 => ?_) (fun h32 => ?_)
      · exact absurd h32 (by decide)
      · refine at_iconst 36 X (by decide) dX12_row_35 rfl ?_
        refine at_iret X Rt ?_ (Nat.le_refl _) (Nat.le_refl _) dX12_row_36
        exact Or.inr (⟨hb, rfl, congrArg ov (badR_of hE0)⟩)
theorem dX12_best_0 : decode cX12_best 0 = .ok (.aload_n 0, 1) := by decide +kernel
theorem dX12_best_1 : decode cX12_best 1 = .ok (.iconst 0, 1) := by decide +kernel
theorem dX12_best_2 : decode cX12_best 2 = .ok (.putfield 152, 3) := by decide +kernel
theorem dX12_best_5 : decode cX12_best 5 = .ok (.aload_n 0, 1) := by decide +kernel
theorem dX12_best_6 : decode cX12_best 6 = .ok (.aload_n 0, 1) := by decide +kernel
theorem dX12_best_7 : decode cX12_best 7 = .ok (.iload_n 1, 1) := by decide +kernel
theorem dX12_best_8 : decode cX12_best 8 = .ok (.invokevirtual 324, 3) := by decide +kernel
theorem dX12_best_11 : decode cX12_best 11 = .ok (.ifCond .ne 7, 3) := by decide +kernel
theorem dX12_best_14 : decode cX12_best 14 = .ok (.iconst 1, 1) := by decide +kernel
theorem dX12_best_15 : decode cX12_best 15 = .ok (.goto 4, 3) := by decide +kernel
theorem dX12_best_18 : decode cX12_best 18 = .ok (.iconst 0, 1) := by decide +kernel
theorem dX12_best_19 : decode cX12_best 19 = .ok (.iconst 1, 1) := by decide +kernel
theorem dX12_best_20 : decode cX12_best 20 = .ok (.iconst 1, 1) := by decide +kernel
theorem dX12_best_21 : decode cX12_best 21 = .ok (.invokevirtual 244, 3) := by decide +kernel
theorem dX12_best_24 : decode cX12_best 24 = .ok (.ifCond .eq 5, 3) := by decide +kernel
theorem dX12_best_27 : decode cX12_best 27 = .ok (.iconst 0, 1) := by decide +kernel
theorem dX12_best_28 : decode cX12_best 28 = .ok (.ireturn, 1) := by decide +kernel
theorem dX12_best_29 : decode cX12_best 29 = .ok (.aload_n 0, 1) := by decide +kernel
theorem dX12_best_30 : decode cX12_best 30 = .ok (.invokevirtual 378, 3) := by decide +kernel
theorem dX12_best_33 : decode cX12_best 33 = .ok (.iconst 0, 1) := by decide +kernel
theorem dX12_best_34 : decode cX12_best 34 = .ok (.istore_n 2, 1) := by decide +kernel
theorem dX12_best_35 : decode cX12_best 35 = .ok (.iconst 1, 1) := by decide +kernel
theorem dX12_best_36 : decode cX12_best 36 = .ok (.istore_n 3, 1) := by decide +kernel
theorem dX12_best_37 : decode cX12_best 37 = .ok (.iload_n 3, 1) := by decide +kernel
theorem dX12_best_38 : decode cX12_best 38 = .ok (.bipush 24, 2) := by decide +kernel
theorem dX12_best_40 : decode cX12_best 40 = .ok (.if_icmp .ge 30, 3) := by decide +kernel
theorem dX12_best_43 : decode cX12_best 43 = .ok (.aload_n 0, 1) := by decide +kernel
theorem dX12_best_44 : decode cX12_best 44 = .ok (.iload_n 1, 1) := by decide +kernel
theorem dX12_best_45 : decode cX12_best 45 = .ok (.iload_n 3, 1) := by decide +kernel
theorem dX12_best_46 : decode cX12_best 46 = .ok (.invokevirtual 457, 3) := by decide +kernel
theorem dX12_best_49 : decode cX12_best 49 = .ok (.aload_n 0, 1) := by decide +kernel
theorem dX12_best_50 : decode cX12_best 50 = .ok (.iload_n 1, 1) := by decide +kernel
theorem dX12_best_51 : decode cX12_best 51 = .ok (.iload_n 2, 1) := by decide +kernel
theorem dX12_best_52 : decode cX12_best 52 = .ok (.invokevirtual 457, 3) := by decide +kernel
theorem dX12_best_55 : decode cX12_best 55 = .ok (.if_icmp .le 7, 3) := by decide +kernel
theorem dX12_best_58 : decode cX12_best 58 = .ok (.iload_n 3, 1) := by decide +kernel
theorem dX12_best_59 : decode cX12_best 59 = .ok (.goto 4, 3) := by decide +kernel
theorem dX12_best_62 : decode cX12_best 62 = .ok (.iload_n 2, 1) := by decide +kernel
theorem dX12_best_63 : decode cX12_best 63 = .ok (.istore_n 2, 1) := by decide +kernel
theorem dX12_best_64 : decode cX12_best 64 = .ok (.iinc 3 1, 3) := by decide +kernel
theorem dX12_best_67 : decode cX12_best 67 = .ok (.goto (-30), 3) := by decide +kernel
theorem dX12_best_70 : decode cX12_best 70 = .ok (.iload_n 2, 1) := by decide +kernel
theorem dX12_best_71 : decode cX12_best 71 = .ok (.ireturn, 1) := by decide +kernel
theorem ct_X12_best {g : Gw} (hG : GF g) {z : Bool} (E : Mm) (Q : RX) (P : SP) (L : LW) (T K : LN) (d st : Nat) (hWf : WF P L T K d st) (hI_E : RXI E Q P L T K d st) (x0 : Int) : CT g yX12_best cX12_best 4 (some .int) 7 156 0 0 K2 z [mR 125, mI x0] (ov E) K2 z (fun r' D' => ((0 ≤ x0 ∧ x0 ≤ (bN (sB P) : Int) - 1) ∧ r' = some (mI ((bsP (gDay P L d) (sB P) x0.toNat 24).1)) ∧ ∃ E1, D' = ov E1 ∧ RXO E E1 Q P L T K d st) ∨ (¬ (0 ≤ x0 ∧ x0 ≤ (bN (sB P) : Int) - 1) ∧ r' = some (mI 0) ∧ D' = ov (badR E 1 1))) := by
  refine CT.mk hG (by decide +kernel) (Nat.le_of_ble_eq_true rfl) (fun κ X Rt _ ok => ?_)
  have hP := hWf.1
  have hN8 := hP.B.N
  have hW40 := hP.W
  have hN11 := hP.N
  have hwN : gN (gDay P L d) ≤ 11 := Nat.le_trans hP.N (by decide)
  have hgw : gW (gDay P L d) = sW P := rfl
  have hDI24 := dyP_DI (G := (gDay P L d)) hP.B hWf.2.2.2.1 (Nat.le_refl 24)
  refine at_aload_n 1 X rfl rfl dX12_best_0 rfl ?_
  refine at_iconst 2 X (by decide) dX12_best_1 rfl ?_
  refine m_putI 5 X f_X12_152 fw_12_0 k_125 rn_125_0 dX12_best_2 rfl ?_
  have hO_E0 := RXO.z hWf hI_E
  generalize hE0 : wr E 125 0 0 = E0 at hO_E0 ⊢
  have hR_E0 := hO_E0.1.1
  refine at_aload_n 6 X rfl rfl dX12_best_5 rfl ?_
  refine at_aload_n 7 X rfl rfl dX12_best_6 rfl ?_
  refine at_iload_n 8 X rfl rfl dX12_best_7 rfl ?_
  refine at_callV 11 X _ 12 (ct_X12_isBeam hG E0 P Q hP hR_E0 x0) clX12 rfl k_125 mo_X12_isBeam w_2122 vo_X12_isBeam.1 vo_X12_isBeam.2 rfl rfl (crm Rt (by decide)) (Nat.le_of_ble_eq_true rfl) dX12_best_8 rfl ?_
  rintro _ _ ⟨rfl, rfl⟩
  refine at_if_ne 14 18 X dX12_best_11 rfl (by decide) (fun h11 => ?_) (fun h11 => ?_)
  · have h11 : (0 ≤ x0 ∧ x0 ≤ (bN (sB P) : Int) - 1) := ite_yes.mp h11
    refine at_iconst 19 X (by decide) dX12_best_18 rfl ?_
    refine at_iconst 20 X (by decide) dX12_best_19 rfl ?_
    refine at_iconst 21 X (by decide) dX12_best_20 rfl ?_
    refine at_callV 24 X _ 12 (ct_bad0 hG E0 1 1 (by decide) hO_E0.2.2.1) clX12 rfl k_125 mo_X12_bad w_1960 vo_X12_bad.1 vo_X12_bad.2 rfl rfl (crm Rt (by decide)) (Nat.le_of_ble_eq_true rfl) dX12_best_21 rfl ?_
    rintro _ _ ⟨rfl, rfl⟩
    have hc0 : 0 ≤ x0 ∧ x0 ≤ (bN (sB P) : Int) - 1 := by omega
    refine at_if_eq 27 29 X dX12_best_24 rfl (by decide) (fun h24 => ?_) (fun h24 => ?_)
    · obtain ⟨b, rfl⟩ : ∃ b : Nat, x0 = (b : Int) := ⟨x0.toNat, by omega⟩
      have hlb := hP.B.L (b := b) (by omega)
      have hxb := hP.B.X (b := b) (by omega)
      refine at_aload_n 30 X rfl rfl dX12_best_29 rfl ?_
      have hbs1 : bsP (gDay P L d) (sB P) b 1 = (((0 : Nat) : Int), (pcN (gDay P L d) (sB P) b 0 : Int)) := (bsP_s (gDay P L d) (sB P) b 0).trans (if_pos (show (-1 : Int) < (pcN (gDay P L d) (sB P) b 0 : Int) by omega))
      refine at_callV 33 X _ 12 (ct_X12_laysNow hG E0 Q P L T K d st hWf hO_E0.1) clX12 rfl k_125 mo_X12_laysNow w_2158 vo_X12_laysNow.1 vo_X12_laysNow.2 rfl rfl (crm Rt (by decide)) (Nat.le_of_ble_eq_true rfl) dX12_best_30 rfl ?_
      rintro _ _ ⟨rfl, F1, rfl, hI_F1, hY_F1, hs_F1, hz_F1, hv_F1, h0_F1, h7_F1⟩
      have hO_F1 := hO_E0.nx hI_F1 hY_F1 h0_F1 h7_F1
      have hR_F1 := hI_F1.1
      refine at_iconst 34 X (by decide) dX12_best_33 rfl ?_
      refine at_istore_n 35 X rfl dX12_best_34 rfl (by decide) ?_
      refine at_iconst 36 X (by decide) dX12_best_35 rfl ?_
      refine at_istore_n 37 X rfl dX12_best_36 rfl (by decide) ?_
      have J37 : ∀ (f37 : Nat) (h : Nat) (v : Nat), 24 - h < f37 → (1 ≤ h ∧ h ≤ 24) → (v < 24) → ((v : Int) = (bsP (gDay P L d) (sB P) b h).1) → ((bsP (gDay P L d) (sB P) b h).2 = (pcN (gDay P L d) (sB P) b v : Nat)) → AT g κ K2 z 0 0 37 [(0, mR 125), (1, mI ((b : Nat) : Int)), (2, mI ((v : Nat) : Int)), (3, mI ((h : Nat) : Int))] [] (ov F1) := by
        intro f37
        induction f37 with
        | zero => intro h v hf37; omega
        | succ f37 ih37 =>
        intro h v hf37 hh hvh hv hm
        refine at_iload_n 38 X rfl rfl dX12_best_37 rfl ?_
        refine at_bipush 40 X (by decide) (by decide) dX12_best_38 rfl ?_
        refine at_icmp_ge 43 70 X dX12_best_40 rfl (by decide) (fun h40 => ?_) (fun h40 => ?_)
        · refine at_iload_n 71 X rfl rfl dX12_best_70 rfl ?_
          refine at_iret X Rt ?_ (Nat.le_refl _) (Nat.le_refl _) dX12_best_71
          exact Or.inl ⟨hc0, (by rw [hv, show h = 24 by omega]; rfl), _, rfl, hO_F1⟩
        · have hpv := cntp_le (fun x => stP (gDay P L d) (sB P) b x h) (gW (gDay P L d) + 1 - bL (sB P) b)
          have hbs := bsP_s (gDay P L d) (sB P) b h
          rw [hm] at hbs
          refine at_aload_n 44 X rfl rfl dX12_best_43 rfl ?_
          refine at_iload_n 45 X rfl rfl dX12_best_44 rfl ?_
          refine at_iload_n 46 X rfl rfl dX12_best_45 rfl ?_
          refine at_callV 49 X _ 12 (ct_X12_placesOf hG F1 P Q hP hR_F1 (gDay P L d) rfl b h (by omega) (fun c hc => (hs_F1 h c (by omega) hc).2) (by omega) (by omega)) clX12 rfl k_125 mo_X12_placesOf w_2366 vo_X12_placesOf.1 vo_X12_placesOf.2 rfl rfl (crm Rt (by decide)) (Nat.le_of_ble_eq_true rfl) dX12_best_46 rfl ?_
          rintro _ _ ⟨rfl, rfl⟩
          refine at_aload_n 50 X rfl rfl dX12_best_49 rfl ?_
          refine at_iload_n 51 X rfl rfl dX12_best_50 rfl ?_
          refine at_iload_n 52 X rfl rfl dX12_best_51 rfl ?_
          refine at_callV 55 X _ 12 (ct_X12_placesOf hG F1 P Q hP hR_F1 (gDay P L d) rfl b v (by omega) (fun c hc => (hs_F1 v c (by omega) hc).2) (by omega) (by omega)) clX12 rfl k_125 mo_X12_placesOf w_2366 vo_X12_placesOf.1 vo_X12_placesOf.2 rfl rfl (crm Rt (by decide)) (Nat.le_of_ble_eq_true rfl) dX12_best_52 rfl ?_
          rintro _ _ ⟨rfl, rfl⟩
          refine at_icmp_le 58 62 X dX12_best_55 rfl (by decide) (fun h55 => ?_) (fun h55 => ?_)
          · refine at_iload_n 63 X rfl rfl dX12_best_62 rfl ?_
            refine at_istore_n 64 X rfl dX12_best_63 rfl (by decide) ?_
            refine at_iincV 67 X ((h + 1 : Nat) : Int) (w32_v (by omega) (by omega) (by omega)) rfl dX12_best_64 rfl (by decide) ?_
            refine at_goto 37 X dX12_best_67 (by decide) ?_
            exact at_sub _ (by exact ⟨rfl, rfl, rfl, rfl, trivial⟩) (ih37 (h + 1) v (by first | omega | (simp only [] at *; omega)) (by omega) (by omega) (by rw [hbs]; first | (rw [if_pos (by omega)]; done) | (rw [if_neg (by omega)]; assumption)) (by rw [hbs]; first | (rw [if_pos (by omega)]; done) | (rw [if_neg (by omega)]; assumption)))
          · refine at_iload_n 59 X rfl rfl dX12_best_58 rfl ?_
            refine at_goto 63 X dX12_best_59 (by decide) ?_
            refine at_istore_n 64 X rfl dX12_best_63 rfl (by decide) ?_
            refine at_iincV 67 X ((h + 1 : Nat) : Int) (w32_v (by omega) (by omega) (by omega)) rfl dX12_best_64 rfl (by decide) ?_
            refine at_goto 37 X dX12_best_67 (by decide) ?_
            exact at_sub _ (by exact ⟨rfl, rfl, rfl, rfl, trivial⟩) (ih37 (h + 1) h (by first | omega | (simp only [] at *; omega)) (by omega) (by omega) (by rw [hbs]; first | (rw [if_pos (by omega)]; done) | (rw [if_neg (by omega)]; assumption)) (by rw [hbs]; first | (rw [if_pos (by omega)]; done) | (rw [if_neg (by omega)]; assumption)))
      exact at_sub _ (by exact ⟨rfl, rfl, rfl, rfl, trivial⟩) (J37 _ 1 0 (Nat.lt_succ_self _) (by first | omega | assumption | rfl) (by first | omega | assumption | rfl) (by rw [hbs1]) (by rw [hbs1]))
    · exact absurd h24 (by decide)
  · have h11 : ¬ (0 ≤ x0 ∧ x0 ≤ (bN (sB P) : Int) - 1) := ite_no.mp h11
    refine at_iconst 15 X (by decide) dX12_best_14 rfl ?_
    refine at_goto 19 X dX12_best_15 (by decide) ?_
    refine at_iconst 20 X (by decide) dX12_best_19 rfl ?_
    refine at_iconst 21 X (by decide) dX12_best_20 rfl ?_
    refine at_callV 24 X _ 12 (ct_bad1 hG E0 1 1 (by decide) hO_E0.2.2.1 (by decide)) clX12 rfl k_125 mo_X12_bad w_1960 vo_X12_bad.1 vo_X12_bad.2 rfl rfl (crm Rt (by decide)) (Nat.le_of_ble_eq_true rfl) dX12_best_21 rfl ?_
    rintro _ _ ⟨rfl, rfl⟩
    have hb : ¬ (0 ≤ x0 ∧ x0 ≤ (bN (sB P) : Int) - 1) := by omega
    refine at_if_eq 27 29 X dX12_best_24 rfl (by decide) (fun h24 => ?_) (fun h24 => ?_)
    · exact absurd h24 (by decide)
    · refine at_iconst 28 X (by decide) dX12_best_27 rfl ?_
      refine at_iret X Rt ?_ (Nat.le_refl _) (Nat.le_refl _) dX12_best_28
      exact Or.inr (⟨hb, rfl, congrArg ov (badR_of hE0)⟩)
theorem cntp_not (p : Nat → Bool) : ∀ n, cntp (fun c => !p c) n + cntp p n = n
  | 0 => rfl
  | n + 1 => by
    have h := cntp_not p n
    rw [cntp_s, cntp_s]
    cases e : p n <;> simp only [Bool.not_false, Bool.not_true, Bool.false_eq_true, if_true, if_false] <;> omega
theorem brC_s (G : GP) (f c i : Nat) : brC G f c (i + 1) = (brC G f c i || decide (0 < bOn G (f + i) c)) := rfl
theorem dX12_bare_0 : decode cX12_bare 0 = .ok (.aload_n 0, 1) := by decide +kernel
theorem dX12_bare_1 : decode cX12_bare 1 = .ok (.iconst 0, 1) := by decide +kernel
theorem dX12_bare_2 : decode cX12_bare 2 = .ok (.putfield 152, 3) := by decide +kernel
theorem dX12_bare_5 : decode cX12_bare 5 = .ok (.aload_n 0, 1) := by decide +kernel
theorem dX12_bare_6 : decode cX12_bare 6 = .ok (.iload_n 1, 1) := by decide +kernel
theorem dX12_bare_7 : decode cX12_bare 7 = .ok (.invokestatic 314, 3) := by decide +kernel
theorem dX12_bare_10 : decode cX12_bare 10 = .ok (.ifCond .eq 15, 3) := by decide +kernel
theorem dX12_bare_13 : decode cX12_bare 13 = .ok (.iload_n 2, 1) := by decide +kernel
theorem dX12_bare_14 : decode cX12_bare 14 = .ok (.invokestatic 314, 3) := by decide +kernel
theorem dX12_bare_17 : decode cX12_bare 17 = .ok (.ifCond .eq 8, 3) := by decide +kernel
theorem dX12_bare_20 : decode cX12_bare 20 = .ok (.iload_n 1, 1) := by decide +kernel
theorem dX12_bare_21 : decode cX12_bare 21 = .ok (.iload_n 2, 1) := by decide +kernel
theorem dX12_bare_22 : decode cX12_bare 22 = .ok (.if_icmp .le 7, 3) := by decide +kernel
theorem dX12_bare_25 : decode cX12_bare 25 = .ok (.iconst 1, 1) := by decide +kernel
theorem dX12_bare_26 : decode cX12_bare 26 = .ok (.goto 4, 3) := by decide +kernel
theorem dX12_bare_29 : decode cX12_bare 29 = .ok (.iconst 0, 1) := by decide +kernel
theorem dX12_bare_30 : decode cX12_bare 30 = .ok (.iconst 1, 1) := by decide +kernel
theorem dX12_bare_31 : decode cX12_bare 31 = .ok (.iconst 2, 1) := by decide +kernel
theorem dX12_bare_32 : decode cX12_bare 32 = .ok (.invokevirtual 244, 3) := by decide +kernel
theorem dX12_bare_35 : decode cX12_bare 35 = .ok (.ifCond .eq 5, 3) := by decide +kernel
theorem dX12_bare_38 : decode cX12_bare 38 = .ok (.iconst 0, 1) := by decide +kernel
theorem dX12_bare_39 : decode cX12_bare 39 = .ok (.ireturn, 1) := by decide +kernel
theorem dX12_bare_40 : decode cX12_bare 40 = .ok (.aload_n 0, 1) := by decide +kernel
theorem dX12_bare_41 : decode cX12_bare 41 = .ok (.invokevirtual 378, 3) := by decide +kernel
theorem dX12_bare_44 : decode cX12_bare 44 = .ok (.iconst 0, 1) := by decide +kernel
theorem dX12_bare_45 : decode cX12_bare 45 = .ok (.istore_n 3, 1) := by decide +kernel
theorem dX12_bare_46 : decode cX12_bare 46 = .ok (.iconst 0, 1) := by decide +kernel
theorem dX12_bare_47 : decode cX12_bare 47 = .ok (.istore 4, 2) := by decide +kernel
theorem dX12_bare_49 : decode cX12_bare 49 = .ok (.iload 4, 2) := by decide +kernel
theorem dX12_bare_51 : decode cX12_bare 51 = .ok (.aload_n 0, 1) := by decide +kernel
theorem dX12_bare_52 : decode cX12_bare 52 = .ok (.getfield 23, 3) := by decide +kernel
theorem dX12_bare_55 : decode cX12_bare 55 = .ok (.iconst 0, 1) := by decide +kernel
theorem dX12_bare_56 : decode cX12_bare 56 = .ok (.iaload, 1) := by decide +kernel
theorem dX12_bare_57 : decode cX12_bare 57 = .ok (.if_icmp .ge 55, 3) := by decide +kernel
theorem dX12_bare_60 : decode cX12_bare 60 = .ok (.iconst 0, 1) := by decide +kernel
theorem dX12_bare_61 : decode cX12_bare 61 = .ok (.istore 5, 2) := by decide +kernel
theorem dX12_bare_63 : decode cX12_bare 63 = .ok (.iload_n 1, 1) := by decide +kernel
theorem dX12_bare_64 : decode cX12_bare 64 = .ok (.istore 6, 2) := by decide +kernel
theorem dX12_bare_66 : decode cX12_bare 66 = .ok (.iload 6, 2) := by decide +kernel
theorem dX12_bare_68 : decode cX12_bare 68 = .ok (.iload_n 2, 1) := by decide +kernel
theorem dX12_bare_69 : decode cX12_bare 69 = .ok (.if_icmp .gt 24, 3) := by decide +kernel
theorem dX12_bare_72 : decode cX12_bare 72 = .ok (.iload 5, 2) := by decide +kernel
theorem dX12_bare_74 : decode cX12_bare 74 = .ok (.aload_n 0, 1) := by decide +kernel
theorem dX12_bare_75 : decode cX12_bare 75 = .ok (.getfield 116, 3) := by decide +kernel
theorem dX12_bare_78 : decode cX12_bare 78 = .ok (.iload 6, 2) := by decide +kernel
theorem dX12_bare_80 : decode cX12_bare 80 = .ok (.aaload, 1) := by decide +kernel
theorem dX12_bare_81 : decode cX12_bare 81 = .ok (.iload 4, 2) := by decide +kernel
theorem dX12_bare_83 : decode cX12_bare 83 = .ok (.iaload, 1) := by decide +kernel
theorem dX12_bare_84 : decode cX12_bare 84 = .ok (.iadd, 1) := by decide +kernel
theorem dX12_bare_85 : decode cX12_bare 85 = .ok (.istore 5, 2) := by decide +kernel
theorem dX12_bare_87 : decode cX12_bare 87 = .ok (.iinc 6 1, 3) := by decide +kernel
theorem dX12_bare_90 : decode cX12_bare 90 = .ok (.goto (-24), 3) := by decide +kernel
theorem dX12_bare_93 : decode cX12_bare 93 = .ok (.iload_n 3, 1) := by decide +kernel
theorem dX12_bare_94 : decode cX12_bare 94 = .ok (.iload 5, 2) := by decide +kernel
theorem dX12_bare_96 : decode cX12_bare 96 = .ok (.ifCond .ne 7, 3) := by decide +kernel
theorem dX12_bare_99 : decode cX12_bare 99 = .ok (.iconst 1, 1) := by decide +kernel
theorem dX12_bare_100 : decode cX12_bare 100 = .ok (.goto 4, 3) := by decide +kernel
theorem dX12_bare_103 : decode cX12_bare 103 = .ok (.iconst 0, 1) := by decide +kernel
theorem dX12_bare_104 : decode cX12_bare 104 = .ok (.iadd, 1) := by decide +kernel
theorem dX12_bare_105 : decode cX12_bare 105 = .ok (.istore_n 3, 1) := by decide +kernel
theorem dX12_bare_106 : decode cX12_bare 106 = .ok (.iinc 4 1, 3) := by decide +kernel
theorem dX12_bare_109 : decode cX12_bare 109 = .ok (.goto (-60), 3) := by decide +kernel
theorem dX12_bare_112 : decode cX12_bare 112 = .ok (.iload_n 3, 1) := by decide +kernel
theorem dX12_bare_113 : decode cX12_bare 113 = .ok (.ireturn, 1) := by decide +kernel
theorem ct_X12_bare {g : Gw} (hG : GF g) {z : Bool} (E : Mm) (Q : RX) (P : SP) (L : LW) (T K : LN) (d st : Nat) (hWf : WF P L T K d st) (hI_E : RXI E Q P L T K d st) (x0 x1 : Int) : CT g yX12_bare cX12_bare 7 (some .int) 7 156 0 0 K2 z [mR 125, mI x0, mI x1] (ov E) K2 z (fun r' D' => (((0 ≤ x0 ∧ x0 ≤ 23) ∧ (0 ≤ x1 ∧ x1 ≤ 23) ∧ x0 ≤ x1) ∧ r' = some (mI ((sW P : Int) - (cntp (fun c => brC (gDay P L d) x0.toNat c (x1.toNat + 1 - x0.toNat)) (sW P) : Nat))) ∧ ∃ E1, D' = ov E1 ∧ RXO E E1 Q P L T K d st) ∨ (¬ ((0 ≤ x0 ∧ x0 ≤ 23) ∧ (0 ≤ x1 ∧ x1 ≤ 23) ∧ x0 ≤ x1) ∧ r' = some (mI 0) ∧ D' = ov (badR E 1 2))) := by
  refine CT.mk hG (by decide +kernel) (Nat.le_of_ble_eq_true rfl) (fun κ X Rt _ ok => ?_)
  have hP := hWf.1
  have hN8 := hP.B.N
  have hW40 := hP.W
  have hN11 := hP.N
  have hwN : gN (gDay P L d) ≤ 11 := Nat.le_trans hP.N (by decide)
  have hgw : gW (gDay P L d) = sW P := rfl
  have hDI24 := dyP_DI (G := (gDay P L d)) hP.B hWf.2.2.2.1 (Nat.le_refl 24)
  refine at_aload_n 1 X rfl rfl dX12_bare_0 rfl ?_
  refine at_iconst 2 X (by decide) dX12_bare_1 rfl ?_
  refine m_putI 5 X f_X12_152 fw_12_0 k_125 rn_125_0 dX12_bare_2 rfl ?_
  have hO_E0 := RXO.z hWf hI_E
  generalize hE0 : wr E 125 0 0 = E0 at hO_E0 ⊢
  have hR_E0 := hO_E0.1.1
  refine at_aload_n 6 X rfl rfl dX12_bare_5 rfl ?_
  refine at_iload_n 7 X rfl rfl dX12_bare_6 rfl ?_
  refine at_callS 10 X (ct_X12_isHour hG E0 x0) mo_X12_isHour w_2074 so_X12_isHour rfl rfl (crm Rt (by decide)) (Nat.le_of_ble_eq_true rfl) dX12_bare_7 rfl ?_
  rintro _ _ ⟨rfl, rfl⟩
  refine at_if_eq 13 25 X dX12_bare_10 rfl (by decide) (fun h10 => ?_) (fun h10 => ?_)
  · have h10 : ¬ (0 ≤ x0 ∧ x0 ≤ 23) := ite_no.mp h10
    refine at_iconst 26 X (by decide) dX12_bare_25 rfl ?_
    refine at_goto 30 X dX12_bare_26 (by decide) ?_
    refine at_iconst 31 X (by decide) dX12_bare_30 rfl ?_
    refine at_iconst 32 X (by decide) dX12_bare_31 rfl ?_
    refine at_callV 35 X _ 12 (ct_bad1 hG E0 1 2 (by decide) hO_E0.2.2.1 (by decide)) clX12 rfl k_125 mo_X12_bad w_1960 vo_X12_bad.1 vo_X12_bad.2 rfl rfl (crm Rt (by decide)) (Nat.le_of_ble_eq_true rfl) dX12_bare_32 rfl ?_
    rintro _ _ ⟨rfl, rfl⟩
    have hb : ¬ ((0 ≤ x0 ∧ x0 ≤ 23) ∧ (0 ≤ x1 ∧ x1 ≤ 23) ∧ x0 ≤ x1) := by omega
    refine at_if_eq 38 40 X dX12_bare_35 rfl (by decide) (fun h35 => ?_) (fun h35 => ?_)
    · exact absurd h35 (by decide)
    · refine at_iconst 39 X (by decide) dX12_bare_38 rfl ?_
      refine at_iret X Rt ?_ (Nat.le_refl _) (Nat.le_refl _) dX12_bare_39
      exact Or.inr (⟨hb, rfl, congrArg ov (badR_of hE0)⟩)
  · have h10 : (0 ≤ x0 ∧ x0 ≤ 23) := ite_yes.mp h10
    refine at_iload_n 14 X rfl rfl dX12_bare_13 rfl ?_
    refine at_callS 17 X (ct_X12_isHour hG E0 x1) mo_X12_isHour w_2074 so_X12_isHour rfl rfl (crm Rt (by decide)) (Nat.le_of_ble_eq_true rfl) dX12_bare_14 rfl ?_
    rintro _ _ ⟨rfl, rfl⟩
    refine at_if_eq 20 25 X dX12_bare_17 rfl (by decide) (fun h17 => ?_) (fun h17 => ?_)
    · have h17 : ¬ (0 ≤ x1 ∧ x1 ≤ 23) := ite_no.mp h17
      refine at_iconst 26 X (by decide) dX12_bare_25 rfl ?_
      refine at_goto 30 X dX12_bare_26 (by decide) ?_
      refine at_iconst 31 X (by decide) dX12_bare_30 rfl ?_
      refine at_iconst 32 X (by decide) dX12_bare_31 rfl ?_
      refine at_callV 35 X _ 12 (ct_bad1 hG E0 1 2 (by decide) hO_E0.2.2.1 (by decide)) clX12 rfl k_125 mo_X12_bad w_1960 vo_X12_bad.1 vo_X12_bad.2 rfl rfl (crm Rt (by decide)) (Nat.le_of_ble_eq_true rfl) dX12_bare_32 rfl ?_
      rintro _ _ ⟨rfl, rfl⟩
      have hb : ¬ ((0 ≤ x0 ∧ x0 ≤ 23) ∧ (0 ≤ x1 ∧ x1 ≤ 23) ∧ x0 ≤ x1) := by omega
      refine at_if_eq 38 40 X dX12_bare_35 rfl (by decide) (fun h35 => ?_) (fun h35 => ?_)
      · exact absurd h35 (by decide)
      · refine at_iconst 39 X (by decide) dX12_bare_38 rfl ?_
        refine at_iret X Rt ?_ (Nat.le_refl _) (Nat.le_refl _) dX12_bare_39
        exact Or.inr (⟨hb, rfl, congrArg ov (badR_of hE0)⟩)
    · have h17 : (0 ≤ x1 ∧ x1 ≤ 23) := ite_yes.mp h17
      refine at_iload_n 21 X rfl rfl dX12_bare_20 rfl ?_
      refine at_iload_n 22 X rfl rfl dX12_bare_21 rfl ?_
      refine at_icmp_le 25 29 X dX12_bare_22 rfl (by decide) (fun h22 => ?_) (fun h22 => ?_)
      · refine at_iconst 30 X (by decide) dX12_bare_29 rfl ?_
        refine at_iconst 31 X (by decide) dX12_bare_30 rfl ?_
        refine at_iconst 32 X (by decide) dX12_bare_31 rfl ?_
        refine at_callV 35 X _ 12 (ct_bad0 hG E0 1 2 (by decide) hO_E0.2.2.1) clX12 rfl k_125 mo_X12_bad w_1960 vo_X12_bad.1 vo_X12_bad.2 rfl rfl (crm Rt (by decide)) (Nat.le_of_ble_eq_true rfl) dX12_bare_32 rfl ?_
        rintro _ _ ⟨rfl, rfl⟩
        have hc0 : (0 ≤ x0 ∧ x0 ≤ 23) ∧ (0 ≤ x1 ∧ x1 ≤ 23) ∧ x0 ≤ x1 := by omega
        refine at_if_eq 38 40 X dX12_bare_35 rfl (by decide) (fun h35 => ?_) (fun h35 => ?_)
        · obtain ⟨f, rfl⟩ : ∃ f : Nat, x0 = (f : Int) := ⟨x0.toNat, by omega⟩
          obtain ⟨t, rfl⟩ : ∃ t : Nat, x1 = (t : Int) := ⟨x1.toNat, by omega⟩
          refine at_aload_n 41 X rfl rfl dX12_bare_40 rfl ?_
          refine at_callV 44 X _ 12 (ct_X12_laysNow hG E0 Q P L T K d st hWf hO_E0.1) clX12 rfl k_125 mo_X12_laysNow w_2158 vo_X12_laysNow.1 vo_X12_laysNow.2 rfl rfl (crm Rt (by decide)) (Nat.le_of_ble_eq_true rfl) dX12_bare_41 rfl ?_
          rintro _ _ ⟨rfl, F1, rfl, hI_F1, hY_F1, hs_F1, hz_F1, hv_F1, h0_F1, h7_F1⟩
          have hO_F1 := hO_E0.nx hI_F1 hY_F1 h0_F1 h7_F1
          have hR_F1 := hI_F1.1
          refine at_iconst 45 X (by decide) dX12_bare_44 rfl ?_
          refine at_istore_n 46 X rfl dX12_bare_45 rfl (by decide) ?_
          refine at_iconst 47 X (by decide) dX12_bare_46 rfl ?_
          refine at_istore 49 X dX12_bare_47 rfl (by decide) ?_
          have J49 : ∀ (f49 : Nat) (c : Nat) (n : Nat), 40 - c < f49 → (c ≤ sW P) → (n = cntp (fun c => !brC (gDay P L d) f c (t + 1 - f)) c) → AT g κ K2 z 0 0 49 [(0, mR 125), (1, mI ((f : Nat) : Int)), (2, mI ((t : Nat) : Int)), (3, mI ((n : Nat) : Int)), (4, mI ((c : Nat) : Int))] [] (ov F1) := by
            intro f49
            induction f49 with
            | zero => intro c n hf49; omega
            | succ f49 ih49 =>
            intro c n hf49 hc hn
            refine at_iload 51 X rfl dX12_bare_49 rfl ?_
            have hnl := cntp_le (fun c => !brC (gDay P L d) f c (t + 1 - f)) c
            refine at_aload_n 52 X rfl rfl dX12_bare_51 rfl ?_
            refine m_getR 55 X f_X12_23 k_125 r_125_12 dX12_bare_52 rfl ?_
            refine at_iconst 56 X (by decide) dX12_bare_55 rfl ?_
            refine m_ialoadV 57 X 0 (by omega) ((sW P : Nat) : Int) hR_F1.1.1 k_129 e_129 (by omega) dX12_bare_56 rfl ?_
            have := hP.W
            refine at_icmp_ge 60 112 X dX12_bare_57 rfl (by decide) (fun h57 => ?_) (fun h57 => ?_)
            · refine at_iload_n 113 X rfl rfl dX12_bare_112 rfl ?_
              refine at_iret X Rt ?_ (Nat.le_refl _) (Nat.le_refl _) dX12_bare_113
              exact Or.inl ⟨hc0, (by (try simp only [Int.toNat_natCast]); have hnt := cntp_not (fun c => brC (gDay P L d) f c (t + 1 - f)) (sW P); rw [hn, show c = sW P by omega]; exact congrArg (fun q => some (mI q)) (by omega)), _, rfl, hO_F1⟩
            · refine at_iconst 61 X (by decide) dX12_bare_60 rfl ?_
              refine at_istore 63 X dX12_bare_61 rfl (by decide) ?_
              refine at_iload_n 64 X rfl rfl dX12_bare_63 rfl ?_
              refine at_istore 66 X dX12_bare_64 rfl (by decide) ?_
              have J66 : ∀ (f66 : Nat) (h : Nat) (v : Int), 25 - h < f66 → (f ≤ h ∧ h ≤ t + 1) → (0 ≤ v ∧ v ≤ h * 999) → ((v = 0 ↔ ¬ brC (gDay P L d) f c (h - f) = true)) → AT g κ K2 z 0 0 66 [(0, mR 125), (1, mI ((f : Nat) : Int)), (2, mI ((t : Nat) : Int)), (3, mI ((n : Nat) : Int)), (4, mI ((c : Nat) : Int)), (5, mI v), (6, mI ((h : Nat) : Int))] [] (ov F1) := by
                intro f66
                induction f66 with
                | zero => intro h v hf66; omega
                | succ f66 ih66 =>
                intro h v hf66 hh hvl hv0
                refine at_iload 68 X rfl dX12_bare_66 rfl ?_
                refine at_iload_n 69 X rfl rfl dX12_bare_68 rfl ?_
                refine at_icmp_gt 72 93 X dX12_bare_69 rfl (by decide) (fun h69 => ?_) (fun h69 => ?_)
                · refine at_iload_n 94 X rfl rfl dX12_bare_93 rfl ?_
                  refine at_iload 96 X rfl dX12_bare_94 rfl ?_
                  refine at_if_ne 99 103 X dX12_bare_96 rfl (by decide) (fun h96 => ?_) (fun h96 => ?_)
                  · refine at_iconst 104 X (by decide) dX12_bare_103 rfl ?_
                    refine at_iaddV 105 X ((n + 0 : Nat) : Int) (w32_v (by omega) (by omega) (by omega)) dX12_bare_104 rfl ?_
                    refine at_istore_n 106 X rfl dX12_bare_105 rfl (by decide) ?_
                    refine at_iincV 109 X ((c + 1 : Nat) : Int) (w32_v (by omega) (by omega) (by omega)) rfl dX12_bare_106 rfl (by decide) ?_
                    refine at_goto 49 X dX12_bare_109 (by decide) ?_
                    exact at_sub _ (by exact ⟨rfl, rfl, rfl, rfl, rfl, trivial⟩) (ih49 (c + 1) (n + 0) (by first | omega | (simp only [] at *; omega)) (by first | omega | assumption) (by rw [show t + 1 - f = h - f by omega] at *; rw [cntp_s, hn]; first | (rw [if_pos (by rw [Bool.not_eq_true']; exact Bool.eq_false_iff.mpr (hv0.mp (by omega)))]; done) | (rw [if_neg (fun q => by rw [Bool.not_eq_true'] at q; have := hv0.mpr (Bool.eq_false_iff.mp q); omega)]; done)))
                  · refine at_iconst 100 X (by decide) dX12_bare_99 rfl ?_
                    refine at_goto 104 X dX12_bare_100 (by decide) ?_
                    refine at_iaddV 105 X ((n + 1 : Nat) : Int) (w32_v (by omega) (by omega) (by omega)) dX12_bare_104 rfl ?_
                    refine at_istore_n 106 X rfl dX12_bare_105 rfl (by decide) ?_
                    refine at_iincV 109 X ((c + 1 : Nat) : Int) (w32_v (by omega) (by omega) (by omega)) rfl dX12_bare_106 rfl (by decide) ?_
                    refine at_goto 49 X dX12_bare_109 (by decide) ?_
                    exact at_sub _ (by exact ⟨rfl, rfl, rfl, rfl, rfl, trivial⟩) (ih49 (c + 1) (n + 1) (by first | omega | (simp only [] at *; omega)) (by first | omega | assumption) (by rw [show t + 1 - f = h - f by omega] at *; rw [cntp_s, hn]; first | (rw [if_pos (by rw [Bool.not_eq_true']; exact Bool.eq_false_iff.mpr (hv0.mp (by omega)))]; done) | (rw [if_neg (fun q => by rw [Bool.not_eq_true'] at q; have := hv0.mpr (Bool.eq_false_iff.mp q); omega)]; done)))
                · refine at_iload 74 X rfl dX12_bare_72 rfl ?_
                  refine at_aload_n 75 X rfl rfl dX12_bare_74 rfl ?_
                  refine m_getR 78 X f_X12_116 k_125 r_125_51 dX12_bare_75 rfl ?_
                  refine at_iload 80 X rfl dX12_bare_78 rfl ?_
                  refine m_aaloadV 81 X h (by omega) k_707 (by decide) (by omega) (rr_707 _ (by omega)) dX12_bare_80 rfl ?_
                  refine at_iload 83 X rfl dX12_bare_81 rfl ?_
                  refine m_ialoadV 84 X c (by omega) (bOn (gDay P L d) h c) (hs_F1 h c (by omega) (by omega)).2 (kr_707 _ (by omega)) (er_707 _ (by omega)) (by omega) dX12_bare_83 rfl ?_
                  have := bOn_in (gDay P L d) h c
                  refine at_iaddV 85 X (v + (bOn (gDay P L d) h c)) (w32_v rfl (by omega) (by omega)) dX12_bare_84 rfl ?_
                  refine at_istore 87 X dX12_bare_85 rfl (by decide) ?_
                  refine at_iincV 90 X ((h + 1 : Nat) : Int) (w32_v (by omega) (by omega) (by omega)) rfl dX12_bare_87 rfl (by decide) ?_
                  refine at_goto 66 X dX12_bare_90 (by decide) ?_
                  exact at_sub _ (by exact ⟨rfl, rfl, rfl, rfl, rfl, rfl, rfl, trivial⟩) (ih66 (h + 1) (v + (bOn (gDay P L d) h c)) (by first | omega | (simp only [] at *; omega)) (by omega) (by omega) (by rw [show h + 1 - f = (h - f) + 1 by omega, brC_s, Bool.or_eq_true, decide_eq_true_iff, show f + (h - f) = h by omega]; exact ⟨fun q r => r.elim (hv0.mp (by omega)) (fun r => by omega), fun q => by have := hv0.mpr (fun r => q (Or.inl r)); have : ¬ 0 < bOn (gDay P L d) h c := fun r => q (Or.inr r); omega⟩))
              exact at_sub _ (by exact ⟨rfl, rfl, rfl, rfl, rfl, rfl, rfl, trivial⟩) (J66 _ f 0 (Nat.lt_succ_self _) (by first | omega | assumption | rfl) (by first | omega | assumption | rfl) (by rw [Nat.sub_self]; exact ⟨fun _ q => Bool.noConfusion (show false = true from q), fun _ => rfl⟩))
          exact at_sub _ (by exact ⟨rfl, rfl, rfl, rfl, rfl, trivial⟩) (J49 _ 0 0 (Nat.lt_succ_self _) (by first | omega | assumption | rfl) rfl)
        · exact absurd h35 (by decide)
      · refine at_iconst 26 X (by decide) dX12_bare_25 rfl ?_
        refine at_goto 30 X dX12_bare_26 (by decide) ?_
        refine at_iconst 31 X (by decide) dX12_bare_30 rfl ?_
        refine at_iconst 32 X (by decide) dX12_bare_31 rfl ?_
        refine at_callV 35 X _ 12 (ct_bad1 hG E0 1 2 (by decide) hO_E0.2.2.1 (by decide)) clX12 rfl k_125 mo_X12_bad w_1960 vo_X12_bad.1 vo_X12_bad.2 rfl rfl (crm Rt (by decide)) (Nat.le_of_ble_eq_true rfl) dX12_bare_32 rfl ?_
        rintro _ _ ⟨rfl, rfl⟩
        have hb : ¬ ((0 ≤ x0 ∧ x0 ≤ 23) ∧ (0 ≤ x1 ∧ x1 ≤ 23) ∧ x0 ≤ x1) := by omega
        refine at_if_eq 38 40 X dX12_bare_35 rfl (by decide) (fun h35 => ?_) (fun h35 => ?_)
        · exact absurd h35 (by decide)
        · refine at_iconst 39 X (by decide) dX12_bare_38 rfl ?_
          refine at_iret X Rt ?_ (Nat.le_refl _) (Nat.le_refl _) dX12_bare_39
          exact Or.inr (⟨hb, rfl, congrArg ov (badR_of hE0)⟩)
theorem dX12_bearing_0 : decode cX12_bearing 0 = .ok (.aload_n 0, 1) := by decide +kernel
theorem dX12_bearing_1 : decode cX12_bearing 1 = .ok (.iconst 0, 1) := by decide +kernel
theorem dX12_bearing_2 : decode cX12_bearing 2 = .ok (.putfield 152, 3) := by decide +kernel
theorem dX12_bearing_5 : decode cX12_bearing 5 = .ok (.aload_n 0, 1) := by decide +kernel
theorem dX12_bearing_6 : decode cX12_bearing 6 = .ok (.iload_n 1, 1) := by decide +kernel
theorem dX12_bearing_7 : decode cX12_bearing 7 = .ok (.iconst 0, 1) := by decide +kernel
theorem dX12_bearing_8 : decode cX12_bearing 8 = .ok (.bipush 10, 2) := by decide +kernel
theorem dX12_bearing_10 : decode cX12_bearing 10 = .ok (.invokestatic 186, 3) := by decide +kernel
theorem dX12_bearing_13 : decode cX12_bearing 13 = .ok (.ifCond .eq 30, 3) := by decide +kernel
theorem dX12_bearing_16 : decode cX12_bearing 16 = .ok (.iload_n 2, 1) := by decide +kernel
theorem dX12_bearing_17 : decode cX12_bearing 17 = .ok (.iconst 0, 1) := by decide +kernel
theorem dX12_bearing_18 : decode cX12_bearing 18 = .ok (.bipush 99, 2) := by decide +kernel
theorem dX12_bearing_20 : decode cX12_bearing 20 = .ok (.invokestatic 186, 3) := by decide +kernel
theorem dX12_bearing_23 : decode cX12_bearing 23 = .ok (.ifCond .eq 20, 3) := by decide +kernel
theorem dX12_bearing_26 : decode cX12_bearing 26 = .ok (.iload_n 3, 1) := by decide +kernel
theorem dX12_bearing_27 : decode cX12_bearing 27 = .ok (.invokestatic 314, 3) := by decide +kernel
theorem dX12_bearing_30 : decode cX12_bearing 30 = .ok (.ifCond .eq 13, 3) := by decide +kernel
theorem dX12_bearing_33 : decode cX12_bearing 33 = .ok (.iload 4, 2) := by decide +kernel
theorem dX12_bearing_35 : decode cX12_bearing 35 = .ok (.iconst 0, 1) := by decide +kernel
theorem dX12_bearing_36 : decode cX12_bearing 36 = .ok (.iconst 1, 1) := by decide +kernel
theorem dX12_bearing_37 : decode cX12_bearing 37 = .ok (.invokestatic 186, 3) := by decide +kernel
theorem dX12_bearing_40 : decode cX12_bearing 40 = .ok (.ifCond .ne 7, 3) := by decide +kernel
theorem dX12_bearing_43 : decode cX12_bearing 43 = .ok (.iconst 1, 1) := by decide +kernel
theorem dX12_bearing_44 : decode cX12_bearing 44 = .ok (.goto 4, 3) := by decide +kernel
theorem dX12_bearing_47 : decode cX12_bearing 47 = .ok (.iconst 0, 1) := by decide +kernel
theorem dX12_bearing_48 : decode cX12_bearing 48 = .ok (.iconst 1, 1) := by decide +kernel
theorem dX12_bearing_49 : decode cX12_bearing 49 = .ok (.iconst 2, 1) := by decide +kernel
theorem dX12_bearing_50 : decode cX12_bearing 50 = .ok (.invokevirtual 244, 3) := by decide +kernel
theorem dX12_bearing_53 : decode cX12_bearing 53 = .ok (.ifCond .eq 5, 3) := by decide +kernel
theorem dX12_bearing_56 : decode cX12_bearing 56 = .ok (.iconst 0, 1) := by decide +kernel
theorem dX12_bearing_57 : decode cX12_bearing 57 = .ok (.ireturn, 1) := by decide +kernel
theorem dX12_bearing_58 : decode cX12_bearing 58 = .ok (.aload_n 0, 1) := by decide +kernel
theorem dX12_bearing_59 : decode cX12_bearing 59 = .ok (.iload_n 1, 1) := by decide +kernel
theorem dX12_bearing_60 : decode cX12_bearing 60 = .ok (.iload_n 2, 1) := by decide +kernel
theorem dX12_bearing_61 : decode cX12_bearing 61 = .ok (.iload_n 3, 1) := by decide +kernel
theorem dX12_bearing_62 : decode cX12_bearing 62 = .ok (.iload 4, 2) := by decide +kernel
theorem dX12_bearing_64 : decode cX12_bearing 64 = .ok (.invokevirtual 317, 3) := by decide +kernel
theorem dX12_bearing_67 : decode cX12_bearing 67 = .ok (.ireturn, 1) := by decide +kernel
theorem ct_X12_bearing {g : Gw} (hG : GF g) {z : Bool} (E : Mm) (Q : RX) (P : SP) (L : LW) (T K : LN) (d st : Nat) (hWf : WF P L T K d st) (hI_E : RXI E Q P L T K d st) (x0 x1 x2 x3 : Int) : CT g yX12_bearing cX12_bearing 5 (some .int) 4 90 0 0 K2 z [mR 125, mI x0, mI x1, mI x2, mI x3] (ov E) K2 z (fun r' D' => (((0 ≤ x0 ∧ x0 ≤ 10) ∧ (0 ≤ x1 ∧ x1 ≤ 99) ∧ (0 ≤ x2 ∧ x2 ≤ 23) ∧ (0 ≤ x3 ∧ x3 ≤ 1)) ∧ r' = some (mI (borP L x0 x1 x2 x3)) ∧ ∃ E1, D' = ov E1 ∧ RXO E E1 Q P L T K d st) ∨ (¬ ((0 ≤ x0 ∧ x0 ≤ 10) ∧ (0 ≤ x1 ∧ x1 ≤ 99) ∧ (0 ≤ x2 ∧ x2 ≤ 23) ∧ (0 ≤ x3 ∧ x3 ≤ 1)) ∧ r' = some (mI 0) ∧ D' = ov (badR E 1 2))) := by
  refine CT.mk hG (by decide +kernel) (Nat.le_of_ble_eq_true rfl) (fun κ X Rt _ ok => ?_)
  have hP := hWf.1
  have hN8 := hP.B.N
  have hW40 := hP.W
  have hN11 := hP.N
  have hwN : gN (gDay P L d) ≤ 11 := Nat.le_trans hP.N (by decide)
  have hgw : gW (gDay P L d) = sW P := rfl
  have hDI24 := dyP_DI (G := (gDay P L d)) hP.B hWf.2.2.2.1 (Nat.le_refl 24)
  refine at_aload_n 1 X rfl rfl dX12_bearing_0 rfl ?_
  refine at_iconst 2 X (by decide) dX12_bearing_1 rfl ?_
  refine m_putI 5 X f_X12_152 fw_12_0 k_125 rn_125_0 dX12_bearing_2 rfl ?_
  have hO_E0 := RXO.z hWf hI_E
  generalize hE0 : wr E 125 0 0 = E0 at hO_E0 ⊢
  have hR_E0 := hO_E0.1.1
  refine at_aload_n 6 X rfl rfl dX12_bearing_5 rfl ?_
  refine at_iload_n 7 X rfl rfl dX12_bearing_6 rfl ?_
  refine at_iconst 8 X (by decide) dX12_bearing_7 rfl ?_
  refine at_bipush 10 X (by decide) (by decide) dX12_bearing_8 rfl ?_
  refine at_callS 13 X (ct_X12_in hG _ _ _) mo_X12_in w_1957 so_X12_in rfl rfl (crm Rt (by decide)) (Nat.le_of_ble_eq_true rfl) dX12_bearing_10 rfl ?_
  rintro _ _ ⟨rfl, rfl⟩
  refine at_if_eq 16 43 X dX12_bearing_13 rfl (by decide) (fun h13 => ?_) (fun h13 => ?_)
  · have h13 : ¬ (0 ≤ x0 ∧ x0 ≤ 10) := ite_no.mp h13
    refine at_iconst 44 X (by decide) dX12_bearing_43 rfl ?_
    refine at_goto 48 X dX12_bearing_44 (by decide) ?_
    refine at_iconst 49 X (by decide) dX12_bearing_48 rfl ?_
    refine at_iconst 50 X (by decide) dX12_bearing_49 rfl ?_
    refine at_callV 53 X _ 12 (ct_bad1 hG E0 1 2 (by decide) hO_E0.2.2.1 (by decide)) clX12 rfl k_125 mo_X12_bad w_1960 vo_X12_bad.1 vo_X12_bad.2 rfl rfl (crm Rt (by decide)) (Nat.le_of_ble_eq_true rfl) dX12_bearing_50 rfl ?_
    rintro _ _ ⟨rfl, rfl⟩
    have hb : ¬ ((0 ≤ x0 ∧ x0 ≤ 10) ∧ (0 ≤ x1 ∧ x1 ≤ 99) ∧ (0 ≤ x2 ∧ x2 ≤ 23) ∧ (0 ≤ x3 ∧ x3 ≤ 1)) := by omega
    refine at_if_eq 56 58 X dX12_bearing_53 rfl (by decide) (fun h53 => ?_) (fun h53 => ?_)
    · exact absurd h53 (by decide)
    · refine at_iconst 57 X (by decide) dX12_bearing_56 rfl ?_
      refine at_iret X Rt ?_ (Nat.le_refl _) (Nat.le_refl _) dX12_bearing_57
      exact Or.inr (⟨hb, rfl, congrArg ov (badR_of hE0)⟩)
  · have h13 : (0 ≤ x0 ∧ x0 ≤ 10) := ite_yes.mp h13
    refine at_iload_n 17 X rfl rfl dX12_bearing_16 rfl ?_
    refine at_iconst 18 X (by decide) dX12_bearing_17 rfl ?_
    refine at_bipush 20 X (by decide) (by decide) dX12_bearing_18 rfl ?_
    refine at_callS 23 X (ct_X12_in hG _ _ _) mo_X12_in w_1957 so_X12_in rfl rfl (crm Rt (by decide)) (Nat.le_of_ble_eq_true rfl) dX12_bearing_20 rfl ?_
    rintro _ _ ⟨rfl, rfl⟩
    refine at_if_eq 26 43 X dX12_bearing_23 rfl (by decide) (fun h23 => ?_) (fun h23 => ?_)
    · have h23 : ¬ (0 ≤ x1 ∧ x1 ≤ 99) := ite_no.mp h23
      refine at_iconst 44 X (by decide) dX12_bearing_43 rfl ?_
      refine at_goto 48 X dX12_bearing_44 (by decide) ?_
      refine at_iconst 49 X (by decide) dX12_bearing_48 rfl ?_
      refine at_iconst 50 X (by decide) dX12_bearing_49 rfl ?_
      refine at_callV 53 X _ 12 (ct_bad1 hG E0 1 2 (by decide) hO_E0.2.2.1 (by decide)) clX12 rfl k_125 mo_X12_bad w_1960 vo_X12_bad.1 vo_X12_bad.2 rfl rfl (crm Rt (by decide)) (Nat.le_of_ble_eq_true rfl) dX12_bearing_50 rfl ?_
      rintro _ _ ⟨rfl, rfl⟩
      have hb : ¬ ((0 ≤ x0 ∧ x0 ≤ 10) ∧ (0 ≤ x1 ∧ x1 ≤ 99) ∧ (0 ≤ x2 ∧ x2 ≤ 23) ∧ (0 ≤ x3 ∧ x3 ≤ 1)) := by omega
      refine at_if_eq 56 58 X dX12_bearing_53 rfl (by decide) (fun h53 => ?_) (fun h53 => ?_)
      · exact absurd h53 (by decide)
      · refine at_iconst 57 X (by decide) dX12_bearing_56 rfl ?_
        refine at_iret X Rt ?_ (Nat.le_refl _) (Nat.le_refl _) dX12_bearing_57
        exact Or.inr (⟨hb, rfl, congrArg ov (badR_of hE0)⟩)
    · have h23 : (0 ≤ x1 ∧ x1 ≤ 99) := ite_yes.mp h23
      refine at_iload_n 27 X rfl rfl dX12_bearing_26 rfl ?_
      refine at_callS 30 X (ct_X12_isHour hG E0 x2) mo_X12_isHour w_2074 so_X12_isHour rfl rfl (crm Rt (by decide)) (Nat.le_of_ble_eq_true rfl) dX12_bearing_27 rfl ?_
      rintro _ _ ⟨rfl, rfl⟩
      refine at_if_eq 33 43 X dX12_bearing_30 rfl (by decide) (fun h30 => ?_) (fun h30 => ?_)
      · have h30 : ¬ (0 ≤ x2 ∧ x2 ≤ 23) := ite_no.mp h30
        refine at_iconst 44 X (by decide) dX12_bearing_43 rfl ?_
        refine at_goto 48 X dX12_bearing_44 (by decide) ?_
        refine at_iconst 49 X (by decide) dX12_bearing_48 rfl ?_
        refine at_iconst 50 X (by decide) dX12_bearing_49 rfl ?_
        refine at_callV 53 X _ 12 (ct_bad1 hG E0 1 2 (by decide) hO_E0.2.2.1 (by decide)) clX12 rfl k_125 mo_X12_bad w_1960 vo_X12_bad.1 vo_X12_bad.2 rfl rfl (crm Rt (by decide)) (Nat.le_of_ble_eq_true rfl) dX12_bearing_50 rfl ?_
        rintro _ _ ⟨rfl, rfl⟩
        have hb : ¬ ((0 ≤ x0 ∧ x0 ≤ 10) ∧ (0 ≤ x1 ∧ x1 ≤ 99) ∧ (0 ≤ x2 ∧ x2 ≤ 23) ∧ (0 ≤ x3 ∧ x3 ≤ 1)) := by omega
        refine at_if_eq 56 58 X dX12_bearing_53 rfl (by decide) (fun h53 => ?_) (fun h53 => ?_)
        · exact absurd h53 (by decide)
        · refine at_iconst 57 X (by decide) dX12_bearing_56 rfl ?_
          refine at_iret X Rt ?_ (Nat.le_refl _) (Nat.le_refl _) dX12_bearing_57
          exact Or.inr (⟨hb, rfl, congrArg ov (badR_of hE0)⟩)
      · have h30 : (0 ≤ x2 ∧ x2 ≤ 23) := ite_yes.mp h30
        refine at_iload 35 X rfl dX12_bearing_33 rfl ?_
        refine at_iconst 36 X (by decide) dX12_bearing_35 rfl ?_
        refine at_iconst 37 X (by decide) dX12_bearing_36 rfl ?_
        refine at_callS 40 X (ct_X12_in hG _ _ _) mo_X12_in w_1957 so_X12_in rfl rfl (crm Rt (by decide)) (Nat.le_of_ble_eq_true rfl) dX12_bearing_37 rfl ?_
        rintro _ _ ⟨rfl, rfl⟩
        refine at_if_ne 43 47 X dX12_bearing_40 rfl (by decide) (fun h40 => ?_) (fun h40 => ?_)
        · have h40 : (0 ≤ x3 ∧ x3 ≤ 1) := ite_yes.mp h40
          refine at_iconst 48 X (by decide) dX12_bearing_47 rfl ?_
          refine at_iconst 49 X (by decide) dX12_bearing_48 rfl ?_
          refine at_iconst 50 X (by decide) dX12_bearing_49 rfl ?_
          refine at_callV 53 X _ 12 (ct_bad0 hG E0 1 2 (by decide) hO_E0.2.2.1) clX12 rfl k_125 mo_X12_bad w_1960 vo_X12_bad.1 vo_X12_bad.2 rfl rfl (crm Rt (by decide)) (Nat.le_of_ble_eq_true rfl) dX12_bearing_50 rfl ?_
          rintro _ _ ⟨rfl, rfl⟩
          have hc0 : (0 ≤ x0 ∧ x0 ≤ 10) ∧ (0 ≤ x1 ∧ x1 ≤ 99) ∧ (0 ≤ x2 ∧ x2 ≤ 23) ∧ (0 ≤ x3 ∧ x3 ≤ 1) := by omega
          refine at_if_eq 56 58 X dX12_bearing_53 rfl (by decide) (fun h53 => ?_) (fun h53 => ?_)
          · obtain ⟨s, rfl⟩ : ∃ s : Nat, x0 = (s : Int) := ⟨x0.toNat, by omega⟩
            obtain ⟨t, rfl⟩ : ∃ t : Nat, x1 = (t : Int) := ⟨x1.toNat, by omega⟩
            obtain ⟨h, rfl⟩ : ∃ h : Nat, x2 = (h : Int) := ⟨x2.toNat, by omega⟩
            obtain ⟨m, rfl⟩ : ∃ m : Nat, x3 = (m : Int) := ⟨x3.toNat, by omega⟩
            refine at_aload_n 59 X rfl rfl dX12_bearing_58 rfl ?_
            refine at_iload_n 60 X rfl rfl dX12_bearing_59 rfl ?_
            refine at_iload_n 61 X rfl rfl dX12_bearing_60 rfl ?_
            refine at_iload_n 62 X rfl rfl dX12_bearing_61 rfl ?_
            refine at_iload 64 X rfl dX12_bearing_62 rfl ?_
            refine at_callV 67 X _ 12 (ct_X12_bearingOf hG E0 L hO_E0.1.2.1 hWf.2.2.1 st (by have := hWf.2.2.2.2.2.2; omega) hO_E0.1.2.2.1 s t h m (by omega) (by omega) (by omega) (by omega)) clX12 rfl k_125 mo_X12_bearingOf w_2077 vo_X12_bearingOf.1 vo_X12_bearingOf.2 rfl rfl (crm Rt (by decide)) (Nat.le_of_ble_eq_true rfl) dX12_bearing_64 rfl ?_
            rintro _ _ ⟨rfl, F1, rfl, hK_F1, hq_F1⟩
            have hY_F1 : RXF P E0 F1 := ⟨fun q hq => hq_F1 q (by omega) (by omega) (by omega) (by omega), fun k _ => by rw [hq_F1 125 (by omega) (by omega) (by omega) (by omega)]⟩
            have hO_F1 := hO_E0.nx (hO_E0.1.fr hWf hY_F1 hK_F1) hY_F1 (by rw [hq_F1 125 (by omega) (by omega) (by omega) (by omega)]) (hq_F1 127 (by omega) (by omega) (by omega) (by omega))
            refine at_iret X Rt ?_ (Nat.le_refl _) (Nat.le_refl _) dX12_bearing_67
            exact Or.inl ⟨hc0, (by rfl), _, rfl, hO_F1⟩
          · exact absurd h53 (by decide)
        · have h40 : ¬ (0 ≤ x3 ∧ x3 ≤ 1) := ite_no.mp h40
          refine at_iconst 44 X (by decide) dX12_bearing_43 rfl ?_
          refine at_goto 48 X dX12_bearing_44 (by decide) ?_
          refine at_iconst 49 X (by decide) dX12_bearing_48 rfl ?_
          refine at_iconst 50 X (by decide) dX12_bearing_49 rfl ?_
          refine at_callV 53 X _ 12 (ct_bad1 hG E0 1 2 (by decide) hO_E0.2.2.1 (by decide)) clX12 rfl k_125 mo_X12_bad w_1960 vo_X12_bad.1 vo_X12_bad.2 rfl rfl (crm Rt (by decide)) (Nat.le_of_ble_eq_true rfl) dX12_bearing_50 rfl ?_
          rintro _ _ ⟨rfl, rfl⟩
          have hb : ¬ ((0 ≤ x0 ∧ x0 ≤ 10) ∧ (0 ≤ x1 ∧ x1 ≤ 99) ∧ (0 ≤ x2 ∧ x2 ≤ 23) ∧ (0 ≤ x3 ∧ x3 ≤ 1)) := by omega
          refine at_if_eq 56 58 X dX12_bearing_53 rfl (by decide) (fun h53 => ?_) (fun h53 => ?_)
          · exact absurd h53 (by decide)
          · refine at_iconst 57 X (by decide) dX12_bearing_56 rfl ?_
            refine at_iret X Rt ?_ (Nat.le_refl _) (Nat.le_refl _) dX12_bearing_57
            exact Or.inr (⟨hb, rfl, congrArg ov (badR_of hE0)⟩)
/-- the last of which q holds -/
def lstP (q : Nat → Bool) : Nat → Int := itr (fun i v => if q i = true then (i : Int) else v) (-1)
theorem lst_s (q : Nat → Bool) (n : Nat) : lstP q (n + 1) = if q n = true then (n : Int) else lstP q n := rfl
theorem dX12_places_0 : decode cX12_places 0 = .ok (.aload_n 0, 1) := by decide +kernel
theorem dX12_places_1 : decode cX12_places 1 = .ok (.iconst 0, 1) := by decide +kernel
theorem dX12_places_2 : decode cX12_places 2 = .ok (.putfield 152, 3) := by decide +kernel
theorem dX12_places_5 : decode cX12_places 5 = .ok (.aload_n 0, 1) := by decide +kernel
theorem dX12_places_6 : decode cX12_places 6 = .ok (.aload_n 0, 1) := by decide +kernel
theorem dX12_places_7 : decode cX12_places 7 = .ok (.iload_n 1, 1) := by decide +kernel
theorem dX12_places_8 : decode cX12_places 8 = .ok (.invokevirtual 324, 3) := by decide +kernel
theorem dX12_places_11 : decode cX12_places 11 = .ok (.ifCond .ne 7, 3) := by decide +kernel
theorem dX12_places_14 : decode cX12_places 14 = .ok (.iconst 1, 1) := by decide +kernel
theorem dX12_places_15 : decode cX12_places 15 = .ok (.goto 4, 3) := by decide +kernel
theorem dX12_places_18 : decode cX12_places 18 = .ok (.iconst 0, 1) := by decide +kernel
theorem dX12_places_19 : decode cX12_places 19 = .ok (.iconst 1, 1) := by decide +kernel
theorem dX12_places_20 : decode cX12_places 20 = .ok (.iconst 1, 1) := by decide +kernel
theorem dX12_places_21 : decode cX12_places 21 = .ok (.invokevirtual 244, 3) := by decide +kernel
theorem dX12_places_24 : decode cX12_places 24 = .ok (.ifCond .ne 33, 3) := by decide +kernel
theorem dX12_places_27 : decode cX12_places 27 = .ok (.aload_n 0, 1) := by decide +kernel
theorem dX12_places_28 : decode cX12_places 28 = .ok (.iload_n 2, 1) := by decide +kernel
theorem dX12_places_29 : decode cX12_places 29 = .ok (.invokestatic 314, 3) := by decide +kernel
theorem dX12_places_32 : decode cX12_places 32 = .ok (.ifCond .eq 12, 3) := by decide +kernel
theorem dX12_places_35 : decode cX12_places 35 = .ok (.iload_n 3, 1) := by decide +kernel
theorem dX12_places_36 : decode cX12_places 36 = .ok (.iconst 0, 1) := by decide +kernel
theorem dX12_places_37 : decode cX12_places 37 = .ok (.iconst 2, 1) := by decide +kernel
theorem dX12_places_38 : decode cX12_places 38 = .ok (.invokestatic 186, 3) := by decide +kernel
theorem dX12_places_41 : decode cX12_places 41 = .ok (.ifCond .ne 7, 3) := by decide +kernel
theorem dX12_places_44 : decode cX12_places 44 = .ok (.iconst 1, 1) := by decide +kernel
theorem dX12_places_45 : decode cX12_places 45 = .ok (.goto 4, 3) := by decide +kernel
theorem dX12_places_48 : decode cX12_places 48 = .ok (.iconst 0, 1) := by decide +kernel
theorem dX12_places_49 : decode cX12_places 49 = .ok (.iconst 2, 1) := by decide +kernel
theorem dX12_places_50 : decode cX12_places 50 = .ok (.iconst 2, 1) := by decide +kernel
theorem dX12_places_51 : decode cX12_places 51 = .ok (.invokevirtual 244, 3) := by decide +kernel
theorem dX12_places_54 : decode cX12_places 54 = .ok (.ifCond .eq 5, 3) := by decide +kernel
theorem dX12_places_57 : decode cX12_places 57 = .ok (.iconst 0, 1) := by decide +kernel
theorem dX12_places_58 : decode cX12_places 58 = .ok (.ireturn, 1) := by decide +kernel
theorem dX12_places_59 : decode cX12_places 59 = .ok (.aload_n 0, 1) := by decide +kernel
theorem dX12_places_60 : decode cX12_places 60 = .ok (.invokevirtual 378, 3) := by decide +kernel
theorem dX12_places_63 : decode cX12_places 63 = .ok (.iconst (-1), 1) := by decide +kernel
theorem dX12_places_64 : decode cX12_places 64 = .ok (.istore 4, 2) := by decide +kernel
theorem dX12_places_66 : decode cX12_places 66 = .ok (.iconst (-1), 1) := by decide +kernel
theorem dX12_places_67 : decode cX12_places 67 = .ok (.istore 5, 2) := by decide +kernel
theorem dX12_places_69 : decode cX12_places 69 = .ok (.iconst 0, 1) := by decide +kernel
theorem dX12_places_70 : decode cX12_places 70 = .ok (.istore 6, 2) := by decide +kernel
theorem dX12_places_72 : decode cX12_places 72 = .ok (.iload 6, 2) := by decide +kernel
theorem dX12_places_74 : decode cX12_places 74 = .ok (.aload_n 0, 1) := by decide +kernel
theorem dX12_places_75 : decode cX12_places 75 = .ok (.iload_n 1, 1) := by decide +kernel
theorem dX12_places_76 : decode cX12_places 76 = .ok (.invokevirtual 410, 3) := by decide +kernel
theorem dX12_places_79 : decode cX12_places 79 = .ok (.if_icmp .ge 42, 3) := by decide +kernel
theorem dX12_places_82 : decode cX12_places 82 = .ok (.aload_n 0, 1) := by decide +kernel
theorem dX12_places_83 : decode cX12_places 83 = .ok (.iload_n 1, 1) := by decide +kernel
theorem dX12_places_84 : decode cX12_places 84 = .ok (.iload 6, 2) := by decide +kernel
theorem dX12_places_86 : decode cX12_places 86 = .ok (.iload_n 2, 1) := by decide +kernel
theorem dX12_places_87 : decode cX12_places 87 = .ok (.invokevirtual 413, 3) := by decide +kernel
theorem dX12_places_90 : decode cX12_places 90 = .ok (.ifCond .ne 6, 3) := by decide +kernel
theorem dX12_places_93 : decode cX12_places 93 = .ok (.goto 22, 3) := by decide +kernel
theorem dX12_places_96 : decode cX12_places 96 = .ok (.iload 4, 2) := by decide +kernel
theorem dX12_places_98 : decode cX12_places 98 = .ok (.iconst (-1), 1) := by decide +kernel
theorem dX12_places_99 : decode cX12_places 99 = .ok (.if_icmp .ne 8, 3) := by decide +kernel
theorem dX12_places_102 : decode cX12_places 102 = .ok (.iload 6, 2) := by decide +kernel
theorem dX12_places_104 : decode cX12_places 104 = .ok (.goto 5, 3) := by decide +kernel
theorem dX12_places_107 : decode cX12_places 107 = .ok (.iload 4, 2) := by decide +kernel
theorem dX12_places_109 : decode cX12_places 109 = .ok (.istore 4, 2) := by decide +kernel
theorem dX12_places_111 : decode cX12_places 111 = .ok (.iload 6, 2) := by decide +kernel
theorem dX12_places_113 : decode cX12_places 113 = .ok (.istore 5, 2) := by decide +kernel
theorem dX12_places_115 : decode cX12_places 115 = .ok (.iinc 6 1, 3) := by decide +kernel
theorem dX12_places_118 : decode cX12_places 118 = .ok (.goto (-46), 3) := by decide +kernel
theorem dX12_places_121 : decode cX12_places 121 = .ok (.iload_n 3, 1) := by decide +kernel
theorem dX12_places_122 : decode cX12_places 122 = .ok (.ifCond .ne 12, 3) := by decide +kernel
theorem dX12_places_125 : decode cX12_places 125 = .ok (.aload_n 0, 1) := by decide +kernel
theorem dX12_places_126 : decode cX12_places 126 = .ok (.iload_n 1, 1) := by decide +kernel
theorem dX12_places_127 : decode cX12_places 127 = .ok (.iload_n 2, 1) := by decide +kernel
theorem dX12_places_128 : decode cX12_places 128 = .ok (.invokevirtual 457, 3) := by decide +kernel
theorem dX12_places_131 : decode cX12_places 131 = .ok (.goto 15, 3) := by decide +kernel
theorem dX12_places_134 : decode cX12_places 134 = .ok (.iload_n 3, 1) := by decide +kernel
theorem dX12_places_135 : decode cX12_places 135 = .ok (.iconst 1, 1) := by decide +kernel
theorem dX12_places_136 : decode cX12_places 136 = .ok (.if_icmp .ne 8, 3) := by decide +kernel
theorem dX12_places_139 : decode cX12_places 139 = .ok (.iload 4, 2) := by decide +kernel
theorem dX12_places_141 : decode cX12_places 141 = .ok (.goto 5, 3) := by decide +kernel
theorem dX12_places_144 : decode cX12_places 144 = .ok (.iload 5, 2) := by decide +kernel
theorem dX12_places_146 : decode cX12_places 146 = .ok (.ireturn, 1) := by decide +kernel
theorem ct_X12_places {g : Gw} (hG : GF g) {z : Bool} (E : Mm) (Q : RX) (P : SP) (L : LW) (T K : LN) (d st : Nat) (hWf : WF P L T K d st) (hI_E : RXI E Q P L T K d st) (x0 x1 x2 : Int) : CT g yX12_places cX12_places 7 (some .int) 7 156 0 0 K2 z [mR 125, mI x0, mI x1, mI x2] (ov E) K2 z (fun r' D' => ((0 ≤ x0 ∧ x0 ≤ (bN (sB P) : Int) - 1) ∧ ((0 ≤ x1 ∧ x1 ≤ 23) ∧ (0 ≤ x2 ∧ x2 ≤ 2)) ∧ r' = some (mI (if x2 = 0 then (pcN (gDay P L d) (sB P) x0.toNat x1.toNat : Int) else if x2 = 1 then fstP (fun x => stP (gDay P L d) (sB P) x0.toNat x x1.toNat) (sW P + 1 - bL (sB P) x0.toNat) else lstP (fun x => stP (gDay P L d) (sB P) x0.toNat x x1.toNat) (sW P + 1 - bL (sB P) x0.toNat))) ∧ ∃ E1, D' = ov E1 ∧ RXO E E1 Q P L T K d st) ∨ (¬ (0 ≤ x0 ∧ x0 ≤ (bN (sB P) : Int) - 1) ∧ r' = some (mI 0) ∧ D' = ov (badR E 1 1)) ∨ ((0 ≤ x0 ∧ x0 ≤ (bN (sB P) : Int) - 1) ∧ ¬ ((0 ≤ x1 ∧ x1 ≤ 23) ∧ (0 ≤ x2 ∧ x2 ≤ 2)) ∧ r' = some (mI 0) ∧ D' = ov (badR E 2 2))) := by
  refine CT.mk hG (by decide +kernel) (Nat.le_of_ble_eq_true rfl) (fun κ X Rt _ ok => ?_)
  have hP := hWf.1
  have hN8 := hP.B.N
  have hW40 := hP.W
  have hN11 := hP.N
  have hwN : gN (gDay P L d) ≤ 11 := Nat.le_trans hP.N (by decide)
  have hgw : gW (gDay P L d) = sW P := rfl
  have hDI24 := dyP_DI (G := (gDay P L d)) hP.B hWf.2.2.2.1 (Nat.le_refl 24)
  refine at_aload_n 1 X rfl rfl dX12_places_0 rfl ?_
  refine at_iconst 2 X (by decide) dX12_places_1 rfl ?_
  refine m_putI 5 X f_X12_152 fw_12_0 k_125 rn_125_0 dX12_places_2 rfl ?_
  have hO_E0 := RXO.z hWf hI_E
  generalize hE0 : wr E 125 0 0 = E0 at hO_E0 ⊢
  have hR_E0 := hO_E0.1.1
  refine at_aload_n 6 X rfl rfl dX12_places_5 rfl ?_
  refine at_aload_n 7 X rfl rfl dX12_places_6 rfl ?_
  refine at_iload_n 8 X rfl rfl dX12_places_7 rfl ?_
  refine at_callV 11 X _ 12 (ct_X12_isBeam hG E0 P Q hP hR_E0 x0) clX12 rfl k_125 mo_X12_isBeam w_2122 vo_X12_isBeam.1 vo_X12_isBeam.2 rfl rfl (crm Rt (by decide)) (Nat.le_of_ble_eq_true rfl) dX12_places_8 rfl ?_
  rintro _ _ ⟨rfl, rfl⟩
  refine at_if_ne 14 18 X dX12_places_11 rfl (by decide) (fun h11 => ?_) (fun h11 => ?_)
  · have h11 : (0 ≤ x0 ∧ x0 ≤ (bN (sB P) : Int) - 1) := ite_yes.mp h11
    refine at_iconst 19 X (by decide) dX12_places_18 rfl ?_
    refine at_iconst 20 X (by decide) dX12_places_19 rfl ?_
    refine at_iconst 21 X (by decide) dX12_places_20 rfl ?_
    refine at_callV 24 X _ 12 (ct_bad0 hG E0 1 1 (by decide) hO_E0.2.2.1) clX12 rfl k_125 mo_X12_bad w_1960 vo_X12_bad.1 vo_X12_bad.2 rfl rfl (crm Rt (by decide)) (Nat.le_of_ble_eq_true rfl) dX12_places_21 rfl ?_
    rintro _ _ ⟨rfl, rfl⟩
    have hc0 : 0 ≤ x0 ∧ x0 ≤ (bN (sB P) : Int) - 1 := by omega
    refine at_if_ne 27 57 X dX12_places_24 rfl (by decide) (fun h24 => ?_) (fun h24 => ?_)
    · exact absurd h24 (by decide)
    · refine at_aload_n 28 X rfl rfl dX12_places_27 rfl ?_
      refine at_iload_n 29 X rfl rfl dX12_places_28 rfl ?_
      refine at_callS 32 X (ct_X12_isHour hG E0 x1) mo_X12_isHour w_2074 so_X12_isHour rfl rfl (crm Rt (by decide)) (Nat.le_of_ble_eq_true rfl) dX12_places_29 rfl ?_
      rintro _ _ ⟨rfl, rfl⟩
      refine at_if_eq 35 44 X dX12_places_32 rfl (by decide) (fun h32 => ?_) (fun h32 => ?_)
      · have h32 : ¬ (0 ≤ x1 ∧ x1 ≤ 23) := ite_no.mp h32
        refine at_iconst 45 X (by decide) dX12_places_44 rfl ?_
        refine at_goto 49 X dX12_places_45 (by decide) ?_
        refine at_iconst 50 X (by decide) dX12_places_49 rfl ?_
        refine at_iconst 51 X (by decide) dX12_places_50 rfl ?_
        refine at_callV 54 X _ 12 (ct_bad1 hG E0 2 2 (by decide) hO_E0.2.2.1 (by decide)) clX12 rfl k_125 mo_X12_bad w_1960 vo_X12_bad.1 vo_X12_bad.2 rfl rfl (crm Rt (by decide)) (Nat.le_of_ble_eq_true rfl) dX12_places_51 rfl ?_
        rintro _ _ ⟨rfl, rfl⟩
        have hb : ¬ ((0 ≤ x1 ∧ x1 ≤ 23) ∧ (0 ≤ x2 ∧ x2 ≤ 2)) := by omega
        refine at_if_eq 57 59 X dX12_places_54 rfl (by decide) (fun h54 => ?_) (fun h54 => ?_)
        · exact absurd h54 (by decide)
        · refine at_iconst 58 X (by decide) dX12_places_57 rfl ?_
          refine at_iret X Rt ?_ (Nat.le_refl _) (Nat.le_refl _) dX12_places_58
          exact Or.inr (Or.inr (⟨hc0, hb, rfl, congrArg ov (badR_of hE0)⟩))
      · have h32 : (0 ≤ x1 ∧ x1 ≤ 23) := ite_yes.mp h32
        refine at_iload_n 36 X rfl rfl dX12_places_35 rfl ?_
        refine at_iconst 37 X (by decide) dX12_places_36 rfl ?_
        refine at_iconst 38 X (by decide) dX12_places_37 rfl ?_
        refine at_callS 41 X (ct_X12_in hG _ _ _) mo_X12_in w_1957 so_X12_in rfl rfl (crm Rt (by decide)) (Nat.le_of_ble_eq_true rfl) dX12_places_38 rfl ?_
        rintro _ _ ⟨rfl, rfl⟩
        refine at_if_ne 44 48 X dX12_places_41 rfl (by decide) (fun h41 => ?_) (fun h41 => ?_)
        · have h41 : (0 ≤ x2 ∧ x2 ≤ 2) := ite_yes.mp h41
          refine at_iconst 49 X (by decide) dX12_places_48 rfl ?_
          refine at_iconst 50 X (by decide) dX12_places_49 rfl ?_
          refine at_iconst 51 X (by decide) dX12_places_50 rfl ?_
          refine at_callV 54 X _ 12 (ct_bad0 hG E0 2 2 (by decide) hO_E0.2.2.1) clX12 rfl k_125 mo_X12_bad w_1960 vo_X12_bad.1 vo_X12_bad.2 rfl rfl (crm Rt (by decide)) (Nat.le_of_ble_eq_true rfl) dX12_places_51 rfl ?_
          rintro _ _ ⟨rfl, rfl⟩
          have hc1 : (0 ≤ x1 ∧ x1 ≤ 23) ∧ (0 ≤ x2 ∧ x2 ≤ 2) := by omega
          refine at_if_eq 57 59 X dX12_places_54 rfl (by decide) (fun h54 => ?_) (fun h54 => ?_)
          · obtain ⟨b, rfl⟩ : ∃ b : Nat, x0 = (b : Int) := ⟨x0.toNat, by omega⟩
            obtain ⟨h, rfl⟩ : ∃ h : Nat, x1 = (h : Int) := ⟨x1.toNat, by omega⟩
            have hlb := hP.B.L (b := b) (by omega)
            have hxb := hP.B.X (b := b) (by omega)
            refine at_aload_n 60 X rfl rfl dX12_places_59 rfl ?_
            refine at_callV 63 X _ 12 (ct_X12_laysNow hG E0 Q P L T K d st hWf hO_E0.1) clX12 rfl k_125 mo_X12_laysNow w_2158 vo_X12_laysNow.1 vo_X12_laysNow.2 rfl rfl (crm Rt (by decide)) (Nat.le_of_ble_eq_true rfl) dX12_places_60 rfl ?_
            rintro _ _ ⟨rfl, F1, rfl, hI_F1, hY_F1, hs_F1, hz_F1, hv_F1, h0_F1, h7_F1⟩
            have hO_F1 := hO_E0.nx hI_F1 hY_F1 h0_F1 h7_F1
            have hR_F1 := hI_F1.1
            refine at_iconst 64 X (by decide) dX12_places_63 rfl ?_
            refine at_istore 66 X dX12_places_64 rfl (by decide) ?_
            refine at_iconst 67 X (by decide) dX12_places_66 rfl ?_
            refine at_istore 69 X dX12_places_67 rfl (by decide) ?_
            refine at_iconst 70 X (by decide) dX12_places_69 rfl ?_
            refine at_istore 72 X dX12_places_70 rfl (by decide) ?_
            have J72 : ∀ (f72 : Nat) (x : Nat) (v : Int) (m : Int), 41 - x < f72 → (x ≤ sW P + 1 - bL (sB P) b) → (v = fstP (fun x => stP (gDay P L d) (sB P) b x h) x) → (m = lstP (fun x => stP (gDay P L d) (sB P) b x h) x) → AT g κ K2 z 0 0 72 [(0, mR 125), (1, mI ((b : Nat) : Int)), (2, mI ((h : Nat) : Int)), (3, mI x2), (4, mI v), (5, mI m), (6, mI ((x : Nat) : Int))] [] (ov F1) := by
              intro f72
              induction f72 with
              | zero => intro x v m hf72; omega
              | succ f72 ih72 =>
              intro x v m hf72 hx hv hm
              refine at_iload 74 X rfl dX12_places_72 rfl ?_
              refine at_aload_n 75 X rfl rfl dX12_places_74 rfl ?_
              refine at_iload_n 76 X rfl rfl dX12_places_75 rfl ?_
              refine at_callV 79 X _ 12 (ct_X12_endsOf hG F1 P Q hP hR_F1 b (by omega) (by omega)) clX12 rfl k_125 mo_X12_endsOf w_2269 vo_X12_endsOf.1 vo_X12_endsOf.2 rfl rfl (crm Rt (by decide)) (Nat.le_of_ble_eq_true rfl) dX12_places_76 rfl ?_
              rintro _ _ ⟨rfl, rfl⟩
              refine at_icmp_ge 82 121 X dX12_places_79 rfl (by decide) (fun h79 => ?_) (fun h79 => ?_)
              · refine at_iload_n 122 X rfl rfl dX12_places_121 rfl ?_
                refine at_if_ne 125 134 X dX12_places_122 rfl (by decide) (fun h122 => ?_) (fun h122 => ?_)
                · refine at_iload_n 135 X rfl rfl dX12_places_134 rfl ?_
                  refine at_iconst 136 X (by decide) dX12_places_135 rfl ?_
                  refine at_icmp_ne 139 144 X dX12_places_136 rfl (by decide) (fun h136 => ?_) (fun h136 => ?_)
                  · refine at_iload 146 X rfl dX12_places_144 rfl ?_
                    refine at_iret X Rt ?_ (Nat.le_refl _) (Nat.le_refl _) dX12_places_146
                    exact Or.inl ⟨hc0, hc1, (by (try simp only [Int.toNat_natCast]); first | (rw [if_pos (show x2 = 0 by omega)]; done) | (rw [if_neg (show ¬ x2 = 0 by omega), if_pos (show x2 = 1 by omega), hv, show x = sW P + 1 - bL (sB P) b by omega]; done) | (rw [if_neg (show ¬ x2 = 0 by omega), if_neg (show ¬ x2 = 1 by omega), hm, show x = sW P + 1 - bL (sB P) b by omega]; done)), _, rfl, hO_F1⟩
                  · refine at_iload 141 X rfl dX12_places_139 rfl ?_
                    refine at_goto 146 X dX12_places_141 (by decide) ?_
                    refine at_iret X Rt ?_ (Nat.le_refl _) (Nat.le_refl _) dX12_places_146
                    exact Or.inl ⟨hc0, hc1, (by (try simp only [Int.toNat_natCast]); first | (rw [if_pos (show x2 = 0 by omega)]; done) | (rw [if_neg (show ¬ x2 = 0 by omega), if_pos (show x2 = 1 by omega), hv, show x = sW P + 1 - bL (sB P) b by omega]; done) | (rw [if_neg (show ¬ x2 = 0 by omega), if_neg (show ¬ x2 = 1 by omega), hm, show x = sW P + 1 - bL (sB P) b by omega]; done)), _, rfl, hO_F1⟩
                · refine at_aload_n 126 X rfl rfl dX12_places_125 rfl ?_
                  refine at_iload_n 127 X rfl rfl dX12_places_126 rfl ?_
                  refine at_iload_n 128 X rfl rfl dX12_places_127 rfl ?_
                  refine at_callV 131 X _ 12 (ct_X12_placesOf hG F1 P Q hP hR_F1 (gDay P L d) rfl b h (by omega) (fun c hc => (hs_F1 h c (by omega) hc).2) (by omega) (by omega)) clX12 rfl k_125 mo_X12_placesOf w_2366 vo_X12_placesOf.1 vo_X12_placesOf.2 rfl rfl (crm Rt (by decide)) (Nat.le_of_ble_eq_true rfl) dX12_places_128 rfl ?_
                  rintro _ _ ⟨rfl, rfl⟩
                  refine at_goto 146 X dX12_places_131 (by decide) ?_
                  refine at_iret X Rt ?_ (Nat.le_refl _) (Nat.le_refl _) dX12_places_146
                  exact Or.inl ⟨hc0, hc1, (by (try simp only [Int.toNat_natCast]); first | (rw [if_pos (show x2 = 0 by omega)]; done) | (rw [if_neg (show ¬ x2 = 0 by omega), if_pos (show x2 = 1 by omega), hv, show x = sW P + 1 - bL (sB P) b by omega]; done) | (rw [if_neg (show ¬ x2 = 0 by omega), if_neg (show ¬ x2 = 1 by omega), hm, show x = sW P + 1 - bL (sB P) b by omega]; done)), _, rfl, hO_F1⟩
              · refine at_aload_n 83 X rfl rfl dX12_places_82 rfl ?_
                refine at_iload_n 84 X rfl rfl dX12_places_83 rfl ?_
                refine at_iload 86 X rfl dX12_places_84 rfl ?_
                refine at_iload_n 87 X rfl rfl dX12_places_86 rfl ?_
                refine at_callV 90 X _ 12 (ct_X12_standsAt hG F1 P Q hP hR_F1 (gDay P L d) rfl b x h (by omega) (fun c hc => (hs_F1 h c (by omega) hc).2) (by omega) (by omega)) clX12 rfl k_125 mo_X12_standsAt w_2273 vo_X12_standsAt.1 vo_X12_standsAt.2 rfl rfl (crm Rt (by decide)) (Nat.le_of_ble_eq_true rfl) dX12_places_87 rfl ?_
                rintro _ _ ⟨rfl, rfl⟩
                refine at_if_ne 93 96 X dX12_places_90 rfl (by decide) (fun h90 => ?_) (fun h90 => ?_)
                · have h90 : (stP (gDay P L d) (sB P) b x h = true) := ite_yes.mp h90
                  refine at_iload 98 X rfl dX12_places_96 rfl ?_
                  refine at_iconst 99 X (by decide) dX12_places_98 rfl ?_
                  refine at_icmp_ne 102 107 X dX12_places_99 rfl (by decide) (fun h99 => ?_) (fun h99 => ?_)
                  · refine at_iload 109 X rfl dX12_places_107 rfl ?_
                    refine at_istore 111 X dX12_places_109 rfl (by decide) ?_
                    refine at_iload 113 X rfl dX12_places_111 rfl ?_
                    refine at_istore 115 X dX12_places_113 rfl (by decide) ?_
                    refine at_iincV 118 X ((x + 1 : Nat) : Int) (w32_v (by omega) (by omega) (by omega)) rfl dX12_places_115 rfl (by decide) ?_
                    refine at_goto 72 X dX12_places_118 (by decide) ?_
                    exact at_sub _ (by exact ⟨rfl, rfl, rfl, rfl, rfl, rfl, rfl, trivial⟩) (ih72 (x + 1) v ((x : Nat) : Int) (by first | omega | (simp only [] at *; omega)) (by first | omega | assumption) (by rw [fst_s, ← hv]; first | (rw [if_neg (fun q => h90 q.2)]; done) | (rw [if_pos ⟨by omega, h90⟩]; done) | (rw [if_neg (fun q => absurd q.1 (by omega))]; done)) (by rw [lst_s]; first | (rw [if_pos h90]; done) | (rw [if_neg h90]; assumption)))
                  · refine at_iload 104 X rfl dX12_places_102 rfl ?_
                    refine at_goto 109 X dX12_places_104 (by decide) ?_
                    refine at_istore 111 X dX12_places_109 rfl (by decide) ?_
                    refine at_iload 113 X rfl dX12_places_111 rfl ?_
                    refine at_istore 115 X dX12_places_113 rfl (by decide) ?_
                    refine at_iincV 118 X ((x + 1 : Nat) : Int) (w32_v (by omega) (by omega) (by omega)) rfl dX12_places_115 rfl (by decide) ?_
                    refine at_goto 72 X dX12_places_118 (by decide) ?_
                    exact at_sub _ (by exact ⟨rfl, rfl, rfl, rfl, rfl, rfl, rfl, trivial⟩) (ih72 (x + 1) ((x : Nat) : Int) ((x : Nat) : Int) (by first | omega | (simp only [] at *; omega)) (by first | omega | assumption) (by rw [fst_s, ← hv]; first | (rw [if_neg (fun q => h90 q.2)]; done) | (rw [if_pos ⟨by omega, h90⟩]; done) | (rw [if_neg (fun q => absurd q.1 (by omega))]; done)) (by rw [lst_s]; first | (rw [if_pos h90]; done) | (rw [if_neg h90]; assumption)))
                · have h90 : ¬ (stP (gDay P L d) (sB P) b x h = true) := ite_no.mp h90
                  refine at_goto 115 X dX12_places_93 (by decide) ?_
                  refine at_iincV 118 X ((x + 1 : Nat) : Int) (w32_v (by omega) (by omega) (by omega)) rfl dX12_places_115 rfl (by decide) ?_
                  refine at_goto 72 X dX12_places_118 (by decide) ?_
                  exact at_sub _ (by exact ⟨rfl, rfl, rfl, rfl, rfl, rfl, rfl, trivial⟩) (ih72 (x + 1) v m (by first | omega | (simp only [] at *; omega)) (by first | omega | assumption) (by rw [fst_s, ← hv]; first | (rw [if_neg (fun q => h90 q.2)]; done) | (rw [if_pos ⟨by omega, h90⟩]; done) | (rw [if_neg (fun q => absurd q.1 (by omega))]; done)) (by rw [lst_s]; first | (rw [if_pos h90]; done) | (rw [if_neg h90]; assumption)))
            exact at_sub _ (by exact ⟨rfl, rfl, rfl, rfl, rfl, rfl, rfl, trivial⟩) (J72 _ 0 (-1) (-1) (Nat.lt_succ_self _) (by first | omega | assumption | rfl) rfl rfl)
          · exact absurd h54 (by decide)
        · have h41 : ¬ (0 ≤ x2 ∧ x2 ≤ 2) := ite_no.mp h41
          refine at_iconst 45 X (by decide) dX12_places_44 rfl ?_
          refine at_goto 49 X dX12_places_45 (by decide) ?_
          refine at_iconst 50 X (by decide) dX12_places_49 rfl ?_
          refine at_iconst 51 X (by decide) dX12_places_50 rfl ?_
          refine at_callV 54 X _ 12 (ct_bad1 hG E0 2 2 (by decide) hO_E0.2.2.1 (by decide)) clX12 rfl k_125 mo_X12_bad w_1960 vo_X12_bad.1 vo_X12_bad.2 rfl rfl (crm Rt (by decide)) (Nat.le_of_ble_eq_true rfl) dX12_places_51 rfl ?_
          rintro _ _ ⟨rfl, rfl⟩
          have hb : ¬ ((0 ≤ x1 ∧ x1 ≤ 23) ∧ (0 ≤ x2 ∧ x2 ≤ 2)) := by omega
          refine at_if_eq 57 59 X dX12_places_54 rfl (by decide) (fun h54 => ?_) (fun h54 => ?_)
          · exact absurd h54 (by decide)
          · refine at_iconst 58 X (by decide) dX12_places_57 rfl ?_
            refine at_iret X Rt ?_ (Nat.le_refl _) (Nat.le_refl _) dX12_places_58
            exact Or.inr (Or.inr (⟨hc0, hb, rfl, congrArg ov (badR_of hE0)⟩))
  · have h11 : ¬ (0 ≤ x0 ∧ x0 ≤ (bN (sB P) : Int) - 1) := ite_no.mp h11
    refine at_iconst 15 X (by decide) dX12_places_14 rfl ?_
    refine at_goto 19 X dX12_places_15 (by decide) ?_
    refine at_iconst 20 X (by decide) dX12_places_19 rfl ?_
    refine at_iconst 21 X (by decide) dX12_places_20 rfl ?_
    refine at_callV 24 X _ 12 (ct_bad1 hG E0 1 1 (by decide) hO_E0.2.2.1 (by decide)) clX12 rfl k_125 mo_X12_bad w_1960 vo_X12_bad.1 vo_X12_bad.2 rfl rfl (crm Rt (by decide)) (Nat.le_of_ble_eq_true rfl) dX12_places_21 rfl ?_
    rintro _ _ ⟨rfl, rfl⟩
    have hb : ¬ (0 ≤ x0 ∧ x0 ≤ (bN (sB P) : Int) - 1) := by omega
    refine at_if_ne 27 57 X dX12_places_24 rfl (by decide) (fun h24 => ?_) (fun h24 => ?_)
    · refine at_iconst 58 X (by decide) dX12_places_57 rfl ?_
      refine at_iret X Rt ?_ (Nat.le_refl _) (Nat.le_refl _) dX12_places_58
      exact Or.inr (Or.inl ⟨hb, rfl, congrArg ov (badR_of hE0)⟩)
    · exact absurd h24 (by decide)
