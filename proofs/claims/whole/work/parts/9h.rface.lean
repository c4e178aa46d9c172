theorem ct_all1 {g : Gw} (hG : GF g) {z : Bool} (E : Mm) (a n : Nat) (hK : K2[a]? = some (0, n)) (he : rtab.getD a [] = []) (ha : 654 ≤ a) (hn : 3740 ≤ n ∧ n < 10000) : CT g yX12_putsAll cX12_putsAll 5 none 2 47 0 0 K2 z [mR 125, mR a, mI 1] (ov E) K2 z (fun r D' => r = none ∧ ∃ E1, D' = ov E1 ∧ ((∀ i, i < 10 → E1 (142 + i) 1 = E a i) ∧ (∀ i, i < 8 → E1 (228 + i) 0 = E a (10 + 21 * i)) ∧ ∀ i j, i < 8 → j < 20 → E1 (246 + i) j = E a (10 + 21 * i + 1 + j)) ∧ (E1 125 45 = E a 178 ∧ E1 125 46 = E a 179) ∧ (∀ m i, m < 20 → i < 178 → E1 (633 + m) i = E a (180 + 178 * m + i)) ∧ ∀ q k, ¬ (142 ≤ q ∧ q ≤ 151 ∧ k = 1) → ¬ (228 ≤ q ∧ q < 228 + 8 ∧ k = 0) → ¬ (246 ≤ q ∧ q < 246 + 8 ∧ k < 20) → ¬ (q = 125 ∧ (k = 45 ∨ k = 46 ∨ k = 48)) → ¬ (633 ≤ q ∧ q ≤ 652) → E1 q k = E q k) := by
  refine CT.mk hG (by decide +kernel) (Nat.le_of_ble_eq_true rfl) (fun κ X Rt _ ok => ?_)
  refine at_aload_n 1 X rfl rfl dX12_putsAll_0 rfl ?_
  refine at_iconst 2 X (by decide) dX12_putsAll_1 rfl ?_
  refine m_putI 5 X f_X12_460 fw_12_48 k_125 rn_125_48 dX12_putsAll_2 rfl ?_
  refine at_aload_n 6 X rfl rfl dX12_putsAll_5 rfl ?_
  refine at_aload_n 7 X rfl rfl dX12_putsAll_6 rfl ?_
  refine at_iload_n 8 X rfl rfl dX12_putsAll_7 rfl ?_
  refine at_callV 11 X _ 12 (ct_puts1 hG (wr E 125 48 0) a n hK he (by omega) (by omega) (wr_s _ _ _ _)) clX12 rfl k_125 mo_X12_putsChanged w_2410 vo_X12_putsChanged.1 vo_X12_putsChanged.2 rfl rfl (crm Rt (by decide)) (Nat.le_of_ble_eq_true rfl) dX12_putsAll_8 rfl ?_
  rintro _ _ ⟨rfl, F0, rfl, g1, g2, g3, g4, g5⟩
  have hsp_F0 : F0 125 48 = ((178 : Nat) : Int) := g4
  have hra : ∀ i, (wr E 125 48 0) a i = E a i := fun i => wr_o (by omega)
  have hb0 : (∀ i, i < 10 → F0 (142 + i) 1 = E a i) ∧ (∀ i, i < 8 → F0 (228 + i) 0 = E a (10 + 21 * i)) ∧ ∀ i j, i < 8 → j < 20 → F0 (246 + i) j = E a (10 + 21 * i + 1 + j) := ⟨fun i hi => (g1 i hi).trans (hra _), fun i hi => (g2 i hi).trans (hra _), fun i j hi hj => (g3 i j hi hj).trans (hra _)⟩
  have hf0 : ∀ q k, ¬ (142 ≤ q ∧ q ≤ 151 ∧ k = 1) → ¬ (228 ≤ q ∧ q < 228 + 8 ∧ k = 0) → ¬ (246 ≤ q ∧ q < 246 + 8 ∧ k < 20) → ¬ (q = 125 ∧ k = 48) → F0 q k = E q k := fun q k k1 k2 k3 k4 => (g5 q k k1 k2 k3 k4).trans (wr_o (by omega))
  have ha0 : ∀ i, F0 a i = E a i := fun i => hf0 a i (by omega) (by omega) (by omega) (by omega)
  refine at_aload_n 12 X rfl rfl dX12_putsAll_11 rfl ?_
  refine at_aload_n 13 X rfl rfl dX12_putsAll_12 rfl ?_
  refine at_aload_n 14 X rfl rfl dX12_putsAll_13 rfl ?_
  refine at_aload_n 15 X rfl rfl dX12_putsAll_14 rfl ?_
  refine m_getIV 18 X (F0 125 45) rfl f_X12_267 k_125 rn_125_45 dX12_putsAll_15 rfl ?_
  refine at_iload_n 19 X rfl rfl dX12_putsAll_18 rfl ?_
  refine at_callV 22 X _ 12 (ct_keeps1 hG F0 a n (178) hK he (by omega) (by omega) hn.2 hsp_F0 (F0 125 45)) clX12 rfl k_125 mo_X12_keeps w_2414 vo_X12_keeps.1 vo_X12_keeps.2 rfl rfl (crm Rt (by decide)) (Nat.le_of_ble_eq_true rfl) dX12_putsAll_19 rfl ?_
  rintro _ _ ⟨rfl, rfl⟩
  rw [show (F0) a (178) = E a 178 from by first | exact ha0 _ | (rw [wr_o (by omega), wr_o (by omega)]; exact ha0 _) | exact hf_F2 a _ (by omega) (by omega) (by omega) (by omega) (by omega)]
  refine m_putI 25 X f_X12_267 fw_12_45 k_125 rn_125_45 dX12_putsAll_22 rfl ?_
  refine at_aload_n 26 X rfl rfl dX12_putsAll_25 rfl ?_
  refine at_aload_n 27 X rfl rfl dX12_putsAll_26 rfl ?_
  refine at_aload_n 28 X rfl rfl dX12_putsAll_27 rfl ?_
  refine at_aload_n 29 X rfl rfl dX12_putsAll_28 rfl ?_
  refine m_getIV 32 X (F0 125 46) ((wr_o (by omega)).trans ((wr_o (by omega)).trans rfl)) f_X12_270 k_125 rn_125_46 dX12_putsAll_29 rfl ?_
  refine at_iload_n 33 X rfl rfl dX12_putsAll_32 rfl ?_
  refine at_callV 36 X _ 12 (ct_keeps1 hG (wr (wr F0 125 48 ((178 + 1 : Nat) : Int)) 125 45 (E a 178)) a n (179) hK he (by omega) (by omega) hn.2 (by rw [wr_o (by omega)]; exact (wr_s _ _ _ _).trans (by omega)) (F0 125 46)) clX12 rfl k_125 mo_X12_keeps w_2414 vo_X12_keeps.1 vo_X12_keeps.2 rfl rfl (crm Rt (by decide)) (Nat.le_of_ble_eq_true rfl) dX12_putsAll_33 rfl ?_
  rintro _ _ ⟨rfl, rfl⟩
  rw [show (wr (wr F0 125 48 ((178 + 1 : Nat) : Int)) 125 45 (E a 178)) a (179) = E a 179 from by first | exact ha0 _ | (rw [wr_o (by omega), wr_o (by omega)]; exact ha0 _) | exact hf_F2 a _ (by omega) (by omega) (by omega) (by omega) (by omega)]
  refine m_putI 39 X f_X12_270 fw_12_46 k_125 rn_125_46 dX12_putsAll_36 rfl ?_
  refine at_iconst 40 X (by decide) dX12_putsAll_39 rfl ?_
  refine at_istore_n 41 X rfl dX12_putsAll_40 rfl (by decide) ?_
  have J41 : ∀ (f41 : Nat) (F : Mm) (k : Nat), 21 - k < f41 → (k ≤ 20) → (F 125 48 = ((180 + 178 * k : Nat) : Int)) → (((∀ i, i < 10 → F (142 + i) 1 = E a i) ∧ (∀ i, i < 8 → F (228 + i) 0 = E a (10 + 21 * i)) ∧ ∀ i j, i < 8 → j < 20 → F (246 + i) j = E a (10 + 21 * i + 1 + j))) → ((F 125 45 = E a 178 ∧ F 125 46 = E a 179)) → ((∀ q k, ¬ (142 ≤ q ∧ q ≤ 151 ∧ k = 1) → ¬ (228 ≤ q ∧ q < 228 + 8 ∧ k = 0) → ¬ (246 ≤ q ∧ q < 246 + 8 ∧ k < 20) → ¬ (q = 125 ∧ (k = 45 ∨ k = 46 ∨ k = 48)) → ¬ (633 ≤ q ∧ q ≤ 652) → F q k = E q k)) → ((∀ m i, m < k → i < 178 → F (633 + m) i = E a (180 + 178 * m + i))) → AT g κ K2 z 0 0 41 [(0, mR 125), (1, mR a), (2, mI 1), (3, mI ((k : Nat) : Int))] [] (ov F) := by
    intro f41
    induction f41 with
    | zero => intro F k hf41; omega
    | succ f41 ih41 =>
    intro F k hf41 hkk hsp_F hb_F hd_F hf_F hm_F
    refine at_iload_n 42 X rfl rfl dX12_putsAll_41 rfl ?_
    refine at_bipush 44 X (by decide) (by decide) dX12_putsAll_42 rfl ?_
    refine at_icmp_ge 47 94 X dX12_putsAll_44 rfl (by decide) (fun h44 => ?_) (fun h44 => ?_)
    · refine at_vret X Rt ?_ (Nat.le_refl _) (Nat.le_refl _) dX12_putsAll_94
      obtain rfl : k = 20 := by omega
      exact ⟨rfl, F, rfl, hb_F, hd_F, hm_F, hf_F⟩
    · refine at_iconst 48 X (by decide) dX12_putsAll_47 rfl ?_
      refine at_istore 50 X dX12_putsAll_48 rfl (by decide) ?_
      have J50 : ∀ (f50 : Nat) (F2 : Mm) (j : Nat), 179 - j < f50 → (j ≤ 178) → (F2 125 48 = ((180 + 178 * k + j : Nat) : Int)) → (((∀ i, i < 10 → F2 (142 + i) 1 = E a i) ∧ (∀ i, i < 8 → F2 (228 + i) 0 = E a (10 + 21 * i)) ∧ ∀ i j, i < 8 → j < 20 → F2 (246 + i) j = E a (10 + 21 * i + 1 + j))) → ((F2 125 45 = E a 178 ∧ F2 125 46 = E a 179)) → ((∀ q k, ¬ (142 ≤ q ∧ q ≤ 151 ∧ k = 1) → ¬ (228 ≤ q ∧ q < 228 + 8 ∧ k = 0) → ¬ (246 ≤ q ∧ q < 246 + 8 ∧ k < 20) → ¬ (q = 125 ∧ (k = 45 ∨ k = 46 ∨ k = 48)) → ¬ (633 ≤ q ∧ q ≤ 652) → F2 q k = E q k)) → ((∀ m i, m < k → i < 178 → F2 (633 + m) i = E a (180 + 178 * m + i))) → ((∀ i, i < j → F2 (633 + k) i = E a (180 + 178 * k + i))) → AT g κ K2 z 0 0 50 [(0, mR 125), (1, mR a), (2, mI 1), (3, mI ((k : Nat) : Int)), (4, mI ((j : Nat) : Int))] [] (ov F2) := by
        intro f50
        induction f50 with
        | zero => intro F2 j hf50; omega
        | succ f50 ih50 =>
        intro F2 j hf50 hj hsp_F2 hb_F2 hd_F2 hf_F2 hm_F2 hn_F2
        refine at_iload 52 X rfl dX12_putsAll_50 rfl ?_
        refine at_sipush 55 X (by decide) (by decide) dX12_putsAll_52 rfl ?_
        refine at_icmp_ge 58 88 X dX12_putsAll_55 rfl (by decide) (fun h55 => ?_) (fun h55 => ?_)
        · refine at_iincV 91 X ((k + 1 : Nat) : Int) (w32_v (by omega) (by omega) (by omega)) rfl dX12_putsAll_88 rfl (by decide) ?_
          refine at_goto 41 X dX12_putsAll_91 (by decide) ?_
          exact at_sub _ (by exact ⟨rfl, rfl, rfl, rfl, trivial⟩) (ih41 F2 (k + 1) (by first | omega | (simp only [] at *; omega)) (by first | omega | assumption) (hsp_F2.trans (by omega)) hb_F2 hd_F2 hf_F2 (fun m i hm hi => if e : m = k then by rw [e]; exact hn_F2 i (by omega) else hm_F2 m i (by omega) hi))
        · refine at_aload_n 59 X rfl rfl dX12_putsAll_58 rfl ?_
          refine m_getR 62 X f_X12_104 k_125 r_125_41 dX12_putsAll_59 rfl ?_
          refine at_iload_n 63 X rfl rfl dX12_putsAll_62 rfl ?_
          refine m_aaloadV 64 X k (by omega) k_632 (by decide) (by omega) (rr_632 _ (by omega)) dX12_putsAll_63 rfl ?_
          refine at_iload 66 X rfl dX12_putsAll_64 rfl ?_
          refine at_aload_n 67 X rfl rfl dX12_putsAll_66 rfl ?_
          refine at_aload_n 68 X rfl rfl dX12_putsAll_67 rfl ?_
          refine at_aload_n 69 X rfl rfl dX12_putsAll_68 rfl ?_
          refine m_getR 72 X f_X12_104 k_125 r_125_41 dX12_putsAll_69 rfl ?_
          refine at_iload_n 73 X rfl rfl dX12_putsAll_72 rfl ?_
          refine m_aaloadV 74 X k (by omega) k_632 (by decide) (by omega) (rr_632 _ (by omega)) dX12_putsAll_73 rfl ?_
          refine at_iload 76 X rfl dX12_putsAll_74 rfl ?_
          refine m_ialoadV 77 X j (by omega) (F2 (633 + k) j) rfl (kr_632 _ (by omega)) (er_632 _ (by omega)) (by omega) dX12_putsAll_76 rfl ?_
          refine at_iload_n 78 X rfl rfl dX12_putsAll_77 rfl ?_
          refine at_callV 81 X _ 12 (ct_keeps1 hG F2 a n (180 + 178 * k + j) hK he (by omega) (by omega) hn.2 hsp_F2 (F2 (633 + k) j)) clX12 rfl k_125 mo_X12_keeps w_2414 vo_X12_keeps.1 vo_X12_keeps.2 rfl rfl (crm Rt (by decide)) (Nat.le_of_ble_eq_true rfl) dX12_putsAll_78 rfl ?_
          rintro _ _ ⟨rfl, rfl⟩
          rw [show (F2) a (180 + 178 * k + j) = E a (180 + 178 * k + j) from by first | exact ha0 _ | (rw [wr_o (by omega), wr_o (by omega)]; exact ha0 _) | exact hf_F2 a _ (by omega) (by omega) (by omega) (by omega) (by omega)]
          refine m_iastoreV 82 X j (by omega) (kr_632 _ (by omega)) (er_632 _ (by omega)) (by omega) dX12_putsAll_81 rfl ?_
          refine at_iincV 85 X ((j + 1 : Nat) : Int) (w32_v (by omega) (by omega) (by omega)) rfl dX12_putsAll_82 rfl (by decide) ?_
          refine at_goto 50 X dX12_putsAll_85 (by decide) ?_
          exact at_sub _ (by exact ⟨rfl, rfl, rfl, rfl, rfl, trivial⟩) (ih50 (wr (wr F2 125 48 ((180 + 178 * k + j + 1 : Nat) : Int)) (633 + k) j (E a (180 + 178 * k + j))) (j + 1) (by first | omega | (simp only [] at *; omega)) (by first | omega | assumption) (by rw [wr_o (by omega)]; exact (wr_s _ _ _ _).trans (by omega)) ⟨fun i hi => by rw [wr_o (by omega), wr_o (by omega)]; exact hb_F2.1 i hi, fun i hi => by rw [wr_o (by omega), wr_o (by omega)]; exact hb_F2.2.1 i hi, fun i j hi hj => by rw [wr_o (by omega), wr_o (by omega)]; exact hb_F2.2.2 i j hi hj⟩ ⟨by rw [wr_o (by omega), wr_o (by omega)]; exact hd_F2.1, by rw [wr_o (by omega), wr_o (by omega)]; exact hd_F2.2⟩ (fun q k k1 k2 k3 k4 k5 => by rw [wr_o (by omega), wr_o (by omega)]; exact hf_F2 q k k1 k2 k3 k4 k5) (fun m i hm hi => by rw [wr_o (by omega), wr_o (by omega)]; exact hm_F2 m i hm hi) (fun i hi => if e : i = j then by rw [e, wr_s] else by rw [wr_o (by omega), wr_o (by omega)]; exact hn_F2 i (by omega)))
      exact at_sub _ (by exact ⟨rfl, rfl, rfl, rfl, rfl, trivial⟩) (J50 _ F 0 (Nat.lt_succ_self _) (by first | omega | assumption | rfl) (hsp_F.trans (by omega)) hb_F hd_F hf_F hm_F (fun i hi => absurd hi (Nat.not_lt_zero i)))
  exact at_sub _ (by exact ⟨rfl, rfl, rfl, rfl, trivial⟩) (J41 _ (wr (wr (wr (wr F0 125 48 ((178 + 1 : Nat) : Int)) 125 45 (E a 178)) 125 48 ((179 + 1 : Nat) : Int)) 125 46 (E a 179)) 0 (Nat.lt_succ_self _) (by first | omega | assumption | rfl) (by rw [wr_o (by omega)]; exact (wr_s _ _ _ _).trans (by omega)) ⟨fun i hi => by simp (disch := omega) only [wr_o]; exact hb0.1 i hi, fun i hi => by simp (disch := omega) only [wr_o]; exact hb0.2.1 i hi, fun i j hi hj => by simp (disch := omega) only [wr_o]; exact hb0.2.2 i j hi hj⟩ ⟨by simp (disch := omega) only [wr_s, wr_o], by simp (disch := omega) only [wr_s, wr_o]⟩ (fun q k k1 k2 k3 k4 k5 => by simp (disch := omega) only [wr_o]; exact hf0 q k k1 k2 k3 (by omega)) (fun m i hm => absurd hm (Nat.not_lt_zero m)))
