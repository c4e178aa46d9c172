theorem dX12_putsAll_0 : decode cX12_putsAll 0 = .ok (.aload_n 0, 1) := by decide +kernel
theorem dX12_putsAll_1 : decode cX12_putsAll 1 = .ok (.iconst 0, 1) := by decide +kernel
theorem dX12_putsAll_2 : decode cX12_putsAll 2 = .ok (.putfield 460, 3) := by decide +kernel
theorem dX12_putsAll_5 : decode cX12_putsAll 5 = .ok (.aload_n 0, 1) := by decide +kernel
theorem dX12_putsAll_6 : decode cX12_putsAll 6 = .ok (.aload_n 1, 1) := by decide +kernel
theorem dX12_putsAll_7 : decode cX12_putsAll 7 = .ok (.iload_n 2, 1) := by decide +kernel
theorem dX12_putsAll_8 : decode cX12_putsAll 8 = .ok (.invokevirtual 467, 3) := by decide +kernel
theorem dX12_putsAll_11 : decode cX12_putsAll 11 = .ok (.aload_n 0, 1) := by decide +kernel
theorem dX12_putsAll_12 : decode cX12_putsAll 12 = .ok (.aload_n 0, 1) := by decide +kernel
theorem dX12_putsAll_13 : decode cX12_putsAll 13 = .ok (.aload_n 1, 1) := by decide +kernel
theorem dX12_putsAll_14 : decode cX12_putsAll 14 = .ok (.aload_n 0, 1) := by decide +kernel
theorem dX12_putsAll_15 : decode cX12_putsAll 15 = .ok (.getfield 267, 3) := by decide +kernel
theorem dX12_putsAll_18 : decode cX12_putsAll 18 = .ok (.iload_n 2, 1) := by decide +kernel
theorem dX12_putsAll_19 : decode cX12_putsAll 19 = .ok (.invokevirtual 463, 3) := by decide +kernel
theorem dX12_putsAll_22 : decode cX12_putsAll 22 = .ok (.putfield 267, 3) := by decide +kernel
theorem dX12_putsAll_25 : decode cX12_putsAll 25 = .ok (.aload_n 0, 1) := by decide +kernel
theorem dX12_putsAll_26 : decode cX12_putsAll 26 = .ok (.aload_n 0, 1) := by decide +kernel
theorem dX12_putsAll_27 : decode cX12_putsAll 27 = .ok (.aload_n 1, 1) := by decide +kernel
theorem dX12_putsAll_28 : decode cX12_putsAll 28 = .ok (.aload_n 0, 1) := by decide +kernel
theorem dX12_putsAll_29 : decode cX12_putsAll 29 = .ok (.getfield 270, 3) := by decide +kernel
theorem dX12_putsAll_32 : decode cX12_putsAll 32 = .ok (.iload_n 2, 1) := by decide +kernel
theorem dX12_putsAll_33 : decode cX12_putsAll 33 = .ok (.invokevirtual 463, 3) := by decide +kernel
theorem dX12_putsAll_36 : decode cX12_putsAll 36 = .ok (.putfield 270, 3) := by decide +kernel
theorem dX12_putsAll_39 : decode cX12_putsAll 39 = .ok (.iconst 0, 1) := by decide +kernel
theorem dX12_putsAll_40 : decode cX12_putsAll 40 = .ok (.istore_n 3, 1) := by decide +kernel
theorem dX12_putsAll_41 : decode cX12_putsAll 41 = .ok (.iload_n 3, 1) := by decide +kernel
theorem dX12_putsAll_42 : decode cX12_putsAll 42 = .ok (.bipush 20, 2) := by decide +kernel
theorem dX12_putsAll_44 : decode cX12_putsAll 44 = .ok (.if_icmp .ge 50, 3) := by decide +kernel
theorem dX12_putsAll_47 : decode cX12_putsAll 47 = .ok (.iconst 0, 1) := by decide +kernel
theorem dX12_putsAll_48 : decode cX12_putsAll 48 = .ok (.istore 4, 2) := by decide +kernel
theorem dX12_putsAll_50 : decode cX12_putsAll 50 = .ok (.iload 4, 2) := by decide +kernel
theorem dX12_putsAll_52 : decode cX12_putsAll 52 = .ok (.sipush 178, 3) := by decide +kernel
theorem dX12_putsAll_55 : decode cX12_putsAll 55 = .ok (.if_icmp .ge 33, 3) := by decide +kernel
theorem dX12_putsAll_58 : decode cX12_putsAll 58 = .ok (.aload_n 0, 1) := by decide +kernel
theorem dX12_putsAll_59 : decode cX12_putsAll 59 = .ok (.getfield 104, 3) := by decide +kernel
theorem dX12_putsAll_62 : decode cX12_putsAll 62 = .ok (.iload_n 3, 1) := by decide +kernel
theorem dX12_putsAll_63 : decode cX12_putsAll 63 = .ok (.aaload, 1) := by decide +kernel
theorem dX12_putsAll_64 : decode cX12_putsAll 64 = .ok (.iload 4, 2) := by decide +kernel
theorem dX12_putsAll_66 : decode cX12_putsAll 66 = .ok (.aload_n 0, 1) := by decide +kernel
theorem dX12_putsAll_67 : decode cX12_putsAll 67 = .ok (.aload_n 1, 1) := by decide +kernel
theorem dX12_putsAll_68 : decode cX12_putsAll 68 = .ok (.aload_n 0, 1) := by decide +kernel
theorem dX12_putsAll_69 : decode cX12_putsAll 69 = .ok (.getfield 104, 3) := by decide +kernel
theorem dX12_putsAll_72 : decode cX12_putsAll 72 = .ok (.iload_n 3, 1) := by decide +kernel
theorem dX12_putsAll_73 : decode cX12_putsAll 73 = .ok (.aaload, 1) := by decide +kernel
theorem dX12_putsAll_74 : decode cX12_putsAll 74 = .ok (.iload 4, 2) := by decide +kernel
theorem dX12_putsAll_76 : decode cX12_putsAll 76 = .ok (.iaload, 1) := by decide +kernel
theorem dX12_putsAll_77 : decode cX12_putsAll 77 = .ok (.iload_n 2, 1) := by decide +kernel
theorem dX12_putsAll_78 : decode cX12_putsAll 78 = .ok (.invokevirtual 463, 3) := by decide +kernel
theorem dX12_putsAll_81 : decode cX12_putsAll 81 = .ok (.iastore, 1) := by decide +kernel
theorem dX12_putsAll_82 : decode cX12_putsAll 82 = .ok (.iinc 4 1, 3) := by decide +kernel
theorem dX12_putsAll_85 : decode cX12_putsAll 85 = .ok (.goto (-35), 3) := by decide +kernel
theorem dX12_putsAll_88 : decode cX12_putsAll 88 = .ok (.iinc 3 1, 3) := by decide +kernel
theorem dX12_putsAll_91 : decode cX12_putsAll 91 = .ok (.goto (-50), 3) := by decide +kernel
theorem dX12_putsAll_94 : decode cX12_putsAll 94 = .ok (.return_, 1) := by decide +kernel
theorem ct_all0 {g : Gw} (hG : GF g) {z : Bool} (E : Mm) (a n : Nat) (hK : K2[a]? = some (0, n)) (he : rtab.getD a [] = []) (ha : 654 ≤ a) (hn : 3740 ≤ n ∧ n < 10000) : CT g yX12_putsAll cX12_putsAll 5 none 2 47 0 0 K2 z [mR 125, mR a, mI 0] (ov E) K2 z (fun r D' => r = none ∧ ∃ E1, D' = ov E1 ∧ (∀ i, i < 178 → E1 a i = snI E i) ∧ E1 a 178 = E 125 45 ∧ E1 a 179 = E 125 46 ∧ (∀ m i, m < 20 → i < 178 → E1 a (180 + 178 * m + i) = E (633 + m) i) ∧ (∀ q, q ≠ a → q ≠ 125 → E1 q = E q) ∧ ∀ k, k ≠ 48 → E1 125 k = E 125 k) := by
  refine CT.mk hG (by decide +kernel) (Nat.le_of_ble_eq_true rfl) (fun κ X Rt _ ok => ?_)
  refine at_aload_n 1 X rfl rfl dX12_putsAll_0 rfl ?_
  refine at_iconst 2 X (by decide) dX12_putsAll_1 rfl ?_
  refine m_putI 5 X f_X12_460 fw_12_48 k_125 rn_125_48 dX12_putsAll_2 rfl ?_
  refine at_aload_n 6 X rfl rfl dX12_putsAll_5 rfl ?_
  refine at_aload_n 7 X rfl rfl dX12_putsAll_6 rfl ?_
  refine at_iload_n 8 X rfl rfl dX12_putsAll_7 rfl ?_
  refine at_callV 11 X _ 12 (ct_puts0 hG (wr E 125 48 0) a n hK he (by omega) (by omega) (wr_s _ _ _ _)) clX12 rfl k_125 mo_X12_putsChanged w_2410 vo_X12_putsChanged.1 vo_X12_putsChanged.2 rfl rfl (crm Rt (by decide)) (Nat.le_of_ble_eq_true rfl) dX12_putsAll_8 rfl ?_
  rintro _ _ ⟨rfl, F0, rfl, g1, g2, g3, g4, g5⟩
  have hsp_F0 : F0 125 48 = ((178 : Nat) : Int) := g2
  have hr0 : ∀ i, i < 178 → F0 a i = snI E i := fun i hi => (g1 i hi).trans (snI_congr (fun q hq => wr_row (by omega)) hi)
  have hf0 : ∀ q, q ≠ a → q ≠ 125 → F0 q = E q := fun q h1 h2 => (g3 q h1 h2).trans (wr_row h2)
  have hk0 : ∀ k, k ≠ 48 → F0 125 k = E 125 k := fun k hk => (g4 k hk).trans (wr_o (Or.inr hk))
  refine at_aload_n 12 X rfl rfl dX12_putsAll_11 rfl ?_
  refine at_aload_n 13 X rfl rfl dX12_putsAll_12 rfl ?_
  refine at_aload_n 14 X rfl rfl dX12_putsAll_13 rfl ?_
  refine at_aload_n 15 X rfl rfl dX12_putsAll_14 rfl ?_
  refine m_getIV 18 X (E 125 45) (hk0 45 (by decide)) f_X12_267 k_125 rn_125_45 dX12_putsAll_15 rfl ?_
  refine at_iload_n 19 X rfl rfl dX12_putsAll_18 rfl ?_
  refine at_callV 22 X _ 12 (ct_keeps0 hG F0 a n (178) hK he (by omega) (by omega) hn.2 hsp_F0 (E 125 45)) clX12 rfl k_125 mo_X12_keeps w_2414 vo_X12_keeps.1 vo_X12_keeps.2 rfl rfl (crm Rt (by decide)) (Nat.le_of_ble_eq_true rfl) dX12_putsAll_19 rfl ?_
  rintro _ _ ⟨rfl, rfl⟩
  refine m_putI 25 X f_X12_267 fw_12_45 k_125 rn_125_45 dX12_putsAll_22 rfl ?_
  refine at_aload_n 26 X rfl rfl dX12_putsAll_25 rfl ?_
  refine at_aload_n 27 X rfl rfl dX12_putsAll_26 rfl ?_
  refine at_aload_n 28 X rfl rfl dX12_putsAll_27 rfl ?_
  refine at_aload_n 29 X rfl rfl dX12_putsAll_28 rfl ?_
  refine m_getIV 32 X (E 125 46) ((wr_o (by omega)).trans ((wr_o (by omega)).trans ((wr_o (by omega)).trans (hk0 46 (by decide))))) f_X12_270 k_125 rn_125_46 dX12_putsAll_29 rfl ?_
  refine at_iload_n 33 X rfl rfl dX12_putsAll_32 rfl ?_
  refine at_callV 36 X _ 12 (ct_keeps0 hG (wr (wr (wr F0 a 178 (E 125 45)) 125 48 ((178 + 1 : Nat) : Int)) 125 45 (E 125 45)) a n (179) hK he (by omega) (by omega) hn.2 (by rw [wr_o (by omega)]; exact (wr_s _ _ _ _).trans (by omega)) (E 125 46)) clX12 rfl k_125 mo_X12_keeps w_2414 vo_X12_keeps.1 vo_X12_keeps.2 rfl rfl (crm Rt (by decide)) (Nat.le_of_ble_eq_true rfl) dX12_putsAll_33 rfl ?_
  rintro _ _ ⟨rfl, rfl⟩
  refine m_putI 39 X f_X12_270 fw_12_46 k_125 rn_125_46 dX12_putsAll_36 rfl ?_
  refine at_iconst 40 X (by decide) dX12_putsAll_39 rfl ?_
  refine at_istore_n 41 X rfl dX12_putsAll_40 rfl (by decide) ?_
  have J41 : ∀ (f41 : Nat) (F : Mm) (k : Nat), 21 - k < f41 → (k ≤ 20) → (F 125 48 = ((180 + 178 * k : Nat) : Int)) → (((∀ i, i < 178 → F a i = snI E i) ∧ F a 178 = E 125 45 ∧ F a 179 = E 125 46)) → ((∀ q, q ≠ a → q ≠ 125 → F q = E q)) → ((∀ k, k ≠ 48 → F 125 k = E 125 k)) → ((∀ m i, m < k → i < 178 → F a (180 + 178 * m + i) = E (633 + m) i)) → AT g κ K2 z 0 0 41 [(0, mR 125), (1, mR a), (2, mI 0), (3, mI ((k : Nat) : Int))] [] (ov F) := by
    intro f41
    induction f41 with
    | zero => intro F k hf41; omega
    | succ f41 ih41 =>
    intro F k hf41 hkk hsp_F hr1_F hf_F hk_F hc_F
    refine at_iload_n 42 X rfl rfl dX12_putsAll_41 rfl ?_
    refine at_bipush 44 X (by decide) (by decide) dX12_putsAll_42 rfl ?_
    refine at_icmp_ge 47 94 X dX12_putsAll_44 rfl (by decide) (fun h44 => ?_) (fun h44 => ?_)
    · refine at_vret X Rt ?_ (Nat.le_refl _) (Nat.le_refl _) dX12_putsAll_94
      obtain rfl : k = 20 := by omega
      exact ⟨rfl, F, rfl, hr1_F.1, hr1_F.2.1, hr1_F.2.2, hc_F, hf_F, hk_F⟩
    · refine at_iconst 48 X (by decide) dX12_putsAll_47 rfl ?_
      refine at_istore 50 X dX12_putsAll_48 rfl (by decide) ?_
      have J50 : ∀ (f50 : Nat) (F2 : Mm) (j : Nat), 179 - j < f50 → (j ≤ 178) → (F2 125 48 = ((180 + 178 * k + j : Nat) : Int)) → (((∀ i, i < 178 → F2 a i = snI E i) ∧ F2 a 178 = E 125 45 ∧ F2 a 179 = E 125 46)) → ((∀ q, q ≠ a → q ≠ 125 → F2 q = E q)) → ((∀ k, k ≠ 48 → F2 125 k = E 125 k)) → ((∀ m i, m < k → i < 178 → F2 a (180 + 178 * m + i) = E (633 + m) i)) → ((∀ i, i < j → F2 a (180 + 178 * k + i) = E (633 + k) i)) → AT g κ K2 z 0 0 50 [(0, mR 125), (1, mR a), (2, mI 0), (3, mI ((k : Nat) : Int)), (4, mI ((j : Nat) : Int))] [] (ov F2) := by
        intro f50
        induction f50 with
        | zero => intro F2 j hf50; omega
        | succ f50 ih50 =>
        intro F2 j hf50 hj hsp_F2 hr1_F2 hf_F2 hk_F2 hc_F2 hd_F2
        refine at_iload 52 X rfl dX12_putsAll_50 rfl ?_
        refine at_sipush 55 X (by decide) (by decide) dX12_putsAll_52 rfl ?_
        refine at_icmp_ge 58 88 X dX12_putsAll_55 rfl (by decide) (fun h55 => ?_) (fun h55 => ?_)
        · refine at_iincV 91 X ((k + 1 : Nat) : Int) (w32_v (by omega) (by omega) (by omega)) rfl dX12_putsAll_88 rfl (by decide) ?_
          refine at_goto 41 X dX12_putsAll_91 (by decide) ?_
          exact at_sub _ (by exact ⟨rfl, rfl, rfl, rfl, trivial⟩) (ih41 F2 (k + 1) (by first | omega | (simp only [] at *; omega)) (by first | omega | assumption) (hsp_F2.trans (by omega)) hr1_F2 hf_F2 hk_F2 (fun m i hm hi => if e : m = k then by rw [e]; exact hd_F2 i (by omega) else hc_F2 m i (by omega) hi))
        · refine at_aload_n 59 X rfl rfl dX12_putsAll_58 rfl ?_
          refine m_getR 62 X f_X12_104 k_125 r_125_41 dX12_putsAll_59 rfl ?_
          refine at_iload_n 63 X rfl rfl dX12_putsAll_62 rfl ?_
          refine m_aaloadV 64 X k (by omega) k_632 (by decide) (by omega) (rr_632 _ (by omega)) dX12_putsAll_63 rfl ?_
          refine at_iload 66 X rfl dX12_putsAll_64 rfl ?_
          refine at_aload_n 67 X rfl rfl dX12_putsAll_66 rfl ?_
          refine at_aload_n 68 X rfl rfl dX12_putsAll_67 rfl ?_
          refine at_aload_n 69 X rfl rfl dX12_putsAll_68 rfl ?_
          refine m_getR 72 X f_X12_104 k_125 r_125_41 dX12_putsAll_69 rfl ?_
          refine at_iload_n 73 X rfl rfl dX12_putsAll_72 rfl ?_
          refine m_aaloadV 74 X k (by omega) k_632 (by decide) (by omega) (rr_632 _ (by omega)) dX12_putsAll_73 rfl ?_
          refine at_iload 76 X rfl dX12_putsAll_74 rfl ?_
          refine m_ialoadV 77 X j (by omega) (F2 (633 + k) j) rfl (kr_632 _ (by omega)) (er_632 _ (by omega)) (by omega) dX12_putsAll_76 rfl ?_
          refine at_iload_n 78 X rfl rfl dX12_putsAll_77 rfl ?_
          refine at_callV 81 X _ 12 (ct_keeps0 hG F2 a n (180 + 178 * k + j) hK he (by omega) (by omega) hn.2 hsp_F2 (F2 (633 + k) j)) clX12 rfl k_125 mo_X12_keeps w_2414 vo_X12_keeps.1 vo_X12_keeps.2 rfl rfl (crm Rt (by decide)) (Nat.le_of_ble_eq_true rfl) dX12_putsAll_78 rfl ?_
          rintro _ _ ⟨rfl, rfl⟩
          refine m_iastoreV 82 X j (by omega) (kr_632 _ (by omega)) (er_632 _ (by omega)) (by omega) dX12_putsAll_81 rfl ?_
          refine at_iincV 85 X ((j + 1 : Nat) : Int) (w32_v (by omega) (by omega) (by omega)) rfl dX12_putsAll_82 rfl (by decide) ?_
          refine at_goto 50 X dX12_putsAll_85 (by decide) ?_
          exact at_sub _ (by exact ⟨rfl, rfl, rfl, rfl, rfl, trivial⟩) (ih50 (wr (wr (wr F2 a (180 + 178 * k + j) (F2 (633 + k) j)) 125 48 ((180 + 178 * k + j + 1 : Nat) : Int)) (633 + k) j (F2 (633 + k) j)) (j + 1) (by first | omega | (simp only [] at *; omega)) (by first | omega | assumption) (by rw [wr_row (by omega)]; exact (wr_s _ _ _ _).trans (by omega)) ⟨fun i hi => by rw [wr_row (by omega), wr_row (by omega), wr_o (by omega)]; exact hr1_F2.1 i hi, by rw [wr_row (by omega), wr_row (by omega), wr_o (by omega)]; exact hr1_F2.2.1, by rw [wr_row (by omega), wr_row (by omega), wr_o (by omega)]; exact hr1_F2.2.2⟩ (fun q h1 h2 => by rw [(wr_same (by rw [wr_row (by omega), wr_row (by omega)]) q), wr_row h2, wr_row h1]; exact hf_F2 q h1 h2) (fun k hk => by rw [wr_row (by omega), wr_o (Or.inr hk), wr_row (by omega)]; exact hk_F2 k hk) (fun m i hm hi => by rw [wr_row (by omega), wr_row (by omega), wr_o (by omega)]; exact hc_F2 m i hm hi) (fun i hi => if e : i = j then by rw [e, wr_row (by omega), wr_row (by omega), wr_s, hf_F2 (633 + k) (by omega) (by omega)] else by rw [wr_row (by omega), wr_row (by omega), wr_o (by omega)]; exact hd_F2 i (by omega)))
      exact at_sub _ (by exact ⟨rfl, rfl, rfl, rfl, rfl, trivial⟩) (J50 _ F 0 (Nat.lt_succ_self _) (by first | omega | assumption | rfl) (hsp_F.trans (by omega)) hr1_F hf_F hk_F hc_F (fun i hi => absurd hi (Nat.not_lt_zero i)))
  exact at_sub _ (by exact ⟨rfl, rfl, rfl, rfl, trivial⟩) (J41 _ (wr (wr (wr (wr (wr (wr F0 a 178 (E 125 45)) 125 48 ((178 + 1 : Nat) : Int)) 125 45 (E 125 45)) a 179 (E 125 46)) 125 48 ((179 + 1 : Nat) : Int)) 125 46 (E 125 46)) 0 (Nat.lt_succ_self _) (by first | omega | assumption | rfl) (by rw [wr_o (by omega)]; exact (wr_s _ _ _ _).trans (by omega)) ⟨fun i hi => by simp (disch := omega) only [wr_o]; exact hr0 i hi, by simp (disch := omega) only [wr_s, wr_o], by simp (disch := omega) only [wr_s, wr_o]⟩ (fun q h1 h2 => by simp (disch := omega) only [wr_row]; exact hf0 q h1 h2) (fun k hk => if e : k = 45 then by rw [e]; simp (disch := omega) only [wr_s, wr_o] else if e2 : k = 46 then by rw [e2]; simp (disch := omega) only [wr_s, wr_o] else by simp (disch := omega) only [wr_o]; exact hk0 k hk) (fun m i hm => absurd hm (Nat.not_lt_zero m)))
