theorem ct_puts1 {g : Gw} (hG : GF g) {z : Bool} (E : Mm) (a n : Nat) (hK : K2[a]? = some (0, n)) (he : rtab.getD a [] = []) (ha : 633 ≤ a) (hn : 178 ≤ n ∧ n < 10000) (hs : E 125 48 = 0) : CT g yX12_putsChanged cX12_putsChanged 5 none 1 23 0 0 K2 z [mR 125, mR a, mI 1] (ov E) K2 z (fun r D' => r = none ∧ ∃ E1, D' = ov E1 ∧ (∀ i, i < 10 → E1 (142 + i) 1 = E a i) ∧ (∀ i, i < 8 → E1 (228 + i) 0 = E a (10 + 21 * i)) ∧ (∀ i j, i < 8 → j < 20 → E1 (246 + i) j = E a (10 + 21 * i + 1 + j)) ∧ E1 125 48 = 178 ∧ ∀ q k, ¬ (142 ≤ q ∧ q ≤ 151 ∧ k = 1) → ¬ (228 ≤ q ∧ q < 228 + 8 ∧ k = 0) → ¬ (246 ≤ q ∧ q < 246 + 8 ∧ k < 20) → ¬ (q = 125 ∧ k = 48) → E1 q k = E q k) := by
  refine CT.mk hG (by decide +kernel) (Nat.le_of_ble_eq_true rfl) (fun κ X Rt _ ok => ?_)
  refine at_iconst 1 X (by decide) dX12_putsChanged_0 rfl ?_
  refine at_istore_n 2 X rfl dX12_putsChanged_1 rfl (by decide) ?_
  have J2 : ∀ (f2 : Nat) (F : Mm) (p : Nat), 11 - p < f2 → (p ≤ 10) → (F 125 48 = ((p : Nat) : Int)) → ((∀ i, i < p → F (142 + i) 1 = E a i)) → ((∀ q k, ¬ (142 ≤ q ∧ q < 142 + p ∧ k = 1) → ¬ (q = 125 ∧ k = 48) → F q k = E q k)) → AT g κ K2 z 0 0 2 [(0, mR 125), (1, mR a), (2, mI 1), (3, mI ((p : Nat) : Int))] [] (ov F) := by
    intro f2
    induction f2 with
    | zero => intro F p hf2; omega
    | succ f2 ih2 =>
    intro F p hf2 hp hsp_F h1_F hf_F
    refine at_iload_n 3 X rfl rfl dX12_putsChanged_2 rfl ?_
    refine at_bipush 5 X (by decide) (by decide) dX12_putsChanged_3 rfl ?_
    refine at_icmp_ge 8 36 X dX12_putsChanged_5 rfl (by decide) (fun h5 => ?_) (fun h5 => ?_)
    · refine at_iconst 37 X (by decide) dX12_putsChanged_36 rfl ?_
      refine at_istore_n 38 X rfl dX12_putsChanged_37 rfl (by decide) ?_
      have J38 : ∀ (f38 : Nat) (F1 : Mm) (b : Nat), 9 - b < f38 → (b ≤ 8) → (F1 125 48 = ((10 + 21 * b : Nat) : Int)) → ((∀ i, i < 10 → F1 (142 + i) 1 = E a i)) → ((∀ i, i < b → F1 (228 + i) 0 = E a (10 + 21 * i))) → ((∀ i j, i < b → j < 20 → F1 (246 + i) j = E a (10 + 21 * i + 1 + j))) → ((∀ q k, ¬ (142 ≤ q ∧ q ≤ 151 ∧ k = 1) → ¬ (228 ≤ q ∧ q < 228 + b ∧ k = 0) → ¬ (246 ≤ q ∧ q < 246 + b ∧ k < 20) → ¬ (q = 125 ∧ k = 48) → F1 q k = E q k)) → AT g κ K2 z 0 0 38 [(0, mR 125), (1, mR a), (2, mI 1), (3, mI ((b : Nat) : Int))] [] (ov F1) := by
        intro f38
        induction f38 with
        | zero => intro F1 b hf38; omega
        | succ f38 ih38 =>
        intro F1 b hf38 hb hsp_F1 h1_F1 h2_F1 h3_F1 hf_F1
        refine at_iload_n 39 X rfl rfl dX12_putsChanged_38 rfl ?_
        refine at_bipush 41 X (by decide) (by decide) dX12_putsChanged_39 rfl ?_
        refine at_icmp_ge 44 112 X dX12_putsChanged_41 rfl (by decide) (fun h41 => ?_) (fun h41 => ?_)
        · refine at_vret X Rt ?_ (Nat.le_refl _) (Nat.le_refl _) dX12_putsChanged_112
          obtain rfl : b = 8 := by omega
          exact ⟨rfl, F1, rfl, h1_F1, h2_F1, h3_F1, hsp_F1, hf_F1⟩
        · refine at_aload_n 45 X rfl rfl dX12_putsChanged_44 rfl ?_
          refine m_getR 48 X f_X12_61 k_125 r_125_24 dX12_putsChanged_45 rfl ?_
          refine at_iload_n 49 X rfl rfl dX12_putsChanged_48 rfl ?_
          refine m_aaloadV 50 X b (by omega) k_227 (by decide) (by omega) (rr_227 _ (by omega)) dX12_putsChanged_49 rfl ?_
          refine at_iconst 51 X (by decide) dX12_putsChanged_50 rfl ?_
          refine at_aload_n 52 X rfl rfl dX12_putsChanged_51 rfl ?_
          refine at_aload_n 53 X rfl rfl dX12_putsChanged_52 rfl ?_
          refine at_aload_n 54 X rfl rfl dX12_putsChanged_53 rfl ?_
          refine m_getR 57 X f_X12_61 k_125 r_125_24 dX12_putsChanged_54 rfl ?_
          refine at_iload_n 58 X rfl rfl dX12_putsChanged_57 rfl ?_
          refine m_aaloadV 59 X b (by omega) k_227 (by decide) (by omega) (rr_227 _ (by omega)) dX12_putsChanged_58 rfl ?_
          refine at_iconst 60 X (by decide) dX12_putsChanged_59 rfl ?_
          refine m_ialoadV 61 X 0 (by omega) (F1 (228 + b) 0) rfl (kr_227 _ (by omega)) (er_227 _ (by omega)) (by omega) dX12_putsChanged_60 rfl ?_
          refine at_iload_n 62 X rfl rfl dX12_putsChanged_61 rfl ?_
          refine at_callV 65 X _ 12 (ct_keeps1 hG F1 a n (10 + 21 * b) hK he (by omega) (by omega) hn.2 hsp_F1 (F1 (228 + b) 0)) clX12 rfl k_125 mo_X12_keeps w_2414 vo_X12_keeps.1 vo_X12_keeps.2 rfl rfl (crm Rt (by decide)) (Nat.le_of_ble_eq_true rfl) dX12_putsChanged_62 rfl ?_
          rintro _ _ ⟨rfl, rfl⟩
          refine m_iastoreV 66 X 0 (by omega) (kr_227 _ (by omega)) (er_227 _ (by omega)) (by omega) dX12_putsChanged_65 rfl ?_
          refine at_iconst 67 X (by decide) dX12_putsChanged_66 rfl ?_
          refine at_istore 69 X dX12_putsChanged_67 rfl (by decide) ?_
          have J69 : ∀ (f69 : Nat) (F2 : Mm) (j : Nat), 21 - j < f69 → (j ≤ 20) → (F2 125 48 = ((10 + 21 * b + 1 + j : Nat) : Int)) → ((∀ i, i < 10 → F2 (142 + i) 1 = E a i)) → ((∀ i, i < b + 1 → F2 (228 + i) 0 = E a (10 + 21 * i))) → ((∀ i j, i < b → j < 20 → F2 (246 + i) j = E a (10 + 21 * i + 1 + j))) → ((∀ i, i < j → F2 (246 + b) i = E a (10 + 21 * b + 1 + i))) → ((∀ q k, ¬ (142 ≤ q ∧ q ≤ 151 ∧ k = 1) → ¬ (228 ≤ q ∧ q < 229 + b ∧ k = 0) → ¬ (246 ≤ q ∧ q < 246 + b ∧ k < 20) → ¬ (q = 246 + b ∧ k < j) → ¬ (q = 125 ∧ k = 48) → F2 q k = E q k)) → AT g κ K2 z 0 0 69 [(0, mR 125), (1, mR a), (2, mI 1), (3, mI ((b : Nat) : Int)), (4, mI ((j : Nat) : Int))] [] (ov F2) := by
            intro f69
            induction f69 with
            | zero => intro F2 j hf69; omega
            | succ f69 ih69 =>
            intro F2 j hf69 hj hsp_F2 h1_F2 h2_F2 h3_F2 h4_F2 hf_F2
            refine at_iload 71 X rfl dX12_putsChanged_69 rfl ?_
            refine at_bipush 73 X (by decide) (by decide) dX12_putsChanged_71 rfl ?_
            refine at_icmp_ge 76 106 X dX12_putsChanged_73 rfl (by decide) (fun h73 => ?_) (fun h73 => ?_)
            · refine at_iincV 109 X ((b + 1 : Nat) : Int) (w32_v (by omega) (by omega) (by omega)) rfl dX12_putsChanged_106 rfl (by decide) ?_
              refine at_goto 38 X dX12_putsChanged_109 (by decide) ?_
              exact at_sub _ (by exact ⟨rfl, rfl, rfl, rfl, trivial⟩) (ih38 F2 (b + 1) (by first | omega | (simp only [] at *; omega)) (by first | omega | assumption) (hsp_F2.trans (by omega)) h1_F2 h2_F2 (fun i k hi hk => if c : i = b then by rw [c]; exact h4_F2 k (by omega) else h3_F2 i k (by omega) hk) (fun q k g1 g2 g3 g4 => hf_F2 q k g1 (by omega) (by omega) (by omega) g4))
            · refine at_aload_n 77 X rfl rfl dX12_putsChanged_76 rfl ?_
              refine m_getR 80 X f_X12_67 k_125 r_125_26 dX12_putsChanged_77 rfl ?_
              refine at_iload_n 81 X rfl rfl dX12_putsChanged_80 rfl ?_
              refine m_aaloadV 82 X b (by omega) k_245 (by decide) (by omega) (rr_245 _ (by omega)) dX12_putsChanged_81 rfl ?_
              refine at_iload 84 X rfl dX12_putsChanged_82 rfl ?_
              refine at_aload_n 85 X rfl rfl dX12_putsChanged_84 rfl ?_
              refine at_aload_n 86 X rfl rfl dX12_putsChanged_85 rfl ?_
              refine at_aload_n 87 X rfl rfl dX12_putsChanged_86 rfl ?_
              refine m_getR 90 X f_X12_67 k_125 r_125_26 dX12_putsChanged_87 rfl ?_
              refine at_iload_n 91 X rfl rfl dX12_putsChanged_90 rfl ?_
              refine m_aaloadV 92 X b (by omega) k_245 (by decide) (by omega) (rr_245 _ (by omega)) dX12_putsChanged_91 rfl ?_
              refine at_iload 94 X rfl dX12_putsChanged_92 rfl ?_
              refine m_ialoadV 95 X j (by omega) (F2 (246 + b) j) rfl (kr_245 _ (by omega)) (er_245 _ (by omega)) (by omega) dX12_putsChanged_94 rfl ?_
              refine at_iload_n 96 X rfl rfl dX12_putsChanged_95 rfl ?_
              refine at_callV 99 X _ 12 (ct_keeps1 hG F2 a n (10 + 21 * b + 1 + j) hK he (by omega) (by omega) hn.2 hsp_F2 (F2 (246 + b) j)) clX12 rfl k_125 mo_X12_keeps w_2414 vo_X12_keeps.1 vo_X12_keeps.2 rfl rfl (crm Rt (by decide)) (Nat.le_of_ble_eq_true rfl) dX12_putsChanged_96 rfl ?_
              rintro _ _ ⟨rfl, rfl⟩
              refine m_iastoreV 100 X j (by omega) (kr_245 _ (by omega)) (er_245 _ (by omega)) (by omega) dX12_putsChanged_99 rfl ?_
              refine at_iincV 103 X ((j + 1 : Nat) : Int) (w32_v (by omega) (by omega) (by omega)) rfl dX12_putsChanged_100 rfl (by decide) ?_
              refine at_goto 69 X dX12_putsChanged_103 (by decide) ?_
              exact at_sub _ (by exact ⟨rfl, rfl, rfl, rfl, rfl, trivial⟩) (ih69 (wr (wr F2 125 48 ((10 + 21 * b + 1 + j + 1 : Nat) : Int)) (246 + b) j (F2 a (10 + 21 * b + 1 + j))) (j + 1) (by first | omega | (simp only [] at *; omega)) (by first | omega | assumption) (by rw [wr_o (by omega)]; exact (wr_s _ _ _ _).trans (by omega)) (fun i hi => by rw [wr_o (by omega), wr_o (by omega)]; exact h1_F2 i hi) (fun i hi => by rw [wr_o (by omega), wr_o (by omega)]; exact h2_F2 i hi) (fun i k hi hk => by rw [wr_o (by omega), wr_o (by omega)]; exact h3_F2 i k hi hk) (fun i hi => if c : i = j then by rw [c, wr_s]; exact hf_F2 a _ (by omega) (by omega) (by omega) (by omega) (by omega) else by rw [wr_o (by omega), wr_o (by omega)]; exact h4_F2 i (by omega)) (fun q k g1 g2 g3 g4 g5 => by rw [wr_o (by omega), wr_o (by omega)]; exact hf_F2 q k g1 g2 g3 (by omega) g5))
          exact at_sub _ (by exact ⟨rfl, rfl, rfl, rfl, rfl, trivial⟩) (J69 _ (wr (wr F1 125 48 ((10 + 21 * b + 1 : Nat) : Int)) (228 + b) 0 (F1 a (10 + 21 * b))) 0 (Nat.lt_succ_self _) (by first | omega | assumption | rfl) (by rw [wr_o (by omega)]; exact (wr_s _ _ _ _).trans (by omega)) (fun i hi => by rw [wr_o (by omega), wr_o (by omega)]; exact h1_F1 i hi) (fun i hi => if c : i = b then by rw [c, wr_s]; exact hf_F1 a _ (by omega) (by omega) (by omega) (by omega) else by rw [wr_o (by omega), wr_o (by omega)]; exact h2_F1 i (by omega)) (fun i k hi hk => by rw [wr_o (by omega), wr_o (by omega)]; exact h3_F1 i k hi hk) (fun i hi => absurd hi (Nat.not_lt_zero i)) (fun q k g1 g2 g3 g4 g5 => by rw [wr_o (by omega), wr_o (by omega)]; exact hf_F1 q k g1 (by omega) g3 g5))
      exact at_sub _ (by exact ⟨rfl, rfl, rfl, rfl, trivial⟩) (J38 _ F 0 (Nat.lt_succ_self _) (by first | omega | assumption | rfl) (hsp_F.trans (by omega)) (fun i hi => h1_F i (by omega)) (fun i hi => absurd hi (Nat.not_lt_zero i)) (fun i j hi => absurd hi (Nat.not_lt_zero i)) (fun q k g1 g2 g3 g4 => hf_F q k (by omega) g4))
    · refine at_aload_n 9 X rfl rfl dX12_putsChanged_8 rfl ?_
      refine m_getR 12 X f_X12_31 k_125 r_125_14 dX12_putsChanged_9 rfl ?_
      refine at_iload_n 13 X rfl rfl dX12_putsChanged_12 rfl ?_
      refine m_aaloadV 14 X p (by omega) k_141 (by decide) (by omega) (rr_141 _ (by omega)) dX12_putsChanged_13 rfl ?_
      refine at_iconst 15 X (by decide) dX12_putsChanged_14 rfl ?_
      refine at_aload_n 16 X rfl rfl dX12_putsChanged_15 rfl ?_
      refine at_aload_n 17 X rfl rfl dX12_putsChanged_16 rfl ?_
      refine at_aload_n 18 X rfl rfl dX12_putsChanged_17 rfl ?_
      refine m_getR 21 X f_X12_31 k_125 r_125_14 dX12_putsChanged_18 rfl ?_
      refine at_iload_n 22 X rfl rfl dX12_putsChanged_21 rfl ?_
      refine m_aaloadV 23 X p (by omega) k_141 (by decide) (by omega) (rr_141 _ (by omega)) dX12_putsChanged_22 rfl ?_
      refine at_iconst 24 X (by decide) dX12_putsChanged_23 rfl ?_
      refine m_ialoadV 25 X 1 (by omega) (F (142 + p) 1) rfl (kr_141 _ (by omega)) (er_141 _ (by omega)) (by omega) dX12_putsChanged_24 rfl ?_
      refine at_iload_n 26 X rfl rfl dX12_putsChanged_25 rfl ?_
      refine at_callV 29 X _ 12 (ct_keeps1 hG F a n (p) hK he (by omega) (by omega) hn.2 hsp_F (F (142 + p) 1)) clX12 rfl k_125 mo_X12_keeps w_2414 vo_X12_keeps.1 vo_X12_keeps.2 rfl rfl (crm Rt (by decide)) (Nat.le_of_ble_eq_true rfl) dX12_putsChanged_26 rfl ?_
      rintro _ _ ⟨rfl, rfl⟩
      refine m_iastoreV 30 X 1 (by omega) (kr_141 _ (by omega)) (er_141 _ (by omega)) (by omega) dX12_putsChanged_29 rfl ?_
      refine at_iincV 33 X ((p + 1 : Nat) : Int) (w32_v (by omega) (by omega) (by omega)) rfl dX12_putsChanged_30 rfl (by decide) ?_
      refine at_goto 2 X dX12_putsChanged_33 (by decide) ?_
      exact at_sub _ (by exact ⟨rfl, rfl, rfl, rfl, trivial⟩) (ih2 (wr (wr F 125 48 ((p + 1 : Nat) : Int)) (142 + p) 1 (F a (p))) (p + 1) (by first | omega | (simp only [] at *; omega)) (by first | omega | assumption) (by rw [wr_o (by omega)]; exact (wr_s _ _ _ _).trans (by omega)) (fun i hi => if c : i = p then by rw [c, wr_s]; exact hf_F a p (by omega) (by omega) else by rw [wr_o (by omega), wr_o (by omega)]; exact h1_F i (by omega)) (fun q k g1 g2 => by rw [wr_o (by omega), wr_o (by omega)]; exact hf_F q k (by omega) g2))
  exact at_sub _ (by exact ⟨rfl, rfl, rfl, rfl, trivial⟩) (J2 _ E 0 (Nat.lt_succ_self _) (by first | omega | assumption | rfl) hs (fun i hi => absurd hi (Nat.not_lt_zero i)) (fun _ _ _ _ => rfl))
