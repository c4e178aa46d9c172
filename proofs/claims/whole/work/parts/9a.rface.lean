theorem wr_same {G : Mm} {q k : Nat} {v : Int} (h : G q k = v) (q' : Nat) : wr G q k v q' = G q' := by
  by_cases c : q' = q
  · subst c
    funext j
    by_cases e : j = k
    · subst e; rw [wr_s]; exact h.symm
    · rw [wr_o (Or.inr e)]
  · rw [wr_row c]
/-- what a change puts by, in its order -/
def snI (E : Mm) (i : Nat) : Int := if i < 10 then E (142 + i) 1 else if (i - 10) % 21 = 0 then E (228 + (i - 10) / 21) 0 else E (246 + (i - 10) / 21) ((i - 10) % 21 - 1)
theorem snI_p {E : Mm} {p : Nat} (h : p < 10) : snI E p = E (142 + p) 1 := if_pos h
theorem snI_b (E : Mm) (b : Nat) : snI E (10 + 21 * b) = E (228 + b) 0 := by
  unfold snI
  rw [if_neg (by omega), if_pos (by omega), show (10 + 21 * b - 10) / 21 = b by omega]
theorem snI_l {E : Mm} {b j : Nat} (h : j < 20) : snI E (10 + 21 * b + 1 + j) = E (246 + b) j := by
  unfold snI
  rw [if_neg (by omega), if_neg (by omega), show (10 + 21 * b + 1 + j - 10) / 21 = b by omega, show (10 + 21 * b + 1 + j - 10) % 21 - 1 = j by omega]
theorem dX12_putsChanged_0 : decode cX12_putsChanged 0 = .ok (.iconst 0, 1) := by decide +kernel
theorem dX12_putsChanged_1 : decode cX12_putsChanged 1 = .ok (.istore_n 3, 1) := by decide +kernel
theorem dX12_putsChanged_2 : decode cX12_putsChanged 2 = .ok (.iload_n 3, 1) := by decide +kernel
theorem dX12_putsChanged_3 : decode cX12_putsChanged 3 = .ok (.bipush 10, 2) := by decide +kernel
theorem dX12_putsChanged_5 : decode cX12_putsChanged 5 = .ok (.if_icmp .ge 31, 3) := by decide +kernel
theorem dX12_putsChanged_8 : decode cX12_putsChanged 8 = .ok (.aload_n 0, 1) := by decide +kernel
theorem dX12_putsChanged_9 : decode cX12_putsChanged 9 = .ok (.getfield 31, 3) := by decide +kernel
theorem dX12_putsChanged_12 : decode cX12_putsChanged 12 = .ok (.iload_n 3, 1) := by decide +kernel
theorem dX12_putsChanged_13 : decode cX12_putsChanged 13 = .ok (.aaload, 1) := by decide +kernel
theorem dX12_putsChanged_14 : decode cX12_putsChanged 14 = .ok (.iconst 1, 1) := by decide +kernel
theorem dX12_putsChanged_15 : decode cX12_putsChanged 15 = .ok (.aload_n 0, 1) := by decide +kernel
theorem dX12_putsChanged_16 : decode cX12_putsChanged 16 = .ok (.aload_n 1, 1) := by decide +kernel
theorem dX12_putsChanged_17 : decode cX12_putsChanged 17 = .ok (.aload_n 0, 1) := by decide +kernel
theorem dX12_putsChanged_18 : decode cX12_putsChanged 18 = .ok (.getfield 31, 3) := by decide +kernel
theorem dX12_putsChanged_21 : decode cX12_putsChanged 21 = .ok (.iload_n 3, 1) := by decide +kernel
theorem dX12_putsChanged_22 : decode cX12_putsChanged 22 = .ok (.aaload, 1) := by decide +kernel
theorem dX12_putsChanged_23 : decode cX12_putsChanged 23 = .ok (.iconst 1, 1) := by decide +kernel
theorem dX12_putsChanged_24 : decode cX12_putsChanged 24 = .ok (.iaload, 1) := by decide +kernel
theorem dX12_putsChanged_25 : decode cX12_putsChanged 25 = .ok (.iload_n 2, 1) := by decide +kernel
theorem dX12_putsChanged_26 : decode cX12_putsChanged 26 = .ok (.invokevirtual 463, 3) := by decide +kernel
theorem dX12_putsChanged_29 : decode cX12_putsChanged 29 = .ok (.iastore, 1) := by decide +kernel
theorem dX12_putsChanged_30 : decode cX12_putsChanged 30 = .ok (.iinc 3 1, 3) := by decide +kernel
theorem dX12_putsChanged_33 : decode cX12_putsChanged 33 = .ok (.goto (-31), 3) := by decide +kernel
theorem dX12_putsChanged_36 : decode cX12_putsChanged 36 = .ok (.iconst 0, 1) := by decide +kernel
theorem dX12_putsChanged_37 : decode cX12_putsChanged 37 = .ok (.istore_n 3, 1) := by decide +kernel
theorem dX12_putsChanged_38 : decode cX12_putsChanged 38 = .ok (.iload_n 3, 1) := by decide +kernel
theorem dX12_putsChanged_39 : decode cX12_putsChanged 39 = .ok (.bipush 8, 2) := by decide +kernel
theorem dX12_putsChanged_41 : decode cX12_putsChanged 41 = .ok (.if_icmp .ge 71, 3) := by decide +kernel
theorem dX12_putsChanged_44 : decode cX12_putsChanged 44 = .ok (.aload_n 0, 1) := by decide +kernel
theorem dX12_putsChanged_45 : decode cX12_putsChanged 45 = .ok (.getfield 61, 3) := by decide +kernel
theorem dX12_putsChanged_48 : decode cX12_putsChanged 48 = .ok (.iload_n 3, 1) := by decide +kernel
theorem dX12_putsChanged_49 : decode cX12_putsChanged 49 = .ok (.aaload, 1) := by decide +kernel
theorem dX12_putsChanged_50 : decode cX12_putsChanged 50 = .ok (.iconst 0, 1) := by decide +kernel
theorem dX12_putsChanged_51 : decode cX12_putsChanged 51 = .ok (.aload_n 0, 1) := by decide +kernel
theorem dX12_putsChanged_52 : decode cX12_putsChanged 52 = .ok (.aload_n 1, 1) := by decide +kernel
theorem dX12_putsChanged_53 : decode cX12_putsChanged 53 = .ok (.aload_n 0, 1) := by decide +kernel
theorem dX12_putsChanged_54 : decode cX12_putsChanged 54 = .ok (.getfield 61, 3) := by decide +kernel
theorem dX12_putsChanged_57 : decode cX12_putsChanged 57 = .ok (.iload_n 3, 1) := by decide +kernel
theorem dX12_putsChanged_58 : decode cX12_putsChanged 58 = .ok (.aaload, 1) := by decide +kernel
theorem dX12_putsChanged_59 : decode cX12_putsChanged 59 = .ok (.iconst 0, 1) := by decide +kernel
theorem dX12_putsChanged_60 : decode cX12_putsChanged 60 = .ok (.iaload, 1) := by decide +kernel
theorem dX12_putsChanged_61 : decode cX12_putsChanged 61 = .ok (.iload_n 2, 1) := by decide +kernel
theorem dX12_putsChanged_62 : decode cX12_putsChanged 62 = .ok (.invokevirtual 463, 3) := by decide +kernel
theorem dX12_putsChanged_65 : decode cX12_putsChanged 65 = .ok (.iastore, 1) := by decide +kernel
theorem dX12_putsChanged_66 : decode cX12_putsChanged 66 = .ok (.iconst 0, 1) := by decide +kernel
theorem dX12_putsChanged_67 : decode cX12_putsChanged 67 = .ok (.istore 4, 2) := by decide +kernel
theorem dX12_putsChanged_69 : decode cX12_putsChanged 69 = .ok (.iload 4, 2) := by decide +kernel
theorem dX12_putsChanged_71 : decode cX12_putsChanged 71 = .ok (.bipush 20, 2) := by decide +kernel
theorem dX12_putsChanged_73 : decode cX12_putsChanged 73 = .ok (.if_icmp .ge 33, 3) := by decide +kernel
theorem dX12_putsChanged_76 : decode cX12_putsChanged 76 = .ok (.aload_n 0, 1) := by decide +kernel
theorem dX12_putsChanged_77 : decode cX12_putsChanged 77 = .ok (.getfield 67, 3) := by decide +kernel
theorem dX12_putsChanged_80 : decode cX12_putsChanged 80 = .ok (.iload_n 3, 1) := by decide +kernel
theorem dX12_putsChanged_81 : decode cX12_putsChanged 81 = .ok (.aaload, 1) := by decide +kernel
theorem dX12_putsChanged_82 : decode cX12_putsChanged 82 = .ok (.iload 4, 2) := by decide +kernel
theorem dX12_putsChanged_84 : decode cX12_putsChanged 84 = .ok (.aload_n 0, 1) := by decide +kernel
theorem dX12_putsChanged_85 : decode cX12_putsChanged 85 = .ok (.aload_n 1, 1) := by decide +kernel
theorem dX12_putsChanged_86 : decode cX12_putsChanged 86 = .ok (.aload_n 0, 1) := by decide +kernel
theorem dX12_putsChanged_87 : decode cX12_putsChanged 87 = .ok (.getfield 67, 3) := by decide +kernel
theorem dX12_putsChanged_90 : decode cX12_putsChanged 90 = .ok (.iload_n 3, 1) := by decide +kernel
theorem dX12_putsChanged_91 : decode cX12_putsChanged 91 = .ok (.aaload, 1) := by decide +kernel
theorem dX12_putsChanged_92 : decode cX12_putsChanged 92 = .ok (.iload 4, 2) := by decide +kernel
theorem dX12_putsChanged_94 : decode cX12_putsChanged 94 = .ok (.iaload, 1) := by decide +kernel
theorem dX12_putsChanged_95 : decode cX12_putsChanged 95 = .ok (.iload_n 2, 1) := by decide +kernel
theorem dX12_putsChanged_96 : decode cX12_putsChanged 96 = .ok (.invokevirtual 463, 3) := by decide +kernel
theorem dX12_putsChanged_99 : decode cX12_putsChanged 99 = .ok (.iastore, 1) := by decide +kernel
theorem dX12_putsChanged_100 : decode cX12_putsChanged 100 = .ok (.iinc 4 1, 3) := by decide +kernel
theorem dX12_putsChanged_103 : decode cX12_putsChanged 103 = .ok (.goto (-34), 3) := by decide +kernel
theorem dX12_putsChanged_106 : decode cX12_putsChanged 106 = .ok (.iinc 3 1, 3) := by decide +kernel
theorem dX12_putsChanged_109 : decode cX12_putsChanged 109 = .ok (.goto (-71), 3) := by decide +kernel
theorem dX12_putsChanged_112 : decode cX12_putsChanged 112 = .ok (.return_, 1) := by decide +kernel
theorem ct_puts0 {g : Gw} (hG : GF g) {z : Bool} (E : Mm) (a n : Nat) (hK : K2[a]? = some (0, n)) (he : rtab.getD a [] = []) (ha : 633 ≤ a) (hn : 178 ≤ n ∧ n < 10000) (hs : E 125 48 = 0) : CT g yX12_putsChanged cX12_putsChanged 5 none 1 23 0 0 K2 z [mR 125, mR a, mI 0] (ov E) K2 z (fun r D' => r = none ∧ ∃ E1, D' = ov E1 ∧ (∀ i, i < 178 → E1 a i = snI E i) ∧ E1 125 48 = 178 ∧ (∀ q, q ≠ a → q ≠ 125 → E1 q = E q) ∧ (∀ k, k ≠ 48 → E1 125 k = E 125 k) ∧ ∀ i, 178 ≤ i → E1 a i = E a i) := by
  refine CT.mk hG (by decide +kernel) (Nat.le_of_ble_eq_true rfl) (fun κ X Rt _ ok => ?_)
  refine at_iconst 1 X (by decide) dX12_putsChanged_0 rfl ?_
  refine at_istore_n 2 X rfl dX12_putsChanged_1 rfl (by decide) ?_
  have J2 : ∀ (f2 : Nat) (F : Mm) (p : Nat), 11 - p < f2 → (p ≤ 10) → (F 125 48 = ((p : Nat) : Int)) → ((∀ i, i < p → F a i = snI E i)) → ((∀ q, q ≠ a → q ≠ 125 → F q = E q)) → ((∀ k, k ≠ 48 → F 125 k = E 125 k)) → ((∀ i, 178 ≤ i → F a i = E a i)) → AT g κ K2 z 0 0 2 [(0, mR 125), (1, mR a), (2, mI 0), (3, mI ((p : Nat) : Int))] [] (ov F) := by
    intro f2
    induction f2 with
    | zero => intro F p hf2; omega
    | succ f2 ih2 =>
    intro F p hf2 hp hsp_F hrow_F hfr_F hk_F hmo_F
    refine at_iload_n 3 X rfl rfl dX12_putsChanged_2 rfl ?_
    refine at_bipush 5 X (by decide) (by decide) dX12_putsChanged_3 rfl ?_
    refine at_icmp_ge 8 36 X dX12_putsChanged_5 rfl (by decide) (fun h5 => ?_) (fun h5 => ?_)
    · refine at_iconst 37 X (by decide) dX12_putsChanged_36 rfl ?_
      refine at_istore_n 38 X rfl dX12_putsChanged_37 rfl (by decide) ?_
      have J38 : ∀ (f38 : Nat) (F1 : Mm) (b : Nat), 9 - b < f38 → (b ≤ 8) → (F1 125 48 = ((10 + 21 * b : Nat) : Int)) → ((∀ i, i < 10 + 21 * b → F1 a i = snI E i)) → ((∀ q, q ≠ a → q ≠ 125 → F1 q = E q)) → ((∀ k, k ≠ 48 → F1 125 k = E 125 k)) → ((∀ i, 178 ≤ i → F1 a i = E a i)) → AT g κ K2 z 0 0 38 [(0, mR 125), (1, mR a), (2, mI 0), (3, mI ((b : Nat) : Int))] [] (ov F1) := by
        intro f38
        induction f38 with
        | zero => intro F1 b hf38; omega
        | succ f38 ih38 =>
        intro F1 b hf38 hb hsp_F1 hrow_F1 hfr_F1 hk_F1 hmo_F1
        refine at_iload_n 39 X rfl rfl dX12_putsChanged_38 rfl ?_
        refine at_bipush 41 X (by decide) (by decide) dX12_putsChanged_39 rfl ?_
        refine at_icmp_ge 44 112 X dX12_putsChanged_41 rfl (by decide) (fun h41 => ?_) (fun h41 => ?_)
        · refine at_vret X Rt ?_ (Nat.le_refl _) (Nat.le_refl _) dX12_putsChanged_112
          exact ⟨rfl, F1, rfl, fun i hi => hrow_F1 i (by omega), hsp_F1.trans (by omega), hfr_F1, hk_F1, hmo_F1⟩
        · refine at_aload_n 45 X rfl rfl dX12_putsChanged_44 rfl ?_
          refine m_getR 48 X f_X12_61 k_125 r_125_24 dX12_putsChanged_45 rfl ?_
          refine at_iload_n 49 X rfl rfl dX12_putsChanged_48 rfl ?_
          refine m_aaloadV 50 X b (by omega) k_227 (by decide) (by omega) (rr_227 _ (by omega)) dX12_putsChanged_49 rfl ?_
          refine at_iconst 51 X (by decide) dX12_putsChanged_50 rfl ?_
          refine at_aload_n 52 X rfl rfl dX12_putsChanged_51 rfl ?_
          refine at_aload_n 53 X rfl rfl dX12_putsChanged_52 rfl ?_
          refine at_aload_n 54 X rfl rfl dX12_putsChanged_53 rfl ?_
          refine m_getR 57 X f_X12_61 k_125 r_125_24 dX12_putsChanged_54 rfl ?_
          refine at_iload_n 58 X rfl rfl dX12_putsChanged_57 rfl ?_
          refine m_aaloadV 59 X b (by omega) k_227 (by decide) (by omega) (rr_227 _ (by omega)) dX12_putsChanged_58 rfl ?_
          refine at_iconst 60 X (by decide) dX12_putsChanged_59 rfl ?_
          refine m_ialoadV 61 X 0 (by omega) (F1 (228 + b) 0) rfl (kr_227 _ (by omega)) (er_227 _ (by omega)) (by omega) dX12_putsChanged_60 rfl ?_
          refine at_iload_n 62 X rfl rfl dX12_putsChanged_61 rfl ?_
          refine at_callV 65 X _ 12 (ct_keeps0 hG F1 a n (10 + 21 * b) hK he (by omega) (by omega) hn.2 hsp_F1 (F1 (228 + b) 0)) clX12 rfl k_125 mo_X12_keeps w_2414 vo_X12_keeps.1 vo_X12_keeps.2 rfl rfl (crm Rt (by decide)) (Nat.le_of_ble_eq_true rfl) dX12_putsChanged_62 rfl ?_
          rintro _ _ ⟨rfl, rfl⟩
          refine m_iastoreV 66 X 0 (by omega) (kr_227 _ (by omega)) (er_227 _ (by omega)) (by omega) dX12_putsChanged_65 rfl ?_
          refine at_iconst 67 X (by decide) dX12_putsChanged_66 rfl ?_
          refine at_istore 69 X dX12_putsChanged_67 rfl (by decide) ?_
          have J69 : ∀ (f69 : Nat) (F2 : Mm) (j : Nat), 21 - j < f69 → (j ≤ 20) → (F2 125 48 = ((10 + 21 * b + 1 + j : Nat) : Int)) → ((∀ i, i < 10 + 21 * b + 1 + j → F2 a i = snI E i)) → ((∀ q, q ≠ a → q ≠ 125 → F2 q = E q)) → ((∀ k, k ≠ 48 → F2 125 k = E 125 k)) → ((∀ i, 178 ≤ i → F2 a i = E a i)) → AT g κ K2 z 0 0 69 [(0, mR 125), (1, mR a), (2, mI 0), (3, mI ((b : Nat) : Int)), (4, mI ((j : Nat) : Int))] [] (ov F2) := by
            intro f69
            induction f69 with
            | zero => intro F2 j hf69; omega
            | succ f69 ih69 =>
            intro F2 j hf69 hj hsp_F2 hrow_F2 hfr_F2 hk_F2 hmo_F2
            refine at_iload 71 X rfl dX12_putsChanged_69 rfl ?_
            refine at_bipush 73 X (by decide) (by decide) dX12_putsChanged_71 rfl ?_
            refine at_icmp_ge 76 106 X dX12_putsChanged_73 rfl (by decide) (fun h73 => ?_) (fun h73 => ?_)
            · refine at_iincV 109 X ((b + 1 : Nat) : Int) (w32_v (by omega) (by omega) (by omega)) rfl dX12_putsChanged_106 rfl (by decide) ?_
              refine at_goto 38 X dX12_putsChanged_109 (by decide) ?_
              exact at_sub _ (by exact ⟨rfl, rfl, rfl, rfl, trivial⟩) (ih38 F2 (b + 1) (by first | omega | (simp only [] at *; omega)) (by first | omega | assumption) (hsp_F2.trans (by omega)) (fun i hi => hrow_F2 i (by omega)) hfr_F2 hk_F2 hmo_F2)
            · refine at_aload_n 77 X rfl rfl dX12_putsChanged_76 rfl ?_
              refine m_getR 80 X f_X12_67 k_125 r_125_26 dX12_putsChanged_77 rfl ?_
              refine at_iload_n 81 X rfl rfl dX12_putsChanged_80 rfl ?_
              refine m_aaloadV 82 X b (by omega) k_245 (by decide) (by omega) (rr_245 _ (by omega)) dX12_putsChanged_81 rfl ?_
              refine at_iload 84 X rfl dX12_putsChanged_82 rfl ?_
              refine at_aload_n 85 X rfl rfl dX12_putsChanged_84 rfl ?_
              refine at_aload_n 86 X rfl rfl dX12_putsChanged_85 rfl ?_
              refine at_aload_n 87 X rfl rfl dX12_putsChanged_86 rfl ?_
              refine m_getR 90 X f_X12_67 k_125 r_125_26 dX12_putsChanged_87 rfl ?_
              refine at_iload_n 91 X rfl rfl dX12_putsChanged_90 rfl ?_
              refine m_aaloadV 92 X b (by omega) k_245 (by decide) (by omega) (rr_245 _ (by omega)) dX12_putsChanged_91 rfl ?_
              refine at_iload 94 X rfl dX12_putsChanged_92 rfl ?_
              refine m_ialoadV 95 X j (by omega) (F2 (246 + b) j) rfl (kr_245 _ (by omega)) (er_245 _ (by omega)) (by omega) dX12_putsChanged_94 rfl ?_
              refine at_iload_n 96 X rfl rfl dX12_putsChanged_95 rfl ?_
              refine at_callV 99 X _ 12 (ct_keeps0 hG F2 a n (10 + 21 * b + 1 + j) hK he (by omega) (by omega) hn.2 hsp_F2 (F2 (246 + b) j)) clX12 rfl k_125 mo_X12_keeps w_2414 vo_X12_keeps.1 vo_X12_keeps.2 rfl rfl (crm Rt (by decide)) (Nat.le_of_ble_eq_true rfl) dX12_putsChanged_96 rfl ?_
              rintro _ _ ⟨rfl, rfl⟩
              refine m_iastoreV 100 X j (by omega) (kr_245 _ (by omega)) (er_245 _ (by omega)) (by omega) dX12_putsChanged_99 rfl ?_
              refine at_iincV 103 X ((j + 1 : Nat) : Int) (w32_v (by omega) (by omega) (by omega)) rfl dX12_putsChanged_100 rfl (by decide) ?_
              refine at_goto 69 X dX12_putsChanged_103 (by decide) ?_
              exact at_sub _ (by exact ⟨rfl, rfl, rfl, rfl, rfl, trivial⟩) (ih69 (wr (wr (wr F2 a (10 + 21 * b + 1 + j) (F2 (246 + b) j)) 125 48 ((10 + 21 * b + 1 + j + 1 : Nat) : Int)) (246 + b) j (F2 (246 + b) j)) (j + 1) (by first | omega | (simp only [] at *; omega)) (by first | omega | assumption) (by rw [wr_o (by omega)]; exact (wr_s _ _ _ _).trans (by omega)) (fun i hi => by rw [wr_row (by omega), wr_row (by omega)]; exact if c : i = 10 + 21 * b + 1 + j then by rw [c, wr_s, snI_l (by omega), hfr_F2 (246 + b) (by omega) (by omega)] else by rw [wr_o (Or.inr c)]; exact hrow_F2 i (by omega)) (fun q h1 h2 => by rw [(wr_same (by rw [wr_row (by omega), wr_row (by omega)]) q), wr_row h2, wr_row h1]; exact hfr_F2 q h1 h2) (fun k hk => by rw [wr_row (by omega), wr_o (Or.inr hk), wr_o (by omega)]; exact hk_F2 k hk) (fun i hi => by rw [wr_row (by omega), wr_row (by omega), wr_o (by omega)]; exact hmo_F2 i hi))
          exact at_sub _ (by exact ⟨rfl, rfl, rfl, rfl, rfl, trivial⟩) (J69 _ (wr (wr (wr F1 a (10 + 21 * b) (F1 (228 + b) 0)) 125 48 ((10 + 21 * b + 1 : Nat) : Int)) (228 + b) 0 (F1 (228 + b) 0)) 0 (Nat.lt_succ_self _) (by first | omega | assumption | rfl) (by rw [wr_o (by omega)]; exact (wr_s _ _ _ _).trans (by omega)) (fun i hi => by rw [wr_row (by omega), wr_row (by omega)]; exact if c : i = 10 + 21 * b then by rw [c, wr_s, snI_b, hfr_F1 (228 + b) (by omega) (by omega)] else by rw [wr_o (Or.inr c)]; exact hrow_F1 i (by omega)) (fun q h1 h2 => by rw [(wr_same (by rw [wr_row (by omega), wr_row (by omega)]) q), wr_row h2, wr_row h1]; exact hfr_F1 q h1 h2) (fun k hk => by rw [wr_row (by omega), wr_o (Or.inr hk), wr_o (by omega)]; exact hk_F1 k hk) (fun i hi => by rw [wr_row (by omega), wr_row (by omega), wr_o (by omega)]; exact hmo_F1 i hi))
      exact at_sub _ (by exact ⟨rfl, rfl, rfl, rfl, trivial⟩) (J38 _ F 0 (Nat.lt_succ_self _) (by first | omega | assumption | rfl) (hsp_F.trans (by omega)) (fun i hi => hrow_F i (by omega)) hfr_F hk_F hmo_F)
    · refine at_aload_n 9 X rfl rfl dX12_putsChanged_8 rfl ?_
      refine m_getR 12 X f_X12_31 k_125 r_125_14 dX12_putsChanged_9 rfl ?_
      refine at_iload_n 13 X rfl rfl dX12_putsChanged_12 rfl ?_
      refine m_aaloadV 14 X p (by omega) k_141 (by decide) (by omega) (rr_141 _ (by omega)) dX12_putsChanged_13 rfl ?_
      refine at_iconst 15 X (by decide) dX12_putsChanged_14 rfl ?_
      refine at_aload_n 16 X rfl rfl dX12_putsChanged_15 rfl ?_
      refine at_aload_n 17 X rfl rfl dX12_putsChanged_16 rfl ?_
      refine at_aload_n 18 X rfl rfl dX12_putsChanged_17 rfl ?_
      refine m_getR 21 X f_X12_31 k_125 r_125_14 dX12_putsChanged_18 rfl ?_
      refine at_iload_n 22 X rfl rfl dX12_putsChanged_21 rfl ?_
      refine m_aaloadV 23 X p (by omega) k_141 (by decide) (by omega) (rr_141 _ (by omega)) dX12_putsChanged_22 rfl ?_
      refine at_iconst 24 X (by decide) dX12_putsChanged_23 rfl ?_
      refine m_ialoadV 25 X 1 (by omega) (F (142 + p) 1) rfl (kr_141 _ (by omega)) (er_141 _ (by omega)) (by omega) dX12_putsChanged_24 rfl ?_
      refine at_iload_n 26 X rfl rfl dX12_putsChanged_25 rfl ?_
      refine at_callV 29 X _ 12 (ct_keeps0 hG F a n (p) hK he (by omega) (by omega) hn.2 hsp_F (F (142 + p) 1)) clX12 rfl k_125 mo_X12_keeps w_2414 vo_X12_keeps.1 vo_X12_keeps.2 rfl rfl (crm Rt (by decide)) (Nat.le_of_ble_eq_true rfl) dX12_putsChanged_26 rfl ?_
      rintro _ _ ⟨rfl, rfl⟩
      refine m_iastoreV 30 X 1 (by omega) (kr_141 _ (by omega)) (er_141 _ (by omega)) (by omega) dX12_putsChanged_29 rfl ?_
      refine at_iincV 33 X ((p + 1 : Nat) : Int) (w32_v (by omega) (by omega) (by omega)) rfl dX12_putsChanged_30 rfl (by decide) ?_
      refine at_goto 2 X dX12_putsChanged_33 (by decide) ?_
      exact at_sub _ (by exact ⟨rfl, rfl, rfl, rfl, trivial⟩) (ih2 (wr (wr (wr F a p (F (142 + p) 1)) 125 48 ((p + 1 : Nat) : Int)) (142 + p) 1 (F (142 + p) 1)) (p + 1) (by first | omega | (simp only [] at *; omega)) (by first | omega | assumption) (by rw [wr_o (by omega)]; exact (wr_s _ _ _ _).trans (by omega)) (fun i hi => by rw [wr_row (by omega), wr_row (by omega)]; exact if c : i = p then by rw [c, wr_s, snI_p (by omega), hfr_F (142 + p) (by omega) (by omega)] else by rw [wr_o (Or.inr c)]; exact hrow_F i (by omega)) (fun q h1 h2 => by rw [(wr_same (by rw [wr_row (by omega), wr_row (by omega)]) q), wr_row h2, wr_row h1]; exact hfr_F q h1 h2) (fun k hk => by rw [wr_row (by omega), wr_o (Or.inr hk), wr_o (by omega)]; exact hk_F k hk) (fun i hi => by rw [wr_row (by omega), wr_row (by omega), wr_o (by omega)]; exact hmo_F i hi))
  exact at_sub _ (by exact ⟨rfl, rfl, rfl, rfl, trivial⟩) (J2 _ E 0 (Nat.lt_succ_self _) (by first | omega | assumption | rfl) hs (fun i hi => absurd hi (Nat.not_lt_zero i)) (fun _ _ _ => rfl) (fun _ _ => rfl) (fun _ _ => rfl))
