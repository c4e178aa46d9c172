/-- how many fall with a post more -/
noncomputable def nfP (G : GP) (B : BM) (T : LN) (hi c : Nat) : Int := (dN (dyP (addP G c hi) B T 24) : Nat)
noncomputable def twP (P : SP) (G : GP) (B : BM) (T : LN) (hi : Nat) : Nat → Int × Int := itr (fun c q => if ¬ hasP P c = true ∧ nfP G B T hi c < q.2 then ((c : Int), nfP G B T hi c) else q) (-1, 9)
theorem twP_s (P : SP) (G : GP) (B : BM) (T : LN) (hi c : Nat) : twP P G B T hi (c + 1) = if ¬ hasP P c = true ∧ nfP G B T hi c < (twP P G B T hi c).2 then ((c : Int), nfP G B T hi c) else twP P G B T hi c := rfl
noncomputable def twA (P : SP) (G : GP) (B : BM) (T : LN) (hi : Nat) : Int × Int := if sN P < 10 then twP P G B T hi (sW P) else (-1, 9)
/-- whether a post more makes the book right -/
noncomputable def msB (P : SP) (G : GP) (B : BM) (T K : LN) (hi c : Nat) : Bool := !hasP P c && decide (rlP K (dF (dyP (addP G c hi) B T 24)) K.1 = K.1)
/-- whether no beam falls on a day -/
noncomputable def whD (P : SP) (L : LW) (T : LN) (dy : Nat) : Bool := decide (dN (dyP (gOf P (moonP P dy) L) (sB P) T 24) = 0)
noncomputable def wkK (P : SP) (L : LW) (T : LN) (k : Nat) : Bool := decide (dN (dyP (gOf P ((k : Int) - 1) L) (sB P) T 24) = 0)
def kdP (P : SP) (dy : Nat) : Nat := (moonP P dy + 1).toNat
theorem kdP_in (P : SP) (dy : Nat) : ((kdP P dy : Nat) : Int) = moonP P dy + 1 ∧ kdP P dy < sM P + 1 := by
  have := moonP_in P dy
  unfold kdP
  omega
theorem wkK_kd (P : SP) (L : LW) (T : LN) (dy : Nat) : wkK P L T (kdP P dy) = whD P L T dy := by
  unfold wkK whD
  rw [(kdP_in P dy).1, show moonP P dy + 1 - 1 = moonP P dy by omega]
noncomputable def whF (P : SP) (L : LW) (T : LN) (x : Nat) : Int := if fstP (fun i => whD P L T (x + i)) (400 - x) = -1 then -1 else (x : Int) + fstP (fun i => whD P L T (x + i)) (400 - x)
theorem dX11_tower_0 : decode cX11_tower 0 = .ok (.aload_n 0, 1) := by decide +kernel
theorem dX11_tower_1 : decode cX11_tower 1 = .ok (.iload_n 1, 1) := by decide +kernel
theorem dX11_tower_2 : decode cX11_tower 2 = .ok (.iconst 1, 1) := by decide +kernel
theorem dX11_tower_3 : decode cX11_tower 3 = .ok (.bipush 99, 2) := by decide +kernel
theorem dX11_tower_5 : decode cX11_tower 5 = .ok (.invokestatic 253, 3) := by decide +kernel
theorem dX11_tower_8 : decode cX11_tower 8 = .ok (.invokevirtual 164, 3) := by decide +kernel
theorem dX11_tower_11 : decode cX11_tower 11 = .ok (.aload_n 0, 1) := by decide +kernel
theorem dX11_tower_12 : decode cX11_tower 12 = .ok (.iload_n 2, 1) := by decide +kernel
theorem dX11_tower_13 : decode cX11_tower 13 = .ok (.iconst 1, 1) := by decide +kernel
theorem dX11_tower_14 : decode cX11_tower 14 = .ok (.invokevirtual 199, 3) := by decide +kernel
theorem dX11_tower_17 : decode cX11_tower 17 = .ok (.iconst (-1), 1) := by decide +kernel
theorem dX11_tower_18 : decode cX11_tower 18 = .ok (.istore_n 3, 1) := by decide +kernel
theorem dX11_tower_19 : decode cX11_tower 19 = .ok (.bipush 9, 2) := by decide +kernel
theorem dX11_tower_21 : decode cX11_tower 21 = .ok (.istore 4, 2) := by decide +kernel
theorem dX11_tower_23 : decode cX11_tower 23 = .ok (.iconst 0, 1) := by decide +kernel
theorem dX11_tower_24 : decode cX11_tower 24 = .ok (.istore 5, 2) := by decide +kernel
theorem dX11_tower_26 : decode cX11_tower 26 = .ok (.iload 5, 2) := by decide +kernel
theorem dX11_tower_28 : decode cX11_tower 28 = .ok (.aload_n 0, 1) := by decide +kernel
theorem dX11_tower_29 : decode cX11_tower 29 = .ok (.getfield 93, 3) := by decide +kernel
theorem dX11_tower_32 : decode cX11_tower 32 = .ok (.getfield 181, 3) := by decide +kernel
theorem dX11_tower_35 : decode cX11_tower 35 = .ok (.if_icmp .ge 64, 3) := by decide +kernel
theorem dX11_tower_38 : decode cX11_tower 38 = .ok (.aload_n 0, 1) := by decide +kernel
theorem dX11_tower_39 : decode cX11_tower 39 = .ok (.getfield 93, 3) := by decide +kernel
theorem dX11_tower_42 : decode cX11_tower 42 = .ok (.getfield 184, 3) := by decide +kernel
theorem dX11_tower_45 : decode cX11_tower 45 = .ok (.bipush 10, 2) := by decide +kernel
theorem dX11_tower_47 : decode cX11_tower 47 = .ok (.if_icmp .ge 52, 3) := by decide +kernel
theorem dX11_tower_50 : decode cX11_tower 50 = .ok (.aload_n 0, 1) := by decide +kernel
theorem dX11_tower_51 : decode cX11_tower 51 = .ok (.getfield 93, 3) := by decide +kernel
theorem dX11_tower_54 : decode cX11_tower 54 = .ok (.iload 5, 2) := by decide +kernel
theorem dX11_tower_56 : decode cX11_tower 56 = .ok (.invokevirtual 353, 3) := by decide +kernel
theorem dX11_tower_59 : decode cX11_tower 59 = .ok (.ifCond .ne 34, 3) := by decide +kernel
theorem dX11_tower_62 : decode cX11_tower 62 = .ok (.aload_n 0, 1) := by decide +kernel
theorem dX11_tower_63 : decode cX11_tower 63 = .ok (.iload 5, 2) := by decide +kernel
theorem dX11_tower_65 : decode cX11_tower 65 = .ok (.iload_n 1, 1) := by decide +kernel
theorem dX11_tower_66 : decode cX11_tower 66 = .ok (.invokevirtual 356, 3) := by decide +kernel
theorem dX11_tower_69 : decode cX11_tower 69 = .ok (.aload_n 0, 1) := by decide +kernel
theorem dX11_tower_70 : decode cX11_tower 70 = .ok (.getfield 73, 3) := by decide +kernel
theorem dX11_tower_73 : decode cX11_tower 73 = .ok (.getfield 287, 3) := by decide +kernel
theorem dX11_tower_76 : decode cX11_tower 76 = .ok (.iload 4, 2) := by decide +kernel
theorem dX11_tower_78 : decode cX11_tower 78 = .ok (.if_icmp .ge 15, 3) := by decide +kernel
theorem dX11_tower_81 : decode cX11_tower 81 = .ok (.aload_n 0, 1) := by decide +kernel
theorem dX11_tower_82 : decode cX11_tower 82 = .ok (.getfield 73, 3) := by decide +kernel
theorem dX11_tower_85 : decode cX11_tower 85 = .ok (.getfield 287, 3) := by decide +kernel
theorem dX11_tower_88 : decode cX11_tower 88 = .ok (.istore 4, 2) := by decide +kernel
theorem dX11_tower_90 : decode cX11_tower 90 = .ok (.iload 5, 2) := by decide +kernel
theorem dX11_tower_92 : decode cX11_tower 92 = .ok (.istore_n 3, 1) := by decide +kernel
theorem dX11_tower_93 : decode cX11_tower 93 = .ok (.iinc 5 1, 3) := by decide +kernel
theorem dX11_tower_96 : decode cX11_tower 96 = .ok (.goto (-70), 3) := by decide +kernel
theorem dX11_tower_99 : decode cX11_tower 99 = .ok (.iload_n 3, 1) := by decide +kernel
theorem dX11_tower_100 : decode cX11_tower 100 = .ok (.iconst (-1), 1) := by decide +kernel
theorem dX11_tower_101 : decode cX11_tower 101 = .ok (.if_icmp .eq 7, 3) := by decide +kernel
theorem dX11_tower_104 : decode cX11_tower 104 = .ok (.iload_n 2, 1) := by decide +kernel
theorem dX11_tower_105 : decode cX11_tower 105 = .ok (.ifCond .ne 7, 3) := by decide +kernel
theorem dX11_tower_108 : decode cX11_tower 108 = .ok (.iload_n 3, 1) := by decide +kernel
theorem dX11_tower_109 : decode cX11_tower 109 = .ok (.goto 5, 3) := by decide +kernel
theorem dX11_tower_112 : decode cX11_tower 112 = .ok (.iload 4, 2) := by decide +kernel
theorem dX11_tower_114 : decode cX11_tower 114 = .ok (.ireturn, 1) := by decide +kernel
theorem ct_X11_tower {g : Gw} (hG : GF g) {z : Bool} (E : Mm) (s : Nat) (P : SP) (L : LW) (T K : LN) (d : Nat) (hI_E : CXI E s P L T K d) (x0 x1 : Int) : CTX g yX11_tower cX11_tower 6 (some .int) 8 148 2 12 K2 z [mR 0, mI x0, mI x1] (ov E) K2 z (fun r' D' => (1 ≤ x0 ∧ x0 ≤ 99) ∧ (0 ≤ x1 ∧ x1 ≤ 1) ∧ r' = some (mI (if (twA P (gNow P L d) (sB P) T x0.toNat).1 = -1 ∨ x1 = 0 then (twA P (gNow P L d) (sB P) T x0.toNat).1 else (twA P (gNow P L d) (sB P) T x0.toNat).2)) ∧ ∃ E1, D' = ov E1 ∧ CXI E1 s P L T K d ∧ CXF E E1) (fun X D' => (¬ (1 ≤ x0 ∧ x0 ≤ 99) ∧ X = "java/lang/IllegalArgumentException" ∧ D' = ov (bumpE E 2)) ∨ ((1 ≤ x0 ∧ x0 ≤ 99) ∧ ¬ (0 ≤ x1 ∧ x1 ≤ 1) ∧ X = "java/lang/IllegalArgumentException" ∧ D' = ov (bumpE E 2))) := by
  refine CTX.mk hG (by decide +kernel) (Nat.le_of_ble_eq_true rfl) (fun κ X Rt Rx ok => ?_)
  have hs := hI_E.sa
  have hP := hI_E.WS
  have hW40 := hP.W
  have hN10 := hP.N
  have hN8 := hP.B.N
  have hX_E : CXF E E := CXF.rf
  have hwG := gNow_WG hI_E
  have hgw : gW (gNow P L d) = sW P := rfl
  have hgn : gN (gNow P L d) = sN P := rfl
  refine at_aload_n 1 X rfl rfl dX11_tower_0 rfl ?_
  refine at_iload_n 2 X rfl rfl dX11_tower_1 rfl ?_
  refine at_iconst 3 X (by decide) dX11_tower_2 rfl ?_
  refine at_bipush 5 X (by decide) (by decide) dX11_tower_3 rfl ?_
  refine at_callS 8 X (ct_X11_isWithin hG _ _ _) mo_X11_isWithin w_1211 so_X11_isWithin rfl rfl (crm Rt (by decide)) (Nat.le_of_ble_eq_true rfl) dX11_tower_5 rfl ?_
  rintro _ _ ⟨rfl, rfl⟩
  refine at_callVX 11 X Rt Rx _ 11 (ct_X11_need hG E (if 1 ≤ x0 ∧ x0 ≤ 99 then 1 else 0)) clX11 rfl k_0 mo_X11_need w_863 vo_X11_need.1 vo_X11_need.2 rfl rfl (by decide) (Nat.le_of_ble_eq_true rfl) dX11_tower_8 rfl (fun _ _ h => Or.inl ⟨(fun q => ite_no.mp h.1 (by omega)), h.2.1, h.2.2⟩) ?_
  rintro _ _ ⟨hq, rfl, rfl⟩
  have hc0 : 1 ≤ x0 ∧ x0 ≤ 99 := by have := ite_yes.mp hq; omega
  refine at_aload_n 12 X rfl rfl dX11_tower_11 rfl ?_
  refine at_iload_n 13 X rfl rfl dX11_tower_12 rfl ?_
  refine at_iconst 14 X (by decide) dX11_tower_13 rfl ?_
  refine at_callVX 17 X Rt Rx _ 11 (ct_X11_needWhat hG E x1 1) clX11 rfl k_0 mo_X11_needWhat w_1228 vo_X11_needWhat.1 vo_X11_needWhat.2 rfl rfl (by decide) (Nat.le_of_ble_eq_true rfl) dX11_tower_14 rfl (fun _ _ h => Or.inr (⟨hc0, h.1, h.2.1, h.2.2⟩)) ?_
  rintro _ _ ⟨hc1, rfl, rfl⟩
  obtain ⟨hi, rfl⟩ : ∃ hi : Nat, x0 = (hi : Int) := ⟨x0.toNat, by omega⟩
  refine at_iconst 18 X (by decide) dX11_tower_17 rfl ?_
  refine at_istore_n 19 X rfl dX11_tower_18 rfl (by decide) ?_
  refine at_bipush 21 X (by decide) (by decide) dX11_tower_19 rfl ?_
  refine at_istore 23 X dX11_tower_21 rfl (by decide) ?_
  refine at_iconst 24 X (by decide) dX11_tower_23 rfl ?_
  refine at_istore 26 X dX11_tower_24 rfl (by decide) ?_
  have J26 : ∀ (f26 : Nat) (F : Mm) (c : Nat) (v : Int) (m : Int), 40 - c < f26 → (c ≤ sW P) → (v = (twP P (gNow P L d) (sB P) T hi c).1) → (m = (twP P (gNow P L d) (sB P) T hi c).2) → (m ≤ 9) → ((sN P < 10 ∨ c = 0)) → (CXI F s P L T K d) → (CXF E F) → AT g κ K2 z 2 12 26 [(0, mR 0), (1, mI ((hi : Nat) : Int)), (2, mI x1), (3, mI v), (4, mI m), (5, mI ((c : Nat) : Int))] [] (ov F) := by
    intro f26
    induction f26 with
    | zero => intro F c v m hf26; omega
    | succ f26 ih26 =>
    intro F c v m hf26 hc hv hm hm9 hc10 hI_F hX_F
    have J99 : ((v, m) = twA P (gNow P L d) (sB P) T hi) → AT g κ K2 z 2 12 99 [(2, mI x1), (3, mI v), (4, mI m)] [] (ov F) := by
      intro hA
      refine at_iload_n 100 X rfl rfl dX11_tower_99 rfl ?_
      refine at_iconst 101 X (by decide) dX11_tower_100 rfl ?_
      refine at_icmp_eq 104 108 X dX11_tower_101 rfl (by decide) (fun h101 => ?_) (fun h101 => ?_)
      · refine at_iload_n 109 X rfl rfl dX11_tower_108 rfl ?_
        refine at_goto 114 X dX11_tower_109 (by decide) ?_
        refine at_iret X Rt ?_ (by decide) (by decide) dX11_tower_114
        exact ⟨hc0, hc1, (by (try simp only [Int.toNat_natCast]); rw [← hA]; first | (rw [if_pos (Or.inl (by omega))]; done) | (rw [if_pos (Or.inr (by omega))]; done) | (rw [if_neg (by omega)]; done)), _, rfl, hI_F, hX_F⟩
      · refine at_iload_n 105 X rfl rfl dX11_tower_104 rfl ?_
        refine at_if_ne 108 112 X dX11_tower_105 rfl (by decide) (fun h105 => ?_) (fun h105 => ?_)
        · refine at_iload 114 X rfl dX11_tower_112 rfl ?_
          refine at_iret X Rt ?_ (by decide) (by decide) dX11_tower_114
          exact ⟨hc0, hc1, (by (try simp only [Int.toNat_natCast]); rw [← hA]; first | (rw [if_pos (Or.inl (by omega))]; done) | (rw [if_pos (Or.inr (by omega))]; done) | (rw [if_neg (by omega)]; done)), _, rfl, hI_F, hX_F⟩
        · refine at_iload_n 109 X rfl rfl dX11_tower_108 rfl ?_
          refine at_goto 114 X dX11_tower_109 (by decide) ?_
          refine at_iret X Rt ?_ (by decide) (by decide) dX11_tower_114
          exact ⟨hc0, hc1, (by (try simp only [Int.toNat_natCast]); rw [← hA]; first | (rw [if_pos (Or.inl (by omega))]; done) | (rw [if_pos (Or.inr (by omega))]; done) | (rw [if_neg (by omega)]; done)), _, rfl, hI_F, hX_F⟩
    refine at_iload 28 X rfl dX11_tower_26 rfl ?_
    refine at_aload_n 29 X rfl rfl dX11_tower_28 rfl ?_
    refine m_getM 32 X (s) f_X11_93 k_0 rn_0_15 hI_F.now dX11_tower_29 rfl ?_
    refine m_getIV 35 X ((sW P : Nat) : Int) hI_F.S.W f_X11_181 (kX9 hs) (nX9_8 hs) dX11_tower_32 rfl ?_
    have := hP.W
    refine at_icmp_ge 38 99 X dX11_tower_35 rfl (by decide) (fun h35 => ?_) (fun h35 => ?_)
    · exact at_sub _ (by exact ⟨rfl, rfl, rfl, trivial⟩) (J99  (by unfold twA; first | (rw [if_pos (by omega), show sW P = c by omega, hv, hm]; done) | (obtain rfl : c = 0 := (by omega); rw [if_neg (by omega), hv, hm]; rfl)))
    · refine at_aload_n 39 X rfl rfl dX11_tower_38 rfl ?_
      refine m_getM 42 X (s) f_X11_93 k_0 rn_0_15 hI_F.now dX11_tower_39 rfl ?_
      refine m_getIV 45 X ((sN P : Nat) : Int) hI_F.S.N f_X11_184 (kX9 hs) (nX9_10 hs) dX11_tower_42 rfl ?_
      have := hP.N
      refine at_bipush 47 X (by decide) (by decide) dX11_tower_45 rfl ?_
      refine at_icmp_ge 50 99 X dX11_tower_47 rfl (by decide) (fun h47 => ?_) (fun h47 => ?_)
      · exact at_sub _ (by exact ⟨rfl, rfl, rfl, trivial⟩) (J99  (by unfold twA; first | (rw [if_pos (by omega), show sW P = c by omega, hv, hm]; done) | (obtain rfl : c = 0 := (by omega); rw [if_neg (by omega), hv, hm]; rfl)))
      · refine at_aload_n 51 X rfl rfl dX11_tower_50 rfl ?_
        refine m_getM 54 X (s) f_X11_93 k_0 rn_0_15 hI_F.now dX11_tower_51 rfl ?_
        refine at_iload 56 X rfl dX11_tower_54 rfl ?_
        refine at_callV 59 X _ 9 (ct_X9_hasPost hG F P s hs hI_F.S hP c) clX9 rfl (kX9 hs) mo_X9_hasPost w_1511 vo_X9_hasPost.1 vo_X9_hasPost.2 rfl rfl (crm Rt (by decide)) (Nat.le_of_ble_eq_true rfl) dX11_tower_56 rfl ?_
        rintro _ _ ⟨rfl, rfl⟩
        refine at_if_ne 62 93 X dX11_tower_59 rfl (by decide) (fun h59 => ?_) (fun h59 => ?_)
        · have h59 : (hasP P c = true) := ite_yes.mp h59
          refine at_iincV 96 X ((c + 1 : Nat) : Int) (w32_v (by omega) (by omega) (by omega)) rfl dX11_tower_93 rfl (by decide) ?_
          refine at_goto 26 X dX11_tower_96 (by decide) ?_
          exact at_sub _ (by exact ⟨rfl, rfl, rfl, rfl, rfl, rfl, trivial⟩) (ih26 F (c + 1) v m (by first | omega | (simp only [] at *; omega)) (by first | omega | assumption) (by rw [twP_s, ← hm]; split <;> first | assumption | rfl | (rename_i hx; exact absurd h59 hx.1) | (rename_i hx; exact absurd ⟨h59, by unfold nfP; omega⟩ hx) | (rename_i hx; have := hx.2; unfold nfP at this; omega)) (by rw [twP_s, ← hm]; split <;> first | assumption | rfl | (rename_i hx; exact absurd h59 hx.1) | (rename_i hx; exact absurd ⟨h59, by unfold nfP; omega⟩ hx) | (rename_i hx; have := hx.2; unfold nfP at this; omega)) (by first | omega | assumption) (Or.inl (by omega)) hI_F hX_F)
        · have h59 : ¬ (hasP P c = true) := ite_no.mp h59
          refine at_aload_n 63 X rfl rfl dX11_tower_62 rfl ?_
          refine at_iload 65 X rfl dX11_tower_63 rfl ?_
          refine at_iload_n 66 X rfl rfl dX11_tower_65 rfl ?_
          refine at_callV 69 X _ 11 (ct_X11_goWithPost hG F s P L T K d hI_F c hi (by omega) (by omega)) clX11 rfl k_0 mo_X11_goWithPost w_1512 vo_X11_goWithPost.1 vo_X11_goWithPost.2 rfl rfl (crm Rt (by decide)) (Nat.le_of_ble_eq_true rfl) dX11_tower_66 rfl ?_
          rintro _ _ ⟨rfl, F1, rfl, hdn_F1, hq_F1⟩
          have hT3 := hI_F.tried (E1 := F1) hq_F1
          have hI_F1 := hT3.1
          have hX_F1 : CXF E F1 := hX_F.tr hT3.2.2
          refine at_aload_n 70 X rfl rfl dX11_tower_69 rfl ?_
          refine m_getR 73 X f_X11_73 k_0 r_0_12 dX11_tower_70 rfl ?_
          refine m_getIV 76 X ((dN (dyP (addP (gNow P L d) c hi) (sB P) T 24) : Nat) : Int) hdn_F1.1.2.2.2.1 f_X11_287 k_54 rn_54_5 dX11_tower_73 rfl ?_
          have hDA := dyP_DI (G := addP (gNow P L d) c hi) hP.B hI_F1.WT (Nat.le_refl 24)
          have hda8 : dN (dyP (addP (gNow P L d) c hi) (sB P) T 24) ≤ 8 := by rw [hDA.2.1]; exact Nat.le_trans (cntp_le _ _) hN8
          refine at_iload 78 X rfl dX11_tower_76 rfl ?_
          refine at_icmp_ge 81 93 X dX11_tower_78 rfl (by decide) (fun h78 => ?_) (fun h78 => ?_)
          · refine at_iincV 96 X ((c + 1 : Nat) : Int) (w32_v (by omega) (by omega) (by omega)) rfl dX11_tower_93 rfl (by decide) ?_
            refine at_goto 26 X dX11_tower_96 (by decide) ?_
            exact at_sub _ (by exact ⟨rfl, rfl, rfl, rfl, rfl, rfl, trivial⟩) (ih26 F1 (c + 1) v m (by first | omega | (simp only [] at *; omega)) (by first | omega | assumption) (by rw [twP_s, ← hm]; split <;> first | assumption | rfl | (rename_i hx; exact absurd h59 hx.1) | (rename_i hx; exact absurd ⟨h59, by unfold nfP; omega⟩ hx) | (rename_i hx; have := hx.2; unfold nfP at this; omega)) (by rw [twP_s, ← hm]; split <;> first | assumption | rfl | (rename_i hx; exact absurd h59 hx.1) | (rename_i hx; exact absurd ⟨h59, by unfold nfP; omega⟩ hx) | (rename_i hx; have := hx.2; unfold nfP at this; omega)) (by first | omega | assumption) (Or.inl (by omega)) hI_F1 hX_F1)
          · refine at_aload_n 82 X rfl rfl dX11_tower_81 rfl ?_
            refine m_getR 85 X f_X11_73 k_0 r_0_12 dX11_tower_82 rfl ?_
            refine m_getIV 88 X ((dN (dyP (addP (gNow P L d) c hi) (sB P) T 24) : Nat) : Int) hdn_F1.1.2.2.2.1 f_X11_287 k_54 rn_54_5 dX11_tower_85 rfl ?_
            have hDA := dyP_DI (G := addP (gNow P L d) c hi) hP.B hI_F1.WT (Nat.le_refl 24)
            have hda8 : dN (dyP (addP (gNow P L d) c hi) (sB P) T 24) ≤ 8 := by rw [hDA.2.1]; exact Nat.le_trans (cntp_le _ _) hN8
            refine at_istore 90 X dX11_tower_88 rfl (by decide) ?_
            refine at_iload 92 X rfl dX11_tower_90 rfl ?_
            refine at_istore_n 93 X rfl dX11_tower_92 rfl (by decide) ?_
            refine at_iincV 96 X ((c + 1 : Nat) : Int) (w32_v (by omega) (by omega) (by omega)) rfl dX11_tower_93 rfl (by decide) ?_
            refine at_goto 26 X dX11_tower_96 (by decide) ?_
            exact at_sub _ (by exact ⟨rfl, rfl, rfl, rfl, rfl, rfl, trivial⟩) (ih26 F1 (c + 1) ((c : Nat) : Int) ((dN (dyP (addP (gNow P L d) c hi) (sB P) T 24) : Nat) : Int) (by first | omega | (simp only [] at *; omega)) (by first | omega | assumption) (by rw [twP_s, ← hm]; split <;> first | assumption | rfl | (rename_i hx; exact absurd h59 hx.1) | (rename_i hx; exact absurd ⟨h59, by unfold nfP; omega⟩ hx) | (rename_i hx; have := hx.2; unfold nfP at this; omega)) (by rw [twP_s, ← hm]; split <;> first | assumption | rfl | (rename_i hx; exact absurd h59 hx.1) | (rename_i hx; exact absurd ⟨h59, by unfold nfP; omega⟩ hx) | (rename_i hx; have := hx.2; unfold nfP at this; omega)) (by first | omega | assumption) (Or.inl (by omega)) hI_F1 hX_F1)
  exact at_sub _ (by exact ⟨rfl, rfl, rfl, rfl, rfl, rfl, trivial⟩) (J26 _ E 0 (-1) 9 (Nat.lt_succ_self _) (by first | omega | assumption | rfl) rfl rfl (by first | omega | assumption | rfl) (Or.inr rfl) hI_E hX_E)
theorem rlP_le (K : LN) (f : Nat → Int) : ∀ n, rlP K f n ≤ n
  | 0 => Nat.le_refl _
  | n + 1 => by
    have := rlP_le K f n
    show (if rlP K f n = n ∧ okL K f n = true then n + 1 else rlP K f n) ≤ n + 1
    split <;> omega
theorem msB_iff (P : SP) (G : GP) (B : BM) (T K : LN) (hi c : Nat) : msB P G B T K hi c = true ↔ ¬ hasP P c = true ∧ rlP K (dF (dyP (addP G c hi) B T 24)) K.1 = K.1 := by
  unfold msB
  rw [Bool.and_eq_true, Bool.not_eq_true', decide_eq_true_iff, Bool.not_eq_true]
theorem dX11_missing_0 : decode cX11_missing 0 = .ok (.aload_n 0, 1) := by decide +kernel
theorem dX11_missing_1 : decode cX11_missing 1 = .ok (.iload_n 1, 1) := by decide +kernel
theorem dX11_missing_2 : decode cX11_missing 2 = .ok (.iconst 1, 1) := by decide +kernel
theorem dX11_missing_3 : decode cX11_missing 3 = .ok (.bipush 99, 2) := by decide +kernel
theorem dX11_missing_5 : decode cX11_missing 5 = .ok (.invokestatic 253, 3) := by decide +kernel
theorem dX11_missing_8 : decode cX11_missing 8 = .ok (.invokevirtual 164, 3) := by decide +kernel
theorem dX11_missing_11 : decode cX11_missing 11 = .ok (.aload_n 0, 1) := by decide +kernel
theorem dX11_missing_12 : decode cX11_missing 12 = .ok (.iload_n 2, 1) := by decide +kernel
theorem dX11_missing_13 : decode cX11_missing 13 = .ok (.iconst 1, 1) := by decide +kernel
theorem dX11_missing_14 : decode cX11_missing 14 = .ok (.invokevirtual 199, 3) := by decide +kernel
theorem dX11_missing_17 : decode cX11_missing 17 = .ok (.iconst 0, 1) := by decide +kernel
theorem dX11_missing_18 : decode cX11_missing 18 = .ok (.istore_n 3, 1) := by decide +kernel
theorem dX11_missing_19 : decode cX11_missing 19 = .ok (.iconst (-1), 1) := by decide +kernel
theorem dX11_missing_20 : decode cX11_missing 20 = .ok (.istore 4, 2) := by decide +kernel
theorem dX11_missing_22 : decode cX11_missing 22 = .ok (.iconst 0, 1) := by decide +kernel
theorem dX11_missing_23 : decode cX11_missing 23 = .ok (.istore 5, 2) := by decide +kernel
theorem dX11_missing_25 : decode cX11_missing 25 = .ok (.iload 5, 2) := by decide +kernel
theorem dX11_missing_27 : decode cX11_missing 27 = .ok (.aload_n 0, 1) := by decide +kernel
theorem dX11_missing_28 : decode cX11_missing 28 = .ok (.getfield 93, 3) := by decide +kernel
theorem dX11_missing_31 : decode cX11_missing 31 = .ok (.getfield 181, 3) := by decide +kernel
theorem dX11_missing_34 : decode cX11_missing 34 = .ok (.if_icmp .ge 64, 3) := by decide +kernel
theorem dX11_missing_37 : decode cX11_missing 37 = .ok (.aload_n 0, 1) := by decide +kernel
theorem dX11_missing_38 : decode cX11_missing 38 = .ok (.getfield 93, 3) := by decide +kernel
theorem dX11_missing_41 : decode cX11_missing 41 = .ok (.iload 5, 2) := by decide +kernel
theorem dX11_missing_43 : decode cX11_missing 43 = .ok (.invokevirtual 353, 3) := by decide +kernel
theorem dX11_missing_46 : decode cX11_missing 46 = .ok (.ifCond .ne 46, 3) := by decide +kernel
theorem dX11_missing_49 : decode cX11_missing 49 = .ok (.aload_n 0, 1) := by decide +kernel
theorem dX11_missing_50 : decode cX11_missing 50 = .ok (.iload 5, 2) := by decide +kernel
theorem dX11_missing_52 : decode cX11_missing 52 = .ok (.iload_n 1, 1) := by decide +kernel
theorem dX11_missing_53 : decode cX11_missing 53 = .ok (.invokevirtual 356, 3) := by decide +kernel
theorem dX11_missing_56 : decode cX11_missing 56 = .ok (.aload_n 0, 1) := by decide +kernel
theorem dX11_missing_57 : decode cX11_missing 57 = .ok (.aload_n 0, 1) := by decide +kernel
theorem dX11_missing_58 : decode cX11_missing 58 = .ok (.getfield 73, 3) := by decide +kernel
theorem dX11_missing_61 : decode cX11_missing 61 = .ok (.invokevirtual 383, 3) := by decide +kernel
theorem dX11_missing_64 : decode cX11_missing 64 = .ok (.aload_n 0, 1) := by decide +kernel
theorem dX11_missing_65 : decode cX11_missing 65 = .ok (.getfield 37, 3) := by decide +kernel
theorem dX11_missing_68 : decode cX11_missing 68 = .ok (.getfield 156, 3) := by decide +kernel
theorem dX11_missing_71 : decode cX11_missing 71 = .ok (.if_icmp .ne 21, 3) := by decide +kernel
theorem dX11_missing_74 : decode cX11_missing 74 = .ok (.iinc 3 1, 3) := by decide +kernel
theorem dX11_missing_77 : decode cX11_missing 77 = .ok (.iload 4, 2) := by decide +kernel
theorem dX11_missing_79 : decode cX11_missing 79 = .ok (.iconst (-1), 1) := by decide +kernel
theorem dX11_missing_80 : decode cX11_missing 80 = .ok (.if_icmp .ne 8, 3) := by decide +kernel
theorem dX11_missing_83 : decode cX11_missing 83 = .ok (.iload 5, 2) := by decide +kernel
theorem dX11_missing_85 : decode cX11_missing 85 = .ok (.goto 5, 3) := by decide +kernel
theorem dX11_missing_88 : decode cX11_missing 88 = .ok (.iload 4, 2) := by decide +kernel
theorem dX11_missing_90 : decode cX11_missing 90 = .ok (.istore 4, 2) := by decide +kernel
theorem dX11_missing_92 : decode cX11_missing 92 = .ok (.iinc 5 1, 3) := by decide +kernel
theorem dX11_missing_95 : decode cX11_missing 95 = .ok (.goto (-70), 3) := by decide +kernel
theorem dX11_missing_98 : decode cX11_missing 98 = .ok (.iload_n 2, 1) := by decide +kernel
theorem dX11_missing_99 : decode cX11_missing 99 = .ok (.ifCond .ne 7, 3) := by decide +kernel
theorem dX11_missing_102 : decode cX11_missing 102 = .ok (.iload_n 3, 1) := by decide +kernel
theorem dX11_missing_103 : decode cX11_missing 103 = .ok (.goto 5, 3) := by decide +kernel
theorem dX11_missing_106 : decode cX11_missing 106 = .ok (.iload 4, 2) := by decide +kernel
theorem dX11_missing_108 : decode cX11_missing 108 = .ok (.ireturn, 1) := by decide +kernel
theorem ct_X11_missing {g : Gw} (hG : GF g) {z : Bool} (E : Mm) (s : Nat) (P : SP) (L : LW) (T K : LN) (d : Nat) (hI_E : CXI E s P L T K d) (x0 x1 : Int) : CTX g yX11_missing cX11_missing 6 (some .int) 8 148 2 12 K2 z [mR 0, mI x0, mI x1] (ov E) K2 z (fun r' D' => (1 ≤ x0 ∧ x0 ≤ 99) ∧ (0 ≤ x1 ∧ x1 ≤ 1) ∧ r' = some (mI (if x1 = 0 then (cntp (msB P (gNow P L d) (sB P) T K x0.toNat) (sW P) : Nat) else fstP (msB P (gNow P L d) (sB P) T K x0.toNat) (sW P))) ∧ ∃ E1, D' = ov E1 ∧ CXI E1 s P L T K d ∧ CXF E E1) (fun X D' => (¬ (1 ≤ x0 ∧ x0 ≤ 99) ∧ X = "java/lang/IllegalArgumentException" ∧ D' = ov (bumpE E 2)) ∨ ((1 ≤ x0 ∧ x0 ≤ 99) ∧ ¬ (0 ≤ x1 ∧ x1 ≤ 1) ∧ X = "java/lang/IllegalArgumentException" ∧ D' = ov (bumpE E 2))) := by
  refine CTX.mk hG (by decide +kernel) (Nat.le_of_ble_eq_true rfl) (fun κ X Rt Rx ok => ?_)
  have hs := hI_E.sa
  have hP := hI_E.WS
  have hW40 := hP.W
  have hN10 := hP.N
  have hN8 := hP.B.N
  have hX_E : CXF E E := CXF.rf
  have hwG := gNow_WG hI_E
  have hgw : gW (gNow P L d) = sW P := rfl
  have hgn : gN (gNow P L d) = sN P := rfl
  refine at_aload_n 1 X rfl rfl dX11_missing_0 rfl ?_
  refine at_iload_n 2 X rfl rfl dX11_missing_1 rfl ?_
  refine at_iconst 3 X (by decide) dX11_missing_2 rfl ?_
  refine at_bipush 5 X (by decide) (by decide) dX11_missing_3 rfl ?_
  refine at_callS 8 X (ct_X11_isWithin hG _ _ _) mo_X11_isWithin w_1211 so_X11_isWithin rfl rfl (crm Rt (by decide)) (Nat.le_of_ble_eq_true rfl) dX11_missing_5 rfl ?_
  rintro _ _ ⟨rfl, rfl⟩
  refine at_callVX 11 X Rt Rx _ 11 (ct_X11_need hG E (if 1 ≤ x0 ∧ x0 ≤ 99 then 1 else 0)) clX11 rfl k_0 mo_X11_need w_863 vo_X11_need.1 vo_X11_need.2 rfl rfl (by decide) (Nat.le_of_ble_eq_true rfl) dX11_missing_8 rfl (fun _ _ h => Or.inl ⟨(fun q => ite_no.mp h.1 (by omega)), h.2.1, h.2.2⟩) ?_
  rintro _ _ ⟨hq, rfl, rfl⟩
  have hc0 : 1 ≤ x0 ∧ x0 ≤ 99 := by have := ite_yes.mp hq; omega
  refine at_aload_n 12 X rfl rfl dX11_missing_11 rfl ?_
  refine at_iload_n 13 X rfl rfl dX11_missing_12 rfl ?_
  refine at_iconst 14 X (by decide) dX11_missing_13 rfl ?_
  refine at_callVX 17 X Rt Rx _ 11 (ct_X11_needWhat hG E x1 1) clX11 rfl k_0 mo_X11_needWhat w_1228 vo_X11_needWhat.1 vo_X11_needWhat.2 rfl rfl (by decide) (Nat.le_of_ble_eq_true rfl) dX11_missing_14 rfl (fun _ _ h => Or.inr (⟨hc0, h.1, h.2.1, h.2.2⟩)) ?_
  rintro _ _ ⟨hc1, rfl, rfl⟩
  obtain ⟨hi, rfl⟩ : ∃ hi : Nat, x0 = (hi : Int) := ⟨x0.toNat, by omega⟩
  refine at_iconst 18 X (by decide) dX11_missing_17 rfl ?_
  refine at_istore_n 19 X rfl dX11_missing_18 rfl (by decide) ?_
  refine at_iconst 20 X (by decide) dX11_missing_19 rfl ?_
  refine at_istore 22 X dX11_missing_20 rfl (by decide) ?_
  refine at_iconst 23 X (by decide) dX11_missing_22 rfl ?_
  refine at_istore 25 X dX11_missing_23 rfl (by decide) ?_
  have J25 : ∀ (f25 : Nat) (F : Mm) (c : Nat) (n : Nat) (v : Int), 40 - c < f25 → (c ≤ sW P) → (n = cntp (msB P (gNow P L d) (sB P) T K hi) c) → (v = fstP (msB P (gNow P L d) (sB P) T K hi) c) → (CXI F s P L T K d) → (CXF E F) → AT g κ K2 z 2 12 25 [(0, mR 0), (1, mI ((hi : Nat) : Int)), (2, mI x1), (3, mI ((n : Nat) : Int)), (4, mI v), (5, mI ((c : Nat) : Int))] [] (ov F) := by
    intro f25
    induction f25 with
    | zero => intro F c n v hf25; omega
    | succ f25 ih25 =>
    intro F c n v hf25 hc hn hv hI_F hX_F
    refine at_iload 27 X rfl dX11_missing_25 rfl ?_
    have hnl := cntp_le (msB P (gNow P L d) (sB P) T K hi) c
    have hvl := fst_in (msB P (gNow P L d) (sB P) T K hi) c
    refine at_aload_n 28 X rfl rfl dX11_missing_27 rfl ?_
    refine m_getM 31 X (s) f_X11_93 k_0 rn_0_15 hI_F.now dX11_missing_28 rfl ?_
    refine m_getIV 34 X ((sW P : Nat) : Int) hI_F.S.W f_X11_181 (kX9 hs) (nX9_8 hs) dX11_missing_31 rfl ?_
    have := hP.W
    refine at_icmp_ge 37 98 X dX11_missing_34 rfl (by decide) (fun h34 => ?_) (fun h34 => ?_)
    · refine at_iload_n 99 X rfl rfl dX11_missing_98 rfl ?_
      refine at_if_ne 102 106 X dX11_missing_99 rfl (by decide) (fun h99 => ?_) (fun h99 => ?_)
      · refine at_iload 108 X rfl dX11_missing_106 rfl ?_
        refine at_iret X Rt ?_ (by decide) (by decide) dX11_missing_108
        exact ⟨hc0, hc1, (by (try simp only [Int.toNat_natCast]); rw [show sW P = c by omega] <;> first | (rw [if_pos (show x1 = 0 by omega), hn]; done) | (rw [if_neg (show ¬ x1 = 0 by omega), hv]; done)), _, rfl, hI_F, hX_F⟩
      · refine at_iload_n 103 X rfl rfl dX11_missing_102 rfl ?_
        refine at_goto 108 X dX11_missing_103 (by decide) ?_
        refine at_iret X Rt ?_ (by decide) (by decide) dX11_missing_108
        exact ⟨hc0, hc1, (by (try simp only [Int.toNat_natCast]); rw [show sW P = c by omega] <;> first | (rw [if_pos (show x1 = 0 by omega), hn]; done) | (rw [if_neg (show ¬ x1 = 0 by omega), hv]; done)), _, rfl, hI_F, hX_F⟩
    · refine at_aload_n 38 X rfl rfl dX11_missing_37 rfl ?_
      refine m_getM 41 X (s) f_X11_93 k_0 rn_0_15 hI_F.now dX11_missing_38 rfl ?_
      refine at_iload 43 X rfl dX11_missing_41 rfl ?_
      refine at_callV 46 X _ 9 (ct_X9_hasPost hG F P s hs hI_F.S hP c) clX9 rfl (kX9 hs) mo_X9_hasPost w_1511 vo_X9_hasPost.1 vo_X9_hasPost.2 rfl rfl (crm Rt (by decide)) (Nat.le_of_ble_eq_true rfl) dX11_missing_43 rfl ?_
      rintro _ _ ⟨rfl, rfl⟩
      refine at_if_ne 49 92 X dX11_missing_46 rfl (by decide) (fun h46 => ?_) (fun h46 => ?_)
      · have h46 : (hasP P c = true) := ite_yes.mp h46
        have hms : ¬ msB P (gNow P L d) (sB P) T K hi c = true := fun q => ((msB_iff _ _ _ _ _ _ _).mp q).1 h46
        refine at_iincV 95 X ((c + 1 : Nat) : Int) (w32_v (by omega) (by omega) (by omega)) rfl dX11_missing_92 rfl (by decide) ?_
        refine at_goto 25 X dX11_missing_95 (by decide) ?_
        exact at_sub _ (by exact ⟨rfl, rfl, rfl, rfl, rfl, rfl, trivial⟩) (ih25 F (c + 1) n v (by first | omega | (simp only [] at *; omega)) (by first | omega | assumption) (by rw [cntp_s]; first | (rw [if_pos hms]; omega) | (rw [if_neg hms]; omega)) (by rw [fst_s]; first | (rw [if_neg (fun q => hms q.2)]; assumption) | (rw [if_pos ⟨by omega, hms⟩]; done) | (rw [if_neg (by omega)]; assumption)) hI_F hX_F)
      · have h46 : ¬ (hasP P c = true) := ite_no.mp h46
        refine at_aload_n 50 X rfl rfl dX11_missing_49 rfl ?_
        refine at_iload 52 X rfl dX11_missing_50 rfl ?_
        refine at_iload_n 53 X rfl rfl dX11_missing_52 rfl ?_
        refine at_callV 56 X _ 11 (ct_X11_goWithPost hG F s P L T K d hI_F c hi (by omega) (by omega)) clX11 rfl k_0 mo_X11_goWithPost w_1512 vo_X11_goWithPost.1 vo_X11_goWithPost.2 rfl rfl (crm Rt (by decide)) (Nat.le_of_ble_eq_true rfl) dX11_missing_53 rfl ?_
        rintro _ _ ⟨rfl, F1, rfl, hdn_F1, hq_F1⟩
        have hT3 := hI_F.tried (E1 := F1) hq_F1
        have hI_F1 := hT3.1
        have hX_F1 : CXF E F1 := hX_F.tr hT3.2.2
        refine at_aload_n 57 X rfl rfl dX11_missing_56 rfl ?_
        refine at_aload_n 58 X rfl rfl dX11_missing_57 rfl ?_
        refine m_getR 61 X f_X11_73 k_0 r_0_12 dX11_missing_58 rfl ?_
        refine at_callV 64 X _ 11 (ct_X11_rightLines hG F1 s P L T K d hI_F1 54 (Or.inr rfl) (dF (dyP (addP (gNow P L d) c hi) (sB P) T 24)) hdn_F1.1.2.1 (fun k hk => DI_f (dyP_DI (G := addP (gNow P L d) c hi) hP.B hI_F1.WT (Nat.le_refl 24)) k)) clX11 rfl k_0 mo_X11_rightLines w_784 vo_X11_rightLines.1 vo_X11_rightLines.2 rfl rfl (crm Rt (by decide)) (Nat.le_of_ble_eq_true rfl) dX11_missing_61 rfl ?_
        rintro _ _ ⟨rfl, rfl⟩
        have hrl : rlP K (dF (dyP (addP (gNow P L d) c hi) (sB P) T 24)) K.1 ≤ K.1 := rlP_le _ _ _
        refine at_aload_n 65 X rfl rfl dX11_missing_64 rfl ?_
        refine m_getR 68 X f_X11_37 k_0 r_0_5 dX11_missing_65 rfl ?_
        refine m_getIV 71 X ((K.1 : Nat) : Int) hI_F1.Kn.n f_X11_156 k_16 rn_16_3 dX11_missing_68 rfl ?_
        have hK8 := hI_F1.WK.1
        refine at_icmp_ne 74 92 X dX11_missing_71 rfl (by decide) (fun h71 => ?_) (fun h71 => ?_)
        · have hms : ¬ msB P (gNow P L d) (sB P) T K hi c = true := fun q => by have := ((msB_iff _ _ _ _ _ _ _).mp q).2; omega
          refine at_iincV 95 X ((c + 1 : Nat) : Int) (w32_v (by omega) (by omega) (by omega)) rfl dX11_missing_92 rfl (by decide) ?_
          refine at_goto 25 X dX11_missing_95 (by decide) ?_
          exact at_sub _ (by exact ⟨rfl, rfl, rfl, rfl, rfl, rfl, trivial⟩) (ih25 F1 (c + 1) n v (by first | omega | (simp only [] at *; omega)) (by first | omega | assumption) (by rw [cntp_s]; first | (rw [if_pos hms]; omega) | (rw [if_neg hms]; omega)) (by rw [fst_s]; first | (rw [if_neg (fun q => hms q.2)]; assumption) | (rw [if_pos ⟨by omega, hms⟩]; done) | (rw [if_neg (by omega)]; assumption)) hI_F1 hX_F1)
        · have hms : msB P (gNow P L d) (sB P) T K hi c = true := (msB_iff _ _ _ _ _ _ _).mpr ⟨h46, by omega⟩
          refine at_iincV 77 X ((n + 1 : Nat) : Int) (w32_v (by omega) (by omega) (by omega)) rfl dX11_missing_74 rfl (by decide) ?_
          refine at_iload 79 X rfl dX11_missing_77 rfl ?_
          refine at_iconst 80 X (by decide) dX11_missing_79 rfl ?_
          refine at_icmp_ne 83 88 X dX11_missing_80 rfl (by decide) (fun h80 => ?_) (fun h80 => ?_)
          · refine at_iload 90 X rfl dX11_missing_88 rfl ?_
            refine at_istore 92 X dX11_missing_90 rfl (by decide) ?_
            refine at_iincV 95 X ((c + 1 : Nat) : Int) (w32_v (by omega) (by omega) (by omega)) rfl dX11_missing_92 rfl (by decide) ?_
            refine at_goto 25 X dX11_missing_95 (by decide) ?_
            exact at_sub _ (by exact ⟨rfl, rfl, rfl, rfl, rfl, rfl, trivial⟩) (ih25 F1 (c + 1) (n + 1) v (by first | omega | (simp only [] at *; omega)) (by first | omega | assumption) (by rw [cntp_s]; first | (rw [if_pos hms]; omega) | (rw [if_neg hms]; omega)) (by rw [fst_s]; first | (rw [if_neg (fun q => hms q.2)]; assumption) | (rw [if_pos ⟨by omega, hms⟩]; done) | (rw [if_neg (by omega)]; assumption)) hI_F1 hX_F1)
          · refine at_iload 85 X rfl dX11_missing_83 rfl ?_
            refine at_goto 90 X dX11_missing_85 (by decide) ?_
            refine at_istore 92 X dX11_missing_90 rfl (by decide) ?_
            refine at_iincV 95 X ((c + 1 : Nat) : Int) (w32_v (by omega) (by omega) (by omega)) rfl dX11_missing_92 rfl (by decide) ?_
            refine at_goto 25 X dX11_missing_95 (by decide) ?_
            exact at_sub _ (by exact ⟨rfl, rfl, rfl, rfl, rfl, rfl, trivial⟩) (ih25 F1 (c + 1) (n + 1) ((c : Nat) : Int) (by first | omega | (simp only [] at *; omega)) (by first | omega | assumption) (by rw [cntp_s]; first | (rw [if_pos hms]; omega) | (rw [if_neg hms]; omega)) (by rw [fst_s]; first | (rw [if_neg (fun q => hms q.2)]; assumption) | (rw [if_pos ⟨by omega, hms⟩]; done) | (rw [if_neg (by omega)]; assumption)) hI_F1 hX_F1)
  exact at_sub _ (by exact ⟨rfl, rfl, rfl, rfl, rfl, rfl, trivial⟩) (J25 _ E 0 0 (-1) (Nat.lt_succ_self _) (by first | omega | assumption | rfl) rfl rfl hI_E hX_E)
theorem dX11_kindOf_0 : decode cX11_kindOf 0 = .ok (.aload_n 0, 1) := by decide +kernel
theorem dX11_kindOf_1 : decode cX11_kindOf 1 = .ok (.getfield 93, 3) := by decide +kernel
theorem dX11_kindOf_4 : decode cX11_kindOf 4 = .ok (.iload_n 1, 1) := by decide +kernel
theorem dX11_kindOf_5 : decode cX11_kindOf 5 = .ok (.invokevirtual 359, 3) := by decide +kernel
theorem dX11_kindOf_8 : decode cX11_kindOf 8 = .ok (.iconst 1, 1) := by decide +kernel
theorem dX11_kindOf_9 : decode cX11_kindOf 9 = .ok (.iadd, 1) := by decide +kernel
theorem dX11_kindOf_10 : decode cX11_kindOf 10 = .ok (.ireturn, 1) := by decide +kernel
theorem ct_X11_kindOf {g : Gw} (hG : GF g) {z : Bool} (E : Mm) (s : Nat) (P : SP) (L : LW) (T K : LN) (d : Nat) (hI_E : CXI E s P L T K d) (x : Nat) (hx : x < 400) : CT g yX11_kindOf cX11_kindOf 2 (some .int) 1 22 0 0 K2 z [mR 0, mI ((x : Nat) : Int)] (ov E) K2 z (fun r D' => r = some (mI (kdP P x : Nat)) ∧ D' = ov E) := by
  refine CT.mk hG (by decide +kernel) (Nat.le_of_ble_eq_true rfl) (fun κ X Rt _ ok => ?_)
  have hs := hI_E.sa
  have hP := hI_E.WS
  have hW40 := hP.W
  have hN10 := hP.N
  have hN8 := hP.B.N
  have hX_E : CXF E E := CXF.rf
  refine at_aload_n 1 X rfl rfl dX11_kindOf_0 rfl ?_
  refine m_getM 4 X (s) f_X11_93 k_0 rn_0_15 hI_E.now dX11_kindOf_1 rfl ?_
  refine at_iload_n 5 X rfl rfl dX11_kindOf_4 rfl ?_
  refine at_callV 8 X _ 9 (ct_X9_moonOf hG E P s hs hI_E.S hP x (by omega)) clX9 rfl (kX9 hs) mo_X9_moonOf w_669 vo_X9_moonOf.1 vo_X9_moonOf.2 rfl rfl (crm Rt (by decide)) (Nat.le_of_ble_eq_true rfl) dX11_kindOf_5 rfl ?_
  rintro _ _ ⟨rfl, rfl⟩
  have hmo := moonP_in P x
  refine at_iconst 9 X (by decide) dX11_kindOf_8 rfl ?_
  have hkd := kdP_in P x
  have := hP.M
  refine at_iaddV 10 X ((kdP P x : Nat) : Int) (w32_v (by omega) (by omega) (by omega)) dX11_kindOf_9 rfl ?_
  refine at_iret X Rt ?_ (Nat.le_refl _) (Nat.le_refl _) dX11_kindOf_10
  exact ⟨rfl, rfl⟩
theorem dX11_wholeKinds_0 : decode cX11_wholeKinds 0 = .ok (.iconst 0, 1) := by decide +kernel
theorem dX11_wholeKinds_1 : decode cX11_wholeKinds 1 = .ok (.istore_n 1, 1) := by decide +kernel
theorem dX11_wholeKinds_2 : decode cX11_wholeKinds 2 = .ok (.iconst 0, 1) := by decide +kernel
theorem dX11_wholeKinds_3 : decode cX11_wholeKinds 3 = .ok (.istore_n 2, 1) := by decide +kernel
theorem dX11_wholeKinds_4 : decode cX11_wholeKinds 4 = .ok (.iload_n 2, 1) := by decide +kernel
theorem dX11_wholeKinds_5 : decode cX11_wholeKinds 5 = .ok (.aload_n 0, 1) := by decide +kernel
theorem dX11_wholeKinds_6 : decode cX11_wholeKinds 6 = .ok (.getfield 93, 3) := by decide +kernel
theorem dX11_wholeKinds_9 : decode cX11_wholeKinds 9 = .ok (.getfield 193, 3) := by decide +kernel
theorem dX11_wholeKinds_12 : decode cX11_wholeKinds 12 = .ok (.if_icmp .gt 80, 3) := by decide +kernel
theorem dX11_wholeKinds_15 : decode cX11_wholeKinds 15 = .ok (.aload_n 0, 1) := by decide +kernel
theorem dX11_wholeKinds_16 : decode cX11_wholeKinds 16 = .ok (.getfield 63, 3) := by decide +kernel
theorem dX11_wholeKinds_19 : decode cX11_wholeKinds 19 = .ok (.aload_n 0, 1) := by decide +kernel
theorem dX11_wholeKinds_20 : decode cX11_wholeKinds 20 = .ok (.getfield 93, 3) := by decide +kernel
theorem dX11_wholeKinds_23 : decode cX11_wholeKinds 23 = .ok (.aload_n 0, 1) := by decide +kernel
theorem dX11_wholeKinds_24 : decode cX11_wholeKinds 24 = .ok (.getfield 23, 3) := by decide +kernel
theorem dX11_wholeKinds_27 : decode cX11_wholeKinds 27 = .ok (.iload_n 2, 1) := by decide +kernel
theorem dX11_wholeKinds_28 : decode cX11_wholeKinds 28 = .ok (.iconst 1, 1) := by decide +kernel
theorem dX11_wholeKinds_29 : decode cX11_wholeKinds 29 = .ok (.isub, 1) := by decide +kernel
theorem dX11_wholeKinds_30 : decode cX11_wholeKinds 30 = .ok (.invokevirtual 362, 3) := by decide +kernel
theorem dX11_wholeKinds_33 : decode cX11_wholeKinds 33 = .ok (.aload_n 0, 1) := by decide +kernel
theorem dX11_wholeKinds_34 : decode cX11_wholeKinds 34 = .ok (.getfield 63, 3) := by decide +kernel
theorem dX11_wholeKinds_37 : decode cX11_wholeKinds 37 = .ok (.aload_n 0, 1) := by decide +kernel
theorem dX11_wholeKinds_38 : decode cX11_wholeKinds 38 = .ok (.getfield 93, 3) := by decide +kernel
theorem dX11_wholeKinds_41 : decode cX11_wholeKinds 41 = .ok (.getfield 369, 3) := by decide +kernel
theorem dX11_wholeKinds_44 : decode cX11_wholeKinds 44 = .ok (.invokevirtual 372, 3) := by decide +kernel
theorem dX11_wholeKinds_47 : decode cX11_wholeKinds 47 = .ok (.aload_n 0, 1) := by decide +kernel
theorem dX11_wholeKinds_48 : decode cX11_wholeKinds 48 = .ok (.getfield 73, 3) := by decide +kernel
theorem dX11_wholeKinds_51 : decode cX11_wholeKinds 51 = .ok (.aload_n 0, 1) := by decide +kernel
theorem dX11_wholeKinds_52 : decode cX11_wholeKinds 52 = .ok (.getfield 63, 3) := by decide +kernel
theorem dX11_wholeKinds_55 : decode cX11_wholeKinds 55 = .ok (.aload_n 0, 1) := by decide +kernel
theorem dX11_wholeKinds_56 : decode cX11_wholeKinds 56 = .ok (.getfield 93, 3) := by decide +kernel
theorem dX11_wholeKinds_59 : decode cX11_wholeKinds 59 = .ok (.getfield 135, 3) := by decide +kernel
theorem dX11_wholeKinds_62 : decode cX11_wholeKinds 62 = .ok (.aload_n 0, 1) := by decide +kernel
theorem dX11_wholeKinds_63 : decode cX11_wholeKinds 63 = .ok (.getfield 33, 3) := by decide +kernel
theorem dX11_wholeKinds_66 : decode cX11_wholeKinds 66 = .ok (.iconst 0, 1) := by decide +kernel
theorem dX11_wholeKinds_67 : decode cX11_wholeKinds 67 = .ok (.invokevirtual 350, 3) := by decide +kernel
theorem dX11_wholeKinds_70 : decode cX11_wholeKinds 70 = .ok (.aload_n 0, 1) := by decide +kernel
theorem dX11_wholeKinds_71 : decode cX11_wholeKinds 71 = .ok (.getfield 73, 3) := by decide +kernel
theorem dX11_wholeKinds_74 : decode cX11_wholeKinds 74 = .ok (.getfield 287, 3) := by decide +kernel
theorem dX11_wholeKinds_77 : decode cX11_wholeKinds 77 = .ok (.ifCond .ne 9, 3) := by decide +kernel
theorem dX11_wholeKinds_80 : decode cX11_wholeKinds 80 = .ok (.iload_n 1, 1) := by decide +kernel
theorem dX11_wholeKinds_81 : decode cX11_wholeKinds 81 = .ok (.iconst 1, 1) := by decide +kernel
theorem dX11_wholeKinds_82 : decode cX11_wholeKinds 82 = .ok (.iload_n 2, 1) := by decide +kernel
theorem dX11_wholeKinds_83 : decode cX11_wholeKinds 83 = .ok (.ishl, 1) := by decide +kernel
theorem dX11_wholeKinds_84 : decode cX11_wholeKinds 84 = .ok (.ior, 1) := by decide +kernel
theorem dX11_wholeKinds_85 : decode cX11_wholeKinds 85 = .ok (.istore_n 1, 1) := by decide +kernel
theorem dX11_wholeKinds_86 : decode cX11_wholeKinds 86 = .ok (.iinc 2 1, 3) := by decide +kernel
theorem dX11_wholeKinds_89 : decode cX11_wholeKinds 89 = .ok (.goto (-85), 3) := by decide +kernel
theorem dX11_wholeKinds_92 : decode cX11_wholeKinds 92 = .ok (.iload_n 1, 1) := by decide +kernel
theorem dX11_wholeKinds_93 : decode cX11_wholeKinds 93 = .ok (.ireturn, 1) := by decide +kernel
theorem ct_X11_wholeKinds {g : Gw} (hG : GF g) {z : Bool} (E : Mm) (s : Nat) (P : SP) (L : LW) (T K : LN) (d : Nat) (hI_E : CXI E s P L T K d) : CT g yX11_wholeKinds cX11_wholeKinds 3 (some .int) 5 126 0 0 K2 z [mR 0] (ov E) K2 z (fun r D' => r = some (mI (mk (wkK P L T) (sM P + 1) : Nat)) ∧ ∃ E1, D' = ov E1 ∧ ∀ q, ¬ (39 ≤ q ∧ q ≤ 47) → ¬ (54 ≤ q ∧ q ≤ 67) → q ≠ 7 → E1 q = E q) := by
  refine CT.mk hG (by decide +kernel) (Nat.le_of_ble_eq_true rfl) (fun κ X Rt _ ok => ?_)
  have hs := hI_E.sa
  have hP := hI_E.WS
  have hW40 := hP.W
  have hN10 := hP.N
  have hN8 := hP.B.N
  have hX_E : CXF E E := CXF.rf
  have hM3 := hP.M
  refine at_iconst 1 X (by decide) dX11_wholeKinds_0 rfl ?_
  refine at_istore_n 2 X rfl dX11_wholeKinds_1 rfl (by decide) ?_
  refine at_iconst 3 X (by decide) dX11_wholeKinds_2 rfl ?_
  refine at_istore_n 4 X rfl dX11_wholeKinds_3 rfl (by decide) ?_
  have J4 : ∀ (f4 : Nat) (F : Mm) (k : Nat) (v : Nat), 5 - k < f4 → (k ≤ sM P + 1) → (v = mk (wkK P L T) k) → ((∀ q, ¬ (39 ≤ q ∧ q ≤ 47) → ¬ (54 ≤ q ∧ q ≤ 67) → q ≠ 7 → F q = E q)) → (CXI F s P L T K d) → (CXF E F) → AT g κ K2 z 0 0 4 [(0, mR 0), (1, mI ((v : Nat) : Int)), (2, mI ((k : Nat) : Int))] [] (ov F) := by
    intro f4
    induction f4 with
    | zero => intro F k v hf4; omega
    | succ f4 ih4 =>
    intro F k v hf4 hk hv hQ_F hI_F hX_F
    refine at_iload_n 5 X rfl rfl dX11_wholeKinds_4 rfl ?_
    refine at_aload_n 6 X rfl rfl dX11_wholeKinds_5 rfl ?_
    refine m_getM 9 X (s) f_X11_93 k_0 rn_0_15 hI_F.now dX11_wholeKinds_6 rfl ?_
    refine m_getIV 12 X ((sM P : Nat) : Int) hI_F.S.M f_X11_193 (kX9 hs) (nX9_12 hs) dX11_wholeKinds_9 rfl ?_
    have := hP.M
    refine at_icmp_gt 15 92 X dX11_wholeKinds_12 rfl (by decide) (fun h12 => ?_) (fun h12 => ?_)
    · refine at_iload_n 93 X rfl rfl dX11_wholeKinds_92 rfl ?_
      refine at_iret X Rt ?_ (Nat.le_refl _) (Nat.le_refl _) dX11_wholeKinds_93
      exact ⟨by rw [hv, show k = sM P + 1 by omega], F, rfl, hQ_F⟩
    · refine at_aload_n 16 X rfl rfl dX11_wholeKinds_15 rfl ?_
      refine m_getR 19 X f_X11_63 k_0 r_0_10 dX11_wholeKinds_16 rfl ?_
      refine at_aload_n 20 X rfl rfl dX11_wholeKinds_19 rfl ?_
      refine m_getM 23 X (s) f_X11_93 k_0 rn_0_15 hI_F.now dX11_wholeKinds_20 rfl ?_
      refine at_aload_n 24 X rfl rfl dX11_wholeKinds_23 rfl ?_
      refine m_getR 27 X f_X11_23 k_0 r_0_2 dX11_wholeKinds_24 rfl ?_
      refine at_iload_n 28 X rfl rfl dX11_wholeKinds_27 rfl ?_
      refine at_iconst 29 X (by decide) dX11_wholeKinds_28 rfl ?_
      refine at_isubV 30 X (((k : Nat) : Int) - 1) (w32_v rfl (by omega) (by omega)) dX11_wholeKinds_29 rfl ?_
      refine at_callV 33 X _ 4 (ct_X4_takeStreet hG F 39 (Or.inr rfl) P s hs hI_F.S hP L ((k : Int) - 1) (by omega)) clX4 rfl k_39 mo_X4_takeStreet w_673 vo_X4_takeStreet.1 vo_X4_takeStreet.2 rfl rfl (crm Rt (by decide)) (Nat.le_of_ble_eq_true rfl) dX11_wholeKinds_30 rfl ?_
      rintro _ _ ⟨rfl, F1, rfl, hg0_F1, hkd_F1, hq_F1⟩
      have hwK : WG (gOf P ((k : Int) - 1) L) := gOf_WG hP hI_F.WL (by omega)
      have hnow_F1 : F1 0 15 = (s : Int) := by rw [hq_F1 0 (by decide)]; exact hI_F.now
      have hC_F1 : F1 s 15 = (mk (sC P) 24 : Nat) := by rw [hq_F1 s (by omega)]; exact hI_F.S.C
      refine at_aload_n 34 X rfl rfl dX11_wholeKinds_33 rfl ?_
      refine m_getR 37 X f_X11_63 k_0 r_0_10 dX11_wholeKinds_34 rfl ?_
      refine at_aload_n 38 X rfl rfl dX11_wholeKinds_37 rfl ?_
      refine m_getM 41 X (s) f_X11_93 k_0 rn_0_15 hnow_F1 dX11_wholeKinds_38 rfl ?_
      refine m_getIV 44 X ((mk (sC P) 24 : Nat) : Int) hC_F1 f_X11_369 (kX9 hs) (nX9_15 hs) dX11_wholeKinds_41 rfl ?_
      have := mk24 (p := sC P) (Nat.le_refl 24)
      refine at_callV 47 X _ 4 (ct_X4_settle hG F1 39 (Or.inr rfl) (gOf P ((k : Int) - 1) L) hwK hg0_F1 (sC P)) clX4 rfl k_39 mo_X4_settle w_692 vo_X4_settle.1 vo_X4_settle.2 rfl rfl (crm Rt (by decide)) (Nat.le_of_ble_eq_true rfl) dX11_wholeKinds_44 rfl ?_
      rintro _ _ ⟨rfl, F2, rfl, hg_F2, hqs_F2⟩
      have hqq_F2 : ∀ q, ¬ (39 ≤ q ∧ q ≤ 47) → F2 q = F q := fun q hq => (hqs_F2 q (by omega) (by omega) (by omega) (by omega)).trans (hq_F1 q hq)
      have hnow_F2 : F2 0 15 = (s : Int) := by rw [hqq_F2 0 (by decide)]; exact hI_F.now
      have hl_F2 : CL F2 4 L := hI_F.Lw.fr (fun q h1 h2 => hqq_F2 q (by omega))
      have hB_F2 : CB F2 (s + 8) (sB P) := hI_F.B.fr (fun q h1 h2 => hqq_F2 q (by omega))
      have hN_F2 : CN F2 12 T := hI_F.Tn.fr (fun q h1 h2 => hqq_F2 q (by omega))
      refine at_aload_n 48 X rfl rfl dX11_wholeKinds_47 rfl ?_
      refine m_getR 51 X f_X11_73 k_0 r_0_12 dX11_wholeKinds_48 rfl ?_
      refine at_aload_n 52 X rfl rfl dX11_wholeKinds_51 rfl ?_
      refine m_getR 55 X f_X11_63 k_0 r_0_10 dX11_wholeKinds_52 rfl ?_
      refine at_aload_n 56 X rfl rfl dX11_wholeKinds_55 rfl ?_
      refine m_getM 59 X (s) f_X11_93 k_0 rn_0_15 hnow_F2 dX11_wholeKinds_56 rfl ?_
      refine m_getR 62 X f_X11_135 (kX9 hs) (rX9_7 hs) dX11_wholeKinds_59 rfl ?_
      refine at_aload_n 63 X rfl rfl dX11_wholeKinds_62 rfl ?_
      refine m_getR 66 X f_X11_33 k_0 r_0_4 dX11_wholeKinds_63 rfl ?_
      refine at_iconst 67 X (by decide) dX11_wholeKinds_66 rfl ?_
      refine at_callV 70 X _ 3 (ct_X3_go hG F2 54 (Or.inr rfl) 39 (Or.inr rfl) (gOf P ((k : Int) - 1) L) hwK hg_F2 hl_F2 (sB P) (s + 8) (iB_8 hs) hB_F2 hP.B T hN_F2 hI_F.WT 0 (by decide)) clX3 rfl k_54 mo_X3_go w_715 vo_X3_go.1 vo_X3_go.2 rfl rfl (crm Rt (by decide)) (Nat.le_of_ble_eq_true rfl) dX11_wholeKinds_67 rfl ?_
      rintro _ _ ⟨rfl, F3, n, rfl, hn, hn2, hdn, hg_F3, hq_F3⟩
      have hn24 : n = 24 := by
        rcases hn2 with h | h
        · exact h
        · exact absurd (Nat.and_zero _) h
      subst hn24
      have hT3 := hI_F.tried (E1 := F3) (fun q h1 h2 h3 => (hq_F3 q (by omega) (by omega) (by omega) (by omega) (by omega) (by omega) (by omega) (by omega)).trans (hqq_F2 q (by omega)))
      have hI_F3 := hT3.1
      have hX_F3 : CXF E F3 := hX_F.tr hT3.2.2
      have hQ_F3 : ∀ q, ¬ (39 ≤ q ∧ q ≤ 47) → ¬ (54 ≤ q ∧ q ≤ 67) → q ≠ 7 → F3 q = E q := fun q h1 h2 h3 => ((hq_F3 q (by omega) (by omega) (by omega) (by omega) (by omega) (by omega) (by omega) (by omega)).trans (hqq_F2 q (by omega))).trans (hQ_F q h1 h2 h3)
      refine at_aload_n 71 X rfl rfl dX11_wholeKinds_70 rfl ?_
      refine m_getR 74 X f_X11_73 k_0 r_0_12 dX11_wholeKinds_71 rfl ?_
      refine m_getIV 77 X ((dN (dyP (gOf P ((k : Int) - 1) L) (sB P) T 24) : Nat) : Int) hdn.1.2.2.2.1 f_X11_287 k_54 rn_54_5 dX11_wholeKinds_74 rfl ?_
      refine at_if_ne 80 86 X dX11_wholeKinds_77 rfl (by decide) (fun h77 => ?_) (fun h77 => ?_)
      · refine at_iincV 89 X ((k + 1 : Nat) : Int) (w32_v (by omega) (by omega) (by omega)) rfl dX11_wholeKinds_86 rfl (by decide) ?_
        refine at_goto 4 X dX11_wholeKinds_89 (by decide) ?_
        exact at_sub _ (by exact ⟨rfl, rfl, rfl, trivial⟩) (ih4 F3 (k + 1) v (by first | omega | (simp only [] at *; omega)) (by omega) (by first | rfl | (rw [hv]; exact (mk_f (p := wkK P L T) (by unfold wkK; rw [decide_eq_true_eq]; omega)).symm)) hQ_F3 hI_F3 hX_F3)
      · refine at_iload_n 81 X rfl rfl dX11_wholeKinds_80 rfl ?_
        refine at_iconst 82 X (by decide) dX11_wholeKinds_81 rfl ?_
        refine at_iload_n 83 X rfl rfl dX11_wholeKinds_82 rfl ?_
        refine at_ishlV 84 X ((2 ^ k : Nat) : Int) (ishl1 (by omega)) dX11_wholeKinds_83 rfl ?_
        refine at_iorV 85 X ((mk (wkK P L T) (k + 1) : Nat) : Int) (by rw [hv]; have h1 := mk24 (p := wkK P L T) (n := k) (by omega); rw [ior_nat (by omega) (p2_31 (by omega)), mk_t (decide_eq_true (by omega))]) dX11_wholeKinds_84 rfl ?_
        refine at_istore_n 86 X rfl dX11_wholeKinds_85 rfl (by decide) ?_
        refine at_iincV 89 X ((k + 1 : Nat) : Int) (w32_v (by omega) (by omega) (by omega)) rfl dX11_wholeKinds_86 rfl (by decide) ?_
        refine at_goto 4 X dX11_wholeKinds_89 (by decide) ?_
        exact at_sub _ (by exact ⟨rfl, rfl, rfl, trivial⟩) (ih4 F3 (k + 1) (mk (wkK P L T) (k + 1)) (by first | omega | (simp only [] at *; omega)) (by omega) (by first | rfl | (rw [hv]; exact (mk_f (p := wkK P L T) (by unfold wkK; rw [decide_eq_true_eq]; omega)).symm)) hQ_F3 hI_F3 hX_F3)
  exact at_sub _ (by exact ⟨rfl, rfl, rfl, trivial⟩) (J4 _ E 0 0 (Nat.lt_succ_self _) (by first | omega | assumption | rfl) rfl (fun _ _ _ _ => rfl) hI_E hX_E)
theorem dX11_whole_0 : decode cX11_whole 0 = .ok (.aload_n 0, 1) := by decide +kernel
theorem dX11_whole_1 : decode cX11_whole 1 = .ok (.iload_n 1, 1) := by decide +kernel
theorem dX11_whole_2 : decode cX11_whole 2 = .ok (.invokevirtual 293, 3) := by decide +kernel
theorem dX11_whole_5 : decode cX11_whole 5 = .ok (.aload_n 0, 1) := by decide +kernel
theorem dX11_whole_6 : decode cX11_whole 6 = .ok (.iload_n 2, 1) := by decide +kernel
theorem dX11_whole_7 : decode cX11_whole 7 = .ok (.invokevirtual 293, 3) := by decide +kernel
theorem dX11_whole_10 : decode cX11_whole 10 = .ok (.aload_n 0, 1) := by decide +kernel
theorem dX11_whole_11 : decode cX11_whole 11 = .ok (.iload_n 1, 1) := by decide +kernel
theorem dX11_whole_12 : decode cX11_whole 12 = .ok (.iload_n 2, 1) := by decide +kernel
theorem dX11_whole_13 : decode cX11_whole 13 = .ok (.if_icmp .gt 7, 3) := by decide +kernel
theorem dX11_whole_16 : decode cX11_whole 16 = .ok (.iconst 1, 1) := by decide +kernel
theorem dX11_whole_17 : decode cX11_whole 17 = .ok (.goto 4, 3) := by decide +kernel
theorem dX11_whole_20 : decode cX11_whole 20 = .ok (.iconst 0, 1) := by decide +kernel
theorem dX11_whole_21 : decode cX11_whole 21 = .ok (.invokevirtual 164, 3) := by decide +kernel
theorem dX11_whole_24 : decode cX11_whole 24 = .ok (.aload_n 0, 1) := by decide +kernel
theorem dX11_whole_25 : decode cX11_whole 25 = .ok (.invokevirtual 400, 3) := by decide +kernel
theorem dX11_whole_28 : decode cX11_whole 28 = .ok (.istore_n 3, 1) := by decide +kernel
theorem dX11_whole_29 : decode cX11_whole 29 = .ok (.iconst 0, 1) := by decide +kernel
theorem dX11_whole_30 : decode cX11_whole 30 = .ok (.istore 4, 2) := by decide +kernel
theorem dX11_whole_32 : decode cX11_whole 32 = .ok (.iload_n 1, 1) := by decide +kernel
theorem dX11_whole_33 : decode cX11_whole 33 = .ok (.istore 5, 2) := by decide +kernel
theorem dX11_whole_35 : decode cX11_whole 35 = .ok (.iload 5, 2) := by decide +kernel
theorem dX11_whole_37 : decode cX11_whole 37 = .ok (.iload_n 2, 1) := by decide +kernel
theorem dX11_whole_38 : decode cX11_whole 38 = .ok (.if_icmp .gt 24, 3) := by decide +kernel
theorem dX11_whole_41 : decode cX11_whole 41 = .ok (.iload 4, 2) := by decide +kernel
theorem dX11_whole_43 : decode cX11_whole 43 = .ok (.iload_n 3, 1) := by decide +kernel
theorem dX11_whole_44 : decode cX11_whole 44 = .ok (.aload_n 0, 1) := by decide +kernel
theorem dX11_whole_45 : decode cX11_whole 45 = .ok (.iload 5, 2) := by decide +kernel
theorem dX11_whole_47 : decode cX11_whole 47 = .ok (.invokevirtual 403, 3) := by decide +kernel
theorem dX11_whole_50 : decode cX11_whole 50 = .ok (.ishr, 1) := by decide +kernel
theorem dX11_whole_51 : decode cX11_whole 51 = .ok (.iconst 1, 1) := by decide +kernel
theorem dX11_whole_52 : decode cX11_whole 52 = .ok (.iand, 1) := by decide +kernel
theorem dX11_whole_53 : decode cX11_whole 53 = .ok (.iadd, 1) := by decide +kernel
theorem dX11_whole_54 : decode cX11_whole 54 = .ok (.istore 4, 2) := by decide +kernel
theorem dX11_whole_56 : decode cX11_whole 56 = .ok (.iinc 5 1, 3) := by decide +kernel
theorem dX11_whole_59 : decode cX11_whole 59 = .ok (.goto (-24), 3) := by decide +kernel
theorem dX11_whole_62 : decode cX11_whole 62 = .ok (.iload 4, 2) := by decide +kernel
theorem dX11_whole_64 : decode cX11_whole 64 = .ok (.ireturn, 1) := by decide +kernel
theorem ct_X11_whole {g : Gw} (hG : GF g) {z : Bool} (E : Mm) (s : Nat) (P : SP) (L : LW) (T K : LN) (d : Nat) (hI_E : CXI E s P L T K d) (x0 x1 : Int) : CTX g yX11_whole cX11_whole 6 (some .int) 8 148 3 18 K2 z [mR 0, mI x0, mI x1] (ov E) K2 z (fun r' D' => (0 ≤ x0 ∧ x0 ≤ 399) ∧ (0 ≤ x1 ∧ x1 ≤ 399) ∧ (x0 ≤ x1) ∧ r' = some (mI (cntp (fun i => whD P L T (x0.toNat + i)) (x1.toNat + 1 - x0.toNat) : Nat)) ∧ ∃ E1, D' = ov E1 ∧ CXI E1 s P L T K d ∧ CXF E E1) (fun X D' => (¬ (0 ≤ x0 ∧ x0 ≤ 399) ∧ X = "java/lang/IllegalArgumentException" ∧ D' = ov (bumpE E 2)) ∨ ((0 ≤ x0 ∧ x0 ≤ 399) ∧ ¬ (0 ≤ x1 ∧ x1 ≤ 399) ∧ X = "java/lang/IllegalArgumentException" ∧ D' = ov (bumpE E 2)) ∨ ((0 ≤ x0 ∧ x0 ≤ 399) ∧ (0 ≤ x1 ∧ x1 ≤ 399) ∧ ¬ (x0 ≤ x1) ∧ X = "java/lang/IllegalArgumentException" ∧ D' = ov (bumpE E 2))) := by
  refine CTX.mk hG (by decide +kernel) (Nat.le_of_ble_eq_true rfl) (fun κ X Rt Rx ok => ?_)
  have hs := hI_E.sa
  have hP := hI_E.WS
  have hW40 := hP.W
  have hN10 := hP.N
  have hN8 := hP.B.N
  have hX_E : CXF E E := CXF.rf
  have hwG := gNow_WG hI_E
  have hgw : gW (gNow P L d) = sW P := rfl
  have hgn : gN (gNow P L d) = sN P := rfl
  refine at_aload_n 1 X rfl rfl dX11_whole_0 rfl ?_
  refine at_iload_n 2 X rfl rfl dX11_whole_1 rfl ?_
  refine at_callVX 5 X Rt Rx _ 11 (ct_X11_needDay hG E x0) clX11 rfl k_0 mo_X11_needDay w_1366 vo_X11_needDay.1 vo_X11_needDay.2 rfl rfl (by decide) (Nat.le_of_ble_eq_true rfl) dX11_whole_2 rfl (fun _ _ h => Or.inl ⟨h.1, h.2.1, h.2.2⟩) ?_
  rintro _ _ ⟨hc0, rfl, rfl⟩
  refine at_aload_n 6 X rfl rfl dX11_whole_5 rfl ?_
  refine at_iload_n 7 X rfl rfl dX11_whole_6 rfl ?_
  refine at_callVX 10 X Rt Rx _ 11 (ct_X11_needDay hG E x1) clX11 rfl k_0 mo_X11_needDay w_1366 vo_X11_needDay.1 vo_X11_needDay.2 rfl rfl (by decide) (Nat.le_of_ble_eq_true rfl) dX11_whole_7 rfl (fun _ _ h => Or.inr (Or.inl ⟨hc0, h.1, h.2.1, h.2.2⟩)) ?_
  rintro _ _ ⟨hc1, rfl, rfl⟩
  refine at_aload_n 11 X rfl rfl dX11_whole_10 rfl ?_
  refine at_iload_n 12 X rfl rfl dX11_whole_11 rfl ?_
  refine at_iload_n 13 X rfl rfl dX11_whole_12 rfl ?_
  refine at_icmp_gt 16 20 X dX11_whole_13 rfl (by decide) (fun h13 => ?_) (fun h13 => ?_)
  · refine at_iconst 21 X (by decide) dX11_whole_20 rfl ?_
    refine at_callVX 24 X Rt Rx _ 11 (ct_X11_need hG E 0) clX11 rfl k_0 mo_X11_need w_863 vo_X11_need.1 vo_X11_need.2 rfl rfl (by decide) (Nat.le_of_ble_eq_true rfl) dX11_whole_21 rfl (fun _ _ h => Or.inr (Or.inr (⟨hc0, hc1, (by omega), h.2.1, h.2.2⟩))) ?_
    rintro _ _ ⟨hq, _, _⟩
    exact absurd rfl hq
  · refine at_iconst 17 X (by decide) dX11_whole_16 rfl ?_
    refine at_goto 21 X dX11_whole_17 (by decide) ?_
    refine at_callVX 24 X Rt Rx _ 11 (ct_X11_need hG E 1) clX11 rfl k_0 mo_X11_need w_863 vo_X11_need.1 vo_X11_need.2 rfl rfl (by decide) (Nat.le_of_ble_eq_true rfl) dX11_whole_21 rfl (fun _ _ h => absurd h.1 (by decide)) ?_
    rintro _ _ ⟨_, rfl, rfl⟩
    have hc2 : x0 ≤ x1 := by omega
    obtain ⟨f, rfl⟩ : ∃ f : Nat, x0 = (f : Int) := ⟨x0.toNat, by omega⟩
    obtain ⟨t, rfl⟩ : ∃ t : Nat, x1 = (t : Int) := ⟨x1.toNat, by omega⟩
    refine at_aload_n 25 X rfl rfl dX11_whole_24 rfl ?_
    refine at_callV 28 X _ 11 (ct_X11_wholeKinds hG E s P L T K d hI_E) clX11 rfl k_0 mo_X11_wholeKinds w_1555 vo_X11_wholeKinds.1 vo_X11_wholeKinds.2 rfl rfl (crm Rt (by decide)) (Nat.le_of_ble_eq_true rfl) dX11_whole_25 rfl ?_
    rintro _ _ ⟨rfl, F1, rfl, hq_F1⟩
    have hT3 := hI_E.tried (E1 := F1) hq_F1
    have hI_F1 := hT3.1
    have hX_F1 : CXF E F1 := hX_E.tr hT3.2.2
    have hM3 := hP.M
    have hmk := mk24 (p := wkK P L T) (n := sM P + 1) (by omega)
    refine at_istore_n 29 X rfl dX11_whole_28 rfl (by decide) ?_
    refine at_iconst 30 X (by decide) dX11_whole_29 rfl ?_
    refine at_istore 32 X dX11_whole_30 rfl (by decide) ?_
    refine at_iload_n 33 X rfl rfl dX11_whole_32 rfl ?_
    refine at_istore 35 X dX11_whole_33 rfl (by decide) ?_
    have J35 : ∀ (f35 : Nat) (h : Nat) (v : Int), 401 - h < f35 → (f ≤ h ∧ h ≤ t + 1) → (v = (cntp (fun i => whD P L T (f + i)) (h - f) : Nat)) → AT g κ K2 z 3 18 35 [(0, mR 0), (2, mI ((t : Nat) : Int)), (3, mI ((mk (wkK P L T) (sM P + 1) : Nat) : Int)), (4, mI v), (5, mI ((h : Nat) : Int))] [] (ov F1) := by
      intro f35
      induction f35 with
      | zero => intro h v hf35; omega
      | succ f35 ih35 =>
      intro h v hf35 hh hv
      refine at_iload 37 X rfl dX11_whole_35 rfl ?_
      refine at_iload_n 38 X rfl rfl dX11_whole_37 rfl ?_
      refine at_icmp_gt 41 62 X dX11_whole_38 rfl (by decide) (fun h38 => ?_) (fun h38 => ?_)
      · refine at_iload 64 X rfl dX11_whole_62 rfl ?_
        refine at_iret X Rt ?_ (by decide) (by decide) dX11_whole_64
        exact ⟨hc0, hc1, hc2, (by (try simp only [Int.toNat_natCast]); rw [hv, show h = t + 1 by omega]), _, rfl, hI_F1, hX_F1⟩
      · have hcl := cntp_le (fun i => whD P L T (f + i)) (h - f)
        refine at_iload 43 X rfl dX11_whole_41 rfl ?_
        refine at_iload_n 44 X rfl rfl dX11_whole_43 rfl ?_
        refine at_aload_n 45 X rfl rfl dX11_whole_44 rfl ?_
        refine at_iload 47 X rfl dX11_whole_45 rfl ?_
        refine at_callV 50 X _ 11 (ct_X11_kindOf hG F1 s P L T K d hI_F1 h (by omega)) clX11 rfl k_0 mo_X11_kindOf w_1559 vo_X11_kindOf.1 vo_X11_kindOf.2 rfl rfl (crm Rt (by decide)) (Nat.le_of_ble_eq_true rfl) dX11_whole_47 rfl ?_
        rintro _ _ ⟨rfl, rfl⟩
        have hkd := kdP_in P h
        refine at_ishrV 51 X (ishr ((mk (wkK P L T) (sM P + 1) : Nat) : Int) ((kdP P h : Nat) : Int)) rfl dX11_whole_50 rfl ?_
        refine at_iconst 52 X (by decide) dX11_whole_51 rfl ?_
        refine at_iandV 53 X (if whD P L T h = true then 1 else 0) ((ibit (by omega) (by omega)).trans (by rw [mk_in (by omega), wkK_kd])) dX11_whole_52 rfl ?_
        refine at_iaddV 54 X (v + (if whD P L T h = true then 1 else 0)) (w32_v rfl (by omega) (by omega)) dX11_whole_53 rfl ?_
        refine at_istore 56 X dX11_whole_54 rfl (by decide) ?_
        refine at_iincV 59 X ((h + 1 : Nat) : Int) (w32_v (by omega) (by omega) (by omega)) rfl dX11_whole_56 rfl (by decide) ?_
        refine at_goto 35 X dX11_whole_59 (by decide) ?_
        exact at_sub _ (by exact ⟨rfl, rfl, rfl, rfl, rfl, trivial⟩) (ih35 (h + 1) (v + (if whD P L T h = true then 1 else 0)) (by first | omega | (simp only [] at *; omega)) (by omega) (by rw [show h + 1 - f = (h - f) + 1 by omega, cntp_s, show f + (h - f) = h by omega, hv]; split <;> omega))
    exact at_sub _ (by exact ⟨rfl, rfl, rfl, rfl, rfl, trivial⟩) (J35 _ f 0 (Nat.lt_succ_self _) (by first | omega | assumption | rfl) (by rw [Nat.sub_self]; rfl))
theorem dX11_next_0 : decode cX11_next 0 = .ok (.aload_n 0, 1) := by decide +kernel
theorem dX11_next_1 : decode cX11_next 1 = .ok (.iload_n 1, 1) := by decide +kernel
theorem dX11_next_2 : decode cX11_next 2 = .ok (.invokevirtual 293, 3) := by decide +kernel
theorem dX11_next_5 : decode cX11_next 5 = .ok (.aload_n 0, 1) := by decide +kernel
theorem dX11_next_6 : decode cX11_next 6 = .ok (.invokevirtual 400, 3) := by decide +kernel
theorem dX11_next_9 : decode cX11_next 9 = .ok (.istore_n 2, 1) := by decide +kernel
theorem dX11_next_10 : decode cX11_next 10 = .ok (.iload_n 1, 1) := by decide +kernel
theorem dX11_next_11 : decode cX11_next 11 = .ok (.istore_n 3, 1) := by decide +kernel
theorem dX11_next_12 : decode cX11_next 12 = .ok (.iload_n 3, 1) := by decide +kernel
theorem dX11_next_13 : decode cX11_next 13 = .ok (.sipush 400, 3) := by decide +kernel
theorem dX11_next_16 : decode cX11_next 16 = .ok (.if_icmp .ge 24, 3) := by decide +kernel
theorem dX11_next_19 : decode cX11_next 19 = .ok (.iload_n 2, 1) := by decide +kernel
theorem dX11_next_20 : decode cX11_next 20 = .ok (.aload_n 0, 1) := by decide +kernel
theorem dX11_next_21 : decode cX11_next 21 = .ok (.iload_n 3, 1) := by decide +kernel
theorem dX11_next_22 : decode cX11_next 22 = .ok (.invokevirtual 403, 3) := by decide +kernel
theorem dX11_next_25 : decode cX11_next 25 = .ok (.ishr, 1) := by decide +kernel
theorem dX11_next_26 : decode cX11_next 26 = .ok (.iconst 1, 1) := by decide +kernel
theorem dX11_next_27 : decode cX11_next 27 = .ok (.iand, 1) := by decide +kernel
theorem dX11_next_28 : decode cX11_next 28 = .ok (.iconst 1, 1) := by decide +kernel
theorem dX11_next_29 : decode cX11_next 29 = .ok (.if_icmp .ne 5, 3) := by decide +kernel
theorem dX11_next_32 : decode cX11_next 32 = .ok (.iload_n 3, 1) := by decide +kernel
theorem dX11_next_33 : decode cX11_next 33 = .ok (.ireturn, 1) := by decide +kernel
theorem dX11_next_34 : decode cX11_next 34 = .ok (.iinc 3 1, 3) := by decide +kernel
theorem dX11_next_37 : decode cX11_next 37 = .ok (.goto (-25), 3) := by decide +kernel
theorem dX11_next_40 : decode cX11_next 40 = .ok (.iconst (-1), 1) := by decide +kernel
theorem dX11_next_41 : decode cX11_next 41 = .ok (.ireturn, 1) := by decide +kernel
theorem ct_X11_next {g : Gw} (hG : GF g) {z : Bool} (E : Mm) (s : Nat) (P : SP) (L : LW) (T K : LN) (d : Nat) (hI_E : CXI E s P L T K d) (x0 : Int) : CTX g yX11_next cX11_next 4 (some .int) 8 148 1 6 K2 z [mR 0, mI x0] (ov E) K2 z (fun r' D' => (0 ≤ x0 ∧ x0 ≤ 399) ∧ r' = some (mI (whF P L T x0.toNat)) ∧ ∃ E1, D' = ov E1 ∧ CXI E1 s P L T K d ∧ CXF E E1) (fun X D' => (¬ (0 ≤ x0 ∧ x0 ≤ 399) ∧ X = "java/lang/IllegalArgumentException" ∧ D' = ov (bumpE E 2))) := by
  refine CTX.mk hG (by decide +kernel) (Nat.le_of_ble_eq_true rfl) (fun κ X Rt Rx ok => ?_)
  have hs := hI_E.sa
  have hP := hI_E.WS
  have hW40 := hP.W
  have hN10 := hP.N
  have hN8 := hP.B.N
  have hX_E : CXF E E := CXF.rf
  have hwG := gNow_WG hI_E
  have hgw : gW (gNow P L d) = sW P := rfl
  have hgn : gN (gNow P L d) = sN P := rfl
  refine at_aload_n 1 X rfl rfl dX11_next_0 rfl ?_
  refine at_iload_n 2 X rfl rfl dX11_next_1 rfl ?_
  refine at_callVX 5 X Rt Rx _ 11 (ct_X11_needDay hG E x0) clX11 rfl k_0 mo_X11_needDay w_1366 vo_X11_needDay.1 vo_X11_needDay.2 rfl rfl (by decide) (Nat.le_of_ble_eq_true rfl) dX11_next_2 rfl (fun _ _ h => ⟨h.1, h.2.1, h.2.2⟩) ?_
  rintro _ _ ⟨hc0, rfl, rfl⟩
  obtain ⟨f, rfl⟩ : ∃ f : Nat, x0 = (f : Int) := ⟨x0.toNat, by omega⟩
  refine at_aload_n 6 X rfl rfl dX11_next_5 rfl ?_
  refine at_callV 9 X _ 11 (ct_X11_wholeKinds hG E s P L T K d hI_E) clX11 rfl k_0 mo_X11_wholeKinds w_1555 vo_X11_wholeKinds.1 vo_X11_wholeKinds.2 rfl rfl (crm Rt (by decide)) (Nat.le_of_ble_eq_true rfl) dX11_next_6 rfl ?_
  rintro _ _ ⟨rfl, F1, rfl, hq_F1⟩
  have hT3 := hI_E.tried (E1 := F1) hq_F1
  have hI_F1 := hT3.1
  have hX_F1 : CXF E F1 := hX_E.tr hT3.2.2
  have hM3 := hP.M
  have hmk := mk24 (p := wkK P L T) (n := sM P + 1) (by omega)
  refine at_istore_n 10 X rfl dX11_next_9 rfl (by decide) ?_
  refine at_iload_n 11 X rfl rfl dX11_next_10 rfl ?_
  refine at_istore_n 12 X rfl dX11_next_11 rfl (by decide) ?_
  have J12 : ∀ (f12 : Nat) (h : Nat), 400 - h < f12 → (f ≤ h ∧ h ≤ 400) → ((∀ j, j < h - f → ¬ whD P L T (f + j) = true)) → AT g κ K2 z 1 6 12 [(0, mR 0), (2, mI ((mk (wkK P L T) (sM P + 1) : Nat) : Int)), (3, mI ((h : Nat) : Int))] [] (ov F1) := by
    intro f12
    induction f12 with
    | zero => intro h hf12; omega
    | succ f12 ih12 =>
    intro h hf12 hh hno
    refine at_iload_n 13 X rfl rfl dX11_next_12 rfl ?_
    refine at_sipush 16 X (by decide) (by decide) dX11_next_13 rfl ?_
    refine at_icmp_ge 19 40 X dX11_next_16 rfl (by decide) (fun h16 => ?_) (fun h16 => ?_)
    · refine at_iconst 41 X (by decide) dX11_next_40 rfl ?_
      refine at_iret X Rt ?_ (by decide) (by decide) dX11_next_41
      exact ⟨hc0, (by (try simp only [Int.toNat_natCast]); unfold whF; rw [if_pos (fst_none (fun j hj => hno j (by omega)))]), _, rfl, hI_F1, hX_F1⟩
    · refine at_iload_n 20 X rfl rfl dX11_next_19 rfl ?_
      refine at_aload_n 21 X rfl rfl dX11_next_20 rfl ?_
      refine at_iload_n 22 X rfl rfl dX11_next_21 rfl ?_
      refine at_callV 25 X _ 11 (ct_X11_kindOf hG F1 s P L T K d hI_F1 h (by omega)) clX11 rfl k_0 mo_X11_kindOf w_1559 vo_X11_kindOf.1 vo_X11_kindOf.2 rfl rfl (crm Rt (by decide)) (Nat.le_of_ble_eq_true rfl) dX11_next_22 rfl ?_
      rintro _ _ ⟨rfl, rfl⟩
      have hkd := kdP_in P h
      refine at_ishrV 26 X (ishr ((mk (wkK P L T) (sM P + 1) : Nat) : Int) ((kdP P h : Nat) : Int)) rfl dX11_next_25 rfl ?_
      refine at_iconst 27 X (by decide) dX11_next_26 rfl ?_
      refine at_iandV 28 X (if whD P L T h = true then 1 else 0) ((ibit (by omega) (by omega)).trans (by rw [mk_in (by omega), wkK_kd])) dX11_next_27 rfl ?_
      refine at_iconst 29 X (by decide) dX11_next_28 rfl ?_
      refine at_icmp_ne 32 34 X dX11_next_29 rfl (by decide) (fun h29 => ?_) (fun h29 => ?_)
      · refine at_iincV 37 X ((h + 1 : Nat) : Int) (w32_v (by omega) (by omega) (by omega)) rfl dX11_next_34 rfl (by decide) ?_
        refine at_goto 12 X dX11_next_37 (by decide) ?_
        exact at_sub _ (by exact ⟨rfl, rfl, rfl, trivial⟩) (ih12 (h + 1) (by first | omega | (simp only [] at *; omega)) (by omega) (fun j hj => if e : j < h - f then hno j e else fun q => h29 (by rw [show h = f + j by omega, if_pos q])))
      · refine at_iload_n 33 X rfl rfl dX11_next_32 rfl ?_
        refine at_iret X Rt ?_ (by decide) (by decide) dX11_next_33
        exact ⟨hc0, (by (try simp only [Int.toNat_natCast]); unfold whF; have hy : whD P L T (f + (h - f)) = true := (by rw [show f + (h - f) = h by omega]; exact Decidable.byContradiction (fun q => by rw [if_neg q] at h29; exact absurd h29 (by decide))); have hf := fst_at (q := fun i => whD P L T (f + i)) hno hy (n := 400 - f) (by omega); rw [if_neg (by rw [hf]; omega), hf]; exact congrArg (fun q => some (mI q)) (by omega)), _, rfl, hI_F1, hX_F1⟩
  exact at_sub _ (by exact ⟨rfl, rfl, rfl, trivial⟩) (J12 _ f (Nat.lt_succ_self _) (by first | omega | assumption | rfl) (fun j hj => by omega))
