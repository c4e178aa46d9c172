/-- in how many cells and hours only this post's shadow lies -/
def shrC (G : GP) (p h : Nat) : Nat → Nat := cntp (fun c => decide (shd G (gLm G c) h c = 2 ^ p))
def shrP (G : GP) (p : Nat) : Nat → Nat := itr (fun h v => v + shrC G p h (gW G)) 0
theorem shrP_le (G : GP) (hW : gW G ≤ 40) (p : Nat) : ∀ n, shrP G p n ≤ n * 40
  | 0 => Nat.le_refl _
  | n + 1 => by
    have h1 := shrP_le G hW p n
    have h2 : shrC G p n (gW G) ≤ gW G := cntp_le _ _
    show shrP G p n + shrC G p n (gW G) ≤ _
    omega
/-- what all cells bear together, so far -/
def sumP (G : GP) (h : Nat) : Nat → Int := itr (fun c v => v + bOn G h c) 0
def crsP (G : GP) (h : Nat) : Nat → Nat := cntp (fun c => decide (2 ≤ cntp (fun p => (shd G (gLm G c) h c).testBit p) 11))
/-- the longest row of cells of which q holds: how long, its first, how long the one now is -/
def rwP (q : Nat → Bool) : Nat → Nat × Int × Nat := itr (fun c x => if x.1 < (if q c then x.2.2 + 1 else 0) then ((if q c then x.2.2 + 1 else 0), (c : Int) - ((if q c then x.2.2 + 1 else 0 : Nat) : Int) + 1, (if q c then x.2.2 + 1 else 0)) else (x.1, x.2.1, (if q c then x.2.2 + 1 else 0))) (0, -1, 0)
theorem rwP_s (q : Nat → Bool) (c : Nat) : rwP q (c + 1) = if (rwP q c).1 < (if q c then (rwP q c).2.2 + 1 else 0) then ((if q c then (rwP q c).2.2 + 1 else 0), (c : Int) - ((if q c then (rwP q c).2.2 + 1 else 0 : Nat) : Int) + 1, (if q c then (rwP q c).2.2 + 1 else 0)) else ((rwP q c).1, (rwP q c).2.1, (if q c then (rwP q c).2.2 + 1 else 0)) := rfl
theorem dX11_share_0 : decode cX11_share 0 = .ok (.aload_n 0, 1) := by decide +kernel
theorem dX11_share_1 : decode cX11_share 1 = .ok (.iload_n 1, 1) := by decide +kernel
theorem dX11_share_2 : decode cX11_share 2 = .ok (.invokevirtual 196, 3) := by decide +kernel
theorem dX11_share_5 : decode cX11_share 5 = .ok (.aload_n 0, 1) := by decide +kernel
theorem dX11_share_6 : decode cX11_share 6 = .ok (.invokevirtual 227, 3) := by decide +kernel
theorem dX11_share_9 : decode cX11_share 9 = .ok (.iconst 0, 1) := by decide +kernel
theorem dX11_share_10 : decode cX11_share 10 = .ok (.istore_n 2, 1) := by decide +kernel
theorem dX11_share_11 : decode cX11_share 11 = .ok (.iconst 0, 1) := by decide +kernel
theorem dX11_share_12 : decode cX11_share 12 = .ok (.istore_n 3, 1) := by decide +kernel
theorem dX11_share_13 : decode cX11_share 13 = .ok (.iload_n 3, 1) := by decide +kernel
theorem dX11_share_14 : decode cX11_share 14 = .ok (.bipush 24, 2) := by decide +kernel
theorem dX11_share_16 : decode cX11_share 16 = .ok (.if_icmp .ge 49, 3) := by decide +kernel
theorem dX11_share_19 : decode cX11_share 19 = .ok (.iconst 0, 1) := by decide +kernel
theorem dX11_share_20 : decode cX11_share 20 = .ok (.istore 4, 2) := by decide +kernel
theorem dX11_share_22 : decode cX11_share 22 = .ok (.iload 4, 2) := by decide +kernel
theorem dX11_share_24 : decode cX11_share 24 = .ok (.aload_n 0, 1) := by decide +kernel
theorem dX11_share_25 : decode cX11_share 25 = .ok (.getfield 93, 3) := by decide +kernel
theorem dX11_share_28 : decode cX11_share 28 = .ok (.getfield 181, 3) := by decide +kernel
theorem dX11_share_31 : decode cX11_share 31 = .ok (.if_icmp .ge 28, 3) := by decide +kernel
theorem dX11_share_34 : decode cX11_share 34 = .ok (.aload_n 0, 1) := by decide +kernel
theorem dX11_share_35 : decode cX11_share 35 = .ok (.getfield 59, 3) := by decide +kernel
theorem dX11_share_38 : decode cX11_share 38 = .ok (.iload 4, 2) := by decide +kernel
theorem dX11_share_40 : decode cX11_share 40 = .ok (.iload_n 3, 1) := by decide +kernel
theorem dX11_share_41 : decode cX11_share 41 = .ok (.invokevirtual 246, 3) := by decide +kernel
theorem dX11_share_44 : decode cX11_share 44 = .ok (.iconst 1, 1) := by decide +kernel
theorem dX11_share_45 : decode cX11_share 45 = .ok (.iload_n 1, 1) := by decide +kernel
theorem dX11_share_46 : decode cX11_share 46 = .ok (.ishl, 1) := by decide +kernel
theorem dX11_share_47 : decode cX11_share 47 = .ok (.if_icmp .ne 6, 3) := by decide +kernel
theorem dX11_share_50 : decode cX11_share 50 = .ok (.iinc 2 1, 3) := by decide +kernel
theorem dX11_share_53 : decode cX11_share 53 = .ok (.iinc 4 1, 3) := by decide +kernel
theorem dX11_share_56 : decode cX11_share 56 = .ok (.goto (-34), 3) := by decide +kernel
theorem dX11_share_59 : decode cX11_share 59 = .ok (.iinc 3 1, 3) := by decide +kernel
theorem dX11_share_62 : decode cX11_share 62 = .ok (.goto (-49), 3) := by decide +kernel
theorem dX11_share_65 : decode cX11_share 65 = .ok (.iload_n 2, 1) := by decide +kernel
theorem dX11_share_66 : decode cX11_share 66 = .ok (.ireturn, 1) := by decide +kernel
theorem ct_X11_share {g : Gw} (hG : GF g) {z : Bool} (E : Mm) (s : Nat) (P : SP) (L : LW) (T K : LN) (d : Nat) (hI_E : CXI E s P L T K d) (x0 : Int) : CTX g yX11_share cX11_share 5 (some .int) 7 146 1 6 K2 z [mR 0, mI x0] (ov E) K2 z (fun r' D' => (0 ≤ x0 ∧ x0 ≤ (sN P : Int) - 1) ∧ r' = some (mI (shrP (gNow P L d) x0.toNat 24 : Nat)) ∧ ∃ E1, D' = ov E1 ∧ CXI E1 s P L T K d ∧ CXF E E1) (fun X D' => (¬ (0 ≤ x0 ∧ x0 ≤ (sN P : Int) - 1) ∧ X = "java/util/NoSuchElementException" ∧ D' = ov (bumpE E 1))) := by
  refine CTX.mk hG (by decide +kernel) (Nat.le_of_ble_eq_true rfl) (fun κ X Rt Rx ok => ?_)
  have hs := hI_E.sa
  have hP := hI_E.WS
  have hW40 := hP.W
  have hN10 := hP.N
  have hN8 := hP.B.N
  have hX_E : CXF E E := CXF.rf
  have hwG := gNow_WG hI_E
  have hgw : gW (gNow P L d) = sW P := rfl
  have hgn : gN (gNow P L d) = sN P := rfl
  refine at_aload_n 1 X rfl rfl dX11_share_0 rfl ?_
  refine at_iload_n 2 X rfl rfl dX11_share_1 rfl ?_
  refine at_callVX 5 X Rt Rx _ 11 (ct_X11_needPostP hG E s P L T K d hI_E x0) clX11 rfl k_0 mo_X11_needPost w_1207 vo_X11_needPost.1 vo_X11_needPost.2 rfl rfl (by decide) (Nat.le_of_ble_eq_true rfl) dX11_share_2 rfl (fun _ _ h => ⟨h.1, h.2.1, h.2.2⟩) ?_
  rintro _ _ ⟨hc0, rfl, rfl⟩
  obtain ⟨p, rfl⟩ : ∃ p : Nat, x0 = (p : Int) := ⟨x0.toNat, by omega⟩
  refine at_aload_n 6 X rfl rfl dX11_share_5 rfl ?_
  refine at_callV 9 X _ 11 (ct_X11_refresh hG E s P L T K d hI_E) clX11 rfl k_0 mo_X11_refresh w_665 vo_X11_refresh.1 vo_X11_refresh.2 rfl rfl (crm Rt (by decide)) (Nat.le_of_ble_eq_true rfl) dX11_share_6 rfl ?_
  rintro _ _ ⟨rfl, F1, rfl, hI_F1, hF_F1, hXn_F1⟩
  have hX_F1 := hX_E.tr hXn_F1
  refine at_iconst 10 X (by decide) dX11_share_9 rfl ?_
  refine at_istore_n 11 X rfl dX11_share_10 rfl (by decide) ?_
  refine at_iconst 12 X (by decide) dX11_share_11 rfl ?_
  refine at_istore_n 13 X rfl dX11_share_12 rfl (by decide) ?_
  have J13 : ∀ (f13 : Nat) (h : Nat) (v : Nat), 24 - h < f13 → (h ≤ 24) → (v = shrP (gNow P L d) p h) → AT g κ K2 z 1 6 13 [(0, mR 0), (1, mI ((p : Nat) : Int)), (2, mI ((v : Nat) : Int)), (3, mI ((h : Nat) : Int))] [] (ov F1) := by
    intro f13
    induction f13 with
    | zero => intro h v hf13; omega
    | succ f13 ih13 =>
    intro h v hf13 hh hv
    have hvl := shrP_le (gNow P L d) hwG.W p h
    refine at_iload_n 14 X rfl rfl dX11_share_13 rfl ?_
    refine at_bipush 16 X (by decide) (by decide) dX11_share_14 rfl ?_
    refine at_icmp_ge 19 65 X dX11_share_16 rfl (by decide) (fun h16 => ?_) (fun h16 => ?_)
    · refine at_iload_n 66 X rfl rfl dX11_share_65 rfl ?_
      refine at_iret X Rt ?_ (by decide) (by decide) dX11_share_66
      exact ⟨hc0, (by (try simp only [Int.toNat_natCast]); rw [hv, show h = 24 by omega]), _, rfl, hI_F1, hX_F1⟩
    · refine at_iconst 20 X (by decide) dX11_share_19 rfl ?_
      refine at_istore 22 X dX11_share_20 rfl (by decide) ?_
      have J22 : ∀ (f22 : Nat) (c : Nat) (u : Nat), 40 - c < f22 → (c ≤ sW P) → (u = v + shrC (gNow P L d) p h c) → AT g κ K2 z 1 6 22 [(0, mR 0), (1, mI ((p : Nat) : Int)), (2, mI ((u : Nat) : Int)), (3, mI ((h : Nat) : Int)), (4, mI ((c : Nat) : Int))] [] (ov F1) := by
        intro f22
        induction f22 with
        | zero => intro c u hf22; omega
        | succ f22 ih22 =>
        intro c u hf22 hc hu
        refine at_iload 24 X rfl dX11_share_22 rfl ?_
        have hul : shrC (gNow P L d) p h c ≤ c := cntp_le _ _
        refine at_aload_n 25 X rfl rfl dX11_share_24 rfl ?_
        refine m_getM 28 X (s) f_X11_93 k_0 rn_0_15 hI_F1.now dX11_share_25 rfl ?_
        refine m_getIV 31 X ((sW P : Nat) : Int) hI_F1.S.W f_X11_181 (kX9 hs) (nX9_8 hs) dX11_share_28 rfl ?_
        have := hP.W
        refine at_icmp_ge 34 59 X dX11_share_31 rfl (by decide) (fun h31 => ?_) (fun h31 => ?_)
        · refine at_iincV 62 X ((h + 1 : Nat) : Int) (w32_v (by omega) (by omega) (by omega)) rfl dX11_share_59 rfl (by decide) ?_
          refine at_goto 13 X dX11_share_62 (by decide) ?_
          exact at_sub _ (by exact ⟨rfl, rfl, rfl, rfl, trivial⟩) (ih13 (h + 1) u (by first | omega | (simp only [] at *; omega)) (by first | omega | assumption) (by show _ = shrP (gNow P L d) p h + shrC (gNow P L d) p h (gW (gNow P L d)); rw [hu, hv, show gW (gNow P L d) = c from by have : gW (gNow P L d) = sW P := rfl; omega]))
        · refine at_aload_n 35 X rfl rfl dX11_share_34 rfl ?_
          refine m_getR 38 X f_X11_59 k_0 r_0_9 dX11_share_35 rfl ?_
          refine at_iload 40 X rfl dX11_share_38 rfl ?_
          refine at_iload_n 41 X rfl rfl dX11_share_40 rfl ?_
          refine at_callV 44 X _ 4 (ct_X4_shadesOn hG F1 30 (Or.inl rfl) (gNow P L d) hwG hF_F1.1 h c (by omega) (by omega)) clX4 rfl k_30 mo_X4_shadesOn w_1292 vo_X4_shadesOn.1 vo_X4_shadesOn.2 rfl rfl (crm Rt (by decide)) (Nat.le_of_ble_eq_true rfl) dX11_share_41 rfl ?_
          rintro _ _ ⟨rfl, rfl⟩
          have := shd_lt (gNow P L d) hwG.N (gLm (gNow P L d) c) h c
          refine at_iconst 45 X (by decide) dX11_share_44 rfl ?_
          refine at_iload_n 46 X rfl rfl dX11_share_45 rfl ?_
          refine at_ishlV 47 X ((2 ^ p : Nat) : Int) (ishl1 (by omega)) dX11_share_46 rfl ?_
          refine at_icmp_ne 50 53 X dX11_share_47 rfl (by decide) (fun h47 => ?_) (fun h47 => ?_)
          · refine at_iincV 56 X ((c + 1 : Nat) : Int) (w32_v (by omega) (by omega) (by omega)) rfl dX11_share_53 rfl (by decide) ?_
            refine at_goto 22 X dX11_share_56 (by decide) ?_
            exact at_sub _ (by exact ⟨rfl, rfl, rfl, rfl, rfl, trivial⟩) (ih22 (c + 1) u (by first | omega | (simp only [] at *; omega)) (by first | omega | assumption) (by show _ = v + (shrC (gNow P L d) p h c + if decide (shd (gNow P L d) (gLm (gNow P L d) c) h c = 2 ^ p) = true then 1 else 0); first | (rw [if_neg (by rw [decide_eq_true_eq]; omega)]; omega) | (rw [if_pos (decide_eq_true (by omega))]; omega)))
          · refine at_iincV 53 X ((u + 1 : Nat) : Int) (w32_v (by omega) (by omega) (by omega)) rfl dX11_share_50 rfl (by decide) ?_
            refine at_iincV 56 X ((c + 1 : Nat) : Int) (w32_v (by omega) (by omega) (by omega)) rfl dX11_share_53 rfl (by decide) ?_
            refine at_goto 22 X dX11_share_56 (by decide) ?_
            exact at_sub _ (by exact ⟨rfl, rfl, rfl, rfl, rfl, trivial⟩) (ih22 (c + 1) (u + 1) (by first | omega | (simp only [] at *; omega)) (by first | omega | assumption) (by show _ = v + (shrC (gNow P L d) p h c + if decide (shd (gNow P L d) (gLm (gNow P L d) c) h c = 2 ^ p) = true then 1 else 0); first | (rw [if_neg (by rw [decide_eq_true_eq]; omega)]; omega) | (rw [if_pos (decide_eq_true (by omega))]; omega)))
      exact at_sub _ (by exact ⟨rfl, rfl, rfl, rfl, rfl, trivial⟩) (J22 _ 0 v (Nat.lt_succ_self _) (by first | omega | assumption | rfl) rfl)
  exact at_sub _ (by exact ⟨rfl, rfl, rfl, rfl, trivial⟩) (J13 _ 0 0 (Nat.lt_succ_self _) (by first | omega | assumption | rfl) rfl)
theorem dX11_summed_0 : decode cX11_summed 0 = .ok (.aload_n 0, 1) := by decide +kernel
theorem dX11_summed_1 : decode cX11_summed 1 = .ok (.iload_n 1, 1) := by decide +kernel
theorem dX11_summed_2 : decode cX11_summed 2 = .ok (.invokevirtual 224, 3) := by decide +kernel
theorem dX11_summed_5 : decode cX11_summed 5 = .ok (.aload_n 0, 1) := by decide +kernel
theorem dX11_summed_6 : decode cX11_summed 6 = .ok (.iload_n 2, 1) := by decide +kernel
theorem dX11_summed_7 : decode cX11_summed 7 = .ok (.iconst 1, 1) := by decide +kernel
theorem dX11_summed_8 : decode cX11_summed 8 = .ok (.invokevirtual 199, 3) := by decide +kernel
theorem dX11_summed_11 : decode cX11_summed 11 = .ok (.aload_n 0, 1) := by decide +kernel
theorem dX11_summed_12 : decode cX11_summed 12 = .ok (.invokevirtual 227, 3) := by decide +kernel
theorem dX11_summed_15 : decode cX11_summed 15 = .ok (.iconst 0, 1) := by decide +kernel
theorem dX11_summed_16 : decode cX11_summed 16 = .ok (.istore_n 3, 1) := by decide +kernel
theorem dX11_summed_17 : decode cX11_summed 17 = .ok (.iconst 0, 1) := by decide +kernel
theorem dX11_summed_18 : decode cX11_summed 18 = .ok (.istore 4, 2) := by decide +kernel
theorem dX11_summed_20 : decode cX11_summed 20 = .ok (.iconst 0, 1) := by decide +kernel
theorem dX11_summed_21 : decode cX11_summed 21 = .ok (.istore 5, 2) := by decide +kernel
theorem dX11_summed_23 : decode cX11_summed 23 = .ok (.iload 5, 2) := by decide +kernel
theorem dX11_summed_25 : decode cX11_summed 25 = .ok (.aload_n 0, 1) := by decide +kernel
theorem dX11_summed_26 : decode cX11_summed 26 = .ok (.getfield 93, 3) := by decide +kernel
theorem dX11_summed_29 : decode cX11_summed 29 = .ok (.getfield 181, 3) := by decide +kernel
theorem dX11_summed_32 : decode cX11_summed 32 = .ok (.if_icmp .ge 42, 3) := by decide +kernel
theorem dX11_summed_35 : decode cX11_summed 35 = .ok (.iload_n 3, 1) := by decide +kernel
theorem dX11_summed_36 : decode cX11_summed 36 = .ok (.aload_n 0, 1) := by decide +kernel
theorem dX11_summed_37 : decode cX11_summed 37 = .ok (.getfield 59, 3) := by decide +kernel
theorem dX11_summed_40 : decode cX11_summed 40 = .ok (.iload 5, 2) := by decide +kernel
theorem dX11_summed_42 : decode cX11_summed 42 = .ok (.iload_n 1, 1) := by decide +kernel
theorem dX11_summed_43 : decode cX11_summed 43 = .ok (.invokevirtual 250, 3) := by decide +kernel
theorem dX11_summed_46 : decode cX11_summed 46 = .ok (.iadd, 1) := by decide +kernel
theorem dX11_summed_47 : decode cX11_summed 47 = .ok (.istore_n 3, 1) := by decide +kernel
theorem dX11_summed_48 : decode cX11_summed 48 = .ok (.aload_n 0, 1) := by decide +kernel
theorem dX11_summed_49 : decode cX11_summed 49 = .ok (.getfield 59, 3) := by decide +kernel
theorem dX11_summed_52 : decode cX11_summed 52 = .ok (.iload 5, 2) := by decide +kernel
theorem dX11_summed_54 : decode cX11_summed 54 = .ok (.iload_n 1, 1) := by decide +kernel
theorem dX11_summed_55 : decode cX11_summed 55 = .ok (.invokevirtual 246, 3) := by decide +kernel
theorem dX11_summed_58 : decode cX11_summed 58 = .ok (.invokestatic 442, 3) := by decide +kernel
theorem dX11_summed_61 : decode cX11_summed 61 = .ok (.iconst 2, 1) := by decide +kernel
theorem dX11_summed_62 : decode cX11_summed 62 = .ok (.if_icmp .lt 6, 3) := by decide +kernel
theorem dX11_summed_65 : decode cX11_summed 65 = .ok (.iinc 4 1, 3) := by decide +kernel
theorem dX11_summed_68 : decode cX11_summed 68 = .ok (.iinc 5 1, 3) := by decide +kernel
theorem dX11_summed_71 : decode cX11_summed 71 = .ok (.goto (-48), 3) := by decide +kernel
theorem dX11_summed_74 : decode cX11_summed 74 = .ok (.iload_n 2, 1) := by decide +kernel
theorem dX11_summed_75 : decode cX11_summed 75 = .ok (.ifCond .ne 7, 3) := by decide +kernel
theorem dX11_summed_78 : decode cX11_summed 78 = .ok (.iload_n 3, 1) := by decide +kernel
theorem dX11_summed_79 : decode cX11_summed 79 = .ok (.goto 5, 3) := by decide +kernel
theorem dX11_summed_82 : decode cX11_summed 82 = .ok (.iload 4, 2) := by decide +kernel
theorem dX11_summed_84 : decode cX11_summed 84 = .ok (.ireturn, 1) := by decide +kernel
theorem ct_X11_summed {g : Gw} (hG : GF g) {z : Bool} (E : Mm) (s : Nat) (P : SP) (L : LW) (T K : LN) (d : Nat) (hI_E : CXI E s P L T K d) (x0 x1 : Int) : CTX g yX11_summed cX11_summed 6 (some .int) 8 146 2 12 K2 z [mR 0, mI x0, mI x1] (ov E) K2 z (fun r' D' => (0 ≤ x0 ∧ x0 ≤ 23) ∧ (0 ≤ x1 ∧ x1 ≤ 1) ∧ r' = some (mI (if x1 = 0 then sumP (gNow P L d) x0.toNat (sW P) else (crsP (gNow P L d) x0.toNat (sW P) : Nat))) ∧ ∃ E1, D' = ov E1 ∧ CXI E1 s P L T K d ∧ CXF E E1) (fun X D' => (¬ (0 ≤ x0 ∧ x0 ≤ 23) ∧ X = "java/lang/IllegalArgumentException" ∧ D' = ov (bumpE E 2)) ∨ ((0 ≤ x0 ∧ x0 ≤ 23) ∧ ¬ (0 ≤ x1 ∧ x1 ≤ 1) ∧ X = "java/lang/IllegalArgumentException" ∧ D' = ov (bumpE E 2))) := by
  refine CTX.mk hG (by decide +kernel) (Nat.le_of_ble_eq_true rfl) (fun κ X Rt Rx ok => ?_)
  have hs := hI_E.sa
  have hP := hI_E.WS
  have hW40 := hP.W
  have hN10 := hP.N
  have hN8 := hP.B.N
  have hX_E : CXF E E := CXF.rf
  have hwG := gNow_WG hI_E
  have hgw : gW (gNow P L d) = sW P := rfl
  have hgn : gN (gNow P L d) = sN P := rfl
  refine at_aload_n 1 X rfl rfl dX11_summed_0 rfl ?_
  refine at_iload_n 2 X rfl rfl dX11_summed_1 rfl ?_
  refine at_callVX 5 X Rt Rx _ 11 (ct_X11_needHour hG E x0) clX11 rfl k_0 mo_X11_needHour w_1259 vo_X11_needHour.1 vo_X11_needHour.2 rfl rfl (by decide) (Nat.le_of_ble_eq_true rfl) dX11_summed_2 rfl (fun _ _ h => Or.inl ⟨h.1, h.2.1, h.2.2⟩) ?_
  rintro _ _ ⟨hc0, rfl, rfl⟩
  refine at_aload_n 6 X rfl rfl dX11_summed_5 rfl ?_
  refine at_iload_n 7 X rfl rfl dX11_summed_6 rfl ?_
  refine at_iconst 8 X (by decide) dX11_summed_7 rfl ?_
  refine at_callVX 11 X Rt Rx _ 11 (ct_X11_needWhat hG E x1 1) clX11 rfl k_0 mo_X11_needWhat w_1228 vo_X11_needWhat.1 vo_X11_needWhat.2 rfl rfl (by decide) (Nat.le_of_ble_eq_true rfl) dX11_summed_8 rfl (fun _ _ h => Or.inr (⟨hc0, h.1, h.2.1, h.2.2⟩)) ?_
  rintro _ _ ⟨hc1, rfl, rfl⟩
  obtain ⟨h, rfl⟩ : ∃ h : Nat, x0 = (h : Int) := ⟨x0.toNat, by omega⟩
  refine at_aload_n 12 X rfl rfl dX11_summed_11 rfl ?_
  refine at_callV 15 X _ 11 (ct_X11_refresh hG E s P L T K d hI_E) clX11 rfl k_0 mo_X11_refresh w_665 vo_X11_refresh.1 vo_X11_refresh.2 rfl rfl (crm Rt (by decide)) (Nat.le_of_ble_eq_true rfl) dX11_summed_12 rfl ?_
  rintro _ _ ⟨rfl, F1, rfl, hI_F1, hF_F1, hXn_F1⟩
  have hX_F1 := hX_E.tr hXn_F1
  refine at_iconst 16 X (by decide) dX11_summed_15 rfl ?_
  refine at_istore_n 17 X rfl dX11_summed_16 rfl (by decide) ?_
  refine at_iconst 18 X (by decide) dX11_summed_17 rfl ?_
  refine at_istore 20 X dX11_summed_18 rfl (by decide) ?_
  refine at_iconst 21 X (by decide) dX11_summed_20 rfl ?_
  refine at_istore 23 X dX11_summed_21 rfl (by decide) ?_
  have J23 : ∀ (f23 : Nat) (F : Mm) (c : Nat) (v : Int) (k : Nat), 40 - c < f23 → (c ≤ sW P) → (v = sumP (gNow P L d) h c) → (0 ≤ v ∧ v ≤ c * 999) → (k = crsP (gNow P L d) h c) → (CXI F s P L T K d) → (FRS F P L T d) → (CXF E F) → AT g κ K2 z 2 12 23 [(0, mR 0), (1, mI ((h : Nat) : Int)), (2, mI x1), (3, mI v), (4, mI ((k : Nat) : Int)), (5, mI ((c : Nat) : Int))] [] (ov F) := by
    intro f23
    induction f23 with
    | zero => intro F c v k hf23; omega
    | succ f23 ih23 =>
    intro F c v k hf23 hc hv hvl hk hI_F hF_F hX_F
    refine at_iload 25 X rfl dX11_summed_23 rfl ?_
    have hkl : crsP (gNow P L d) h c ≤ c := cntp_le _ _
    refine at_aload_n 26 X rfl rfl dX11_summed_25 rfl ?_
    refine m_getM 29 X (s) f_X11_93 k_0 rn_0_15 hI_F.now dX11_summed_26 rfl ?_
    refine m_getIV 32 X ((sW P : Nat) : Int) hI_F.S.W f_X11_181 (kX9 hs) (nX9_8 hs) dX11_summed_29 rfl ?_
    have := hP.W
    refine at_icmp_ge 35 74 X dX11_summed_32 rfl (by decide) (fun h32 => ?_) (fun h32 => ?_)
    · refine at_iload_n 75 X rfl rfl dX11_summed_74 rfl ?_
      refine at_if_ne 78 82 X dX11_summed_75 rfl (by decide) (fun h75 => ?_) (fun h75 => ?_)
      · refine at_iload 84 X rfl dX11_summed_82 rfl ?_
        refine at_iret X Rt ?_ (by decide) (by decide) dX11_summed_84
        exact ⟨hc0, hc1, (by (try simp only [Int.toNat_natCast]); first | (rw [if_pos (show x1 = 0 by omega), hv, show c = sW P by omega]; done) | (rw [if_neg (show ¬ x1 = 0 by omega), hk, show c = sW P by omega]; done)), _, rfl, hI_F, hX_F⟩
      · refine at_iload_n 79 X rfl rfl dX11_summed_78 rfl ?_
        refine at_goto 84 X dX11_summed_79 (by decide) ?_
        refine at_iret X Rt ?_ (by decide) (by decide) dX11_summed_84
        exact ⟨hc0, hc1, (by (try simp only [Int.toNat_natCast]); first | (rw [if_pos (show x1 = 0 by omega), hv, show c = sW P by omega]; done) | (rw [if_neg (show ¬ x1 = 0 by omega), hk, show c = sW P by omega]; done)), _, rfl, hI_F, hX_F⟩
    · refine at_iload_n 36 X rfl rfl dX11_summed_35 rfl ?_
      refine at_aload_n 37 X rfl rfl dX11_summed_36 rfl ?_
      refine m_getR 40 X f_X11_59 k_0 r_0_9 dX11_summed_37 rfl ?_
      refine at_iload 42 X rfl dX11_summed_40 rfl ?_
      refine at_iload_n 43 X rfl rfl dX11_summed_42 rfl ?_
      refine at_callV 46 X _ 4 (ct_X4_borneOn hG F 30 (Or.inl rfl) (gNow P L d) hwG hF_F.1 hI_F.Lw h c (by omega) (by first | omega | (have := hP.W; omega))) clX4 rfl k_30 mo_X4_borneOn w_1303 vo_X4_borneOn.1 vo_X4_borneOn.2 rfl rfl (crm Rt (by decide)) (Nat.le_of_ble_eq_true rfl) dX11_summed_43 rfl ?_
      rintro _ _ ⟨rfl, F2, rfl, hg_F2, hq_F2⟩
      have hK3 := hI_F.known hF_F hg_F2 hq_F2
      have hI_F2 := hK3.1
      have hF_F2 := hK3.2.1
      have hX_F2 : CXF E F2 := hX_F.tr hK3.2.2
      have := bOn_in (gNow P L d) h c
      refine at_iaddV 47 X (v + (bOn (gNow P L d) h c)) (w32_v rfl (by omega) (by omega)) dX11_summed_46 rfl ?_
      refine at_istore_n 48 X rfl dX11_summed_47 rfl (by decide) ?_
      refine at_aload_n 49 X rfl rfl dX11_summed_48 rfl ?_
      refine m_getR 52 X f_X11_59 k_0 r_0_9 dX11_summed_49 rfl ?_
      refine at_iload 54 X rfl dX11_summed_52 rfl ?_
      refine at_iload_n 55 X rfl rfl dX11_summed_54 rfl ?_
      refine at_callV 58 X _ 4 (ct_X4_shadesOn hG F2 30 (Or.inl rfl) (gNow P L d) hwG hF_F2.1 h c (by omega) (by omega)) clX4 rfl k_30 mo_X4_shadesOn w_1292 vo_X4_shadesOn.1 vo_X4_shadesOn.2 rfl rfl (crm Rt (by decide)) (Nat.le_of_ble_eq_true rfl) dX11_summed_55 rfl ?_
      rintro _ _ ⟨rfl, rfl⟩
      have := shd_lt (gNow P L d) hwG.N (gLm (gNow P L d) c) h c
      refine at_callS 61 X (ct_J6_bitCount_0f7a4 hG F2 (shd (gNow P L d) (gLm (gNow P L d) c) h c) (by omega)) mo_J6_bitCount_0f7a4 w_1667 so_J6_bitCount_0f7a4 rfl rfl (crm Rt (by decide)) (Nat.le_of_ble_eq_true rfl) dX11_summed_58 rfl ?_
      rintro _ _ ⟨rfl, rfl⟩
      have := cntp_le (fun p => (shd (gNow P L d) (gLm (gNow P L d) c) h c).testBit p) 11
      refine at_iconst 62 X (by decide) dX11_summed_61 rfl ?_
      refine at_icmp_lt 65 68 X dX11_summed_62 rfl (by decide) (fun h62 => ?_) (fun h62 => ?_)
      · refine at_iincV 71 X ((c + 1 : Nat) : Int) (w32_v (by omega) (by omega) (by omega)) rfl dX11_summed_68 rfl (by decide) ?_
        refine at_goto 23 X dX11_summed_71 (by decide) ?_
        exact at_sub _ (by exact ⟨rfl, rfl, rfl, rfl, rfl, rfl, trivial⟩) (ih23 F2 (c + 1) (v + (bOn (gNow P L d) h c)) k (by first | omega | (simp only [] at *; omega)) (by first | omega | assumption) (by show _ = sumP (gNow P L d) h c + bOn (gNow P L d) h c; rw [hv]) (by first | omega | assumption) (by show _ = crsP (gNow P L d) h c + if decide (2 ≤ cntp (fun p => (shd (gNow P L d) (gLm (gNow P L d) c) h c).testBit p) 11) = true then 1 else 0; first | (rw [if_neg (by rw [decide_eq_true_eq]; omega)]; omega) | (rw [if_pos (decide_eq_true (by omega))]; omega)) hI_F2 hF_F2 hX_F2)
      · refine at_iincV 68 X ((k + 1 : Nat) : Int) (w32_v (by omega) (by omega) (by omega)) rfl dX11_summed_65 rfl (by decide) ?_
        refine at_iincV 71 X ((c + 1 : Nat) : Int) (w32_v (by omega) (by omega) (by omega)) rfl dX11_summed_68 rfl (by decide) ?_
        refine at_goto 23 X dX11_summed_71 (by decide) ?_
        exact at_sub _ (by exact ⟨rfl, rfl, rfl, rfl, rfl, rfl, trivial⟩) (ih23 F2 (c + 1) (v + (bOn (gNow P L d) h c)) (k + 1) (by first | omega | (simp only [] at *; omega)) (by first | omega | assumption) (by show _ = sumP (gNow P L d) h c + bOn (gNow P L d) h c; rw [hv]) (by first | omega | assumption) (by show _ = crsP (gNow P L d) h c + if decide (2 ≤ cntp (fun p => (shd (gNow P L d) (gLm (gNow P L d) c) h c).testBit p) 11) = true then 1 else 0; first | (rw [if_neg (by rw [decide_eq_true_eq]; omega)]; omega) | (rw [if_pos (decide_eq_true (by omega))]; omega)) hI_F2 hF_F2 hX_F2)
  exact at_sub _ (by exact ⟨rfl, rfl, rfl, rfl, rfl, rfl, trivial⟩) (J23 _ F1 0 0 0 (Nat.lt_succ_self _) (by first | omega | assumption | rfl) rfl (by first | omega | assumption | rfl) rfl hI_F1 hF_F1 hX_F1)
theorem dX11_row_0 : decode cX11_row 0 = .ok (.aload_n 0, 1) := by decide +kernel
theorem dX11_row_1 : decode cX11_row 1 = .ok (.iload_n 1, 1) := by decide +kernel
theorem dX11_row_2 : decode cX11_row 2 = .ok (.invokevirtual 224, 3) := by decide +kernel
theorem dX11_row_5 : decode cX11_row 5 = .ok (.aload_n 0, 1) := by decide +kernel
theorem dX11_row_6 : decode cX11_row 6 = .ok (.iload_n 2, 1) := by decide +kernel
theorem dX11_row_7 : decode cX11_row 7 = .ok (.iconst 1, 1) := by decide +kernel
theorem dX11_row_8 : decode cX11_row 8 = .ok (.invokevirtual 199, 3) := by decide +kernel
theorem dX11_row_11 : decode cX11_row 11 = .ok (.aload_n 0, 1) := by decide +kernel
theorem dX11_row_12 : decode cX11_row 12 = .ok (.invokevirtual 227, 3) := by decide +kernel
theorem dX11_row_15 : decode cX11_row 15 = .ok (.aload_n 0, 1) := by decide +kernel
theorem dX11_row_16 : decode cX11_row 16 = .ok (.getfield 59, 3) := by decide +kernel
theorem dX11_row_19 : decode cX11_row 19 = .ok (.iload_n 1, 1) := by decide +kernel
theorem dX11_row_20 : decode cX11_row 20 = .ok (.invokevirtual 375, 3) := by decide +kernel
theorem dX11_row_23 : decode cX11_row 23 = .ok (.lstore_n 3, 1) := by decide +kernel
theorem dX11_row_24 : decode cX11_row 24 = .ok (.iconst 0, 1) := by decide +kernel
theorem dX11_row_25 : decode cX11_row 25 = .ok (.istore 5, 2) := by decide +kernel
theorem dX11_row_27 : decode cX11_row 27 = .ok (.iconst (-1), 1) := by decide +kernel
theorem dX11_row_28 : decode cX11_row 28 = .ok (.istore 6, 2) := by decide +kernel
theorem dX11_row_30 : decode cX11_row 30 = .ok (.iconst 0, 1) := by decide +kernel
theorem dX11_row_31 : decode cX11_row 31 = .ok (.istore 7, 2) := by decide +kernel
theorem dX11_row_33 : decode cX11_row 33 = .ok (.iconst 0, 1) := by decide +kernel
theorem dX11_row_34 : decode cX11_row 34 = .ok (.istore 8, 2) := by decide +kernel
theorem dX11_row_36 : decode cX11_row 36 = .ok (.iload 8, 2) := by decide +kernel
theorem dX11_row_38 : decode cX11_row 38 = .ok (.aload_n 0, 1) := by decide +kernel
theorem dX11_row_39 : decode cX11_row 39 = .ok (.getfield 93, 3) := by decide +kernel
theorem dX11_row_42 : decode cX11_row 42 = .ok (.getfield 181, 3) := by decide +kernel
theorem dX11_row_45 : decode cX11_row 45 = .ok (.if_icmp .ge 50, 3) := by decide +kernel
theorem dX11_row_48 : decode cX11_row 48 = .ok (.lload_n 3, 1) := by decide +kernel
theorem dX11_row_49 : decode cX11_row 49 = .ok (.iload 8, 2) := by decide +kernel
theorem dX11_row_51 : decode cX11_row 51 = .ok (.lshr, 1) := by decide +kernel
theorem dX11_row_52 : decode cX11_row 52 = .ok (.lconst 1, 1) := by decide +kernel
theorem dX11_row_53 : decode cX11_row 53 = .ok (.land, 1) := by decide +kernel
theorem dX11_row_54 : decode cX11_row 54 = .ok (.lconst 1, 1) := by decide +kernel
theorem dX11_row_55 : decode cX11_row 55 = .ok (.lcmp, 1) := by decide +kernel
theorem dX11_row_56 : decode cX11_row 56 = .ok (.ifCond .ne 10, 3) := by decide +kernel
theorem dX11_row_59 : decode cX11_row 59 = .ok (.iload 7, 2) := by decide +kernel
theorem dX11_row_61 : decode cX11_row 61 = .ok (.iconst 1, 1) := by decide +kernel
theorem dX11_row_62 : decode cX11_row 62 = .ok (.iadd, 1) := by decide +kernel
theorem dX11_row_63 : decode cX11_row 63 = .ok (.goto 4, 3) := by decide +kernel
theorem dX11_row_66 : decode cX11_row 66 = .ok (.iconst 0, 1) := by decide +kernel
theorem dX11_row_67 : decode cX11_row 67 = .ok (.istore 7, 2) := by decide +kernel
theorem dX11_row_69 : decode cX11_row 69 = .ok (.iload 7, 2) := by decide +kernel
theorem dX11_row_71 : decode cX11_row 71 = .ok (.iload 5, 2) := by decide +kernel
theorem dX11_row_73 : decode cX11_row 73 = .ok (.if_icmp .le 16, 3) := by decide +kernel
theorem dX11_row_76 : decode cX11_row 76 = .ok (.iload 7, 2) := by decide +kernel
theorem dX11_row_78 : decode cX11_row 78 = .ok (.istore 5, 2) := by decide +kernel
theorem dX11_row_80 : decode cX11_row 80 = .ok (.iload 8, 2) := by decide +kernel
theorem dX11_row_82 : decode cX11_row 82 = .ok (.iload 7, 2) := by decide +kernel
theorem dX11_row_84 : decode cX11_row 84 = .ok (.isub, 1) := by decide +kernel
theorem dX11_row_85 : decode cX11_row 85 = .ok (.iconst 1, 1) := by decide +kernel
theorem dX11_row_86 : decode cX11_row 86 = .ok (.iadd, 1) := by decide +kernel
theorem dX11_row_87 : decode cX11_row 87 = .ok (.istore 6, 2) := by decide +kernel
theorem dX11_row_89 : decode cX11_row 89 = .ok (.iinc 8 1, 3) := by decide +kernel
theorem dX11_row_92 : decode cX11_row 92 = .ok (.goto (-56), 3) := by decide +kernel
theorem dX11_row_95 : decode cX11_row 95 = .ok (.iload_n 2, 1) := by decide +kernel
theorem dX11_row_96 : decode cX11_row 96 = .ok (.ifCond .ne 8, 3) := by decide +kernel
theorem dX11_row_99 : decode cX11_row 99 = .ok (.iload 5, 2) := by decide +kernel
theorem dX11_row_101 : decode cX11_row 101 = .ok (.goto 5, 3) := by decide +kernel
theorem dX11_row_104 : decode cX11_row 104 = .ok (.iload 6, 2) := by decide +kernel
theorem dX11_row_106 : decode cX11_row 106 = .ok (.ireturn, 1) := by decide +kernel
theorem ct_X11_row {g : Gw} (hG : GF g) {z : Bool} (E : Mm) (s : Nat) (P : SP) (L : LW) (T K : LN) (d : Nat) (hI_E : CXI E s P L T K d) (x0 x1 : Int) : CTX g yX11_row cX11_row 9 (some .int) 8 146 2 12 K2 z [mR 0, mI x0, mI x1] (ov E) K2 z (fun r' D' => (0 ≤ x0 ∧ x0 ≤ 23) ∧ (0 ≤ x1 ∧ x1 ≤ 1) ∧ r' = some (mI (if x1 = 0 then ((rwP (fun c => decide (0 < bOn (gNow P L d) x0.toNat c)) (sW P)).1 : Int) else (rwP (fun c => decide (0 < bOn (gNow P L d) x0.toNat c)) (sW P)).2.1)) ∧ ∃ E1, D' = ov E1 ∧ CXI E1 s P L T K d ∧ CXF E E1) (fun X D' => (¬ (0 ≤ x0 ∧ x0 ≤ 23) ∧ X = "java/lang/IllegalArgumentException" ∧ D' = ov (bumpE E 2)) ∨ ((0 ≤ x0 ∧ x0 ≤ 23) ∧ ¬ (0 ≤ x1 ∧ x1 ≤ 1) ∧ X = "java/lang/IllegalArgumentException" ∧ D' = ov (bumpE E 2))) := by
  refine CTX.mk hG (by decide +kernel) (Nat.le_of_ble_eq_true rfl) (fun κ X Rt Rx ok => ?_)
  have hs := hI_E.sa
  have hP := hI_E.WS
  have hW40 := hP.W
  have hN10 := hP.N
  have hN8 := hP.B.N
  have hX_E : CXF E E := CXF.rf
  have hwG := gNow_WG hI_E
  have hgw : gW (gNow P L d) = sW P := rfl
  have hgn : gN (gNow P L d) = sN P := rfl
  refine at_aload_n 1 X rfl rfl dX11_row_0 rfl ?_
  refine at_iload_n 2 X rfl rfl dX11_row_1 rfl ?_
  refine at_callVX 5 X Rt Rx _ 11 (ct_X11_needHour hG E x0) clX11 rfl k_0 mo_X11_needHour w_1259 vo_X11_needHour.1 vo_X11_needHour.2 rfl rfl (by decide) (Nat.le_of_ble_eq_true rfl) dX11_row_2 rfl (fun _ _ h => Or.inl ⟨h.1, h.2.1, h.2.2⟩) ?_
  rintro _ _ ⟨hc0, rfl, rfl⟩
  refine at_aload_n 6 X rfl rfl dX11_row_5 rfl ?_
  refine at_iload_n 7 X rfl rfl dX11_row_6 rfl ?_
  refine at_iconst 8 X (by decide) dX11_row_7 rfl ?_
  refine at_callVX 11 X Rt Rx _ 11 (ct_X11_needWhat hG E x1 1) clX11 rfl k_0 mo_X11_needWhat w_1228 vo_X11_needWhat.1 vo_X11_needWhat.2 rfl rfl (by decide) (Nat.le_of_ble_eq_true rfl) dX11_row_8 rfl (fun _ _ h => Or.inr (⟨hc0, h.1, h.2.1, h.2.2⟩)) ?_
  rintro _ _ ⟨hc1, rfl, rfl⟩
  obtain ⟨h, rfl⟩ : ∃ h : Nat, x0 = (h : Int) := ⟨x0.toNat, by omega⟩
  refine at_aload_n 12 X rfl rfl dX11_row_11 rfl ?_
  refine at_callV 15 X _ 11 (ct_X11_refresh hG E s P L T K d hI_E) clX11 rfl k_0 mo_X11_refresh w_665 vo_X11_refresh.1 vo_X11_refresh.2 rfl rfl (crm Rt (by decide)) (Nat.le_of_ble_eq_true rfl) dX11_row_12 rfl ?_
  rintro _ _ ⟨rfl, F1, rfl, hI_F1, hF_F1, hXn_F1⟩
  have hX_F1 := hX_E.tr hXn_F1
  refine at_aload_n 16 X rfl rfl dX11_row_15 rfl ?_
  refine m_getR 19 X f_X11_59 k_0 r_0_9 dX11_row_16 rfl ?_
  refine at_iload_n 20 X rfl rfl dX11_row_19 rfl ?_
  refine at_callV 23 X _ 4 (ct_X4_bearingCells hG F1 30 (Or.inl rfl) (gNow P L d) hwG hF_F1.1 hI_F1.Lw h (by omega)) clX4 rfl k_30 mo_X4_bearingCells w_1536 vo_X4_bearingCells.1 vo_X4_bearingCells.2 rfl rfl (crm Rt (by decide)) (Nat.le_of_ble_eq_true rfl) dX11_row_20 rfl ?_
  rintro _ _ ⟨rfl, F2, rfl, hg_F2, hq_F2⟩
  have hK3 := hI_F1.known hF_F1 hg_F2 hq_F2
  have hI_F2 := hK3.1
  have hF_F2 := hK3.2.1
  have hX_F2 : CXF E F2 := hX_F1.tr hK3.2.2
  have : bcl (gNow P L d) h < 1099511627776 := mk40 hwG.W
  refine at_lstore_n 24 X rfl dX11_row_23 rfl (by decide) ?_
  refine at_iconst 25 X (by decide) dX11_row_24 rfl ?_
  refine at_istore 27 X dX11_row_25 rfl (by decide) ?_
  refine at_iconst 28 X (by decide) dX11_row_27 rfl ?_
  refine at_istore 30 X dX11_row_28 rfl (by decide) ?_
  refine at_iconst 31 X (by decide) dX11_row_30 rfl ?_
  refine at_istore 33 X dX11_row_31 rfl (by decide) ?_
  refine at_iconst 34 X (by decide) dX11_row_33 rfl ?_
  refine at_istore 36 X dX11_row_34 rfl (by decide) ?_
  have J36 : ∀ (f36 : Nat) (c : Nat) (lo : Nat) (fi : Int) (e : Nat), 40 - c < f36 → (c ≤ sW P) → (lo = (rwP (fun c => decide (0 < bOn (gNow P L d) h c)) c).1) → (fi = (rwP (fun c => decide (0 < bOn (gNow P L d) h c)) c).2.1) → (e = (rwP (fun c => decide (0 < bOn (gNow P L d) h c)) c).2.2) → (e ≤ c ∧ lo ≤ c) → AT g κ K2 z 2 12 36 [(0, mR 0), (2, mI x1), (3, mL ((bcl (gNow P L d) h : Nat) : Int)), (5, mI ((lo : Nat) : Int)), (6, mI fi), (7, mI ((e : Nat) : Int)), (8, mI ((c : Nat) : Int))] [] (ov F2) := by
    intro f36
    induction f36 with
    | zero => intro c lo fi e hf36; omega
    | succ f36 ih36 =>
    intro c lo fi e hf36 hc hlo hfi he hel
    refine at_iload 38 X rfl dX11_row_36 rfl ?_
    refine at_aload_n 39 X rfl rfl dX11_row_38 rfl ?_
    refine m_getM 42 X (s) f_X11_93 k_0 rn_0_15 hI_F2.now dX11_row_39 rfl ?_
    refine m_getIV 45 X ((sW P : Nat) : Int) hI_F2.S.W f_X11_181 (kX9 hs) (nX9_8 hs) dX11_row_42 rfl ?_
    have := hP.W
    refine at_icmp_ge 48 95 X dX11_row_45 rfl (by decide) (fun h45 => ?_) (fun h45 => ?_)
    · refine at_iload_n 96 X rfl rfl dX11_row_95 rfl ?_
      refine at_if_ne 99 104 X dX11_row_96 rfl (by decide) (fun h96 => ?_) (fun h96 => ?_)
      · refine at_iload 106 X rfl dX11_row_104 rfl ?_
        refine at_iret X Rt ?_ (by decide) (by decide) dX11_row_106
        exact ⟨hc0, hc1, (by (try simp only [Int.toNat_natCast]); rw [show sW P = c by omega, ← hlo, ← hfi] <;> first | rw [if_pos (show x1 = 0 by omega)] | rw [if_neg (show ¬ x1 = 0 by omega)]), _, rfl, hI_F2, hX_F2⟩
      · refine at_iload 101 X rfl dX11_row_99 rfl ?_
        refine at_goto 106 X dX11_row_101 (by decide) ?_
        refine at_iret X Rt ?_ (by decide) (by decide) dX11_row_106
        exact ⟨hc0, hc1, (by (try simp only [Int.toNat_natCast]); rw [show sW P = c by omega, ← hlo, ← hfi] <;> first | rw [if_pos (show x1 = 0 by omega)] | rw [if_neg (show ¬ x1 = 0 by omega)]), _, rfl, hI_F2, hX_F2⟩
    · have J69 : ∀ (e2 : Nat), (e2 = (if decide (0 < bOn (gNow P L d) h c) = true then e + 1 else 0)) → (e2 ≤ e + 1) → AT g κ K2 z 2 12 69 [(0, mR 0), (2, mI x1), (3, mL ((bcl (gNow P L d) h : Nat) : Int)), (5, mI ((lo : Nat) : Int)), (6, mI fi), (7, mI ((e2 : Nat) : Int)), (8, mI ((c : Nat) : Int))] [] (ov F2) := by
        intro e2 he2 he2l
        have hs : rwP (fun c => decide (0 < bOn (gNow P L d) h c)) (c + 1) = if (rwP (fun c => decide (0 < bOn (gNow P L d) h c)) c).1 < (if decide (0 < bOn (gNow P L d) h c) = true then (rwP (fun c => decide (0 < bOn (gNow P L d) h c)) c).2.2 + 1 else 0) then ((if decide (0 < bOn (gNow P L d) h c) = true then (rwP (fun c => decide (0 < bOn (gNow P L d) h c)) c).2.2 + 1 else 0), (c : Int) - (((if decide (0 < bOn (gNow P L d) h c) = true then (rwP (fun c => decide (0 < bOn (gNow P L d) h c)) c).2.2 + 1 else 0) : Nat) : Int) + 1, (if decide (0 < bOn (gNow P L d) h c) = true then (rwP (fun c => decide (0 < bOn (gNow P L d) h c)) c).2.2 + 1 else 0)) else ((rwP (fun c => decide (0 < bOn (gNow P L d) h c)) c).1, (rwP (fun c => decide (0 < bOn (gNow P L d) h c)) c).2.1, (if decide (0 < bOn (gNow P L d) h c) = true then (rwP (fun c => decide (0 < bOn (gNow P L d) h c)) c).2.2 + 1 else 0)) := rfl
        rw [← hlo, ← he, ← hfi, ← he2] at hs
        refine at_iload 71 X rfl dX11_row_69 rfl ?_
        refine at_iload 73 X rfl dX11_row_71 rfl ?_
        refine at_icmp_le 76 89 X dX11_row_73 rfl (by decide) (fun h73 => ?_) (fun h73 => ?_)
        · refine at_iincV 92 X ((c + 1 : Nat) : Int) (w32_v (by omega) (by omega) (by omega)) rfl dX11_row_89 rfl (by decide) ?_
          refine at_goto 36 X dX11_row_92 (by decide) ?_
          exact at_sub _ (by exact ⟨rfl, rfl, rfl, rfl, rfl, rfl, rfl, trivial⟩) (ih36 (c + 1) lo fi e2 (by first | omega | (simp only [] at *; omega)) (by first | omega | assumption) (by rw [hs]; first | (rw [if_neg (show ¬ lo < e2 by omega)]; done) | (rw [if_neg (show ¬ lo < e2 by omega)]; rfl) | (rw [if_pos (show lo < e2 by omega)]; done) | (rw [if_pos (show lo < e2 by omega)]; rfl)) (by rw [hs]; first | (rw [if_neg (show ¬ lo < e2 by omega)]; done) | (rw [if_neg (show ¬ lo < e2 by omega)]; rfl) | (rw [if_pos (show lo < e2 by omega)]; done) | (rw [if_pos (show lo < e2 by omega)]; rfl)) (by rw [hs]; first | (rw [if_neg (show ¬ lo < e2 by omega)]; done) | (rw [if_neg (show ¬ lo < e2 by omega)]; rfl) | (rw [if_pos (show lo < e2 by omega)]; done) | (rw [if_pos (show lo < e2 by omega)]; rfl)) (by omega))
        · refine at_iload 78 X rfl dX11_row_76 rfl ?_
          refine at_istore 80 X dX11_row_78 rfl (by decide) ?_
          refine at_iload 82 X rfl dX11_row_80 rfl ?_
          refine at_iload 84 X rfl dX11_row_82 rfl ?_
          refine at_isubV 85 X (((c : Nat) : Int) - ((e2 : Nat) : Int)) (w32_v rfl (by omega) (by omega)) dX11_row_84 rfl ?_
          refine at_iconst 86 X (by decide) dX11_row_85 rfl ?_
          refine at_iaddV 87 X ((((c : Nat) : Int) - ((e2 : Nat) : Int)) + 1) (w32_v rfl (by omega) (by omega)) dX11_row_86 rfl ?_
          refine at_istore 89 X dX11_row_87 rfl (by decide) ?_
          refine at_iincV 92 X ((c + 1 : Nat) : Int) (w32_v (by omega) (by omega) (by omega)) rfl dX11_row_89 rfl (by decide) ?_
          refine at_goto 36 X dX11_row_92 (by decide) ?_
          exact at_sub _ (by exact ⟨rfl, rfl, rfl, rfl, rfl, rfl, rfl, trivial⟩) (ih36 (c + 1) e2 ((((c : Nat) : Int) - ((e2 : Nat) : Int)) + 1) e2 (by first | omega | (simp only [] at *; omega)) (by first | omega | assumption) (by rw [hs]; first | (rw [if_neg (show ¬ lo < e2 by omega)]; done) | (rw [if_neg (show ¬ lo < e2 by omega)]; rfl) | (rw [if_pos (show lo < e2 by omega)]; done) | (rw [if_pos (show lo < e2 by omega)]; rfl)) (by rw [hs]; first | (rw [if_neg (show ¬ lo < e2 by omega)]; done) | (rw [if_neg (show ¬ lo < e2 by omega)]; rfl) | (rw [if_pos (show lo < e2 by omega)]; done) | (rw [if_pos (show lo < e2 by omega)]; rfl)) (by rw [hs]; first | (rw [if_neg (show ¬ lo < e2 by omega)]; done) | (rw [if_neg (show ¬ lo < e2 by omega)]; rfl) | (rw [if_pos (show lo < e2 by omega)]; done) | (rw [if_pos (show lo < e2 by omega)]; rfl)) (by omega))
      refine at_lload_n 49 X rfl rfl dX11_row_48 rfl ?_
      refine at_iload 51 X rfl dX11_row_49 rfl ?_
      refine at_lshrV 52 X (lshr ((bcl (gNow P L d) h : Nat) : Int) ((c : Nat) : Int)) rfl dX11_row_51 rfl ?_
      refine at_lconst 53 X (v := 1) (by decide) (by decide) dX11_row_52 rfl ?_
      refine at_landV 54 X (if decide (0 < bOn (gNow P L d) h c) = true then 1 else 0) ((lbit (by omega) (by omega)).trans (by rw [show bcl (gNow P L d) h = mk (fun c => decide (0 < bOn (gNow P L d) h c)) (gW (gNow P L d)) from rfl, mk_in (show c < gW (gNow P L d) from by have : gW (gNow P L d) = sW P := rfl; omega)])) dX11_row_53 rfl ?_
      refine at_lconst 55 X (v := 1) (by decide) (by decide) dX11_row_54 rfl ?_
      refine at_lif_ne 56 59 66 X dX11_row_55 rfl dX11_row_56 rfl (by decide) (fun h55 => ?_) (fun h55 => ?_)
      · have hq : ¬ decide (0 < bOn (gNow P L d) h c) = true := fun q => h55 (by rw [if_pos q])
        refine at_iconst 67 X (by decide) dX11_row_66 rfl ?_
        refine at_istore 69 X dX11_row_67 rfl (by decide) ?_
        exact at_sub _ (by exact ⟨rfl, rfl, rfl, rfl, rfl, rfl, rfl, trivial⟩) (J69 0 (by first | rw [if_pos (by assumption)] | rw [if_neg (by assumption)]) (by omega))
      · have hq : decide (0 < bOn (gNow P L d) h c) = true := Decidable.byContradiction (fun q => by rw [if_neg q] at h55; exact absurd h55 (by decide))
        refine at_iload 61 X rfl dX11_row_59 rfl ?_
        refine at_iconst 62 X (by decide) dX11_row_61 rfl ?_
        refine at_iaddV 63 X ((e + 1 : Nat) : Int) (w32_v (by omega) (by omega) (by omega)) dX11_row_62 rfl ?_
        refine at_goto 67 X dX11_row_63 (by decide) ?_
        refine at_istore 69 X dX11_row_67 rfl (by decide) ?_
        exact at_sub _ (by exact ⟨rfl, rfl, rfl, rfl, rfl, rfl, rfl, trivial⟩) (J69 (e + 1) (by first | rw [if_pos (by assumption)] | rw [if_neg (by assumption)]) (by omega))
  exact at_sub _ (by exact ⟨rfl, rfl, rfl, rfl, rfl, rfl, rfl, trivial⟩) (J36 _ 0 0 (-1) 0 (Nat.lt_succ_self _) (by first | omega | assumption | rfl) rfl rfl rfl (by first | omega | assumption | rfl))
