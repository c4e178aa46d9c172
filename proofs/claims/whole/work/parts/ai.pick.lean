theorem dX6_isPicked_0 : decode cX6_isPicked 0 = .ok (.aload_n 0, 1) := by decide +kernel
theorem dX6_isPicked_1 : decode cX6_isPicked 1 = .ok (.getfield 19, 3) := by decide +kernel
theorem dX6_isPicked_4 : decode cX6_isPicked 4 = .ok (.iload_n 1, 1) := by decide +kernel
theorem dX6_isPicked_5 : decode cX6_isPicked 5 = .ok (.iaload, 1) := by decide +kernel
theorem dX6_isPicked_6 : decode cX6_isPicked 6 = .ok (.iconst 0, 1) := by decide +kernel
theorem dX6_isPicked_7 : decode cX6_isPicked 7 = .ok (.aload_n 0, 1) := by decide +kernel
theorem dX6_isPicked_8 : decode cX6_isPicked 8 = .ok (.getfield 44, 3) := by decide +kernel
theorem dX6_isPicked_11 : decode cX6_isPicked 11 = .ok (.iconst 1, 1) := by decide +kernel
theorem dX6_isPicked_12 : decode cX6_isPicked 12 = .ok (.isub, 1) := by decide +kernel
theorem dX6_isPicked_13 : decode cX6_isPicked 13 = .ok (.invokestatic 128, 3) := by decide +kernel
theorem dX6_isPicked_16 : decode cX6_isPicked 16 = .ok (.ireturn, 1) := by decide +kernel
theorem ct_X6_isPicked {g : Gw} (hG : GF g) {z : Bool} (E : Mm) (m i q : Nat) (hi : i < 3) (hq : E 65 i = (q : Int)) (hq9 : q < 1000) (hm : E 62 5 = (m : Int)) (hm40 : m ≤ 40) : CT g yX6_isPicked cX6_isPicked 2 (some .boolean) 1 22 0 0 K2 z [mR 62, mI ((i : Nat) : Int)] (ov E) K2 z (fun r D' => r = some (mI (if (0 : Int) ≤ ((q : Nat) : Int) ∧ ((q : Nat) : Int) ≤ (((m : Nat) : Int) - 1) then 1 else 0)) ∧ D' = ov E) := by
  refine CT.mk hG (by decide +kernel) (Nat.le_of_ble_eq_true rfl) (fun κ X Rt _ ok => ?_)
  refine at_aload_n 1 X rfl rfl dX6_isPicked_0 rfl ?_
  refine m_getR 4 X f_X6_19 k_62 r_62_2 dX6_isPicked_1 rfl ?_
  refine at_iload_n 5 X rfl rfl dX6_isPicked_4 rfl ?_
  refine m_ialoadV 6 X i (by omega) ((q : Nat) : Int) hq k_65 e_65 (by omega) dX6_isPicked_5 rfl ?_
  refine at_iconst 7 X (by decide) dX6_isPicked_6 rfl ?_
  refine at_aload_n 8 X rfl rfl dX6_isPicked_7 rfl ?_
  refine m_getIV 11 X ((m : Nat) : Int) hm f_X6_44 k_62 rn_62_5 dX6_isPicked_8 rfl ?_
  refine at_iconst 12 X (by decide) dX6_isPicked_11 rfl ?_
  refine at_isubV 13 X (((m : Nat) : Int) - 1) (w32_v rfl (by omega) (by omega)) dX6_isPicked_12 rfl ?_
  refine at_callSN 16 X (ct_X11_isWithin hG _ _ _) mo_X11_isWithin w_1486 so_X11_isWithin rfl rfl (crm Rt (by decide)) (Nat.le_of_ble_eq_true rfl) dX6_isPicked_13 rfl ?_
  rintro _ _ ⟨rfl, rfl⟩
  refine at_zret X Rt ?_ (by first | decide | (split <;> decide)) (Nat.le_refl _) (Nat.le_refl _) dX6_isPicked_16
  exact ⟨rfl, rfl⟩
theorem dX6_pickFirst_0 : decode cX6_pickFirst 0 = .ok (.iconst 0, 1) := by decide +kernel
theorem dX6_pickFirst_1 : decode cX6_pickFirst 1 = .ok (.istore_n 2, 1) := by decide +kernel
theorem dX6_pickFirst_2 : decode cX6_pickFirst 2 = .ok (.iload_n 2, 1) := by decide +kernel
theorem dX6_pickFirst_3 : decode cX6_pickFirst 3 = .ok (.iconst 3, 1) := by decide +kernel
theorem dX6_pickFirst_4 : decode cX6_pickFirst 4 = .ok (.if_icmp .ge 16, 3) := by decide +kernel
theorem dX6_pickFirst_7 : decode cX6_pickFirst 7 = .ok (.aload_n 0, 1) := by decide +kernel
theorem dX6_pickFirst_8 : decode cX6_pickFirst 8 = .ok (.getfield 19, 3) := by decide +kernel
theorem dX6_pickFirst_11 : decode cX6_pickFirst 11 = .ok (.iload_n 2, 1) := by decide +kernel
theorem dX6_pickFirst_12 : decode cX6_pickFirst 12 = .ok (.iload_n 2, 1) := by decide +kernel
theorem dX6_pickFirst_13 : decode cX6_pickFirst 13 = .ok (.iastore, 1) := by decide +kernel
theorem dX6_pickFirst_14 : decode cX6_pickFirst 14 = .ok (.iinc 2 1, 3) := by decide +kernel
theorem dX6_pickFirst_17 : decode cX6_pickFirst 17 = .ok (.goto (-15), 3) := by decide +kernel
theorem dX6_pickFirst_20 : decode cX6_pickFirst 20 = .ok (.iload_n 1, 1) := by decide +kernel
theorem dX6_pickFirst_21 : decode cX6_pickFirst 21 = .ok (.aload_n 0, 1) := by decide +kernel
theorem dX6_pickFirst_22 : decode cX6_pickFirst 22 = .ok (.getfield 44, 3) := by decide +kernel
theorem dX6_pickFirst_25 : decode cX6_pickFirst 25 = .ok (.if_icmp .gt 12, 3) := by decide +kernel
theorem dX6_pickFirst_28 : decode cX6_pickFirst 28 = .ok (.iload_n 1, 1) := by decide +kernel
theorem dX6_pickFirst_29 : decode cX6_pickFirst 29 = .ok (.iconst 3, 1) := by decide +kernel
theorem dX6_pickFirst_30 : decode cX6_pickFirst 30 = .ok (.if_icmp .gt 7, 3) := by decide +kernel
theorem dX6_pickFirst_33 : decode cX6_pickFirst 33 = .ok (.iconst 1, 1) := by decide +kernel
theorem dX6_pickFirst_34 : decode cX6_pickFirst 34 = .ok (.goto 4, 3) := by decide +kernel
theorem dX6_pickFirst_37 : decode cX6_pickFirst 37 = .ok (.iconst 0, 1) := by decide +kernel
theorem dX6_pickFirst_38 : decode cX6_pickFirst 38 = .ok (.ireturn, 1) := by decide +kernel
theorem ct_X6_pickFirst {g : Gw} (hG : GF g) {z : Bool} (E : Mm) (m n : Nat) (hn : n ≤ 3) (hm : E 62 5 = (m : Int)) (hm40 : m ≤ 40) : CT g yX6_pickFirst cX6_pickFirst 3 (some .boolean) 0 0 0 0 K2 z [mR 62, mI ((n : Nat) : Int)] (ov E) K2 z (fun r D' => r = some (mI (if n ≤ m then 1 else 0)) ∧ ∃ E1, D' = ov E1 ∧ (∀ j, j < 3 → E1 65 j = (j : Int)) ∧ ∀ a, a ≠ 65 → E1 a = E a) := by
  refine CT.mk hG (by decide +kernel) (Nat.le_of_ble_eq_true rfl) (fun κ X Rt _ ok => ?_)
  refine at_iconst 1 X (by decide) dX6_pickFirst_0 rfl ?_
  refine at_istore_n 2 X rfl dX6_pickFirst_1 rfl (by decide) ?_
  have J2 : ∀ (f2 : Nat) (F : Mm) (i : Nat), 3 - i < f2 → (i ≤ 3) → ((∀ j, j < i → F 65 j = (j : Int))) → ((∀ a, a ≠ 65 → F a = E a)) → AT g κ K2 z 0 0 2 [(0, mR 62), (1, mI ((n : Nat) : Int)), (2, mI ((i : Nat) : Int))] [] (ov F) := by
    intro f2
    induction f2 with
    | zero => intro F i hf2; omega
    | succ f2 ih2 =>
    intro F i hf2 hi hr hf
    refine at_iload_n 3 X rfl rfl dX6_pickFirst_2 rfl ?_
    refine at_iconst 4 X (by decide) dX6_pickFirst_3 rfl ?_
    refine at_icmp_ge 7 20 X dX6_pickFirst_4 rfl (by decide) (fun h4 => ?_) (fun h4 => ?_)
    · refine at_iload_n 21 X rfl rfl dX6_pickFirst_20 rfl ?_
      refine at_aload_n 22 X rfl rfl dX6_pickFirst_21 rfl ?_
      refine m_getIV 25 X ((m : Nat) : Int) ((congrFun (hf 62 (by decide)) 5).trans hm) f_X6_44 k_62 rn_62_5 dX6_pickFirst_22 rfl ?_
      refine at_icmp_gt 28 37 X dX6_pickFirst_25 rfl (by decide) (fun h25 => ?_) (fun h25 => ?_)
      · refine at_iconst 38 X (by decide) dX6_pickFirst_37 rfl ?_
        refine at_zret X Rt ?_ (by first | decide | (split <;> decide)) (Nat.le_refl _) (Nat.le_refl _) dX6_pickFirst_38
        exact ⟨by first | (rw [if_pos (by omega)]; done) | (rw [if_neg (by omega)]; done), F, rfl, fun j hj => hr j (by omega), hf⟩
      · refine at_iload_n 29 X rfl rfl dX6_pickFirst_28 rfl ?_
        refine at_iconst 30 X (by decide) dX6_pickFirst_29 rfl ?_
        refine at_icmp_gt 33 37 X dX6_pickFirst_30 rfl (by decide) (fun h30 => ?_) (fun h30 => ?_)
        · exfalso; omega
        · refine at_iconst 34 X (by decide) dX6_pickFirst_33 rfl ?_
          refine at_goto 38 X dX6_pickFirst_34 (by decide) ?_
          refine at_zret X Rt ?_ (by first | decide | (split <;> decide)) (Nat.le_refl _) (Nat.le_refl _) dX6_pickFirst_38
          exact ⟨by first | (rw [if_pos (by omega)]; done) | (rw [if_neg (by omega)]; done), F, rfl, fun j hj => hr j (by omega), hf⟩
    · refine at_aload_n 8 X rfl rfl dX6_pickFirst_7 rfl ?_
      refine m_getR 11 X f_X6_19 k_62 r_62_2 dX6_pickFirst_8 rfl ?_
      refine at_iload_n 12 X rfl rfl dX6_pickFirst_11 rfl ?_
      refine at_iload_n 13 X rfl rfl dX6_pickFirst_12 rfl ?_
      refine m_iastoreV 14 X i (by omega) k_65 e_65 (by omega) dX6_pickFirst_13 rfl ?_
      refine at_iincV 17 X ((i + 1 : Nat) : Int) (w32_v (by omega) (by omega) (by omega)) rfl dX6_pickFirst_14 rfl (by decide) ?_
      refine at_goto 2 X dX6_pickFirst_17 (by decide) ?_
      exact at_sub _ (by exact ⟨rfl, rfl, rfl, trivial⟩) (ih2 (wr F 65 i ((i : Nat) : Int)) (i + 1) (by first | omega | (simp only [] at *; omega)) (by first | omega | assumption) (fun j hj => if e : j = i then by rw [e, wr_s] else by rw [wr_o (Or.inr e)]; exact hr j (by omega)) (fun a ha => (wr_row ha).trans (hf a ha)))
  exact at_sub _ (by exact ⟨rfl, rfl, rfl, trivial⟩) (J2 _ E 0 (Nat.lt_succ_self _) (by first | omega | assumption | rfl) (fun j hj => absurd hj (Nat.not_lt_zero j)) (fun _ _ => rfl))
theorem dX6_pickNext_0 : decode cX6_pickNext 0 = .ok (.iload_n 1, 1) := by decide +kernel
theorem dX6_pickNext_1 : decode cX6_pickNext 1 = .ok (.iconst 3, 1) := by decide +kernel
theorem dX6_pickNext_2 : decode cX6_pickNext 2 = .ok (.invokestatic 119, 3) := by decide +kernel
theorem dX6_pickNext_5 : decode cX6_pickNext 5 = .ok (.iconst 1, 1) := by decide +kernel
theorem dX6_pickNext_6 : decode cX6_pickNext 6 = .ok (.isub, 1) := by decide +kernel
theorem dX6_pickNext_7 : decode cX6_pickNext 7 = .ok (.istore_n 2, 1) := by decide +kernel
theorem dX6_pickNext_8 : decode cX6_pickNext 8 = .ok (.iload_n 2, 1) := by decide +kernel
theorem dX6_pickNext_9 : decode cX6_pickNext 9 = .ok (.ifCond .lt 26, 3) := by decide +kernel
theorem dX6_pickNext_12 : decode cX6_pickNext 12 = .ok (.aload_n 0, 1) := by decide +kernel
theorem dX6_pickNext_13 : decode cX6_pickNext 13 = .ok (.getfield 19, 3) := by decide +kernel
theorem dX6_pickNext_16 : decode cX6_pickNext 16 = .ok (.iload_n 2, 1) := by decide +kernel
theorem dX6_pickNext_17 : decode cX6_pickNext 17 = .ok (.iaload, 1) := by decide +kernel
theorem dX6_pickNext_18 : decode cX6_pickNext 18 = .ok (.aload_n 0, 1) := by decide +kernel
theorem dX6_pickNext_19 : decode cX6_pickNext 19 = .ok (.getfield 44, 3) := by decide +kernel
theorem dX6_pickNext_22 : decode cX6_pickNext 22 = .ok (.iload_n 1, 1) := by decide +kernel
theorem dX6_pickNext_23 : decode cX6_pickNext 23 = .ok (.isub, 1) := by decide +kernel
theorem dX6_pickNext_24 : decode cX6_pickNext 24 = .ok (.iload_n 2, 1) := by decide +kernel
theorem dX6_pickNext_25 : decode cX6_pickNext 25 = .ok (.iadd, 1) := by decide +kernel
theorem dX6_pickNext_26 : decode cX6_pickNext 26 = .ok (.if_icmp .lt 9, 3) := by decide +kernel
theorem dX6_pickNext_29 : decode cX6_pickNext 29 = .ok (.iinc 2 (-1), 3) := by decide +kernel
theorem dX6_pickNext_32 : decode cX6_pickNext 32 = .ok (.goto (-24), 3) := by decide +kernel
theorem dX6_pickNext_35 : decode cX6_pickNext 35 = .ok (.iload_n 2, 1) := by decide +kernel
theorem dX6_pickNext_36 : decode cX6_pickNext 36 = .ok (.ifCond .ge 5, 3) := by decide +kernel
theorem dX6_pickNext_39 : decode cX6_pickNext 39 = .ok (.iconst 0, 1) := by decide +kernel
theorem dX6_pickNext_40 : decode cX6_pickNext 40 = .ok (.ireturn, 1) := by decide +kernel
theorem dX6_pickNext_41 : decode cX6_pickNext 41 = .ok (.aload_n 0, 1) := by decide +kernel
theorem dX6_pickNext_42 : decode cX6_pickNext 42 = .ok (.getfield 19, 3) := by decide +kernel
theorem dX6_pickNext_45 : decode cX6_pickNext 45 = .ok (.iload_n 2, 1) := by decide +kernel
theorem dX6_pickNext_46 : decode cX6_pickNext 46 = .ok (.dup2, 1) := by decide +kernel
theorem dX6_pickNext_47 : decode cX6_pickNext 47 = .ok (.iaload, 1) := by decide +kernel
theorem dX6_pickNext_48 : decode cX6_pickNext 48 = .ok (.iconst 1, 1) := by decide +kernel
theorem dX6_pickNext_49 : decode cX6_pickNext 49 = .ok (.iadd, 1) := by decide +kernel
theorem dX6_pickNext_50 : decode cX6_pickNext 50 = .ok (.iastore, 1) := by decide +kernel
theorem dX6_pickNext_51 : decode cX6_pickNext 51 = .ok (.iload_n 2, 1) := by decide +kernel
theorem dX6_pickNext_52 : decode cX6_pickNext 52 = .ok (.iconst 1, 1) := by decide +kernel
theorem dX6_pickNext_53 : decode cX6_pickNext 53 = .ok (.iadd, 1) := by decide +kernel
theorem dX6_pickNext_54 : decode cX6_pickNext 54 = .ok (.istore_n 3, 1) := by decide +kernel
theorem dX6_pickNext_55 : decode cX6_pickNext 55 = .ok (.iload_n 3, 1) := by decide +kernel
theorem dX6_pickNext_56 : decode cX6_pickNext 56 = .ok (.iconst 3, 1) := by decide +kernel
theorem dX6_pickNext_57 : decode cX6_pickNext 57 = .ok (.if_icmp .ge 25, 3) := by decide +kernel
theorem dX6_pickNext_60 : decode cX6_pickNext 60 = .ok (.aload_n 0, 1) := by decide +kernel
theorem dX6_pickNext_61 : decode cX6_pickNext 61 = .ok (.getfield 19, 3) := by decide +kernel
theorem dX6_pickNext_64 : decode cX6_pickNext 64 = .ok (.iload_n 3, 1) := by decide +kernel
theorem dX6_pickNext_65 : decode cX6_pickNext 65 = .ok (.aload_n 0, 1) := by decide +kernel
theorem dX6_pickNext_66 : decode cX6_pickNext 66 = .ok (.getfield 19, 3) := by decide +kernel
theorem dX6_pickNext_69 : decode cX6_pickNext 69 = .ok (.iload_n 3, 1) := by decide +kernel
theorem dX6_pickNext_70 : decode cX6_pickNext 70 = .ok (.iconst 1, 1) := by decide +kernel
theorem dX6_pickNext_71 : decode cX6_pickNext 71 = .ok (.isub, 1) := by decide +kernel
theorem dX6_pickNext_72 : decode cX6_pickNext 72 = .ok (.iaload, 1) := by decide +kernel
theorem dX6_pickNext_73 : decode cX6_pickNext 73 = .ok (.iconst 1, 1) := by decide +kernel
theorem dX6_pickNext_74 : decode cX6_pickNext 74 = .ok (.iadd, 1) := by decide +kernel
theorem dX6_pickNext_75 : decode cX6_pickNext 75 = .ok (.iastore, 1) := by decide +kernel
theorem dX6_pickNext_76 : decode cX6_pickNext 76 = .ok (.iinc 3 1, 3) := by decide +kernel
theorem dX6_pickNext_79 : decode cX6_pickNext 79 = .ok (.goto (-24), 3) := by decide +kernel
theorem dX6_pickNext_82 : decode cX6_pickNext 82 = .ok (.iconst 1, 1) := by decide +kernel
theorem dX6_pickNext_83 : decode cX6_pickNext 83 = .ok (.ireturn, 1) := by decide +kernel
theorem ct_X6_pickNext {g : Gw} (hG : GF g) {z : Bool} (E : Mm) (m n : Nat) (q : Nat → Nat) (hn : n ≤ 3) (hq : ∀ i, i < n → E 65 i = (q i : Int) ∧ q i < m) (hm : E 62 5 = (m : Int)) (hm40 : m ≤ 40) : CT g yX6_pickNext cX6_pickNext 4 (some .boolean) 1 21 0 0 K2 z [mR 62, mI ((n : Nat) : Int)] (ov E) K2 z (fun r D' => ∃ b E1, r = some (mI b) ∧ D' = ov E1 ∧ PKN E E1 m n q b) := by
  refine CT.mk hG (by decide +kernel) (Nat.le_of_ble_eq_true rfl) (fun κ X Rt _ ok => ?_)
  refine at_iload_n 1 X rfl rfl dX6_pickNext_0 rfl ?_
  refine at_iconst 2 X (by decide) dX6_pickNext_1 rfl ?_
  refine at_minV 5 X ((n : Nat) : Int) (by split <;> omega) w_1499 (by rw [Rt.1]; exact ⟨by decide, by decide, by decide, by decide⟩) dX6_pickNext_2 rfl ?_
  refine at_iconst 6 X (by decide) dX6_pickNext_5 rfl ?_
  refine at_isubV 7 X (((n : Nat) : Int) - 1) (w32_v rfl (by omega) (by omega)) dX6_pickNext_6 rfl ?_
  refine at_istore_n 8 X rfl dX6_pickNext_7 rfl (by decide) ?_
  have J8 : ∀ (f8 : Nat) (mv : Int), (mv + 1).toNat < f8 → (-1 ≤ mv) → (mv < (n : Int)) → ((∀ k : Nat, mv < (k : Int) → k < n → m + k ≤ q k + n)) → AT g κ K2 z 0 0 8 [(0, mR 62), (1, mI ((n : Nat) : Int)), (2, mI mv)] [] (ov E) := by
    intro f8
    induction f8 with
    | zero => intro mv hf8; omega
    | succ f8 ih8 =>
    intro mv hf8 hlo hhi hx
    refine at_iload_n 9 X rfl rfl dX6_pickNext_8 rfl ?_
    refine at_if_lt 12 35 X dX6_pickNext_9 rfl (by decide) (fun h9 => ?_) (fun h9 => ?_)
    · refine at_iload_n 36 X rfl rfl dX6_pickNext_35 rfl ?_
      refine at_if_ge 39 41 X dX6_pickNext_36 rfl (by decide) (fun h36 => ?_) (fun h36 => ?_)
      · exfalso; omega
      · refine at_iconst 40 X (by decide) dX6_pickNext_39 rfl ?_
        refine at_zret X Rt ?_ (by first | decide | (split <;> decide)) (Nat.le_refl _) (Nat.le_refl _) dX6_pickNext_40
        exact ⟨0, E, rfl, rfl, fun _ _ => rfl, Or.inl ⟨rfl, fun k hk => hx k (by omega) hk⟩⟩
    · obtain ⟨v, rfl⟩ : ∃ v : Nat, mv = (v : Int) := ⟨mv.toNat, by omega⟩
      refine at_aload_n 13 X rfl rfl dX6_pickNext_12 rfl ?_
      refine m_getR 16 X f_X6_19 k_62 r_62_2 dX6_pickNext_13 rfl ?_
      refine at_iload_n 17 X rfl rfl dX6_pickNext_16 rfl ?_
      refine m_ialoadV 18 X v (by omega) ((q v : Nat) : Int) (hq v (by omega)).1 k_65 e_65 (by omega) dX6_pickNext_17 rfl ?_
      have hqv := (hq v (by omega)).2
      refine at_aload_n 19 X rfl rfl dX6_pickNext_18 rfl ?_
      refine m_getIV 22 X ((m : Nat) : Int) hm f_X6_44 k_62 rn_62_5 dX6_pickNext_19 rfl ?_
      refine at_iload_n 23 X rfl rfl dX6_pickNext_22 rfl ?_
      refine at_isubV 24 X (((m : Nat) : Int) - ((n : Nat) : Int)) (w32_v rfl (by omega) (by omega)) dX6_pickNext_23 rfl ?_
      refine at_iload_n 25 X rfl rfl dX6_pickNext_24 rfl ?_
      refine at_iaddV 26 X ((((m : Nat) : Int) - ((n : Nat) : Int)) + ((v : Nat) : Int)) (w32_v rfl (by omega) (by omega)) dX6_pickNext_25 rfl ?_
      refine at_icmp_lt 29 35 X dX6_pickNext_26 rfl (by decide) (fun h26 => ?_) (fun h26 => ?_)
      · refine at_iload_n 36 X rfl rfl dX6_pickNext_35 rfl ?_
        refine at_if_ge 39 41 X dX6_pickNext_36 rfl (by decide) (fun h36 => ?_) (fun h36 => ?_)
        · refine at_aload_n 42 X rfl rfl dX6_pickNext_41 rfl ?_
          refine m_getR 45 X f_X6_19 k_62 r_62_2 dX6_pickNext_42 rfl ?_
          refine at_iload_n 46 X rfl rfl dX6_pickNext_45 rfl ?_
          refine at_dup2 47 X (show ¬ (0 : Nat) = 1 by decide) (show ¬ (2 : Nat) = 1 by decide) dX6_pickNext_46 rfl ?_
          refine m_ialoadV 48 X v (by omega) ((q v : Nat) : Int) (hq v (by omega)).1 k_65 e_65 (by omega) dX6_pickNext_47 rfl ?_
          have hqv := (hq v (by omega)).2
          refine at_iconst 49 X (by decide) dX6_pickNext_48 rfl ?_
          refine at_iaddV 50 X ((q v + 1 : Nat) : Int) (w32_v (by omega) (by omega) (by omega)) dX6_pickNext_49 rfl ?_
          refine m_iastoreV 51 X v (by omega) k_65 e_65 (by omega) dX6_pickNext_50 rfl ?_
          refine at_iload_n 52 X rfl rfl dX6_pickNext_51 rfl ?_
          refine at_iconst 53 X (by decide) dX6_pickNext_52 rfl ?_
          refine at_iaddV 54 X ((v + 1 : Nat) : Int) (w32_v (by omega) (by omega) (by omega)) dX6_pickNext_53 rfl ?_
          refine at_istore_n 55 X rfl dX6_pickNext_54 rfl (by decide) ?_
          have J55 : ∀ (f55 : Nat) (F : Mm) (i : Nat), 3 - i < f55 → (v + 1 ≤ i ∧ i ≤ 3) → ((∀ j, j < i → F 65 j = (nxq q v j : Int))) → ((∀ a, a ≠ 65 → F a = E a)) → AT g κ K2 z 0 0 55 [(0, mR 62), (3, mI ((i : Nat) : Int))] [] (ov F) := by
            intro f55
            induction f55 with
            | zero => intro F i hf55; omega
            | succ f55 ih55 =>
            intro F i hf55 hi hr hf
            refine at_iload_n 56 X rfl rfl dX6_pickNext_55 rfl ?_
            refine at_iconst 57 X (by decide) dX6_pickNext_56 rfl ?_
            refine at_icmp_ge 60 82 X dX6_pickNext_57 rfl (by decide) (fun h57 => ?_) (fun h57 => ?_)
            · refine at_iconst 83 X (by decide) dX6_pickNext_82 rfl ?_
              refine at_zret X Rt ?_ (by first | decide | (split <;> decide)) (Nat.le_refl _) (Nat.le_refl _) dX6_pickNext_83
              exact ⟨1, F, rfl, rfl, hf, Or.inr ⟨rfl, v, by omega, by omega, fun k h1 h2 => hx k (by omega) h2, fun j hj => hr j (by omega)⟩⟩
            · refine at_aload_n 61 X rfl rfl dX6_pickNext_60 rfl ?_
              refine m_getR 64 X f_X6_19 k_62 r_62_2 dX6_pickNext_61 rfl ?_
              refine at_iload_n 65 X rfl rfl dX6_pickNext_64 rfl ?_
              refine at_aload_n 66 X rfl rfl dX6_pickNext_65 rfl ?_
              refine m_getR 69 X f_X6_19 k_62 r_62_2 dX6_pickNext_66 rfl ?_
              refine at_iload_n 70 X rfl rfl dX6_pickNext_69 rfl ?_
              refine at_iconst 71 X (by decide) dX6_pickNext_70 rfl ?_
              refine at_isubV 72 X ((i - 1 : Nat) : Int) (w32_v (by omega) (by omega) (by omega)) dX6_pickNext_71 rfl ?_
              refine m_ialoadV 73 X (i - 1) (by omega) ((nxq q v (i - 1) : Nat) : Int) (hr (i - 1) (by omega)) k_65 e_65 (by omega) dX6_pickNext_72 rfl ?_
              have hnx := nxq_hi (q := q) (v := v) (i := i - 1) (by omega)
              refine at_iconst 74 X (by decide) dX6_pickNext_73 rfl ?_
              refine at_iaddV 75 X ((nxq q v (i - 1) + 1 : Nat) : Int) (w32_v (by omega) (by omega) (by omega)) dX6_pickNext_74 rfl ?_
              refine m_iastoreV 76 X i (by omega) k_65 e_65 (by omega) dX6_pickNext_75 rfl ?_
              refine at_iincV 79 X ((i + 1 : Nat) : Int) (w32_v (by omega) (by omega) (by omega)) rfl dX6_pickNext_76 rfl (by decide) ?_
              refine at_goto 55 X dX6_pickNext_79 (by decide) ?_
              exact at_sub _ (by exact ⟨rfl, rfl, trivial⟩) (ih55 (wr F 65 i ((nxq q v (i - 1) + 1 : Nat) : Int)) (i + 1) (by first | omega | (simp only [] at *; omega)) (by first | omega | assumption) (fun j hj => if e : j = i then by rw [e, wr_s]; have h2 := nxq_hi (q := q) (v := v) (i := i) (by omega); omega else by rw [wr_o (Or.inr e)]; exact hr j (by omega)) (fun a ha => (wr_row ha).trans (hf a ha)))
          exact at_sub _ (by exact ⟨rfl, rfl, trivial⟩) (J55 _ (wr E 65 v ((q v + 1 : Nat) : Int)) (v + 1) (Nat.lt_succ_self _) (by first | omega | assumption | rfl) (fun j hj => if e : j = v then by rw [e, wr_s, nxq_hi (Nat.lt_irrefl v), Nat.sub_self, Nat.add_zero] else by rw [wr_o (Or.inr e), nxq_lo (by omega)]; exact (hq j (by omega)).1) (fun a ha => wr_row ha))
        · exfalso; omega
      · refine at_iincV 32 X (((v : Nat) : Int) - 1) (w32_v (by omega) (by omega) (by omega)) rfl dX6_pickNext_29 rfl (by decide) ?_
        refine at_goto 8 X dX6_pickNext_32 (by decide) ?_
        exact at_sub _ (by exact ⟨rfl, rfl, rfl, trivial⟩) (ih8 (((v : Nat) : Int) - 1) (by first | omega | (simp only [] at *; omega)) (by first | omega | assumption) (by first | omega | assumption) (fun k h1 h2 => if e : k = v then by rw [e]; omega else hx k (by omega) h2))
  exact at_sub _ (by exact ⟨rfl, rfl, rfl, trivial⟩) (J8 _ (((n : Nat) : Int) - 1) (Nat.lt_succ_self _) (by first | omega | assumption | rfl) (by first | omega | assumption | rfl) (fun k h1 h2 => by omega))
theorem dX6_litBy_0 : decode cX6_litBy 0 = .ok (.lload_n 2, 1) := by decide +kernel
theorem dX6_litBy_1 : decode cX6_litBy 1 = .ok (.lstore 4, 2) := by decide +kernel
theorem dX6_litBy_3 : decode cX6_litBy 3 = .ok (.iconst 0, 1) := by decide +kernel
theorem dX6_litBy_4 : decode cX6_litBy 4 = .ok (.istore 6, 2) := by decide +kernel
theorem dX6_litBy_6 : decode cX6_litBy 6 = .ok (.iload 6, 2) := by decide +kernel
theorem dX6_litBy_8 : decode cX6_litBy 8 = .ok (.iload_n 1, 1) := by decide +kernel
theorem dX6_litBy_9 : decode cX6_litBy 9 = .ok (.if_icmp .ge 45, 3) := by decide +kernel
theorem dX6_litBy_12 : decode cX6_litBy 12 = .ok (.iload 6, 2) := by decide +kernel
theorem dX6_litBy_14 : decode cX6_litBy 14 = .ok (.iconst 3, 1) := by decide +kernel
theorem dX6_litBy_15 : decode cX6_litBy 15 = .ok (.if_icmp .ge 39, 3) := by decide +kernel
theorem dX6_litBy_18 : decode cX6_litBy 18 = .ok (.lload 4, 2) := by decide +kernel
theorem dX6_litBy_20 : decode cX6_litBy 20 = .ok (.aload_n 0, 1) := by decide +kernel
theorem dX6_litBy_21 : decode cX6_litBy 21 = .ok (.iload 6, 2) := by decide +kernel
theorem dX6_litBy_23 : decode cX6_litBy 23 = .ok (.invokevirtual 124, 3) := by decide +kernel
theorem dX6_litBy_26 : decode cX6_litBy 26 = .ok (.ifCond .eq 18, 3) := by decide +kernel
theorem dX6_litBy_29 : decode cX6_litBy 29 = .ok (.aload_n 0, 1) := by decide +kernel
theorem dX6_litBy_30 : decode cX6_litBy 30 = .ok (.getfield 15, 3) := by decide +kernel
theorem dX6_litBy_33 : decode cX6_litBy 33 = .ok (.aload_n 0, 1) := by decide +kernel
theorem dX6_litBy_34 : decode cX6_litBy 34 = .ok (.getfield 19, 3) := by decide +kernel
theorem dX6_litBy_37 : decode cX6_litBy 37 = .ok (.iload 6, 2) := by decide +kernel
theorem dX6_litBy_39 : decode cX6_litBy 39 = .ok (.iaload, 1) := by decide +kernel
theorem dX6_litBy_40 : decode cX6_litBy 40 = .ok (.laload, 1) := by decide +kernel
theorem dX6_litBy_41 : decode cX6_litBy 41 = .ok (.goto 4, 3) := by decide +kernel
theorem dX6_litBy_44 : decode cX6_litBy 44 = .ok (.lconst 0, 1) := by decide +kernel
theorem dX6_litBy_45 : decode cX6_litBy 45 = .ok (.lor, 1) := by decide +kernel
theorem dX6_litBy_46 : decode cX6_litBy 46 = .ok (.lstore 4, 2) := by decide +kernel
theorem dX6_litBy_48 : decode cX6_litBy 48 = .ok (.iinc 6 1, 3) := by decide +kernel
theorem dX6_litBy_51 : decode cX6_litBy 51 = .ok (.goto (-45), 3) := by decide +kernel
theorem dX6_litBy_54 : decode cX6_litBy 54 = .ok (.lload 4, 2) := by decide +kernel
theorem dX6_litBy_56 : decode cX6_litBy 56 = .ok (.lreturn, 1) := by decide +kernel
theorem ct_X6_litBy {g : Gw} (hG : GF g) {z : Bool} (E : Mm) (m n v0 : Nat) (gr q : Nat → Nat) (hn : n ≤ 3) (hq : ∀ i, i < n → E 65 i = (q i : Int) ∧ q i < m) (hm : E 62 5 = (m : Int)) (hm40 : m ≤ 40) (hr : ∀ i, i < m → E 64 i = (gr i : Int) ∧ gr i < 1099511627776) (hv0 : v0 < 1125899906842624) : CT g yX6_litBy cX6_litBy 7 (some .long) 2 43 0 0 K2 z [mR 62, mI ((n : Nat) : Int), mL ((v0 : Nat) : Int)] (ov E) K2 z (fun r D' => r = some (mL (ltN v0 gr q n : Nat)) ∧ D' = ov E) := by
  refine CT.mk hG (by decide +kernel) (Nat.le_of_ble_eq_true rfl) (fun κ X Rt _ ok => ?_)
  refine at_lload_n 1 X rfl rfl dX6_litBy_0 rfl ?_
  refine at_lstore 3 X dX6_litBy_1 rfl (by decide) ?_
  refine at_iconst 4 X (by decide) dX6_litBy_3 rfl ?_
  refine at_istore 6 X dX6_litBy_4 rfl (by decide) ?_
  have J6 : ∀ (f6 : Nat) (i : Nat) (v : Nat), 4 - i < f6 → (i ≤ n) → (v = ltN v0 gr q i) → (v < 1125899906842624) → AT g κ K2 z 0 0 6 [(0, mR 62), (1, mI ((n : Nat) : Int)), (4, mL ((v : Nat) : Int)), (6, mI ((i : Nat) : Int))] [] (ov E) := by
    intro f6
    induction f6 with
    | zero => intro i v hf6; omega
    | succ f6 ih6 =>
    intro i v hf6 hi hv hvb
    refine at_iload 8 X rfl dX6_litBy_6 rfl ?_
    refine at_iload_n 9 X rfl rfl dX6_litBy_8 rfl ?_
    refine at_icmp_ge 12 54 X dX6_litBy_9 rfl (by decide) (fun h9 => ?_) (fun h9 => ?_)
    · refine at_lload 56 X rfl dX6_litBy_54 rfl ?_
      refine at_lret X Rt ?_ (Nat.le_refl _) (Nat.le_refl _) dX6_litBy_56
      exact ⟨by rw [hv, show i = n by omega], rfl⟩
    · refine at_iload 14 X rfl dX6_litBy_12 rfl ?_
      refine at_iconst 15 X (by decide) dX6_litBy_14 rfl ?_
      refine at_icmp_ge 18 54 X dX6_litBy_15 rfl (by decide) (fun h15 => ?_) (fun h15 => ?_)
      · refine at_lload 56 X rfl dX6_litBy_54 rfl ?_
        refine at_lret X Rt ?_ (Nat.le_refl _) (Nat.le_refl _) dX6_litBy_56
        exact ⟨by rw [hv, show i = n by omega], rfl⟩
      · have hqi := hq i (by omega)
        have hgi := (hr (q i) hqi.2).2
        refine at_lload 20 X rfl dX6_litBy_18 rfl ?_
        refine at_aload_n 21 X rfl rfl dX6_litBy_20 rfl ?_
        refine at_iload 23 X rfl dX6_litBy_21 rfl ?_
        refine at_callV 26 X _ 6 (ct_X6_isPicked hG E m i (q i) (by omega) hqi.1 (by omega) hm hm40) clX6 rfl k_62 mo_X6_isPicked w_1482 vo_X6_isPicked.1 vo_X6_isPicked.2 rfl rfl (crm Rt (by decide)) (Nat.le_of_ble_eq_true rfl) dX6_litBy_23 rfl ?_
        rintro _ _ ⟨rfl, rfl⟩
        refine at_if_eq 29 44 X dX6_litBy_26 rfl (by decide) (fun h26 => ?_) (fun h26 => ?_)
        · have h26 : ¬ ((0 : Int) ≤ ((q i : Nat) : Int) ∧ ((q i : Nat) : Int) ≤ (((m : Nat) : Int) - 1)) := ite_no.mp h26
          exfalso; omega
        · have h26 : ((0 : Int) ≤ ((q i : Nat) : Int) ∧ ((q i : Nat) : Int) ≤ (((m : Nat) : Int) - 1)) := ite_yes.mp h26
          refine at_aload_n 30 X rfl rfl dX6_litBy_29 rfl ?_
          refine m_getR 33 X f_X6_15 k_62 r_62_1 dX6_litBy_30 rfl ?_
          refine at_aload_n 34 X rfl rfl dX6_litBy_33 rfl ?_
          refine m_getR 37 X f_X6_19 k_62 r_62_2 dX6_litBy_34 rfl ?_
          refine at_iload 39 X rfl dX6_litBy_37 rfl ?_
          refine m_ialoadV 40 X i (by omega) ((q i : Nat) : Int) hqi.1 k_65 e_65 (by omega) dX6_litBy_39 rfl ?_
          refine m_laloadV 41 X (q i) (by omega) ((gr (q i) : Nat) : Int) (hr (q i) hqi.2).1 k_64 e_64 (by omega) dX6_litBy_40 rfl ?_
          refine at_goto 45 X dX6_litBy_41 (by decide) ?_
          refine at_lorV 46 X ((v ||| gr (q i) : Nat) : Int) (lor_nat (by omega) (by omega)) dX6_litBy_45 rfl ?_
          refine at_lstore 48 X dX6_litBy_46 rfl (by decide) ?_
          refine at_iincV 51 X ((i + 1 : Nat) : Int) (w32_v (by omega) (by omega) (by omega)) rfl dX6_litBy_48 rfl (by decide) ?_
          refine at_goto 6 X dX6_litBy_51 (by decide) ?_
          exact at_sub _ (by exact ⟨rfl, rfl, rfl, rfl, trivial⟩) (ih6 (i + 1) (v ||| gr (q i)) (by first | omega | (simp only [] at *; omega)) (by first | omega | assumption) (by rw [hv]; rfl) (or50 hvb hgi))
  exact at_sub _ (by exact ⟨rfl, rfl, rfl, rfl, trivial⟩) (J6 _ 0 v0 (Nat.lt_succ_self _) (by first | omega | assumption | rfl) rfl (by first | omega | assumption | rfl))
theorem dX6_digits_0 : decode cX6_digits 0 = .ok (.iconst 0, 1) := by decide +kernel
theorem dX6_digits_1 : decode cX6_digits 1 = .ok (.istore_n 2, 1) := by decide +kernel
theorem dX6_digits_2 : decode cX6_digits 2 = .ok (.iconst 0, 1) := by decide +kernel
theorem dX6_digits_3 : decode cX6_digits 3 = .ok (.istore_n 3, 1) := by decide +kernel
theorem dX6_digits_4 : decode cX6_digits 4 = .ok (.iload_n 3, 1) := by decide +kernel
theorem dX6_digits_5 : decode cX6_digits 5 = .ok (.iload_n 1, 1) := by decide +kernel
theorem dX6_digits_6 : decode cX6_digits 6 = .ok (.if_icmp .ge 43, 3) := by decide +kernel
theorem dX6_digits_9 : decode cX6_digits 9 = .ok (.iload_n 3, 1) := by decide +kernel
theorem dX6_digits_10 : decode cX6_digits 10 = .ok (.iconst 3, 1) := by decide +kernel
theorem dX6_digits_11 : decode cX6_digits 11 = .ok (.if_icmp .ge 38, 3) := by decide +kernel
theorem dX6_digits_14 : decode cX6_digits 14 = .ok (.iload_n 2, 1) := by decide +kernel
theorem dX6_digits_15 : decode cX6_digits 15 = .ok (.bipush 64, 2) := by decide +kernel
theorem dX6_digits_17 : decode cX6_digits 17 = .ok (.imul, 1) := by decide +kernel
theorem dX6_digits_18 : decode cX6_digits 18 = .ok (.aload_n 0, 1) := by decide +kernel
theorem dX6_digits_19 : decode cX6_digits 19 = .ok (.iload_n 3, 1) := by decide +kernel
theorem dX6_digits_20 : decode cX6_digits 20 = .ok (.invokevirtual 124, 3) := by decide +kernel
theorem dX6_digits_23 : decode cX6_digits 23 = .ok (.ifCond .eq 17, 3) := by decide +kernel
theorem dX6_digits_26 : decode cX6_digits 26 = .ok (.aload_n 0, 1) := by decide +kernel
theorem dX6_digits_27 : decode cX6_digits 27 = .ok (.getfield 9, 3) := by decide +kernel
theorem dX6_digits_30 : decode cX6_digits 30 = .ok (.aload_n 0, 1) := by decide +kernel
theorem dX6_digits_31 : decode cX6_digits 31 = .ok (.getfield 19, 3) := by decide +kernel
theorem dX6_digits_34 : decode cX6_digits 34 = .ok (.iload_n 3, 1) := by decide +kernel
theorem dX6_digits_35 : decode cX6_digits 35 = .ok (.iaload, 1) := by decide +kernel
theorem dX6_digits_36 : decode cX6_digits 36 = .ok (.iaload, 1) := by decide +kernel
theorem dX6_digits_37 : decode cX6_digits 37 = .ok (.goto 4, 3) := by decide +kernel
theorem dX6_digits_40 : decode cX6_digits 40 = .ok (.iconst 0, 1) := by decide +kernel
theorem dX6_digits_41 : decode cX6_digits 41 = .ok (.iadd, 1) := by decide +kernel
theorem dX6_digits_42 : decode cX6_digits 42 = .ok (.istore_n 2, 1) := by decide +kernel
theorem dX6_digits_43 : decode cX6_digits 43 = .ok (.iinc 3 1, 3) := by decide +kernel
theorem dX6_digits_46 : decode cX6_digits 46 = .ok (.goto (-42), 3) := by decide +kernel
theorem dX6_digits_49 : decode cX6_digits 49 = .ok (.iload_n 2, 1) := by decide +kernel
theorem dX6_digits_50 : decode cX6_digits 50 = .ok (.ireturn, 1) := by decide +kernel
theorem ct_X6_digits {g : Gw} (hG : GF g) {z : Bool} (E : Mm) (m n : Nat) (q pk : Nat → Nat) (hn : n ≤ 3) (hq : ∀ i, i < n → E 65 i = (q i : Int) ∧ q i < m) (hm : E 62 5 = (m : Int)) (hm40 : m ≤ 40) (hc : ∀ i, i < n → E 63 (q i) = (pk i : Int) ∧ pk i < 64) : CT g yX6_digits cX6_digits 4 (some .int) 2 43 0 0 K2 z [mR 62, mI ((n : Nat) : Int)] (ov E) K2 z (fun r D' => r = some (mI (dgN pk n : Nat)) ∧ D' = ov E) := by
  refine CT.mk hG (by decide +kernel) (Nat.le_of_ble_eq_true rfl) (fun κ X Rt _ ok => ?_)
  refine at_iconst 1 X (by decide) dX6_digits_0 rfl ?_
  refine at_istore_n 2 X rfl dX6_digits_1 rfl (by decide) ?_
  refine at_iconst 3 X (by decide) dX6_digits_2 rfl ?_
  refine at_istore_n 4 X rfl dX6_digits_3 rfl (by decide) ?_
  have J4 : ∀ (f4 : Nat) (i : Nat) (v : Nat), 4 - i < f4 → (i ≤ n) → (v = dgN pk i) → (((i = 0 ∧ v = 0) ∨ (i = 1 ∧ v < 64) ∨ (i = 2 ∧ v < 4096) ∨ (i = 3 ∧ v < 262144))) → AT g κ K2 z 0 0 4 [(0, mR 62), (1, mI ((n : Nat) : Int)), (2, mI ((v : Nat) : Int)), (3, mI ((i : Nat) : Int))] [] (ov E) := by
    intro f4
    induction f4 with
    | zero => intro i v hf4; omega
    | succ f4 ih4 =>
    intro i v hf4 hi hv hvb
    refine at_iload_n 5 X rfl rfl dX6_digits_4 rfl ?_
    refine at_iload_n 6 X rfl rfl dX6_digits_5 rfl ?_
    refine at_icmp_ge 9 49 X dX6_digits_6 rfl (by decide) (fun h6 => ?_) (fun h6 => ?_)
    · refine at_iload_n 50 X rfl rfl dX6_digits_49 rfl ?_
      refine at_iret X Rt ?_ (Nat.le_refl _) (Nat.le_refl _) dX6_digits_50
      exact ⟨by rw [hv, show i = n by omega], rfl⟩
    · refine at_iload_n 10 X rfl rfl dX6_digits_9 rfl ?_
      refine at_iconst 11 X (by decide) dX6_digits_10 rfl ?_
      refine at_icmp_ge 14 49 X dX6_digits_11 rfl (by decide) (fun h11 => ?_) (fun h11 => ?_)
      · refine at_iload_n 50 X rfl rfl dX6_digits_49 rfl ?_
        refine at_iret X Rt ?_ (Nat.le_refl _) (Nat.le_refl _) dX6_digits_50
        exact ⟨by rw [hv, show i = n by omega], rfl⟩
      · have hqi := hq i (by omega)
        have hci := hc i (by omega)
        refine at_iload_n 15 X rfl rfl dX6_digits_14 rfl ?_
        refine at_bipush 17 X (by decide) (by decide) dX6_digits_15 rfl ?_
        refine at_imulV 18 X ((v * 64 : Nat) : Int) (w32_v (by omega) (by omega) (by omega)) dX6_digits_17 rfl ?_
        refine at_aload_n 19 X rfl rfl dX6_digits_18 rfl ?_
        refine at_iload_n 20 X rfl rfl dX6_digits_19 rfl ?_
        refine at_callV 23 X _ 6 (ct_X6_isPicked hG E m i (q i) (by omega) hqi.1 (by omega) hm hm40) clX6 rfl k_62 mo_X6_isPicked w_1482 vo_X6_isPicked.1 vo_X6_isPicked.2 rfl rfl (crm Rt (by decide)) (Nat.le_of_ble_eq_true rfl) dX6_digits_20 rfl ?_
        rintro _ _ ⟨rfl, rfl⟩
        refine at_if_eq 26 40 X dX6_digits_23 rfl (by decide) (fun h23 => ?_) (fun h23 => ?_)
        · have h23 : ¬ ((0 : Int) ≤ ((q i : Nat) : Int) ∧ ((q i : Nat) : Int) ≤ (((m : Nat) : Int) - 1)) := ite_no.mp h23
          exfalso; omega
        · have h23 : ((0 : Int) ≤ ((q i : Nat) : Int) ∧ ((q i : Nat) : Int) ≤ (((m : Nat) : Int) - 1)) := ite_yes.mp h23
          refine at_aload_n 27 X rfl rfl dX6_digits_26 rfl ?_
          refine m_getR 30 X f_X6_9 k_62 r_62_0 dX6_digits_27 rfl ?_
          refine at_aload_n 31 X rfl rfl dX6_digits_30 rfl ?_
          refine m_getR 34 X f_X6_19 k_62 r_62_2 dX6_digits_31 rfl ?_
          refine at_iload_n 35 X rfl rfl dX6_digits_34 rfl ?_
          refine m_ialoadV 36 X i (by omega) ((q i : Nat) : Int) hqi.1 k_65 e_65 (by omega) dX6_digits_35 rfl ?_
          refine m_ialoadV 37 X (q i) (by omega) ((pk i : Nat) : Int) hci.1 k_63 e_63 (by omega) dX6_digits_36 rfl ?_
          refine at_goto 41 X dX6_digits_37 (by decide) ?_
          refine at_iaddV 42 X ((v * 64 + pk i : Nat) : Int) (w32_v (by omega) (by omega) (by omega)) dX6_digits_41 rfl ?_
          refine at_istore_n 43 X rfl dX6_digits_42 rfl (by decide) ?_
          refine at_iincV 46 X ((i + 1 : Nat) : Int) (w32_v (by omega) (by omega) (by omega)) rfl dX6_digits_43 rfl (by decide) ?_
          refine at_goto 4 X dX6_digits_46 (by decide) ?_
          exact at_sub _ (by exact ⟨rfl, rfl, rfl, rfl, trivial⟩) (ih4 (i + 1) (v * 64 + pk i) (by first | omega | (simp only [] at *; omega)) (by first | omega | assumption) (by rw [hv]; rfl) (by first | omega | assumption))
  exact at_sub _ (by exact ⟨rfl, rfl, rfl, rfl, trivial⟩) (J4 _ 0 0 (Nat.lt_succ_self _) (by first | omega | assumption | rfl) rfl (by first | omega | assumption | rfl))
