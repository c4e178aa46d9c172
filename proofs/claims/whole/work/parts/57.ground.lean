theorem dX4_isCloudy_0 : decode cX4_isCloudy 0 = .ok (.aload_n 0, 1) := by decide +kernel
theorem dX4_isCloudy_1 : decode cX4_isCloudy 1 = .ok (.getfield 106, 3) := by decide +kernel
theorem dX4_isCloudy_4 : decode cX4_isCloudy 4 = .ok (.iload_n 1, 1) := by decide +kernel
theorem dX4_isCloudy_5 : decode cX4_isCloudy 5 = .ok (.ishr, 1) := by decide +kernel
theorem dX4_isCloudy_6 : decode cX4_isCloudy 6 = .ok (.iconst 1, 1) := by decide +kernel
theorem dX4_isCloudy_7 : decode cX4_isCloudy 7 = .ok (.iand, 1) := by decide +kernel
theorem dX4_isCloudy_8 : decode cX4_isCloudy 8 = .ok (.iconst 1, 1) := by decide +kernel
theorem dX4_isCloudy_9 : decode cX4_isCloudy 9 = .ok (.if_icmp .ne 7, 3) := by decide +kernel
theorem dX4_isCloudy_12 : decode cX4_isCloudy 12 = .ok (.iconst 1, 1) := by decide +kernel
theorem dX4_isCloudy_13 : decode cX4_isCloudy 13 = .ok (.goto 4, 3) := by decide +kernel
theorem dX4_isCloudy_16 : decode cX4_isCloudy 16 = .ok (.iconst 0, 1) := by decide +kernel
theorem dX4_isCloudy_17 : decode cX4_isCloudy 17 = .ok (.ireturn, 1) := by decide +kernel
theorem ct_X4_isCloudy {g : Gw} (hG : GF g) {z : Bool} (E : Mm) (a : Nat) (ha : a = 30 ∨ a = 39) (C : Nat → Bool) (h : Nat) (hh : h < 24) (hC : E a 11 = (mk C 24 : Int)) : CT g yX4_isCloudy cX4_isCloudy 2 (some .boolean) 0 0 0 0 K2 z [mR a, mI ((h : Nat) : Int)] (ov E) K2 z (fun r D' => r = some (mI (if C h then 1 else 0)) ∧ D' = ov E) := by
  refine CT.mk hG (by decide +kernel) (Nat.le_of_ble_eq_true rfl) (fun κ X Rt _ ok => ?_)
  refine at_aload_n 1 X rfl rfl dX4_isCloudy_0 rfl ?_
  refine m_getIV 4 X ((mk C 24 : Nat) : Int) hC f_X4_106 (kX4 ha) (nX4_11 ha) dX4_isCloudy_1 rfl ?_
  have := mk24 (p := C) (Nat.le_refl 24)
  refine at_iload_n 5 X rfl rfl dX4_isCloudy_4 rfl ?_
  refine at_ishrV 6 X (ishr ((mk C 24 : Nat) : Int) ((h : Nat) : Int)) rfl dX4_isCloudy_5 rfl ?_
  refine at_iconst 7 X (by decide) dX4_isCloudy_6 rfl ?_
  refine at_iandV 8 X (if (mk C 24).testBit h then 1 else 0) (ibit (by omega) (by omega)) dX4_isCloudy_7 rfl ?_
  refine at_iconst 9 X (by decide) dX4_isCloudy_8 rfl ?_
  refine at_icmp_ne 12 16 X dX4_isCloudy_9 rfl (by decide) (fun h9 => ?_) (fun h9 => ?_)
  · refine at_iconst 17 X (by decide) dX4_isCloudy_16 rfl ?_
    refine at_zret X Rt ?_ (by first | decide | (split <;> decide)) (Nat.le_refl _) (Nat.le_refl _) dX4_isCloudy_17
    rw [mk_in hh] at h9
    by_cases c : C h = true
    · rw [if_pos c] at h9 ⊢; first | exact ⟨rfl, rfl⟩ | (exfalso; omega)
    · rw [if_neg c] at h9 ⊢; first | exact ⟨rfl, rfl⟩ | (exfalso; omega)
  · refine at_iconst 13 X (by decide) dX4_isCloudy_12 rfl ?_
    refine at_goto 17 X dX4_isCloudy_13 (by decide) ?_
    refine at_zret X Rt ?_ (by first | decide | (split <;> decide)) (Nat.le_refl _) (Nat.le_refl _) dX4_isCloudy_17
    rw [mk_in hh] at h9
    by_cases c : C h = true
    · rw [if_pos c] at h9 ⊢; first | exact ⟨rfl, rfl⟩ | (exfalso; omega)
    · rw [if_neg c] at h9 ⊢; first | exact ⟨rfl, rfl⟩ | (exfalso; omega)
theorem dX4_isLampLit_0 : decode cX4_isLampLit 0 = .ok (.aload_n 0, 1) := by decide +kernel
theorem dX4_isLampLit_1 : decode cX4_isLampLit 1 = .ok (.getfield 52, 3) := by decide +kernel
theorem dX4_isLampLit_4 : decode cX4_isLampLit 4 = .ok (.iload_n 1, 1) := by decide +kernel
theorem dX4_isLampLit_5 : decode cX4_isLampLit 5 = .ok (.lshr, 1) := by decide +kernel
theorem dX4_isLampLit_6 : decode cX4_isLampLit 6 = .ok (.lconst 1, 1) := by decide +kernel
theorem dX4_isLampLit_7 : decode cX4_isLampLit 7 = .ok (.land, 1) := by decide +kernel
theorem dX4_isLampLit_8 : decode cX4_isLampLit 8 = .ok (.lconst 1, 1) := by decide +kernel
theorem dX4_isLampLit_9 : decode cX4_isLampLit 9 = .ok (.lcmp, 1) := by decide +kernel
theorem dX4_isLampLit_10 : decode cX4_isLampLit 10 = .ok (.ifCond .ne 7, 3) := by decide +kernel
theorem dX4_isLampLit_13 : decode cX4_isLampLit 13 = .ok (.iconst 1, 1) := by decide +kernel
theorem dX4_isLampLit_14 : decode cX4_isLampLit 14 = .ok (.goto 4, 3) := by decide +kernel
theorem dX4_isLampLit_17 : decode cX4_isLampLit 17 = .ok (.iconst 0, 1) := by decide +kernel
theorem dX4_isLampLit_18 : decode cX4_isLampLit 18 = .ok (.ireturn, 1) := by decide +kernel
theorem ct_X4_isLampLit {g : Gw} (hG : GF g) {z : Bool} (E : Mm) (a : Nat) (ha : a = 30 ∨ a = 39) (m : Nat → Bool) (c : Nat) (hc : c < 40) (hm : E a 13 = (mk m 50 : Int)) : CT g yX4_isLampLit cX4_isLampLit 2 (some .boolean) 0 0 0 0 K2 z [mR a, mI ((c : Nat) : Int)] (ov E) K2 z (fun r D' => r = some (mI (if m c then 1 else 0)) ∧ D' = ov E) := by
  refine CT.mk hG (by decide +kernel) (Nat.le_of_ble_eq_true rfl) (fun κ X Rt _ ok => ?_)
  refine at_aload_n 1 X rfl rfl dX4_isLampLit_0 rfl ?_
  refine m_getLV 4 X ((mk m 50 : Nat) : Int) hm f_X4_52 (kX4 ha) (nX4_13 ha) dX4_isLampLit_1 rfl ?_
  have hm50 : mk m 50 < 1125899906842624 := mk_lt m 50
  refine at_iload_n 5 X rfl rfl dX4_isLampLit_4 rfl ?_
  refine at_lshrV 6 X (lshr ((mk m 50 : Nat) : Int) ((c : Nat) : Int)) rfl dX4_isLampLit_5 rfl ?_
  refine at_lconst 7 X (v := 1) (by decide) (by decide) dX4_isLampLit_6 rfl ?_
  refine at_landV 8 X (if (mk m 50).testBit c then 1 else 0) (lbit (by omega) (by omega)) dX4_isLampLit_7 rfl ?_
  refine at_lconst 9 X (v := 1) (by decide) (by decide) dX4_isLampLit_8 rfl ?_
  refine at_lif_ne 10 13 17 X dX4_isLampLit_9 rfl dX4_isLampLit_10 rfl (by decide) (fun h9 => ?_) (fun h9 => ?_)
  · refine at_iconst 18 X (by decide) dX4_isLampLit_17 rfl ?_
    refine at_zret X Rt ?_ (by first | decide | (split <;> decide)) (Nat.le_refl _) (Nat.le_refl _) dX4_isLampLit_18
    rw [mk_in (by omega)] at h9
    by_cases k : m c = true
    · rw [if_pos k] at h9 ⊢; first | exact ⟨rfl, rfl⟩ | (exfalso; omega)
    · rw [if_neg k] at h9 ⊢; first | exact ⟨rfl, rfl⟩ | (exfalso; omega)
  · refine at_iconst 14 X (by decide) dX4_isLampLit_13 rfl ?_
    refine at_goto 18 X dX4_isLampLit_14 (by decide) ?_
    refine at_zret X Rt ?_ (by first | decide | (split <;> decide)) (Nat.le_refl _) (Nat.le_refl _) dX4_isLampLit_18
    rw [mk_in (by omega)] at h9
    by_cases k : m c = true
    · rw [if_pos k] at h9 ⊢; first | exact ⟨rfl, rfl⟩ | (exfalso; omega)
    · rw [if_neg k] at h9 ⊢; first | exact ⟨rfl, rfl⟩ | (exfalso; omega)
theorem dX4_addPost_0 : decode cX4_addPost 0 = .ok (.aload_n 0, 1) := by decide +kernel
theorem dX4_addPost_1 : decode cX4_addPost 1 = .ok (.getfield 53, 3) := by decide +kernel
theorem dX4_addPost_4 : decode cX4_addPost 4 = .ok (.bipush 11, 2) := by decide +kernel
theorem dX4_addPost_6 : decode cX4_addPost 6 = .ok (.if_icmp .ge 45, 3) := by decide +kernel
theorem dX4_addPost_9 : decode cX4_addPost 9 = .ok (.aload_n 0, 1) := by decide +kernel
theorem dX4_addPost_10 : decode cX4_addPost 10 = .ok (.getfield 9, 3) := by decide +kernel
theorem dX4_addPost_13 : decode cX4_addPost 13 = .ok (.aload_n 0, 1) := by decide +kernel
theorem dX4_addPost_14 : decode cX4_addPost 14 = .ok (.getfield 53, 3) := by decide +kernel
theorem dX4_addPost_17 : decode cX4_addPost 17 = .ok (.iload_n 1, 1) := by decide +kernel
theorem dX4_addPost_18 : decode cX4_addPost 18 = .ok (.iastore, 1) := by decide +kernel
theorem dX4_addPost_19 : decode cX4_addPost 19 = .ok (.aload_n 0, 1) := by decide +kernel
theorem dX4_addPost_20 : decode cX4_addPost 20 = .ok (.getfield 15, 3) := by decide +kernel
theorem dX4_addPost_23 : decode cX4_addPost 23 = .ok (.aload_n 0, 1) := by decide +kernel
theorem dX4_addPost_24 : decode cX4_addPost 24 = .ok (.getfield 53, 3) := by decide +kernel
theorem dX4_addPost_27 : decode cX4_addPost 27 = .ok (.iload_n 2, 1) := by decide +kernel
theorem dX4_addPost_28 : decode cX4_addPost 28 = .ok (.iastore, 1) := by decide +kernel
theorem dX4_addPost_29 : decode cX4_addPost 29 = .ok (.aload_n 0, 1) := by decide +kernel
theorem dX4_addPost_30 : decode cX4_addPost 30 = .ok (.dup, 1) := by decide +kernel
theorem dX4_addPost_31 : decode cX4_addPost 31 = .ok (.getfield 56, 3) := by decide +kernel
theorem dX4_addPost_34 : decode cX4_addPost 34 = .ok (.lconst 1, 1) := by decide +kernel
theorem dX4_addPost_35 : decode cX4_addPost 35 = .ok (.iload_n 1, 1) := by decide +kernel
theorem dX4_addPost_36 : decode cX4_addPost 36 = .ok (.lshl, 1) := by decide +kernel
theorem dX4_addPost_37 : decode cX4_addPost 37 = .ok (.lor, 1) := by decide +kernel
theorem dX4_addPost_38 : decode cX4_addPost 38 = .ok (.putfield 56, 3) := by decide +kernel
theorem dX4_addPost_41 : decode cX4_addPost 41 = .ok (.aload_n 0, 1) := by decide +kernel
theorem dX4_addPost_42 : decode cX4_addPost 42 = .ok (.dup, 1) := by decide +kernel
theorem dX4_addPost_43 : decode cX4_addPost 43 = .ok (.getfield 53, 3) := by decide +kernel
theorem dX4_addPost_46 : decode cX4_addPost 46 = .ok (.iconst 1, 1) := by decide +kernel
theorem dX4_addPost_47 : decode cX4_addPost 47 = .ok (.iadd, 1) := by decide +kernel
theorem dX4_addPost_48 : decode cX4_addPost 48 = .ok (.putfield 53, 3) := by decide +kernel
theorem dX4_addPost_51 : decode cX4_addPost 51 = .ok (.return_, 1) := by decide +kernel
theorem ct_X4_addPost {g : Gw} (hG : GF g) {z : Bool} (E : Mm) (a : Nat) (ha : a = 30 ∨ a = 39) (n pm x hi : Nat) (h10 : E a 10 = (n : Int)) (hn : n < 11) (h12 : E a 12 = (pm : Int)) (hpm : pm < 1099511627776) (hx : x < 40) : CT g yX4_addPost cX4_addPost 3 none 0 0 0 0 K2 z [mR a, mI ((x : Nat) : Int), mI ((hi : Nat) : Int)] (ov E) K2 z (fun r D' => r = none ∧ D' = ov (wr (wr (wr (wr E (a + 1) n (x : Int)) (a + 2) n (hi : Int)) a 12 ((pm ||| 2 ^ x : Nat) : Int)) a 10 ((n + 1 : Nat) : Int))) := by
  refine CT.mk hG (by decide +kernel) (Nat.le_of_ble_eq_true rfl) (fun κ X Rt _ ok => ?_)
  refine at_aload_n 1 X rfl rfl dX4_addPost_0 rfl ?_
  refine m_getIV 4 X ((n : Nat) : Int) h10 f_X4_53 (kX4 ha) (nX4_10 ha) dX4_addPost_1 rfl ?_
  refine at_bipush 6 X (by decide) (by decide) dX4_addPost_4 rfl ?_
  refine at_icmp_ge 9 51 X dX4_addPost_6 rfl (by decide) (fun h6 => ?_) (fun h6 => ?_)
  · exfalso; omega
  · refine at_aload_n 10 X rfl rfl dX4_addPost_9 rfl ?_
    refine m_getR 13 X f_X4_9 (kX4 ha) (rX4_0 ha) dX4_addPost_10 rfl ?_
    refine at_aload_n 14 X rfl rfl dX4_addPost_13 rfl ?_
    refine m_getIV 17 X ((n : Nat) : Int) h10 f_X4_53 (kX4 ha) (nX4_10 ha) dX4_addPost_14 rfl ?_
    refine at_iload_n 18 X rfl rfl dX4_addPost_17 rfl ?_
    refine m_iastoreV 19 X n (by omega) (kX4_0 ha) (eX4_0 ha) (by omega) dX4_addPost_18 rfl ?_
    refine at_aload_n 20 X rfl rfl dX4_addPost_19 rfl ?_
    refine m_getR 23 X f_X4_15 (kX4 ha) (rX4_1 ha) dX4_addPost_20 rfl ?_
    refine at_aload_n 24 X rfl rfl dX4_addPost_23 rfl ?_
    refine m_getIV 27 X ((n : Nat) : Int) ((wr_o (by omega)).trans h10) f_X4_53 (kX4 ha) (nX4_10 ha) dX4_addPost_24 rfl ?_
    refine at_iload_n 28 X rfl rfl dX4_addPost_27 rfl ?_
    refine m_iastoreV 29 X n (by omega) (kX4_1 ha) (eX4_1 ha) (by omega) dX4_addPost_28 rfl ?_
    refine at_aload_n 30 X rfl rfl dX4_addPost_29 rfl ?_
    refine at_dup 31 X (show ¬ (2 : Nat) = 1 by decide) dX4_addPost_30 rfl ?_
    refine m_getLV 34 X ((pm : Nat) : Int) ((wr_o (by omega)).trans ((wr_o (by omega)).trans h12)) f_X4_56 (kX4 ha) (nX4_12 ha) dX4_addPost_31 rfl ?_
    refine at_lconst 35 X (v := 1) (by decide) (by decide) dX4_addPost_34 rfl ?_
    refine at_iload_n 36 X rfl rfl dX4_addPost_35 rfl ?_
    refine at_lshlV 37 X ((2 ^ x : Nat) : Int) (lshl1 (by omega)) dX4_addPost_36 rfl ?_
    refine at_lorV 38 X ((pm ||| 2 ^ x : Nat) : Int) (lor_nat (by omega) (by have := p2_40 hx; omega)) dX4_addPost_37 rfl ?_
    refine m_putL 41 X f_X4_56 fw_4_12 (kX4 ha) (nX4_12 ha) dX4_addPost_38 rfl ?_
    refine at_aload_n 42 X rfl rfl dX4_addPost_41 rfl ?_
    refine at_dup 43 X (show ¬ (2 : Nat) = 1 by decide) dX4_addPost_42 rfl ?_
    refine m_getIV 46 X ((n : Nat) : Int) ((wr_o (by omega)).trans ((wr_o (by omega)).trans ((wr_o (by omega)).trans h10))) f_X4_53 (kX4 ha) (nX4_10 ha) dX4_addPost_43 rfl ?_
    refine at_iconst 47 X (by decide) dX4_addPost_46 rfl ?_
    refine at_iaddV 48 X ((n + 1 : Nat) : Int) (w32_v (by omega) (by omega) (by omega)) dX4_addPost_47 rfl ?_
    refine m_putI 51 X f_X4_53 fw_4_10 (kX4 ha) (nX4_10 ha) dX4_addPost_48 rfl ?_
    refine at_vret X Rt ?_ (Nat.le_refl _) (Nat.le_refl _) dX4_addPost_51
    exact ⟨rfl, rfl⟩
theorem dX4_setLight_0 : decode cX4_setLight 0 = .ok (.aload_n 1, 1) := by decide +kernel
theorem dX4_setLight_1 : decode cX4_setLight 1 = .ok (.iload_n 3, 1) := by decide +kernel
theorem dX4_setLight_2 : decode cX4_setLight 2 = .ok (.invokevirtual 70, 3) := by decide +kernel
theorem dX4_setLight_5 : decode cX4_setLight 5 = .ok (.istore 4, 2) := by decide +kernel
theorem dX4_setLight_7 : decode cX4_setLight 7 = .ok (.aload_n 0, 1) := by decide +kernel
theorem dX4_setLight_8 : decode cX4_setLight 8 = .ok (.getfield 18, 3) := by decide +kernel
theorem dX4_setLight_11 : decode cX4_setLight 11 = .ok (.iload_n 3, 1) := by decide +kernel
theorem dX4_setLight_12 : decode cX4_setLight 12 = .ok (.iconst 0, 1) := by decide +kernel
theorem dX4_setLight_13 : decode cX4_setLight 13 = .ok (.iastore, 1) := by decide +kernel
theorem dX4_setLight_14 : decode cX4_setLight 14 = .ok (.aload_n 0, 1) := by decide +kernel
theorem dX4_setLight_15 : decode cX4_setLight 15 = .ok (.getfield 21, 3) := by decide +kernel
theorem dX4_setLight_18 : decode cX4_setLight 18 = .ok (.iload_n 3, 1) := by decide +kernel
theorem dX4_setLight_19 : decode cX4_setLight 19 = .ok (.iconst 0, 1) := by decide +kernel
theorem dX4_setLight_20 : decode cX4_setLight 20 = .ok (.iastore, 1) := by decide +kernel
theorem dX4_setLight_21 : decode cX4_setLight 21 = .ok (.aload_n 0, 1) := by decide +kernel
theorem dX4_setLight_22 : decode cX4_setLight 22 = .ok (.getfield 24, 3) := by decide +kernel
theorem dX4_setLight_25 : decode cX4_setLight 25 = .ok (.iload_n 3, 1) := by decide +kernel
theorem dX4_setLight_26 : decode cX4_setLight 26 = .ok (.iconst 0, 1) := by decide +kernel
theorem dX4_setLight_27 : decode cX4_setLight 27 = .ok (.iastore, 1) := by decide +kernel
theorem dX4_setLight_28 : decode cX4_setLight 28 = .ok (.iload 4, 2) := by decide +kernel
theorem dX4_setLight_30 : decode cX4_setLight 30 = .ok (.iconst 0, 1) := by decide +kernel
theorem dX4_setLight_31 : decode cX4_setLight 31 = .ok (.bipush 23, 2) := by decide +kernel
theorem dX4_setLight_33 : decode cX4_setLight 33 = .ok (.invokestatic 74, 3) := by decide +kernel
theorem dX4_setLight_36 : decode cX4_setLight 36 = .ok (.ifCond .eq 39, 3) := by decide +kernel
theorem dX4_setLight_39 : decode cX4_setLight 39 = .ok (.aload_n 0, 1) := by decide +kernel
theorem dX4_setLight_40 : decode cX4_setLight 40 = .ok (.getfield 18, 3) := by decide +kernel
theorem dX4_setLight_43 : decode cX4_setLight 43 = .ok (.iload_n 3, 1) := by decide +kernel
theorem dX4_setLight_44 : decode cX4_setLight 44 = .ok (.iconst 1, 1) := by decide +kernel
theorem dX4_setLight_45 : decode cX4_setLight 45 = .ok (.iastore, 1) := by decide +kernel
theorem dX4_setLight_46 : decode cX4_setLight 46 = .ok (.aload_n 0, 1) := by decide +kernel
theorem dX4_setLight_47 : decode cX4_setLight 47 = .ok (.getfield 21, 3) := by decide +kernel
theorem dX4_setLight_50 : decode cX4_setLight 50 = .ok (.iload_n 3, 1) := by decide +kernel
theorem dX4_setLight_51 : decode cX4_setLight 51 = .ok (.aload_n 1, 1) := by decide +kernel
theorem dX4_setLight_52 : decode cX4_setLight 52 = .ok (.getfield 78, 3) := by decide +kernel
theorem dX4_setLight_55 : decode cX4_setLight 55 = .ok (.iload 4, 2) := by decide +kernel
theorem dX4_setLight_57 : decode cX4_setLight 57 = .ok (.iaload, 1) := by decide +kernel
theorem dX4_setLight_58 : decode cX4_setLight 58 = .ok (.iastore, 1) := by decide +kernel
theorem dX4_setLight_59 : decode cX4_setLight 59 = .ok (.aload_n 0, 1) := by decide +kernel
theorem dX4_setLight_60 : decode cX4_setLight 60 = .ok (.getfield 24, 3) := by decide +kernel
theorem dX4_setLight_63 : decode cX4_setLight 63 = .ok (.iload_n 3, 1) := by decide +kernel
theorem dX4_setLight_64 : decode cX4_setLight 64 = .ok (.aload_n 1, 1) := by decide +kernel
theorem dX4_setLight_65 : decode cX4_setLight 65 = .ok (.getfield 81, 3) := by decide +kernel
theorem dX4_setLight_68 : decode cX4_setLight 68 = .ok (.iload 4, 2) := by decide +kernel
theorem dX4_setLight_70 : decode cX4_setLight 70 = .ok (.iaload, 1) := by decide +kernel
theorem dX4_setLight_71 : decode cX4_setLight 71 = .ok (.iastore, 1) := by decide +kernel
theorem dX4_setLight_72 : decode cX4_setLight 72 = .ok (.goto 38, 3) := by decide +kernel
theorem dX4_setLight_75 : decode cX4_setLight 75 = .ok (.iload_n 2, 1) := by decide +kernel
theorem dX4_setLight_76 : decode cX4_setLight 76 = .ok (.iconst 0, 1) := by decide +kernel
theorem dX4_setLight_77 : decode cX4_setLight 77 = .ok (.iconst 2, 1) := by decide +kernel
theorem dX4_setLight_78 : decode cX4_setLight 78 = .ok (.invokestatic 74, 3) := by decide +kernel
theorem dX4_setLight_81 : decode cX4_setLight 81 = .ok (.ifCond .eq 29, 3) := by decide +kernel
theorem dX4_setLight_84 : decode cX4_setLight 84 = .ok (.aload_n 0, 1) := by decide +kernel
theorem dX4_setLight_85 : decode cX4_setLight 85 = .ok (.getfield 18, 3) := by decide +kernel
theorem dX4_setLight_88 : decode cX4_setLight 88 = .ok (.iload_n 3, 1) := by decide +kernel
theorem dX4_setLight_89 : decode cX4_setLight 89 = .ok (.iconst 2, 1) := by decide +kernel
theorem dX4_setLight_90 : decode cX4_setLight 90 = .ok (.iastore, 1) := by decide +kernel
theorem dX4_setLight_91 : decode cX4_setLight 91 = .ok (.aload_n 0, 1) := by decide +kernel
theorem dX4_setLight_92 : decode cX4_setLight 92 = .ok (.getfield 21, 3) := by decide +kernel
theorem dX4_setLight_95 : decode cX4_setLight 95 = .ok (.iload_n 3, 1) := by decide +kernel
theorem dX4_setLight_96 : decode cX4_setLight 96 = .ok (.aload_n 1, 1) := by decide +kernel
theorem dX4_setLight_97 : decode cX4_setLight 97 = .ok (.getfield 84, 3) := by decide +kernel
theorem dX4_setLight_100 : decode cX4_setLight 100 = .ok (.iload_n 2, 1) := by decide +kernel
theorem dX4_setLight_101 : decode cX4_setLight 101 = .ok (.iaload, 1) := by decide +kernel
theorem dX4_setLight_102 : decode cX4_setLight 102 = .ok (.iastore, 1) := by decide +kernel
theorem dX4_setLight_103 : decode cX4_setLight 103 = .ok (.aload_n 0, 1) := by decide +kernel
theorem dX4_setLight_104 : decode cX4_setLight 104 = .ok (.getfield 24, 3) := by decide +kernel
theorem dX4_setLight_107 : decode cX4_setLight 107 = .ok (.iload_n 3, 1) := by decide +kernel
theorem dX4_setLight_108 : decode cX4_setLight 108 = .ok (.iconst 1, 1) := by decide +kernel
theorem dX4_setLight_109 : decode cX4_setLight 109 = .ok (.iastore, 1) := by decide +kernel
theorem dX4_setLight_110 : decode cX4_setLight 110 = .ok (.return_, 1) := by decide +kernel
theorem ct_X4_setLight {g : Gw} (hG : GF g) {z : Bool} (E : Mm) (a : Nat) (ha : a = 30 ∨ a = 39) (P : SP) (s : Nat) (hs : s = 68 ∨ s = 83) (hS : CS E s P) (hP : WS P) (mo : Int) (hmo : -1 ≤ mo ∧ mo < sM P) (h : Nat) (hh : h < 24) : CT g yX4_setLight cX4_setLight 5 none 1 22 0 0 K2 z [mR a, mR s, mI mo, mI ((h : Nat) : Int)] (ov E) K2 z (fun r D' => r = none ∧ ∃ E1, D' = ov E1 ∧ (E1 (a + 3) h = (lkP P mo h : Int) ∧ E1 (a + 4) h = (ltP P mo h : Int) ∧ E1 (a + 5) h = if lrP P mo h then 1 else 0) ∧ ∀ q j, (¬ (a + 3 ≤ q ∧ q ≤ a + 5) ∨ j ≠ h) → E1 q j = E q j) := by
  refine CT.mk hG (by decide +kernel) (Nat.le_of_ble_eq_true rfl) (fun κ X Rt _ ok => ?_)
  have hM3 := hP.M
  refine at_aload_n 1 X rfl rfl dX4_setLight_0 rfl ?_
  refine at_iload_n 2 X rfl rfl dX4_setLight_1 rfl ?_
  refine at_callV 5 X _ 9 (ct_X9_sunOf hG E P s hs hS hP h (by omega)) clX9 rfl (kX9 hs) mo_X9_sunOf w_685 vo_X9_sunOf.1 vo_X9_sunOf.2 rfl rfl (crm Rt (by decide)) (Nat.le_of_ble_eq_true rfl) dX4_setLight_2 rfl ?_
  rintro _ _ ⟨rfl, rfl⟩
  have hsu := sunP_in P h
  refine at_istore 7 X dX4_setLight_5 rfl (by decide) ?_
  refine at_aload_n 8 X rfl rfl dX4_setLight_7 rfl ?_
  refine m_getR 11 X f_X4_18 (kX4 ha) (rX4_2 ha) dX4_setLight_8 rfl ?_
  refine at_iload_n 12 X rfl rfl dX4_setLight_11 rfl ?_
  refine at_iconst 13 X (by decide) dX4_setLight_12 rfl ?_
  refine m_iastoreV 14 X h (by omega) (kX4_2 ha) (eX4_2 ha) (by omega) dX4_setLight_13 rfl ?_
  refine at_aload_n 15 X rfl rfl dX4_setLight_14 rfl ?_
  refine m_getR 18 X f_X4_21 (kX4 ha) (rX4_3 ha) dX4_setLight_15 rfl ?_
  refine at_iload_n 19 X rfl rfl dX4_setLight_18 rfl ?_
  refine at_iconst 20 X (by decide) dX4_setLight_19 rfl ?_
  refine m_iastoreV 21 X h (by omega) (kX4_3 ha) (eX4_3 ha) (by omega) dX4_setLight_20 rfl ?_
  refine at_aload_n 22 X rfl rfl dX4_setLight_21 rfl ?_
  refine m_getR 25 X f_X4_24 (kX4 ha) (rX4_4 ha) dX4_setLight_22 rfl ?_
  refine at_iload_n 26 X rfl rfl dX4_setLight_25 rfl ?_
  refine at_iconst 27 X (by decide) dX4_setLight_26 rfl ?_
  refine m_iastoreV 28 X h (by omega) (kX4_4 ha) (eX4_4 ha) (by omega) dX4_setLight_27 rfl ?_
  refine at_iload 30 X rfl dX4_setLight_28 rfl ?_
  refine at_iconst 31 X (by decide) dX4_setLight_30 rfl ?_
  refine at_bipush 33 X (by decide) (by decide) dX4_setLight_31 rfl ?_
  refine at_callSN 36 X (ct_X11_isWithin hG _ _ _) mo_X11_isWithin w_689 so_X11_isWithin rfl rfl (crm Rt (by decide)) (Nat.le_of_ble_eq_true rfl) dX4_setLight_33 rfl ?_
  rintro _ _ ⟨rfl, rfl⟩
  refine at_if_eq 39 75 X dX4_setLight_36 rfl (by decide) (fun h36 => ?_) (fun h36 => ?_)
  · have h36 : ¬ (0 ≤ sunP P h ∧ sunP P h ≤ 23) := ite_no.mp h36
    refine at_iload_n 76 X rfl rfl dX4_setLight_75 rfl ?_
    refine at_iconst 77 X (by decide) dX4_setLight_76 rfl ?_
    refine at_iconst 78 X (by decide) dX4_setLight_77 rfl ?_
    refine at_callSN 81 X (ct_X11_isWithin hG _ _ _) mo_X11_isWithin w_689 so_X11_isWithin rfl rfl (crm Rt (by decide)) (Nat.le_of_ble_eq_true rfl) dX4_setLight_78 rfl ?_
    rintro _ _ ⟨rfl, rfl⟩
    refine at_if_eq 84 110 X dX4_setLight_81 rfl (by decide) (fun h81 => ?_) (fun h81 => ?_)
    · have h81 : ¬ (0 ≤ mo ∧ mo ≤ 2) := ite_no.mp h81
      refine at_vret X Rt ?_ (Nat.le_refl _) (Nat.le_refl _) dX4_setLight_110
      refine ⟨rfl, _, rfl, ⟨?_, ?_, ?_⟩, fun q j hq => ?_⟩
      · simp (disch := omega) only [wr_s, wr_o]
        unfold lkP
        first | (rw [if_pos (by omega)]; rfl) | (rw [if_neg (by omega), if_pos (by omega)]; rfl) | (rw [if_neg (by omega), if_neg (by omega)]; rfl)
      · simp (disch := omega) only [wr_s, wr_o]
        unfold ltP
        first | (rw [if_pos (by omega)]; omega) | (rw [if_neg (by omega), if_pos (by omega)]) | (rw [if_neg (by omega), if_neg (by omega)]; rfl)
      · simp (disch := omega) only [wr_s, wr_o]
        first
          | rw [show lrP P mo h = sSw P (sunP P h).toNat from if_pos (by omega)]
          | (rw [show lrP P mo h = true from by unfold lrP; rw [if_neg (by omega), decide_eq_true (by omega)]]; rfl)
          | (rw [show lrP P mo h = false from by unfold lrP; rw [if_neg (by omega), decide_eq_false (by omega)]]; rfl)
      · rcases hq with hq | hq
        · simp (disch := omega) only [wr_o]
        · simp (disch := omega) only [wr_o]
    · have h81 : (0 ≤ mo ∧ mo ≤ 2) := ite_yes.mp h81
      refine at_aload_n 85 X rfl rfl dX4_setLight_84 rfl ?_
      refine m_getR 88 X f_X4_18 (kX4 ha) (rX4_2 ha) dX4_setLight_85 rfl ?_
      refine at_iload_n 89 X rfl rfl dX4_setLight_88 rfl ?_
      refine at_iconst 90 X (by decide) dX4_setLight_89 rfl ?_
      refine m_iastoreV 91 X h (by omega) (kX4_2 ha) (eX4_2 ha) (by omega) dX4_setLight_90 rfl ?_
      refine at_aload_n 92 X rfl rfl dX4_setLight_91 rfl ?_
      refine m_getR 95 X f_X4_21 (kX4 ha) (rX4_3 ha) dX4_setLight_92 rfl ?_
      refine at_iload_n 96 X rfl rfl dX4_setLight_95 rfl ?_
      refine at_aload_n 97 X rfl rfl dX4_setLight_96 rfl ?_
      refine m_getR 100 X f_X4_84 (kX9 hs) (rX9_6 hs) dX4_setLight_97 rfl ?_
      refine at_iload_n 101 X rfl rfl dX4_setLight_100 rfl ?_
      refine m_ialoadV 102 X mo.toNat (by omega) ((sMn P mo.toNat : Nat) : Int) ((wr_o (by omega)).trans ((wr_o (by omega)).trans ((wr_o (by omega)).trans ((wr_o (by omega)).trans (hS.Mn (m := mo.toNat) (by omega)))))) (kX9_6 hs) (eX9_6 hs) (by omega) dX4_setLight_101 rfl ?_
      have := hP.Mn (m := mo.toNat) (by omega)
      refine m_iastoreV 103 X h (by omega) (kX4_3 ha) (eX4_3 ha) (by omega) dX4_setLight_102 rfl ?_
      refine at_aload_n 104 X rfl rfl dX4_setLight_103 rfl ?_
      refine m_getR 107 X f_X4_24 (kX4 ha) (rX4_4 ha) dX4_setLight_104 rfl ?_
      refine at_iload_n 108 X rfl rfl dX4_setLight_107 rfl ?_
      refine at_iconst 109 X (by decide) dX4_setLight_108 rfl ?_
      refine m_iastoreV 110 X h (by omega) (kX4_4 ha) (eX4_4 ha) (by omega) dX4_setLight_109 rfl ?_
      refine at_vret X Rt ?_ (Nat.le_refl _) (Nat.le_refl _) dX4_setLight_110
      refine ⟨rfl, _, rfl, ⟨?_, ?_, ?_⟩, fun q j hq => ?_⟩
      · simp (disch := omega) only [wr_s, wr_o]
        unfold lkP
        first | (rw [if_pos (by omega)]; rfl) | (rw [if_neg (by omega), if_pos (by omega)]; rfl) | (rw [if_neg (by omega), if_neg (by omega)]; rfl)
      · simp (disch := omega) only [wr_s, wr_o]
        unfold ltP
        first | (rw [if_pos (by omega)]; omega) | (rw [if_neg (by omega), if_pos (by omega)]) | (rw [if_neg (by omega), if_neg (by omega)]; rfl)
      · simp (disch := omega) only [wr_s, wr_o]
        first
          | rw [show lrP P mo h = sSw P (sunP P h).toNat from if_pos (by omega)]
          | (rw [show lrP P mo h = true from by unfold lrP; rw [if_neg (by omega), decide_eq_true (by omega)]]; rfl)
          | (rw [show lrP P mo h = false from by unfold lrP; rw [if_neg (by omega), decide_eq_false (by omega)]]; rfl)
      · rcases hq with hq | hq
        · simp (disch := omega) only [wr_o]
        · simp (disch := omega) only [wr_o]
  · have h36 : (0 ≤ sunP P h ∧ sunP P h ≤ 23) := ite_yes.mp h36
    refine at_aload_n 40 X rfl rfl dX4_setLight_39 rfl ?_
    refine m_getR 43 X f_X4_18 (kX4 ha) (rX4_2 ha) dX4_setLight_40 rfl ?_
    refine at_iload_n 44 X rfl rfl dX4_setLight_43 rfl ?_
    refine at_iconst 45 X (by decide) dX4_setLight_44 rfl ?_
    refine m_iastoreV 46 X h (by omega) (kX4_2 ha) (eX4_2 ha) (by omega) dX4_setLight_45 rfl ?_
    refine at_aload_n 47 X rfl rfl dX4_setLight_46 rfl ?_
    refine m_getR 50 X f_X4_21 (kX4 ha) (rX4_3 ha) dX4_setLight_47 rfl ?_
    refine at_iload_n 51 X rfl rfl dX4_setLight_50 rfl ?_
    refine at_aload_n 52 X rfl rfl dX4_setLight_51 rfl ?_
    refine m_getR 55 X f_X4_78 (kX9 hs) (rX9_2 hs) dX4_setLight_52 rfl ?_
    refine at_iload 57 X rfl dX4_setLight_55 rfl ?_
    have hso := sunP_ok (P := P) (h := h) (by omega)
    refine m_ialoadV 58 X ((sunP P h).toNat) (by omega) (sSl P ((sunP P h).toNat)) ((wr_o (by omega)).trans ((wr_o (by omega)).trans ((wr_o (by omega)).trans ((wr_o (by omega)).trans (hS.Sl (t := (sunP P h).toNat) (by omega)))))) (kX9_2 hs) (eX9_2 hs) (by omega) dX4_setLight_57 rfl ?_
    have := hP.Sl (t := (sunP P h).toNat) (by omega)
    refine m_iastoreV 59 X h (by omega) (kX4_3 ha) (eX4_3 ha) (by omega) dX4_setLight_58 rfl ?_
    refine at_aload_n 60 X rfl rfl dX4_setLight_59 rfl ?_
    refine m_getR 63 X f_X4_24 (kX4 ha) (rX4_4 ha) dX4_setLight_60 rfl ?_
    refine at_iload_n 64 X rfl rfl dX4_setLight_63 rfl ?_
    refine at_aload_n 65 X rfl rfl dX4_setLight_64 rfl ?_
    refine m_getR 68 X f_X4_81 (kX9 hs) (rX9_3 hs) dX4_setLight_65 rfl ?_
    refine at_iload 70 X rfl dX4_setLight_68 rfl ?_
    refine m_ialoadV 71 X ((sunP P h).toNat) (by omega) (if sSw P ((sunP P h).toNat) then 1 else 0) ((wr_o (by omega)).trans ((wr_o (by omega)).trans ((wr_o (by omega)).trans ((wr_o (by omega)).trans ((wr_o (by omega)).trans (hS.Sw (t := (sunP P h).toNat) (by omega) (by omega))))))) (kX9_3 hs) (eX9_3 hs) (by omega) dX4_setLight_70 rfl ?_
    refine m_iastoreV 72 X h (by omega) (kX4_4 ha) (eX4_4 ha) (by omega) dX4_setLight_71 rfl ?_
    refine at_goto 110 X dX4_setLight_72 (by decide) ?_
    refine at_vret X Rt ?_ (Nat.le_refl _) (Nat.le_refl _) dX4_setLight_110
    refine ⟨rfl, _, rfl, ⟨?_, ?_, ?_⟩, fun q j hq => ?_⟩
    · simp (disch := omega) only [wr_s, wr_o]
      unfold lkP
      first | (rw [if_pos (by omega)]; rfl) | (rw [if_neg (by omega), if_pos (by omega)]; rfl) | (rw [if_neg (by omega), if_neg (by omega)]; rfl)
    · simp (disch := omega) only [wr_s, wr_o]
      unfold ltP
      first | (rw [if_pos (by omega)]; omega) | (rw [if_neg (by omega), if_pos (by omega)]) | (rw [if_neg (by omega), if_neg (by omega)]; rfl)
    · simp (disch := omega) only [wr_s, wr_o]
      first
        | rw [show lrP P mo h = sSw P (sunP P h).toNat from if_pos (by omega)]
        | (rw [show lrP P mo h = true from by unfold lrP; rw [if_neg (by omega), decide_eq_true (by omega)]]; rfl)
        | (rw [show lrP P mo h = false from by unfold lrP; rw [if_neg (by omega), decide_eq_false (by omega)]]; rfl)
    · rcases hq with hq | hq
      · simp (disch := omega) only [wr_o]
      · simp (disch := omega) only [wr_o]
/-- cells of the posts, so far -/
def pcm (P : SP) : Nat → Nat := itr (fun p v => v ||| 2 ^ sX P p) 0
theorem pcm_lt {P : SP} (hP : WS P) : ∀ {i : Nat}, i ≤ sN P → pcm P i < 1099511627776
  | 0, _ => by show (0 : Nat) < 1099511627776; decide
  | i + 1, h => by
    have h1 := pcm_lt hP (i := i) (by omega)
    have h2 := hP.X (p := i) (by omega)
    have h3 := hP.W
    exact or40 h1 (p2_40 (by omega))
theorem pcm_mk {P : SP} (hP : WS P) (mo : Int) (L : LW) : pcm P (sN P) = mk (isP (gOf P mo L)) 40 := by
  refine mk_eq (pcm_lt hP (Nat.le_refl _)) (fun j _ => ?_)
  have key : ∀ n : Nat, (itr (fun p v => v ||| 2 ^ sX P p) 0 n).testBit j = itr (fun p v => v || decide (sX P p = j)) false n := by
    intro n
    induction n with
    | zero => rw [itr_0, itr_0, Nat.zero_testBit]
    | succ n ih => rw [itr_s, itr_s, Nat.testBit_or, ih, Nat.testBit_two_pow]
  exact key (sN P)
def CKd (E : Mm) (a : Nat) (P : SP) (mo : Int) : Prop := ∀ t, t < 24 → E (a + 3) t = (lkP P mo t : Int)
theorem dX4_takeStreet_0 : decode cX4_takeStreet 0 = .ok (.aload_n 0, 1) := by decide +kernel
theorem dX4_takeStreet_1 : decode cX4_takeStreet 1 = .ok (.aload_n 2, 1) := by decide +kernel
theorem dX4_takeStreet_2 : decode cX4_takeStreet 2 = .ok (.putfield 37, 3) := by decide +kernel
theorem dX4_takeStreet_5 : decode cX4_takeStreet 5 = .ok (.aload_n 0, 1) := by decide +kernel
theorem dX4_takeStreet_6 : decode cX4_takeStreet 6 = .ok (.aload_n 1, 1) := by decide +kernel
theorem dX4_takeStreet_7 : decode cX4_takeStreet 7 = .ok (.getfield 41, 3) := by decide +kernel
theorem dX4_takeStreet_10 : decode cX4_takeStreet 10 = .ok (.putfield 47, 3) := by decide +kernel
theorem dX4_takeStreet_13 : decode cX4_takeStreet 13 = .ok (.aload_n 0, 1) := by decide +kernel
theorem dX4_takeStreet_14 : decode cX4_takeStreet 14 = .ok (.aload_n 1, 1) := by decide +kernel
theorem dX4_takeStreet_15 : decode cX4_takeStreet 15 = .ok (.getfield 48, 3) := by decide +kernel
theorem dX4_takeStreet_18 : decode cX4_takeStreet 18 = .ok (.putfield 52, 3) := by decide +kernel
theorem dX4_takeStreet_21 : decode cX4_takeStreet 21 = .ok (.aload_n 0, 1) := by decide +kernel
theorem dX4_takeStreet_22 : decode cX4_takeStreet 22 = .ok (.iconst 0, 1) := by decide +kernel
theorem dX4_takeStreet_23 : decode cX4_takeStreet 23 = .ok (.putfield 53, 3) := by decide +kernel
theorem dX4_takeStreet_26 : decode cX4_takeStreet 26 = .ok (.aload_n 0, 1) := by decide +kernel
theorem dX4_takeStreet_27 : decode cX4_takeStreet 27 = .ok (.lconst 0, 1) := by decide +kernel
theorem dX4_takeStreet_28 : decode cX4_takeStreet 28 = .ok (.putfield 56, 3) := by decide +kernel
theorem dX4_takeStreet_31 : decode cX4_takeStreet 31 = .ok (.iconst 0, 1) := by decide +kernel
theorem dX4_takeStreet_32 : decode cX4_takeStreet 32 = .ok (.istore 4, 2) := by decide +kernel
theorem dX4_takeStreet_34 : decode cX4_takeStreet 34 = .ok (.iload 4, 2) := by decide +kernel
theorem dX4_takeStreet_36 : decode cX4_takeStreet 36 = .ok (.aload_n 1, 1) := by decide +kernel
theorem dX4_takeStreet_37 : decode cX4_takeStreet 37 = .ok (.getfield 59, 3) := by decide +kernel
theorem dX4_takeStreet_40 : decode cX4_takeStreet 40 = .ok (.if_icmp .ge 27, 3) := by decide +kernel
theorem dX4_takeStreet_43 : decode cX4_takeStreet 43 = .ok (.aload_n 0, 1) := by decide +kernel
theorem dX4_takeStreet_44 : decode cX4_takeStreet 44 = .ok (.aload_n 1, 1) := by decide +kernel
theorem dX4_takeStreet_45 : decode cX4_takeStreet 45 = .ok (.getfield 60, 3) := by decide +kernel
theorem dX4_takeStreet_48 : decode cX4_takeStreet 48 = .ok (.iload 4, 2) := by decide +kernel
theorem dX4_takeStreet_50 : decode cX4_takeStreet 50 = .ok (.iaload, 1) := by decide +kernel
theorem dX4_takeStreet_51 : decode cX4_takeStreet 51 = .ok (.aload_n 1, 1) := by decide +kernel
theorem dX4_takeStreet_52 : decode cX4_takeStreet 52 = .ok (.getfield 61, 3) := by decide +kernel
theorem dX4_takeStreet_55 : decode cX4_takeStreet 55 = .ok (.iload 4, 2) := by decide +kernel
theorem dX4_takeStreet_57 : decode cX4_takeStreet 57 = .ok (.iaload, 1) := by decide +kernel
theorem dX4_takeStreet_58 : decode cX4_takeStreet 58 = .ok (.invokevirtual 62, 3) := by decide +kernel
theorem dX4_takeStreet_61 : decode cX4_takeStreet 61 = .ok (.iinc 4 1, 3) := by decide +kernel
theorem dX4_takeStreet_64 : decode cX4_takeStreet 64 = .ok (.goto (-30), 3) := by decide +kernel
theorem dX4_takeStreet_67 : decode cX4_takeStreet 67 = .ok (.iconst 0, 1) := by decide +kernel
theorem dX4_takeStreet_68 : decode cX4_takeStreet 68 = .ok (.istore 4, 2) := by decide +kernel
theorem dX4_takeStreet_70 : decode cX4_takeStreet 70 = .ok (.iload 4, 2) := by decide +kernel
theorem dX4_takeStreet_72 : decode cX4_takeStreet 72 = .ok (.bipush 24, 2) := by decide +kernel
theorem dX4_takeStreet_74 : decode cX4_takeStreet 74 = .ok (.if_icmp .ge 17, 3) := by decide +kernel
theorem dX4_takeStreet_77 : decode cX4_takeStreet 77 = .ok (.aload_n 0, 1) := by decide +kernel
theorem dX4_takeStreet_78 : decode cX4_takeStreet 78 = .ok (.aload_n 1, 1) := by decide +kernel
theorem dX4_takeStreet_79 : decode cX4_takeStreet 79 = .ok (.iload_n 3, 1) := by decide +kernel
theorem dX4_takeStreet_80 : decode cX4_takeStreet 80 = .ok (.iload 4, 2) := by decide +kernel
theorem dX4_takeStreet_82 : decode cX4_takeStreet 82 = .ok (.invokevirtual 66, 3) := by decide +kernel
theorem dX4_takeStreet_85 : decode cX4_takeStreet 85 = .ok (.iinc 4 1, 3) := by decide +kernel
theorem dX4_takeStreet_88 : decode cX4_takeStreet 88 = .ok (.goto (-18), 3) := by decide +kernel
theorem dX4_takeStreet_91 : decode cX4_takeStreet 91 = .ok (.return_, 1) := by decide +kernel
theorem ct_X4_takeStreet {g : Gw} (hG : GF g) {z : Bool} (E : Mm) (a : Nat) (ha : a = 30 ∨ a = 39) (P : SP) (s : Nat) (hs : s = 68 ∨ s = 83) (hS : CS E s P) (hP : WS P) (L : LW) (mo : Int) (hmo : -1 ≤ mo ∧ mo < sM P) : CT g yX4_takeStreet cX4_takeStreet 5 none 2 46 0 0 K2 z [mR a, mR s, mR 4, mI mo] (ov E) K2 z (fun r D' => r = none ∧ ∃ E1, D' = ov E1 ∧ CG0 E1 a (gOf P mo L) ∧ CKd E1 a P mo ∧ ∀ q, ¬ (a ≤ q ∧ q ≤ a + 8) → E1 q = E q) := by
  refine CT.mk hG (by decide +kernel) (Nat.le_of_ble_eq_true rfl) (fun κ X Rt _ ok => ?_)
  have hN10 := hP.N
  have hW40 := hP.W
  refine at_aload_n 1 X rfl rfl dX4_takeStreet_0 rfl ?_
  refine at_aload_n 2 X rfl rfl dX4_takeStreet_1 rfl ?_
  refine m_putR 5 X f_X4_37 fw_4_8 (kX4 ha) (nX4_8 ha) dX4_takeStreet_2 rfl ?_
  refine at_aload_n 6 X rfl rfl dX4_takeStreet_5 rfl ?_
  refine at_aload_n 7 X rfl rfl dX4_takeStreet_6 rfl ?_
  refine m_getIV 10 X ((sW P : Nat) : Int) ((wr_o (by omega)).trans hS.W) f_X4_41 (kX9 hs) (nX9_8 hs) dX4_takeStreet_7 rfl ?_
  have := hP.W
  refine m_putI 13 X f_X4_47 fw_4_9 (kX4 ha) (nX4_9 ha) dX4_takeStreet_10 rfl ?_
  refine at_aload_n 14 X rfl rfl dX4_takeStreet_13 rfl ?_
  refine at_aload_n 15 X rfl rfl dX4_takeStreet_14 rfl ?_
  refine m_getLV 18 X ((mk (sLc P) 50 : Nat) : Int) ((wr_o (by omega)).trans ((wr_o (by omega)).trans hS.Lc)) f_X4_48 (kX9 hs) (nX9_16 hs) dX4_takeStreet_15 rfl ?_
  have := mk_lt (sLc P) 50
  refine m_putL 21 X f_X4_52 fw_4_13 (kX4 ha) (nX4_13 ha) dX4_takeStreet_18 rfl ?_
  refine at_aload_n 22 X rfl rfl dX4_takeStreet_21 rfl ?_
  refine at_iconst 23 X (by decide) dX4_takeStreet_22 rfl ?_
  refine m_putI 26 X f_X4_53 fw_4_10 (kX4 ha) (nX4_10 ha) dX4_takeStreet_23 rfl ?_
  refine at_aload_n 27 X rfl rfl dX4_takeStreet_26 rfl ?_
  refine at_lconst 28 X (v := 0) (by decide) (by decide) dX4_takeStreet_27 rfl ?_
  refine m_putL 31 X f_X4_56 fw_4_12 (kX4 ha) (nX4_12 ha) dX4_takeStreet_28 rfl ?_
  refine at_iconst 32 X (by decide) dX4_takeStreet_31 rfl ?_
  refine at_istore 34 X dX4_takeStreet_32 rfl (by decide) ?_
  have J34 : ∀ (f34 : Nat) (E1 : Mm) (i : Nat), 10 - i < f34 → i ≤ sN P → E1 a 8 = 4 → E1 a 9 = (sW P : Int) → E1 a 13 = (mk (sLc P) 50 : Int) → E1 a 10 = (i : Int) → E1 a 12 = (pcm P i : Int) → (∀ p, p < i → E1 (a + 1) p = (sX P p : Int)) → (∀ p, p < i → E1 (a + 2) p = (sH P p : Int)) → (∀ q, ¬ (a ≤ q ∧ q ≤ a + 8) → E1 q = E q) → AT g κ K2 z 0 0 34 [(0, mR a), (1, mR s), (3, mI mo), (4, mI ((i : Nat) : Int))] [] (ov E1) := by
    intro f34
    induction f34 with
    | zero => intro E1 i hf34; omega
    | succ f34 ih34 =>
    intro E1 i hf34 hi h8 h9 h13 h10 h12 hr1 hr2 hf
    refine at_iload 36 X rfl dX4_takeStreet_34 rfl ?_
    have hS1 : CS E1 s P := hS.fr (fun q _ _ => hf q (by omega))
    refine at_aload_n 37 X rfl rfl dX4_takeStreet_36 rfl ?_
    refine m_getIV 40 X ((sN P : Nat) : Int) hS1.N f_X4_59 (kX9 hs) (nX9_10 hs) dX4_takeStreet_37 rfl ?_
    have := hP.N
    refine at_icmp_ge 43 67 X dX4_takeStreet_40 rfl (by decide) (fun h40 => ?_) (fun h40 => ?_)
    · refine at_iconst 68 X (by decide) dX4_takeStreet_67 rfl ?_
      refine at_istore 70 X dX4_takeStreet_68 rfl (by decide) ?_
      have J70 : ∀ (f70 : Nat) (E2 : Mm) (h : Nat), 24 - h < f70 → h ≤ 24 → E2 a = E1 a → E2 (a + 1) = E1 (a + 1) → E2 (a + 2) = E1 (a + 2) → (∀ t, t < h → E2 (a + 3) t = (lkP P mo t : Int) ∧ E2 (a + 4) t = (ltP P mo t : Int) ∧ E2 (a + 5) t = if lrP P mo t then 1 else 0) → (∀ q, ¬ (a ≤ q ∧ q ≤ a + 8) → E2 q = E q) → AT g κ K2 z 0 0 70 [(0, mR a), (1, mR s), (3, mI mo), (4, mI ((h : Nat) : Int))] [] (ov E2) := by
        intro f70
        induction f70 with
        | zero => intro E2 h hf70; omega
        | succ f70 ih70 =>
        intro E2 h hf70 hh e0 e1 e2 hlt hf2
        refine at_iload 72 X rfl dX4_takeStreet_70 rfl ?_
        refine at_bipush 74 X (by decide) (by decide) dX4_takeStreet_72 rfl ?_
        refine at_icmp_ge 77 91 X dX4_takeStreet_74 rfl (by decide) (fun h74 => ?_) (fun h74 => ?_)
        · refine at_vret X Rt ?_ (Nat.le_refl _) (Nat.le_refl _) dX4_takeStreet_91
          have hh24 : h = 24 := by omega
          subst hh24
          refine ⟨rfl, E2, rfl, ⟨?_, ?_, ?_, ?_, ?_, fun p hp => ⟨?_, ?_⟩, fun t ht => ⟨(hlt t ht).2.1, (hlt t ht).2.2⟩⟩, fun t ht => (hlt t ht).1, hf2⟩
          · rw [e0]; exact h8
          · rw [e0]; exact h9
          · rw [e0, h10, show i = sN P by omega]; rfl
          · rw [e0, h12, show i = sN P by omega, pcm_mk hP mo L]
          · rw [e0]; exact h13
          · rw [e1]; exact hr1 p (by have : p < sN P := hp; omega)
          · rw [e2]; exact hr2 p (by have : p < sN P := hp; omega)
        · have hS2 : CS E2 s P := hS.fr (fun q _ _ => hf2 q (by omega))
          refine at_aload_n 78 X rfl rfl dX4_takeStreet_77 rfl ?_
          refine at_aload_n 79 X rfl rfl dX4_takeStreet_78 rfl ?_
          refine at_iload_n 80 X rfl rfl dX4_takeStreet_79 rfl ?_
          refine at_iload 82 X rfl dX4_takeStreet_80 rfl ?_
          refine at_callV 85 X _ 4 (ct_X4_setLight hG E2 a ha P s hs hS2 hP mo hmo h (by omega)) clX4 rfl (kX4 ha) mo_X4_setLight w_681 vo_X4_setLight.1 vo_X4_setLight.2 rfl rfl (crm Rt (by decide)) (Nat.le_of_ble_eq_true rfl) dX4_takeStreet_82 rfl ?_
          rintro _ _ ⟨rfl, E3, rfl, hl3, hq3⟩
          refine at_iincV 88 X ((h + 1 : Nat) : Int) (w32_v (by omega) (by omega) (by omega)) rfl dX4_takeStreet_85 rfl (by decide) ?_
          refine at_goto 70 X dX4_takeStreet_88 (by decide) ?_
          exact at_sub _ (by exact ⟨rfl, rfl, rfl, rfl, trivial⟩) (ih70 E3 (h + 1) (by first | omega | (simp only [] at *; omega)) (by first | omega | assumption) (by rw [← e0]; exact funext fun j => hq3 _ j (by omega)) (by rw [← e1]; exact funext fun j => hq3 _ j (by omega)) (by rw [← e2]; exact funext fun j => hq3 _ j (by omega)) (fun t ht => if c : t = h then by subst c; exact hl3 else by have := hlt t (by omega); rw [hq3 (a + 3) t (by omega), hq3 (a + 4) t (by omega), hq3 (a + 5) t (by omega)]; exact this) (fun q hq => (funext fun j => hq3 q j (by omega)).trans (hf2 q hq)))
      exact at_sub _ (by exact ⟨rfl, rfl, rfl, rfl, trivial⟩) (J70 _ E1 0 (Nat.lt_succ_self _) (by first | omega | assumption | rfl) rfl rfl rfl (fun p hp => absurd hp (Nat.not_lt_zero p)) hf)
    · refine at_aload_n 44 X rfl rfl dX4_takeStreet_43 rfl ?_
      refine at_aload_n 45 X rfl rfl dX4_takeStreet_44 rfl ?_
      refine m_getR 48 X f_X4_60 (kX9 hs) (rX9_0 hs) dX4_takeStreet_45 rfl ?_
      refine at_iload 50 X rfl dX4_takeStreet_48 rfl ?_
      refine m_ialoadV 51 X i (by omega) ((sX P i : Nat) : Int) (hS1.X (p := i) (by omega)) (kX9_0 hs) (eX9_0 hs) (by omega) dX4_takeStreet_50 rfl ?_
      have := hP.X (p := i) (by omega)
      refine at_aload_n 52 X rfl rfl dX4_takeStreet_51 rfl ?_
      refine m_getR 55 X f_X4_61 (kX9 hs) (rX9_1 hs) dX4_takeStreet_52 rfl ?_
      refine at_iload 57 X rfl dX4_takeStreet_55 rfl ?_
      refine m_ialoadV 58 X i (by omega) ((sH P i : Nat) : Int) (hS1.H (p := i) (by omega)) (kX9_1 hs) (eX9_1 hs) (by omega) dX4_takeStreet_57 rfl ?_
      have := hP.H (p := i) (by omega)
      refine at_callV 61 X _ 4 (ct_X4_addPost hG E1 a ha i (pcm P i) (sX P i) (sH P i) h10 (by omega) h12 (pcm_lt hP (by omega)) (by omega)) clX4 rfl (kX4 ha) mo_X4_addPost w_677 vo_X4_addPost.1 vo_X4_addPost.2 rfl rfl (crm Rt (by decide)) (Nat.le_of_ble_eq_true rfl) dX4_takeStreet_58 rfl ?_
      rintro _ _ ⟨rfl, rfl⟩
      refine at_iincV 64 X ((i + 1 : Nat) : Int) (w32_v (by omega) (by omega) (by omega)) rfl dX4_takeStreet_61 rfl (by decide) ?_
      refine at_goto 34 X dX4_takeStreet_64 (by decide) ?_
      exact at_sub _ (by exact ⟨rfl, rfl, rfl, rfl, trivial⟩) (ih34 (wr (wr (wr (wr E1 (a + 1) i ((sX P i : Nat) : Int)) (a + 2) i ((sH P i : Nat) : Int)) a 12 ((pcm P i ||| 2 ^ (sX P i) : Nat) : Int)) a 10 ((i + 1 : Nat) : Int)) (i + 1) (by first | omega | (simp only [] at *; omega)) (by first | omega | assumption) (by simp (disch := omega) only [wr_s, wr_o]; first | rfl | assumption | (try exact h8)) (by simp (disch := omega) only [wr_s, wr_o]; first | rfl | assumption | (try exact h9)) (by simp (disch := omega) only [wr_s, wr_o]; first | rfl | assumption | (try exact h13)) (by simp (disch := omega) only [wr_s, wr_o]; first | rfl | assumption | (try exact h10)) (by simp (disch := omega) only [wr_s, wr_o]; first | rfl | assumption | (try exact h12)) (by rw [wr_row (by omega), wr_row (by omega), wr_row (by omega)]; exact row_ext hr1 rfl) (by rw [wr_row (by omega), wr_row (by omega)]; exact row_ext (by intro p hp; rw [wr_row (by omega)]; exact hr2 p hp) rfl) (fun q hq => by simp (disch := omega) only [wr_row]; exact hf q hq))
  exact at_sub _ (by exact ⟨rfl, rfl, rfl, rfl, trivial⟩) (J34 _ (wr (wr (wr (wr (wr E a 8 ((4 : Nat) : Int)) a 9 ((sW P : Nat) : Int)) a 13 ((mk (sLc P) 50 : Nat) : Int)) a 10 0) a 12 0) 0 (Nat.lt_succ_self _) (by first | omega | assumption | rfl) (by simp (disch := omega) only [wr_s, wr_o]; try rfl) (by simp (disch := omega) only [wr_s, wr_o]; try rfl) (by simp (disch := omega) only [wr_s, wr_o]; try rfl) (by simp (disch := omega) only [wr_s, wr_o]; try rfl) (by simp (disch := omega) only [wr_s, wr_o]; try rfl) (fun p hp => absurd hp (Nat.not_lt_zero p)) (fun p hp => absurd hp (Nat.not_lt_zero p)) (fun q hq => by simp (disch := omega) only [wr_row]))
