theorem dX2_note_0 : decode cX2_note 0 = .ok (.aload_n 0, 1) := by decide +kernel
theorem dX2_note_1 : decode cX2_note 1 = .ok (.getfield 24, 3) := by decide +kernel
theorem dX2_note_4 : decode cX2_note 4 = .ok (.bipush 20, 2) := by decide +kernel
theorem dX2_note_6 : decode cX2_note 6 = .ok (.if_icmp .lt 5, 3) := by decide +kernel
theorem dX2_note_9 : decode cX2_note 9 = .ok (.iconst 0, 1) := by decide +kernel
theorem dX2_note_10 : decode cX2_note 10 = .ok (.ireturn, 1) := by decide +kernel
theorem dX2_note_11 : decode cX2_note 11 = .ok (.aload_n 0, 1) := by decide +kernel
theorem dX2_note_12 : decode cX2_note 12 = .ok (.getfield 9, 3) := by decide +kernel
theorem dX2_note_15 : decode cX2_note 15 = .ok (.aload_n 0, 1) := by decide +kernel
theorem dX2_note_16 : decode cX2_note 16 = .ok (.getfield 24, 3) := by decide +kernel
theorem dX2_note_19 : decode cX2_note 19 = .ok (.iload_n 1, 1) := by decide +kernel
theorem dX2_note_20 : decode cX2_note 20 = .ok (.iastore, 1) := by decide +kernel
theorem dX2_note_21 : decode cX2_note 21 = .ok (.aload_n 0, 1) := by decide +kernel
theorem dX2_note_22 : decode cX2_note 22 = .ok (.getfield 15, 3) := by decide +kernel
theorem dX2_note_25 : decode cX2_note 25 = .ok (.aload_n 0, 1) := by decide +kernel
theorem dX2_note_26 : decode cX2_note 26 = .ok (.getfield 24, 3) := by decide +kernel
theorem dX2_note_29 : decode cX2_note 29 = .ok (.iload_n 2, 1) := by decide +kernel
theorem dX2_note_30 : decode cX2_note 30 = .ok (.iastore, 1) := by decide +kernel
theorem dX2_note_31 : decode cX2_note 31 = .ok (.aload_n 0, 1) := by decide +kernel
theorem dX2_note_32 : decode cX2_note 32 = .ok (.getfield 18, 3) := by decide +kernel
theorem dX2_note_35 : decode cX2_note 35 = .ok (.aload_n 0, 1) := by decide +kernel
theorem dX2_note_36 : decode cX2_note 36 = .ok (.getfield 24, 3) := by decide +kernel
theorem dX2_note_39 : decode cX2_note 39 = .ok (.iload_n 3, 1) := by decide +kernel
theorem dX2_note_40 : decode cX2_note 40 = .ok (.iastore, 1) := by decide +kernel
theorem dX2_note_41 : decode cX2_note 41 = .ok (.aload_n 0, 1) := by decide +kernel
theorem dX2_note_42 : decode cX2_note 42 = .ok (.getfield 21, 3) := by decide +kernel
theorem dX2_note_45 : decode cX2_note 45 = .ok (.aload_n 0, 1) := by decide +kernel
theorem dX2_note_46 : decode cX2_note 46 = .ok (.getfield 24, 3) := by decide +kernel
theorem dX2_note_49 : decode cX2_note 49 = .ok (.iload 4, 2) := by decide +kernel
theorem dX2_note_51 : decode cX2_note 51 = .ok (.iastore, 1) := by decide +kernel
theorem dX2_note_52 : decode cX2_note 52 = .ok (.aload_n 0, 1) := by decide +kernel
theorem dX2_note_53 : decode cX2_note 53 = .ok (.dup, 1) := by decide +kernel
theorem dX2_note_54 : decode cX2_note 54 = .ok (.getfield 24, 3) := by decide +kernel
theorem dX2_note_57 : decode cX2_note 57 = .ok (.iconst 1, 1) := by decide +kernel
theorem dX2_note_58 : decode cX2_note 58 = .ok (.iadd, 1) := by decide +kernel
theorem dX2_note_59 : decode cX2_note 59 = .ok (.putfield 24, 3) := by decide +kernel
theorem dX2_note_62 : decode cX2_note 62 = .ok (.iconst 1, 1) := by decide +kernel
theorem dX2_note_63 : decode cX2_note 63 = .ok (.ireturn, 1) := by decide +kernel
theorem ct_X2_note {g : Gw} (hG : GF g) {z : Bool} (E : Mm) (c : Nat) (hc20 : c ≤ 20) (hc : E 24 4 = (c : Int)) (k q a v : Int) : CT g yX2_note cX2_note 5 (some .boolean) 0 0 0 0 K2 z [mR 24, mI k, mI q, mI a, mI v] (ov E) K2 z (fun r D' => r = some (mI (if c < 20 then 1 else 0)) ∧ D' = ov (if c < 20 then noteE E c k q a v else E)) := by
  refine CT.mk hG (by decide +kernel) (Nat.le_of_ble_eq_true rfl) (fun κ X Rt _ ok => ?_)
  refine at_aload_n 1 X rfl rfl dX2_note_0 rfl ?_
  refine m_getIV 4 X ((c : Nat) : Int) hc f_X2_24 k_24 rn_24_4 dX2_note_1 rfl ?_
  refine at_bipush 6 X (by decide) (by decide) dX2_note_4 rfl ?_
  refine at_icmp_lt 9 11 X dX2_note_6 rfl (by decide) (fun h6 => ?_) (fun h6 => ?_)
  · refine at_aload_n 12 X rfl rfl dX2_note_11 rfl ?_
    refine m_getR 15 X f_X2_9 k_24 r_24_0 dX2_note_12 rfl ?_
    refine at_aload_n 16 X rfl rfl dX2_note_15 rfl ?_
    refine m_getIV 19 X ((c : Nat) : Int) hc f_X2_24 k_24 rn_24_4 dX2_note_16 rfl ?_
    refine at_iload_n 20 X rfl rfl dX2_note_19 rfl ?_
    refine m_iastoreV 21 X c (by omega) k_25 e_25 (by omega) dX2_note_20 rfl ?_
    refine at_aload_n 22 X rfl rfl dX2_note_21 rfl ?_
    refine m_getR 25 X f_X2_15 k_24 r_24_1 dX2_note_22 rfl ?_
    refine at_aload_n 26 X rfl rfl dX2_note_25 rfl ?_
    refine m_getIV 29 X ((c : Nat) : Int) ((wr_o (by omega)).trans hc) f_X2_24 k_24 rn_24_4 dX2_note_26 rfl ?_
    refine at_iload_n 30 X rfl rfl dX2_note_29 rfl ?_
    refine m_iastoreV 31 X c (by omega) k_26 e_26 (by omega) dX2_note_30 rfl ?_
    refine at_aload_n 32 X rfl rfl dX2_note_31 rfl ?_
    refine m_getR 35 X f_X2_18 k_24 r_24_2 dX2_note_32 rfl ?_
    refine at_aload_n 36 X rfl rfl dX2_note_35 rfl ?_
    refine m_getIV 39 X ((c : Nat) : Int) ((wr_o (by omega)).trans ((wr_o (by omega)).trans hc)) f_X2_24 k_24 rn_24_4 dX2_note_36 rfl ?_
    refine at_iload_n 40 X rfl rfl dX2_note_39 rfl ?_
    refine m_iastoreV 41 X c (by omega) k_27 e_27 (by omega) dX2_note_40 rfl ?_
    refine at_aload_n 42 X rfl rfl dX2_note_41 rfl ?_
    refine m_getR 45 X f_X2_21 k_24 r_24_3 dX2_note_42 rfl ?_
    refine at_aload_n 46 X rfl rfl dX2_note_45 rfl ?_
    refine m_getIV 49 X ((c : Nat) : Int) ((wr_o (by omega)).trans ((wr_o (by omega)).trans ((wr_o (by omega)).trans hc))) f_X2_24 k_24 rn_24_4 dX2_note_46 rfl ?_
    refine at_iload 51 X rfl dX2_note_49 rfl ?_
    refine m_iastoreV 52 X c (by omega) k_28 e_28 (by omega) dX2_note_51 rfl ?_
    refine at_aload_n 53 X rfl rfl dX2_note_52 rfl ?_
    refine at_dup 54 X (show ¬ (2 : Nat) = 1 by decide) dX2_note_53 rfl ?_
    refine m_getIV 57 X ((c : Nat) : Int) ((wr_o (by omega)).trans ((wr_o (by omega)).trans ((wr_o (by omega)).trans ((wr_o (by omega)).trans hc)))) f_X2_24 k_24 rn_24_4 dX2_note_54 rfl ?_
    refine at_iconst 58 X (by decide) dX2_note_57 rfl ?_
    refine at_iaddV 59 X ((c + 1 : Nat) : Int) (w32_v (by omega) (by omega) (by omega)) dX2_note_58 rfl ?_
    refine m_putI 62 X f_X2_24 fw_2_4 k_24 rn_24_4 dX2_note_59 rfl ?_
    refine at_iconst 63 X (by decide) dX2_note_62 rfl ?_
    refine at_zret X Rt ?_ (by first | decide | (split <;> decide)) (Nat.le_refl _) (Nat.le_refl _) dX2_note_63
    exact ⟨by rw [if_pos (by omega)], by rw [if_pos (by omega)]; rfl⟩
  · refine at_iconst 10 X (by decide) dX2_note_9 rfl ?_
    refine at_zret X Rt ?_ (by first | decide | (split <;> decide)) (Nat.le_refl _) (Nat.le_refl _) dX2_note_10
    exact ⟨by rw [if_neg (by omega)], by rw [if_neg (by omega)]⟩
theorem dX2_copyFrom_0 : decode cX2_copyFrom 0 = .ok (.aload_n 0, 1) := by decide +kernel
theorem dX2_copyFrom_1 : decode cX2_copyFrom 1 = .ok (.aload_n 1, 1) := by decide +kernel
theorem dX2_copyFrom_2 : decode cX2_copyFrom 2 = .ok (.getfield 24, 3) := by decide +kernel
theorem dX2_copyFrom_5 : decode cX2_copyFrom 5 = .ok (.putfield 24, 3) := by decide +kernel
theorem dX2_copyFrom_8 : decode cX2_copyFrom 8 = .ok (.aload_n 1, 1) := by decide +kernel
theorem dX2_copyFrom_9 : decode cX2_copyFrom 9 = .ok (.getfield 9, 3) := by decide +kernel
theorem dX2_copyFrom_12 : decode cX2_copyFrom 12 = .ok (.iconst 0, 1) := by decide +kernel
theorem dX2_copyFrom_13 : decode cX2_copyFrom 13 = .ok (.aload_n 0, 1) := by decide +kernel
theorem dX2_copyFrom_14 : decode cX2_copyFrom 14 = .ok (.getfield 9, 3) := by decide +kernel
theorem dX2_copyFrom_17 : decode cX2_copyFrom 17 = .ok (.iconst 0, 1) := by decide +kernel
theorem dX2_copyFrom_18 : decode cX2_copyFrom 18 = .ok (.bipush 20, 2) := by decide +kernel
theorem dX2_copyFrom_20 : decode cX2_copyFrom 20 = .ok (.invokestatic 46, 3) := by decide +kernel
theorem dX2_copyFrom_23 : decode cX2_copyFrom 23 = .ok (.aload_n 1, 1) := by decide +kernel
theorem dX2_copyFrom_24 : decode cX2_copyFrom 24 = .ok (.getfield 15, 3) := by decide +kernel
theorem dX2_copyFrom_27 : decode cX2_copyFrom 27 = .ok (.iconst 0, 1) := by decide +kernel
theorem dX2_copyFrom_28 : decode cX2_copyFrom 28 = .ok (.aload_n 0, 1) := by decide +kernel
theorem dX2_copyFrom_29 : decode cX2_copyFrom 29 = .ok (.getfield 15, 3) := by decide +kernel
theorem dX2_copyFrom_32 : decode cX2_copyFrom 32 = .ok (.iconst 0, 1) := by decide +kernel
theorem dX2_copyFrom_33 : decode cX2_copyFrom 33 = .ok (.bipush 20, 2) := by decide +kernel
theorem dX2_copyFrom_35 : decode cX2_copyFrom 35 = .ok (.invokestatic 46, 3) := by decide +kernel
theorem dX2_copyFrom_38 : decode cX2_copyFrom 38 = .ok (.aload_n 1, 1) := by decide +kernel
theorem dX2_copyFrom_39 : decode cX2_copyFrom 39 = .ok (.getfield 18, 3) := by decide +kernel
theorem dX2_copyFrom_42 : decode cX2_copyFrom 42 = .ok (.iconst 0, 1) := by decide +kernel
theorem dX2_copyFrom_43 : decode cX2_copyFrom 43 = .ok (.aload_n 0, 1) := by decide +kernel
theorem dX2_copyFrom_44 : decode cX2_copyFrom 44 = .ok (.getfield 18, 3) := by decide +kernel
theorem dX2_copyFrom_47 : decode cX2_copyFrom 47 = .ok (.iconst 0, 1) := by decide +kernel
theorem dX2_copyFrom_48 : decode cX2_copyFrom 48 = .ok (.bipush 20, 2) := by decide +kernel
theorem dX2_copyFrom_50 : decode cX2_copyFrom 50 = .ok (.invokestatic 46, 3) := by decide +kernel
theorem dX2_copyFrom_53 : decode cX2_copyFrom 53 = .ok (.aload_n 1, 1) := by decide +kernel
theorem dX2_copyFrom_54 : decode cX2_copyFrom 54 = .ok (.getfield 21, 3) := by decide +kernel
theorem dX2_copyFrom_57 : decode cX2_copyFrom 57 = .ok (.iconst 0, 1) := by decide +kernel
theorem dX2_copyFrom_58 : decode cX2_copyFrom 58 = .ok (.aload_n 0, 1) := by decide +kernel
theorem dX2_copyFrom_59 : decode cX2_copyFrom 59 = .ok (.getfield 21, 3) := by decide +kernel
theorem dX2_copyFrom_62 : decode cX2_copyFrom 62 = .ok (.iconst 0, 1) := by decide +kernel
theorem dX2_copyFrom_63 : decode cX2_copyFrom 63 = .ok (.bipush 20, 2) := by decide +kernel
theorem dX2_copyFrom_65 : decode cX2_copyFrom 65 = .ok (.invokestatic 46, 3) := by decide +kernel
theorem dX2_copyFrom_68 : decode cX2_copyFrom 68 = .ok (.return_, 1) := by decide +kernel
theorem ct_X2_copyFrom {g : Gw} (hG : GF g) {z : Bool} (E : Mm) (a b : Nat) (ha : a = 24 ∨ a = 102 ∨ a = 111 ∨ a = 120) (hb : b = 24 ∨ b = 102 ∨ b = 111 ∨ b = 120) : CT g yX2_copyFrom cX2_copyFrom 2 none 1 24 0 0 K2 z [mR a, mR b] (ov E) K2 z (fun r D' => r = none ∧ D' = ov (cpy (cpy (cpy (cpy (wr E a 4 (E b 4)) (b + 1) (a + 1) 0 0 20) (b + 2) (a + 2) 0 0 20) (b + 3) (a + 3) 0 0 20) (b + 4) (a + 4) 0 0 20)) := by
  refine CT.mk hG (by decide +kernel) (Nat.le_of_ble_eq_true rfl) (fun κ X Rt _ ok => ?_)
  refine at_aload_n 1 X rfl rfl dX2_copyFrom_0 rfl ?_
  refine at_aload_n 2 X rfl rfl dX2_copyFrom_1 rfl ?_
  refine m_getIV 5 X (E b 4) rfl f_X2_24 (kX2 hb) (nX2_4 hb) dX2_copyFrom_2 rfl ?_
  refine m_putI 8 X f_X2_24 fw_2_4 (kX2 ha) (nX2_4 ha) dX2_copyFrom_5 rfl ?_
  refine at_aload_n 9 X rfl rfl dX2_copyFrom_8 rfl ?_
  refine m_getR 12 X f_X2_9 (kX2 hb) (rX2_0 hb) dX2_copyFrom_9 rfl ?_
  refine at_iconst 13 X (by decide) dX2_copyFrom_12 rfl ?_
  refine at_aload_n 14 X rfl rfl dX2_copyFrom_13 rfl ?_
  refine m_getR 17 X f_X2_9 (kX2 ha) (rX2_0 ha) dX2_copyFrom_14 rfl ?_
  refine at_iconst 18 X (by decide) dX2_copyFrom_17 rfl ?_
  refine at_bipush 20 X (by decide) (by decide) dX2_copyFrom_18 rfl ?_
  refine m_copyI 23 X (sp := 0) (dp := 0) (n := 20) rfl rfl rfl (kX2_0 hb) (eX2_0 hb) (kX2_0 ha) (eX2_0 ha) (by decide) (by decide) (by decide) (by decide) w_833 (by rw [Rt.1]; decide) (by rw [Rt.1]; decide) dX2_copyFrom_20 rfl ?_
  refine at_aload_n 24 X rfl rfl dX2_copyFrom_23 rfl ?_
  refine m_getR 27 X f_X2_15 (kX2 hb) (rX2_1 hb) dX2_copyFrom_24 rfl ?_
  refine at_iconst 28 X (by decide) dX2_copyFrom_27 rfl ?_
  refine at_aload_n 29 X rfl rfl dX2_copyFrom_28 rfl ?_
  refine m_getR 32 X f_X2_15 (kX2 ha) (rX2_1 ha) dX2_copyFrom_29 rfl ?_
  refine at_iconst 33 X (by decide) dX2_copyFrom_32 rfl ?_
  refine at_bipush 35 X (by decide) (by decide) dX2_copyFrom_33 rfl ?_
  refine m_copyI 38 X (sp := 0) (dp := 0) (n := 20) rfl rfl rfl (kX2_1 hb) (eX2_1 hb) (kX2_1 ha) (eX2_1 ha) (by decide) (by decide) (by decide) (by decide) w_833 (by rw [Rt.1]; decide) (by rw [Rt.1]; decide) dX2_copyFrom_35 rfl ?_
  refine at_aload_n 39 X rfl rfl dX2_copyFrom_38 rfl ?_
  refine m_getR 42 X f_X2_18 (kX2 hb) (rX2_2 hb) dX2_copyFrom_39 rfl ?_
  refine at_iconst 43 X (by decide) dX2_copyFrom_42 rfl ?_
  refine at_aload_n 44 X rfl rfl dX2_copyFrom_43 rfl ?_
  refine m_getR 47 X f_X2_18 (kX2 ha) (rX2_2 ha) dX2_copyFrom_44 rfl ?_
  refine at_iconst 48 X (by decide) dX2_copyFrom_47 rfl ?_
  refine at_bipush 50 X (by decide) (by decide) dX2_copyFrom_48 rfl ?_
  refine m_copyI 53 X (sp := 0) (dp := 0) (n := 20) rfl rfl rfl (kX2_2 hb) (eX2_2 hb) (kX2_2 ha) (eX2_2 ha) (by decide) (by decide) (by decide) (by decide) w_833 (by rw [Rt.1]; decide) (by rw [Rt.1]; decide) dX2_copyFrom_50 rfl ?_
  refine at_aload_n 54 X rfl rfl dX2_copyFrom_53 rfl ?_
  refine m_getR 57 X f_X2_21 (kX2 hb) (rX2_3 hb) dX2_copyFrom_54 rfl ?_
  refine at_iconst 58 X (by decide) dX2_copyFrom_57 rfl ?_
  refine at_aload_n 59 X rfl rfl dX2_copyFrom_58 rfl ?_
  refine m_getR 62 X f_X2_21 (kX2 ha) (rX2_3 ha) dX2_copyFrom_59 rfl ?_
  refine at_iconst 63 X (by decide) dX2_copyFrom_62 rfl ?_
  refine at_bipush 65 X (by decide) (by decide) dX2_copyFrom_63 rfl ?_
  refine m_copyI 68 X (sp := 0) (dp := 0) (n := 20) rfl rfl rfl (kX2_3 hb) (eX2_3 hb) (kX2_3 ha) (eX2_3 ha) (by decide) (by decide) (by decide) (by decide) w_833 (by rw [Rt.1]; decide) (by rw [Rt.1]; decide) dX2_copyFrom_65 rfl ?_
  refine at_vret X Rt ?_ (Nat.le_refl _) (Nat.le_refl _) dX2_copyFrom_68
  exact ⟨rfl, rfl⟩
theorem cpy_o {D : Mm} {a b n q j : Nat} (h : q ≠ b) : cpy D a b 0 0 n q j = D q j := congrFun (cpy_row h) j
theorem ch_copied {E : Mm} {a b : Nat} {C : CHt} (hab : a + 4 < b ∨ b + 4 < a) (h : CCh E b C) (hC : C.1 ≤ 20) : CCh (cpy (cpy (cpy (cpy (wr E a 4 (E b 4)) (b + 1) (a + 1) 0 0 20) (b + 2) (a + 2) 0 0 20) (b + 3) (a + 3) 0 0 20) (b + 4) (a + 4) 0 0 20) a C ∧ ∀ q, ¬ (a ≤ q ∧ q ≤ a + 4) → (cpy (cpy (cpy (cpy (wr E a 4 (E b 4)) (b + 1) (a + 1) 0 0 20) (b + 2) (a + 2) 0 0 20) (b + 3) (a + 3) 0 0 20) (b + 4) (a + 4) 0 0 20) q = E q := by
  refine ⟨⟨?_, fun k hk => ?_⟩, fun q hq => ?_⟩
  · simp (disch := omega) only [cpy_o, wr_s]; exact h.1
  · have := h.2 k hk
    refine ⟨?_, ?_, ?_, ?_⟩
    · rw [cpy_o (by omega), cpy_o (by omega), cpy_o (by omega), cpy_0 (by omega), wr_o (by omega)]; exact this.1
    · rw [cpy_o (by omega), cpy_o (by omega), cpy_0 (by omega), cpy_o (by omega), wr_o (by omega)]; exact this.2.1
    · rw [cpy_o (by omega), cpy_0 (by omega), cpy_o (by omega), cpy_o (by omega), wr_o (by omega)]; exact this.2.2.1
    · rw [cpy_0 (by omega), cpy_o (by omega), cpy_o (by omega), cpy_o (by omega), wr_o (by omega)]; exact this.2.2.2
  · rw [cpy_row (by omega), cpy_row (by omega), cpy_row (by omega), cpy_row (by omega), wr_row (by omega)]
theorem c2_copyFrom {g : Gw} (hG : GF g) {z : Bool} (E : Mm) (a b : Nat) (ha : a = 24 ∨ a = 102 ∨ a = 111 ∨ a = 120) (hb : b = 24 ∨ b = 102 ∨ b = 111 ∨ b = 120) (hab : a ≠ b) (C : CHt) (h : CCh E b C) (hC : C.1 ≤ 20) : CT g yX2_copyFrom cX2_copyFrom 2 none 1 24 0 0 K2 z [mR a, mR b] (ov E) K2 z (fun r D' => r = none ∧ ∃ E1, D' = ov E1 ∧ CCh E1 a C ∧ ∀ q, ¬ (a ≤ q ∧ q ≤ a + 4) → E1 q = E q) := by
  refine (ct_X2_copyFrom hG (z := z) E a b ha hb).imp (fun r D' q => ⟨q.1, _, q.2, ?_⟩)
  exact ch_copied (by omega) h hC
theorem dX5_keep_0 : decode cX5_keep 0 = .ok (.aload_n 1, 1) := by decide +kernel
theorem dX5_keep_1 : decode cX5_keep 1 = .ok (.getfield 28, 3) := by decide +kernel
theorem dX5_keep_4 : decode cX5_keep 4 = .ok (.iconst 0, 1) := by decide +kernel
theorem dX5_keep_5 : decode cX5_keep 5 = .ok (.aload_n 0, 1) := by decide +kernel
theorem dX5_keep_6 : decode cX5_keep 6 = .ok (.getfield 9, 3) := by decide +kernel
theorem dX5_keep_9 : decode cX5_keep 9 = .ok (.iconst 0, 1) := by decide +kernel
theorem dX5_keep_10 : decode cX5_keep 10 = .ok (.bipush 10, 2) := by decide +kernel
theorem dX5_keep_12 : decode cX5_keep 12 = .ok (.invokestatic 33, 3) := by decide +kernel
theorem dX5_keep_15 : decode cX5_keep 15 = .ok (.aload_n 1, 1) := by decide +kernel
theorem dX5_keep_16 : decode cX5_keep 16 = .ok (.getfield 39, 3) := by decide +kernel
theorem dX5_keep_19 : decode cX5_keep 19 = .ok (.getfield 43, 3) := by decide +kernel
theorem dX5_keep_22 : decode cX5_keep 22 = .ok (.iconst 0, 1) := by decide +kernel
theorem dX5_keep_23 : decode cX5_keep 23 = .ok (.aload_n 0, 1) := by decide +kernel
theorem dX5_keep_24 : decode cX5_keep 24 = .ok (.getfield 15, 3) := by decide +kernel
theorem dX5_keep_27 : decode cX5_keep 27 = .ok (.iconst 0, 1) := by decide +kernel
theorem dX5_keep_28 : decode cX5_keep 28 = .ok (.bipush 8, 2) := by decide +kernel
theorem dX5_keep_30 : decode cX5_keep 30 = .ok (.invokestatic 33, 3) := by decide +kernel
theorem dX5_keep_33 : decode cX5_keep 33 = .ok (.aload_n 1, 1) := by decide +kernel
theorem dX5_keep_34 : decode cX5_keep 34 = .ok (.getfield 39, 3) := by decide +kernel
theorem dX5_keep_37 : decode cX5_keep 37 = .ok (.getfield 48, 3) := by decide +kernel
theorem dX5_keep_40 : decode cX5_keep 40 = .ok (.iconst 0, 1) := by decide +kernel
theorem dX5_keep_41 : decode cX5_keep 41 = .ok (.aload_n 0, 1) := by decide +kernel
theorem dX5_keep_42 : decode cX5_keep 42 = .ok (.getfield 18, 3) := by decide +kernel
theorem dX5_keep_45 : decode cX5_keep 45 = .ok (.iconst 0, 1) := by decide +kernel
theorem dX5_keep_46 : decode cX5_keep 46 = .ok (.sipush 160, 3) := by decide +kernel
theorem dX5_keep_49 : decode cX5_keep 49 = .ok (.invokestatic 33, 3) := by decide +kernel
theorem dX5_keep_52 : decode cX5_keep 52 = .ok (.aload_n 0, 1) := by decide +kernel
theorem dX5_keep_53 : decode cX5_keep 53 = .ok (.getfield 24, 3) := by decide +kernel
theorem dX5_keep_56 : decode cX5_keep 56 = .ok (.aload_n 3, 1) := by decide +kernel
theorem dX5_keep_57 : decode cX5_keep 57 = .ok (.invokevirtual 49, 3) := by decide +kernel
theorem dX5_keep_60 : decode cX5_keep 60 = .ok (.aload_n 0, 1) := by decide +kernel
theorem dX5_keep_61 : decode cX5_keep 61 = .ok (.iload_n 2, 1) := by decide +kernel
theorem dX5_keep_62 : decode cX5_keep 62 = .ok (.putfield 53, 3) := by decide +kernel
theorem dX5_keep_65 : decode cX5_keep 65 = .ok (.return_, 1) := by decide +kernel
theorem ct_X5_keep {g : Gw} (hG : GF g) {z : Bool} (E : Mm) (a s : Nat) (ha : a = 98 ∨ a = 107 ∨ a = 116) (hs : s = 68 ∨ s = 83) (P : SP) (hP : WS P) (hS : CS E s P) (d : Nat) (C : CHt) (hC : CCh E 24 C) (hC20 : C.1 ≤ 20) : CT g yX5_keep cX5_keep 4 none 2 45 0 0 K2 z [mR a, mR s, mI ((d : Nat) : Int), mR 24] (ov E) K2 z (fun r D' => r = none ∧ ∃ E1, D' = ov E1 ∧ CIm E1 a P d C ∧ ∀ q, ¬ (a ≤ q ∧ q ≤ a + 8) → E1 q = E q) := by
  refine CT.mk hG (by decide +kernel) (Nat.le_of_ble_eq_true rfl) (fun κ X Rt _ ok => ?_)
  refine at_aload_n 1 X rfl rfl dX5_keep_0 rfl ?_
  refine m_getR 4 X f_X5_28 (kX9 hs) (rX9_1 hs) dX5_keep_1 rfl ?_
  refine at_iconst 5 X (by decide) dX5_keep_4 rfl ?_
  refine at_aload_n 6 X rfl rfl dX5_keep_5 rfl ?_
  refine m_getR 9 X f_X5_9 (kX5 ha) (rX5_0 ha) dX5_keep_6 rfl ?_
  refine at_iconst 10 X (by decide) dX5_keep_9 rfl ?_
  refine at_bipush 12 X (by decide) (by decide) dX5_keep_10 rfl ?_
  refine m_copyI 15 X (sp := 0) (dp := 0) (n := 10) rfl rfl rfl (kX9_1 hs) (eX9_1 hs) (kX5_0 ha) (eX5_0 ha) (by decide) (by decide) (by decide) (by decide) w_828 (by rw [Rt.1]; decide) (by rw [Rt.1]; decide) dX5_keep_12 rfl ?_
  refine at_aload_n 16 X rfl rfl dX5_keep_15 rfl ?_
  refine m_getR 19 X f_X5_39 (kX9 hs) (rX9_7 hs) dX5_keep_16 rfl ?_
  refine m_getR 22 X f_X5_43 (kX0 (iB_8 hs)) (rX0_0 (iB_8 hs)) dX5_keep_19 rfl ?_
  refine at_iconst 23 X (by decide) dX5_keep_22 rfl ?_
  refine at_aload_n 24 X rfl rfl dX5_keep_23 rfl ?_
  refine m_getR 27 X f_X5_15 (kX5 ha) (rX5_1 ha) dX5_keep_24 rfl ?_
  refine at_iconst 28 X (by decide) dX5_keep_27 rfl ?_
  refine at_bipush 30 X (by decide) (by decide) dX5_keep_28 rfl ?_
  refine m_copyI 33 X (sp := 0) (dp := 0) (n := 8) rfl rfl rfl (kX0_0 (iB_8 hs)) (eX0_0 (iB_8 hs)) (kX5_1 ha) (eX5_1 ha) (by decide) (by decide) (by decide) (by decide) w_828 (by rw [Rt.1]; decide) (by rw [Rt.1]; decide) dX5_keep_30 rfl ?_
  refine at_aload_n 34 X rfl rfl dX5_keep_33 rfl ?_
  refine m_getR 37 X f_X5_39 (kX9 hs) (rX9_7 hs) dX5_keep_34 rfl ?_
  refine m_getR 40 X f_X5_48 (kX0 (iB_8 hs)) (rX0_3 (iB_8 hs)) dX5_keep_37 rfl ?_
  refine at_iconst 41 X (by decide) dX5_keep_40 rfl ?_
  refine at_aload_n 42 X rfl rfl dX5_keep_41 rfl ?_
  refine m_getR 45 X f_X5_18 (kX5 ha) (rX5_2 ha) dX5_keep_42 rfl ?_
  refine at_iconst 46 X (by decide) dX5_keep_45 rfl ?_
  refine at_sipush 49 X (by decide) (by decide) dX5_keep_46 rfl ?_
  refine m_copyI 52 X (sp := 0) (dp := 0) (n := 160) rfl rfl rfl (kX0_3 (iB_8 hs)) (eX0_3 (iB_8 hs)) (kX5_2 ha) (eX5_2 ha) (by decide) (by decide) (by decide) (by decide) w_828 (by rw [Rt.1]; decide) (by rw [Rt.1]; decide) dX5_keep_49 rfl ?_
  refine at_aload_n 53 X rfl rfl dX5_keep_52 rfl ?_
  refine m_getR 56 X f_X5_24 (kX5 ha) (rX5_3 ha) dX5_keep_53 rfl ?_
  refine at_aload_n 57 X rfl rfl dX5_keep_56 rfl ?_
  refine at_callV 60 X _ 2 (c2_copyFrom hG (cpy (cpy (cpy E (s + 2) (a + 1) 0 0 10) (s + 8 + 1) (a + 2) 0 0 8) (s + 8 + 4) (a + 3) 0 0 160) (a + 4) 24 (iC_4 ha) (Or.inl rfl) (by omega) C (hC.fr (fun q k1 k2 => by rw [cpy_row (by omega), cpy_row (by omega), cpy_row (by omega)])) hC20) clX2 rfl (kX2 (iC_4 ha)) mo_X2_copyFrom w_829 vo_X2_copyFrom.1 vo_X2_copyFrom.2 rfl rfl (crm Rt (by decide)) (Nat.le_of_ble_eq_true rfl) dX5_keep_57 rfl ?_
  rintro _ _ ⟨rfl, F1, rfl, hC1, hq1⟩
  refine at_aload_n 61 X rfl rfl dX5_keep_60 rfl ?_
  refine at_iload_n 62 X rfl rfl dX5_keep_61 rfl ?_
  refine m_putI 65 X f_X5_53 fw_5_4 (kX5 ha) (nX5_4 ha) dX5_keep_62 rfl ?_
  refine at_vret X Rt ?_ (Nat.le_refl _) (Nat.le_refl _) dX5_keep_65
  have hN10 := hP.N
  have hN8 := hP.B.N
  refine ⟨rfl, _, rfl, ⟨fun p hp => ?_, fun b hb => ⟨?_, fun p hp => ?_⟩, wr_s _ _ _ _, hC1.fr (fun q k1 k2 => wr_row (by omega))⟩, fun q hq => ?_⟩
  · rw [wr_o (by omega), hq1 (a + 1) (by omega), cpy_o (by omega), cpy_o (by omega), cpy_0 (by omega)]; exact hS.H hp
  · rw [wr_o (by omega), hq1 (a + 2) (by omega), cpy_o (by omega), cpy_0 (by omega), cpy_o (by omega)]; exact hS.B.X hb
  · have hl := hP.B.L hb
    rw [wr_o (by omega), hq1 (a + 3) (by omega), cpy_0 (by omega), cpy_o (by omega), cpy_o (by omega)]; exact hS.B.D hb hp
  · rw [wr_row (by omega), hq1 q (by omega), cpy_row (by omega), cpy_row (by omega), cpy_row (by omega)]
/-- the street with an image's heights, places and loads, its beams not weighed yet -/
def GBk (E F : Mm) (s : Nat) (P' : SP) (n : Nat) : Prop := (∀ p, p < sN P' → F (s + 2) p = (sH P' p : Int)) ∧ (∀ b, b < bN (sB P') → F (s + 8 + 1) b = (bX (sB P') b : Int) ∧ ∀ p, p < bL (sB P') b → F (s + 8 + 4) (b * 20 + p) = (bD (sB P') b p : Int)) ∧ (∀ b, b < n → F (s + 8 + 5) b = (onL (sB P') b : Int) ∧ F (s + 8 + 6) b = (onR (sB P') b : Int)) ∧ ∀ q, ¬ (q = s + 2 ∨ q = s + 8 + 1 ∨ (s + 8 + 4 ≤ q ∧ q ≤ s + 8 + 6)) → F q = E q
theorem GBk.wei {E F : Mm} {s b : Nat} {P' : SP} (h : GBk E F s P' b) : GBk E (wr (wr F (s + 8 + 5) b (onL (sB P') b : Int)) (s + 8 + 6) b (onR (sB P') b : Int)) s P' (b + 1) := by
  obtain ⟨h1, h2, h3, h4⟩ := h
  refine ⟨fun p hp => by rw [wr_o (by omega), wr_o (by omega)]; exact h1 p hp, fun c hc => ⟨by rw [wr_o (by omega), wr_o (by omega)]; exact (h2 c hc).1, fun p hp => by rw [wr_o (by omega), wr_o (by omega)]; exact (h2 c hc).2 p hp⟩, fun c hc => ?_, fun q hq => by rw [wr_row (by omega), wr_row (by omega)]; exact h4 q hq⟩
  by_cases k : c = b
  · rw [k, wr_s, wr_o (by omega), wr_s]; exact ⟨rfl, rfl⟩
  · rw [wr_o (by omega), wr_o (by omega), wr_o (by omega), wr_o (by omega)]; exact h3 c (by omega)
theorem GBk.st {E F : Mm} {s : Nat} {P P' : SP} (h : GBk E F s P' (bN (sB P'))) (hS : CS E s P) (e : frm P' = frm P) : CS F s P' := by
  obtain ⟨e1, e2, e3, e4, e5, e6, e7, e8, e9, e10⟩ := frm_is e
  obtain ⟨⟨pw, pn, px, ph⟩, pd, pm, pc, pl, bn, bx, bl, bh, bd⟩ := P
  obtain ⟨⟨pw', pn', px', ph'⟩, pd', pm', pc', pl', bn', bx', bl', bh', bd'⟩ := P'
  have e1 : pw' = pw := e1
  have e2 : pn' = pn := e2
  have e3 : px' = px := e3
  have e4 : pd' = pd := e4
  have e5 : pm' = pm := e5
  have e6 : pc' = pc := e6
  have e7 : pl' = pl := e7
  have e8 : bn' = bn := e8
  have e9 : bl' = bl := e9
  have e10 : bh' = bh := e10
  subst e1 e2 e3 e4 e5 e6 e7 e8 e9 e10
  obtain ⟨h1, h2, h3, h4⟩ := h
  have hq : F s = E s := h4 s (by omega)
  have hB := hS.B
  refine ⟨by rw [hq]; exact hS.W, by rw [hq]; exact hS.N, fun p hp => ⟨?_, h1 p hp⟩, ?_, ?_, ?_, ?_, ?_, ?_, ?_, ?_, ?_, fun b hb => ?_⟩
  · rw [h4 (s + 1) (by omega)]; exact hS.X hp
  · rw [hq]; exact hS.Dk
  · rw [h4 (s + 3) (by omega), h4 (s + 4) (by omega)]; exact hS.2.2.2.2.1
  · rw [hq]; exact hS.M
  · rw [h4 (s + 5) (by omega), h4 (s + 6) (by omega), h4 (s + 7) (by omega)]; exact hS.2.2.2.2.2.2.1
  · rw [hq]; exact hS.Cn
  · rw [hq]; exact hS.C
  · rw [hq]; exact hS.Ln
  · rw [hq]; exact hS.Lc
  · rw [h4 (s + 8) (by omega)]; exact hB.N
  · refine ⟨(h2 b hb).1, ?_, ?_, (h2 b hb).2, (h3 b hb).1, (h3 b hb).2⟩
    · rw [h4 (s + 8 + 2) (by omega)]; exact hB.L hb
    · rw [h4 (s + 8 + 3) (by omega)]; exact hB.H hb
theorem dX5_giveBack_0 : decode cX5_giveBack 0 = .ok (.aload_n 0, 1) := by decide +kernel
theorem dX5_giveBack_1 : decode cX5_giveBack 1 = .ok (.getfield 9, 3) := by decide +kernel
theorem dX5_giveBack_4 : decode cX5_giveBack 4 = .ok (.iconst 0, 1) := by decide +kernel
theorem dX5_giveBack_5 : decode cX5_giveBack 5 = .ok (.aload_n 1, 1) := by decide +kernel
theorem dX5_giveBack_6 : decode cX5_giveBack 6 = .ok (.getfield 28, 3) := by decide +kernel
theorem dX5_giveBack_9 : decode cX5_giveBack 9 = .ok (.iconst 0, 1) := by decide +kernel
theorem dX5_giveBack_10 : decode cX5_giveBack 10 = .ok (.bipush 10, 2) := by decide +kernel
theorem dX5_giveBack_12 : decode cX5_giveBack 12 = .ok (.invokestatic 33, 3) := by decide +kernel
theorem dX5_giveBack_15 : decode cX5_giveBack 15 = .ok (.aload_n 0, 1) := by decide +kernel
theorem dX5_giveBack_16 : decode cX5_giveBack 16 = .ok (.getfield 15, 3) := by decide +kernel
theorem dX5_giveBack_19 : decode cX5_giveBack 19 = .ok (.iconst 0, 1) := by decide +kernel
theorem dX5_giveBack_20 : decode cX5_giveBack 20 = .ok (.aload_n 1, 1) := by decide +kernel
theorem dX5_giveBack_21 : decode cX5_giveBack 21 = .ok (.getfield 39, 3) := by decide +kernel
theorem dX5_giveBack_24 : decode cX5_giveBack 24 = .ok (.getfield 43, 3) := by decide +kernel
theorem dX5_giveBack_27 : decode cX5_giveBack 27 = .ok (.iconst 0, 1) := by decide +kernel
theorem dX5_giveBack_28 : decode cX5_giveBack 28 = .ok (.bipush 8, 2) := by decide +kernel
theorem dX5_giveBack_30 : decode cX5_giveBack 30 = .ok (.invokestatic 33, 3) := by decide +kernel
theorem dX5_giveBack_33 : decode cX5_giveBack 33 = .ok (.aload_n 0, 1) := by decide +kernel
theorem dX5_giveBack_34 : decode cX5_giveBack 34 = .ok (.getfield 18, 3) := by decide +kernel
theorem dX5_giveBack_37 : decode cX5_giveBack 37 = .ok (.iconst 0, 1) := by decide +kernel
theorem dX5_giveBack_38 : decode cX5_giveBack 38 = .ok (.aload_n 1, 1) := by decide +kernel
theorem dX5_giveBack_39 : decode cX5_giveBack 39 = .ok (.getfield 39, 3) := by decide +kernel
theorem dX5_giveBack_42 : decode cX5_giveBack 42 = .ok (.getfield 48, 3) := by decide +kernel
theorem dX5_giveBack_45 : decode cX5_giveBack 45 = .ok (.iconst 0, 1) := by decide +kernel
theorem dX5_giveBack_46 : decode cX5_giveBack 46 = .ok (.sipush 160, 3) := by decide +kernel
theorem dX5_giveBack_49 : decode cX5_giveBack 49 = .ok (.invokestatic 33, 3) := by decide +kernel
theorem dX5_giveBack_52 : decode cX5_giveBack 52 = .ok (.iconst 0, 1) := by decide +kernel
theorem dX5_giveBack_53 : decode cX5_giveBack 53 = .ok (.istore_n 3, 1) := by decide +kernel
theorem dX5_giveBack_54 : decode cX5_giveBack 54 = .ok (.iload_n 3, 1) := by decide +kernel
theorem dX5_giveBack_55 : decode cX5_giveBack 55 = .ok (.aload_n 1, 1) := by decide +kernel
theorem dX5_giveBack_56 : decode cX5_giveBack 56 = .ok (.getfield 39, 3) := by decide +kernel
theorem dX5_giveBack_59 : decode cX5_giveBack 59 = .ok (.getfield 57, 3) := by decide +kernel
theorem dX5_giveBack_62 : decode cX5_giveBack 62 = .ok (.if_icmp .ge 17, 3) := by decide +kernel
theorem dX5_giveBack_65 : decode cX5_giveBack 65 = .ok (.aload_n 1, 1) := by decide +kernel
theorem dX5_giveBack_66 : decode cX5_giveBack 66 = .ok (.getfield 39, 3) := by decide +kernel
theorem dX5_giveBack_69 : decode cX5_giveBack 69 = .ok (.iload_n 3, 1) := by decide +kernel
theorem dX5_giveBack_70 : decode cX5_giveBack 70 = .ok (.invokevirtual 60, 3) := by decide +kernel
theorem dX5_giveBack_73 : decode cX5_giveBack 73 = .ok (.iinc 3 1, 3) := by decide +kernel
theorem dX5_giveBack_76 : decode cX5_giveBack 76 = .ok (.goto (-22), 3) := by decide +kernel
theorem dX5_giveBack_79 : decode cX5_giveBack 79 = .ok (.aload_n 2, 1) := by decide +kernel
theorem dX5_giveBack_80 : decode cX5_giveBack 80 = .ok (.aload_n 0, 1) := by decide +kernel
theorem dX5_giveBack_81 : decode cX5_giveBack 81 = .ok (.getfield 24, 3) := by decide +kernel
theorem dX5_giveBack_84 : decode cX5_giveBack 84 = .ok (.invokevirtual 49, 3) := by decide +kernel
theorem dX5_giveBack_87 : decode cX5_giveBack 87 = .ok (.return_, 1) := by decide +kernel
theorem ct_X5_giveBack {g : Gw} (hG : GF g) {z : Bool} (E : Mm) (a s : Nat) (ha : a = 98 ∨ a = 107 ∨ a = 116) (hs : s = 68 ∨ s = 83) (P P' : SP) (hP' : WS P') (hS : CS E s P) (e : frm P' = frm P) (d : Nat) (C : CHt) (hI : CIm E a P' d C) (hC20 : C.1 ≤ 20) : CT g yX5_giveBack cX5_giveBack 4 none 2 45 0 0 K2 z [mR a, mR s, mR 24] (ov E) K2 z (fun r D' => r = none ∧ ∃ E1, D' = ov E1 ∧ CS E1 s P' ∧ CCh E1 24 C ∧ ∀ q, ¬ (s ≤ q ∧ q ≤ s + 14) → ¬ (24 ≤ q ∧ q ≤ 28) → E1 q = E q) := by
  refine CT.mk hG (by decide +kernel) (Nat.le_of_ble_eq_true rfl) (fun κ X Rt _ ok => ?_)
  obtain ⟨e1, e2, e3, e4, e5, e6, e7, e8, e9, e10⟩ := frm_is e
  have hN10 := hP'.N
  have hN8 := hP'.B.N
  refine at_aload_n 1 X rfl rfl dX5_giveBack_0 rfl ?_
  refine m_getR 4 X f_X5_9 (kX5 ha) (rX5_0 ha) dX5_giveBack_1 rfl ?_
  refine at_iconst 5 X (by decide) dX5_giveBack_4 rfl ?_
  refine at_aload_n 6 X rfl rfl dX5_giveBack_5 rfl ?_
  refine m_getR 9 X f_X5_28 (kX9 hs) (rX9_1 hs) dX5_giveBack_6 rfl ?_
  refine at_iconst 10 X (by decide) dX5_giveBack_9 rfl ?_
  refine at_bipush 12 X (by decide) (by decide) dX5_giveBack_10 rfl ?_
  refine m_copyI 15 X (sp := 0) (dp := 0) (n := 10) rfl rfl rfl (kX5_0 ha) (eX5_0 ha) (kX9_1 hs) (eX9_1 hs) (by decide) (by decide) (by decide) (by decide) w_828 (by rw [Rt.1]; decide) (by rw [Rt.1]; decide) dX5_giveBack_12 rfl ?_
  refine at_aload_n 16 X rfl rfl dX5_giveBack_15 rfl ?_
  refine m_getR 19 X f_X5_15 (kX5 ha) (rX5_1 ha) dX5_giveBack_16 rfl ?_
  refine at_iconst 20 X (by decide) dX5_giveBack_19 rfl ?_
  refine at_aload_n 21 X rfl rfl dX5_giveBack_20 rfl ?_
  refine m_getR 24 X f_X5_39 (kX9 hs) (rX9_7 hs) dX5_giveBack_21 rfl ?_
  refine m_getR 27 X f_X5_43 (kX0 (iB_8 hs)) (rX0_0 (iB_8 hs)) dX5_giveBack_24 rfl ?_
  refine at_iconst 28 X (by decide) dX5_giveBack_27 rfl ?_
  refine at_bipush 30 X (by decide) (by decide) dX5_giveBack_28 rfl ?_
  refine m_copyI 33 X (sp := 0) (dp := 0) (n := 8) rfl rfl rfl (kX5_1 ha) (eX5_1 ha) (kX0_0 (iB_8 hs)) (eX0_0 (iB_8 hs)) (by decide) (by decide) (by decide) (by decide) w_828 (by rw [Rt.1]; decide) (by rw [Rt.1]; decide) dX5_giveBack_30 rfl ?_
  refine at_aload_n 34 X rfl rfl dX5_giveBack_33 rfl ?_
  refine m_getR 37 X f_X5_18 (kX5 ha) (rX5_2 ha) dX5_giveBack_34 rfl ?_
  refine at_iconst 38 X (by decide) dX5_giveBack_37 rfl ?_
  refine at_aload_n 39 X rfl rfl dX5_giveBack_38 rfl ?_
  refine m_getR 42 X f_X5_39 (kX9 hs) (rX9_7 hs) dX5_giveBack_39 rfl ?_
  refine m_getR 45 X f_X5_48 (kX0 (iB_8 hs)) (rX0_3 (iB_8 hs)) dX5_giveBack_42 rfl ?_
  refine at_iconst 46 X (by decide) dX5_giveBack_45 rfl ?_
  refine at_sipush 49 X (by decide) (by decide) dX5_giveBack_46 rfl ?_
  refine m_copyI 52 X (sp := 0) (dp := 0) (n := 160) rfl rfl rfl (kX5_2 ha) (eX5_2 ha) (kX0_3 (iB_8 hs)) (eX0_3 (iB_8 hs)) (by decide) (by decide) (by decide) (by decide) w_828 (by rw [Rt.1]; decide) (by rw [Rt.1]; decide) dX5_giveBack_49 rfl ?_
  have hg0 : GBk E (cpy (cpy (cpy E (a + 1) (s + 2) 0 0 10) (a + 2) (s + 8 + 1) 0 0 8) (a + 3) (s + 8 + 4) 0 0 160) s P' 0 := ⟨fun p hp => by rw [cpy_o (by omega), cpy_o (by omega), cpy_0 (by omega)]; exact hI.1 p hp, fun b hb => ⟨by rw [cpy_o (by omega), cpy_0 (by omega), cpy_o (by omega)]; exact (hI.2.1 b hb).1, fun p hp => by have hl := hP'.B.L hb; rw [cpy_0 (by omega), cpy_o (by omega), cpy_o (by omega)]; exact (hI.2.1 b hb).2 p hp⟩, fun b hb => absurd hb (Nat.not_lt_zero b), fun q hq => by rw [cpy_row (by omega), cpy_row (by omega), cpy_row (by omega)]⟩
  refine at_iconst 53 X (by decide) dX5_giveBack_52 rfl ?_
  refine at_istore_n 54 X rfl dX5_giveBack_53 rfl (by decide) ?_
  have J54 : ∀ (f54 : Nat) (F : Mm) (b : Nat), 9 - b < f54 → (b ≤ bN (sB P')) → (GBk E F s P' b) → AT g κ K2 z 0 0 54 [(0, mR a), (1, mR s), (2, mR 24), (3, mI ((b : Nat) : Int))] [] (ov F) := by
    intro f54
    induction f54 with
    | zero => intro F b hf54; omega
    | succ f54 ih54 =>
    intro F b hf54 hb hg_F
    refine at_iload_n 55 X rfl rfl dX5_giveBack_54 rfl ?_
    refine at_aload_n 56 X rfl rfl dX5_giveBack_55 rfl ?_
    refine m_getR 59 X f_X5_39 (kX9 hs) (rX9_7 hs) dX5_giveBack_56 rfl ?_
    refine m_getIV 62 X ((bN (sB P') : Nat) : Int) ((congrFun (hg_F.2.2.2 (s + 8) (by omega)) 6).trans (hS.B.N.trans (by rw [e8]))) f_X5_57 (kX0 (iB_8 hs)) (nX0_6 (iB_8 hs)) dX5_giveBack_59 rfl ?_
    refine at_icmp_ge 65 79 X dX5_giveBack_62 rfl (by decide) (fun h62 => ?_) (fun h62 => ?_)
    · refine at_aload_n 80 X rfl rfl dX5_giveBack_79 rfl ?_
      refine at_aload_n 81 X rfl rfl dX5_giveBack_80 rfl ?_
      refine m_getR 84 X f_X5_24 (kX5 ha) (rX5_3 ha) dX5_giveBack_81 rfl ?_
      refine at_callV 87 X _ 2 (c2_copyFrom hG F 24 (a + 4) (Or.inl rfl) (iC_4 ha) (by omega) C (hI.2.2.2.fr (fun q k1 k2 => hg_F.2.2.2 q (by omega))) hC20) clX2 rfl k_24 mo_X2_copyFrom w_829 vo_X2_copyFrom.1 vo_X2_copyFrom.2 rfl rfl (crm Rt (by decide)) (Nat.le_of_ble_eq_true rfl) dX5_giveBack_84 rfl ?_
      rintro _ _ ⟨rfl, F1, rfl, hC1, hq1⟩
      refine at_vret X Rt ?_ (Nat.le_refl _) (Nat.le_refl _) dX5_giveBack_87
      have hb' : b = bN (sB P') := by omega
      subst hb'
      exact ⟨rfl, F1, rfl, (hg_F.st hS e).fr (fun q k1 k2 => hq1 q (by omega)), hC1, fun q k1 k2 => (hq1 q k2).trans (hg_F.2.2.2 q (by omega))⟩
    · refine at_aload_n 66 X rfl rfl dX5_giveBack_65 rfl ?_
      refine m_getR 69 X f_X5_39 (kX9 hs) (rX9_7 hs) dX5_giveBack_66 rfl ?_
      refine at_iload_n 70 X rfl rfl dX5_giveBack_69 rfl ?_
      refine at_callV 73 X _ 0 (ct_X0_weigh hG F (sB P') (s + 8) b (iB_8 hs) (by omega) ((congrFun (hg_F.2.2.2 (s + 8 + 2) (by omega)) b).trans ((hS.B.L (by omega)).trans (by rw [e9]))) ((congrFun (hg_F.2.2.2 (s + 8 + 3) (by omega)) b).trans ((hS.B.H (by omega)).trans (by rw [e10]))) ((hg_F.2.1 b (by omega)).2) (hP'.B.L (by omega)) (hP'.B.H (by omega)).2 (fun p hp => hP'.B.D (by omega) hp)) clX0 rfl (kX0 (iB_8 hs)) mo_X0_weigh w_842 vo_X0_weigh.1 vo_X0_weigh.2 rfl rfl (crm Rt (by decide)) (Nat.le_of_ble_eq_true rfl) dX5_giveBack_70 rfl ?_
      rintro _ _ ⟨rfl, rfl⟩
      refine at_iincV 76 X ((b + 1 : Nat) : Int) (w32_v (by omega) (by omega) (by omega)) rfl dX5_giveBack_73 rfl (by decide) ?_
      refine at_goto 54 X dX5_giveBack_76 (by decide) ?_
      exact at_sub _ (by exact ⟨rfl, rfl, rfl, rfl, trivial⟩) (ih54 (wr (wr F (s + 8 + 5) b (onL (sB P') b : Int)) (s + 8 + 6) b (onR (sB P') b : Int)) (b + 1) (by first | omega | (simp only [] at *; omega)) (by omega) hg_F.wei)
  exact at_sub _ (by exact ⟨rfl, rfl, rfl, rfl, trivial⟩) (J54 _ (cpy (cpy (cpy E (a + 1) (s + 2) 0 0 10) (a + 2) (s + 8 + 1) 0 0 8) (a + 3) (s + 8 + 4) 0 0 160) 0 (Nat.lt_succ_self _) (Nat.zero_le _) hg0)
theorem dX2_takeBack_0 : decode cX2_takeBack 0 = .ok (.aload_n 0, 1) := by decide +kernel
theorem dX2_takeBack_1 : decode cX2_takeBack 1 = .ok (.getfield 24, 3) := by decide +kernel
theorem dX2_takeBack_4 : decode cX2_takeBack 4 = .ok (.ifCond .gt 4, 3) := by decide +kernel
theorem dX2_takeBack_7 : decode cX2_takeBack 7 = .ok (.return_, 1) := by decide +kernel
theorem dX2_takeBack_8 : decode cX2_takeBack 8 = .ok (.aload_n 0, 1) := by decide +kernel
theorem dX2_takeBack_9 : decode cX2_takeBack 9 = .ok (.dup, 1) := by decide +kernel
theorem dX2_takeBack_10 : decode cX2_takeBack 10 = .ok (.getfield 24, 3) := by decide +kernel
theorem dX2_takeBack_13 : decode cX2_takeBack 13 = .ok (.iconst 1, 1) := by decide +kernel
theorem dX2_takeBack_14 : decode cX2_takeBack 14 = .ok (.isub, 1) := by decide +kernel
theorem dX2_takeBack_15 : decode cX2_takeBack 15 = .ok (.putfield 24, 3) := by decide +kernel
theorem dX2_takeBack_18 : decode cX2_takeBack 18 = .ok (.aload_n 0, 1) := by decide +kernel
theorem dX2_takeBack_19 : decode cX2_takeBack 19 = .ok (.getfield 15, 3) := by decide +kernel
theorem dX2_takeBack_22 : decode cX2_takeBack 22 = .ok (.aload_n 0, 1) := by decide +kernel
theorem dX2_takeBack_23 : decode cX2_takeBack 23 = .ok (.getfield 24, 3) := by decide +kernel
theorem dX2_takeBack_26 : decode cX2_takeBack 26 = .ok (.iaload, 1) := by decide +kernel
theorem dX2_takeBack_27 : decode cX2_takeBack 27 = .ok (.istore_n 2, 1) := by decide +kernel
theorem dX2_takeBack_28 : decode cX2_takeBack 28 = .ok (.aload_n 0, 1) := by decide +kernel
theorem dX2_takeBack_29 : decode cX2_takeBack 29 = .ok (.getfield 9, 3) := by decide +kernel
theorem dX2_takeBack_32 : decode cX2_takeBack 32 = .ok (.aload_n 0, 1) := by decide +kernel
theorem dX2_takeBack_33 : decode cX2_takeBack 33 = .ok (.getfield 24, 3) := by decide +kernel
theorem dX2_takeBack_36 : decode cX2_takeBack 36 = .ok (.iaload, 1) := by decide +kernel
theorem dX2_takeBack_37 : decode cX2_takeBack 37 = .ok (.lookupswitch 66 #[(0, 27), (1, 45)], 27) := by decide +kernel
theorem dX2_takeBack_64 : decode cX2_takeBack 64 = .ok (.aload_n 1, 1) := by decide +kernel
theorem dX2_takeBack_65 : decode cX2_takeBack 65 = .ok (.getfield 28, 3) := by decide +kernel
theorem dX2_takeBack_68 : decode cX2_takeBack 68 = .ok (.iload_n 2, 1) := by decide +kernel
theorem dX2_takeBack_69 : decode cX2_takeBack 69 = .ok (.aload_n 0, 1) := by decide +kernel
theorem dX2_takeBack_70 : decode cX2_takeBack 70 = .ok (.getfield 21, 3) := by decide +kernel
theorem dX2_takeBack_73 : decode cX2_takeBack 73 = .ok (.aload_n 0, 1) := by decide +kernel
theorem dX2_takeBack_74 : decode cX2_takeBack 74 = .ok (.getfield 24, 3) := by decide +kernel
theorem dX2_takeBack_77 : decode cX2_takeBack 77 = .ok (.iaload, 1) := by decide +kernel
theorem dX2_takeBack_78 : decode cX2_takeBack 78 = .ok (.iastore, 1) := by decide +kernel
theorem dX2_takeBack_79 : decode cX2_takeBack 79 = .ok (.goto 50, 3) := by decide +kernel
theorem dX2_takeBack_82 : decode cX2_takeBack 82 = .ok (.aload_n 1, 1) := by decide +kernel
theorem dX2_takeBack_83 : decode cX2_takeBack 83 = .ok (.getfield 33, 3) := by decide +kernel
theorem dX2_takeBack_86 : decode cX2_takeBack 86 = .ok (.getfield 37, 3) := by decide +kernel
theorem dX2_takeBack_89 : decode cX2_takeBack 89 = .ok (.iload_n 2, 1) := by decide +kernel
theorem dX2_takeBack_90 : decode cX2_takeBack 90 = .ok (.aload_n 0, 1) := by decide +kernel
theorem dX2_takeBack_91 : decode cX2_takeBack 91 = .ok (.getfield 21, 3) := by decide +kernel
theorem dX2_takeBack_94 : decode cX2_takeBack 94 = .ok (.aload_n 0, 1) := by decide +kernel
theorem dX2_takeBack_95 : decode cX2_takeBack 95 = .ok (.getfield 24, 3) := by decide +kernel
theorem dX2_takeBack_98 : decode cX2_takeBack 98 = .ok (.iaload, 1) := by decide +kernel
theorem dX2_takeBack_99 : decode cX2_takeBack 99 = .ok (.iastore, 1) := by decide +kernel
theorem dX2_takeBack_100 : decode cX2_takeBack 100 = .ok (.goto 29, 3) := by decide +kernel
theorem dX2_takeBack_103 : decode cX2_takeBack 103 = .ok (.aload_n 1, 1) := by decide +kernel
theorem dX2_takeBack_104 : decode cX2_takeBack 104 = .ok (.getfield 33, 3) := by decide +kernel
theorem dX2_takeBack_107 : decode cX2_takeBack 107 = .ok (.iload_n 2, 1) := by decide +kernel
theorem dX2_takeBack_108 : decode cX2_takeBack 108 = .ok (.aload_n 0, 1) := by decide +kernel
theorem dX2_takeBack_109 : decode cX2_takeBack 109 = .ok (.getfield 18, 3) := by decide +kernel
theorem dX2_takeBack_112 : decode cX2_takeBack 112 = .ok (.aload_n 0, 1) := by decide +kernel
theorem dX2_takeBack_113 : decode cX2_takeBack 113 = .ok (.getfield 24, 3) := by decide +kernel
theorem dX2_takeBack_116 : decode cX2_takeBack 116 = .ok (.iaload, 1) := by decide +kernel
theorem dX2_takeBack_117 : decode cX2_takeBack 117 = .ok (.aload_n 0, 1) := by decide +kernel
theorem dX2_takeBack_118 : decode cX2_takeBack 118 = .ok (.getfield 21, 3) := by decide +kernel
theorem dX2_takeBack_121 : decode cX2_takeBack 121 = .ok (.aload_n 0, 1) := by decide +kernel
theorem dX2_takeBack_122 : decode cX2_takeBack 122 = .ok (.getfield 24, 3) := by decide +kernel
theorem dX2_takeBack_125 : decode cX2_takeBack 125 = .ok (.iaload, 1) := by decide +kernel
theorem dX2_takeBack_126 : decode cX2_takeBack 126 = .ok (.invokevirtual 42, 3) := by decide +kernel
theorem dX2_takeBack_129 : decode cX2_takeBack 129 = .ok (.return_, 1) := by decide +kernel
theorem ct_X2_takeBack {g : Gw} (hG : GF g) {z : Bool} (E : Mm) (C : CHt) (hC : CCh E 24 C) (hC0 : 0 < C.1) (s : Nat) (hs : s = 68 ∨ s = 83) (P : SP) (hP : WS P) (hS : CS E s P) (hW : WCh P C) : CT g yX2_takeBack cX2_takeBack 3 none 2 54 0 0 K2 z [mR 24, mR s] (ov E) K2 z (fun r D' => r = none ∧ ∃ E1, D' = ov E1 ∧ CS E1 s (unP C (C.1 - 1) P) ∧ CCh E1 24 (C.1 - 1, C.2) ∧ ∀ q, q ≠ 24 → ¬ (s ≤ q ∧ q ≤ s + 14) → E1 q = E q) := by
  refine CT.mk hG (by decide +kernel) (Nat.le_of_ble_eq_true rfl) (fun κ X Rt _ ok => ?_)
  refine at_aload_n 1 X rfl rfl dX2_takeBack_0 rfl ?_
  refine m_getIV 4 X ((C.1 : Nat) : Int) hC.1 f_X2_24 k_24 rn_24_4 dX2_takeBack_1 rfl ?_
  refine at_if_gt 7 8 X dX2_takeBack_4 rfl (by decide) (fun h4 => ?_) (fun h4 => ?_)
  · obtain ⟨w1, w2, w3, w4⟩ := hW.2 (C.1 - 1) (by omega)
    have hC20 := hW.1
    have hN10 := hP.N
    have hN8 := hP.B.N
    refine at_aload_n 9 X rfl rfl dX2_takeBack_8 rfl ?_
    refine at_dup 10 X (show ¬ (2 : Nat) = 1 by decide) dX2_takeBack_9 rfl ?_
    refine m_getIV 13 X ((C.1 : Nat) : Int) hC.1 f_X2_24 k_24 rn_24_4 dX2_takeBack_10 rfl ?_
    refine at_iconst 14 X (by decide) dX2_takeBack_13 rfl ?_
    refine at_isubV 15 X ((C.1 - 1 : Nat) : Int) (w32_v (by omega) (by omega) (by omega)) dX2_takeBack_14 rfl ?_
    refine m_putI 18 X f_X2_24 fw_2_4 k_24 rn_24_4 dX2_takeBack_15 rfl ?_
    refine at_aload_n 19 X rfl rfl dX2_takeBack_18 rfl ?_
    refine m_getR 22 X f_X2_15 k_24 r_24_1 dX2_takeBack_19 rfl ?_
    refine at_aload_n 23 X rfl rfl dX2_takeBack_22 rfl ?_
    refine m_getIV 26 X ((C.1 - 1 : Nat) : Int) (wr_s _ _ _ _) f_X2_24 k_24 rn_24_4 dX2_takeBack_23 rfl ?_
    refine m_ialoadV 27 X (C.1 - 1) (by omega) ((cW C (C.1 - 1) : Nat) : Int) ((wr_o (by omega)).trans (hC.2 (C.1 - 1) (by omega)).2.1) k_26 e_26 (by omega) dX2_takeBack_26 rfl ?_
    refine at_istore_n 28 X rfl dX2_takeBack_27 rfl (by decide) ?_
    refine at_aload_n 29 X rfl rfl dX2_takeBack_28 rfl ?_
    refine m_getR 32 X f_X2_9 k_24 r_24_0 dX2_takeBack_29 rfl ?_
    refine at_aload_n 33 X rfl rfl dX2_takeBack_32 rfl ?_
    refine m_getIV 36 X ((C.1 - 1 : Nat) : Int) (wr_s _ _ _ _) f_X2_24 k_24 rn_24_4 dX2_takeBack_33 rfl ?_
    refine m_ialoadV 37 X (C.1 - 1) (by omega) ((cK C (C.1 - 1) : Nat) : Int) ((wr_o (by omega)).trans (hC.2 (C.1 - 1) (by omega)).1) k_25 e_25 (by omega) dX2_takeBack_36 rfl ?_
    rcases (show ((cK C (C.1 - 1) : Nat) : Int) = 0 ∨ ((cK C (C.1 - 1) : Nat) : Int) = 1 ∨ ((cK C (C.1 - 1) : Nat) : Int) = 2 by omega) with h37 | h37 | h37
    · refine at_lsw (off := 27) 64 X dX2_takeBack_37 (by decide) (by rw [h37]; rfl) (by decide) ?_
      have w2 := w2 (by omega)
      refine at_aload_n 65 X rfl rfl dX2_takeBack_64 rfl ?_
      refine m_getR 68 X f_X2_28 (kX9 hs) (rX9_1 hs) dX2_takeBack_65 rfl ?_
      refine at_iload_n 69 X rfl rfl dX2_takeBack_68 rfl ?_
      refine at_aload_n 70 X rfl rfl dX2_takeBack_69 rfl ?_
      refine m_getR 73 X f_X2_21 k_24 r_24_3 dX2_takeBack_70 rfl ?_
      refine at_aload_n 74 X rfl rfl dX2_takeBack_73 rfl ?_
      refine m_getIV 77 X ((C.1 - 1 : Nat) : Int) (wr_s _ _ _ _) f_X2_24 k_24 rn_24_4 dX2_takeBack_74 rfl ?_
      refine m_ialoadV 78 X (C.1 - 1) (by omega) ((cS C (C.1 - 1) : Nat) : Int) ((wr_o (by omega)).trans (hC.2 (C.1 - 1) (by omega)).2.2.2) k_28 e_28 (by omega) dX2_takeBack_77 rfl ?_
      refine m_iastoreV 79 X (cW C (C.1 - 1)) (by omega) (kX9_1 hs) (eX9_1 hs) (by omega) dX2_takeBack_78 rfl ?_
      refine at_goto 129 X dX2_takeBack_79 (by decide) ?_
      refine at_vret X Rt ?_ (Nat.le_refl _) (Nat.le_refl _) dX2_takeBack_129
      have h0 : CS (wr E 24 4 ((C.1 - 1 : Nat) : Int)) s P := hS.fr (fun q k1 k2 => wr_row (by omega))
      have hu : unP C (C.1 - 1) P = setH P (cW C (C.1 - 1)) (cS C (C.1 - 1)) := by unfold unP; rw [if_pos (by omega)]
      refine ⟨rfl, _, rfl, ?_, ?_, fun q k1 k2 => by rw [wr_row (by omega), wr_row (by omega)]⟩
      · rw [hu]
        exact h0.setH w2.1
      · refine CCh.fr (E := wr E 24 4 ((C.1 - 1 : Nat) : Int)) ⟨wr_s _ _ _ _, fun k hk => ?_⟩ (fun q k1 k2 => by rw [wr_row (by omega)])
        have hk' : k < C.1 - 1 := hk
        have := hC.2 k (by omega)
        rw [wr_row (by omega), wr_row (by omega), wr_row (by omega), wr_row (by omega)]
        exact this
    · refine at_lsw (off := 45) 82 X dX2_takeBack_37 (by decide) (by rw [h37]; rfl) (by decide) ?_
      have w3 := w3 (by omega)
      refine at_aload_n 83 X rfl rfl dX2_takeBack_82 rfl ?_
      refine m_getR 86 X f_X2_33 (kX9 hs) (rX9_7 hs) dX2_takeBack_83 rfl ?_
      refine m_getR 89 X f_X2_37 (kX0 (iB_8 hs)) (rX0_0 (iB_8 hs)) dX2_takeBack_86 rfl ?_
      refine at_iload_n 90 X rfl rfl dX2_takeBack_89 rfl ?_
      refine at_aload_n 91 X rfl rfl dX2_takeBack_90 rfl ?_
      refine m_getR 94 X f_X2_21 k_24 r_24_3 dX2_takeBack_91 rfl ?_
      refine at_aload_n 95 X rfl rfl dX2_takeBack_94 rfl ?_
      refine m_getIV 98 X ((C.1 - 1 : Nat) : Int) (wr_s _ _ _ _) f_X2_24 k_24 rn_24_4 dX2_takeBack_95 rfl ?_
      refine m_ialoadV 99 X (C.1 - 1) (by omega) ((cS C (C.1 - 1) : Nat) : Int) ((wr_o (by omega)).trans (hC.2 (C.1 - 1) (by omega)).2.2.2) k_28 e_28 (by omega) dX2_takeBack_98 rfl ?_
      refine m_iastoreV 100 X (cW C (C.1 - 1)) (by omega) (kX0_0 (iB_8 hs)) (eX0_0 (iB_8 hs)) (by omega) dX2_takeBack_99 rfl ?_
      refine at_goto 129 X dX2_takeBack_100 (by decide) ?_
      refine at_vret X Rt ?_ (Nat.le_refl _) (Nat.le_refl _) dX2_takeBack_129
      have h0 : CS (wr E 24 4 ((C.1 - 1 : Nat) : Int)) s P := hS.fr (fun q k1 k2 => wr_row (by omega))
      have hu : unP C (C.1 - 1) P = setXP P (cW C (C.1 - 1)) (cS C (C.1 - 1)) := by unfold unP; rw [if_neg (by omega), if_pos (by omega)]
      refine ⟨rfl, _, rfl, ?_, ?_, fun q k1 k2 => by rw [wr_row (by omega), wr_row (by omega)]⟩
      · rw [hu]
        exact h0.setX
      · refine CCh.fr (E := wr E 24 4 ((C.1 - 1 : Nat) : Int)) ⟨wr_s _ _ _ _, fun k hk => ?_⟩ (fun q k1 k2 => by rw [wr_row (by omega)])
        have hk' : k < C.1 - 1 := hk
        have := hC.2 k (by omega)
        rw [wr_row (by omega), wr_row (by omega), wr_row (by omega), wr_row (by omega)]
        exact this
    · refine at_lsw (off := 66) 103 X dX2_takeBack_37 (by decide) (by rw [h37]; rfl) (by decide) ?_
      have w4 := w4 (by omega)
      have hl := hP.B.L w4.1
      refine at_aload_n 104 X rfl rfl dX2_takeBack_103 rfl ?_
      refine m_getR 107 X f_X2_33 (kX9 hs) (rX9_7 hs) dX2_takeBack_104 rfl ?_
      refine at_iload_n 108 X rfl rfl dX2_takeBack_107 rfl ?_
      refine at_aload_n 109 X rfl rfl dX2_takeBack_108 rfl ?_
      refine m_getR 112 X f_X2_18 k_24 r_24_2 dX2_takeBack_109 rfl ?_
      refine at_aload_n 113 X rfl rfl dX2_takeBack_112 rfl ?_
      refine m_getIV 116 X ((C.1 - 1 : Nat) : Int) (wr_s _ _ _ _) f_X2_24 k_24 rn_24_4 dX2_takeBack_113 rfl ?_
      refine m_ialoadV 117 X (C.1 - 1) (by omega) ((cA C (C.1 - 1) : Nat) : Int) ((wr_o (by omega)).trans (hC.2 (C.1 - 1) (by omega)).2.2.1) k_27 e_27 (by omega) dX2_takeBack_116 rfl ?_
      refine at_aload_n 118 X rfl rfl dX2_takeBack_117 rfl ?_
      refine m_getR 121 X f_X2_21 k_24 r_24_3 dX2_takeBack_118 rfl ?_
      refine at_aload_n 122 X rfl rfl dX2_takeBack_121 rfl ?_
      refine m_getIV 125 X ((C.1 - 1 : Nat) : Int) (wr_s _ _ _ _) f_X2_24 k_24 rn_24_4 dX2_takeBack_122 rfl ?_
      refine m_ialoadV 126 X (C.1 - 1) (by omega) ((cS C (C.1 - 1) : Nat) : Int) ((wr_o (by omega)).trans (hC.2 (C.1 - 1) (by omega)).2.2.2) k_28 e_28 (by omega) dX2_takeBack_125 rfl ?_
      refine at_callV 129 X _ 0 (ct_X0_setLoadX hG (wr E 24 4 ((C.1 - 1 : Nat) : Int)) (sB P) (s + 8) (sW P) (iB_8 hs) (hS.B.fr (fun q k1 k2 => wr_row (by omega))) hP.B hP.W.2 (cW C (C.1 - 1)) (cA C (C.1 - 1)) (cS C (C.1 - 1)) w4.1 w4.2.1 w4.2.2) clX0 rfl (kX0 (iB_8 hs)) mo_X0_setLoad w_807 vo_X0_setLoad.1 vo_X0_setLoad.2 rfl rfl (crm Rt (by decide)) (Nat.le_of_ble_eq_true rfl) dX2_takeBack_126 rfl ?_
      rintro _ _ ⟨rfl, rfl⟩
      refine at_vret X Rt ?_ (Nat.le_refl _) (Nat.le_refl _) dX2_takeBack_129
      have h0 : CS (wr E 24 4 ((C.1 - 1 : Nat) : Int)) s P := hS.fr (fun q k1 k2 => wr_row (by omega))
      have hk2 : cK C (C.1 - 1) = 2 := by omega
      have hu : unP C (C.1 - 1) P = setDP P (cW C (C.1 - 1)) (cA C (C.1 - 1)) (cS C (C.1 - 1)) := by unfold unP; rw [if_neg (by omega), if_neg (by omega)]
      refine ⟨rfl, _, rfl, ?_, ?_, fun q k1 k2 => by rw [wr_row (by omega), wr_row (by omega), wr_row (by omega), wr_row (by omega)]⟩
      · rw [hu]
        exact h0.newB (fun q k1 k2 => by rw [wr_row (by omega), wr_row (by omega), wr_row (by omega)]) (CB_set h0.B hP.B w4.1 w4.2.1)
      · refine CCh.fr (E := wr E 24 4 ((C.1 - 1 : Nat) : Int)) ⟨wr_s _ _ _ _, fun k hk => ?_⟩ (fun q k1 k2 => by rw [wr_row (by omega), wr_row (by omega), wr_row (by omega)])
        have hk' : k < C.1 - 1 := hk
        have := hC.2 k (by omega)
        rw [wr_row (by omega), wr_row (by omega), wr_row (by omega), wr_row (by omega)]
        exact this
  · exfalso; omega
