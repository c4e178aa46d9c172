theorem ovEIZ {q : Nat} (h : eiT.lookup q = none) (j : Nat) : ov EI q j = ov (fun _ _ => 0) q j := by
  cases c : rtv q j with
  | none => rw [ov_n c, ov_n c]; exact EI0 h j
  | some b => rw [ov_s c, ov_s c]
theorem plainL_lt {D : Mm} {a q j : Nat} (h : q < a) : plainL D a q j = D q j := by
  unfold plainL addL wr
  simp [show q ≠ a by omega, show q ≠ a + 1 by omega, show q ≠ a + 2 by omega]
theorem plainL_ge {D D2 : Mm} {a q j : Nat} (h : D q j = D2 q j) : plainL D a q j = plainL D2 a q j := by
  unfold plainL addL wr
  simp [h]
theorem clrS_lt {D : Mm} {a q j : Nat} (h : q < a) : clrS D a q j = D q j := by
  unfold clrS clrB fil wr
  simp [show q ≠ a by omega, show q ≠ a + 3 by omega, show q ≠ a + 8 by omega, show q ≠ a + 8 + 4 by omega]
theorem clrS_ge {D D2 : Mm} {a q j : Nat} (h : D q j = D2 q j) : clrS D a q j = clrS D2 a q j := by
  unfold clrS clrB fil wr
  simp [h]
theorem dX7_init_0 : decode cX7_init 0 = .ok (.aload_n 0, 1) := by decide +kernel
theorem dX7_init_1 : decode cX7_init 1 = .ok (.invokespecial 3, 3) := by decide +kernel
theorem dX7_init_4 : decode cX7_init 4 = .ok (.aload_n 0, 1) := by decide +kernel
theorem dX7_init_5 : decode cX7_init 5 = .ok (.sipush 150, 3) := by decide +kernel
theorem dX7_init_8 : decode cX7_init 8 = .ok (.newarray .int, 2) := by decide +kernel
theorem dX7_init_10 : decode cX7_init 10 = .ok (.putfield 9, 3) := by decide +kernel
theorem dX7_init_13 : decode cX7_init 13 = .ok (.aload_n 0, 1) := by decide +kernel
theorem dX7_init_14 : decode cX7_init 14 = .ok (.sipush 150, 3) := by decide +kernel
theorem dX7_init_17 : decode cX7_init 17 = .ok (.newarray .int, 2) := by decide +kernel
theorem dX7_init_19 : decode cX7_init 19 = .ok (.putfield 15, 3) := by decide +kernel
theorem dX7_init_22 : decode cX7_init 22 = .ok (.aload_n 0, 1) := by decide +kernel
theorem dX7_init_23 : decode cX7_init 23 = .ok (.sipush 150, 3) := by decide +kernel
theorem dX7_init_26 : decode cX7_init 26 = .ok (.newarray .int, 2) := by decide +kernel
theorem dX7_init_28 : decode cX7_init 28 = .ok (.putfield 18, 3) := by decide +kernel
theorem dX7_init_31 : decode cX7_init 31 = .ok (.aload_n 0, 1) := by decide +kernel
theorem dX7_init_32 : decode cX7_init 32 = .ok (.invokevirtual 21, 3) := by decide +kernel
theorem dX7_init_35 : decode cX7_init 35 = .ok (.return_, 1) := by decide +kernel
theorem dX9_init_0 : decode cX9_init 0 = .ok (.aload_n 0, 1) := by decide +kernel
theorem dX9_init_1 : decode cX9_init 1 = .ok (.invokespecial 3, 3) := by decide +kernel
theorem dX9_init_4 : decode cX9_init 4 = .ok (.aload_n 0, 1) := by decide +kernel
theorem dX9_init_5 : decode cX9_init 5 = .ok (.bipush 10, 2) := by decide +kernel
theorem dX9_init_7 : decode cX9_init 7 = .ok (.newarray .int, 2) := by decide +kernel
theorem dX9_init_9 : decode cX9_init 9 = .ok (.putfield 9, 3) := by decide +kernel
theorem dX9_init_12 : decode cX9_init 12 = .ok (.aload_n 0, 1) := by decide +kernel
theorem dX9_init_13 : decode cX9_init 13 = .ok (.bipush 10, 2) := by decide +kernel
theorem dX9_init_15 : decode cX9_init 15 = .ok (.newarray .int, 2) := by decide +kernel
theorem dX9_init_17 : decode cX9_init 17 = .ok (.putfield 15, 3) := by decide +kernel
theorem dX9_init_20 : decode cX9_init 20 = .ok (.aload_n 0, 1) := by decide +kernel
theorem dX9_init_21 : decode cX9_init 21 = .ok (.bipush 24, 2) := by decide +kernel
theorem dX9_init_23 : decode cX9_init 23 = .ok (.newarray .int, 2) := by decide +kernel
theorem dX9_init_25 : decode cX9_init 25 = .ok (.putfield 18, 3) := by decide +kernel
theorem dX9_init_28 : decode cX9_init 28 = .ok (.aload_n 0, 1) := by decide +kernel
theorem dX9_init_29 : decode cX9_init 29 = .ok (.bipush 24, 2) := by decide +kernel
theorem dX9_init_31 : decode cX9_init 31 = .ok (.newarray .int, 2) := by decide +kernel
theorem dX9_init_33 : decode cX9_init 33 = .ok (.putfield 21, 3) := by decide +kernel
theorem dX9_init_36 : decode cX9_init 36 = .ok (.aload_n 0, 1) := by decide +kernel
theorem dX9_init_37 : decode cX9_init 37 = .ok (.iconst 3, 1) := by decide +kernel
theorem dX9_init_38 : decode cX9_init 38 = .ok (.newarray .int, 2) := by decide +kernel
theorem dX9_init_40 : decode cX9_init 40 = .ok (.putfield 24, 3) := by decide +kernel
theorem dX9_init_43 : decode cX9_init 43 = .ok (.aload_n 0, 1) := by decide +kernel
theorem dX9_init_44 : decode cX9_init 44 = .ok (.iconst 3, 1) := by decide +kernel
theorem dX9_init_45 : decode cX9_init 45 = .ok (.newarray .int, 2) := by decide +kernel
theorem dX9_init_47 : decode cX9_init 47 = .ok (.putfield 27, 3) := by decide +kernel
theorem dX9_init_50 : decode cX9_init 50 = .ok (.aload_n 0, 1) := by decide +kernel
theorem dX9_init_51 : decode cX9_init 51 = .ok (.iconst 3, 1) := by decide +kernel
theorem dX9_init_52 : decode cX9_init 52 = .ok (.newarray .int, 2) := by decide +kernel
theorem dX9_init_54 : decode cX9_init 54 = .ok (.putfield 30, 3) := by decide +kernel
theorem dX9_init_57 : decode cX9_init 57 = .ok (.aload_n 0, 1) := by decide +kernel
theorem dX9_init_58 : decode cX9_init 58 = .ok (.new 33, 3) := by decide +kernel
theorem dX9_init_61 : decode cX9_init 61 = .ok (.dup, 1) := by decide +kernel
theorem dX9_init_62 : decode cX9_init 62 = .ok (.invokespecial 35, 3) := by decide +kernel
theorem dX9_init_65 : decode cX9_init 65 = .ok (.putfield 36, 3) := by decide +kernel
theorem dX9_init_68 : decode cX9_init 68 = .ok (.aload_n 0, 1) := by decide +kernel
theorem dX9_init_69 : decode cX9_init 69 = .ok (.invokevirtual 40, 3) := by decide +kernel
theorem dX9_init_72 : decode cX9_init 72 = .ok (.return_, 1) := by decide +kernel
theorem cc_X7_init_4 {g : Gw} (hG : GF g) (D : Mm) (hD : ∀ j, D 4 j = fz (14, 0) j) : CT g yX7_init cX7_init 1 none 2 42 3 450 (KT 5) true [mR 4] D (KT 8) true (fun r D' => r = none ∧ D' = mg 4 (ov EI) D) := by
  refine CT.mk hG (by decide +kernel) (by decide) (fun κ X Rt hin2 _ => ?_)
  have hin := hin2 rfl
  refine c_open (a := 4) (ov fun _ _ => 0) hD ?_
  refine at_aload_n 1 X rfl rfl dX7_init_0 rfl ?_
  refine at_objInit 4 X w_194 w_156 w_157 (by rw [Rt.1]; exact Nat.le_of_ble_eq_true rfl) (by rw [Rt.1]; exact Nat.le_of_ble_eq_true rfl) dX7_init_1 rfl ?_
  refine at_aload_n 5 X rfl rfl dX7_init_4 rfl ?_
  refine at_sipush 8 X (by decide) (by decide) dX7_init_5 rfl ?_
  refine c_newaI 10 5 X (n := 150) rfl (by decide) k_5 (by decide) (by decide) (ovZ0 e_5) (by rw [Rt.1]; exact Nat.le_of_ble_eq_true rfl) (by rw [Rt.1]; exact Nat.le_of_ble_eq_true rfl) dX7_init_8 rfl ?_
  refine at_putfF 13 X hin 4 7 0 clX7 rfl (by decide) w_203 (KT_get (by decide) k_4) rfl (by decide) rfl (fun q => absurd q (by decide)) dX7_init_10 rfl ?_
  rw [ob_wr]
  refine at_aload_n 14 X rfl rfl dX7_init_13 rfl ?_
  refine at_sipush 17 X (by decide) (by decide) dX7_init_14 rfl ?_
  refine c_newaI 19 6 X (n := 150) rfl (by decide) k_6 (by decide) (by decide) (ovZ0 e_6) (by rw [Rt.1]; exact Nat.le_of_ble_eq_true rfl) (by rw [Rt.1]; exact Nat.le_of_ble_eq_true rfl) dX7_init_17 rfl ?_
  refine at_putfF 22 X hin 4 7 1 clX7 rfl (by decide) w_204 (KT_get (by decide) k_4) rfl (by decide) rfl (fun q => absurd q (by decide)) dX7_init_19 rfl ?_
  rw [ob_wr]
  refine at_aload_n 23 X rfl rfl dX7_init_22 rfl ?_
  refine at_sipush 26 X (by decide) (by decide) dX7_init_23 rfl ?_
  refine c_newaI 28 7 X (n := 150) rfl (by decide) k_7 (by decide) (by decide) (ovZ0 e_7) (by rw [Rt.1]; exact Nat.le_of_ble_eq_true rfl) (by rw [Rt.1]; exact Nat.le_of_ble_eq_true rfl) dX7_init_26 rfl ?_
  refine at_putfF 31 X hin 4 7 2 clX7 rfl (by decide) w_205 (KT_get (by decide) k_4) rfl (by decide) rfl (fun q => absurd q (by decide)) dX7_init_28 rfl ?_
  rw [ob_wr]
  refine at_aload_n 32 X rfl rfl dX7_init_31 rfl ?_
  refine at_callV 35 X _ 7 (ct_X7_setPlain hG _ 4 (KT_get (by decide) k_4) (KT_get (by decide) k_5) (KT_get (by decide) k_6) (by rw [ob_at]; rfl) (by rw [ob_at]; rfl)) clX7 rfl (KT_get (by decide) k_4) mo_X7_setPlain w_195 vo_X7_setPlain.1 vo_X7_setPlain.2 rfl rfl (crm Rt (by decide)) (Nat.le_of_ble_eq_true rfl) dX7_init_32 rfl ?_
  rintro _ _ ⟨rfl, rfl⟩
  refine at_agree (D' := mg 4 (ov EI) D) (fun q kq hq j hj => ?_) (at_vret X Rt ⟨rfl, rfl⟩ (Nat.le_of_ble_eq_true rfl) (Nat.le_of_ble_eq_true rfl) dX7_init_35)
  obtain ⟨h1, h2⟩ := KT_lt hq
  unfold mg
  by_cases c : q < 4
  · rw [if_pos c, plainL_lt c, ob_lt c]
  · have hg : (ob (ov fun _ _ => 0) 4 (fz (14, 0)) [(2, 7), (1, 6), (0, 5)] D) q j = (ob (ov fun _ _ => 0) 4 (fz (14, 0)) [(2, 7), (1, 6), (0, 5)] (fun _ _ => 0)) q j := by unfold ob; rw [if_neg c, if_neg c]
    rw [if_neg c]
    refine (plainL_ge hg).trans ?_
    rcases (show q = 4 ∨ q = 5 ∨ q = 6 ∨ q = 7 by omega) with rfl | rfl | rfl | rfl
    · rw [k_4] at h2; cases h2; exact (by decide +kernel : ∀ j, j < slen (14, 0) → plainL (ob (ov fun _ _ => 0) 4 (fz (14, 0)) [(2, 7), (1, 6), (0, 5)] (fun _ _ => 0)) 4 4 j = ov EI 4 j) j hj
    · rw [k_5] at h2; cases h2; exact (by decide +kernel : ∀ j, j < slen (0, 150) → plainL (ob (ov fun _ _ => 0) 4 (fz (14, 0)) [(2, 7), (1, 6), (0, 5)] (fun _ _ => 0)) 4 5 j = ov EI 5 j) j hj
    · rw [k_6] at h2; cases h2; exact (by decide +kernel : ∀ j, j < slen (0, 150) → plainL (ob (ov fun _ _ => 0) 4 (fz (14, 0)) [(2, 7), (1, 6), (0, 5)] (fun _ _ => 0)) 4 6 j = ov EI 6 j) j hj
    · rw [k_7] at h2; cases h2; exact (by decide +kernel : ∀ j, j < slen (0, 150) → plainL (ob (ov fun _ _ => 0) 4 (fz (14, 0)) [(2, 7), (1, 6), (0, 5)] (fun _ _ => 0)) 4 7 j = ov EI 7 j) j hj
theorem cc_X7_init_8 {g : Gw} (hG : GF g) (D : Mm) (hD : ∀ j, D 8 j = fz (14, 0) j) : CT g yX7_init cX7_init 1 none 2 42 3 450 (KT 9) true [mR 8] D (KT 12) true (fun r D' => r = none ∧ D' = mg 8 (ov EI) D) := by
  refine CT.mk hG (by decide +kernel) (by decide) (fun κ X Rt hin2 _ => ?_)
  have hin := hin2 rfl
  refine c_open (a := 8) (ov fun _ _ => 0) hD ?_
  refine at_aload_n 1 X rfl rfl dX7_init_0 rfl ?_
  refine at_objInit 4 X w_194 w_156 w_157 (by rw [Rt.1]; exact Nat.le_of_ble_eq_true rfl) (by rw [Rt.1]; exact Nat.le_of_ble_eq_true rfl) dX7_init_1 rfl ?_
  refine at_aload_n 5 X rfl rfl dX7_init_4 rfl ?_
  refine at_sipush 8 X (by decide) (by decide) dX7_init_5 rfl ?_
  refine c_newaI 10 9 X (n := 150) rfl (by decide) k_9 (by decide) (by decide) (ovZ0 e_9) (by rw [Rt.1]; exact Nat.le_of_ble_eq_true rfl) (by rw [Rt.1]; exact Nat.le_of_ble_eq_true rfl) dX7_init_8 rfl ?_
  refine at_putfF 13 X hin 8 7 0 clX7 rfl (by decide) w_203 (KT_get (by decide) k_8) rfl (by decide) rfl (fun q => absurd q (by decide)) dX7_init_10 rfl ?_
  rw [ob_wr]
  refine at_aload_n 14 X rfl rfl dX7_init_13 rfl ?_
  refine at_sipush 17 X (by decide) (by decide) dX7_init_14 rfl ?_
  refine c_newaI 19 10 X (n := 150) rfl (by decide) k_10 (by decide) (by decide) (ovZ0 e_10) (by rw [Rt.1]; exact Nat.le_of_ble_eq_true rfl) (by rw [Rt.1]; exact Nat.le_of_ble_eq_true rfl) dX7_init_17 rfl ?_
  refine at_putfF 22 X hin 8 7 1 clX7 rfl (by decide) w_204 (KT_get (by decide) k_8) rfl (by decide) rfl (fun q => absurd q (by decide)) dX7_init_19 rfl ?_
  rw [ob_wr]
  refine at_aload_n 23 X rfl rfl dX7_init_22 rfl ?_
  refine at_sipush 26 X (by decide) (by decide) dX7_init_23 rfl ?_
  refine c_newaI 28 11 X (n := 150) rfl (by decide) k_11 (by decide) (by decide) (ovZ0 e_11) (by rw [Rt.1]; exact Nat.le_of_ble_eq_true rfl) (by rw [Rt.1]; exact Nat.le_of_ble_eq_true rfl) dX7_init_26 rfl ?_
  refine at_putfF 31 X hin 8 7 2 clX7 rfl (by decide) w_205 (KT_get (by decide) k_8) rfl (by decide) rfl (fun q => absurd q (by decide)) dX7_init_28 rfl ?_
  rw [ob_wr]
  refine at_aload_n 32 X rfl rfl dX7_init_31 rfl ?_
  refine at_callV 35 X _ 7 (ct_X7_setPlain hG _ 8 (KT_get (by decide) k_8) (KT_get (by decide) k_9) (KT_get (by decide) k_10) (by rw [ob_at]; rfl) (by rw [ob_at]; rfl)) clX7 rfl (KT_get (by decide) k_8) mo_X7_setPlain w_195 vo_X7_setPlain.1 vo_X7_setPlain.2 rfl rfl (crm Rt (by decide)) (Nat.le_of_ble_eq_true rfl) dX7_init_32 rfl ?_
  rintro _ _ ⟨rfl, rfl⟩
  refine at_agree (D' := mg 8 (ov EI) D) (fun q kq hq j hj => ?_) (at_vret X Rt ⟨rfl, rfl⟩ (Nat.le_of_ble_eq_true rfl) (Nat.le_of_ble_eq_true rfl) dX7_init_35)
  obtain ⟨h1, h2⟩ := KT_lt hq
  unfold mg
  by_cases c : q < 8
  · rw [if_pos c, plainL_lt c, ob_lt c]
  · have hg : (ob (ov fun _ _ => 0) 8 (fz (14, 0)) [(2, 11), (1, 10), (0, 9)] D) q j = (ob (ov fun _ _ => 0) 8 (fz (14, 0)) [(2, 11), (1, 10), (0, 9)] (fun _ _ => 0)) q j := by unfold ob; rw [if_neg c, if_neg c]
    rw [if_neg c]
    refine (plainL_ge hg).trans ?_
    rcases (show q = 8 ∨ q = 9 ∨ q = 10 ∨ q = 11 by omega) with rfl | rfl | rfl | rfl
    · rw [k_8] at h2; cases h2; exact (by decide +kernel : ∀ j, j < slen (14, 0) → plainL (ob (ov fun _ _ => 0) 8 (fz (14, 0)) [(2, 11), (1, 10), (0, 9)] (fun _ _ => 0)) 8 8 j = ov EI 8 j) j hj
    · rw [k_9] at h2; cases h2; exact (by decide +kernel : ∀ j, j < slen (0, 150) → plainL (ob (ov fun _ _ => 0) 8 (fz (14, 0)) [(2, 11), (1, 10), (0, 9)] (fun _ _ => 0)) 8 9 j = ov EI 9 j) j hj
    · rw [k_10] at h2; cases h2; exact (by decide +kernel : ∀ j, j < slen (0, 150) → plainL (ob (ov fun _ _ => 0) 8 (fz (14, 0)) [(2, 11), (1, 10), (0, 9)] (fun _ _ => 0)) 8 10 j = ov EI 10 j) j hj
    · rw [k_11] at h2; cases h2; exact (by decide +kernel : ∀ j, j < slen (0, 150) → plainL (ob (ov fun _ _ => 0) 8 (fz (14, 0)) [(2, 11), (1, 10), (0, 9)] (fun _ _ => 0)) 8 11 j = ov EI 11 j) j hj
theorem cc_X9_init_68 {g : Gw} (hG : GF g) (D : Mm) (hD : ∀ j, D 68 j = fz (16, 0) j) : CT g yX9_init cX9_init 1 none 3 63 14 284 (KT 69) true [mR 68] D (KT 83) true (fun r D' => r = none ∧ D' = mg 68 (ov EI) D) := by
  refine CT.mk hG (by decide +kernel) (by decide) (fun κ X Rt hin2 _ => ?_)
  have hin := hin2 rfl
  refine c_open (a := 68) (ov fun _ _ => 0) hD ?_
  refine at_aload_n 1 X rfl rfl dX9_init_0 rfl ?_
  refine at_objInit 4 X w_416 w_156 w_157 (by rw [Rt.1]; exact Nat.le_of_ble_eq_true rfl) (by rw [Rt.1]; exact Nat.le_of_ble_eq_true rfl) dX9_init_1 rfl ?_
  refine at_aload_n 5 X rfl rfl dX9_init_4 rfl ?_
  refine at_bipush 7 X (by decide) (by decide) dX9_init_5 rfl ?_
  refine c_newaI 9 69 X (n := 10) rfl (by decide) k_69 (by decide) (by decide) (ovZ0 e_69) (by rw [Rt.1]; exact Nat.le_of_ble_eq_true rfl) (by rw [Rt.1]; exact Nat.le_of_ble_eq_true rfl) dX9_init_7 rfl ?_
  refine at_putfF 12 X hin 68 9 0 clX9 rfl (by decide) w_484 (KT_get (by decide) k_68) rfl (by decide) rfl (fun q => absurd q (by decide)) dX9_init_9 rfl ?_
  rw [ob_wr]
  refine at_aload_n 13 X rfl rfl dX9_init_12 rfl ?_
  refine at_bipush 15 X (by decide) (by decide) dX9_init_13 rfl ?_
  refine c_newaI 17 70 X (n := 10) rfl (by decide) k_70 (by decide) (by decide) (ovZ0 e_70) (by rw [Rt.1]; exact Nat.le_of_ble_eq_true rfl) (by rw [Rt.1]; exact Nat.le_of_ble_eq_true rfl) dX9_init_15 rfl ?_
  refine at_putfF 20 X hin 68 9 1 clX9 rfl (by decide) w_487 (KT_get (by decide) k_68) rfl (by decide) rfl (fun q => absurd q (by decide)) dX9_init_17 rfl ?_
  rw [ob_wr]
  refine at_aload_n 21 X rfl rfl dX9_init_20 rfl ?_
  refine at_bipush 23 X (by decide) (by decide) dX9_init_21 rfl ?_
  refine c_newaI 25 71 X (n := 24) rfl (by decide) k_71 (by decide) (by decide) (ovZ0 e_71) (by rw [Rt.1]; exact Nat.le_of_ble_eq_true rfl) (by rw [Rt.1]; exact Nat.le_of_ble_eq_true rfl) dX9_init_23 rfl ?_
  refine at_putfF 28 X hin 68 9 2 clX9 rfl (by decide) w_492 (KT_get (by decide) k_68) rfl (by decide) rfl (fun q => absurd q (by decide)) dX9_init_25 rfl ?_
  rw [ob_wr]
  refine at_aload_n 29 X rfl rfl dX9_init_28 rfl ?_
  refine at_bipush 31 X (by decide) (by decide) dX9_init_29 rfl ?_
  refine c_newaI 33 72 X (n := 24) rfl (by decide) k_72 (by decide) (by decide) (ovZ0 e_72) (by rw [Rt.1]; exact Nat.le_of_ble_eq_true rfl) (by rw [Rt.1]; exact Nat.le_of_ble_eq_true rfl) dX9_init_31 rfl ?_
  refine at_putfF 36 X hin 68 9 3 clX9 rfl (by decide) w_494 (KT_get (by decide) k_68) rfl (by decide) rfl (fun q => absurd q (by decide)) dX9_init_33 rfl ?_
  rw [ob_wr]
  refine at_aload_n 37 X rfl rfl dX9_init_36 rfl ?_
  refine at_iconst 38 X (by decide) dX9_init_37 rfl ?_
  refine c_newaI 40 73 X (n := 3) rfl (by decide) k_73 (by decide) (by decide) (ovZ0 e_73) (by rw [Rt.1]; exact Nat.le_of_ble_eq_true rfl) (by rw [Rt.1]; exact Nat.le_of_ble_eq_true rfl) dX9_init_38 rfl ?_
  refine at_putfF 43 X hin 68 9 4 clX9 rfl (by decide) w_496 (KT_get (by decide) k_68) rfl (by decide) rfl (fun q => absurd q (by decide)) dX9_init_40 rfl ?_
  rw [ob_wr]
  refine at_aload_n 44 X rfl rfl dX9_init_43 rfl ?_
  refine at_iconst 45 X (by decide) dX9_init_44 rfl ?_
  refine c_newaI 47 74 X (n := 3) rfl (by decide) k_74 (by decide) (by decide) (ovZ0 e_74) (by rw [Rt.1]; exact Nat.le_of_ble_eq_true rfl) (by rw [Rt.1]; exact Nat.le_of_ble_eq_true rfl) dX9_init_45 rfl ?_
  refine at_putfF 50 X hin 68 9 5 clX9 rfl (by decide) w_497 (KT_get (by decide) k_68) rfl (by decide) rfl (fun q => absurd q (by decide)) dX9_init_47 rfl ?_
  rw [ob_wr]
  refine at_aload_n 51 X rfl rfl dX9_init_50 rfl ?_
  refine at_iconst 52 X (by decide) dX9_init_51 rfl ?_
  refine c_newaI 54 75 X (n := 3) rfl (by decide) k_75 (by decide) (by decide) (ovZ0 e_75) (by rw [Rt.1]; exact Nat.le_of_ble_eq_true rfl) (by rw [Rt.1]; exact Nat.le_of_ble_eq_true rfl) dX9_init_52 rfl ?_
  refine at_putfF 57 X hin 68 9 6 clX9 rfl (by decide) w_498 (KT_get (by decide) k_68) rfl (by decide) rfl (fun q => absurd q (by decide)) dX9_init_54 rfl ?_
  rw [ob_wr]
  refine at_aload_n 58 X rfl rfl dX9_init_57 rfl ?_
  refine c_new 61 76 X clX0 w_417 w_418 w_131 k_76 (by decide) (by rw [Rt.1]; exact Nat.le_of_ble_eq_true rfl) (by rw [Rt.1]; exact Nat.le_of_ble_eq_true rfl) dX9_init_58 rfl ?_
  refine at_dup 62 X (by decide) dX9_init_61 rfl ?_
  refine at_callIN 65 X 76 (cc_X0_init_76 hG _ nz_fz) rfl mo_X0_init w_419 io_X0_init rfl rfl (crm Rt (by decide)) (Nat.le_of_ble_eq_true rfl) dX9_init_62 rfl ?_
  rintro _ _ ⟨rfl, rfl⟩
  refine c_part (by decide) (fun q h1 h2 j => ovEIZ (by have h := (by decide +kernel : ∀ d, d < 7 → eiT.lookup (76 + d) = none) (q - 76) (by omega); rwa [show 76 + (q - 76) = q by omega] at h) j) ?_
  refine at_putfF 68 X hin 68 9 7 clX9 rfl (by decide) w_500 (KT_get (by decide) k_68) rfl (by decide) rfl (fun q => absurd q (by decide)) dX9_init_65 rfl ?_
  rw [ob_wr]
  refine at_aload_n 69 X rfl rfl dX9_init_68 rfl ?_
  refine at_callV 72 X _ 9 (ct_X9_clear hG _ 68 (KT_get (by decide) k_68) (KT_get (by decide) k_71) (KT_get (by decide) k_76) (KT_get (by decide) k_80) (by rw [ob_at]; rfl) (by rw [ob_at]; rfl) (by rw [ob_gt (by decide)]; exact ov_s r_76_3)) clX9 rfl (KT_get (by decide) k_68) mo_X9_clear w_472 vo_X9_clear.1 vo_X9_clear.2 rfl rfl (crm Rt (by decide)) (Nat.le_of_ble_eq_true rfl) dX9_init_69 rfl ?_
  rintro _ _ ⟨rfl, rfl⟩
  refine at_agree (D' := mg 68 (ov EI) D) (fun q kq hq j hj => ?_) (at_vret X Rt ⟨rfl, rfl⟩ (Nat.le_of_ble_eq_true rfl) (Nat.le_of_ble_eq_true rfl) dX9_init_72)
  obtain ⟨h1, h2⟩ := KT_lt hq
  unfold mg
  by_cases c : q < 68
  · rw [if_pos c, clrS_lt c, ob_lt c]
  · have hg : (ob (ov fun _ _ => 0) 68 (fz (16, 0)) [(7, 76), (6, 75), (5, 74), (4, 73), (3, 72), (2, 71), (1, 70), (0, 69)] D) q j = (ob (ov fun _ _ => 0) 68 (fz (16, 0)) [(7, 76), (6, 75), (5, 74), (4, 73), (3, 72), (2, 71), (1, 70), (0, 69)] (fun _ _ => 0)) q j := by unfold ob; rw [if_neg c, if_neg c]
    rw [if_neg c]
    refine (clrS_ge hg).trans ?_
    rcases (show q = 68 ∨ q = 69 ∨ q = 70 ∨ q = 71 ∨ q = 72 ∨ q = 73 ∨ q = 74 ∨ q = 75 ∨ q = 76 ∨ q = 77 ∨ q = 78 ∨ q = 79 ∨ q = 80 ∨ q = 81 ∨ q = 82 by omega) with rfl | rfl | rfl | rfl | rfl | rfl | rfl | rfl | rfl | rfl | rfl | rfl | rfl | rfl | rfl
    · rw [k_68] at h2; cases h2; exact (by decide +kernel : ∀ j, j < slen (16, 0) → clrS (ob (ov fun _ _ => 0) 68 (fz (16, 0)) [(7, 76), (6, 75), (5, 74), (4, 73), (3, 72), (2, 71), (1, 70), (0, 69)] (fun _ _ => 0)) 68 68 j = ov EI 68 j) j hj
    · rw [k_69] at h2; cases h2; exact (by decide +kernel : ∀ j, j < slen (0, 10) → clrS (ob (ov fun _ _ => 0) 68 (fz (16, 0)) [(7, 76), (6, 75), (5, 74), (4, 73), (3, 72), (2, 71), (1, 70), (0, 69)] (fun _ _ => 0)) 68 69 j = ov EI 69 j) j hj
    · rw [k_70] at h2; cases h2; exact (by decide +kernel : ∀ j, j < slen (0, 10) → clrS (ob (ov fun _ _ => 0) 68 (fz (16, 0)) [(7, 76), (6, 75), (5, 74), (4, 73), (3, 72), (2, 71), (1, 70), (0, 69)] (fun _ _ => 0)) 68 70 j = ov EI 70 j) j hj
    · rw [k_71] at h2; cases h2; exact (by decide +kernel : ∀ j, j < slen (0, 24) → clrS (ob (ov fun _ _ => 0) 68 (fz (16, 0)) [(7, 76), (6, 75), (5, 74), (4, 73), (3, 72), (2, 71), (1, 70), (0, 69)] (fun _ _ => 0)) 68 71 j = ov EI 71 j) j hj
    · rw [k_72] at h2; cases h2; exact (by decide +kernel : ∀ j, j < slen (0, 24) → clrS (ob (ov fun _ _ => 0) 68 (fz (16, 0)) [(7, 76), (6, 75), (5, 74), (4, 73), (3, 72), (2, 71), (1, 70), (0, 69)] (fun _ _ => 0)) 68 72 j = ov EI 72 j) j hj
    · rw [k_73] at h2; cases h2; exact (by decide +kernel : ∀ j, j < slen (0, 3) → clrS (ob (ov fun _ _ => 0) 68 (fz (16, 0)) [(7, 76), (6, 75), (5, 74), (4, 73), (3, 72), (2, 71), (1, 70), (0, 69)] (fun _ _ => 0)) 68 73 j = ov EI 73 j) j hj
    · rw [k_74] at h2; cases h2; exact (by decide +kernel : ∀ j, j < slen (0, 3) → clrS (ob (ov fun _ _ => 0) 68 (fz (16, 0)) [(7, 76), (6, 75), (5, 74), (4, 73), (3, 72), (2, 71), (1, 70), (0, 69)] (fun _ _ => 0)) 68 74 j = ov EI 74 j) j hj
    · rw [k_75] at h2; cases h2; exact (by decide +kernel : ∀ j, j < slen (0, 3) → clrS (ob (ov fun _ _ => 0) 68 (fz (16, 0)) [(7, 76), (6, 75), (5, 74), (4, 73), (3, 72), (2, 71), (1, 70), (0, 69)] (fun _ _ => 0)) 68 75 j = ov EI 75 j) j hj
    · rw [k_76] at h2; cases h2; exact (by decide +kernel : ∀ j, j < slen (7, 0) → clrS (ob (ov fun _ _ => 0) 68 (fz (16, 0)) [(7, 76), (6, 75), (5, 74), (4, 73), (3, 72), (2, 71), (1, 70), (0, 69)] (fun _ _ => 0)) 68 76 j = ov EI 76 j) j hj
    · rw [k_77] at h2; cases h2; exact (by decide +kernel : ∀ j, j < slen (0, 8) → clrS (ob (ov fun _ _ => 0) 68 (fz (16, 0)) [(7, 76), (6, 75), (5, 74), (4, 73), (3, 72), (2, 71), (1, 70), (0, 69)] (fun _ _ => 0)) 68 77 j = ov EI 77 j) j hj
    · rw [k_78] at h2; cases h2; exact (by decide +kernel : ∀ j, j < slen (0, 8) → clrS (ob (ov fun _ _ => 0) 68 (fz (16, 0)) [(7, 76), (6, 75), (5, 74), (4, 73), (3, 72), (2, 71), (1, 70), (0, 69)] (fun _ _ => 0)) 68 78 j = ov EI 78 j) j hj
    · rw [k_79] at h2; cases h2; exact (by decide +kernel : ∀ j, j < slen (0, 8) → clrS (ob (ov fun _ _ => 0) 68 (fz (16, 0)) [(7, 76), (6, 75), (5, 74), (4, 73), (3, 72), (2, 71), (1, 70), (0, 69)] (fun _ _ => 0)) 68 79 j = ov EI 79 j) j hj
    · rw [k_80] at h2; cases h2; exact (by decide +kernel : ∀ j, j < slen (0, 160) → clrS (ob (ov fun _ _ => 0) 68 (fz (16, 0)) [(7, 76), (6, 75), (5, 74), (4, 73), (3, 72), (2, 71), (1, 70), (0, 69)] (fun _ _ => 0)) 68 80 j = ov EI 80 j) j hj
    · rw [k_81] at h2; cases h2; exact (by decide +kernel : ∀ j, j < slen (3, 8) → clrS (ob (ov fun _ _ => 0) 68 (fz (16, 0)) [(7, 76), (6, 75), (5, 74), (4, 73), (3, 72), (2, 71), (1, 70), (0, 69)] (fun _ _ => 0)) 68 81 j = ov EI 81 j) j hj
    · rw [k_82] at h2; cases h2; exact (by decide +kernel : ∀ j, j < slen (3, 8) → clrS (ob (ov fun _ _ => 0) 68 (fz (16, 0)) [(7, 76), (6, 75), (5, 74), (4, 73), (3, 72), (2, 71), (1, 70), (0, 69)] (fun _ _ => 0)) 68 82 j = ov EI 82 j) j hj
theorem cc_X9_init_83 {g : Gw} (hG : GF g) (D : Mm) (hD : ∀ j, D 83 j = fz (16, 0) j) : CT g yX9_init cX9_init 1 none 3 63 14 284 (KT 84) true [mR 83] D (KT 98) true (fun r D' => r = none ∧ D' = mg 83 (ov EI) D) := by
  refine CT.mk hG (by decide +kernel) (by decide) (fun κ X Rt hin2 _ => ?_)
  have hin := hin2 rfl
  refine c_open (a := 83) (ov fun _ _ => 0) hD ?_
  refine at_aload_n 1 X rfl rfl dX9_init_0 rfl ?_
  refine at_objInit 4 X w_416 w_156 w_157 (by rw [Rt.1]; exact Nat.le_of_ble_eq_true rfl) (by rw [Rt.1]; exact Nat.le_of_ble_eq_true rfl) dX9_init_1 rfl ?_
  refine at_aload_n 5 X rfl rfl dX9_init_4 rfl ?_
  refine at_bipush 7 X (by decide) (by decide) dX9_init_5 rfl ?_
  refine c_newaI 9 84 X (n := 10) rfl (by decide) k_84 (by decide) (by decide) (ovZ0 e_84) (by rw [Rt.1]; exact Nat.le_of_ble_eq_true rfl) (by rw [Rt.1]; exact Nat.le_of_ble_eq_true rfl) dX9_init_7 rfl ?_
  refine at_putfF 12 X hin 83 9 0 clX9 rfl (by decide) w_484 (KT_get (by decide) k_83) rfl (by decide) rfl (fun q => absurd q (by decide)) dX9_init_9 rfl ?_
  rw [ob_wr]
  refine at_aload_n 13 X rfl rfl dX9_init_12 rfl ?_
  refine at_bipush 15 X (by decide) (by decide) dX9_init_13 rfl ?_
  refine c_newaI 17 85 X (n := 10) rfl (by decide) k_85 (by decide) (by decide) (ovZ0 e_85) (by rw [Rt.1]; exact Nat.le_of_ble_eq_true rfl) (by rw [Rt.1]; exact Nat.le_of_ble_eq_true rfl) dX9_init_15 rfl ?_
  refine at_putfF 20 X hin 83 9 1 clX9 rfl (by decide) w_487 (KT_get (by decide) k_83) rfl (by decide) rfl (fun q => absurd q (by decide)) dX9_init_17 rfl ?_
  rw [ob_wr]
  refine at_aload_n 21 X rfl rfl dX9_init_20 rfl ?_
  refine at_bipush 23 X (by decide) (by decide) dX9_init_21 rfl ?_
  refine c_newaI 25 86 X (n := 24) rfl (by decide) k_86 (by decide) (by decide) (ovZ0 e_86) (by rw [Rt.1]; exact Nat.le_of_ble_eq_true rfl) (by rw [Rt.1]; exact Nat.le_of_ble_eq_true rfl) dX9_init_23 rfl ?_
  refine at_putfF 28 X hin 83 9 2 clX9 rfl (by decide) w_492 (KT_get (by decide) k_83) rfl (by decide) rfl (fun q => absurd q (by decide)) dX9_init_25 rfl ?_
  rw [ob_wr]
  refine at_aload_n 29 X rfl rfl dX9_init_28 rfl ?_
  refine at_bipush 31 X (by decide) (by decide) dX9_init_29 rfl ?_
  refine c_newaI 33 87 X (n := 24) rfl (by decide) k_87 (by decide) (by decide) (ovZ0 e_87) (by rw [Rt.1]; exact Nat.le_of_ble_eq_true rfl) (by rw [Rt.1]; exact Nat.le_of_ble_eq_true rfl) dX9_init_31 rfl ?_
  refine at_putfF 36 X hin 83 9 3 clX9 rfl (by decide) w_494 (KT_get (by decide) k_83) rfl (by decide) rfl (fun q => absurd q (by decide)) dX9_init_33 rfl ?_
  rw [ob_wr]
  refine at_aload_n 37 X rfl rfl dX9_init_36 rfl ?_
  refine at_iconst 38 X (by decide) dX9_init_37 rfl ?_
  refine c_newaI 40 88 X (n := 3) rfl (by decide) k_88 (by decide) (by decide) (ovZ0 e_88) (by rw [Rt.1]; exact Nat.le_of_ble_eq_true rfl) (by rw [Rt.1]; exact Nat.le_of_ble_eq_true rfl) dX9_init_38 rfl ?_
  refine at_putfF 43 X hin 83 9 4 clX9 rfl (by decide) w_496 (KT_get (by decide) k_83) rfl (by decide) rfl (fun q => absurd q (by decide)) dX9_init_40 rfl ?_
  rw [ob_wr]
  refine at_aload_n 44 X rfl rfl dX9_init_43 rfl ?_
  refine at_iconst 45 X (by decide) dX9_init_44 rfl ?_
  refine c_newaI 47 89 X (n := 3) rfl (by decide) k_89 (by decide) (by decide) (ovZ0 e_89) (by rw [Rt.1]; exact Nat.le_of_ble_eq_true rfl) (by rw [Rt.1]; exact Nat.le_of_ble_eq_true rfl) dX9_init_45 rfl ?_
  refine at_putfF 50 X hin 83 9 5 clX9 rfl (by decide) w_497 (KT_get (by decide) k_83) rfl (by decide) rfl (fun q => absurd q (by decide)) dX9_init_47 rfl ?_
  rw [ob_wr]
  refine at_aload_n 51 X rfl rfl dX9_init_50 rfl ?_
  refine at_iconst 52 X (by decide) dX9_init_51 rfl ?_
  refine c_newaI 54 90 X (n := 3) rfl (by decide) k_90 (by decide) (by decide) (ovZ0 e_90) (by rw [Rt.1]; exact Nat.le_of_ble_eq_true rfl) (by rw [Rt.1]; exact Nat.le_of_ble_eq_true rfl) dX9_init_52 rfl ?_
  refine at_putfF 57 X hin 83 9 6 clX9 rfl (by decide) w_498 (KT_get (by decide) k_83) rfl (by decide) rfl (fun q => absurd q (by decide)) dX9_init_54 rfl ?_
  rw [ob_wr]
  refine at_aload_n 58 X rfl rfl dX9_init_57 rfl ?_
  refine c_new 61 91 X clX0 w_417 w_418 w_131 k_91 (by decide) (by rw [Rt.1]; exact Nat.le_of_ble_eq_true rfl) (by rw [Rt.1]; exact Nat.le_of_ble_eq_true rfl) dX9_init_58 rfl ?_
  refine at_dup 62 X (by decide) dX9_init_61 rfl ?_
  refine at_callIN 65 X 91 (cc_X0_init_91 hG _ nz_fz) rfl mo_X0_init w_419 io_X0_init rfl rfl (crm Rt (by decide)) (Nat.le_of_ble_eq_true rfl) dX9_init_62 rfl ?_
  rintro _ _ ⟨rfl, rfl⟩
  refine c_part (by decide) (fun q h1 h2 j => ovEIZ (by have h := (by decide +kernel : ∀ d, d < 7 → eiT.lookup (91 + d) = none) (q - 91) (by omega); rwa [show 91 + (q - 91) = q by omega] at h) j) ?_
  refine at_putfF 68 X hin 83 9 7 clX9 rfl (by decide) w_500 (KT_get (by decide) k_83) rfl (by decide) rfl (fun q => absurd q (by decide)) dX9_init_65 rfl ?_
  rw [ob_wr]
  refine at_aload_n 69 X rfl rfl dX9_init_68 rfl ?_
  refine at_callV 72 X _ 9 (ct_X9_clear hG _ 83 (KT_get (by decide) k_83) (KT_get (by decide) k_86) (KT_get (by decide) k_91) (KT_get (by decide) k_95) (by rw [ob_at]; rfl) (by rw [ob_at]; rfl) (by rw [ob_gt (by decide)]; exact ov_s r_91_3)) clX9 rfl (KT_get (by decide) k_83) mo_X9_clear w_472 vo_X9_clear.1 vo_X9_clear.2 rfl rfl (crm Rt (by decide)) (Nat.le_of_ble_eq_true rfl) dX9_init_69 rfl ?_
  rintro _ _ ⟨rfl, rfl⟩
  refine at_agree (D' := mg 83 (ov EI) D) (fun q kq hq j hj => ?_) (at_vret X Rt ⟨rfl, rfl⟩ (Nat.le_of_ble_eq_true rfl) (Nat.le_of_ble_eq_true rfl) dX9_init_72)
  obtain ⟨h1, h2⟩ := KT_lt hq
  unfold mg
  by_cases c : q < 83
  · rw [if_pos c, clrS_lt c, ob_lt c]
  · have hg : (ob (ov fun _ _ => 0) 83 (fz (16, 0)) [(7, 91), (6, 90), (5, 89), (4, 88), (3, 87), (2, 86), (1, 85), (0, 84)] D) q j = (ob (ov fun _ _ => 0) 83 (fz (16, 0)) [(7, 91), (6, 90), (5, 89), (4, 88), (3, 87), (2, 86), (1, 85), (0, 84)] (fun _ _ => 0)) q j := by unfold ob; rw [if_neg c, if_neg c]
    rw [if_neg c]
    refine (clrS_ge hg).trans ?_
    rcases (show q = 83 ∨ q = 84 ∨ q = 85 ∨ q = 86 ∨ q = 87 ∨ q = 88 ∨ q = 89 ∨ q = 90 ∨ q = 91 ∨ q = 92 ∨ q = 93 ∨ q = 94 ∨ q = 95 ∨ q = 96 ∨ q = 97 by omega) with rfl | rfl | rfl | rfl | rfl | rfl | rfl | rfl | rfl | rfl | rfl | rfl | rfl | rfl | rfl
    · rw [k_83] at h2; cases h2; exact (by decide +kernel : ∀ j, j < slen (16, 0) → clrS (ob (ov fun _ _ => 0) 83 (fz (16, 0)) [(7, 91), (6, 90), (5, 89), (4, 88), (3, 87), (2, 86), (1, 85), (0, 84)] (fun _ _ => 0)) 83 83 j = ov EI 83 j) j hj
    · rw [k_84] at h2; cases h2; exact (by decide +kernel : ∀ j, j < slen (0, 10) → clrS (ob (ov fun _ _ => 0) 83 (fz (16, 0)) [(7, 91), (6, 90), (5, 89), (4, 88), (3, 87), (2, 86), (1, 85), (0, 84)] (fun _ _ => 0)) 83 84 j = ov EI 84 j) j hj
    · rw [k_85] at h2; cases h2; exact (by decide +kernel : ∀ j, j < slen (0, 10) → clrS (ob (ov fun _ _ => 0) 83 (fz (16, 0)) [(7, 91), (6, 90), (5, 89), (4, 88), (3, 87), (2, 86), (1, 85), (0, 84)] (fun _ _ => 0)) 83 85 j = ov EI 85 j) j hj
    · rw [k_86] at h2; cases h2; exact (by decide +kernel : ∀ j, j < slen (0, 24) → clrS (ob (ov fun _ _ => 0) 83 (fz (16, 0)) [(7, 91), (6, 90), (5, 89), (4, 88), (3, 87), (2, 86), (1, 85), (0, 84)] (fun _ _ => 0)) 83 86 j = ov EI 86 j) j hj
    · rw [k_87] at h2; cases h2; exact (by decide +kernel : ∀ j, j < slen (0, 24) → clrS (ob (ov fun _ _ => 0) 83 (fz (16, 0)) [(7, 91), (6, 90), (5, 89), (4, 88), (3, 87), (2, 86), (1, 85), (0, 84)] (fun _ _ => 0)) 83 87 j = ov EI 87 j) j hj
    · rw [k_88] at h2; cases h2; exact (by decide +kernel : ∀ j, j < slen (0, 3) → clrS (ob (ov fun _ _ => 0) 83 (fz (16, 0)) [(7, 91), (6, 90), (5, 89), (4, 88), (3, 87), (2, 86), (1, 85), (0, 84)] (fun _ _ => 0)) 83 88 j = ov EI 88 j) j hj
    · rw [k_89] at h2; cases h2; exact (by decide +kernel : ∀ j, j < slen (0, 3) → clrS (ob (ov fun _ _ => 0) 83 (fz (16, 0)) [(7, 91), (6, 90), (5, 89), (4, 88), (3, 87), (2, 86), (1, 85), (0, 84)] (fun _ _ => 0)) 83 89 j = ov EI 89 j) j hj
    · rw [k_90] at h2; cases h2; exact (by decide +kernel : ∀ j, j < slen (0, 3) → clrS (ob (ov fun _ _ => 0) 83 (fz (16, 0)) [(7, 91), (6, 90), (5, 89), (4, 88), (3, 87), (2, 86), (1, 85), (0, 84)] (fun _ _ => 0)) 83 90 j = ov EI 90 j) j hj
    · rw [k_91] at h2; cases h2; exact (by decide +kernel : ∀ j, j < slen (7, 0) → clrS (ob (ov fun _ _ => 0) 83 (fz (16, 0)) [(7, 91), (6, 90), (5, 89), (4, 88), (3, 87), (2, 86), (1, 85), (0, 84)] (fun _ _ => 0)) 83 91 j = ov EI 91 j) j hj
    · rw [k_92] at h2; cases h2; exact (by decide +kernel : ∀ j, j < slen (0, 8) → clrS (ob (ov fun _ _ => 0) 83 (fz (16, 0)) [(7, 91), (6, 90), (5, 89), (4, 88), (3, 87), (2, 86), (1, 85), (0, 84)] (fun _ _ => 0)) 83 92 j = ov EI 92 j) j hj
    · rw [k_93] at h2; cases h2; exact (by decide +kernel : ∀ j, j < slen (0, 8) → clrS (ob (ov fun _ _ => 0) 83 (fz (16, 0)) [(7, 91), (6, 90), (5, 89), (4, 88), (3, 87), (2, 86), (1, 85), (0, 84)] (fun _ _ => 0)) 83 93 j = ov EI 93 j) j hj
    · rw [k_94] at h2; cases h2; exact (by decide +kernel : ∀ j, j < slen (0, 8) → clrS (ob (ov fun _ _ => 0) 83 (fz (16, 0)) [(7, 91), (6, 90), (5, 89), (4, 88), (3, 87), (2, 86), (1, 85), (0, 84)] (fun _ _ => 0)) 83 94 j = ov EI 94 j) j hj
    · rw [k_95] at h2; cases h2; exact (by decide +kernel : ∀ j, j < slen (0, 160) → clrS (ob (ov fun _ _ => 0) 83 (fz (16, 0)) [(7, 91), (6, 90), (5, 89), (4, 88), (3, 87), (2, 86), (1, 85), (0, 84)] (fun _ _ => 0)) 83 95 j = ov EI 95 j) j hj
    · rw [k_96] at h2; cases h2; exact (by decide +kernel : ∀ j, j < slen (3, 8) → clrS (ob (ov fun _ _ => 0) 83 (fz (16, 0)) [(7, 91), (6, 90), (5, 89), (4, 88), (3, 87), (2, 86), (1, 85), (0, 84)] (fun _ _ => 0)) 83 96 j = ov EI 96 j) j hj
    · rw [k_97] at h2; cases h2; exact (by decide +kernel : ∀ j, j < slen (3, 8) → clrS (ob (ov fun _ _ => 0) 83 (fz (16, 0)) [(7, 91), (6, 90), (5, 89), (4, 88), (3, 87), (2, 86), (1, 85), (0, 84)] (fun _ _ => 0)) 83 97 j = ov EI 97 j) j hj
