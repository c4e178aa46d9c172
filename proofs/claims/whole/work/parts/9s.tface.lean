theorem CTX.imp {g : Gw} {y : MethodName} {cc : ByteArray} {maxL : Nat} {ret : Option FieldType} {fr lo mc ms : Nat} {K : Shp} {z : Bool} {avs : List MV} {D : Mm} {K' : Shp} {z' : Bool} {Post Post' : Option MV → Mm → Prop} {PX PX' : String → Mm → Prop} (h : CTX g y cc maxL ret fr lo mc ms K z avs D K' z' Post PX) (hp : ∀ r D', Post r D' → Post' r D') (hx : ∀ X D', PX X D' → PX' X D') : CTX g y cc maxL ret fr lo mc ms K z avs D K' z' Post' PX' := by
  intro ok p e ha hc hk s m args below hf happ hP hK
  obtain ⟨n, o, h1, h2, h3, h4⟩ := h ok p e ha hc hk s m args below hf happ hP hK
  refine ⟨n, o, h1, h2, h3, ?_⟩
  rcases h4 with ⟨⟨⟨r, D', q1, q2, q3, q4⟩, q5⟩, q6⟩ | ⟨q, e1, E2, ce, L, ⟨⟨D', r1, r2⟩, r3⟩, r4⟩
  · exact Or.inl ⟨⟨⟨r, D', q1, q2, hp _ _ q3, q4⟩, q5⟩, q6⟩
  · exact Or.inr ⟨q, e1, E2, ce, L, ⟨⟨D', hx _ _ r1, r2⟩, r3⟩, r4⟩
theorem cpy_0 {D : Mm} {a b n j : Nat} (h : j < n) : cpy D a b 0 0 n b j = D a j := by
  rw [cpy_in (by omega)]
  rw [show 0 + (j - 0) = j by omega]
theorem dX7_copyFrom_0 : decode cX7_copyFrom 0 = .ok (.aload_n 0, 1) := by decide +kernel
theorem dX7_copyFrom_1 : decode cX7_copyFrom 1 = .ok (.aload_n 1, 1) := by decide +kernel
theorem dX7_copyFrom_2 : decode cX7_copyFrom 2 = .ok (.getfield 24, 3) := by decide +kernel
theorem dX7_copyFrom_5 : decode cX7_copyFrom 5 = .ok (.putfield 24, 3) := by decide +kernel
theorem dX7_copyFrom_8 : decode cX7_copyFrom 8 = .ok (.aload_n 1, 1) := by decide +kernel
theorem dX7_copyFrom_9 : decode cX7_copyFrom 9 = .ok (.getfield 9, 3) := by decide +kernel
theorem dX7_copyFrom_12 : decode cX7_copyFrom 12 = .ok (.iconst 0, 1) := by decide +kernel
theorem dX7_copyFrom_13 : decode cX7_copyFrom 13 = .ok (.aload_n 0, 1) := by decide +kernel
theorem dX7_copyFrom_14 : decode cX7_copyFrom 14 = .ok (.getfield 9, 3) := by decide +kernel
theorem dX7_copyFrom_17 : decode cX7_copyFrom 17 = .ok (.iconst 0, 1) := by decide +kernel
theorem dX7_copyFrom_18 : decode cX7_copyFrom 18 = .ok (.sipush 150, 3) := by decide +kernel
theorem dX7_copyFrom_21 : decode cX7_copyFrom 21 = .ok (.invokestatic 32, 3) := by decide +kernel
theorem dX7_copyFrom_24 : decode cX7_copyFrom 24 = .ok (.aload_n 1, 1) := by decide +kernel
theorem dX7_copyFrom_25 : decode cX7_copyFrom 25 = .ok (.getfield 15, 3) := by decide +kernel
theorem dX7_copyFrom_28 : decode cX7_copyFrom 28 = .ok (.iconst 0, 1) := by decide +kernel
theorem dX7_copyFrom_29 : decode cX7_copyFrom 29 = .ok (.aload_n 0, 1) := by decide +kernel
theorem dX7_copyFrom_30 : decode cX7_copyFrom 30 = .ok (.getfield 15, 3) := by decide +kernel
theorem dX7_copyFrom_33 : decode cX7_copyFrom 33 = .ok (.iconst 0, 1) := by decide +kernel
theorem dX7_copyFrom_34 : decode cX7_copyFrom 34 = .ok (.sipush 150, 3) := by decide +kernel
theorem dX7_copyFrom_37 : decode cX7_copyFrom 37 = .ok (.invokestatic 32, 3) := by decide +kernel
theorem dX7_copyFrom_40 : decode cX7_copyFrom 40 = .ok (.return_, 1) := by decide +kernel
theorem ct_X7_copyFrom {g : Gw} (hG : GF g) {z : Bool} (E : Mm) : CT g yX7_copyFrom cX7_copyFrom 2 none 1 24 0 0 K2 z [mR 4, mR 8] (ov E) K2 z (fun r D' => r = none ∧ D' = ov (cpy (cpy (wr E 4 3 (E 8 3)) 9 5 0 0 150) 10 6 0 0 150)) := by
  refine CT.mk hG (by decide +kernel) (Nat.le_of_ble_eq_true rfl) (fun κ X Rt _ ok => ?_)
  refine at_aload_n 1 X rfl rfl dX7_copyFrom_0 rfl ?_
  refine at_aload_n 2 X rfl rfl dX7_copyFrom_1 rfl ?_
  refine m_getIV 5 X (E 8 3) rfl f_X7_24 k_8 rn_8_3 dX7_copyFrom_2 rfl ?_
  refine m_putI 8 X f_X7_24 fw_7_3 k_4 rn_4_3 dX7_copyFrom_5 rfl ?_
  refine at_aload_n 9 X rfl rfl dX7_copyFrom_8 rfl ?_
  refine m_getR 12 X f_X7_9 k_8 r_8_0 dX7_copyFrom_9 rfl ?_
  refine at_iconst 13 X (by decide) dX7_copyFrom_12 rfl ?_
  refine at_aload_n 14 X rfl rfl dX7_copyFrom_13 rfl ?_
  refine m_getR 17 X f_X7_9 k_4 r_4_0 dX7_copyFrom_14 rfl ?_
  refine at_iconst 18 X (by decide) dX7_copyFrom_17 rfl ?_
  refine at_sipush 21 X (by decide) (by decide) dX7_copyFrom_18 rfl ?_
  refine m_copyI 24 X (sp := 0) (dp := 0) (n := 150) rfl rfl rfl k_9 e_9 k_5 e_5 (by decide) (by decide) (by decide) (by decide) w_1156 (by rw [Rt.1]; decide) (by rw [Rt.1]; decide) dX7_copyFrom_21 rfl ?_
  refine at_aload_n 25 X rfl rfl dX7_copyFrom_24 rfl ?_
  refine m_getR 28 X f_X7_15 k_8 r_8_1 dX7_copyFrom_25 rfl ?_
  refine at_iconst 29 X (by decide) dX7_copyFrom_28 rfl ?_
  refine at_aload_n 30 X rfl rfl dX7_copyFrom_29 rfl ?_
  refine m_getR 33 X f_X7_15 k_4 r_4_1 dX7_copyFrom_30 rfl ?_
  refine at_iconst 34 X (by decide) dX7_copyFrom_33 rfl ?_
  refine at_sipush 37 X (by decide) (by decide) dX7_copyFrom_34 rfl ?_
  refine m_copyI 40 X (sp := 0) (dp := 0) (n := 150) rfl rfl rfl k_10 e_10 k_6 e_6 (by decide) (by decide) (by decide) (by decide) w_1156 (by rw [Rt.1]; decide) (by rw [Rt.1]; decide) dX7_copyFrom_37 rfl ?_
  refine at_vret X Rt ?_ (Nat.le_refl _) (Nat.le_refl _) dX7_copyFrom_40
  exact ⟨rfl, rfl⟩
theorem law_copied {E : Mm} {L : LW} (h : CL E 8 L) (hL : L.1 ≤ 150) : CL (cpy (cpy (wr E 4 3 (E 8 3)) 9 5 0 0 150) 10 6 0 0 150) 4 L ∧ ∀ q, ¬ (4 ≤ q ∧ q ≤ 6) → (cpy (cpy (wr E 4 3 (E 8 3)) 9 5 0 0 150) 10 6 0 0 150) q = E q := by
  refine ⟨⟨?_, fun i hi => ⟨?_, ?_⟩⟩, fun q hq => ?_⟩
  · rw [cpy_row (by omega), cpy_row (by omega), wr_s]; exact h.n
  · show _ = L.2.1 i
    rw [cpy_row (by omega), cpy_0 (by omega), wr_o (by omega)]; exact h.s hi
  · show _ = L.2.2 i
    rw [cpy_0 (by omega), cpy_row (by omega), wr_o (by omega)]; exact h.v hi
  · rw [cpy_row (by omega), cpy_row (by omega), wr_row (by omega)]
theorem dX8_copyFrom_0 : decode cX8_copyFrom 0 = .ok (.aload_n 0, 1) := by decide +kernel
theorem dX8_copyFrom_1 : decode cX8_copyFrom 1 = .ok (.aload_n 1, 1) := by decide +kernel
theorem dX8_copyFrom_2 : decode cX8_copyFrom 2 = .ok (.getfield 21, 3) := by decide +kernel
theorem dX8_copyFrom_5 : decode cX8_copyFrom 5 = .ok (.putfield 21, 3) := by decide +kernel
theorem dX8_copyFrom_8 : decode cX8_copyFrom 8 = .ok (.aload_n 1, 1) := by decide +kernel
theorem dX8_copyFrom_9 : decode cX8_copyFrom 9 = .ok (.getfield 9, 3) := by decide +kernel
theorem dX8_copyFrom_12 : decode cX8_copyFrom 12 = .ok (.iconst 0, 1) := by decide +kernel
theorem dX8_copyFrom_13 : decode cX8_copyFrom 13 = .ok (.aload_n 0, 1) := by decide +kernel
theorem dX8_copyFrom_14 : decode cX8_copyFrom 14 = .ok (.getfield 9, 3) := by decide +kernel
theorem dX8_copyFrom_17 : decode cX8_copyFrom 17 = .ok (.iconst 0, 1) := by decide +kernel
theorem dX8_copyFrom_18 : decode cX8_copyFrom 18 = .ok (.bipush 16, 2) := by decide +kernel
theorem dX8_copyFrom_20 : decode cX8_copyFrom 20 = .ok (.invokestatic 25, 3) := by decide +kernel
theorem dX8_copyFrom_23 : decode cX8_copyFrom 23 = .ok (.aload_n 1, 1) := by decide +kernel
theorem dX8_copyFrom_24 : decode cX8_copyFrom 24 = .ok (.getfield 15, 3) := by decide +kernel
theorem dX8_copyFrom_27 : decode cX8_copyFrom 27 = .ok (.iconst 0, 1) := by decide +kernel
theorem dX8_copyFrom_28 : decode cX8_copyFrom 28 = .ok (.aload_n 0, 1) := by decide +kernel
theorem dX8_copyFrom_29 : decode cX8_copyFrom 29 = .ok (.getfield 15, 3) := by decide +kernel
theorem dX8_copyFrom_32 : decode cX8_copyFrom 32 = .ok (.iconst 0, 1) := by decide +kernel
theorem dX8_copyFrom_33 : decode cX8_copyFrom 33 = .ok (.bipush 16, 2) := by decide +kernel
theorem dX8_copyFrom_35 : decode cX8_copyFrom 35 = .ok (.invokestatic 25, 3) := by decide +kernel
theorem dX8_copyFrom_38 : decode cX8_copyFrom 38 = .ok (.aload_n 1, 1) := by decide +kernel
theorem dX8_copyFrom_39 : decode cX8_copyFrom 39 = .ok (.getfield 18, 3) := by decide +kernel
theorem dX8_copyFrom_42 : decode cX8_copyFrom 42 = .ok (.iconst 0, 1) := by decide +kernel
theorem dX8_copyFrom_43 : decode cX8_copyFrom 43 = .ok (.aload_n 0, 1) := by decide +kernel
theorem dX8_copyFrom_44 : decode cX8_copyFrom 44 = .ok (.getfield 18, 3) := by decide +kernel
theorem dX8_copyFrom_47 : decode cX8_copyFrom 47 = .ok (.iconst 0, 1) := by decide +kernel
theorem dX8_copyFrom_48 : decode cX8_copyFrom 48 = .ok (.bipush 16, 2) := by decide +kernel
theorem dX8_copyFrom_50 : decode cX8_copyFrom 50 = .ok (.invokestatic 25, 3) := by decide +kernel
theorem dX8_copyFrom_53 : decode cX8_copyFrom 53 = .ok (.return_, 1) := by decide +kernel
theorem ct_X8_copyFrom {g : Gw} (hG : GF g) {z : Bool} (E : Mm) (a : Nat) (ha : a = 12 ∨ a = 16 ∨ a = 20) : CT g yX8_copyFrom cX8_copyFrom 2 none 1 24 0 0 K2 z [mR a, mR 20] (ov E) K2 z (fun r D' => r = none ∧ D' = ov (cpy (cpy (cpy (wr E a 3 (E 20 3)) 21 (a + 1) 0 0 16) 22 (a + 2) 0 0 16) 23 (a + 3) 0 0 16)) := by
  refine CT.mk hG (by decide +kernel) (Nat.le_of_ble_eq_true rfl) (fun κ X Rt _ ok => ?_)
  refine at_aload_n 1 X rfl rfl dX8_copyFrom_0 rfl ?_
  refine at_aload_n 2 X rfl rfl dX8_copyFrom_1 rfl ?_
  refine m_getIV 5 X (E 20 3) rfl f_X8_21 k_20 rn_20_3 dX8_copyFrom_2 rfl ?_
  refine m_putI 8 X f_X8_21 fw_8_3 (kX8 ha) (nX8_3 ha) dX8_copyFrom_5 rfl ?_
  refine at_aload_n 9 X rfl rfl dX8_copyFrom_8 rfl ?_
  refine m_getR 12 X f_X8_9 k_20 r_20_0 dX8_copyFrom_9 rfl ?_
  refine at_iconst 13 X (by decide) dX8_copyFrom_12 rfl ?_
  refine at_aload_n 14 X rfl rfl dX8_copyFrom_13 rfl ?_
  refine m_getR 17 X f_X8_9 (kX8 ha) (rX8_0 ha) dX8_copyFrom_14 rfl ?_
  refine at_iconst 18 X (by decide) dX8_copyFrom_17 rfl ?_
  refine at_bipush 20 X (by decide) (by decide) dX8_copyFrom_18 rfl ?_
  refine m_copyI 23 X (sp := 0) (dp := 0) (n := 16) rfl rfl rfl k_21 e_21 (kX8_0 ha) (eX8_0 ha) (by decide) (by decide) (by decide) (by decide) w_1180 (by rw [Rt.1]; decide) (by rw [Rt.1]; decide) dX8_copyFrom_20 rfl ?_
  refine at_aload_n 24 X rfl rfl dX8_copyFrom_23 rfl ?_
  refine m_getR 27 X f_X8_15 k_20 r_20_1 dX8_copyFrom_24 rfl ?_
  refine at_iconst 28 X (by decide) dX8_copyFrom_27 rfl ?_
  refine at_aload_n 29 X rfl rfl dX8_copyFrom_28 rfl ?_
  refine m_getR 32 X f_X8_15 (kX8 ha) (rX8_1 ha) dX8_copyFrom_29 rfl ?_
  refine at_iconst 33 X (by decide) dX8_copyFrom_32 rfl ?_
  refine at_bipush 35 X (by decide) (by decide) dX8_copyFrom_33 rfl ?_
  refine m_copyI 38 X (sp := 0) (dp := 0) (n := 16) rfl rfl rfl k_22 e_22 (kX8_1 ha) (eX8_1 ha) (by decide) (by decide) (by decide) (by decide) w_1180 (by rw [Rt.1]; decide) (by rw [Rt.1]; decide) dX8_copyFrom_35 rfl ?_
  refine at_aload_n 39 X rfl rfl dX8_copyFrom_38 rfl ?_
  refine m_getR 42 X f_X8_18 k_20 r_20_2 dX8_copyFrom_39 rfl ?_
  refine at_iconst 43 X (by decide) dX8_copyFrom_42 rfl ?_
  refine at_aload_n 44 X rfl rfl dX8_copyFrom_43 rfl ?_
  refine m_getR 47 X f_X8_18 (kX8 ha) (rX8_2 ha) dX8_copyFrom_44 rfl ?_
  refine at_iconst 48 X (by decide) dX8_copyFrom_47 rfl ?_
  refine at_bipush 50 X (by decide) (by decide) dX8_copyFrom_48 rfl ?_
  refine m_copyI 53 X (sp := 0) (dp := 0) (n := 16) rfl rfl rfl k_23 e_23 (kX8_2 ha) (eX8_2 ha) (by decide) (by decide) (by decide) (by decide) w_1180 (by rw [Rt.1]; decide) (by rw [Rt.1]; decide) dX8_copyFrom_50 rfl ?_
  refine at_vret X Rt ?_ (Nat.le_refl _) (Nat.le_refl _) dX8_copyFrom_53
  exact ⟨rfl, rfl⟩
theorem lines_copied {E : Mm} {a : Nat} {T : LN} (ha : a = 12 ∨ a = 16) (h : CN E 20 T) (hT : T.1 ≤ 16) : CN (cpy (cpy (cpy (wr E a 3 (E 20 3)) 21 (a + 1) 0 0 16) 22 (a + 2) 0 0 16) 23 (a + 3) 0 0 16) a T ∧ ∀ q, ¬ (a ≤ q ∧ q ≤ a + 3) → (cpy (cpy (cpy (wr E a 3 (E 20 3)) 21 (a + 1) 0 0 16) 22 (a + 2) 0 0 16) 23 (a + 3) 0 0 16) q = E q := by
  refine ⟨⟨?_, fun i hi => ⟨?_, ?_, ?_⟩⟩, fun q hq => ?_⟩
  · rw [cpy_row (by omega), cpy_row (by omega), cpy_row (by omega), wr_s]; exact h.n
  · rw [cpy_row (by omega), cpy_row (by omega), cpy_0 (by omega), wr_o (by omega)]; exact h.a hi
  · rw [cpy_row (by omega), cpy_0 (by omega), cpy_row (by omega), wr_o (by omega)]; exact h.b hi
  · rw [cpy_0 (by omega), cpy_row (by omega), cpy_row (by omega), wr_o (by omega)]; exact h.c hi
  · rw [cpy_row (by omega), cpy_row (by omega), cpy_row (by omega), wr_row (by omega)]
theorem addL_ov4 {E : Mm} {m : Nat} {w v : Int} : addL (ov E) 4 m w v = ov (addL E 4 m w v) := by
  unfold addL
  split
  · rw [ov_wr (rtv_e e_5 _), ov_wr (rtv_e e_6 _), ov_wr rn_4_3]
  · rfl
theorem plain_ov (E : Mm) : plainL (ov E) 4 = ov (plainL E 4) := by
  unfold plainL
  rw [ov_wr rn_4_3, addL_ov4, addL_ov4, addL_ov4]
theorem plain_eq (E : Mm) : plainL E 4 = wr (wr (wr (wr (wr (wr (wr (wr (wr (wr E 4 3 0) 5 0 1) 6 0 0) 4 3 ((0 + 1 : Nat) : Int)) 5 1 0) 6 1 20) 4 3 ((1 + 1 : Nat) : Int)) 5 2 7) 6 2 0) 4 3 ((2 + 1 : Nat) : Int) := by
  unfold plainL addL
  rw [if_pos (by decide), if_pos (by decide), if_pos (by decide)]
theorem plain_CL (E : Mm) : CL (plainL E 4) 4 plL ∧ ∀ q, ¬ (4 ≤ q ∧ q ≤ 6) → plainL E 4 q = E q := by
  rw [plain_eq]
  refine ⟨⟨wr_s _ _ _ _, fun i hi => ?_⟩, fun q hq => by simp (disch := omega) only [wr_row]⟩
  have hi' : i < 3 := hi
  rcases (show i = 0 ∨ i = 1 ∨ i = 2 by omega) with rfl | rfl | rfl
  · exact ⟨by simp (disch := omega) only [wr_o, wr_s]; rfl, by simp (disch := omega) only [wr_o, wr_s]; rfl⟩
  · exact ⟨by simp (disch := omega) only [wr_o, wr_s]; rfl, by simp (disch := omega) only [wr_o, wr_s]; rfl⟩
  · exact ⟨by simp (disch := omega) only [wr_o, wr_s]; rfl, by simp (disch := omega) only [wr_o, wr_s]; rfl⟩
theorem dX11_forgetStreet_0 : decode cX11_forgetStreet 0 = .ok (.aload_n 0, 1) := by decide +kernel
theorem dX11_forgetStreet_1 : decode cX11_forgetStreet 1 = .ok (.iconst 0, 1) := by decide +kernel
theorem dX11_forgetStreet_2 : decode cX11_forgetStreet 2 = .ok (.putfield 171, 3) := by decide +kernel
theorem dX11_forgetStreet_5 : decode cX11_forgetStreet 5 = .ok (.aload_n 0, 1) := by decide +kernel
theorem dX11_forgetStreet_6 : decode cX11_forgetStreet 6 = .ok (.getfield 23, 3) := by decide +kernel
theorem dX11_forgetStreet_9 : decode cX11_forgetStreet 9 = .ok (.invokevirtual 174, 3) := by decide +kernel
theorem dX11_forgetStreet_12 : decode cX11_forgetStreet 12 = .ok (.aload_n 0, 1) := by decide +kernel
theorem dX11_forgetStreet_13 : decode cX11_forgetStreet 13 = .ok (.getfield 33, 3) := by decide +kernel
theorem dX11_forgetStreet_16 : decode cX11_forgetStreet 16 = .ok (.iconst 0, 1) := by decide +kernel
theorem dX11_forgetStreet_17 : decode cX11_forgetStreet 17 = .ok (.putfield 156, 3) := by decide +kernel
theorem dX11_forgetStreet_20 : decode cX11_forgetStreet 20 = .ok (.aload_n 0, 1) := by decide +kernel
theorem dX11_forgetStreet_21 : decode cX11_forgetStreet 21 = .ok (.getfield 37, 3) := by decide +kernel
theorem dX11_forgetStreet_24 : decode cX11_forgetStreet 24 = .ok (.iconst 0, 1) := by decide +kernel
theorem dX11_forgetStreet_25 : decode cX11_forgetStreet 25 = .ok (.putfield 156, 3) := by decide +kernel
theorem dX11_forgetStreet_28 : decode cX11_forgetStreet 28 = .ok (.aload_n 0, 1) := by decide +kernel
theorem dX11_forgetStreet_29 : decode cX11_forgetStreet 29 = .ok (.getfield 46, 3) := by decide +kernel
theorem dX11_forgetStreet_32 : decode cX11_forgetStreet 32 = .ok (.iconst 0, 1) := by decide +kernel
theorem dX11_forgetStreet_33 : decode cX11_forgetStreet 33 = .ok (.putfield 177, 3) := by decide +kernel
theorem dX11_forgetStreet_36 : decode cX11_forgetStreet 36 = .ok (.aload_n 0, 1) := by decide +kernel
theorem dX11_forgetStreet_37 : decode cX11_forgetStreet 37 = .ok (.iconst 0, 1) := by decide +kernel
theorem dX11_forgetStreet_38 : decode cX11_forgetStreet 38 = .ok (.putfield 178, 3) := by decide +kernel
theorem dX11_forgetStreet_41 : decode cX11_forgetStreet 41 = .ok (.aload_n 0, 1) := by decide +kernel
theorem dX11_forgetStreet_42 : decode cX11_forgetStreet 42 = .ok (.iconst 1, 1) := by decide +kernel
theorem dX11_forgetStreet_43 : decode cX11_forgetStreet 43 = .ok (.putfield 100, 3) := by decide +kernel
theorem dX11_forgetStreet_46 : decode cX11_forgetStreet 46 = .ok (.return_, 1) := by decide +kernel
theorem ct_X11_forgetStreet {g : Gw} (hG : GF g) {z : Bool} (E : Mm) : CT g yX11_forgetStreet cX11_forgetStreet 1 none 2 42 0 0 K2 z [mR 0] (ov E) K2 z (fun r D' => r = none ∧ D' = ov (wr (wr (wr (wr (wr (plainL (wr E 0 17 0) 4) 12 3 0) 16 3 0) 24 4 0) 0 18 0) 0 19 1)) := by
  refine CT.mk hG (by decide +kernel) (Nat.le_of_ble_eq_true rfl) (fun κ X Rt _ ok => ?_)
  refine at_aload_n 1 X rfl rfl dX11_forgetStreet_0 rfl ?_
  refine at_iconst 2 X (by decide) dX11_forgetStreet_1 rfl ?_
  refine m_putI 5 X f_X11_171 fw_11_17 k_0 rn_0_17 dX11_forgetStreet_2 rfl ?_
  refine at_aload_n 6 X rfl rfl dX11_forgetStreet_5 rfl ?_
  refine m_getR 9 X f_X11_23 k_0 r_0_2 dX11_forgetStreet_6 rfl ?_
  refine at_callV 12 X _ 7 (ct_X7_setPlain hG (ov (wr E 0 17 0)) 4 k_4 k_5 k_6 (ov_s r_4_0) (ov_s r_4_1)) clX7 rfl k_4 mo_X7_setPlain w_1104 vo_X7_setPlain.1 vo_X7_setPlain.2 rfl rfl (crm Rt (by decide)) (Nat.le_of_ble_eq_true rfl) dX11_forgetStreet_9 rfl ?_
  rintro _ _ ⟨rfl, rfl⟩
  rw [plain_ov]
  refine at_aload_n 13 X rfl rfl dX11_forgetStreet_12 rfl ?_
  refine m_getR 16 X f_X11_33 k_0 r_0_4 dX11_forgetStreet_13 rfl ?_
  refine at_iconst 17 X (by decide) dX11_forgetStreet_16 rfl ?_
  refine m_putI 20 X f_X11_156 fw_8_3 k_12 rn_12_3 dX11_forgetStreet_17 rfl ?_
  refine at_aload_n 21 X rfl rfl dX11_forgetStreet_20 rfl ?_
  refine m_getR 24 X f_X11_37 k_0 r_0_5 dX11_forgetStreet_21 rfl ?_
  refine at_iconst 25 X (by decide) dX11_forgetStreet_24 rfl ?_
  refine m_putI 28 X f_X11_156 fw_8_3 k_16 rn_16_3 dX11_forgetStreet_25 rfl ?_
  refine at_aload_n 29 X rfl rfl dX11_forgetStreet_28 rfl ?_
  refine m_getR 32 X f_X11_46 k_0 r_0_7 dX11_forgetStreet_29 rfl ?_
  refine at_iconst 33 X (by decide) dX11_forgetStreet_32 rfl ?_
  refine m_putI 36 X f_X11_177 fw_2_4 k_24 rn_24_4 dX11_forgetStreet_33 rfl ?_
  refine at_aload_n 37 X rfl rfl dX11_forgetStreet_36 rfl ?_
  refine at_iconst 38 X (by decide) dX11_forgetStreet_37 rfl ?_
  refine m_putI 41 X f_X11_178 fw_11_18 k_0 rn_0_18 dX11_forgetStreet_38 rfl ?_
  refine at_aload_n 42 X rfl rfl dX11_forgetStreet_41 rfl ?_
  refine at_iconst 43 X (by decide) dX11_forgetStreet_42 rfl ?_
  refine m_putZ 46 X (by decide) f_X11_100 fz_11_19 k_0 rn_0_19 dX11_forgetStreet_43 rfl ?_
  refine at_vret X Rt ?_ (Nat.le_refl _) (Nat.le_refl _) dX11_forgetStreet_46
  exact ⟨rfl, rfl⟩
theorem open_TP {E : Mm} {sz n : Nat} (h : TAPE E sz) (hn : n ≤ sz) : TP (openE E (n : Int)) (E 126) n (0, 0, 0, -1) ∧ (∀ q, q ≠ 1 → openE E (n : Int) q = E q) ∧ openE E (n : Int) 1 1 = 0 := by
  obtain ⟨h1, h2, h3, h4⟩ := h
  refine ⟨⟨⟨by omega, Nat.le_refl _, Nat.zero_le _⟩, ?_, ?_, rfl, rfl, rfl, rfl⟩, fun q hq => ?_, ?_⟩
  · rw [openE_eq]; simp (disch := omega) only [wr_o, wr_s]
  · intro k hk
    have e : openE E (n : Int) 2 = E 2 := by rw [openE_eq]; simp (disch := omega) only [wr_row]
    rw [e]
    exact h4 k (by omega)
  · rw [openE_eq]; simp (disch := omega) only [wr_row]
  · rw [openE_eq]; simp (disch := omega) only [wr_o, wr_s]
theorem CXI.fr2 {E E1 : Mm} {s d : Nat} {P : SP} {L : LW} {T K : LN} (h : CXI E s P L T K d) (hf : ∀ q, q = 0 ∨ (s ≤ q ∧ q ≤ s + 14) ∨ (4 ≤ q ∧ q ≤ 6) ∨ (12 ≤ q ∧ q ≤ 19) ∨ (30 ≤ q ∧ q ≤ 53) → E1 q = E q) : CXI E1 s P L T K d := by
  have e0 := hf 0 (by omega)
  refine ⟨h.sa, by rw [e0]; exact h.now, by rw [e0]; exact h.2.2.1, h.S.fr (fun q a b => hf q (by omega)), h.WS, h.DX, h.Lw.fr (fun q a b => hf q (by omega)), h.WL, h.Tn.fr (fun q a b => hf q (by omega)), h.WT, h.Kn.fr (fun q a b => hf q (by omega)), h.WK, by rw [e0]; exact h.dy, h.dl, ?_⟩
  rw [e0]
  rcases h.st with q | q
  · exact Or.inl q
  · exact Or.inr ⟨q.1, q.2.fr (fun q a b c => hf q (by omega))⟩
/-- what a text leaves of the class's other cells: the tape is empty, the fault's place is so -/
def TXO (E E1 : Mm) (t : TS) : Prop := E1 1 1 = 0 ∧ E1 1 6 = t.2.2.2 ∧ ∀ q, ¬ (q ≤ 1 ∨ (4 ≤ q ∧ q ≤ 24) ∨ (68 ≤ q ∧ q ≤ 97)) → E1 q = E q
def ln00 : LN := (0, fun _ => 0, fun _ => 0, fun _ => 0)
theorem plL_WL : WL plL := by
  refine ⟨by decide, by decide, fun i hi => ?_, by decide⟩
  have hi' : i < 3 := hi
  rcases (show i = 0 ∨ i = 1 ∨ i = 2 by omega) with rfl | rfl | rfl <;> decide
theorem dX11_street_0 : decode cX11_street 0 = .ok (.aload_n 0, 1) := by decide +kernel
theorem dX11_street_1 : decode cX11_street 1 = .ok (.iload_n 1, 1) := by decide +kernel
theorem dX11_street_2 : decode cX11_street 2 = .ok (.sipush 600, 3) := by decide +kernel
theorem dX11_street_5 : decode cX11_street 5 = .ok (.invokevirtual 117, 3) := by decide +kernel
theorem dX11_street_8 : decode cX11_street 8 = .ok (.aload_n 0, 1) := by decide +kernel
theorem dX11_street_9 : decode cX11_street 9 = .ok (.getfield 97, 3) := by decide +kernel
theorem dX11_street_12 : decode cX11_street 12 = .ok (.aload_n 0, 1) := by decide +kernel
theorem dX11_street_13 : decode cX11_street 13 = .ok (.getfield 12, 3) := by decide +kernel
theorem dX11_street_16 : decode cX11_street 16 = .ok (.invokevirtual 121, 3) := by decide +kernel
theorem dX11_street_19 : decode cX11_street 19 = .ok (.aload_n 0, 1) := by decide +kernel
theorem dX11_street_20 : decode cX11_street 20 = .ok (.getfield 12, 3) := by decide +kernel
theorem dX11_street_23 : decode cX11_street 23 = .ok (.invokevirtual 125, 3) := by decide +kernel
theorem dX11_street_26 : decode cX11_street 26 = .ok (.ifCond .eq 11, 3) := by decide +kernel
theorem dX11_street_29 : decode cX11_street 29 = .ok (.aload_n 0, 1) := by decide +kernel
theorem dX11_street_30 : decode cX11_street 30 = .ok (.getfield 12, 3) := by decide +kernel
theorem dX11_street_33 : decode cX11_street 33 = .ok (.invokevirtual 128, 3) := by decide +kernel
theorem dX11_street_36 : decode cX11_street 36 = .ok (.ireturn, 1) := by decide +kernel
theorem dX11_street_37 : decode cX11_street 37 = .ok (.aload_n 0, 1) := by decide +kernel
theorem dX11_street_38 : decode cX11_street 38 = .ok (.getfield 93, 3) := by decide +kernel
theorem dX11_street_41 : decode cX11_street 41 = .ok (.astore_n 2, 1) := by decide +kernel
theorem dX11_street_42 : decode cX11_street 42 = .ok (.aload_n 0, 1) := by decide +kernel
theorem dX11_street_43 : decode cX11_street 43 = .ok (.aload_n 0, 1) := by decide +kernel
theorem dX11_street_44 : decode cX11_street 44 = .ok (.getfield 97, 3) := by decide +kernel
theorem dX11_street_47 : decode cX11_street 47 = .ok (.putfield 93, 3) := by decide +kernel
theorem dX11_street_50 : decode cX11_street 50 = .ok (.aload_n 0, 1) := by decide +kernel
theorem dX11_street_51 : decode cX11_street 51 = .ok (.aload_n 2, 1) := by decide +kernel
theorem dX11_street_52 : decode cX11_street 52 = .ok (.putfield 97, 3) := by decide +kernel
theorem dX11_street_55 : decode cX11_street 55 = .ok (.aload_n 0, 1) := by decide +kernel
theorem dX11_street_56 : decode cX11_street 56 = .ok (.invokevirtual 132, 3) := by decide +kernel
theorem dX11_street_59 : decode cX11_street 59 = .ok (.aload_n 0, 1) := by decide +kernel
theorem dX11_street_60 : decode cX11_street 60 = .ok (.getfield 93, 3) := by decide +kernel
theorem dX11_street_63 : decode cX11_street 63 = .ok (.getfield 135, 3) := by decide +kernel
theorem dX11_street_66 : decode cX11_street 66 = .ok (.getfield 139, 3) := by decide +kernel
theorem dX11_street_69 : decode cX11_street 69 = .ok (.ireturn, 1) := by decide +kernel
theorem ct_X11_street {g : Gw} (hG : GF g) {z : Bool} (E : Mm) (s : Nat) (P : SP) (L : LW) (T K : LN) (d : Nat) (hI_E : CXI E s P L T K d) (sz : Nat) (hTp : TAPE E sz) (x0 : Int) : CTX g yX11_street cX11_street 3 (some .int) 8 172 1 6 K2 z [mR 0, mI x0] (ov E) K2 z (fun r' D' => (0 ≤ x0 ∧ x0 ≤ 600 ∧ x0 ≤ E 1 1) ∧ ((¬ (rdS (E 126) x0.toNat 61).1.2.2.1 = 0 ∧ r' = some (mI ((rdS (E 126) x0.toNat 61).1.2.2.1 - 10)) ∧ ∃ E1, D' = ov E1 ∧ CXI E1 s P L T K d ∧ E1 24 4 = E 24 4 ∧ E1 0 18 = E 0 18 ∧ TXO E E1 (rdS (E 126) x0.toNat 61).1) ∨ ((rdS (E 126) x0.toNat 61).1.2.2.1 = 0 ∧ r' = some (mI (bN (sB (rdS (E 126) x0.toNat 61).2.1) : Nat)) ∧ ∃ E1, D' = ov E1 ∧ CXI E1 (151 - s) (rdS (E 126) x0.toNat 61).2.1 plL ln00 ln00 0 ∧ E1 24 4 = 0 ∧ E1 0 18 = 0 ∧ TXO E E1 (rdS (E 126) x0.toNat 61).1))) (fun X D' => ¬ (0 ≤ x0 ∧ x0 ≤ 600 ∧ x0 ≤ E 1 1) ∧ X = "java/lang/IllegalArgumentException" ∧ D' = ov (bumpE E 2)) := by
  refine CTX.mk hG (by decide +kernel) (Nat.le_of_ble_eq_true rfl) (fun κ X Rt Rx ok => ?_)
  have hs := hI_E.sa
  have hP := hI_E.WS
  have hW40 := hP.W
  have hN10 := hP.N
  have hN8 := hP.B.N
  have hX_E : CXF E E := CXF.rf
  have hsz1 : E 1 1 ≤ 600 := by rw [hTp.2.1]; have := hTp.1; omega
  refine at_aload_n 1 X rfl rfl dX11_street_0 rfl ?_
  refine at_iload_n 2 X rfl rfl dX11_street_1 rfl ?_
  refine at_sipush 5 X (by decide) (by decide) dX11_street_2 rfl ?_
  refine at_callVX 8 X Rt Rx _ 11 (ct_X11_openText hG E x0 600 hsz1) clX11 rfl k_0 mo_X11_openText w_859 vo_X11_openText.1 vo_X11_openText.2 rfl rfl (by decide) (Nat.le_of_ble_eq_true rfl) dX11_street_5 rfl (fun _ _ h => h) ?_
  rintro _ _ ⟨hc0, rfl, rfl⟩
  obtain ⟨n, rfl⟩ : ∃ n : Nat, x0 = (n : Int) := ⟨x0.toNat, by omega⟩
  have hnz : n ≤ sz := by have := hTp.2.1; omega
  obtain ⟨hT_E0, hr_E0, h11_E0⟩ := open_TP hTp hnz
  generalize openE E (n : Int) = E0 at hT_E0 hr_E0 h11_E0 ⊢
  obtain ⟨s2, hs2e⟩ : ∃ s2, s2 = 151 - s := ⟨_, rfl⟩
  have hs2 : s2 = 68 ∨ s2 = 83 := by omega
  have hdr_E0 : E0 0 16 = (s2 : Int) := by rw [hr_E0 0 (by omega), hs2e]; exact hI_E.2.2.1
  refine at_aload_n 9 X rfl rfl dX11_street_8 rfl ?_
  refine m_getM 12 X (s2) f_X11_97 k_0 rn_0_16 hdr_E0 dX11_street_9 rfl ?_
  refine at_aload_n 13 X rfl rfl dX11_street_12 rfl ?_
  refine m_getR 16 X f_X11_12 k_0 r_0_0 dX11_street_13 rfl ?_
  refine at_callV 19 X _ 9 (ct_X9_read hG E0 s2 hs2 (E 126) n hT_E0) clX9 rfl (kX9 hs2) mo_X9_read w_939 vo_X9_read.1 vo_X9_read.2 rfl rfl (crm Rt (by decide)) (Nat.le_of_ble_eq_true rfl) dX11_street_16 rfl ?_
  rintro _ _ ⟨rfl, F1, rfl, t1, hT_F1, ht1, hS_F1, hd_F1⟩
  have hr_F1 : ∀ q, q ≠ 1 → ¬ (s2 ≤ q ∧ q ≤ s2 + 14) → F1 q = E q := fun q a b => (hd_F1.1 q a b).trans (hr_E0 q a)
  have hnow_F1 : F1 0 15 = (s : Int) := by rw [hr_F1 0 (by omega) (by omega)]; exact hI_E.now
  have hdr_F1 : F1 0 16 = (s2 : Int) := by rw [hr_F1 0 (by omega) (by omega), hs2e]; exact hI_E.2.2.1
  have h11_F1 : F1 1 1 = 0 := (hd_F1.2 1 (by omega)).trans h11_E0
  have hfk : t1.2.2.1 = (rdS (E 126) n 61).1.2.2.1 := by rw [ht1]
  have hfp : t1.2.2.2 = (rdS (E 126) n 61).1.2.2.2 := by rw [ht1]
  have hFK : FK t1 := by unfold FK; rw [hfk]; exact FK_rd (E 126) n 61
  refine at_aload_n 20 X rfl rfl dX11_street_19 rfl ?_
  refine m_getR 23 X f_X11_12 k_0 r_0_0 dX11_street_20 rfl ?_
  refine at_callV 26 X _ 10 (c10_failed hG F1 (E 126) n t1 hT_F1) clX10 rfl k_1 mo_X10_failed w_1095 vo_X10_failed.1 vo_X10_failed.2 rfl rfl (crm Rt (by decide)) (Nat.le_of_ble_eq_true rfl) dX11_street_23 rfl ?_
  rintro _ _ ⟨rfl, rfl⟩
  refine at_if_eq 29 37 X dX11_street_26 rfl (by decide) (fun h26 => ?_) (fun h26 => ?_)
  · have h0 : t1.2.2.1 = 0 := Decidable.byContradiction (fun q => by rw [if_neg q] at h26; exact absurd h26 (by decide))
    refine at_aload_n 38 X rfl rfl dX11_street_37 rfl ?_
    refine m_getM 41 X (s) f_X11_93 k_0 rn_0_15 hnow_F1 dX11_street_38 rfl ?_
    refine at_astore_n 42 X rfl dX11_street_41 rfl (by decide) ?_
    refine at_aload_n 43 X rfl rfl dX11_street_42 rfl ?_
    refine at_aload_n 44 X rfl rfl dX11_street_43 rfl ?_
    refine m_getM 47 X (s2) f_X11_97 k_0 rn_0_16 hdr_F1 dX11_street_44 rfl ?_
    refine m_putR 50 X f_X11_93 fw_11_15 k_0 rn_0_15 dX11_street_47 rfl ?_
    refine at_aload_n 51 X rfl rfl dX11_street_50 rfl ?_
    refine at_aload_n 52 X rfl rfl dX11_street_51 rfl ?_
    refine m_putR 55 X f_X11_97 fw_11_16 k_0 rn_0_16 dX11_street_52 rfl ?_
    refine at_aload_n 56 X rfl rfl dX11_street_55 rfl ?_
    refine at_callV 59 X _ 11 (ct_X11_forgetStreet hG (wr (wr F1 0 15 ((s2 : Nat) : Int)) 0 16 ((s : Nat) : Int))) clX11 rfl k_0 mo_X11_forgetStreet w_1100 vo_X11_forgetStreet.1 vo_X11_forgetStreet.2 rfl rfl (crm Rt (by decide)) (Nat.le_of_ble_eq_true rfl) dX11_street_56 rfl ?_
    rintro _ _ ⟨rfl, rfl⟩
    generalize hF2 : wr (wr F1 0 15 ((s2 : Nat) : Int)) 0 16 ((s : Nat) : Int) = F2
    generalize hF3 : (wr (wr (wr (wr (wr (plainL (wr F2 0 17 0) 4) 12 3 0) 16 3 0) 24 4 0) 0 18 0) 0 19 1) = F3
    have hr_F2 : ∀ q, q ≠ 0 → F2 q = F1 q := fun q h => by rw [← hF2]; simp (disch := omega) only [wr_row]
    obtain ⟨hpc, hpr⟩ := plain_CL (wr F2 0 17 0)
    have hr_F3 : ∀ q, ¬ (q = 0 ∨ (4 ≤ q ∧ q ≤ 6) ∨ q = 12 ∨ q = 16 ∨ q = 24) → F3 q = F1 q := fun q h => by rw [← hF3]; simp (disch := omega) only [wr_row]; rw [hpr q (by omega), wr_row (by omega), hr_F2 q (by omega)]
    have h0_F3 : F3 0 15 = (s2 : Int) ∧ F3 0 16 = (s : Int) ∧ F3 0 17 = 0 ∧ F3 0 18 = 0 ∧ F3 0 19 = 1 := by
      rw [← hF3]
      refine ⟨?_, ?_, ?_, by simp (disch := omega) only [wr_o, wr_s], wr_s _ _ _ _⟩
      · simp (disch := omega) only [wr_o]; rw [hpr 0 (by omega), wr_o (by omega), ← hF2]; simp (disch := omega) only [wr_o, wr_s]
      · simp (disch := omega) only [wr_o]; rw [hpr 0 (by omega), wr_o (by omega), ← hF2, wr_s]
      · simp (disch := omega) only [wr_o]; rw [hpr 0 (by omega), wr_s]
    have hL_F3 : CL F3 4 plL := hpc.fr (fun q a b => by rw [← hF3]; simp (disch := omega) only [wr_row])
    have h3_F3 : F3 12 3 = 0 ∧ F3 16 3 = 0 ∧ F3 24 4 = 0 := by
      rw [← hF3]
      exact ⟨by simp (disch := omega) only [wr_o, wr_s], by simp (disch := omega) only [wr_o, wr_s], by simp (disch := omega) only [wr_o, wr_s]⟩
    have hS2 := hS_F1 h0
    have hws := rd_WS (E 126) n 61 (hfk.symm.trans h0)
    have hSF3 : CS F3 s2 (rdS (E 126) n 61).2.1 := hS2.1.fr (fun q a b => hr_F3 q (by omega))
    have hnow_F3 := h0_F3.1
    refine at_aload_n 60 X rfl rfl dX11_street_59 rfl ?_
    refine m_getM 63 X (s2) f_X11_93 k_0 rn_0_15 hnow_F3 dX11_street_60 rfl ?_
    refine m_getR 66 X f_X11_135 (kX9 hs2) (rX9_7 hs2) dX11_street_63 rfl ?_
    refine m_getIV 69 X ((bN (sB (rdS (E 126) n 61).2.1) : Nat) : Int) hSF3.B.N f_X11_139 (kX0 (iB_8 hs2)) (nX0_6 (iB_8 hs2)) dX11_street_66 rfl ?_
    refine at_iret X Rt ?_ (by decide) (by decide) dX11_street_69
    refine ⟨hc0, Or.inr ?_⟩
    rw [Int.toNat_natCast]
    exact ⟨hfk.symm.trans h0, rfl, F3, rfl, ⟨by omega, by rw [← hs2e]; exact h0_F3.1, by rw [show 151 - (151 - s) = s by omega]; exact h0_F3.2.1, by rw [← hs2e]; exact hSF3, hws.1, hws.2, hL_F3, plL_WL, ⟨h3_F3.1, fun i hi => absurd hi (Nat.not_lt_zero i)⟩, ⟨Nat.zero_le _, fun i hi => absurd hi (Nat.not_lt_zero i)⟩, ⟨h3_F3.2.1, fun i hi => absurd hi (Nat.not_lt_zero i)⟩, ⟨Nat.zero_le _, fun i hi => absurd hi (Nat.not_lt_zero i)⟩, h0_F3.2.2.1, by decide, Or.inl h0_F3.2.2.2.2⟩, h3_F3.2.2, h0_F3.2.2.2.1, by rw [hr_F3 1 (by omega)]; exact h11_F1, by rw [hr_F3 1 (by omega), ← hfp]; exact hT_F1.2.2.2.2.2.2, fun q hq => (hr_F3 q (by omega)).trans (hr_F1 q (by omega) (by omega))⟩
  · have h0 : ¬ t1.2.2.1 = 0 := fun q => h26 (by rw [if_pos q])
    refine at_aload_n 30 X rfl rfl dX11_street_29 rfl ?_
    refine m_getR 33 X f_X11_12 k_0 r_0_0 dX11_street_30 rfl ?_
    refine at_callV 36 X _ 10 (c10_answer hG F1 (E 126) n t1 hT_F1 ⟨hFK.1, Int.le_trans hFK.2 (by decide)⟩) clX10 rfl k_1 mo_X10_answer w_1096 vo_X10_answer.1 vo_X10_answer.2 rfl rfl (crm Rt (by decide)) (Nat.le_of_ble_eq_true rfl) dX11_street_33 rfl ?_
    rintro _ _ ⟨rfl, rfl⟩
    refine at_iret X Rt ?_ (by decide) (by decide) dX11_street_36
    refine ⟨hc0, Or.inl ⟨by rw [Int.toNat_natCast, ← hfk]; exact h0, by rw [Int.toNat_natCast, ← hfk], F1, rfl, hI_E.fr2 (fun q hq => hr_F1 q (by omega) (by omega)), by rw [hr_F1 24 (by omega) (by omega)], by rw [hr_F1 0 (by omega) (by omega)], h11_F1, by rw [Int.toNat_natCast, ← hfp]; exact hT_F1.2.2.2.2.2.2, fun q hq => hr_F1 q (by omega) (by omega)⟩⟩
theorem dX11_law_0 : decode cX11_law 0 = .ok (.aload_n 0, 1) := by decide +kernel
theorem dX11_law_1 : decode cX11_law 1 = .ok (.iload_n 1, 1) := by decide +kernel
theorem dX11_law_2 : decode cX11_law 2 = .ok (.sipush 150, 3) := by decide +kernel
theorem dX11_law_5 : decode cX11_law 5 = .ok (.invokevirtual 117, 3) := by decide +kernel
theorem dX11_law_8 : decode cX11_law 8 = .ok (.aload_n 0, 1) := by decide +kernel
theorem dX11_law_9 : decode cX11_law 9 = .ok (.getfield 27, 3) := by decide +kernel
theorem dX11_law_12 : decode cX11_law 12 = .ok (.aload_n 0, 1) := by decide +kernel
theorem dX11_law_13 : decode cX11_law 13 = .ok (.getfield 12, 3) := by decide +kernel
theorem dX11_law_16 : decode cX11_law 16 = .ok (.invokevirtual 144, 3) := by decide +kernel
theorem dX11_law_19 : decode cX11_law 19 = .ok (.aload_n 0, 1) := by decide +kernel
theorem dX11_law_20 : decode cX11_law 20 = .ok (.getfield 12, 3) := by decide +kernel
theorem dX11_law_23 : decode cX11_law 23 = .ok (.invokevirtual 125, 3) := by decide +kernel
theorem dX11_law_26 : decode cX11_law 26 = .ok (.ifCond .eq 11, 3) := by decide +kernel
theorem dX11_law_29 : decode cX11_law 29 = .ok (.aload_n 0, 1) := by decide +kernel
theorem dX11_law_30 : decode cX11_law 30 = .ok (.getfield 12, 3) := by decide +kernel
theorem dX11_law_33 : decode cX11_law 33 = .ok (.invokevirtual 128, 3) := by decide +kernel
theorem dX11_law_36 : decode cX11_law 36 = .ok (.ireturn, 1) := by decide +kernel
theorem dX11_law_37 : decode cX11_law 37 = .ok (.aload_n 0, 1) := by decide +kernel
theorem dX11_law_38 : decode cX11_law 38 = .ok (.getfield 23, 3) := by decide +kernel
theorem dX11_law_41 : decode cX11_law 41 = .ok (.aload_n 0, 1) := by decide +kernel
theorem dX11_law_42 : decode cX11_law 42 = .ok (.getfield 27, 3) := by decide +kernel
theorem dX11_law_45 : decode cX11_law 45 = .ok (.invokevirtual 145, 3) := by decide +kernel
theorem dX11_law_48 : decode cX11_law 48 = .ok (.aload_n 0, 1) := by decide +kernel
theorem dX11_law_49 : decode cX11_law 49 = .ok (.iconst 1, 1) := by decide +kernel
theorem dX11_law_50 : decode cX11_law 50 = .ok (.putfield 100, 3) := by decide +kernel
theorem dX11_law_53 : decode cX11_law 53 = .ok (.iconst 1, 1) := by decide +kernel
theorem dX11_law_54 : decode cX11_law 54 = .ok (.ireturn, 1) := by decide +kernel
theorem ct_X11_law {g : Gw} (hG : GF g) {z : Bool} (E : Mm) (s : Nat) (P : SP) (L : LW) (T K : LN) (d : Nat) (hI_E : CXI E s P L T K d) (sz : Nat) (hTp : TAPE E sz) (x0 : Int) : CTX g yX11_law cX11_law 2 (some .int) 28 652 1 6 K2 z [mR 0, mI x0] (ov E) K2 z (fun r' D' => (0 ≤ x0 ∧ x0 ≤ 150 ∧ x0 ≤ E 1 1) ∧ ((¬ (lawT (E 126) x0.toNat).2.2.1 = 0 ∧ r' = some (mI ((lawT (E 126) x0.toNat).2.2.1 - 10)) ∧ ∃ E1, D' = ov E1 ∧ CXI E1 s P L T K d ∧ E1 24 4 = E 24 4 ∧ E1 0 18 = E 0 18 ∧ TXO E E1 (lawT (E 126) x0.toNat)) ∨ ((lawT (E 126) x0.toNat).2.2.1 = 0 ∧ r' = some (mI 1) ∧ ∃ E1, D' = ov E1 ∧ CXI E1 s P (lawS (E 126) x0.toNat).2 T K d ∧ E1 24 4 = E 24 4 ∧ E1 0 18 = E 0 18 ∧ TXO E E1 (lawT (E 126) x0.toNat)))) (fun X D' => ¬ (0 ≤ x0 ∧ x0 ≤ 150 ∧ x0 ≤ E 1 1) ∧ X = "java/lang/IllegalArgumentException" ∧ D' = ov (bumpE E 2)) := by
  refine CTX.mk hG (by decide +kernel) (Nat.le_of_ble_eq_true rfl) (fun κ X Rt Rx ok => ?_)
  have hs := hI_E.sa
  have hP := hI_E.WS
  have hW40 := hP.W
  have hN10 := hP.N
  have hN8 := hP.B.N
  have hX_E : CXF E E := CXF.rf
  have hsz1 : E 1 1 ≤ 600 := by rw [hTp.2.1]; have := hTp.1; omega
  refine at_aload_n 1 X rfl rfl dX11_law_0 rfl ?_
  refine at_iload_n 2 X rfl rfl dX11_law_1 rfl ?_
  refine at_sipush 5 X (by decide) (by decide) dX11_law_2 rfl ?_
  refine at_callVX 8 X Rt Rx _ 11 (ct_X11_openText hG E x0 150 hsz1) clX11 rfl k_0 mo_X11_openText w_859 vo_X11_openText.1 vo_X11_openText.2 rfl rfl (by decide) (Nat.le_of_ble_eq_true rfl) dX11_law_5 rfl (fun _ _ h => h) ?_
  rintro _ _ ⟨hc0, rfl, rfl⟩
  obtain ⟨n, rfl⟩ : ∃ n : Nat, x0 = (n : Int) := ⟨x0.toNat, by omega⟩
  have hnz : n ≤ sz := by have := hTp.2.1; omega
  obtain ⟨hT_E0, hr_E0, h11_E0⟩ := open_TP hTp hnz
  generalize openE E (n : Int) = E0 at hT_E0 hr_E0 h11_E0 ⊢
  refine at_aload_n 9 X rfl rfl dX11_law_8 rfl ?_
  refine m_getR 12 X f_X11_27 k_0 r_0_3 dX11_law_9 rfl ?_
  refine at_aload_n 13 X rfl rfl dX11_law_12 rfl ?_
  refine m_getR 16 X f_X11_12 k_0 r_0_0 dX11_law_13 rfl ?_
  refine at_callV 19 X _ 7 (ct_X7_read hG E0 (E 126) n hT_E0) clX7 rfl k_8 mo_X7_read w_1112 vo_X7_read.1 vo_X7_read.2 rfl rfl (crm Rt (by decide)) (Nat.le_of_ble_eq_true rfl) dX11_law_16 rfl ?_
  rintro _ _ ⟨rfl, F1, rfl, hT_F1, hL_F1, hd_F1⟩
  have hr_F1 : ∀ q, q ≠ 1 → ¬ (8 ≤ q ∧ q ≤ 11) → F1 q = E q := fun q a b => (hd_F1.1 q a b).trans (hr_E0 q a)
  have h11_F1 : F1 1 1 = 0 := (hd_F1.2 1 (by omega)).trans h11_E0
  have hFK := lawT_FK (E 126) n
  refine at_aload_n 20 X rfl rfl dX11_law_19 rfl ?_
  refine m_getR 23 X f_X11_12 k_0 r_0_0 dX11_law_20 rfl ?_
  refine at_callV 26 X _ 10 (c10_failed hG F1 (E 126) n (lawT (E 126) n) hT_F1) clX10 rfl k_1 mo_X10_failed w_1095 vo_X10_failed.1 vo_X10_failed.2 rfl rfl (crm Rt (by decide)) (Nat.le_of_ble_eq_true rfl) dX11_law_23 rfl ?_
  rintro _ _ ⟨rfl, rfl⟩
  refine at_if_eq 29 37 X dX11_law_26 rfl (by decide) (fun h26 => ?_) (fun h26 => ?_)
  · have h0 : (lawT (E 126) n).2.2.1 = 0 := Decidable.byContradiction (fun q => by rw [if_neg q] at h26; exact absurd h26 (by decide))
    refine at_aload_n 38 X rfl rfl dX11_law_37 rfl ?_
    refine m_getR 41 X f_X11_23 k_0 r_0_2 dX11_law_38 rfl ?_
    refine at_aload_n 42 X rfl rfl dX11_law_41 rfl ?_
    refine m_getR 45 X f_X11_27 k_0 r_0_3 dX11_law_42 rfl ?_
    refine at_callV 48 X _ 7 (ct_X7_copyFrom hG F1) clX7 rfl k_4 mo_X7_copyFrom w_1152 vo_X7_copyFrom.1 vo_X7_copyFrom.2 rfl rfl (crm Rt (by decide)) (Nat.le_of_ble_eq_true rfl) dX11_law_45 rfl ?_
    rintro _ _ ⟨rfl, rfl⟩
    obtain ⟨hWL, hs0⟩ := lawS_WL (E 126) (n := n) (by omega) h0
    obtain ⟨hC2, hr2⟩ := law_copied hL_F1 hWL.2.1
    generalize cpy (cpy (wr F1 4 3 (F1 8 3)) 9 5 0 0 150) 10 6 0 0 150 = F2 at hC2 hr2 ⊢
    refine at_aload_n 49 X rfl rfl dX11_law_48 rfl ?_
    refine at_iconst 50 X (by decide) dX11_law_49 rfl ?_
    refine m_putZ 53 X (Or.inr rfl) f_X11_100 fz_11_19 k_0 rn_0_19 dX11_law_50 rfl ?_
    refine at_iconst 54 X (by decide) dX11_law_53 rfl ?_
    refine at_iret X Rt ?_ (by decide) (by decide) dX11_law_54
    have hr3 : ∀ q, q ≠ 0 → (wr F2 0 19 1) q = F2 q := fun q h => wr_row h
    have hr4 : ∀ q, q ≠ 0 → q ≠ 1 → ¬ (4 ≤ q ∧ q ≤ 11) → (wr F2 0 19 1) q = E q := fun q a b c => by rw [wr_row a, hr2 q (by omega), hr_F1 q b (by omega)]
    have h0k : ∀ k, k ≠ 19 → (wr F2 0 19 1) 0 k = E 0 k := fun k hk => by rw [wr_o (Or.inr hk), hr2 0 (by omega), hr_F1 0 (by omega) (by omega)]
    refine ⟨hc0, Or.inr ?_⟩
    rw [Int.toNat_natCast]
    exact ⟨h0, rfl, _, rfl, ⟨hI_E.sa, (h0k 15 (by decide)).trans hI_E.now, (h0k 16 (by decide)).trans hI_E.2.2.1, hI_E.S.fr (fun q a b => hr4 q (by omega) (by omega) (by omega)), hI_E.WS, hI_E.DX, hC2.fr (fun q a b => hr3 q (by omega)), hWL, hI_E.Tn.fr (fun q a b => hr4 q (by omega) (by omega) (by omega)), hI_E.WT, hI_E.Kn.fr (fun q a b => hr4 q (by omega) (by omega) (by omega)), hI_E.WK, (h0k 17 (by decide)).trans hI_E.dy, hI_E.dl, Or.inl (wr_s _ _ _ _)⟩, by rw [hr4 24 (by omega) (by omega) (by omega)], h0k 18 (by decide), by rw [wr_row (by omega), hr2 1 (by omega)]; exact h11_F1, by rw [wr_row (by omega), hr2 1 (by omega)]; exact hT_F1.2.2.2.2.2.2, fun q hq => hr4 q (by omega) (by omega) (by omega)⟩
  · have h0 : ¬ (lawT (E 126) n).2.2.1 = 0 := fun q => h26 (by rw [if_pos q])
    refine at_aload_n 30 X rfl rfl dX11_law_29 rfl ?_
    refine m_getR 33 X f_X11_12 k_0 r_0_0 dX11_law_30 rfl ?_
    refine at_callV 36 X _ 10 (c10_answer hG F1 (E 126) n (lawT (E 126) n) hT_F1 ⟨hFK.1, Int.le_trans hFK.2 (by decide)⟩) clX10 rfl k_1 mo_X10_answer w_1096 vo_X10_answer.1 vo_X10_answer.2 rfl rfl (crm Rt (by decide)) (Nat.le_of_ble_eq_true rfl) dX11_law_33 rfl ?_
    rintro _ _ ⟨rfl, rfl⟩
    refine at_iret X Rt ?_ (by decide) (by decide) dX11_law_36
    refine ⟨hc0, Or.inl ?_⟩
    rw [Int.toNat_natCast]
    exact ⟨h0, rfl, F1, rfl, hI_E.fr2 (fun q hq => hr_F1 q (by omega) (by omega)), by rw [hr_F1 24 (by omega) (by omega)], by rw [hr_F1 0 (by omega) (by omega)], h11_F1, hT_F1.2.2.2.2.2.2, fun q hq => hr_F1 q (by omega) (by omega)⟩
theorem dX11_moves_0 : decode cX11_moves 0 = .ok (.aload_n 0, 1) := by decide +kernel
theorem dX11_moves_1 : decode cX11_moves 1 = .ok (.iload_n 1, 1) := by decide +kernel
theorem dX11_moves_2 : decode cX11_moves 2 = .ok (.sipush 150, 3) := by decide +kernel
theorem dX11_moves_5 : decode cX11_moves 5 = .ok (.invokevirtual 117, 3) := by decide +kernel
theorem dX11_moves_8 : decode cX11_moves 8 = .ok (.aload_n 0, 1) := by decide +kernel
theorem dX11_moves_9 : decode cX11_moves 9 = .ok (.getfield 40, 3) := by decide +kernel
theorem dX11_moves_12 : decode cX11_moves 12 = .ok (.aload_n 0, 1) := by decide +kernel
theorem dX11_moves_13 : decode cX11_moves 13 = .ok (.getfield 12, 3) := by decide +kernel
theorem dX11_moves_16 : decode cX11_moves 16 = .ok (.aload_n 0, 1) := by decide +kernel
theorem dX11_moves_17 : decode cX11_moves 17 = .ok (.getfield 93, 3) := by decide +kernel
theorem dX11_moves_20 : decode cX11_moves 20 = .ok (.invokevirtual 149, 3) := by decide +kernel
theorem dX11_moves_23 : decode cX11_moves 23 = .ok (.aload_n 0, 1) := by decide +kernel
theorem dX11_moves_24 : decode cX11_moves 24 = .ok (.getfield 12, 3) := by decide +kernel
theorem dX11_moves_27 : decode cX11_moves 27 = .ok (.invokevirtual 125, 3) := by decide +kernel
theorem dX11_moves_30 : decode cX11_moves 30 = .ok (.ifCond .eq 11, 3) := by decide +kernel
theorem dX11_moves_33 : decode cX11_moves 33 = .ok (.aload_n 0, 1) := by decide +kernel
theorem dX11_moves_34 : decode cX11_moves 34 = .ok (.getfield 12, 3) := by decide +kernel
theorem dX11_moves_37 : decode cX11_moves 37 = .ok (.invokevirtual 128, 3) := by decide +kernel
theorem dX11_moves_40 : decode cX11_moves 40 = .ok (.ireturn, 1) := by decide +kernel
theorem dX11_moves_41 : decode cX11_moves 41 = .ok (.aload_n 0, 1) := by decide +kernel
theorem dX11_moves_42 : decode cX11_moves 42 = .ok (.getfield 33, 3) := by decide +kernel
theorem dX11_moves_45 : decode cX11_moves 45 = .ok (.aload_n 0, 1) := by decide +kernel
theorem dX11_moves_46 : decode cX11_moves 46 = .ok (.getfield 40, 3) := by decide +kernel
theorem dX11_moves_49 : decode cX11_moves 49 = .ok (.invokevirtual 153, 3) := by decide +kernel
theorem dX11_moves_52 : decode cX11_moves 52 = .ok (.aload_n 0, 1) := by decide +kernel
theorem dX11_moves_53 : decode cX11_moves 53 = .ok (.iconst 1, 1) := by decide +kernel
theorem dX11_moves_54 : decode cX11_moves 54 = .ok (.putfield 100, 3) := by decide +kernel
theorem dX11_moves_57 : decode cX11_moves 57 = .ok (.aload_n 0, 1) := by decide +kernel
theorem dX11_moves_58 : decode cX11_moves 58 = .ok (.getfield 33, 3) := by decide +kernel
theorem dX11_moves_61 : decode cX11_moves 61 = .ok (.getfield 156, 3) := by decide +kernel
theorem dX11_moves_64 : decode cX11_moves 64 = .ok (.ireturn, 1) := by decide +kernel
theorem ct_X11_moves {g : Gw} (hG : GF g) {z : Bool} (E : Mm) (s : Nat) (P : SP) (L : LW) (T K : LN) (d : Nat) (hI_E : CXI E s P L T K d) (sz : Nat) (hTp : TAPE E sz) (x0 : Int) : CTX g yX11_moves cX11_moves 2 (some .int) 8 133 1 6 K2 z [mR 0, mI x0] (ov E) K2 z (fun r' D' => (0 ≤ x0 ∧ x0 ≤ 150 ∧ x0 ≤ E 1 1) ∧ ((¬ (rdM (E 126) x0.toNat P 17).1.2.2.1 = 0 ∧ r' = some (mI ((rdM (E 126) x0.toNat P 17).1.2.2.1 - 10)) ∧ ∃ E1, D' = ov E1 ∧ CXI E1 s P L T K d ∧ E1 24 4 = E 24 4 ∧ E1 0 18 = E 0 18 ∧ TXO E E1 (rdM (E 126) x0.toNat P 17).1) ∨ ((rdM (E 126) x0.toNat P 17).1.2.2.1 = 0 ∧ r' = some (mI ((rdM (E 126) x0.toNat P 17).2.1 : Nat)) ∧ ∃ E1, D' = ov E1 ∧ CXI E1 s P L (rdM (E 126) x0.toNat P 17).2 K d ∧ E1 24 4 = E 24 4 ∧ E1 0 18 = E 0 18 ∧ TXO E E1 (rdM (E 126) x0.toNat P 17).1))) (fun X D' => ¬ (0 ≤ x0 ∧ x0 ≤ 150 ∧ x0 ≤ E 1 1) ∧ X = "java/lang/IllegalArgumentException" ∧ D' = ov (bumpE E 2)) := by
  refine CTX.mk hG (by decide +kernel) (Nat.le_of_ble_eq_true rfl) (fun κ X Rt Rx ok => ?_)
  have hs := hI_E.sa
  have hP := hI_E.WS
  have hW40 := hP.W
  have hN10 := hP.N
  have hN8 := hP.B.N
  have hX_E : CXF E E := CXF.rf
  have hsz1 : E 1 1 ≤ 600 := by rw [hTp.2.1]; have := hTp.1; omega
  refine at_aload_n 1 X rfl rfl dX11_moves_0 rfl ?_
  refine at_iload_n 2 X rfl rfl dX11_moves_1 rfl ?_
  refine at_sipush 5 X (by decide) (by decide) dX11_moves_2 rfl ?_
  refine at_callVX 8 X Rt Rx _ 11 (ct_X11_openText hG E x0 150 hsz1) clX11 rfl k_0 mo_X11_openText w_859 vo_X11_openText.1 vo_X11_openText.2 rfl rfl (by decide) (Nat.le_of_ble_eq_true rfl) dX11_moves_5 rfl (fun _ _ h => h) ?_
  rintro _ _ ⟨hc0, rfl, rfl⟩
  obtain ⟨n, rfl⟩ : ∃ n : Nat, x0 = (n : Int) := ⟨x0.toNat, by omega⟩
  have hnz : n ≤ sz := by have := hTp.2.1; omega
  obtain ⟨hT_E0, hr_E0, h11_E0⟩ := open_TP hTp hnz
  generalize openE E (n : Int) = E0 at hT_E0 hr_E0 h11_E0 ⊢
  have hnow_E0 : E0 0 15 = (s : Int) := by rw [hr_E0 0 (by omega)]; exact hI_E.now
  refine at_aload_n 9 X rfl rfl dX11_moves_8 rfl ?_
  refine m_getR 12 X f_X11_40 k_0 r_0_6 dX11_moves_9 rfl ?_
  refine at_aload_n 13 X rfl rfl dX11_moves_12 rfl ?_
  refine m_getR 16 X f_X11_12 k_0 r_0_0 dX11_moves_13 rfl ?_
  refine at_aload_n 17 X rfl rfl dX11_moves_16 rfl ?_
  refine m_getM 20 X (s) f_X11_93 k_0 rn_0_15 hnow_E0 dX11_moves_17 rfl ?_
  refine at_callV 23 X _ 8 (ct_X8_readMoves hG E0 (E 126) n hT_E0 s hs P hP (hI_E.S.fr (fun q a b => hr_E0 q (by omega)))) clX8 rfl k_20 mo_X8_readMoves w_1164 vo_X8_readMoves.1 vo_X8_readMoves.2 rfl rfl (crm Rt (by decide)) (Nat.le_of_ble_eq_true rfl) dX11_moves_20 rfl ?_
  rintro _ _ ⟨rfl, F1, rfl, t1, hT_F1, ht1, hN_F1, hd_F1⟩
  have hr_F1 : ∀ q, q ≠ 1 → ¬ (20 ≤ q ∧ q ≤ 23) → F1 q = E q := fun q a b => (hd_F1.1 q a b).trans (hr_E0 q a)
  have h11_F1 : F1 1 1 = 0 := (hd_F1.2 1 (by omega)).trans h11_E0
  have hfk : t1.2.2.1 = (rdM (E 126) n P 17).1.2.2.1 := by rw [ht1]
  have hfp : t1.2.2.2 = (rdM (E 126) n P 17).1.2.2.2 := by rw [ht1]
  have hFK : FK t1 := by unfold FK; rw [hfk]; exact FK_rdM (E 126) n P 17
  refine at_aload_n 24 X rfl rfl dX11_moves_23 rfl ?_
  refine m_getR 27 X f_X11_12 k_0 r_0_0 dX11_moves_24 rfl ?_
  refine at_callV 30 X _ 10 (c10_failed hG F1 (E 126) n t1 hT_F1) clX10 rfl k_1 mo_X10_failed w_1095 vo_X10_failed.1 vo_X10_failed.2 rfl rfl (crm Rt (by decide)) (Nat.le_of_ble_eq_true rfl) dX11_moves_27 rfl ?_
  rintro _ _ ⟨rfl, rfl⟩
  refine at_if_eq 33 41 X dX11_moves_30 rfl (by decide) (fun h30 => ?_) (fun h30 => ?_)
  · have h0 : t1.2.2.1 = 0 := Decidable.byContradiction (fun q => by rw [if_neg q] at h30; exact absurd h30 (by decide))
    refine at_aload_n 42 X rfl rfl dX11_moves_41 rfl ?_
    refine m_getR 45 X f_X11_33 k_0 r_0_4 dX11_moves_42 rfl ?_
    refine at_aload_n 46 X rfl rfl dX11_moves_45 rfl ?_
    refine m_getR 49 X f_X11_40 k_0 r_0_6 dX11_moves_46 rfl ?_
    refine at_callV 52 X _ 8 (ct_X8_copyFrom hG F1 12 (Or.inl rfl)) clX8 rfl k_12 mo_X8_copyFrom w_1176 vo_X8_copyFrom.1 vo_X8_copyFrom.2 rfl rfl (crm Rt (by decide)) (Nat.le_of_ble_eq_true rfl) dX11_moves_49 rfl ?_
    rintro _ _ ⟨rfl, rfl⟩
    have hW := (rdM_n (E 126) n P 17 (hfk.symm.trans h0)).1
    obtain ⟨hC2, hr2⟩ := lines_copied (Or.inl rfl) (hN_F1 h0) (by have := hW.1; omega)
    generalize cpy (cpy (cpy (wr F1 12 3 (F1 20 3)) 21 (12 + 1) 0 0 16) 22 (12 + 2) 0 0 16) 23 (12 + 3) 0 0 16 = F2 at hC2 hr2 ⊢
    refine at_aload_n 53 X rfl rfl dX11_moves_52 rfl ?_
    refine at_iconst 54 X (by decide) dX11_moves_53 rfl ?_
    refine m_putZ 57 X (Or.inr rfl) f_X11_100 fz_11_19 k_0 rn_0_19 dX11_moves_54 rfl ?_
    refine at_aload_n 58 X rfl rfl dX11_moves_57 rfl ?_
    refine m_getR 61 X f_X11_33 k_0 r_0_4 dX11_moves_58 rfl ?_
    refine m_getIV 64 X (((rdM (E 126) n P 17).2.1 : Nat) : Int) ((wr_o (by omega)).trans hC2.n) f_X11_156 k_12 rn_12_3 dX11_moves_61 rfl ?_
    refine at_iret X Rt ?_ (by decide) (by decide) dX11_moves_64
    have hr4 : ∀ q, q ≠ 0 → q ≠ 1 → ¬ (12 ≤ q ∧ q ≤ 15) → ¬ (20 ≤ q ∧ q ≤ 23) → (wr F2 0 19 1) q = E q := fun q a b c e => by rw [wr_row a, hr2 q (by omega), hr_F1 q b e]
    have hC3 : CN (wr F2 0 19 1) 12 (rdM (E 126) n P 17).2 := hC2.fr (fun q a b => wr_row (by omega))
    have h0k : ∀ k, k ≠ 19 → (wr F2 0 19 1) 0 k = E 0 k := fun k hk => by rw [wr_o (Or.inr hk), hr2 0 (by omega), hr_F1 0 (by omega) (by omega)]
    refine ⟨hc0, Or.inr ?_⟩
    rw [Int.toNat_natCast]
    exact ⟨hfk.symm.trans h0, rfl, _, rfl, ⟨hI_E.sa, (h0k 15 (by decide)).trans hI_E.now, (h0k 16 (by decide)).trans hI_E.2.2.1, hI_E.S.fr (fun q a b => hr4 q (by omega) (by omega) (by omega) (by omega)), hI_E.WS, hI_E.DX, hI_E.Lw.fr (fun q a b => hr4 q (by omega) (by omega) (by omega) (by omega)), hI_E.WL, hC3, hW, hI_E.Kn.fr (fun q a b => hr4 q (by omega) (by omega) (by omega) (by omega)), hI_E.WK, (h0k 17 (by decide)).trans hI_E.dy, hI_E.dl, Or.inl (wr_s _ _ _ _)⟩, by rw [hr4 24 (by omega) (by omega) (by omega) (by omega)], h0k 18 (by decide), by rw [wr_row (by omega), hr2 1 (by omega)]; exact h11_F1, by rw [wr_row (by omega), hr2 1 (by omega), ← hfp]; exact hT_F1.2.2.2.2.2.2, fun q hq => hr4 q (by omega) (by omega) (by omega) (by omega)⟩
  · have h0 : ¬ t1.2.2.1 = 0 := fun q => h30 (by rw [if_pos q])
    refine at_aload_n 34 X rfl rfl dX11_moves_33 rfl ?_
    refine m_getR 37 X f_X11_12 k_0 r_0_0 dX11_moves_34 rfl ?_
    refine at_callV 40 X _ 10 (c10_answer hG F1 (E 126) n t1 hT_F1 ⟨hFK.1, Int.le_trans hFK.2 (by decide)⟩) clX10 rfl k_1 mo_X10_answer w_1096 vo_X10_answer.1 vo_X10_answer.2 rfl rfl (crm Rt (by decide)) (Nat.le_of_ble_eq_true rfl) dX11_moves_37 rfl ?_
    rintro _ _ ⟨rfl, rfl⟩
    refine at_iret X Rt ?_ (by decide) (by decide) dX11_moves_40
    refine ⟨hc0, Or.inl ?_⟩
    rw [Int.toNat_natCast]
    exact ⟨by rw [← hfk]; exact h0, by rw [← hfk], F1, rfl, hI_E.fr2 (fun q hq => hr_F1 q (by omega) (by omega)), by rw [hr_F1 24 (by omega) (by omega)], by rw [hr_F1 0 (by omega) (by omega)], h11_F1, by rw [← hfp]; exact hT_F1.2.2.2.2.2.2, fun q hq => hr_F1 q (by omega) (by omega)⟩
theorem dX11_book_0 : decode cX11_book 0 = .ok (.aload_n 0, 1) := by decide +kernel
theorem dX11_book_1 : decode cX11_book 1 = .ok (.iload_n 1, 1) := by decide +kernel
theorem dX11_book_2 : decode cX11_book 2 = .ok (.bipush 100, 2) := by decide +kernel
theorem dX11_book_4 : decode cX11_book 4 = .ok (.invokevirtual 117, 3) := by decide +kernel
theorem dX11_book_7 : decode cX11_book 7 = .ok (.aload_n 0, 1) := by decide +kernel
theorem dX11_book_8 : decode cX11_book 8 = .ok (.getfield 40, 3) := by decide +kernel
theorem dX11_book_11 : decode cX11_book 11 = .ok (.aload_n 0, 1) := by decide +kernel
theorem dX11_book_12 : decode cX11_book 12 = .ok (.getfield 12, 3) := by decide +kernel
theorem dX11_book_15 : decode cX11_book 15 = .ok (.aload_n 0, 1) := by decide +kernel
theorem dX11_book_16 : decode cX11_book 16 = .ok (.getfield 93, 3) := by decide +kernel
theorem dX11_book_19 : decode cX11_book 19 = .ok (.getfield 135, 3) := by decide +kernel
theorem dX11_book_22 : decode cX11_book 22 = .ok (.getfield 139, 3) := by decide +kernel
theorem dX11_book_25 : decode cX11_book 25 = .ok (.invokevirtual 157, 3) := by decide +kernel
theorem dX11_book_28 : decode cX11_book 28 = .ok (.aload_n 0, 1) := by decide +kernel
theorem dX11_book_29 : decode cX11_book 29 = .ok (.getfield 12, 3) := by decide +kernel
theorem dX11_book_32 : decode cX11_book 32 = .ok (.invokevirtual 125, 3) := by decide +kernel
theorem dX11_book_35 : decode cX11_book 35 = .ok (.ifCond .eq 11, 3) := by decide +kernel
theorem dX11_book_38 : decode cX11_book 38 = .ok (.aload_n 0, 1) := by decide +kernel
theorem dX11_book_39 : decode cX11_book 39 = .ok (.getfield 12, 3) := by decide +kernel
theorem dX11_book_42 : decode cX11_book 42 = .ok (.invokevirtual 128, 3) := by decide +kernel
theorem dX11_book_45 : decode cX11_book 45 = .ok (.ireturn, 1) := by decide +kernel
theorem dX11_book_46 : decode cX11_book 46 = .ok (.aload_n 0, 1) := by decide +kernel
theorem dX11_book_47 : decode cX11_book 47 = .ok (.getfield 37, 3) := by decide +kernel
theorem dX11_book_50 : decode cX11_book 50 = .ok (.aload_n 0, 1) := by decide +kernel
theorem dX11_book_51 : decode cX11_book 51 = .ok (.getfield 40, 3) := by decide +kernel
theorem dX11_book_54 : decode cX11_book 54 = .ok (.invokevirtual 153, 3) := by decide +kernel
theorem dX11_book_57 : decode cX11_book 57 = .ok (.aload_n 0, 1) := by decide +kernel
theorem dX11_book_58 : decode cX11_book 58 = .ok (.getfield 37, 3) := by decide +kernel
theorem dX11_book_61 : decode cX11_book 61 = .ok (.getfield 156, 3) := by decide +kernel
theorem dX11_book_64 : decode cX11_book 64 = .ok (.ireturn, 1) := by decide +kernel
theorem ct_X11_book {g : Gw} (hG : GF g) {z : Bool} (E : Mm) (s : Nat) (P : SP) (L : LW) (T K : LN) (d : Nat) (hI_E : CXI E s P L T K d) (sz : Nat) (hTp : TAPE E sz) (x0 : Int) : CTX g yX11_book cX11_book 2 (some .int) 8 133 1 6 K2 z [mR 0, mI x0] (ov E) K2 z (fun r' D' => (0 ≤ x0 ∧ x0 ≤ 100 ∧ x0 ≤ E 1 1) ∧ ((¬ (rdB (E 126) x0.toNat P 9).1.2.2.1 = 0 ∧ r' = some (mI ((rdB (E 126) x0.toNat P 9).1.2.2.1 - 10)) ∧ ∃ E1, D' = ov E1 ∧ CXI E1 s P L T K d ∧ E1 24 4 = E 24 4 ∧ E1 0 18 = E 0 18 ∧ TXO E E1 (rdB (E 126) x0.toNat P 9).1) ∨ ((rdB (E 126) x0.toNat P 9).1.2.2.1 = 0 ∧ r' = some (mI ((rdB (E 126) x0.toNat P 9).2.1 : Nat)) ∧ ∃ E1, D' = ov E1 ∧ CXI E1 s P L T (rdB (E 126) x0.toNat P 9).2 d ∧ E1 24 4 = E 24 4 ∧ E1 0 18 = E 0 18 ∧ TXO E E1 (rdB (E 126) x0.toNat P 9).1))) (fun X D' => ¬ (0 ≤ x0 ∧ x0 ≤ 100 ∧ x0 ≤ E 1 1) ∧ X = "java/lang/IllegalArgumentException" ∧ D' = ov (bumpE E 2)) := by
  refine CTX.mk hG (by decide +kernel) (Nat.le_of_ble_eq_true rfl) (fun κ X Rt Rx ok => ?_)
  have hs := hI_E.sa
  have hP := hI_E.WS
  have hW40 := hP.W
  have hN10 := hP.N
  have hN8 := hP.B.N
  have hX_E : CXF E E := CXF.rf
  have hsz1 : E 1 1 ≤ 600 := by rw [hTp.2.1]; have := hTp.1; omega
  refine at_aload_n 1 X rfl rfl dX11_book_0 rfl ?_
  refine at_iload_n 2 X rfl rfl dX11_book_1 rfl ?_
  refine at_bipush 4 X (by decide) (by decide) dX11_book_2 rfl ?_
  refine at_callVX 7 X Rt Rx _ 11 (ct_X11_openText hG E x0 100 hsz1) clX11 rfl k_0 mo_X11_openText w_859 vo_X11_openText.1 vo_X11_openText.2 rfl rfl (by decide) (Nat.le_of_ble_eq_true rfl) dX11_book_4 rfl (fun _ _ h => h) ?_
  rintro _ _ ⟨hc0, rfl, rfl⟩
  obtain ⟨n, rfl⟩ : ∃ n : Nat, x0 = (n : Int) := ⟨x0.toNat, by omega⟩
  have hnz : n ≤ sz := by have := hTp.2.1; omega
  obtain ⟨hT_E0, hr_E0, h11_E0⟩ := open_TP hTp hnz
  generalize openE E (n : Int) = E0 at hT_E0 hr_E0 h11_E0 ⊢
  have hnow_E0 : E0 0 15 = (s : Int) := by rw [hr_E0 0 (by omega)]; exact hI_E.now
  refine at_aload_n 8 X rfl rfl dX11_book_7 rfl ?_
  refine m_getR 11 X f_X11_40 k_0 r_0_6 dX11_book_8 rfl ?_
  refine at_aload_n 12 X rfl rfl dX11_book_11 rfl ?_
  refine m_getR 15 X f_X11_12 k_0 r_0_0 dX11_book_12 rfl ?_
  refine at_aload_n 16 X rfl rfl dX11_book_15 rfl ?_
  refine m_getM 19 X (s) f_X11_93 k_0 rn_0_15 hnow_E0 dX11_book_16 rfl ?_
  refine m_getR 22 X f_X11_135 (kX9 hs) (rX9_7 hs) dX11_book_19 rfl ?_
  refine m_getIV 25 X ((bN (sB P) : Nat) : Int) ((congrFun (hr_E0 (s + 8) (by omega)) 6).trans hI_E.B.N) f_X11_139 (kX0 (iB_8 hs)) (nX0_6 (iB_8 hs)) dX11_book_22 rfl ?_
  refine at_callV 28 X _ 8 (ct_X8_readBook hG E0 (E 126) n hT_E0 P hP) clX8 rfl k_20 mo_X8_readBook w_1188 vo_X8_readBook.1 vo_X8_readBook.2 rfl rfl (crm Rt (by decide)) (Nat.le_of_ble_eq_true rfl) dX11_book_25 rfl ?_
  rintro _ _ ⟨rfl, F1, rfl, t1, hT_F1, ht1, hN_F1, hd_F1⟩
  have hr_F1 : ∀ q, q ≠ 1 → ¬ (20 ≤ q ∧ q ≤ 23) → F1 q = E q := fun q a b => (hd_F1.1 q a b).trans (hr_E0 q a)
  have h11_F1 : F1 1 1 = 0 := (hd_F1.2 1 (by omega)).trans h11_E0
  have hfk : t1.2.2.1 = (rdB (E 126) n P 9).1.2.2.1 := by rw [ht1]
  have hfp : t1.2.2.2 = (rdB (E 126) n P 9).1.2.2.2 := by rw [ht1]
  have hFK : FK t1 := by unfold FK; rw [hfk]; exact FK_rdB (E 126) n P 9
  refine at_aload_n 29 X rfl rfl dX11_book_28 rfl ?_
  refine m_getR 32 X f_X11_12 k_0 r_0_0 dX11_book_29 rfl ?_
  refine at_callV 35 X _ 10 (c10_failed hG F1 (E 126) n t1 hT_F1) clX10 rfl k_1 mo_X10_failed w_1095 vo_X10_failed.1 vo_X10_failed.2 rfl rfl (crm Rt (by decide)) (Nat.le_of_ble_eq_true rfl) dX11_book_32 rfl ?_
  rintro _ _ ⟨rfl, rfl⟩
  refine at_if_eq 38 46 X dX11_book_35 rfl (by decide) (fun h35 => ?_) (fun h35 => ?_)
  · have h0 : t1.2.2.1 = 0 := Decidable.byContradiction (fun q => by rw [if_neg q] at h35; exact absurd h35 (by decide))
    refine at_aload_n 47 X rfl rfl dX11_book_46 rfl ?_
    refine m_getR 50 X f_X11_37 k_0 r_0_5 dX11_book_47 rfl ?_
    refine at_aload_n 51 X rfl rfl dX11_book_50 rfl ?_
    refine m_getR 54 X f_X11_40 k_0 r_0_6 dX11_book_51 rfl ?_
    refine at_callV 57 X _ 8 (ct_X8_copyFrom hG F1 16 (Or.inr (Or.inl rfl))) clX8 rfl k_16 mo_X8_copyFrom w_1176 vo_X8_copyFrom.1 vo_X8_copyFrom.2 rfl rfl (crm Rt (by decide)) (Nat.le_of_ble_eq_true rfl) dX11_book_54 rfl ?_
    rintro _ _ ⟨rfl, rfl⟩
    have hW := (rdB_n (E 126) n P 9 (hfk.symm.trans h0)).1
    obtain ⟨hC2, hr2⟩ := lines_copied (Or.inr rfl) (hN_F1 h0) (by have := hW.1; omega)
    generalize cpy (cpy (cpy (wr F1 16 3 (F1 20 3)) 21 (16 + 1) 0 0 16) 22 (16 + 2) 0 0 16) 23 (16 + 3) 0 0 16 = F2 at hC2 hr2 ⊢
    refine at_aload_n 58 X rfl rfl dX11_book_57 rfl ?_
    refine m_getR 61 X f_X11_37 k_0 r_0_5 dX11_book_58 rfl ?_
    refine m_getIV 64 X (((rdB (E 126) n P 9).2.1 : Nat) : Int) hC2.n f_X11_156 k_16 rn_16_3 dX11_book_61 rfl ?_
    refine at_iret X Rt ?_ (by decide) (by decide) dX11_book_64
    have hr4 : ∀ q, q ≠ 0 → q ≠ 1 → ¬ (16 ≤ q ∧ q ≤ 19) → ¬ (20 ≤ q ∧ q ≤ 23) → F2 q = E q := fun q a b c e => by rw [hr2 q (by omega), hr_F1 q b e]
    have hC3 : CN F2 16 (rdB (E 126) n P 9).2 := hC2.fr (fun q a b => rfl)
    have h0k : ∀ k, k ≠ 20 → F2 0 k = E 0 k := fun k hk => by rw [hr2 0 (by omega), hr_F1 0 (by omega) (by omega)]
    refine ⟨hc0, Or.inr ?_⟩
    rw [Int.toNat_natCast]
    exact ⟨hfk.symm.trans h0, rfl, _, rfl, ⟨hI_E.sa, (h0k 15 (by decide)).trans hI_E.now, (h0k 16 (by decide)).trans hI_E.2.2.1, hI_E.S.fr (fun q a b => hr4 q (by omega) (by omega) (by omega) (by omega)), hI_E.WS, hI_E.DX, hI_E.Lw.fr (fun q a b => hr4 q (by omega) (by omega) (by omega) (by omega)), hI_E.WL, hI_E.Tn.fr (fun q a b => hr4 q (by omega) (by omega) (by omega) (by omega)), hI_E.WT, hC3, hW, (h0k 17 (by decide)).trans hI_E.dy, hI_E.dl, (by rcases hI_E.st with q | q; exact Or.inl ((h0k 19 (by decide)).trans q); exact Or.inr ⟨(h0k 19 (by decide)).trans q.1, q.2.fr (fun q a b c => hr4 q (by omega) (by omega) (by omega) (by omega))⟩)⟩, by rw [hr4 24 (by omega) (by omega) (by omega) (by omega)], h0k 18 (by decide), by rw [hr2 1 (by omega)]; exact h11_F1, by rw [hr2 1 (by omega), ← hfp]; exact hT_F1.2.2.2.2.2.2, fun q hq => hr4 q (by omega) (by omega) (by omega) (by omega)⟩
  · have h0 : ¬ t1.2.2.1 = 0 := fun q => h35 (by rw [if_pos q])
    refine at_aload_n 39 X rfl rfl dX11_book_38 rfl ?_
    refine m_getR 42 X f_X11_12 k_0 r_0_0 dX11_book_39 rfl ?_
    refine at_callV 45 X _ 10 (c10_answer hG F1 (E 126) n t1 hT_F1 ⟨hFK.1, Int.le_trans hFK.2 (by decide)⟩) clX10 rfl k_1 mo_X10_answer w_1096 vo_X10_answer.1 vo_X10_answer.2 rfl rfl (crm Rt (by decide)) (Nat.le_of_ble_eq_true rfl) dX11_book_42 rfl ?_
    rintro _ _ ⟨rfl, rfl⟩
    refine at_iret X Rt ?_ (by decide) (by decide) dX11_book_45
    refine ⟨hc0, Or.inl ?_⟩
    rw [Int.toNat_natCast]
    exact ⟨by rw [← hfk]; exact h0, by rw [← hfk], F1, rfl, hI_E.fr2 (fun q hq => hr_F1 q (by omega) (by omega)), by rw [hr_F1 24 (by omega) (by omega)], by rw [hr_F1 0 (by omega) (by omega)], h11_F1, by rw [← hfp]; exact hT_F1.2.2.2.2.2.2, fun q hq => hr_F1 q (by omega) (by omega)⟩
