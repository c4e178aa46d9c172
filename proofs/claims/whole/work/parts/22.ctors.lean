/-- what the constructors leave, beside the references that are never written again -/
def eiT : List (Nat × List (Nat × Int)) := [(0, [(15, 68), (16, 83), (19, 1)]), (1, [(6, -1)]), (4, [(3, 3)]), (5, [(0, 1), (2, 7)]), (6, [(1, 20)]), (8, [(3, 3)]), (9, [(0, 1), (2, 7)]), (10, [(1, 20)]), (30, [(8, -1)]), (39, [(8, -1)]), (68, [(8, 20), (9, 24)]), (71, [(0, -1), (1, -1), (2, -1), (3, -1), (4, -1), (5, -1), (6, -1), (7, -1), (8, -1), (9, -1), (10, -1), (11, -1), (12, -1), (13, -1), (14, -1), (15, -1), (16, -1), (17, -1), (18, -1), (19, -1), (20, -1), (21, -1), (22, -1), (23, -1)]), (83, [(8, 20), (9, 24)]), (86, [(0, -1), (1, -1), (2, -1), (3, -1), (4, -1), (5, -1), (6, -1), (7, -1), (8, -1), (9, -1), (10, -1), (11, -1), (12, -1), (13, -1), (14, -1), (15, -1), (16, -1), (17, -1), (18, -1), (19, -1), (20, -1), (21, -1), (22, -1), (23, -1)]), (125, [(3, -1), (30, 2)]), (128, [(0, 20), (7, 24)]), (129, [(0, 20), (7, 24)])]
def EI : Mm := fun a j => match eiT.lookup a with
  | some l => lk l (fun _ => 0) j
  | none => 0
theorem EI0 {a : Nat} (h : eiT.lookup a = none) (j : Nat) : EI a j = 0 := by unfold EI; rw [h]
theorem ovEI0 {a n : Nat} (he : rtab.getD a [] = []) (h : eiT.lookup a = none) : ∀ j, j < n → ov EI a j = 0 := fun j _ => by rw [ov_n (rtv_e he j)]; exact EI0 h j
theorem ovZ0 {a n : Nat} (he : rtab.getD a [] = []) : ∀ j, j < n → ov (fun _ _ => 0) a j = 0 := fun j _ => ov_n (rtv_e he j)
section CTOR2
variable {g : Gw} {κ : Kp} {cells slots pc : Nat} {l : List (Nat × MV)} {st : List MV} {D : Mm}
/-- a constructor is done -/
theorem c_shut {z : Bool} {B BI : Mm} {a e : Nat} {kd : Nat × Nat} {L : List (Nat × Int)} (hk : K2[a]? = some kd) (h0 : ∀ j, j < slen kd → lk L (fz kd) j = BI a j) (hB : ∀ q, a < q → q < e → ∀ kq, K2[q]? = some kq → ∀ j, j < slen kq → B q j = BI q j) (kk : AT g κ (KT e) z cells slots pc l st (mg a BI D)) : AT g κ (KT e) z cells slots pc l st (ob B a (fz kd) L D) := at_agree (fun q kq hq j hj => by
  obtain ⟨h1, h2⟩ := KT_lt hq
  unfold mg
  rcases Nat.lt_trichotomy q a with c | c | c
  · rw [if_pos c, ob_lt c]
  · subst c
    rw [hk] at h2
    cases h2
    rw [if_neg (Nat.lt_irrefl _), ob_at]
    exact h0 j hj
  · rw [if_neg (by omega), ob_gt c]
    exact hB q c h1 kq h2 j hj) kk
end CTOR2

theorem dX10_init_0 : decode cX10_init 0 = .ok (.aload_n 0, 1) := by decide +kernel
theorem dX10_init_1 : decode cX10_init 1 = .ok (.invokespecial 3, 3) := by decide +kernel
theorem dX10_init_4 : decode cX10_init 4 = .ok (.aload_n 0, 1) := by decide +kernel
theorem dX10_init_5 : decode cX10_init 5 = .ok (.sipush 600, 3) := by decide +kernel
theorem dX10_init_8 : decode cX10_init 8 = .ok (.newarray .byte, 2) := by decide +kernel
theorem dX10_init_10 : decode cX10_init 10 = .ok (.putfield 9, 3) := by decide +kernel
theorem dX10_init_13 : decode cX10_init 13 = .ok (.aload_n 0, 1) := by decide +kernel
theorem dX10_init_14 : decode cX10_init 14 = .ok (.iconst (-1), 1) := by decide +kernel
theorem dX10_init_15 : decode cX10_init 15 = .ok (.putfield 15, 3) := by decide +kernel
theorem dX10_init_18 : decode cX10_init 18 = .ok (.return_, 1) := by decide +kernel
theorem dX8_init_0 : decode cX8_init 0 = .ok (.aload_n 0, 1) := by decide +kernel
theorem dX8_init_1 : decode cX8_init 1 = .ok (.invokespecial 3, 3) := by decide +kernel
theorem dX8_init_4 : decode cX8_init 4 = .ok (.aload_n 0, 1) := by decide +kernel
theorem dX8_init_5 : decode cX8_init 5 = .ok (.bipush 16, 2) := by decide +kernel
theorem dX8_init_7 : decode cX8_init 7 = .ok (.newarray .int, 2) := by decide +kernel
theorem dX8_init_9 : decode cX8_init 9 = .ok (.putfield 9, 3) := by decide +kernel
theorem dX8_init_12 : decode cX8_init 12 = .ok (.aload_n 0, 1) := by decide +kernel
theorem dX8_init_13 : decode cX8_init 13 = .ok (.bipush 16, 2) := by decide +kernel
theorem dX8_init_15 : decode cX8_init 15 = .ok (.newarray .int, 2) := by decide +kernel
theorem dX8_init_17 : decode cX8_init 17 = .ok (.putfield 15, 3) := by decide +kernel
theorem dX8_init_20 : decode cX8_init 20 = .ok (.aload_n 0, 1) := by decide +kernel
theorem dX8_init_21 : decode cX8_init 21 = .ok (.bipush 16, 2) := by decide +kernel
theorem dX8_init_23 : decode cX8_init 23 = .ok (.newarray .int, 2) := by decide +kernel
theorem dX8_init_25 : decode cX8_init 25 = .ok (.putfield 18, 3) := by decide +kernel
theorem dX8_init_28 : decode cX8_init 28 = .ok (.return_, 1) := by decide +kernel
theorem dX2_init_0 : decode cX2_init 0 = .ok (.aload_n 0, 1) := by decide +kernel
theorem dX2_init_1 : decode cX2_init 1 = .ok (.invokespecial 3, 3) := by decide +kernel
theorem dX2_init_4 : decode cX2_init 4 = .ok (.aload_n 0, 1) := by decide +kernel
theorem dX2_init_5 : decode cX2_init 5 = .ok (.bipush 20, 2) := by decide +kernel
theorem dX2_init_7 : decode cX2_init 7 = .ok (.newarray .int, 2) := by decide +kernel
theorem dX2_init_9 : decode cX2_init 9 = .ok (.putfield 9, 3) := by decide +kernel
theorem dX2_init_12 : decode cX2_init 12 = .ok (.aload_n 0, 1) := by decide +kernel
theorem dX2_init_13 : decode cX2_init 13 = .ok (.bipush 20, 2) := by decide +kernel
theorem dX2_init_15 : decode cX2_init 15 = .ok (.newarray .int, 2) := by decide +kernel
theorem dX2_init_17 : decode cX2_init 17 = .ok (.putfield 15, 3) := by decide +kernel
theorem dX2_init_20 : decode cX2_init 20 = .ok (.aload_n 0, 1) := by decide +kernel
theorem dX2_init_21 : decode cX2_init 21 = .ok (.bipush 20, 2) := by decide +kernel
theorem dX2_init_23 : decode cX2_init 23 = .ok (.newarray .int, 2) := by decide +kernel
theorem dX2_init_25 : decode cX2_init 25 = .ok (.putfield 18, 3) := by decide +kernel
theorem dX2_init_28 : decode cX2_init 28 = .ok (.aload_n 0, 1) := by decide +kernel
theorem dX2_init_29 : decode cX2_init 29 = .ok (.bipush 20, 2) := by decide +kernel
theorem dX2_init_31 : decode cX2_init 31 = .ok (.newarray .int, 2) := by decide +kernel
theorem dX2_init_33 : decode cX2_init 33 = .ok (.putfield 21, 3) := by decide +kernel
theorem dX2_init_36 : decode cX2_init 36 = .ok (.return_, 1) := by decide +kernel
theorem dX4_init_0 : decode cX4_init 0 = .ok (.aload_n 0, 1) := by decide +kernel
theorem dX4_init_1 : decode cX4_init 1 = .ok (.invokespecial 3, 3) := by decide +kernel
theorem dX4_init_4 : decode cX4_init 4 = .ok (.aload_n 0, 1) := by decide +kernel
theorem dX4_init_5 : decode cX4_init 5 = .ok (.bipush 11, 2) := by decide +kernel
theorem dX4_init_7 : decode cX4_init 7 = .ok (.newarray .int, 2) := by decide +kernel
theorem dX4_init_9 : decode cX4_init 9 = .ok (.putfield 9, 3) := by decide +kernel
theorem dX4_init_12 : decode cX4_init 12 = .ok (.aload_n 0, 1) := by decide +kernel
theorem dX4_init_13 : decode cX4_init 13 = .ok (.bipush 11, 2) := by decide +kernel
theorem dX4_init_15 : decode cX4_init 15 = .ok (.newarray .int, 2) := by decide +kernel
theorem dX4_init_17 : decode cX4_init 17 = .ok (.putfield 15, 3) := by decide +kernel
theorem dX4_init_20 : decode cX4_init 20 = .ok (.aload_n 0, 1) := by decide +kernel
theorem dX4_init_21 : decode cX4_init 21 = .ok (.bipush 24, 2) := by decide +kernel
theorem dX4_init_23 : decode cX4_init 23 = .ok (.newarray .int, 2) := by decide +kernel
theorem dX4_init_25 : decode cX4_init 25 = .ok (.putfield 18, 3) := by decide +kernel
theorem dX4_init_28 : decode cX4_init 28 = .ok (.aload_n 0, 1) := by decide +kernel
theorem dX4_init_29 : decode cX4_init 29 = .ok (.bipush 24, 2) := by decide +kernel
theorem dX4_init_31 : decode cX4_init 31 = .ok (.newarray .int, 2) := by decide +kernel
theorem dX4_init_33 : decode cX4_init 33 = .ok (.putfield 21, 3) := by decide +kernel
theorem dX4_init_36 : decode cX4_init 36 = .ok (.aload_n 0, 1) := by decide +kernel
theorem dX4_init_37 : decode cX4_init 37 = .ok (.bipush 24, 2) := by decide +kernel
theorem dX4_init_39 : decode cX4_init 39 = .ok (.newarray .int, 2) := by decide +kernel
theorem dX4_init_41 : decode cX4_init 41 = .ok (.putfield 24, 3) := by decide +kernel
theorem dX4_init_44 : decode cX4_init 44 = .ok (.aload_n 0, 1) := by decide +kernel
theorem dX4_init_45 : decode cX4_init 45 = .ok (.sipush 264, 3) := by decide +kernel
theorem dX4_init_48 : decode cX4_init 48 = .ok (.newarray .long, 2) := by decide +kernel
theorem dX4_init_50 : decode cX4_init 50 = .ok (.putfield 27, 3) := by decide +kernel
theorem dX4_init_53 : decode cX4_init 53 = .ok (.aload_n 0, 1) := by decide +kernel
theorem dX4_init_54 : decode cX4_init 54 = .ok (.bipush 24, 2) := by decide +kernel
theorem dX4_init_56 : decode cX4_init 56 = .ok (.newarray .int, 2) := by decide +kernel
theorem dX4_init_58 : decode cX4_init 58 = .ok (.putfield 31, 3) := by decide +kernel
theorem dX4_init_61 : decode cX4_init 61 = .ok (.aload_n 0, 1) := by decide +kernel
theorem dX4_init_62 : decode cX4_init 62 = .ok (.sipush 1920, 3) := by decide +kernel
theorem dX4_init_65 : decode cX4_init 65 = .ok (.newarray .int, 2) := by decide +kernel
theorem dX4_init_67 : decode cX4_init 67 = .ok (.putfield 34, 3) := by decide +kernel
theorem dX4_init_70 : decode cX4_init 70 = .ok (.return_, 1) := by decide +kernel
theorem dX3_init_0 : decode cX3_init 0 = .ok (.aload_n 0, 1) := by decide +kernel
theorem dX3_init_1 : decode cX3_init 1 = .ok (.invokespecial 3, 3) := by decide +kernel
theorem dX3_init_4 : decode cX3_init 4 = .ok (.aload_n 0, 1) := by decide +kernel
theorem dX3_init_5 : decode cX3_init 5 = .ok (.bipush 8, 2) := by decide +kernel
theorem dX3_init_7 : decode cX3_init 7 = .ok (.newarray .int, 2) := by decide +kernel
theorem dX3_init_9 : decode cX3_init 9 = .ok (.putfield 9, 3) := by decide +kernel
theorem dX3_init_12 : decode cX3_init 12 = .ok (.aload_n 0, 1) := by decide +kernel
theorem dX3_init_13 : decode cX3_init 13 = .ok (.bipush 8, 2) := by decide +kernel
theorem dX3_init_15 : decode cX3_init 15 = .ok (.newarray .int, 2) := by decide +kernel
theorem dX3_init_17 : decode cX3_init 17 = .ok (.putfield 15, 3) := by decide +kernel
theorem dX3_init_20 : decode cX3_init 20 = .ok (.aload_n 0, 1) := by decide +kernel
theorem dX3_init_21 : decode cX3_init 21 = .ok (.bipush 8, 2) := by decide +kernel
theorem dX3_init_23 : decode cX3_init 23 = .ok (.newarray .int, 2) := by decide +kernel
theorem dX3_init_25 : decode cX3_init 25 = .ok (.putfield 18, 3) := by decide +kernel
theorem dX3_init_28 : decode cX3_init 28 = .ok (.aload_n 0, 1) := by decide +kernel
theorem dX3_init_29 : decode cX3_init 29 = .ok (.sipush 192, 3) := by decide +kernel
theorem dX3_init_32 : decode cX3_init 32 = .ok (.newarray .int, 2) := by decide +kernel
theorem dX3_init_34 : decode cX3_init 34 = .ok (.putfield 21, 3) := by decide +kernel
theorem dX3_init_37 : decode cX3_init 37 = .ok (.aload_n 0, 1) := by decide +kernel
theorem dX3_init_38 : decode cX3_init 38 = .ok (.bipush 40, 2) := by decide +kernel
theorem dX3_init_40 : decode cX3_init 40 = .ok (.newarray .long, 2) := by decide +kernel
theorem dX3_init_42 : decode cX3_init 42 = .ok (.putfield 24, 3) := by decide +kernel
theorem dX3_init_45 : decode cX3_init 45 = .ok (.return_, 1) := by decide +kernel
theorem dX1_init_0 : decode cX1_init 0 = .ok (.aload_n 0, 1) := by decide +kernel
theorem dX1_init_1 : decode cX1_init 1 = .ok (.invokespecial 3, 3) := by decide +kernel
theorem dX1_init_4 : decode cX1_init 4 = .ok (.aload_n 0, 1) := by decide +kernel
theorem dX1_init_5 : decode cX1_init 5 = .ok (.sipush 960, 3) := by decide +kernel
theorem dX1_init_8 : decode cX1_init 8 = .ok (.newarray .int, 2) := by decide +kernel
theorem dX1_init_10 : decode cX1_init 10 = .ok (.putfield 9, 3) := by decide +kernel
theorem dX1_init_13 : decode cX1_init 13 = .ok (.return_, 1) := by decide +kernel
theorem dX6_init_0 : decode cX6_init 0 = .ok (.aload_n 0, 1) := by decide +kernel
theorem dX6_init_1 : decode cX6_init 1 = .ok (.invokespecial 3, 3) := by decide +kernel
theorem dX6_init_4 : decode cX6_init 4 = .ok (.aload_n 0, 1) := by decide +kernel
theorem dX6_init_5 : decode cX6_init 5 = .ok (.bipush 40, 2) := by decide +kernel
theorem dX6_init_7 : decode cX6_init 7 = .ok (.newarray .int, 2) := by decide +kernel
theorem dX6_init_9 : decode cX6_init 9 = .ok (.putfield 9, 3) := by decide +kernel
theorem dX6_init_12 : decode cX6_init 12 = .ok (.aload_n 0, 1) := by decide +kernel
theorem dX6_init_13 : decode cX6_init 13 = .ok (.bipush 40, 2) := by decide +kernel
theorem dX6_init_15 : decode cX6_init 15 = .ok (.newarray .long, 2) := by decide +kernel
theorem dX6_init_17 : decode cX6_init 17 = .ok (.putfield 15, 3) := by decide +kernel
theorem dX6_init_20 : decode cX6_init 20 = .ok (.aload_n 0, 1) := by decide +kernel
theorem dX6_init_21 : decode cX6_init 21 = .ok (.iconst 3, 1) := by decide +kernel
theorem dX6_init_22 : decode cX6_init 22 = .ok (.newarray .int, 2) := by decide +kernel
theorem dX6_init_24 : decode cX6_init 24 = .ok (.putfield 19, 3) := by decide +kernel
theorem dX6_init_27 : decode cX6_init 27 = .ok (.aload_n 0, 1) := by decide +kernel
theorem dX6_init_28 : decode cX6_init 28 = .ok (.bipush 8, 2) := by decide +kernel
theorem dX6_init_30 : decode cX6_init 30 = .ok (.newarray .int, 2) := by decide +kernel
theorem dX6_init_32 : decode cX6_init 32 = .ok (.putfield 22, 3) := by decide +kernel
theorem dX6_init_35 : decode cX6_init 35 = .ok (.aload_n 0, 1) := by decide +kernel
theorem dX6_init_36 : decode cX6_init 36 = .ok (.bipush 40, 2) := by decide +kernel
theorem dX6_init_38 : decode cX6_init 38 = .ok (.newarray .long, 2) := by decide +kernel
theorem dX6_init_40 : decode cX6_init 40 = .ok (.putfield 25, 3) := by decide +kernel
theorem dX6_init_43 : decode cX6_init 43 = .ok (.return_, 1) := by decide +kernel
theorem dX0_init_0 : decode cX0_init 0 = .ok (.aload_n 0, 1) := by decide +kernel
theorem dX0_init_1 : decode cX0_init 1 = .ok (.invokespecial 3, 3) := by decide +kernel
theorem dX0_init_4 : decode cX0_init 4 = .ok (.aload_n 0, 1) := by decide +kernel
theorem dX0_init_5 : decode cX0_init 5 = .ok (.bipush 8, 2) := by decide +kernel
theorem dX0_init_7 : decode cX0_init 7 = .ok (.newarray .int, 2) := by decide +kernel
theorem dX0_init_9 : decode cX0_init 9 = .ok (.putfield 9, 3) := by decide +kernel
theorem dX0_init_12 : decode cX0_init 12 = .ok (.aload_n 0, 1) := by decide +kernel
theorem dX0_init_13 : decode cX0_init 13 = .ok (.bipush 8, 2) := by decide +kernel
theorem dX0_init_15 : decode cX0_init 15 = .ok (.newarray .int, 2) := by decide +kernel
theorem dX0_init_17 : decode cX0_init 17 = .ok (.putfield 15, 3) := by decide +kernel
theorem dX0_init_20 : decode cX0_init 20 = .ok (.aload_n 0, 1) := by decide +kernel
theorem dX0_init_21 : decode cX0_init 21 = .ok (.bipush 8, 2) := by decide +kernel
theorem dX0_init_23 : decode cX0_init 23 = .ok (.newarray .int, 2) := by decide +kernel
theorem dX0_init_25 : decode cX0_init 25 = .ok (.putfield 18, 3) := by decide +kernel
theorem dX0_init_28 : decode cX0_init 28 = .ok (.aload_n 0, 1) := by decide +kernel
theorem dX0_init_29 : decode cX0_init 29 = .ok (.sipush 160, 3) := by decide +kernel
theorem dX0_init_32 : decode cX0_init 32 = .ok (.newarray .int, 2) := by decide +kernel
theorem dX0_init_34 : decode cX0_init 34 = .ok (.putfield 21, 3) := by decide +kernel
theorem dX0_init_37 : decode cX0_init 37 = .ok (.aload_n 0, 1) := by decide +kernel
theorem dX0_init_38 : decode cX0_init 38 = .ok (.bipush 8, 2) := by decide +kernel
theorem dX0_init_40 : decode cX0_init 40 = .ok (.newarray .long, 2) := by decide +kernel
theorem dX0_init_42 : decode cX0_init 42 = .ok (.putfield 24, 3) := by decide +kernel
theorem dX0_init_45 : decode cX0_init 45 = .ok (.aload_n 0, 1) := by decide +kernel
theorem dX0_init_46 : decode cX0_init 46 = .ok (.bipush 8, 2) := by decide +kernel
theorem dX0_init_48 : decode cX0_init 48 = .ok (.newarray .long, 2) := by decide +kernel
theorem dX0_init_50 : decode cX0_init 50 = .ok (.putfield 28, 3) := by decide +kernel
theorem dX0_init_53 : decode cX0_init 53 = .ok (.return_, 1) := by decide +kernel
theorem dX5_init_0 : decode cX5_init 0 = .ok (.aload_n 0, 1) := by decide +kernel
theorem dX5_init_1 : decode cX5_init 1 = .ok (.invokespecial 3, 3) := by decide +kernel
theorem dX5_init_4 : decode cX5_init 4 = .ok (.aload_n 0, 1) := by decide +kernel
theorem dX5_init_5 : decode cX5_init 5 = .ok (.bipush 10, 2) := by decide +kernel
theorem dX5_init_7 : decode cX5_init 7 = .ok (.newarray .int, 2) := by decide +kernel
theorem dX5_init_9 : decode cX5_init 9 = .ok (.putfield 9, 3) := by decide +kernel
theorem dX5_init_12 : decode cX5_init 12 = .ok (.aload_n 0, 1) := by decide +kernel
theorem dX5_init_13 : decode cX5_init 13 = .ok (.bipush 8, 2) := by decide +kernel
theorem dX5_init_15 : decode cX5_init 15 = .ok (.newarray .int, 2) := by decide +kernel
theorem dX5_init_17 : decode cX5_init 17 = .ok (.putfield 15, 3) := by decide +kernel
theorem dX5_init_20 : decode cX5_init 20 = .ok (.aload_n 0, 1) := by decide +kernel
theorem dX5_init_21 : decode cX5_init 21 = .ok (.sipush 160, 3) := by decide +kernel
theorem dX5_init_24 : decode cX5_init 24 = .ok (.newarray .int, 2) := by decide +kernel
theorem dX5_init_26 : decode cX5_init 26 = .ok (.putfield 18, 3) := by decide +kernel
theorem dX5_init_29 : decode cX5_init 29 = .ok (.aload_n 0, 1) := by decide +kernel
theorem dX5_init_30 : decode cX5_init 30 = .ok (.new 21, 3) := by decide +kernel
theorem dX5_init_33 : decode cX5_init 33 = .ok (.dup, 1) := by decide +kernel
theorem dX5_init_34 : decode cX5_init 34 = .ok (.invokespecial 23, 3) := by decide +kernel
theorem dX5_init_37 : decode cX5_init 37 = .ok (.putfield 24, 3) := by decide +kernel
theorem dX5_init_40 : decode cX5_init 40 = .ok (.return_, 1) := by decide +kernel
theorem cc_X2_init_24 {g : Gw} (hG : GF g) (D : Mm) (hD : ∀ j, D 24 j = fz (9, 0) j) : CT g yX2_init cX2_init 1 none 1 24 4 80 (KT 25) true [mR 24] D (KT 29) true (fun r D' => r = none ∧ D' = mg 24 (ov EI) D) := by
  refine CT.mk hG (by decide +kernel) (by decide) (fun κ X Rt hin2 _ => ?_)
  have hin := hin2 rfl
  refine c_open (a := 24) (ov EI) hD ?_
  refine at_aload_n 1 X rfl rfl dX2_init_0 rfl ?_
  refine at_objInit 4 X w_252 w_156 w_157 (by rw [Rt.1]; exact Nat.le_of_ble_eq_true rfl) (by rw [Rt.1]; exact Nat.le_of_ble_eq_true rfl) dX2_init_1 rfl ?_
  refine at_aload_n 5 X rfl rfl dX2_init_4 rfl ?_
  refine at_bipush 7 X (by decide) (by decide) dX2_init_5 rfl ?_
  refine c_newaI 9 25 X (n := 20) rfl (by decide) k_25 (by decide) (by decide) (ovEI0 e_25 (by decide +kernel)) (by rw [Rt.1]; exact Nat.le_of_ble_eq_true rfl) (by rw [Rt.1]; exact Nat.le_of_ble_eq_true rfl) dX2_init_7 rfl ?_
  refine at_putfF 12 X hin 24 2 0 clX2 rfl (by decide) w_253 (KT_get (by decide) k_24) rfl (by decide) rfl (fun q => absurd q (by decide)) dX2_init_9 rfl ?_
  rw [ob_wr]
  refine at_aload_n 13 X rfl rfl dX2_init_12 rfl ?_
  refine at_bipush 15 X (by decide) (by decide) dX2_init_13 rfl ?_
  refine c_newaI 17 26 X (n := 20) rfl (by decide) k_26 (by decide) (by decide) (ovEI0 e_26 (by decide +kernel)) (by rw [Rt.1]; exact Nat.le_of_ble_eq_true rfl) (by rw [Rt.1]; exact Nat.le_of_ble_eq_true rfl) dX2_init_15 rfl ?_
  refine at_putfF 20 X hin 24 2 1 clX2 rfl (by decide) w_254 (KT_get (by decide) k_24) rfl (by decide) rfl (fun q => absurd q (by decide)) dX2_init_17 rfl ?_
  rw [ob_wr]
  refine at_aload_n 21 X rfl rfl dX2_init_20 rfl ?_
  refine at_bipush 23 X (by decide) (by decide) dX2_init_21 rfl ?_
  refine c_newaI 25 27 X (n := 20) rfl (by decide) k_27 (by decide) (by decide) (ovEI0 e_27 (by decide +kernel)) (by rw [Rt.1]; exact Nat.le_of_ble_eq_true rfl) (by rw [Rt.1]; exact Nat.le_of_ble_eq_true rfl) dX2_init_23 rfl ?_
  refine at_putfF 28 X hin 24 2 2 clX2 rfl (by decide) w_255 (KT_get (by decide) k_24) rfl (by decide) rfl (fun q => absurd q (by decide)) dX2_init_25 rfl ?_
  rw [ob_wr]
  refine at_aload_n 29 X rfl rfl dX2_init_28 rfl ?_
  refine at_bipush 31 X (by decide) (by decide) dX2_init_29 rfl ?_
  refine c_newaI 33 28 X (n := 20) rfl (by decide) k_28 (by decide) (by decide) (ovEI0 e_28 (by decide +kernel)) (by rw [Rt.1]; exact Nat.le_of_ble_eq_true rfl) (by rw [Rt.1]; exact Nat.le_of_ble_eq_true rfl) dX2_init_31 rfl ?_
  refine at_putfF 36 X hin 24 2 3 clX2 rfl (by decide) w_256 (KT_get (by decide) k_24) rfl (by decide) rfl (fun q => absurd q (by decide)) dX2_init_33 rfl ?_
  rw [ob_wr]
  refine c_shut k_24 (by decide +kernel) (fun _ _ _ _ _ _ _ => rfl) ?_
  exact at_vret X Rt ⟨rfl, rfl⟩ (Nat.le_of_ble_eq_true rfl) (Nat.le_of_ble_eq_true rfl) dX2_init_36
theorem cc_X2_init_102 {g : Gw} (hG : GF g) (D : Mm) (hD : ∀ j, D 102 j = fz (9, 0) j) : CT g yX2_init cX2_init 1 none 1 24 4 80 (KT 103) true [mR 102] D (KT 107) true (fun r D' => r = none ∧ D' = mg 102 (ov EI) D) := by
  refine CT.mk hG (by decide +kernel) (by decide) (fun κ X Rt hin2 _ => ?_)
  have hin := hin2 rfl
  refine c_open (a := 102) (ov EI) hD ?_
  refine at_aload_n 1 X rfl rfl dX2_init_0 rfl ?_
  refine at_objInit 4 X w_252 w_156 w_157 (by rw [Rt.1]; exact Nat.le_of_ble_eq_true rfl) (by rw [Rt.1]; exact Nat.le_of_ble_eq_true rfl) dX2_init_1 rfl ?_
  refine at_aload_n 5 X rfl rfl dX2_init_4 rfl ?_
  refine at_bipush 7 X (by decide) (by decide) dX2_init_5 rfl ?_
  refine c_newaI 9 103 X (n := 20) rfl (by decide) k_103 (by decide) (by decide) (ovEI0 e_103 (by decide +kernel)) (by rw [Rt.1]; exact Nat.le_of_ble_eq_true rfl) (by rw [Rt.1]; exact Nat.le_of_ble_eq_true rfl) dX2_init_7 rfl ?_
  refine at_putfF 12 X hin 102 2 0 clX2 rfl (by decide) w_253 (KT_get (by decide) k_102) rfl (by decide) rfl (fun q => absurd q (by decide)) dX2_init_9 rfl ?_
  rw [ob_wr]
  refine at_aload_n 13 X rfl rfl dX2_init_12 rfl ?_
  refine at_bipush 15 X (by decide) (by decide) dX2_init_13 rfl ?_
  refine c_newaI 17 104 X (n := 20) rfl (by decide) k_104 (by decide) (by decide) (ovEI0 e_104 (by decide +kernel)) (by rw [Rt.1]; exact Nat.le_of_ble_eq_true rfl) (by rw [Rt.1]; exact Nat.le_of_ble_eq_true rfl) dX2_init_15 rfl ?_
  refine at_putfF 20 X hin 102 2 1 clX2 rfl (by decide) w_254 (KT_get (by decide) k_102) rfl (by decide) rfl (fun q => absurd q (by decide)) dX2_init_17 rfl ?_
  rw [ob_wr]
  refine at_aload_n 21 X rfl rfl dX2_init_20 rfl ?_
  refine at_bipush 23 X (by decide) (by decide) dX2_init_21 rfl ?_
  refine c_newaI 25 105 X (n := 20) rfl (by decide) k_105 (by decide) (by decide) (ovEI0 e_105 (by decide +kernel)) (by rw [Rt.1]; exact Nat.le_of_ble_eq_true rfl) (by rw [Rt.1]; exact Nat.le_of_ble_eq_true rfl) dX2_init_23 rfl ?_
  refine at_putfF 28 X hin 102 2 2 clX2 rfl (by decide) w_255 (KT_get (by decide) k_102) rfl (by decide) rfl (fun q => absurd q (by decide)) dX2_init_25 rfl ?_
  rw [ob_wr]
  refine at_aload_n 29 X rfl rfl dX2_init_28 rfl ?_
  refine at_bipush 31 X (by decide) (by decide) dX2_init_29 rfl ?_
  refine c_newaI 33 106 X (n := 20) rfl (by decide) k_106 (by decide) (by decide) (ovEI0 e_106 (by decide +kernel)) (by rw [Rt.1]; exact Nat.le_of_ble_eq_true rfl) (by rw [Rt.1]; exact Nat.le_of_ble_eq_true rfl) dX2_init_31 rfl ?_
  refine at_putfF 36 X hin 102 2 3 clX2 rfl (by decide) w_256 (KT_get (by decide) k_102) rfl (by decide) rfl (fun q => absurd q (by decide)) dX2_init_33 rfl ?_
  rw [ob_wr]
  refine c_shut k_102 (by decide +kernel) (fun _ _ _ _ _ _ _ => rfl) ?_
  exact at_vret X Rt ⟨rfl, rfl⟩ (Nat.le_of_ble_eq_true rfl) (Nat.le_of_ble_eq_true rfl) dX2_init_36
theorem cc_X2_init_111 {g : Gw} (hG : GF g) (D : Mm) (hD : ∀ j, D 111 j = fz (9, 0) j) : CT g yX2_init cX2_init 1 none 1 24 4 80 (KT 112) true [mR 111] D (KT 116) true (fun r D' => r = none ∧ D' = mg 111 (ov EI) D) := by
  refine CT.mk hG (by decide +kernel) (by decide) (fun κ X Rt hin2 _ => ?_)
  have hin := hin2 rfl
  refine c_open (a := 111) (ov EI) hD ?_
  refine at_aload_n 1 X rfl rfl dX2_init_0 rfl ?_
  refine at_objInit 4 X w_252 w_156 w_157 (by rw [Rt.1]; exact Nat.le_of_ble_eq_true rfl) (by rw [Rt.1]; exact Nat.le_of_ble_eq_true rfl) dX2_init_1 rfl ?_
  refine at_aload_n 5 X rfl rfl dX2_init_4 rfl ?_
  refine at_bipush 7 X (by decide) (by decide) dX2_init_5 rfl ?_
  refine c_newaI 9 112 X (n := 20) rfl (by decide) k_112 (by decide) (by decide) (ovEI0 e_112 (by decide +kernel)) (by rw [Rt.1]; exact Nat.le_of_ble_eq_true rfl) (by rw [Rt.1]; exact Nat.le_of_ble_eq_true rfl) dX2_init_7 rfl ?_
  refine at_putfF 12 X hin 111 2 0 clX2 rfl (by decide) w_253 (KT_get (by decide) k_111) rfl (by decide) rfl (fun q => absurd q (by decide)) dX2_init_9 rfl ?_
  rw [ob_wr]
  refine at_aload_n 13 X rfl rfl dX2_init_12 rfl ?_
  refine at_bipush 15 X (by decide) (by decide) dX2_init_13 rfl ?_
  refine c_newaI 17 113 X (n := 20) rfl (by decide) k_113 (by decide) (by decide) (ovEI0 e_113 (by decide +kernel)) (by rw [Rt.1]; exact Nat.le_of_ble_eq_true rfl) (by rw [Rt.1]; exact Nat.le_of_ble_eq_true rfl) dX2_init_15 rfl ?_
  refine at_putfF 20 X hin 111 2 1 clX2 rfl (by decide) w_254 (KT_get (by decide) k_111) rfl (by decide) rfl (fun q => absurd q (by decide)) dX2_init_17 rfl ?_
  rw [ob_wr]
  refine at_aload_n 21 X rfl rfl dX2_init_20 rfl ?_
  refine at_bipush 23 X (by decide) (by decide) dX2_init_21 rfl ?_
  refine c_newaI 25 114 X (n := 20) rfl (by decide) k_114 (by decide) (by decide) (ovEI0 e_114 (by decide +kernel)) (by rw [Rt.1]; exact Nat.le_of_ble_eq_true rfl) (by rw [Rt.1]; exact Nat.le_of_ble_eq_true rfl) dX2_init_23 rfl ?_
  refine at_putfF 28 X hin 111 2 2 clX2 rfl (by decide) w_255 (KT_get (by decide) k_111) rfl (by decide) rfl (fun q => absurd q (by decide)) dX2_init_25 rfl ?_
  rw [ob_wr]
  refine at_aload_n 29 X rfl rfl dX2_init_28 rfl ?_
  refine at_bipush 31 X (by decide) (by decide) dX2_init_29 rfl ?_
  refine c_newaI 33 115 X (n := 20) rfl (by decide) k_115 (by decide) (by decide) (ovEI0 e_115 (by decide +kernel)) (by rw [Rt.1]; exact Nat.le_of_ble_eq_true rfl) (by rw [Rt.1]; exact Nat.le_of_ble_eq_true rfl) dX2_init_31 rfl ?_
  refine at_putfF 36 X hin 111 2 3 clX2 rfl (by decide) w_256 (KT_get (by decide) k_111) rfl (by decide) rfl (fun q => absurd q (by decide)) dX2_init_33 rfl ?_
  rw [ob_wr]
  refine c_shut k_111 (by decide +kernel) (fun _ _ _ _ _ _ _ => rfl) ?_
  exact at_vret X Rt ⟨rfl, rfl⟩ (Nat.le_of_ble_eq_true rfl) (Nat.le_of_ble_eq_true rfl) dX2_init_36
theorem cc_X2_init_120 {g : Gw} (hG : GF g) (D : Mm) (hD : ∀ j, D 120 j = fz (9, 0) j) : CT g yX2_init cX2_init 1 none 1 24 4 80 (KT 121) true [mR 120] D (KT 125) true (fun r D' => r = none ∧ D' = mg 120 (ov EI) D) := by
  refine CT.mk hG (by decide +kernel) (by decide) (fun κ X Rt hin2 _ => ?_)
  have hin := hin2 rfl
  refine c_open (a := 120) (ov EI) hD ?_
  refine at_aload_n 1 X rfl rfl dX2_init_0 rfl ?_
  refine at_objInit 4 X w_252 w_156 w_157 (by rw [Rt.1]; exact Nat.le_of_ble_eq_true rfl) (by rw [Rt.1]; exact Nat.le_of_ble_eq_true rfl) dX2_init_1 rfl ?_
  refine at_aload_n 5 X rfl rfl dX2_init_4 rfl ?_
  refine at_bipush 7 X (by decide) (by decide) dX2_init_5 rfl ?_
  refine c_newaI 9 121 X (n := 20) rfl (by decide) k_121 (by decide) (by decide) (ovEI0 e_121 (by decide +kernel)) (by rw [Rt.1]; exact Nat.le_of_ble_eq_true rfl) (by rw [Rt.1]; exact Nat.le_of_ble_eq_true rfl) dX2_init_7 rfl ?_
  refine at_putfF 12 X hin 120 2 0 clX2 rfl (by decide) w_253 (KT_get (by decide) k_120) rfl (by decide) rfl (fun q => absurd q (by decide)) dX2_init_9 rfl ?_
  rw [ob_wr]
  refine at_aload_n 13 X rfl rfl dX2_init_12 rfl ?_
  refine at_bipush 15 X (by decide) (by decide) dX2_init_13 rfl ?_
  refine c_newaI 17 122 X (n := 20) rfl (by decide) k_122 (by decide) (by decide) (ovEI0 e_122 (by decide +kernel)) (by rw [Rt.1]; exact Nat.le_of_ble_eq_true rfl) (by rw [Rt.1]; exact Nat.le_of_ble_eq_true rfl) dX2_init_15 rfl ?_
  refine at_putfF 20 X hin 120 2 1 clX2 rfl (by decide) w_254 (KT_get (by decide) k_120) rfl (by decide) rfl (fun q => absurd q (by decide)) dX2_init_17 rfl ?_
  rw [ob_wr]
  refine at_aload_n 21 X rfl rfl dX2_init_20 rfl ?_
  refine at_bipush 23 X (by decide) (by decide) dX2_init_21 rfl ?_
  refine c_newaI 25 123 X (n := 20) rfl (by decide) k_123 (by decide) (by decide) (ovEI0 e_123 (by decide +kernel)) (by rw [Rt.1]; exact Nat.le_of_ble_eq_true rfl) (by rw [Rt.1]; exact Nat.le_of_ble_eq_true rfl) dX2_init_23 rfl ?_
  refine at_putfF 28 X hin 120 2 2 clX2 rfl (by decide) w_255 (KT_get (by decide) k_120) rfl (by decide) rfl (fun q => absurd q (by decide)) dX2_init_25 rfl ?_
  rw [ob_wr]
  refine at_aload_n 29 X rfl rfl dX2_init_28 rfl ?_
  refine at_bipush 31 X (by decide) (by decide) dX2_init_29 rfl ?_
  refine c_newaI 33 124 X (n := 20) rfl (by decide) k_124 (by decide) (by decide) (ovEI0 e_124 (by decide +kernel)) (by rw [Rt.1]; exact Nat.le_of_ble_eq_true rfl) (by rw [Rt.1]; exact Nat.le_of_ble_eq_true rfl) dX2_init_31 rfl ?_
  refine at_putfF 36 X hin 120 2 3 clX2 rfl (by decide) w_256 (KT_get (by decide) k_120) rfl (by decide) rfl (fun q => absurd q (by decide)) dX2_init_33 rfl ?_
  rw [ob_wr]
  refine c_shut k_120 (by decide +kernel) (fun _ _ _ _ _ _ _ => rfl) ?_
  exact at_vret X Rt ⟨rfl, rfl⟩ (Nat.le_of_ble_eq_true rfl) (Nat.le_of_ble_eq_true rfl) dX2_init_36
theorem cc_X10_init_1 {g : Gw} (hG : GF g) (D : Mm) (hD : ∀ j, D 1 j = fz (17, 0) j) : CT g yX10_init cX10_init 1 none 1 24 1 600 (KT 2) true [mR 1] D (KT 3) true (fun r D' => r = none ∧ D' = mg 1 (ov EI) D) := by
  refine CT.mk hG (by decide +kernel) (by decide) (fun κ X Rt hin2 _ => ?_)
  have hin := hin2 rfl
  refine c_open (a := 1) (ov EI) hD ?_
  refine at_aload_n 1 X rfl rfl dX10_init_0 rfl ?_
  refine at_objInit 4 X w_163 w_156 w_157 (by rw [Rt.1]; exact Nat.le_of_ble_eq_true rfl) (by rw [Rt.1]; exact Nat.le_of_ble_eq_true rfl) dX10_init_1 rfl ?_
  refine at_aload_n 5 X rfl rfl dX10_init_4 rfl ?_
  refine at_sipush 8 X (by decide) (by decide) dX10_init_5 rfl ?_
  refine c_newaB 10 2 X (n := 600) rfl (by decide) k_2 (by decide) (by decide) (ovEI0 e_2 (by decide +kernel)) (by rw [Rt.1]; exact Nat.le_of_ble_eq_true rfl) (by rw [Rt.1]; exact Nat.le_of_ble_eq_true rfl) dX10_init_8 rfl ?_
  refine at_putfF 13 X hin 1 10 0 clX10 rfl (by decide) w_164 (KT_get (by decide) k_1) rfl (by decide) rfl (fun q => absurd q (by decide)) dX10_init_10 rfl ?_
  rw [ob_wr]
  refine at_aload_n 14 X rfl rfl dX10_init_13 rfl ?_
  refine at_iconst 15 X (by decide) dX10_init_14 rfl ?_
  refine at_putf 18 X 1 10 6 clX10 (by decide) w_171 (KT_get (by decide) k_1) rfl (by decide) rfl (fun q => absurd q (by decide)) dX10_init_15 rfl ?_
  rw [ob_wr]
  refine c_shut k_1 (by decide +kernel) (fun _ _ _ _ _ _ _ => rfl) ?_
  exact at_vret X Rt ⟨rfl, rfl⟩ (Nat.le_of_ble_eq_true rfl) (Nat.le_of_ble_eq_true rfl) dX10_init_18
theorem cc_X8_init_12 {g : Gw} (hG : GF g) (D : Mm) (hD : ∀ j, D 12 j = fz (15, 0) j) : CT g yX8_init cX8_init 1 none 1 24 3 48 (KT 13) true [mR 12] D (KT 16) true (fun r D' => r = none ∧ D' = mg 12 (ov EI) D) := by
  refine CT.mk hG (by decide +kernel) (by decide) (fun κ X Rt hin2 _ => ?_)
  have hin := hin2 rfl
  refine c_open (a := 12) (ov EI) hD ?_
  refine at_aload_n 1 X rfl rfl dX8_init_0 rfl ?_
  refine at_objInit 4 X w_222 w_156 w_157 (by rw [Rt.1]; exact Nat.le_of_ble_eq_true rfl) (by rw [Rt.1]; exact Nat.le_of_ble_eq_true rfl) dX8_init_1 rfl ?_
  refine at_aload_n 5 X rfl rfl dX8_init_4 rfl ?_
  refine at_bipush 7 X (by decide) (by decide) dX8_init_5 rfl ?_
  refine c_newaI 9 13 X (n := 16) rfl (by decide) k_13 (by decide) (by decide) (ovEI0 e_13 (by decide +kernel)) (by rw [Rt.1]; exact Nat.le_of_ble_eq_true rfl) (by rw [Rt.1]; exact Nat.le_of_ble_eq_true rfl) dX8_init_7 rfl ?_
  refine at_putfF 12 X hin 12 8 0 clX8 rfl (by decide) w_223 (KT_get (by decide) k_12) rfl (by decide) rfl (fun q => absurd q (by decide)) dX8_init_9 rfl ?_
  rw [ob_wr]
  refine at_aload_n 13 X rfl rfl dX8_init_12 rfl ?_
  refine at_bipush 15 X (by decide) (by decide) dX8_init_13 rfl ?_
  refine c_newaI 17 14 X (n := 16) rfl (by decide) k_14 (by decide) (by decide) (ovEI0 e_14 (by decide +kernel)) (by rw [Rt.1]; exact Nat.le_of_ble_eq_true rfl) (by rw [Rt.1]; exact Nat.le_of_ble_eq_true rfl) dX8_init_15 rfl ?_
  refine at_putfF 20 X hin 12 8 1 clX8 rfl (by decide) w_227 (KT_get (by decide) k_12) rfl (by decide) rfl (fun q => absurd q (by decide)) dX8_init_17 rfl ?_
  rw [ob_wr]
  refine at_aload_n 21 X rfl rfl dX8_init_20 rfl ?_
  refine at_bipush 23 X (by decide) (by decide) dX8_init_21 rfl ?_
  refine c_newaI 25 15 X (n := 16) rfl (by decide) k_15 (by decide) (by decide) (ovEI0 e_15 (by decide +kernel)) (by rw [Rt.1]; exact Nat.le_of_ble_eq_true rfl) (by rw [Rt.1]; exact Nat.le_of_ble_eq_true rfl) dX8_init_23 rfl ?_
  refine at_putfF 28 X hin 12 8 2 clX8 rfl (by decide) w_231 (KT_get (by decide) k_12) rfl (by decide) rfl (fun q => absurd q (by decide)) dX8_init_25 rfl ?_
  rw [ob_wr]
  refine c_shut k_12 (by decide +kernel) (fun _ _ _ _ _ _ _ => rfl) ?_
  exact at_vret X Rt ⟨rfl, rfl⟩ (Nat.le_of_ble_eq_true rfl) (Nat.le_of_ble_eq_true rfl) dX8_init_28
theorem cc_X8_init_16 {g : Gw} (hG : GF g) (D : Mm) (hD : ∀ j, D 16 j = fz (15, 0) j) : CT g yX8_init cX8_init 1 none 1 24 3 48 (KT 17) true [mR 16] D (KT 20) true (fun r D' => r = none ∧ D' = mg 16 (ov EI) D) := by
  refine CT.mk hG (by decide +kernel) (by decide) (fun κ X Rt hin2 _ => ?_)
  have hin := hin2 rfl
  refine c_open (a := 16) (ov EI) hD ?_
  refine at_aload_n 1 X rfl rfl dX8_init_0 rfl ?_
  refine at_objInit 4 X w_222 w_156 w_157 (by rw [Rt.1]; exact Nat.le_of_ble_eq_true rfl) (by rw [Rt.1]; exact Nat.le_of_ble_eq_true rfl) dX8_init_1 rfl ?_
  refine at_aload_n 5 X rfl rfl dX8_init_4 rfl ?_
  refine at_bipush 7 X (by decide) (by decide) dX8_init_5 rfl ?_
  refine c_newaI 9 17 X (n := 16) rfl (by decide) k_17 (by decide) (by decide) (ovEI0 e_17 (by decide +kernel)) (by rw [Rt.1]; exact Nat.le_of_ble_eq_true rfl) (by rw [Rt.1]; exact Nat.le_of_ble_eq_true rfl) dX8_init_7 rfl ?_
  refine at_putfF 12 X hin 16 8 0 clX8 rfl (by decide) w_223 (KT_get (by decide) k_16) rfl (by decide) rfl (fun q => absurd q (by decide)) dX8_init_9 rfl ?_
  rw [ob_wr]
  refine at_aload_n 13 X rfl rfl dX8_init_12 rfl ?_
  refine at_bipush 15 X (by decide) (by decide) dX8_init_13 rfl ?_
  refine c_newaI 17 18 X (n := 16) rfl (by decide) k_18 (by decide) (by decide) (ovEI0 e_18 (by decide +kernel)) (by rw [Rt.1]; exact Nat.le_of_ble_eq_true rfl) (by rw [Rt.1]; exact Nat.le_of_ble_eq_true rfl) dX8_init_15 rfl ?_
  refine at_putfF 20 X hin 16 8 1 clX8 rfl (by decide) w_227 (KT_get (by decide) k_16) rfl (by decide) rfl (fun q => absurd q (by decide)) dX8_init_17 rfl ?_
  rw [ob_wr]
  refine at_aload_n 21 X rfl rfl dX8_init_20 rfl ?_
  refine at_bipush 23 X (by decide) (by decide) dX8_init_21 rfl ?_
  refine c_newaI 25 19 X (n := 16) rfl (by decide) k_19 (by decide) (by decide) (ovEI0 e_19 (by decide +kernel)) (by rw [Rt.1]; exact Nat.le_of_ble_eq_true rfl) (by rw [Rt.1]; exact Nat.le_of_ble_eq_true rfl) dX8_init_23 rfl ?_
  refine at_putfF 28 X hin 16 8 2 clX8 rfl (by decide) w_231 (KT_get (by decide) k_16) rfl (by decide) rfl (fun q => absurd q (by decide)) dX8_init_25 rfl ?_
  rw [ob_wr]
  refine c_shut k_16 (by decide +kernel) (fun _ _ _ _ _ _ _ => rfl) ?_
  exact at_vret X Rt ⟨rfl, rfl⟩ (Nat.le_of_ble_eq_true rfl) (Nat.le_of_ble_eq_true rfl) dX8_init_28
theorem cc_X8_init_20 {g : Gw} (hG : GF g) (D : Mm) (hD : ∀ j, D 20 j = fz (15, 0) j) : CT g yX8_init cX8_init 1 none 1 24 3 48 (KT 21) true [mR 20] D (KT 24) true (fun r D' => r = none ∧ D' = mg 20 (ov EI) D) := by
  refine CT.mk hG (by decide +kernel) (by decide) (fun κ X Rt hin2 _ => ?_)
  have hin := hin2 rfl
  refine c_open (a := 20) (ov EI) hD ?_
  refine at_aload_n 1 X rfl rfl dX8_init_0 rfl ?_
  refine at_objInit 4 X w_222 w_156 w_157 (by rw [Rt.1]; exact Nat.le_of_ble_eq_true rfl) (by rw [Rt.1]; exact Nat.le_of_ble_eq_true rfl) dX8_init_1 rfl ?_
  refine at_aload_n 5 X rfl rfl dX8_init_4 rfl ?_
  refine at_bipush 7 X (by decide) (by decide) dX8_init_5 rfl ?_
  refine c_newaI 9 21 X (n := 16) rfl (by decide) k_21 (by decide) (by decide) (ovEI0 e_21 (by decide +kernel)) (by rw [Rt.1]; exact Nat.le_of_ble_eq_true rfl) (by rw [Rt.1]; exact Nat.le_of_ble_eq_true rfl) dX8_init_7 rfl ?_
  refine at_putfF 12 X hin 20 8 0 clX8 rfl (by decide) w_223 (KT_get (by decide) k_20) rfl (by decide) rfl (fun q => absurd q (by decide)) dX8_init_9 rfl ?_
  rw [ob_wr]
  refine at_aload_n 13 X rfl rfl dX8_init_12 rfl ?_
  refine at_bipush 15 X (by decide) (by decide) dX8_init_13 rfl ?_
  refine c_newaI 17 22 X (n := 16) rfl (by decide) k_22 (by decide) (by decide) (ovEI0 e_22 (by decide +kernel)) (by rw [Rt.1]; exact Nat.le_of_ble_eq_true rfl) (by rw [Rt.1]; exact Nat.le_of_ble_eq_true rfl) dX8_init_15 rfl ?_
  refine at_putfF 20 X hin 20 8 1 clX8 rfl (by decide) w_227 (KT_get (by decide) k_20) rfl (by decide) rfl (fun q => absurd q (by decide)) dX8_init_17 rfl ?_
  rw [ob_wr]
  refine at_aload_n 21 X rfl rfl dX8_init_20 rfl ?_
  refine at_bipush 23 X (by decide) (by decide) dX8_init_21 rfl ?_
  refine c_newaI 25 23 X (n := 16) rfl (by decide) k_23 (by decide) (by decide) (ovEI0 e_23 (by decide +kernel)) (by rw [Rt.1]; exact Nat.le_of_ble_eq_true rfl) (by rw [Rt.1]; exact Nat.le_of_ble_eq_true rfl) dX8_init_23 rfl ?_
  refine at_putfF 28 X hin 20 8 2 clX8 rfl (by decide) w_231 (KT_get (by decide) k_20) rfl (by decide) rfl (fun q => absurd q (by decide)) dX8_init_25 rfl ?_
  rw [ob_wr]
  refine c_shut k_20 (by decide +kernel) (fun _ _ _ _ _ _ _ => rfl) ?_
  exact at_vret X Rt ⟨rfl, rfl⟩ (Nat.le_of_ble_eq_true rfl) (Nat.le_of_ble_eq_true rfl) dX8_init_28
theorem cc_X4_init_30 {g : Gw} (hG : GF g) (D : Mm) (hD : ∀ j, D 30 j = fz (11, 0) j) : CT g yX4_init cX4_init 1 none 1 24 8 2302 (KT 31) true [mR 30] D (KT 39) true (fun r D' => r = none ∧ D' = mg 30 (ov EI) D) := by
  refine CT.mk hG (by decide +kernel) (by decide) (fun κ X Rt hin2 _ => ?_)
  have hin := hin2 rfl
  refine c_open (a := 30) (ov EI) hD ?_
  refine at_aload_n 1 X rfl rfl dX4_init_0 rfl ?_
  refine at_objInit 4 X w_277 w_156 w_157 (by rw [Rt.1]; exact Nat.le_of_ble_eq_true rfl) (by rw [Rt.1]; exact Nat.le_of_ble_eq_true rfl) dX4_init_1 rfl ?_
  refine at_aload_n 5 X rfl rfl dX4_init_4 rfl ?_
  refine at_bipush 7 X (by decide) (by decide) dX4_init_5 rfl ?_
  refine c_newaI 9 31 X (n := 11) rfl (by decide) k_31 (by decide) (by decide) (ovEI0 e_31 (by decide +kernel)) (by rw [Rt.1]; exact Nat.le_of_ble_eq_true rfl) (by rw [Rt.1]; exact Nat.le_of_ble_eq_true rfl) dX4_init_7 rfl ?_
  refine at_putfF 12 X hin 30 4 0 clX4 rfl (by decide) w_278 (KT_get (by decide) k_30) rfl (by decide) rfl (fun q => absurd q (by decide)) dX4_init_9 rfl ?_
  rw [ob_wr]
  refine at_aload_n 13 X rfl rfl dX4_init_12 rfl ?_
  refine at_bipush 15 X (by decide) (by decide) dX4_init_13 rfl ?_
  refine c_newaI 17 32 X (n := 11) rfl (by decide) k_32 (by decide) (by decide) (ovEI0 e_32 (by decide +kernel)) (by rw [Rt.1]; exact Nat.le_of_ble_eq_true rfl) (by rw [Rt.1]; exact Nat.le_of_ble_eq_true rfl) dX4_init_15 rfl ?_
  refine at_putfF 20 X hin 30 4 1 clX4 rfl (by decide) w_279 (KT_get (by decide) k_30) rfl (by decide) rfl (fun q => absurd q (by decide)) dX4_init_17 rfl ?_
  rw [ob_wr]
  refine at_aload_n 21 X rfl rfl dX4_init_20 rfl ?_
  refine at_bipush 23 X (by decide) (by decide) dX4_init_21 rfl ?_
  refine c_newaI 25 33 X (n := 24) rfl (by decide) k_33 (by decide) (by decide) (ovEI0 e_33 (by decide +kernel)) (by rw [Rt.1]; exact Nat.le_of_ble_eq_true rfl) (by rw [Rt.1]; exact Nat.le_of_ble_eq_true rfl) dX4_init_23 rfl ?_
  refine at_putfF 28 X hin 30 4 2 clX4 rfl (by decide) w_280 (KT_get (by decide) k_30) rfl (by decide) rfl (fun q => absurd q (by decide)) dX4_init_25 rfl ?_
  rw [ob_wr]
  refine at_aload_n 29 X rfl rfl dX4_init_28 rfl ?_
  refine at_bipush 31 X (by decide) (by decide) dX4_init_29 rfl ?_
  refine c_newaI 33 34 X (n := 24) rfl (by decide) k_34 (by decide) (by decide) (ovEI0 e_34 (by decide +kernel)) (by rw [Rt.1]; exact Nat.le_of_ble_eq_true rfl) (by rw [Rt.1]; exact Nat.le_of_ble_eq_true rfl) dX4_init_31 rfl ?_
  refine at_putfF 36 X hin 30 4 3 clX4 rfl (by decide) w_282 (KT_get (by decide) k_30) rfl (by decide) rfl (fun q => absurd q (by decide)) dX4_init_33 rfl ?_
  rw [ob_wr]
  refine at_aload_n 37 X rfl rfl dX4_init_36 rfl ?_
  refine at_bipush 39 X (by decide) (by decide) dX4_init_37 rfl ?_
  refine c_newaI 41 35 X (n := 24) rfl (by decide) k_35 (by decide) (by decide) (ovEI0 e_35 (by decide +kernel)) (by rw [Rt.1]; exact Nat.le_of_ble_eq_true rfl) (by rw [Rt.1]; exact Nat.le_of_ble_eq_true rfl) dX4_init_39 rfl ?_
  refine at_putfF 44 X hin 30 4 4 clX4 rfl (by decide) w_284 (KT_get (by decide) k_30) rfl (by decide) rfl (fun q => absurd q (by decide)) dX4_init_41 rfl ?_
  rw [ob_wr]
  refine at_aload_n 45 X rfl rfl dX4_init_44 rfl ?_
  refine at_sipush 48 X (by decide) (by decide) dX4_init_45 rfl ?_
  refine c_newaJ 50 36 X (n := 264) rfl (by decide) k_36 (by decide) (by decide) (ovEI0 e_36 (by decide +kernel)) (by rw [Rt.1]; exact Nat.le_of_ble_eq_true rfl) (by rw [Rt.1]; exact Nat.le_of_ble_eq_true rfl) dX4_init_48 rfl ?_
  refine at_putfF 53 X hin 30 4 5 clX4 rfl (by decide) w_286 (KT_get (by decide) k_30) rfl (by decide) rfl (fun q => absurd q (by decide)) dX4_init_50 rfl ?_
  rw [ob_wr]
  refine at_aload_n 54 X rfl rfl dX4_init_53 rfl ?_
  refine at_bipush 56 X (by decide) (by decide) dX4_init_54 rfl ?_
  refine c_newaI 58 37 X (n := 24) rfl (by decide) k_37 (by decide) (by decide) (ovEI0 e_37 (by decide +kernel)) (by rw [Rt.1]; exact Nat.le_of_ble_eq_true rfl) (by rw [Rt.1]; exact Nat.le_of_ble_eq_true rfl) dX4_init_56 rfl ?_
  refine at_putfF 61 X hin 30 4 6 clX4 rfl (by decide) w_287 (KT_get (by decide) k_30) rfl (by decide) rfl (fun q => absurd q (by decide)) dX4_init_58 rfl ?_
  rw [ob_wr]
  refine at_aload_n 62 X rfl rfl dX4_init_61 rfl ?_
  refine at_sipush 65 X (by decide) (by decide) dX4_init_62 rfl ?_
  refine c_newaI 67 38 X (n := 1920) rfl (by decide) k_38 (by decide) (by decide) (ovEI0 e_38 (by decide +kernel)) (by rw [Rt.1]; exact Nat.le_of_ble_eq_true rfl) (by rw [Rt.1]; exact Nat.le_of_ble_eq_true rfl) dX4_init_65 rfl ?_
  refine at_putfF 70 X hin 30 4 7 clX4 rfl (by decide) w_288 (KT_get (by decide) k_30) rfl (by decide) rfl (fun q => absurd q (by decide)) dX4_init_67 rfl ?_
  rw [ob_wr]
  refine c_shut k_30 (by decide +kernel) (fun _ _ _ _ _ _ _ => rfl) ?_
  exact at_vret X Rt ⟨rfl, rfl⟩ (Nat.le_of_ble_eq_true rfl) (Nat.le_of_ble_eq_true rfl) dX4_init_70
theorem cc_X4_init_39 {g : Gw} (hG : GF g) (D : Mm) (hD : ∀ j, D 39 j = fz (11, 0) j) : CT g yX4_init cX4_init 1 none 1 24 8 2302 (KT 40) true [mR 39] D (KT 48) true (fun r D' => r = none ∧ D' = mg 39 (ov EI) D) := by
  refine CT.mk hG (by decide +kernel) (by decide) (fun κ X Rt hin2 _ => ?_)
  have hin := hin2 rfl
  refine c_open (a := 39) (ov EI) hD ?_
  refine at_aload_n 1 X rfl rfl dX4_init_0 rfl ?_
  refine at_objInit 4 X w_277 w_156 w_157 (by rw [Rt.1]; exact Nat.le_of_ble_eq_true rfl) (by rw [Rt.1]; exact Nat.le_of_ble_eq_true rfl) dX4_init_1 rfl ?_
  refine at_aload_n 5 X rfl rfl dX4_init_4 rfl ?_
  refine at_bipush 7 X (by decide) (by decide) dX4_init_5 rfl ?_
  refine c_newaI 9 40 X (n := 11) rfl (by decide) k_40 (by decide) (by decide) (ovEI0 e_40 (by decide +kernel)) (by rw [Rt.1]; exact Nat.le_of_ble_eq_true rfl) (by rw [Rt.1]; exact Nat.le_of_ble_eq_true rfl) dX4_init_7 rfl ?_
  refine at_putfF 12 X hin 39 4 0 clX4 rfl (by decide) w_278 (KT_get (by decide) k_39) rfl (by decide) rfl (fun q => absurd q (by decide)) dX4_init_9 rfl ?_
  rw [ob_wr]
  refine at_aload_n 13 X rfl rfl dX4_init_12 rfl ?_
  refine at_bipush 15 X (by decide) (by decide) dX4_init_13 rfl ?_
  refine c_newaI 17 41 X (n := 11) rfl (by decide) k_41 (by decide) (by decide) (ovEI0 e_41 (by decide +kernel)) (by rw [Rt.1]; exact Nat.le_of_ble_eq_true rfl) (by rw [Rt.1]; exact Nat.le_of_ble_eq_true rfl) dX4_init_15 rfl ?_
  refine at_putfF 20 X hin 39 4 1 clX4 rfl (by decide) w_279 (KT_get (by decide) k_39) rfl (by decide) rfl (fun q => absurd q (by decide)) dX4_init_17 rfl ?_
  rw [ob_wr]
  refine at_aload_n 21 X rfl rfl dX4_init_20 rfl ?_
  refine at_bipush 23 X (by decide) (by decide) dX4_init_21 rfl ?_
  refine c_newaI 25 42 X (n := 24) rfl (by decide) k_42 (by decide) (by decide) (ovEI0 e_42 (by decide +kernel)) (by rw [Rt.1]; exact Nat.le_of_ble_eq_true rfl) (by rw [Rt.1]; exact Nat.le_of_ble_eq_true rfl) dX4_init_23 rfl ?_
  refine at_putfF 28 X hin 39 4 2 clX4 rfl (by decide) w_280 (KT_get (by decide) k_39) rfl (by decide) rfl (fun q => absurd q (by decide)) dX4_init_25 rfl ?_
  rw [ob_wr]
  refine at_aload_n 29 X rfl rfl dX4_init_28 rfl ?_
  refine at_bipush 31 X (by decide) (by decide) dX4_init_29 rfl ?_
  refine c_newaI 33 43 X (n := 24) rfl (by decide) k_43 (by decide) (by decide) (ovEI0 e_43 (by decide +kernel)) (by rw [Rt.1]; exact Nat.le_of_ble_eq_true rfl) (by rw [Rt.1]; exact Nat.le_of_ble_eq_true rfl) dX4_init_31 rfl ?_
  refine at_putfF 36 X hin 39 4 3 clX4 rfl (by decide) w_282 (KT_get (by decide) k_39) rfl (by decide) rfl (fun q => absurd q (by decide)) dX4_init_33 rfl ?_
  rw [ob_wr]
  refine at_aload_n 37 X rfl rfl dX4_init_36 rfl ?_
  refine at_bipush 39 X (by decide) (by decide) dX4_init_37 rfl ?_
  refine c_newaI 41 44 X (n := 24) rfl (by decide) k_44 (by decide) (by decide) (ovEI0 e_44 (by decide +kernel)) (by rw [Rt.1]; exact Nat.le_of_ble_eq_true rfl) (by rw [Rt.1]; exact Nat.le_of_ble_eq_true rfl) dX4_init_39 rfl ?_
  refine at_putfF 44 X hin 39 4 4 clX4 rfl (by decide) w_284 (KT_get (by decide) k_39) rfl (by decide) rfl (fun q => absurd q (by decide)) dX4_init_41 rfl ?_
  rw [ob_wr]
  refine at_aload_n 45 X rfl rfl dX4_init_44 rfl ?_
  refine at_sipush 48 X (by decide) (by decide) dX4_init_45 rfl ?_
  refine c_newaJ 50 45 X (n := 264) rfl (by decide) k_45 (by decide) (by decide) (ovEI0 e_45 (by decide +kernel)) (by rw [Rt.1]; exact Nat.le_of_ble_eq_true rfl) (by rw [Rt.1]; exact Nat.le_of_ble_eq_true rfl) dX4_init_48 rfl ?_
  refine at_putfF 53 X hin 39 4 5 clX4 rfl (by decide) w_286 (KT_get (by decide) k_39) rfl (by decide) rfl (fun q => absurd q (by decide)) dX4_init_50 rfl ?_
  rw [ob_wr]
  refine at_aload_n 54 X rfl rfl dX4_init_53 rfl ?_
  refine at_bipush 56 X (by decide) (by decide) dX4_init_54 rfl ?_
  refine c_newaI 58 46 X (n := 24) rfl (by decide) k_46 (by decide) (by decide) (ovEI0 e_46 (by decide +kernel)) (by rw [Rt.1]; exact Nat.le_of_ble_eq_true rfl) (by rw [Rt.1]; exact Nat.le_of_ble_eq_true rfl) dX4_init_56 rfl ?_
  refine at_putfF 61 X hin 39 4 6 clX4 rfl (by decide) w_287 (KT_get (by decide) k_39) rfl (by decide) rfl (fun q => absurd q (by decide)) dX4_init_58 rfl ?_
  rw [ob_wr]
  refine at_aload_n 62 X rfl rfl dX4_init_61 rfl ?_
  refine at_sipush 65 X (by decide) (by decide) dX4_init_62 rfl ?_
  refine c_newaI 67 47 X (n := 1920) rfl (by decide) k_47 (by decide) (by decide) (ovEI0 e_47 (by decide +kernel)) (by rw [Rt.1]; exact Nat.le_of_ble_eq_true rfl) (by rw [Rt.1]; exact Nat.le_of_ble_eq_true rfl) dX4_init_65 rfl ?_
  refine at_putfF 70 X hin 39 4 7 clX4 rfl (by decide) w_288 (KT_get (by decide) k_39) rfl (by decide) rfl (fun q => absurd q (by decide)) dX4_init_67 rfl ?_
  rw [ob_wr]
  refine c_shut k_39 (by decide +kernel) (fun _ _ _ _ _ _ _ => rfl) ?_
  exact at_vret X Rt ⟨rfl, rfl⟩ (Nat.le_of_ble_eq_true rfl) (Nat.le_of_ble_eq_true rfl) dX4_init_70
theorem cc_X3_init_48 {g : Gw} (hG : GF g) (D : Mm) (hD : ∀ j, D 48 j = fz (10, 0) j) : CT g yX3_init cX3_init 1 none 1 24 5 256 (KT 49) true [mR 48] D (KT 54) true (fun r D' => r = none ∧ D' = mg 48 (ov EI) D) := by
  refine CT.mk hG (by decide +kernel) (by decide) (fun κ X Rt hin2 _ => ?_)
  have hin := hin2 rfl
  refine c_open (a := 48) (ov EI) hD ?_
  refine at_aload_n 1 X rfl rfl dX3_init_0 rfl ?_
  refine at_objInit 4 X w_334 w_156 w_157 (by rw [Rt.1]; exact Nat.le_of_ble_eq_true rfl) (by rw [Rt.1]; exact Nat.le_of_ble_eq_true rfl) dX3_init_1 rfl ?_
  refine at_aload_n 5 X rfl rfl dX3_init_4 rfl ?_
  refine at_bipush 7 X (by decide) (by decide) dX3_init_5 rfl ?_
  refine c_newaI 9 49 X (n := 8) rfl (by decide) k_49 (by decide) (by decide) (ovEI0 e_49 (by decide +kernel)) (by rw [Rt.1]; exact Nat.le_of_ble_eq_true rfl) (by rw [Rt.1]; exact Nat.le_of_ble_eq_true rfl) dX3_init_7 rfl ?_
  refine at_putfF 12 X hin 48 3 0 clX3 rfl (by decide) w_335 (KT_get (by decide) k_48) rfl (by decide) rfl (fun q => absurd q (by decide)) dX3_init_9 rfl ?_
  rw [ob_wr]
  refine at_aload_n 13 X rfl rfl dX3_init_12 rfl ?_
  refine at_bipush 15 X (by decide) (by decide) dX3_init_13 rfl ?_
  refine c_newaI 17 50 X (n := 8) rfl (by decide) k_50 (by decide) (by decide) (ovEI0 e_50 (by decide +kernel)) (by rw [Rt.1]; exact Nat.le_of_ble_eq_true rfl) (by rw [Rt.1]; exact Nat.le_of_ble_eq_true rfl) dX3_init_15 rfl ?_
  refine at_putfF 20 X hin 48 3 1 clX3 rfl (by decide) w_336 (KT_get (by decide) k_48) rfl (by decide) rfl (fun q => absurd q (by decide)) dX3_init_17 rfl ?_
  rw [ob_wr]
  refine at_aload_n 21 X rfl rfl dX3_init_20 rfl ?_
  refine at_bipush 23 X (by decide) (by decide) dX3_init_21 rfl ?_
  refine c_newaI 25 51 X (n := 8) rfl (by decide) k_51 (by decide) (by decide) (ovEI0 e_51 (by decide +kernel)) (by rw [Rt.1]; exact Nat.le_of_ble_eq_true rfl) (by rw [Rt.1]; exact Nat.le_of_ble_eq_true rfl) dX3_init_23 rfl ?_
  refine at_putfF 28 X hin 48 3 2 clX3 rfl (by decide) w_338 (KT_get (by decide) k_48) rfl (by decide) rfl (fun q => absurd q (by decide)) dX3_init_25 rfl ?_
  rw [ob_wr]
  refine at_aload_n 29 X rfl rfl dX3_init_28 rfl ?_
  refine at_sipush 32 X (by decide) (by decide) dX3_init_29 rfl ?_
  refine c_newaI 34 52 X (n := 192) rfl (by decide) k_52 (by decide) (by decide) (ovEI0 e_52 (by decide +kernel)) (by rw [Rt.1]; exact Nat.le_of_ble_eq_true rfl) (by rw [Rt.1]; exact Nat.le_of_ble_eq_true rfl) dX3_init_32 rfl ?_
  refine at_putfF 37 X hin 48 3 3 clX3 rfl (by decide) w_340 (KT_get (by decide) k_48) rfl (by decide) rfl (fun q => absurd q (by decide)) dX3_init_34 rfl ?_
  rw [ob_wr]
  refine at_aload_n 38 X rfl rfl dX3_init_37 rfl ?_
  refine at_bipush 40 X (by decide) (by decide) dX3_init_38 rfl ?_
  refine c_newaJ 42 53 X (n := 40) rfl (by decide) k_53 (by decide) (by decide) (ovEI0 e_53 (by decide +kernel)) (by rw [Rt.1]; exact Nat.le_of_ble_eq_true rfl) (by rw [Rt.1]; exact Nat.le_of_ble_eq_true rfl) dX3_init_40 rfl ?_
  refine at_putfF 45 X hin 48 3 4 clX3 rfl (by decide) w_341 (KT_get (by decide) k_48) rfl (by decide) rfl (fun q => absurd q (by decide)) dX3_init_42 rfl ?_
  rw [ob_wr]
  refine c_shut k_48 (by decide +kernel) (fun _ _ _ _ _ _ _ => rfl) ?_
  exact at_vret X Rt ⟨rfl, rfl⟩ (Nat.le_of_ble_eq_true rfl) (Nat.le_of_ble_eq_true rfl) dX3_init_45
theorem cc_X3_init_54 {g : Gw} (hG : GF g) (D : Mm) (hD : ∀ j, D 54 j = fz (10, 0) j) : CT g yX3_init cX3_init 1 none 1 24 5 256 (KT 55) true [mR 54] D (KT 60) true (fun r D' => r = none ∧ D' = mg 54 (ov EI) D) := by
  refine CT.mk hG (by decide +kernel) (by decide) (fun κ X Rt hin2 _ => ?_)
  have hin := hin2 rfl
  refine c_open (a := 54) (ov EI) hD ?_
  refine at_aload_n 1 X rfl rfl dX3_init_0 rfl ?_
  refine at_objInit 4 X w_334 w_156 w_157 (by rw [Rt.1]; exact Nat.le_of_ble_eq_true rfl) (by rw [Rt.1]; exact Nat.le_of_ble_eq_true rfl) dX3_init_1 rfl ?_
  refine at_aload_n 5 X rfl rfl dX3_init_4 rfl ?_
  refine at_bipush 7 X (by decide) (by decide) dX3_init_5 rfl ?_
  refine c_newaI 9 55 X (n := 8) rfl (by decide) k_55 (by decide) (by decide) (ovEI0 e_55 (by decide +kernel)) (by rw [Rt.1]; exact Nat.le_of_ble_eq_true rfl) (by rw [Rt.1]; exact Nat.le_of_ble_eq_true rfl) dX3_init_7 rfl ?_
  refine at_putfF 12 X hin 54 3 0 clX3 rfl (by decide) w_335 (KT_get (by decide) k_54) rfl (by decide) rfl (fun q => absurd q (by decide)) dX3_init_9 rfl ?_
  rw [ob_wr]
  refine at_aload_n 13 X rfl rfl dX3_init_12 rfl ?_
  refine at_bipush 15 X (by decide) (by decide) dX3_init_13 rfl ?_
  refine c_newaI 17 56 X (n := 8) rfl (by decide) k_56 (by decide) (by decide) (ovEI0 e_56 (by decide +kernel)) (by rw [Rt.1]; exact Nat.le_of_ble_eq_true rfl) (by rw [Rt.1]; exact Nat.le_of_ble_eq_true rfl) dX3_init_15 rfl ?_
  refine at_putfF 20 X hin 54 3 1 clX3 rfl (by decide) w_336 (KT_get (by decide) k_54) rfl (by decide) rfl (fun q => absurd q (by decide)) dX3_init_17 rfl ?_
  rw [ob_wr]
  refine at_aload_n 21 X rfl rfl dX3_init_20 rfl ?_
  refine at_bipush 23 X (by decide) (by decide) dX3_init_21 rfl ?_
  refine c_newaI 25 57 X (n := 8) rfl (by decide) k_57 (by decide) (by decide) (ovEI0 e_57 (by decide +kernel)) (by rw [Rt.1]; exact Nat.le_of_ble_eq_true rfl) (by rw [Rt.1]; exact Nat.le_of_ble_eq_true rfl) dX3_init_23 rfl ?_
  refine at_putfF 28 X hin 54 3 2 clX3 rfl (by decide) w_338 (KT_get (by decide) k_54) rfl (by decide) rfl (fun q => absurd q (by decide)) dX3_init_25 rfl ?_
  rw [ob_wr]
  refine at_aload_n 29 X rfl rfl dX3_init_28 rfl ?_
  refine at_sipush 32 X (by decide) (by decide) dX3_init_29 rfl ?_
  refine c_newaI 34 58 X (n := 192) rfl (by decide) k_58 (by decide) (by decide) (ovEI0 e_58 (by decide +kernel)) (by rw [Rt.1]; exact Nat.le_of_ble_eq_true rfl) (by rw [Rt.1]; exact Nat.le_of_ble_eq_true rfl) dX3_init_32 rfl ?_
  refine at_putfF 37 X hin 54 3 3 clX3 rfl (by decide) w_340 (KT_get (by decide) k_54) rfl (by decide) rfl (fun q => absurd q (by decide)) dX3_init_34 rfl ?_
  rw [ob_wr]
  refine at_aload_n 38 X rfl rfl dX3_init_37 rfl ?_
  refine at_bipush 40 X (by decide) (by decide) dX3_init_38 rfl ?_
  refine c_newaJ 42 59 X (n := 40) rfl (by decide) k_59 (by decide) (by decide) (ovEI0 e_59 (by decide +kernel)) (by rw [Rt.1]; exact Nat.le_of_ble_eq_true rfl) (by rw [Rt.1]; exact Nat.le_of_ble_eq_true rfl) dX3_init_40 rfl ?_
  refine at_putfF 45 X hin 54 3 4 clX3 rfl (by decide) w_341 (KT_get (by decide) k_54) rfl (by decide) rfl (fun q => absurd q (by decide)) dX3_init_42 rfl ?_
  rw [ob_wr]
  refine c_shut k_54 (by decide +kernel) (fun _ _ _ _ _ _ _ => rfl) ?_
  exact at_vret X Rt ⟨rfl, rfl⟩ (Nat.le_of_ble_eq_true rfl) (Nat.le_of_ble_eq_true rfl) dX3_init_45
theorem cc_X1_init_60 {g : Gw} (hG : GF g) (D : Mm) (hD : ∀ j, D 60 j = fz (8, 0) j) : CT g yX1_init cX1_init 1 none 1 24 1 960 (KT 61) true [mR 60] D (KT 62) true (fun r D' => r = none ∧ D' = mg 60 (ov EI) D) := by
  refine CT.mk hG (by decide +kernel) (by decide) (fun κ X Rt hin2 _ => ?_)
  have hin := hin2 rfl
  refine c_open (a := 60) (ov EI) hD ?_
  refine at_aload_n 1 X rfl rfl dX1_init_0 rfl ?_
  refine at_objInit 4 X w_366 w_156 w_157 (by rw [Rt.1]; exact Nat.le_of_ble_eq_true rfl) (by rw [Rt.1]; exact Nat.le_of_ble_eq_true rfl) dX1_init_1 rfl ?_
  refine at_aload_n 5 X rfl rfl dX1_init_4 rfl ?_
  refine at_sipush 8 X (by decide) (by decide) dX1_init_5 rfl ?_
  refine c_newaI 10 61 X (n := 960) rfl (by decide) k_61 (by decide) (by decide) (ovEI0 e_61 (by decide +kernel)) (by rw [Rt.1]; exact Nat.le_of_ble_eq_true rfl) (by rw [Rt.1]; exact Nat.le_of_ble_eq_true rfl) dX1_init_8 rfl ?_
  refine at_putfF 13 X hin 60 1 0 clX1 rfl (by decide) w_367 (KT_get (by decide) k_60) rfl (by decide) rfl (fun q => absurd q (by decide)) dX1_init_10 rfl ?_
  rw [ob_wr]
  refine c_shut k_60 (by decide +kernel) (fun _ _ _ _ _ _ _ => rfl) ?_
  exact at_vret X Rt ⟨rfl, rfl⟩ (Nat.le_of_ble_eq_true rfl) (Nat.le_of_ble_eq_true rfl) dX1_init_13
theorem cc_X6_init_62 {g : Gw} (hG : GF g) (D : Mm) (hD : ∀ j, D 62 j = fz (13, 0) j) : CT g yX6_init cX6_init 1 none 1 24 5 131 (KT 63) true [mR 62] D (KT 68) true (fun r D' => r = none ∧ D' = mg 62 (ov EI) D) := by
  refine CT.mk hG (by decide +kernel) (by decide) (fun κ X Rt hin2 _ => ?_)
  have hin := hin2 rfl
  refine c_open (a := 62) (ov EI) hD ?_
  refine at_aload_n 1 X rfl rfl dX6_init_0 rfl ?_
  refine at_objInit 4 X w_385 w_156 w_157 (by rw [Rt.1]; exact Nat.le_of_ble_eq_true rfl) (by rw [Rt.1]; exact Nat.le_of_ble_eq_true rfl) dX6_init_1 rfl ?_
  refine at_aload_n 5 X rfl rfl dX6_init_4 rfl ?_
  refine at_bipush 7 X (by decide) (by decide) dX6_init_5 rfl ?_
  refine c_newaI 9 63 X (n := 40) rfl (by decide) k_63 (by decide) (by decide) (ovEI0 e_63 (by decide +kernel)) (by rw [Rt.1]; exact Nat.le_of_ble_eq_true rfl) (by rw [Rt.1]; exact Nat.le_of_ble_eq_true rfl) dX6_init_7 rfl ?_
  refine at_putfF 12 X hin 62 6 0 clX6 rfl (by decide) w_386 (KT_get (by decide) k_62) rfl (by decide) rfl (fun q => absurd q (by decide)) dX6_init_9 rfl ?_
  rw [ob_wr]
  refine at_aload_n 13 X rfl rfl dX6_init_12 rfl ?_
  refine at_bipush 15 X (by decide) (by decide) dX6_init_13 rfl ?_
  refine c_newaJ 17 64 X (n := 40) rfl (by decide) k_64 (by decide) (by decide) (ovEI0 e_64 (by decide +kernel)) (by rw [Rt.1]; exact Nat.le_of_ble_eq_true rfl) (by rw [Rt.1]; exact Nat.le_of_ble_eq_true rfl) dX6_init_15 rfl ?_
  refine at_putfF 20 X hin 62 6 1 clX6 rfl (by decide) w_387 (KT_get (by decide) k_62) rfl (by decide) rfl (fun q => absurd q (by decide)) dX6_init_17 rfl ?_
  rw [ob_wr]
  refine at_aload_n 21 X rfl rfl dX6_init_20 rfl ?_
  refine at_iconst 22 X (by decide) dX6_init_21 rfl ?_
  refine c_newaI 24 65 X (n := 3) rfl (by decide) k_65 (by decide) (by decide) (ovEI0 e_65 (by decide +kernel)) (by rw [Rt.1]; exact Nat.le_of_ble_eq_true rfl) (by rw [Rt.1]; exact Nat.le_of_ble_eq_true rfl) dX6_init_22 rfl ?_
  refine at_putfF 27 X hin 62 6 2 clX6 rfl (by decide) w_388 (KT_get (by decide) k_62) rfl (by decide) rfl (fun q => absurd q (by decide)) dX6_init_24 rfl ?_
  rw [ob_wr]
  refine at_aload_n 28 X rfl rfl dX6_init_27 rfl ?_
  refine at_bipush 30 X (by decide) (by decide) dX6_init_28 rfl ?_
  refine c_newaI 32 66 X (n := 8) rfl (by decide) k_66 (by decide) (by decide) (ovEI0 e_66 (by decide +kernel)) (by rw [Rt.1]; exact Nat.le_of_ble_eq_true rfl) (by rw [Rt.1]; exact Nat.le_of_ble_eq_true rfl) dX6_init_30 rfl ?_
  refine at_putfF 35 X hin 62 6 3 clX6 rfl (by decide) w_389 (KT_get (by decide) k_62) rfl (by decide) rfl (fun q => absurd q (by decide)) dX6_init_32 rfl ?_
  rw [ob_wr]
  refine at_aload_n 36 X rfl rfl dX6_init_35 rfl ?_
  refine at_bipush 38 X (by decide) (by decide) dX6_init_36 rfl ?_
  refine c_newaJ 40 67 X (n := 40) rfl (by decide) k_67 (by decide) (by decide) (ovEI0 e_67 (by decide +kernel)) (by rw [Rt.1]; exact Nat.le_of_ble_eq_true rfl) (by rw [Rt.1]; exact Nat.le_of_ble_eq_true rfl) dX6_init_38 rfl ?_
  refine at_putfF 43 X hin 62 6 4 clX6 rfl (by decide) w_390 (KT_get (by decide) k_62) rfl (by decide) rfl (fun q => absurd q (by decide)) dX6_init_40 rfl ?_
  rw [ob_wr]
  refine c_shut k_62 (by decide +kernel) (fun _ _ _ _ _ _ _ => rfl) ?_
  exact at_vret X Rt ⟨rfl, rfl⟩ (Nat.le_of_ble_eq_true rfl) (Nat.le_of_ble_eq_true rfl) dX6_init_43
theorem cc_X0_init_76 {g : Gw} (hG : GF g) (D : Mm) (hD : ∀ j, D 76 j = fz (7, 0) j) : CT g yX0_init cX0_init 1 none 1 24 6 200 (KT 77) true [mR 76] D (KT 83) true (fun r D' => r = none ∧ D' = mg 76 (ov EI) D) := by
  refine CT.mk hG (by decide +kernel) (by decide) (fun κ X Rt hin2 _ => ?_)
  have hin := hin2 rfl
  refine c_open (a := 76) (ov EI) hD ?_
  refine at_aload_n 1 X rfl rfl dX0_init_0 rfl ?_
  refine at_objInit 4 X w_422 w_156 w_157 (by rw [Rt.1]; exact Nat.le_of_ble_eq_true rfl) (by rw [Rt.1]; exact Nat.le_of_ble_eq_true rfl) dX0_init_1 rfl ?_
  refine at_aload_n 5 X rfl rfl dX0_init_4 rfl ?_
  refine at_bipush 7 X (by decide) (by decide) dX0_init_5 rfl ?_
  refine c_newaI 9 77 X (n := 8) rfl (by decide) k_77 (by decide) (by decide) (ovEI0 e_77 (by decide +kernel)) (by rw [Rt.1]; exact Nat.le_of_ble_eq_true rfl) (by rw [Rt.1]; exact Nat.le_of_ble_eq_true rfl) dX0_init_7 rfl ?_
  refine at_putfF 12 X hin 76 0 0 clX0 rfl (by decide) w_423 (KT_get (by decide) k_76) rfl (by decide) rfl (fun q => absurd q (by decide)) dX0_init_9 rfl ?_
  rw [ob_wr]
  refine at_aload_n 13 X rfl rfl dX0_init_12 rfl ?_
  refine at_bipush 15 X (by decide) (by decide) dX0_init_13 rfl ?_
  refine c_newaI 17 78 X (n := 8) rfl (by decide) k_78 (by decide) (by decide) (ovEI0 e_78 (by decide +kernel)) (by rw [Rt.1]; exact Nat.le_of_ble_eq_true rfl) (by rw [Rt.1]; exact Nat.le_of_ble_eq_true rfl) dX0_init_15 rfl ?_
  refine at_putfF 20 X hin 76 0 1 clX0 rfl (by decide) w_430 (KT_get (by decide) k_76) rfl (by decide) rfl (fun q => absurd q (by decide)) dX0_init_17 rfl ?_
  rw [ob_wr]
  refine at_aload_n 21 X rfl rfl dX0_init_20 rfl ?_
  refine at_bipush 23 X (by decide) (by decide) dX0_init_21 rfl ?_
  refine c_newaI 25 79 X (n := 8) rfl (by decide) k_79 (by decide) (by decide) (ovEI0 e_79 (by decide +kernel)) (by rw [Rt.1]; exact Nat.le_of_ble_eq_true rfl) (by rw [Rt.1]; exact Nat.le_of_ble_eq_true rfl) dX0_init_23 rfl ?_
  refine at_putfF 28 X hin 76 0 2 clX0 rfl (by decide) w_436 (KT_get (by decide) k_76) rfl (by decide) rfl (fun q => absurd q (by decide)) dX0_init_25 rfl ?_
  rw [ob_wr]
  refine at_aload_n 29 X rfl rfl dX0_init_28 rfl ?_
  refine at_sipush 32 X (by decide) (by decide) dX0_init_29 rfl ?_
  refine c_newaI 34 80 X (n := 160) rfl (by decide) k_80 (by decide) (by decide) (ovEI0 e_80 (by decide +kernel)) (by rw [Rt.1]; exact Nat.le_of_ble_eq_true rfl) (by rw [Rt.1]; exact Nat.le_of_ble_eq_true rfl) dX0_init_32 rfl ?_
  refine at_putfF 37 X hin 76 0 3 clX0 rfl (by decide) w_438 (KT_get (by decide) k_76) rfl (by decide) rfl (fun q => absurd q (by decide)) dX0_init_34 rfl ?_
  rw [ob_wr]
  refine at_aload_n 38 X rfl rfl dX0_init_37 rfl ?_
  refine at_bipush 40 X (by decide) (by decide) dX0_init_38 rfl ?_
  refine c_newaJ 42 81 X (n := 8) rfl (by decide) k_81 (by decide) (by decide) (ovEI0 e_81 (by decide +kernel)) (by rw [Rt.1]; exact Nat.le_of_ble_eq_true rfl) (by rw [Rt.1]; exact Nat.le_of_ble_eq_true rfl) dX0_init_40 rfl ?_
  refine at_putfF 45 X hin 76 0 4 clX0 rfl (by decide) w_440 (KT_get (by decide) k_76) rfl (by decide) rfl (fun q => absurd q (by decide)) dX0_init_42 rfl ?_
  rw [ob_wr]
  refine at_aload_n 46 X rfl rfl dX0_init_45 rfl ?_
  refine at_bipush 48 X (by decide) (by decide) dX0_init_46 rfl ?_
  refine c_newaJ 50 82 X (n := 8) rfl (by decide) k_82 (by decide) (by decide) (ovEI0 e_82 (by decide +kernel)) (by rw [Rt.1]; exact Nat.le_of_ble_eq_true rfl) (by rw [Rt.1]; exact Nat.le_of_ble_eq_true rfl) dX0_init_48 rfl ?_
  refine at_putfF 53 X hin 76 0 5 clX0 rfl (by decide) w_445 (KT_get (by decide) k_76) rfl (by decide) rfl (fun q => absurd q (by decide)) dX0_init_50 rfl ?_
  rw [ob_wr]
  refine c_shut k_76 (by decide +kernel) (fun _ _ _ _ _ _ _ => rfl) ?_
  exact at_vret X Rt ⟨rfl, rfl⟩ (Nat.le_of_ble_eq_true rfl) (Nat.le_of_ble_eq_true rfl) dX0_init_53
theorem cc_X0_init_91 {g : Gw} (hG : GF g) (D : Mm) (hD : ∀ j, D 91 j = fz (7, 0) j) : CT g yX0_init cX0_init 1 none 1 24 6 200 (KT 92) true [mR 91] D (KT 98) true (fun r D' => r = none ∧ D' = mg 91 (ov EI) D) := by
  refine CT.mk hG (by decide +kernel) (by decide) (fun κ X Rt hin2 _ => ?_)
  have hin := hin2 rfl
  refine c_open (a := 91) (ov EI) hD ?_
  refine at_aload_n 1 X rfl rfl dX0_init_0 rfl ?_
  refine at_objInit 4 X w_422 w_156 w_157 (by rw [Rt.1]; exact Nat.le_of_ble_eq_true rfl) (by rw [Rt.1]; exact Nat.le_of_ble_eq_true rfl) dX0_init_1 rfl ?_
  refine at_aload_n 5 X rfl rfl dX0_init_4 rfl ?_
  refine at_bipush 7 X (by decide) (by decide) dX0_init_5 rfl ?_
  refine c_newaI 9 92 X (n := 8) rfl (by decide) k_92 (by decide) (by decide) (ovEI0 e_92 (by decide +kernel)) (by rw [Rt.1]; exact Nat.le_of_ble_eq_true rfl) (by rw [Rt.1]; exact Nat.le_of_ble_eq_true rfl) dX0_init_7 rfl ?_
  refine at_putfF 12 X hin 91 0 0 clX0 rfl (by decide) w_423 (KT_get (by decide) k_91) rfl (by decide) rfl (fun q => absurd q (by decide)) dX0_init_9 rfl ?_
  rw [ob_wr]
  refine at_aload_n 13 X rfl rfl dX0_init_12 rfl ?_
  refine at_bipush 15 X (by decide) (by decide) dX0_init_13 rfl ?_
  refine c_newaI 17 93 X (n := 8) rfl (by decide) k_93 (by decide) (by decide) (ovEI0 e_93 (by decide +kernel)) (by rw [Rt.1]; exact Nat.le_of_ble_eq_true rfl) (by rw [Rt.1]; exact Nat.le_of_ble_eq_true rfl) dX0_init_15 rfl ?_
  refine at_putfF 20 X hin 91 0 1 clX0 rfl (by decide) w_430 (KT_get (by decide) k_91) rfl (by decide) rfl (fun q => absurd q (by decide)) dX0_init_17 rfl ?_
  rw [ob_wr]
  refine at_aload_n 21 X rfl rfl dX0_init_20 rfl ?_
  refine at_bipush 23 X (by decide) (by decide) dX0_init_21 rfl ?_
  refine c_newaI 25 94 X (n := 8) rfl (by decide) k_94 (by decide) (by decide) (ovEI0 e_94 (by decide +kernel)) (by rw [Rt.1]; exact Nat.le_of_ble_eq_true rfl) (by rw [Rt.1]; exact Nat.le_of_ble_eq_true rfl) dX0_init_23 rfl ?_
  refine at_putfF 28 X hin 91 0 2 clX0 rfl (by decide) w_436 (KT_get (by decide) k_91) rfl (by decide) rfl (fun q => absurd q (by decide)) dX0_init_25 rfl ?_
  rw [ob_wr]
  refine at_aload_n 29 X rfl rfl dX0_init_28 rfl ?_
  refine at_sipush 32 X (by decide) (by decide) dX0_init_29 rfl ?_
  refine c_newaI 34 95 X (n := 160) rfl (by decide) k_95 (by decide) (by decide) (ovEI0 e_95 (by decide +kernel)) (by rw [Rt.1]; exact Nat.le_of_ble_eq_true rfl) (by rw [Rt.1]; exact Nat.le_of_ble_eq_true rfl) dX0_init_32 rfl ?_
  refine at_putfF 37 X hin 91 0 3 clX0 rfl (by decide) w_438 (KT_get (by decide) k_91) rfl (by decide) rfl (fun q => absurd q (by decide)) dX0_init_34 rfl ?_
  rw [ob_wr]
  refine at_aload_n 38 X rfl rfl dX0_init_37 rfl ?_
  refine at_bipush 40 X (by decide) (by decide) dX0_init_38 rfl ?_
  refine c_newaJ 42 96 X (n := 8) rfl (by decide) k_96 (by decide) (by decide) (ovEI0 e_96 (by decide +kernel)) (by rw [Rt.1]; exact Nat.le_of_ble_eq_true rfl) (by rw [Rt.1]; exact Nat.le_of_ble_eq_true rfl) dX0_init_40 rfl ?_
  refine at_putfF 45 X hin 91 0 4 clX0 rfl (by decide) w_440 (KT_get (by decide) k_91) rfl (by decide) rfl (fun q => absurd q (by decide)) dX0_init_42 rfl ?_
  rw [ob_wr]
  refine at_aload_n 46 X rfl rfl dX0_init_45 rfl ?_
  refine at_bipush 48 X (by decide) (by decide) dX0_init_46 rfl ?_
  refine c_newaJ 50 97 X (n := 8) rfl (by decide) k_97 (by decide) (by decide) (ovEI0 e_97 (by decide +kernel)) (by rw [Rt.1]; exact Nat.le_of_ble_eq_true rfl) (by rw [Rt.1]; exact Nat.le_of_ble_eq_true rfl) dX0_init_48 rfl ?_
  refine at_putfF 53 X hin 91 0 5 clX0 rfl (by decide) w_445 (KT_get (by decide) k_91) rfl (by decide) rfl (fun q => absurd q (by decide)) dX0_init_50 rfl ?_
  rw [ob_wr]
  refine c_shut k_91 (by decide +kernel) (fun _ _ _ _ _ _ _ => rfl) ?_
  exact at_vret X Rt ⟨rfl, rfl⟩ (Nat.le_of_ble_eq_true rfl) (Nat.le_of_ble_eq_true rfl) dX0_init_53
theorem cc_X5_init_98 {g : Gw} (hG : GF g) (D : Mm) (hD : ∀ j, D 98 j = fz (12, 0) j) : CT g yX5_init cX5_init 1 none 2 44 8 263 (KT 99) true [mR 98] D (KT 107) true (fun r D' => r = none ∧ D' = mg 98 (ov EI) D) := by
  refine CT.mk hG (by decide +kernel) (by decide) (fun κ X Rt hin2 _ => ?_)
  have hin := hin2 rfl
  refine c_open (a := 98) (ov EI) hD ?_
  refine at_aload_n 1 X rfl rfl dX5_init_0 rfl ?_
  refine at_objInit 4 X w_564 w_156 w_157 (by rw [Rt.1]; exact Nat.le_of_ble_eq_true rfl) (by rw [Rt.1]; exact Nat.le_of_ble_eq_true rfl) dX5_init_1 rfl ?_
  refine at_aload_n 5 X rfl rfl dX5_init_4 rfl ?_
  refine at_bipush 7 X (by decide) (by decide) dX5_init_5 rfl ?_
  refine c_newaI 9 99 X (n := 10) rfl (by decide) k_99 (by decide) (by decide) (ovEI0 e_99 (by decide +kernel)) (by rw [Rt.1]; exact Nat.le_of_ble_eq_true rfl) (by rw [Rt.1]; exact Nat.le_of_ble_eq_true rfl) dX5_init_7 rfl ?_
  refine at_putfF 12 X hin 98 5 0 clX5 rfl (by decide) w_567 (KT_get (by decide) k_98) rfl (by decide) rfl (fun q => absurd q (by decide)) dX5_init_9 rfl ?_
  rw [ob_wr]
  refine at_aload_n 13 X rfl rfl dX5_init_12 rfl ?_
  refine at_bipush 15 X (by decide) (by decide) dX5_init_13 rfl ?_
  refine c_newaI 17 100 X (n := 8) rfl (by decide) k_100 (by decide) (by decide) (ovEI0 e_100 (by decide +kernel)) (by rw [Rt.1]; exact Nat.le_of_ble_eq_true rfl) (by rw [Rt.1]; exact Nat.le_of_ble_eq_true rfl) dX5_init_15 rfl ?_
  refine at_putfF 20 X hin 98 5 1 clX5 rfl (by decide) w_568 (KT_get (by decide) k_98) rfl (by decide) rfl (fun q => absurd q (by decide)) dX5_init_17 rfl ?_
  rw [ob_wr]
  refine at_aload_n 21 X rfl rfl dX5_init_20 rfl ?_
  refine at_sipush 24 X (by decide) (by decide) dX5_init_21 rfl ?_
  refine c_newaI 26 101 X (n := 160) rfl (by decide) k_101 (by decide) (by decide) (ovEI0 e_101 (by decide +kernel)) (by rw [Rt.1]; exact Nat.le_of_ble_eq_true rfl) (by rw [Rt.1]; exact Nat.le_of_ble_eq_true rfl) dX5_init_24 rfl ?_
  refine at_putfF 29 X hin 98 5 2 clX5 rfl (by decide) w_569 (KT_get (by decide) k_98) rfl (by decide) rfl (fun q => absurd q (by decide)) dX5_init_26 rfl ?_
  rw [ob_wr]
  refine at_aload_n 30 X rfl rfl dX5_init_29 rfl ?_
  refine c_new 33 102 X clX2 w_565 w_248 w_125 k_102 (by decide) (by rw [Rt.1]; exact Nat.le_of_ble_eq_true rfl) (by rw [Rt.1]; exact Nat.le_of_ble_eq_true rfl) dX5_init_30 rfl ?_
  refine at_dup 34 X (by decide) dX5_init_33 rfl ?_
  refine at_callIN 37 X 102 (cc_X2_init_102 hG _ nz_fz) rfl mo_X2_init w_566 io_X2_init rfl rfl (crm Rt (by decide)) (Nat.le_of_ble_eq_true rfl) dX5_init_34 rfl ?_
  rintro _ _ ⟨rfl, rfl⟩
  refine c_part (by decide) (fun _ _ _ _ => rfl) ?_
  refine at_putfF 40 X hin 98 5 3 clX5 rfl (by decide) w_570 (KT_get (by decide) k_98) rfl (by decide) rfl (fun q => absurd q (by decide)) dX5_init_37 rfl ?_
  rw [ob_wr]
  refine c_shut k_98 (by decide +kernel) (fun _ _ _ _ _ _ _ => rfl) ?_
  exact at_vret X Rt ⟨rfl, rfl⟩ (Nat.le_of_ble_eq_true rfl) (Nat.le_of_ble_eq_true rfl) dX5_init_40
theorem cc_X5_init_107 {g : Gw} (hG : GF g) (D : Mm) (hD : ∀ j, D 107 j = fz (12, 0) j) : CT g yX5_init cX5_init 1 none 2 44 8 263 (KT 108) true [mR 107] D (KT 116) true (fun r D' => r = none ∧ D' = mg 107 (ov EI) D) := by
  refine CT.mk hG (by decide +kernel) (by decide) (fun κ X Rt hin2 _ => ?_)
  have hin := hin2 rfl
  refine c_open (a := 107) (ov EI) hD ?_
  refine at_aload_n 1 X rfl rfl dX5_init_0 rfl ?_
  refine at_objInit 4 X w_564 w_156 w_157 (by rw [Rt.1]; exact Nat.le_of_ble_eq_true rfl) (by rw [Rt.1]; exact Nat.le_of_ble_eq_true rfl) dX5_init_1 rfl ?_
  refine at_aload_n 5 X rfl rfl dX5_init_4 rfl ?_
  refine at_bipush 7 X (by decide) (by decide) dX5_init_5 rfl ?_
  refine c_newaI 9 108 X (n := 10) rfl (by decide) k_108 (by decide) (by decide) (ovEI0 e_108 (by decide +kernel)) (by rw [Rt.1]; exact Nat.le_of_ble_eq_true rfl) (by rw [Rt.1]; exact Nat.le_of_ble_eq_true rfl) dX5_init_7 rfl ?_
  refine at_putfF 12 X hin 107 5 0 clX5 rfl (by decide) w_567 (KT_get (by decide) k_107) rfl (by decide) rfl (fun q => absurd q (by decide)) dX5_init_9 rfl ?_
  rw [ob_wr]
  refine at_aload_n 13 X rfl rfl dX5_init_12 rfl ?_
  refine at_bipush 15 X (by decide) (by decide) dX5_init_13 rfl ?_
  refine c_newaI 17 109 X (n := 8) rfl (by decide) k_109 (by decide) (by decide) (ovEI0 e_109 (by decide +kernel)) (by rw [Rt.1]; exact Nat.le_of_ble_eq_true rfl) (by rw [Rt.1]; exact Nat.le_of_ble_eq_true rfl) dX5_init_15 rfl ?_
  refine at_putfF 20 X hin 107 5 1 clX5 rfl (by decide) w_568 (KT_get (by decide) k_107) rfl (by decide) rfl (fun q => absurd q (by decide)) dX5_init_17 rfl ?_
  rw [ob_wr]
  refine at_aload_n 21 X rfl rfl dX5_init_20 rfl ?_
  refine at_sipush 24 X (by decide) (by decide) dX5_init_21 rfl ?_
  refine c_newaI 26 110 X (n := 160) rfl (by decide) k_110 (by decide) (by decide) (ovEI0 e_110 (by decide +kernel)) (by rw [Rt.1]; exact Nat.le_of_ble_eq_true rfl) (by rw [Rt.1]; exact Nat.le_of_ble_eq_true rfl) dX5_init_24 rfl ?_
  refine at_putfF 29 X hin 107 5 2 clX5 rfl (by decide) w_569 (KT_get (by decide) k_107) rfl (by decide) rfl (fun q => absurd q (by decide)) dX5_init_26 rfl ?_
  rw [ob_wr]
  refine at_aload_n 30 X rfl rfl dX5_init_29 rfl ?_
  refine c_new 33 111 X clX2 w_565 w_248 w_125 k_111 (by decide) (by rw [Rt.1]; exact Nat.le_of_ble_eq_true rfl) (by rw [Rt.1]; exact Nat.le_of_ble_eq_true rfl) dX5_init_30 rfl ?_
  refine at_dup 34 X (by decide) dX5_init_33 rfl ?_
  refine at_callIN 37 X 111 (cc_X2_init_111 hG _ nz_fz) rfl mo_X2_init w_566 io_X2_init rfl rfl (crm Rt (by decide)) (Nat.le_of_ble_eq_true rfl) dX5_init_34 rfl ?_
  rintro _ _ ⟨rfl, rfl⟩
  refine c_part (by decide) (fun _ _ _ _ => rfl) ?_
  refine at_putfF 40 X hin 107 5 3 clX5 rfl (by decide) w_570 (KT_get (by decide) k_107) rfl (by decide) rfl (fun q => absurd q (by decide)) dX5_init_37 rfl ?_
  rw [ob_wr]
  refine c_shut k_107 (by decide +kernel) (fun _ _ _ _ _ _ _ => rfl) ?_
  exact at_vret X Rt ⟨rfl, rfl⟩ (Nat.le_of_ble_eq_true rfl) (Nat.le_of_ble_eq_true rfl) dX5_init_40
theorem cc_X5_init_116 {g : Gw} (hG : GF g) (D : Mm) (hD : ∀ j, D 116 j = fz (12, 0) j) : CT g yX5_init cX5_init 1 none 2 44 8 263 (KT 117) true [mR 116] D (KT 125) true (fun r D' => r = none ∧ D' = mg 116 (ov EI) D) := by
  refine CT.mk hG (by decide +kernel) (by decide) (fun κ X Rt hin2 _ => ?_)
  have hin := hin2 rfl
  refine c_open (a := 116) (ov EI) hD ?_
  refine at_aload_n 1 X rfl rfl dX5_init_0 rfl ?_
  refine at_objInit 4 X w_564 w_156 w_157 (by rw [Rt.1]; exact Nat.le_of_ble_eq_true rfl) (by rw [Rt.1]; exact Nat.le_of_ble_eq_true rfl) dX5_init_1 rfl ?_
  refine at_aload_n 5 X rfl rfl dX5_init_4 rfl ?_
  refine at_bipush 7 X (by decide) (by decide) dX5_init_5 rfl ?_
  refine c_newaI 9 117 X (n := 10) rfl (by decide) k_117 (by decide) (by decide) (ovEI0 e_117 (by decide +kernel)) (by rw [Rt.1]; exact Nat.le_of_ble_eq_true rfl) (by rw [Rt.1]; exact Nat.le_of_ble_eq_true rfl) dX5_init_7 rfl ?_
  refine at_putfF 12 X hin 116 5 0 clX5 rfl (by decide) w_567 (KT_get (by decide) k_116) rfl (by decide) rfl (fun q => absurd q (by decide)) dX5_init_9 rfl ?_
  rw [ob_wr]
  refine at_aload_n 13 X rfl rfl dX5_init_12 rfl ?_
  refine at_bipush 15 X (by decide) (by decide) dX5_init_13 rfl ?_
  refine c_newaI 17 118 X (n := 8) rfl (by decide) k_118 (by decide) (by decide) (ovEI0 e_118 (by decide +kernel)) (by rw [Rt.1]; exact Nat.le_of_ble_eq_true rfl) (by rw [Rt.1]; exact Nat.le_of_ble_eq_true rfl) dX5_init_15 rfl ?_
  refine at_putfF 20 X hin 116 5 1 clX5 rfl (by decide) w_568 (KT_get (by decide) k_116) rfl (by decide) rfl (fun q => absurd q (by decide)) dX5_init_17 rfl ?_
  rw [ob_wr]
  refine at_aload_n 21 X rfl rfl dX5_init_20 rfl ?_
  refine at_sipush 24 X (by decide) (by decide) dX5_init_21 rfl ?_
  refine c_newaI 26 119 X (n := 160) rfl (by decide) k_119 (by decide) (by decide) (ovEI0 e_119 (by decide +kernel)) (by rw [Rt.1]; exact Nat.le_of_ble_eq_true rfl) (by rw [Rt.1]; exact Nat.le_of_ble_eq_true rfl) dX5_init_24 rfl ?_
  refine at_putfF 29 X hin 116 5 2 clX5 rfl (by decide) w_569 (KT_get (by decide) k_116) rfl (by decide) rfl (fun q => absurd q (by decide)) dX5_init_26 rfl ?_
  rw [ob_wr]
  refine at_aload_n 30 X rfl rfl dX5_init_29 rfl ?_
  refine c_new 33 120 X clX2 w_565 w_248 w_125 k_120 (by decide) (by rw [Rt.1]; exact Nat.le_of_ble_eq_true rfl) (by rw [Rt.1]; exact Nat.le_of_ble_eq_true rfl) dX5_init_30 rfl ?_
  refine at_dup 34 X (by decide) dX5_init_33 rfl ?_
  refine at_callIN 37 X 120 (cc_X2_init_120 hG _ nz_fz) rfl mo_X2_init w_566 io_X2_init rfl rfl (crm Rt (by decide)) (Nat.le_of_ble_eq_true rfl) dX5_init_34 rfl ?_
  rintro _ _ ⟨rfl, rfl⟩
  refine c_part (by decide) (fun _ _ _ _ => rfl) ?_
  refine at_putfF 40 X hin 116 5 3 clX5 rfl (by decide) w_570 (KT_get (by decide) k_116) rfl (by decide) rfl (fun q => absurd q (by decide)) dX5_init_37 rfl ?_
  rw [ob_wr]
  refine c_shut k_116 (by decide +kernel) (fun _ _ _ _ _ _ _ => rfl) ?_
  exact at_vret X Rt ⟨rfl, rfl⟩ (Nat.le_of_ble_eq_true rfl) (Nat.le_of_ble_eq_true rfl) dX5_init_40
