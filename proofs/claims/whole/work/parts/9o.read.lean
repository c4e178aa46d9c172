theorem nbT_1 (B : Nat → Int) (n : Nat) (t : TS) (P : SP) (ns : Nat) : nbT B n 1 t P ns = (nuT B n t 4 40, setW P (nuV B n t 4 40), ns) := by
  unfold nbT
  rw [if_pos rfl]
theorem nbT_2 (B : Nat → Int) (n : Nat) (t : TS) (P : SP) (ns : Nat) : nbT B n 2 t P ns = ((poC B n t P).1, (poC B n t P).2, ns) := by
  unfold nbT
  rw [if_neg (by decide), if_pos rfl]
theorem nbT_3 (B : Nat → Int) (n : Nat) (t : TS) (P : SP) (ns : Nat) : nbT B n 3 t P ns = ((suC B n t P).1, (suC B n t P).2, ns + 1) := by
  unfold nbT
  rw [if_neg (by decide), if_neg (by decide), if_pos rfl]
theorem nbT_4 (B : Nat → Int) (n : Nat) (t : TS) (P : SP) (ns : Nat) : nbT B n 4 t P ns = (nuT B n t 1 24, setDk P (nuV B n t 1 24), ns) := by
  unfold nbT
  rw [if_neg (by decide), if_neg (by decide), if_neg (by decide), if_pos rfl]
theorem nbT_5 (B : Nat → Int) (n : Nat) (t : TS) (P : SP) (ns : Nat) : nbT B n 5 t P ns = ((moC B n t P).1, (moC B n t P).2, ns) := by
  unfold nbT
  rw [if_neg (by decide), if_neg (by decide), if_neg (by decide), if_neg (by decide), if_pos rfl]
theorem nbT_6 (B : Nat → Int) (n : Nat) (t : TS) (P : SP) (ns : Nat) : nbT B n 6 t P ns = ((clC B n t P).1, (clC B n t P).2, ns) := by
  unfold nbT
  rw [if_neg (by decide), if_neg (by decide), if_neg (by decide), if_neg (by decide), if_neg (by decide), if_pos rfl]
theorem nbT_7 (B : Nat → Int) (n : Nat) (t : TS) (P : SP) (ns : Nat) : nbT B n 7 t P ns = ((laC B n t P).1, (laC B n t P).2, ns) := by
  unfold nbT
  rw [if_neg (by decide), if_neg (by decide), if_neg (by decide), if_neg (by decide), if_neg (by decide), if_neg (by decide), if_pos rfl]
theorem nbT_8 (B : Nat → Int) (n : Nat) (t : TS) (P : SP) (ns : Nat) : nbT B n 8 t P ns = ((beC B n t P).1, (beC B n t P).2, ns) := by
  unfold nbT
  rw [if_neg (by decide), if_neg (by decide), if_neg (by decide), if_neg (by decide), if_neg (by decide), if_neg (by decide), if_neg (by decide), if_pos rfl]
theorem nbT_9 {B : Nat → Int} {n : Nat} {kd : Int} {t : TS} {P : SP} {ns : Nat} (h : 9 ≤ kd) : nbT B n kd t P ns = ((loC B n t P).1, (loC B n t P).2, ns) := by
  unfold nbT
  rw [if_neg (show ¬ kd = 1 by omega), if_neg (show ¬ kd = 2 by omega), if_neg (show ¬ kd = 3 by omega), if_neg (show ¬ kd = 4 by omega), if_neg (show ¬ kd = 5 by omega), if_neg (show ¬ kd = 6 by omega), if_neg (show ¬ kd = 7 by omega), if_neg (show ¬ kd = 8 by omega)]
theorem dX9_readNumbers_0 : decode cX9_readNumbers 0 = .ok (.iload_n 2, 1) := by decide +kernel
theorem dX9_readNumbers_1 : decode cX9_readNumbers 1 = .ok (.tableswitch 123 1 8 #[47, 61, 69, 77, 91, 99, 107, 115], 47) := by decide +kernel
theorem dX9_readNumbers_48 : decode cX9_readNumbers 48 = .ok (.aload_n 0, 1) := by decide +kernel
theorem dX9_readNumbers_49 : decode cX9_readNumbers 49 = .ok (.aload_n 1, 1) := by decide +kernel
theorem dX9_readNumbers_50 : decode cX9_readNumbers 50 = .ok (.iconst 4, 1) := by decide +kernel
theorem dX9_readNumbers_51 : decode cX9_readNumbers 51 = .ok (.bipush 40, 2) := by decide +kernel
theorem dX9_readNumbers_53 : decode cX9_readNumbers 53 = .ok (.invokevirtual 137, 3) := by decide +kernel
theorem dX9_readNumbers_56 : decode cX9_readNumbers 56 = .ok (.putfield 43, 3) := by decide +kernel
theorem dX9_readNumbers_59 : decode cX9_readNumbers 59 = .ok (.goto 70, 3) := by decide +kernel
theorem dX9_readNumbers_62 : decode cX9_readNumbers 62 = .ok (.aload_n 0, 1) := by decide +kernel
theorem dX9_readNumbers_63 : decode cX9_readNumbers 63 = .ok (.aload_n 1, 1) := by decide +kernel
theorem dX9_readNumbers_64 : decode cX9_readNumbers 64 = .ok (.invokevirtual 141, 3) := by decide +kernel
theorem dX9_readNumbers_67 : decode cX9_readNumbers 67 = .ok (.goto 62, 3) := by decide +kernel
theorem dX9_readNumbers_70 : decode cX9_readNumbers 70 = .ok (.aload_n 0, 1) := by decide +kernel
theorem dX9_readNumbers_71 : decode cX9_readNumbers 71 = .ok (.aload_n 1, 1) := by decide +kernel
theorem dX9_readNumbers_72 : decode cX9_readNumbers 72 = .ok (.invokevirtual 145, 3) := by decide +kernel
theorem dX9_readNumbers_75 : decode cX9_readNumbers 75 = .ok (.goto 54, 3) := by decide +kernel
theorem dX9_readNumbers_78 : decode cX9_readNumbers 78 = .ok (.aload_n 0, 1) := by decide +kernel
theorem dX9_readNumbers_79 : decode cX9_readNumbers 79 = .ok (.aload_n 1, 1) := by decide +kernel
theorem dX9_readNumbers_80 : decode cX9_readNumbers 80 = .ok (.iconst 1, 1) := by decide +kernel
theorem dX9_readNumbers_81 : decode cX9_readNumbers 81 = .ok (.bipush 24, 2) := by decide +kernel
theorem dX9_readNumbers_83 : decode cX9_readNumbers 83 = .ok (.invokevirtual 137, 3) := by decide +kernel
theorem dX9_readNumbers_86 : decode cX9_readNumbers 86 = .ok (.putfield 47, 3) := by decide +kernel
theorem dX9_readNumbers_89 : decode cX9_readNumbers 89 = .ok (.goto 40, 3) := by decide +kernel
theorem dX9_readNumbers_92 : decode cX9_readNumbers 92 = .ok (.aload_n 0, 1) := by decide +kernel
theorem dX9_readNumbers_93 : decode cX9_readNumbers 93 = .ok (.aload_n 1, 1) := by decide +kernel
theorem dX9_readNumbers_94 : decode cX9_readNumbers 94 = .ok (.invokevirtual 148, 3) := by decide +kernel
theorem dX9_readNumbers_97 : decode cX9_readNumbers 97 = .ok (.goto 32, 3) := by decide +kernel
theorem dX9_readNumbers_100 : decode cX9_readNumbers 100 = .ok (.aload_n 0, 1) := by decide +kernel
theorem dX9_readNumbers_101 : decode cX9_readNumbers 101 = .ok (.aload_n 1, 1) := by decide +kernel
theorem dX9_readNumbers_102 : decode cX9_readNumbers 102 = .ok (.invokevirtual 151, 3) := by decide +kernel
theorem dX9_readNumbers_105 : decode cX9_readNumbers 105 = .ok (.goto 24, 3) := by decide +kernel
theorem dX9_readNumbers_108 : decode cX9_readNumbers 108 = .ok (.aload_n 0, 1) := by decide +kernel
theorem dX9_readNumbers_109 : decode cX9_readNumbers 109 = .ok (.aload_n 1, 1) := by decide +kernel
theorem dX9_readNumbers_110 : decode cX9_readNumbers 110 = .ok (.invokevirtual 154, 3) := by decide +kernel
theorem dX9_readNumbers_113 : decode cX9_readNumbers 113 = .ok (.goto 16, 3) := by decide +kernel
theorem dX9_readNumbers_116 : decode cX9_readNumbers 116 = .ok (.aload_n 0, 1) := by decide +kernel
theorem dX9_readNumbers_117 : decode cX9_readNumbers 117 = .ok (.aload_n 1, 1) := by decide +kernel
theorem dX9_readNumbers_118 : decode cX9_readNumbers 118 = .ok (.invokevirtual 157, 3) := by decide +kernel
theorem dX9_readNumbers_121 : decode cX9_readNumbers 121 = .ok (.goto 8, 3) := by decide +kernel
theorem dX9_readNumbers_124 : decode cX9_readNumbers 124 = .ok (.aload_n 0, 1) := by decide +kernel
theorem dX9_readNumbers_125 : decode cX9_readNumbers 125 = .ok (.aload_n 1, 1) := by decide +kernel
theorem dX9_readNumbers_126 : decode cX9_readNumbers 126 = .ok (.invokevirtual 160, 3) := by decide +kernel
theorem dX9_readNumbers_129 : decode cX9_readNumbers 129 = .ok (.return_, 1) := by decide +kernel
theorem ct_X9_readNumbers {g : Gw} (hG : GF g) {z : Bool} (E : Mm) (s : Nat) (hs : s = 68 ∨ s = 83) (P : SP) (ns : Nat) (hP : WS P) (hS : CSr E s P ns) (B : Nat → Int) (n : Nat) (t : TS) (hT_E : TP E B n t) (kd : Int) (hkd : 1 ≤ kd) (hfu : ¬ fuW P ns kd = true) : CT g yX9_readNumbers cX9_readNumbers 3 none 3 77 0 0 K2 z [mR s, mR 1, mI kd] (ov E) K2 z (fun r D' => r = none ∧ ∃ E1, D' = ov E1 ∧ TP E1 B n (nbT B n kd t P ns).1 ∧ ((nbT B n kd t P ns).1.2.2.1 = 0 → CSr E1 s (nbT B n kd t P ns).2.1 (nbT B n kd t P ns).2.2) ∧ DF s E E1) := by
  refine CT.mk hG (by decide +kernel) (Nat.le_of_ble_eq_true rfl) (fun κ X Rt _ ok => ?_)
  have hW40 := hP.W
  have hN10 := hP.N
  obtain ⟨f2, f3, f5, f6, f7, f8⟩ := fuW_no hfu
  refine at_iload_n 1 X rfl rfl dX9_readNumbers_0 rfl ?_
  rcases (show kd = 1 ∨ kd = 2 ∨ kd = 3 ∨ kd = 4 ∨ kd = 5 ∨ kd = 6 ∨ kd = 7 ∨ kd = 8 ∨ (kd < 1 ∨ 8 < kd) by omega) with h1 | h1 | h1 | h1 | h1 | h1 | h1 | h1 | h1
  · refine at_tswIn 48 X dX9_readNumbers_1 (by omega) (by rw [h1]; rfl) (by decide) ?_
    subst h1
    refine at_aload_n 49 X rfl rfl dX9_readNumbers_48 rfl ?_
    refine at_aload_n 50 X rfl rfl dX9_readNumbers_49 rfl ?_
    refine at_iconst 51 X (by decide) dX9_readNumbers_50 rfl ?_
    refine at_bipush 53 X (by decide) (by decide) dX9_readNumbers_51 rfl ?_
    refine at_callV 56 X _ 10 (c10_num hG E B n t hT_E 4 40 (by omega)) clX10 rfl k_1 mo_X10_takeNumber w_1043 vo_X10_takeNumber.1 vo_X10_takeNumber.2 rfl rfl (crm Rt (by decide)) (Nat.le_of_ble_eq_true rfl) dX9_readNumbers_53 rfl ?_
    rintro _ _ ⟨rfl, F1, rfl, hT_F1, hf_F1⟩
    have hq_F1 : ∀ q, q ≠ 1 → F1 q = E q := fun q h0 => hf_F1.1 q h0
    have := nu_in (B := B) (n := n) (t := t) (lo := 4) (hi := 40) (by omega)
    refine m_putI 59 X f_X9_43 fw_9_8 (kX9 hs) (nX9_8 hs) dX9_readNumbers_56 rfl ?_
    refine at_goto 129 X dX9_readNumbers_59 (by decide) ?_
    refine at_vret X Rt ?_ (Nat.le_refl _) (Nat.le_refl _) dX9_readNumbers_129
    rw [nbT_1]
    have hfin := CSr_W (w := nuV B n t 4 40) hS
    have hch : ∀ q, q ≠ 1 → (wr F1 s 8 ((nuV B n t 4 40 : Nat) : Int)) q = (wr E s 8 ((nuV B n t 4 40 : Nat) : Int)) q := fun q hq => (wr_cong ((hf_F1.1 q hq).trans rfl))
    have h1k : ∀ k, ¬ (3 ≤ k ∧ k ≤ 6) → (wr F1 s 8 ((nuV B n t 4 40 : Nat) : Int)) 1 k = E 1 k := fun k hk => ((congrFun (wr_row (by omega)) k).trans ((hf_F1.2 k hk).trans rfl))
    exact ⟨rfl, _, rfl, (hT_F1.fr (by simp (disch := omega) only [wr_row]) (by simp (disch := omega) only [wr_row])), fun _ => hfin.fr (fun q a b => hch q (by omega)), fun q a b => (hch q a).trans (by simp (disch := omega) only [wr_row]), h1k⟩
  · refine at_tswIn 62 X dX9_readNumbers_1 (by omega) (by rw [h1]; rfl) (by decide) ?_
    subst h1
    refine at_aload_n 63 X rfl rfl dX9_readNumbers_62 rfl ?_
    refine at_aload_n 64 X rfl rfl dX9_readNumbers_63 rfl ?_
    refine at_callV 67 X _ 9 (ct_X9_readPost hG E s hs P ns hP hS B n t hT_E (f2 rfl)) clX9 rfl (kX9 hs) mo_X9_readPost w_1050 vo_X9_readPost.1 vo_X9_readPost.2 rfl rfl (crm Rt (by decide)) (Nat.le_of_ble_eq_true rfl) dX9_readNumbers_64 rfl ?_
    rintro _ _ ⟨rfl, F2, rfl, hT_F2, hS_F2, hd_F2⟩
    refine at_goto 129 X dX9_readNumbers_67 (by decide) ?_
    refine at_vret X Rt ?_ (Nat.le_refl _) (Nat.le_refl _) dX9_readNumbers_129
    rw [nbT_2]
    exact ⟨rfl, F2, rfl, hT_F2, fun _ => hS_F2, hd_F2⟩
  · refine at_tswIn 70 X dX9_readNumbers_1 (by omega) (by rw [h1]; rfl) (by decide) ?_
    subst h1
    refine at_aload_n 71 X rfl rfl dX9_readNumbers_70 rfl ?_
    refine at_aload_n 72 X rfl rfl dX9_readNumbers_71 rfl ?_
    refine at_callV 75 X _ 9 (ct_X9_readSun hG E s hs P ns hP hS B n t hT_E (f3 rfl)) clX9 rfl (kX9 hs) mo_X9_readSun w_1058 vo_X9_readSun.1 vo_X9_readSun.2 rfl rfl (crm Rt (by decide)) (Nat.le_of_ble_eq_true rfl) dX9_readNumbers_72 rfl ?_
    rintro _ _ ⟨rfl, F3, rfl, hT_F3, hS_F3, hd_F3⟩
    refine at_goto 129 X dX9_readNumbers_75 (by decide) ?_
    refine at_vret X Rt ?_ (Nat.le_refl _) (Nat.le_refl _) dX9_readNumbers_129
    rw [nbT_3]
    exact ⟨rfl, F3, rfl, hT_F3, fun _ => hS_F3, hd_F3⟩
  · refine at_tswIn 78 X dX9_readNumbers_1 (by omega) (by rw [h1]; rfl) (by decide) ?_
    subst h1
    refine at_aload_n 79 X rfl rfl dX9_readNumbers_78 rfl ?_
    refine at_aload_n 80 X rfl rfl dX9_readNumbers_79 rfl ?_
    refine at_iconst 81 X (by decide) dX9_readNumbers_80 rfl ?_
    refine at_bipush 83 X (by decide) (by decide) dX9_readNumbers_81 rfl ?_
    refine at_callV 86 X _ 10 (c10_num hG E B n t hT_E 1 24 (by omega)) clX10 rfl k_1 mo_X10_takeNumber w_1043 vo_X10_takeNumber.1 vo_X10_takeNumber.2 rfl rfl (crm Rt (by decide)) (Nat.le_of_ble_eq_true rfl) dX9_readNumbers_83 rfl ?_
    rintro _ _ ⟨rfl, F4, rfl, hT_F4, hf_F4⟩
    have hq_F4 : ∀ q, q ≠ 1 → F4 q = E q := fun q h0 => hf_F4.1 q h0
    have := nu_in (B := B) (n := n) (t := t) (lo := 1) (hi := 24) (by omega)
    refine m_putI 89 X f_X9_47 fw_9_9 (kX9 hs) (nX9_9 hs) dX9_readNumbers_86 rfl ?_
    refine at_goto 129 X dX9_readNumbers_89 (by decide) ?_
    refine at_vret X Rt ?_ (Nat.le_refl _) (Nat.le_refl _) dX9_readNumbers_129
    rw [nbT_4]
    have hfin := CSr_Dk (d := nuV B n t 1 24) hS
    have hch : ∀ q, q ≠ 1 → (wr F4 s 9 ((nuV B n t 1 24 : Nat) : Int)) q = (wr E s 9 ((nuV B n t 1 24 : Nat) : Int)) q := fun q hq => (wr_cong ((hf_F4.1 q hq).trans rfl))
    have h1k : ∀ k, ¬ (3 ≤ k ∧ k ≤ 6) → (wr F4 s 9 ((nuV B n t 1 24 : Nat) : Int)) 1 k = E 1 k := fun k hk => ((congrFun (wr_row (by omega)) k).trans ((hf_F4.2 k hk).trans rfl))
    exact ⟨rfl, _, rfl, (hT_F4.fr (by simp (disch := omega) only [wr_row]) (by simp (disch := omega) only [wr_row])), fun _ => hfin.fr (fun q a b => hch q (by omega)), fun q a b => (hch q a).trans (by simp (disch := omega) only [wr_row]), h1k⟩
  · refine at_tswIn 92 X dX9_readNumbers_1 (by omega) (by rw [h1]; rfl) (by decide) ?_
    subst h1
    refine at_aload_n 93 X rfl rfl dX9_readNumbers_92 rfl ?_
    refine at_aload_n 94 X rfl rfl dX9_readNumbers_93 rfl ?_
    refine at_callV 97 X _ 9 (ct_X9_readMoon hG E s hs P ns hP hS B n t hT_E (f5 rfl)) clX9 rfl (kX9 hs) mo_X9_readMoon w_1062 vo_X9_readMoon.1 vo_X9_readMoon.2 rfl rfl (crm Rt (by decide)) (Nat.le_of_ble_eq_true rfl) dX9_readNumbers_94 rfl ?_
    rintro _ _ ⟨rfl, F5, rfl, hT_F5, hS_F5, hd_F5⟩
    refine at_goto 129 X dX9_readNumbers_97 (by decide) ?_
    refine at_vret X Rt ?_ (Nat.le_refl _) (Nat.le_refl _) dX9_readNumbers_129
    rw [nbT_5]
    exact ⟨rfl, F5, rfl, hT_F5, fun _ => hS_F5, hd_F5⟩
  · refine at_tswIn 100 X dX9_readNumbers_1 (by omega) (by rw [h1]; rfl) (by decide) ?_
    subst h1
    refine at_aload_n 101 X rfl rfl dX9_readNumbers_100 rfl ?_
    refine at_aload_n 102 X rfl rfl dX9_readNumbers_101 rfl ?_
    refine at_callV 105 X _ 9 (ct_X9_readCloud hG E s hs P ns hP hS B n t hT_E) clX9 rfl (kX9 hs) mo_X9_readCloud w_1066 vo_X9_readCloud.1 vo_X9_readCloud.2 rfl rfl (crm Rt (by decide)) (Nat.le_of_ble_eq_true rfl) dX9_readNumbers_102 rfl ?_
    rintro _ _ ⟨rfl, F6, rfl, hT_F6, hS_F6, hd_F6⟩
    refine at_goto 129 X dX9_readNumbers_105 (by decide) ?_
    refine at_vret X Rt ?_ (Nat.le_refl _) (Nat.le_refl _) dX9_readNumbers_129
    rw [nbT_6]
    exact ⟨rfl, F6, rfl, hT_F6, fun _ => hS_F6, hd_F6⟩
  · refine at_tswIn 108 X dX9_readNumbers_1 (by omega) (by rw [h1]; rfl) (by decide) ?_
    subst h1
    refine at_aload_n 109 X rfl rfl dX9_readNumbers_108 rfl ?_
    refine at_aload_n 110 X rfl rfl dX9_readNumbers_109 rfl ?_
    refine at_callV 113 X _ 9 (ct_X9_readLamp hG E s hs P ns hP hS B n t hT_E) clX9 rfl (kX9 hs) mo_X9_readLamp w_1070 vo_X9_readLamp.1 vo_X9_readLamp.2 rfl rfl (crm Rt (by decide)) (Nat.le_of_ble_eq_true rfl) dX9_readNumbers_110 rfl ?_
    rintro _ _ ⟨rfl, F7, rfl, hT_F7, hS_F7, hd_F7⟩
    refine at_goto 129 X dX9_readNumbers_113 (by decide) ?_
    refine at_vret X Rt ?_ (Nat.le_refl _) (Nat.le_refl _) dX9_readNumbers_129
    rw [nbT_7]
    exact ⟨rfl, F7, rfl, hT_F7, fun _ => hS_F7, hd_F7⟩
  · refine at_tswIn 116 X dX9_readNumbers_1 (by omega) (by rw [h1]; rfl) (by decide) ?_
    subst h1
    refine at_aload_n 117 X rfl rfl dX9_readNumbers_116 rfl ?_
    refine at_aload_n 118 X rfl rfl dX9_readNumbers_117 rfl ?_
    refine at_callV 121 X _ 9 (ct_X9_readBeam hG E s hs P ns hP hS B n t hT_E (f8 rfl)) clX9 rfl (kX9 hs) mo_X9_readBeam w_1077 vo_X9_readBeam.1 vo_X9_readBeam.2 rfl rfl (crm Rt (by decide)) (Nat.le_of_ble_eq_true rfl) dX9_readNumbers_118 rfl ?_
    rintro _ _ ⟨rfl, F8, rfl, hT_F8, hS_F8, hd_F8⟩
    refine at_goto 129 X dX9_readNumbers_121 (by decide) ?_
    refine at_vret X Rt ?_ (Nat.le_refl _) (Nat.le_refl _) dX9_readNumbers_129
    rw [nbT_8]
    exact ⟨rfl, F8, rfl, hT_F8, fun _ => hS_F8, hd_F8⟩
  · refine at_tswOut 124 X dX9_readNumbers_1 h1 (by decide) ?_
    have h9 : 9 ≤ kd := by omega
    refine at_aload_n 125 X rfl rfl dX9_readNumbers_124 rfl ?_
    refine at_aload_n 126 X rfl rfl dX9_readNumbers_125 rfl ?_
    refine at_callV 129 X _ 9 (ct_X9_readLoad hG E s hs P ns hP hS B n t hT_E) clX9 rfl (kX9 hs) mo_X9_readLoad w_1086 vo_X9_readLoad.1 vo_X9_readLoad.2 rfl rfl (crm Rt (by decide)) (Nat.le_of_ble_eq_true rfl) dX9_readNumbers_126 rfl ?_
    rintro _ _ ⟨rfl, F9, rfl, hT_F9, hS_F9, hd_F9⟩
    refine at_vret X Rt ?_ (Nat.le_refl _) (Nat.le_refl _) dX9_readNumbers_129
    rw [nbT_9 h9]
    exact ⟨rfl, F9, rfl, hT_F9, hS_F9, hd_F9⟩
theorem dX9_readClause_0 : decode cX9_readClause 0 = .ok (.aload_n 1, 1) := by decide +kernel
theorem dX9_readClause_1 : decode cX9_readClause 1 = .ok (.invokevirtual 89, 3) := by decide +kernel
theorem dX9_readClause_4 : decode cX9_readClause 4 = .ok (.aload_n 1, 1) := by decide +kernel
theorem dX9_readClause_5 : decode cX9_readClause 5 = .ok (.invokestatic 92, 3) := by decide +kernel
theorem dX9_readClause_8 : decode cX9_readClause 8 = .ok (.istore_n 3, 1) := by decide +kernel
theorem dX9_readClause_9 : decode cX9_readClause 9 = .ok (.iload_n 3, 1) := by decide +kernel
theorem dX9_readClause_10 : decode cX9_readClause 10 = .ok (.ifCond .ne 11, 3) := by decide +kernel
theorem dX9_readClause_13 : decode cX9_readClause 13 = .ok (.aload_n 1, 1) := by decide +kernel
theorem dX9_readClause_14 : decode cX9_readClause 14 = .ok (.iconst 1, 1) := by decide +kernel
theorem dX9_readClause_15 : decode cX9_readClause 15 = .ok (.invokevirtual 96, 3) := by decide +kernel
theorem dX9_readClause_18 : decode cX9_readClause 18 = .ok (.goto 39, 3) := by decide +kernel
theorem dX9_readClause_21 : decode cX9_readClause 21 = .ok (.iload_n 2, 1) := by decide +kernel
theorem dX9_readClause_22 : decode cX9_readClause 22 = .ok (.bipush 60, 2) := by decide +kernel
theorem dX9_readClause_24 : decode cX9_readClause 24 = .ok (.if_icmp .ge 11, 3) := by decide +kernel
theorem dX9_readClause_27 : decode cX9_readClause 27 = .ok (.aload_n 0, 1) := by decide +kernel
theorem dX9_readClause_28 : decode cX9_readClause 28 = .ok (.iload_n 3, 1) := by decide +kernel
theorem dX9_readClause_29 : decode cX9_readClause 29 = .ok (.invokevirtual 100, 3) := by decide +kernel
theorem dX9_readClause_32 : decode cX9_readClause 32 = .ok (.ifCond .eq 11, 3) := by decide +kernel
theorem dX9_readClause_35 : decode cX9_readClause 35 = .ok (.aload_n 1, 1) := by decide +kernel
theorem dX9_readClause_36 : decode cX9_readClause 36 = .ok (.iconst 3, 1) := by decide +kernel
theorem dX9_readClause_37 : decode cX9_readClause 37 = .ok (.invokevirtual 96, 3) := by decide +kernel
theorem dX9_readClause_40 : decode cX9_readClause 40 = .ok (.goto 17, 3) := by decide +kernel
theorem dX9_readClause_43 : decode cX9_readClause 43 = .ok (.iload_n 3, 1) := by decide +kernel
theorem dX9_readClause_44 : decode cX9_readClause 44 = .ok (.iconst 1, 1) := by decide +kernel
theorem dX9_readClause_45 : decode cX9_readClause 45 = .ok (.if_icmp .ne 12, 3) := by decide +kernel
theorem dX9_readClause_48 : decode cX9_readClause 48 = .ok (.iload_n 2, 1) := by decide +kernel
theorem dX9_readClause_49 : decode cX9_readClause 49 = .ok (.ifCond .le 8, 3) := by decide +kernel
theorem dX9_readClause_52 : decode cX9_readClause 52 = .ok (.aload_n 1, 1) := by decide +kernel
theorem dX9_readClause_53 : decode cX9_readClause 53 = .ok (.iconst 4, 1) := by decide +kernel
theorem dX9_readClause_54 : decode cX9_readClause 54 = .ok (.invokevirtual 96, 3) := by decide +kernel
theorem dX9_readClause_57 : decode cX9_readClause 57 = .ok (.aload_n 1, 1) := by decide +kernel
theorem dX9_readClause_58 : decode cX9_readClause 58 = .ok (.invokevirtual 104, 3) := by decide +kernel
theorem dX9_readClause_61 : decode cX9_readClause 61 = .ok (.ifCond .ne 15, 3) := by decide +kernel
theorem dX9_readClause_64 : decode cX9_readClause 64 = .ok (.aload_n 0, 1) := by decide +kernel
theorem dX9_readClause_65 : decode cX9_readClause 65 = .ok (.aload_n 1, 1) := by decide +kernel
theorem dX9_readClause_66 : decode cX9_readClause 66 = .ok (.iload_n 3, 1) := by decide +kernel
theorem dX9_readClause_67 : decode cX9_readClause 67 = .ok (.invokevirtual 107, 3) := by decide +kernel
theorem dX9_readClause_70 : decode cX9_readClause 70 = .ok (.aload_n 1, 1) := by decide +kernel
theorem dX9_readClause_71 : decode cX9_readClause 71 = .ok (.bipush 59, 2) := by decide +kernel
theorem dX9_readClause_73 : decode cX9_readClause 73 = .ok (.invokevirtual 110, 3) := by decide +kernel
theorem dX9_readClause_76 : decode cX9_readClause 76 = .ok (.return_, 1) := by decide +kernel
theorem ct_X9_readClause {g : Gw} (hG : GF g) {z : Bool} (E : Mm) (s : Nat) (hs : s = 68 ∨ s = 83) (P : SP) (ns : Nat) (hP : WS P) (hS : CSr E s P ns) (B : Nat → Int) (n : Nat) (t : TS) (hT_E : TP E B n t) (k : Nat) (hk : k ≤ 60) : CT g yX9_readClause cX9_readClause 4 none 6 127 0 0 K2 z [mR s, mR 1, mI ((k : Nat) : Int)] (ov E) K2 z (fun r D' => r = none ∧ ∃ E1, D' = ov E1 ∧ TP E1 B n (clN B n k (t, P, ns)).1 ∧ ((clN B n k (t, P, ns)).1.2.2.1 = 0 → CSr E1 s (clN B n k (t, P, ns)).2.1 (clN B n k (t, P, ns)).2.2) ∧ DF s E E1) := by
  refine CT.mk hG (by decide +kernel) (Nat.le_of_ble_eq_true rfl) (fun κ X Rt _ ok => ?_)
  have hW40 := hP.W
  have hN10 := hP.N
  refine at_aload_n 1 X rfl rfl dX9_readClause_0 rfl ?_
  refine at_callV 4 X _ 10 (c10_takeWord hG E B n t hT_E) clX10 rfl k_1 mo_X10_takeWord w_955 vo_X10_takeWord.1 vo_X10_takeWord.2 rfl rfl (crm Rt (by decide)) (Nat.le_of_ble_eq_true rfl) dX9_readClause_1 rfl ?_
  rintro _ _ ⟨rfl, F1, rfl, hT_F1, hf_F1⟩
  have hq_F1 : ∀ q, q ≠ 1 → F1 q = E q := fun q h0 => hf_F1.1 q h0
  refine at_aload_n 5 X rfl rfl dX9_readClause_4 rfl ?_
  refine at_callS 8 X (ct_X9_kindOf hG F1 B n (twT B n t) hT_F1) mo_X9_kindOf w_963 so_X9_kindOf rfl rfl (crm Rt (by decide)) (Nat.le_of_ble_eq_true rfl) dX9_readClause_5 rfl ?_
  rintro _ _ ⟨rfl, rfl⟩
  refine at_istore_n 9 X rfl dX9_readClause_8 rfl (by decide) ?_
  have J57 : ∀ (F6 : Mm), (TP F6 B n (hdT B n k t P ns)) → (TF E F6) → (CSr F6 s P ns) → AT g κ K2 z 0 0 57 [(0, mR s), (1, mR 1), (3, mI (kdW B (twT B n t)))] [] (ov F6) := by
    intro F6 hT_F6 hf_F6 hS_F6
    refine at_aload_n 58 X rfl rfl dX9_readClause_57 rfl ?_
    refine at_callV 61 X _ 10 (c10_failed hG F6 B n (hdT B n k t P ns) hT_F6) clX10 rfl k_1 mo_X10_failed w_1035 vo_X10_failed.1 vo_X10_failed.2 rfl rfl (crm Rt (by decide)) (Nat.le_of_ble_eq_true rfl) dX9_readClause_58 rfl ?_
    rintro _ _ ⟨rfl, rfl⟩
    refine at_if_ne 64 76 X dX9_readClause_61 rfl (by decide) (fun h61 => ?_) (fun h61 => ?_)
    · have hbd : ¬ (hdT B n k t P ns).2.2.1 = 0 := fun q => h61 (by rw [if_pos q])
      have e : clN B n k (t, P, ns) = (hdT B n k t P ns, P, ns) := if_neg hbd
      refine at_vret X Rt ?_ (Nat.le_refl _) (Nat.le_refl _) dX9_readClause_76
      rw [e]
      exact ⟨rfl, F6, rfl, hT_F6, fun q => absurd q hbd, hf_F6.df⟩
    · have hgd : (hdT B n k t P ns).2.2.1 = 0 := Decidable.byContradiction (fun q => by rw [if_neg q] at h61; exact absurd h61 (by decide))
      obtain ⟨hq1, hq2, hk1, hq4, hfu, hq6⟩ := hdT_ok hgd
      have e : clN B n k (t, P, ns) = (tsT B n (nbT B n (kdW B (twT B n t)) (hdT B n k t P ns) P ns).1 59, (nbT B n (kdW B (twT B n t)) (hdT B n k t P ns) P ns).2) := if_pos hgd
      refine at_aload_n 65 X rfl rfl dX9_readClause_64 rfl ?_
      refine at_aload_n 66 X rfl rfl dX9_readClause_65 rfl ?_
      refine at_iload_n 67 X rfl rfl dX9_readClause_66 rfl ?_
      refine at_callV 70 X _ 9 (ct_X9_readNumbers hG F6 s hs P ns hP hS_F6 B n (hdT B n k t P ns) hT_F6 (kdW B (twT B n t)) hk1 hfu) clX9 rfl (kX9 hs) mo_X9_readNumbers w_1039 vo_X9_readNumbers.1 vo_X9_readNumbers.2 rfl rfl (crm Rt (by decide)) (Nat.le_of_ble_eq_true rfl) dX9_readClause_67 rfl ?_
      rintro _ _ ⟨rfl, F7, rfl, hT_F7, hS_F7, hd_F7⟩
      refine at_aload_n 71 X rfl rfl dX9_readClause_70 rfl ?_
      refine at_bipush 73 X (by decide) (by decide) dX9_readClause_71 rfl ?_
      refine at_callV 76 X _ 10 (c10_takeSign hG F7 B n ((nbT B n (kdW B (twT B n t)) (hdT B n k t P ns) P ns).1) hT_F7 59 (by decide)) clX10 rfl k_1 mo_X10_takeSign w_1091 vo_X10_takeSign.1 vo_X10_takeSign.2 rfl rfl (crm Rt (by decide)) (Nat.le_of_ble_eq_true rfl) dX9_readClause_73 rfl ?_
      rintro _ _ ⟨rfl, F2, rfl, hT_F2, hf_F2⟩
      refine at_vret X Rt ?_ (Nat.le_refl _) (Nat.le_refl _) dX9_readClause_76
      rw [e]
      exact ⟨rfl, F2, rfl, hT_F2, fun q => (hS_F7 (ts_ok q).1).fr (fun q a b => hf_F2.1 q (by omega)), (hf_F6.df.tr hd_F7).tr hf_F2.df⟩
  refine at_iload_n 10 X rfl rfl dX9_readClause_9 rfl ?_
  refine at_if_ne 13 21 X dX9_readClause_10 rfl (by decide) (fun h10 => ?_) (fun h10 => ?_)
  · refine at_iload_n 22 X rfl rfl dX9_readClause_21 rfl ?_
    refine at_bipush 24 X (by decide) (by decide) dX9_readClause_22 rfl ?_
    refine at_icmp_ge 27 35 X dX9_readClause_24 rfl (by decide) (fun h24 => ?_) (fun h24 => ?_)
    · refine at_aload_n 36 X rfl rfl dX9_readClause_35 rfl ?_
      refine at_iconst 37 X (by decide) dX9_readClause_36 rfl ?_
      refine at_callV 40 X _ 10 (c10_fail hG F1 B n (twT B n t) hT_F1 3) clX10 rfl k_1 mo_X10_fail w_1027 vo_X10_fail.1 vo_X10_fail.2 rfl rfl (crm Rt (by decide)) (Nat.le_of_ble_eq_true rfl) dX9_readClause_37 rfl ?_
      rintro _ _ ⟨rfl, F3, rfl, hT_F3, hf_F3⟩
      have hq_F3 : ∀ q, q ≠ 1 → F3 q = E q := fun q h0 => (hf_F3.1 q h0).trans (hq_F1 q h0)
      refine at_goto 57 X dX9_readClause_40 (by decide) ?_
      exact at_sub _ (by exact ⟨rfl, rfl, rfl, trivial⟩) (J57 F3 (by unfold hdT; first | (rw [if_pos h10]; exact hT_F3) | (rw [if_neg h10, if_pos (Or.inl (by omega))]; exact hT_F3) | (rw [if_neg h10, if_pos (Or.inr h32)]; exact hT_F3) | (rw [if_neg h10, if_neg (by rintro (q | q) <;> first | omega | exact h32 q), if_pos ⟨by omega, by omega⟩]; exact hT_F3) | (rw [if_neg h10, if_neg (by rintro (q | q) <;> first | omega | exact h32 q), if_neg (by rintro ⟨q1, q2⟩; first | omega | exact h45 q1)]; exact hT_F3)) (hf_F1.tr hf_F3) (hS.fr (fun q a b => hq_F3 q (by omega))))
    · refine at_aload_n 28 X rfl rfl dX9_readClause_27 rfl ?_
      refine at_iload_n 29 X rfl rfl dX9_readClause_28 rfl ?_
      refine at_callV 32 X _ 9 (ct_X9_isFull hG F1 s hs P ns hP (hS.fr (fun q a b => hq_F1 q (by omega))) (kdW B (twT B n t))) clX9 rfl (kX9 hs) mo_X9_isFull w_1031 vo_X9_isFull.1 vo_X9_isFull.2 rfl rfl (crm Rt (by decide)) (Nat.le_of_ble_eq_true rfl) dX9_readClause_29 rfl ?_
      rintro _ _ ⟨rfl, rfl⟩
      refine at_if_eq 35 43 X dX9_readClause_32 rfl (by decide) (fun h32 => ?_) (fun h32 => ?_)
      · have h32 : ¬ (fuW P ns (kdW B (twT B n t)) = true) := ite_no.mp h32
        refine at_iload_n 44 X rfl rfl dX9_readClause_43 rfl ?_
        refine at_iconst 45 X (by decide) dX9_readClause_44 rfl ?_
        refine at_icmp_ne 48 57 X dX9_readClause_45 rfl (by decide) (fun h45 => ?_) (fun h45 => ?_)
        · exact at_sub _ (by exact ⟨rfl, rfl, rfl, trivial⟩) (J57 F1 (by unfold hdT; first | (rw [if_pos h10]; exact hT_F1) | (rw [if_neg h10, if_pos (Or.inl (by omega))]; exact hT_F1) | (rw [if_neg h10, if_pos (Or.inr h32)]; exact hT_F1) | (rw [if_neg h10, if_neg (by rintro (q | q) <;> first | omega | exact h32 q), if_pos ⟨by omega, by omega⟩]; exact hT_F1) | (rw [if_neg h10, if_neg (by rintro (q | q) <;> first | omega | exact h32 q), if_neg (by rintro ⟨q1, q2⟩; first | omega | exact h45 q1)]; exact hT_F1)) hf_F1 (hS.fr (fun q a b => hq_F1 q (by omega))))
        · refine at_iload_n 49 X rfl rfl dX9_readClause_48 rfl ?_
          refine at_if_le 52 57 X dX9_readClause_49 rfl (by decide) (fun h49 => ?_) (fun h49 => ?_)
          · exact at_sub _ (by exact ⟨rfl, rfl, rfl, trivial⟩) (J57 F1 (by unfold hdT; first | (rw [if_pos h10]; exact hT_F1) | (rw [if_neg h10, if_pos (Or.inl (by omega))]; exact hT_F1) | (rw [if_neg h10, if_pos (Or.inr h32)]; exact hT_F1) | (rw [if_neg h10, if_neg (by rintro (q | q) <;> first | omega | exact h32 q), if_pos ⟨by omega, by omega⟩]; exact hT_F1) | (rw [if_neg h10, if_neg (by rintro (q | q) <;> first | omega | exact h32 q), if_neg (by rintro ⟨q1, q2⟩; first | omega | exact h45 q1)]; exact hT_F1)) hf_F1 (hS.fr (fun q a b => hq_F1 q (by omega))))
          · refine at_aload_n 53 X rfl rfl dX9_readClause_52 rfl ?_
            refine at_iconst 54 X (by decide) dX9_readClause_53 rfl ?_
            refine at_callV 57 X _ 10 (c10_fail hG F1 B n (twT B n t) hT_F1 4) clX10 rfl k_1 mo_X10_fail w_1027 vo_X10_fail.1 vo_X10_fail.2 rfl rfl (crm Rt (by decide)) (Nat.le_of_ble_eq_true rfl) dX9_readClause_54 rfl ?_
            rintro _ _ ⟨rfl, F4, rfl, hT_F4, hf_F4⟩
            have hq_F4 : ∀ q, q ≠ 1 → F4 q = E q := fun q h0 => (hf_F4.1 q h0).trans (hq_F1 q h0)
            exact at_sub _ (by exact ⟨rfl, rfl, rfl, trivial⟩) (J57 F4 (by unfold hdT; first | (rw [if_pos h10]; exact hT_F4) | (rw [if_neg h10, if_pos (Or.inl (by omega))]; exact hT_F4) | (rw [if_neg h10, if_pos (Or.inr h32)]; exact hT_F4) | (rw [if_neg h10, if_neg (by rintro (q | q) <;> first | omega | exact h32 q), if_pos ⟨by omega, by omega⟩]; exact hT_F4) | (rw [if_neg h10, if_neg (by rintro (q | q) <;> first | omega | exact h32 q), if_neg (by rintro ⟨q1, q2⟩; first | omega | exact h45 q1)]; exact hT_F4)) (hf_F1.tr hf_F4) (hS.fr (fun q a b => hq_F4 q (by omega))))
      · have h32 : (fuW P ns (kdW B (twT B n t)) = true) := ite_yes.mp h32
        refine at_aload_n 36 X rfl rfl dX9_readClause_35 rfl ?_
        refine at_iconst 37 X (by decide) dX9_readClause_36 rfl ?_
        refine at_callV 40 X _ 10 (c10_fail hG F1 B n (twT B n t) hT_F1 3) clX10 rfl k_1 mo_X10_fail w_1027 vo_X10_fail.1 vo_X10_fail.2 rfl rfl (crm Rt (by decide)) (Nat.le_of_ble_eq_true rfl) dX9_readClause_37 rfl ?_
        rintro _ _ ⟨rfl, F5, rfl, hT_F5, hf_F5⟩
        have hq_F5 : ∀ q, q ≠ 1 → F5 q = E q := fun q h0 => (hf_F5.1 q h0).trans (hq_F1 q h0)
        refine at_goto 57 X dX9_readClause_40 (by decide) ?_
        exact at_sub _ (by exact ⟨rfl, rfl, rfl, trivial⟩) (J57 F5 (by unfold hdT; first | (rw [if_pos h10]; exact hT_F5) | (rw [if_neg h10, if_pos (Or.inl (by omega))]; exact hT_F5) | (rw [if_neg h10, if_pos (Or.inr h32)]; exact hT_F5) | (rw [if_neg h10, if_neg (by rintro (q | q) <;> first | omega | exact h32 q), if_pos ⟨by omega, by omega⟩]; exact hT_F5) | (rw [if_neg h10, if_neg (by rintro (q | q) <;> first | omega | exact h32 q), if_neg (by rintro ⟨q1, q2⟩; first | omega | exact h45 q1)]; exact hT_F5)) (hf_F1.tr hf_F5) (hS.fr (fun q a b => hq_F5 q (by omega))))
  · refine at_aload_n 14 X rfl rfl dX9_readClause_13 rfl ?_
    refine at_iconst 15 X (by decide) dX9_readClause_14 rfl ?_
    refine at_callV 18 X _ 10 (c10_fail hG F1 B n (twT B n t) hT_F1 1) clX10 rfl k_1 mo_X10_fail w_1027 vo_X10_fail.1 vo_X10_fail.2 rfl rfl (crm Rt (by decide)) (Nat.le_of_ble_eq_true rfl) dX9_readClause_15 rfl ?_
    rintro _ _ ⟨rfl, F6, rfl, hT_F6, hf_F6⟩
    have hq_F6 : ∀ q, q ≠ 1 → F6 q = E q := fun q h0 => (hf_F6.1 q h0).trans (hq_F1 q h0)
    refine at_goto 57 X dX9_readClause_18 (by decide) ?_
    exact at_sub _ (by exact ⟨rfl, rfl, rfl, trivial⟩) (J57 F6 (by unfold hdT; first | (rw [if_pos h10]; exact hT_F6) | (rw [if_neg h10, if_pos (Or.inl (by omega))]; exact hT_F6) | (rw [if_neg h10, if_pos (Or.inr h32)]; exact hT_F6) | (rw [if_neg h10, if_neg (by rintro (q | q) <;> first | omega | exact h32 q), if_pos ⟨by omega, by omega⟩]; exact hT_F6) | (rw [if_neg h10, if_neg (by rintro (q | q) <;> first | omega | exact h32 q), if_neg (by rintro ⟨q1, q2⟩; first | omega | exact h45 q1)]; exact hT_F6)) (hf_F1.tr hf_F6) (hS.fr (fun q a b => hq_F6 q (by omega))))
/-- an empty street that is about to be read -/
theorem clrS_ov {s : Nat} (hs : s = 68 ∨ s = 83) (E : Mm) : clrS (ov E) s = ov (clrS E s) := by
  have hb := iB_8 hs
  unfold clrS clrB
  rw [ov_wr (nX9_8 hs), ov_wr (nX9_9 hs), ov_wr (nX9_10 hs), ov_wr (nX9_11 hs), ov_wr (nX9_12 hs), ov_wr (nX9_13 hs), ov_wr (nX9_14 hs), ov_wr (nX9_15 hs), ov_wr (nX9_16 hs), ov_fil (eX9_2 hs), ov_wr (nX0_6 hb), ov_fil (eX0_3 hb)]
theorem clrS_o {s q : Nat} {E : Mm} (h : ¬ (s ≤ q ∧ q ≤ s + 14)) : clrS E s q = E q := by
  unfold clrS clrB
  rw [fil_row (by omega), wr_row (by omega), fil_row (by omega)]
  simp (disch := omega) only [wr_row]
theorem clrS_CSr (E : Mm) (s : Nat) : CSr (clrS E s) s P00 0 := by
  have mk0 : ∀ n, mk (fun _ => false) n = 0 := fun n => mk_none (fun _ _ => rfl)
  have key : ∀ k, clrS E s s k = (wr (wr (wr (wr (wr (wr (wr (wr (wr E s 8 20) s 9 24) s 10 0) s 11 0) s 12 0) s 13 0) s 14 0) s 15 0) s 16 0) s k := by
    intro k
    unfold clrS clrB
    rw [fil_row (by omega), wr_row (by omega), fil_row (by omega)]
  have e3 : ∀ t, t < 24 → clrS E s (s + 3) t = -1 := by
    intro t ht
    unfold clrS clrB
    rw [fil_row (by omega), wr_row (by omega), fil_s ht]
  refine ⟨⟨?_, ?_, fun p hp => absurd hp (Nat.not_lt_zero p), ?_, fun t ht => ⟨e3 t ht, fun q => absurd rfl q⟩, ?_, fun m hm => absurd hm (Nat.not_lt_zero m), ?_, ?_, ?_, ?_, ⟨?_, fun b hb => absurd hb (Nat.not_lt_zero b)⟩⟩, ?_, fun b p h1 h2 h3 => ?_⟩
  · rw [key]; simp (disch := omega) only [wr_o, wr_s]; rfl
  · rw [key]; simp (disch := omega) only [wr_o, wr_s]; rfl
  · rw [key]; simp (disch := omega) only [wr_o, wr_s]; rfl
  · rw [key]; simp (disch := omega) only [wr_o, wr_s]; rfl
  · rw [key]; simp (disch := omega) only [wr_o, wr_s]; rfl
  · rw [key]; simp (disch := omega) only [wr_o, wr_s]; show (0 : Int) = ((mk (fun _ => false) 24 : Nat) : Int); rw [mk0]; rfl
  · rw [key]; simp (disch := omega) only [wr_o, wr_s]; rfl
  · rw [key]; rw [wr_s]; show (0 : Int) = ((mk (fun _ => false) 50 : Nat) : Int); rw [mk0]; rfl
  · unfold clrS clrB
    rw [fil_row (by omega), wr_s]; rfl
  · rw [key]; simp (disch := omega) only [wr_o, wr_s]; rfl
  · unfold clrS clrB
    exact fil_s (by omega)
theorem rdS_0 (B : Nat → Int) (n : Nat) : rdS B n 0 = ((0, 0, 0, -1), P00, 0) := rfl
theorem dX9_read_0 : decode cX9_read 0 = .ok (.aload_n 0, 1) := by decide +kernel
theorem dX9_read_1 : decode cX9_read 1 = .ok (.invokevirtual 40, 3) := by decide +kernel
theorem dX9_read_4 : decode cX9_read 4 = .ok (.iconst 0, 1) := by decide +kernel
theorem dX9_read_5 : decode cX9_read 5 = .ok (.istore_n 2, 1) := by decide +kernel
theorem dX9_read_6 : decode cX9_read 6 = .ok (.iload_n 2, 1) := by decide +kernel
theorem dX9_read_7 : decode cX9_read 7 = .ok (.bipush 60, 2) := by decide +kernel
theorem dX9_read_9 : decode cX9_read 9 = .ok (.if_icmp .gt 22, 3) := by decide +kernel
theorem dX9_read_12 : decode cX9_read 12 = .ok (.aload_n 1, 1) := by decide +kernel
theorem dX9_read_13 : decode cX9_read 13 = .ok (.invokevirtual 79, 3) := by decide +kernel
theorem dX9_read_16 : decode cX9_read 16 = .ok (.ifCond .eq 15, 3) := by decide +kernel
theorem dX9_read_19 : decode cX9_read 19 = .ok (.aload_n 0, 1) := by decide +kernel
theorem dX9_read_20 : decode cX9_read 20 = .ok (.aload_n 1, 1) := by decide +kernel
theorem dX9_read_21 : decode cX9_read 21 = .ok (.iload_n 2, 1) := by decide +kernel
theorem dX9_read_22 : decode cX9_read 22 = .ok (.invokevirtual 85, 3) := by decide +kernel
theorem dX9_read_25 : decode cX9_read 25 = .ok (.iinc 2 1, 3) := by decide +kernel
theorem dX9_read_28 : decode cX9_read 28 = .ok (.goto (-22), 3) := by decide +kernel
theorem dX9_read_31 : decode cX9_read 31 = .ok (.return_, 1) := by decide +kernel
theorem ct_X9_read {g : Gw} (hG : GF g) {z : Bool} (E : Mm) (s : Nat) (hs : s = 68 ∨ s = 83) (B : Nat → Int) (n : Nat) (hT_E : TP E B n (0, 0, 0, -1)) : CT g yX9_read cX9_read 3 none 7 150 0 0 K2 z [mR s, mR 1] (ov E) K2 z (fun r D' => r = none ∧ ∃ E1, D' = ov E1 ∧ ∃ t', TP E1 B n t' ∧ t'.2.2 = (rdS B n 61).1.2.2 ∧ (t'.2.2.1 = 0 → CSr E1 s (rdS B n 61).2.1 (rdS B n 61).2.2) ∧ DF s E E1) := by
  refine CT.mk hG (by decide +kernel) (Nat.le_of_ble_eq_true rfl) (fun κ X Rt _ ok => ?_)
  refine at_aload_n 1 X rfl rfl dX9_read_0 rfl ?_
  refine at_callV 4 X _ 9 (ct_X9_clear hG (ov E) s (kX9 hs) (kX9_2 hs) (kX0 (iB_8 hs)) (kX0_3 (iB_8 hs)) (ov_s (rX9_2 hs)) (ov_s (rX9_7 hs)) (ov_s (rX0_3 (iB_8 hs)))) clX9 rfl (kX9 hs) mo_X9_clear w_472 vo_X9_clear.1 vo_X9_clear.2 rfl rfl (crm Rt (by decide)) (Nat.le_of_ble_eq_true rfl) dX9_read_1 rfl ?_
  rintro _ _ ⟨rfl, rfl⟩
  rw [clrS_ov hs]
  have hS_F0 := clrS_CSr E s
  have hr_F0 : ∀ q, ¬ (s ≤ q ∧ q ≤ s + 14) → clrS E s q = E q := fun q h => clrS_o h
  generalize clrS E s = F0 at hS_F0 hr_F0 ⊢
  have hT_F0 : TP F0 B n (0, 0, 0, -1) := hT_E.fr (hr_F0 1 (by omega)) (hr_F0 2 (by omega))
  have hd_F0 : DF s E F0 := ⟨fun q a b => hr_F0 q b, fun k hk => congrFun (hr_F0 1 (by omega)) k⟩
  refine at_iconst 5 X (by decide) dX9_read_4 rfl ?_
  refine at_istore_n 6 X rfl dX9_read_5 rfl (by decide) ?_
  have J6 : ∀ (f6 : Nat) (F : Mm) (k : Nat), 62 - k < f6 → (k ≤ 61) → (TP F B n (rdS B n k).1) → ((rdS B n k).1.2.2.1 = 0 → CSr F s (rdS B n k).2.1 (rdS B n k).2.2) → (DF s E F) → AT g κ K2 z 0 0 6 [(0, mR s), (1, mR 1), (2, mI ((k : Nat) : Int))] [] (ov F) := by
    intro f6
    induction f6 with
    | zero => intro F k hf6; omega
    | succ f6 ih6 =>
    intro F k hf6 hk hT_F hS_F hd_F
    refine at_iload_n 7 X rfl rfl dX9_read_6 rfl ?_
    refine at_bipush 9 X (by decide) (by decide) dX9_read_7 rfl ?_
    refine at_icmp_gt 12 31 X dX9_read_9 rfl (by decide) (fun h9 => ?_) (fun h9 => ?_)
    · refine at_vret X Rt ?_ (Nat.le_refl _) (Nat.le_refl _) dX9_read_31
      exact ⟨rfl, F, rfl, (rdS B n k).1, hT_F, by rw [show 61 = k by omega], fun q => by rw [show 61 = k by omega]; exact hS_F q, hd_F⟩
    · refine at_aload_n 13 X rfl rfl dX9_read_12 rfl ?_
      refine at_callV 16 X _ 10 (c10_goesOn hG F B n (rdS B n k).1 hT_F) clX10 rfl k_1 mo_X10_goesOn w_943 vo_X10_goesOn.1 vo_X10_goesOn.2 rfl rfl (crm Rt (by decide)) (Nat.le_of_ble_eq_true rfl) dX9_read_13 rfl ?_
      rintro _ _ ⟨rfl, G1, rfl, hT_G1, hf_G1⟩
      refine at_if_eq 19 31 X dX9_read_16 rfl (by decide) (fun h16 => ?_) (fun h16 => ?_)
      · have h16 : ¬ ((rdS B n k).1.2.2.1 = 0 ∧ sk B n (rdS B n k).1.1 < n) := ite_no.mp h16
        refine at_vret X Rt ?_ (Nat.le_refl _) (Nat.le_refl _) dX9_read_31
        have e61 : rdS B n 61 = rdS B n k := by rw [show 61 = k + (61 - k) by omega]; exact rd_stay (by rintro ⟨q1, q2⟩; exact h16 ⟨q1, q2⟩) _
        exact ⟨rfl, G1, rfl, goT B n (rdS B n k).1, hT_G1, by rw [e61, go_fk], fun q => by rw [e61]; rw [go_fk] at q; exact (hS_F q).fr (fun q a b => hf_G1.1 q (by omega)), hd_F.tr hf_G1.df⟩
      · have h16 : ((rdS B n k).1.2.2.1 = 0 ∧ sk B n (rdS B n k).1.1 < n) := ite_yes.mp h16
        refine at_aload_n 20 X rfl rfl dX9_read_19 rfl ?_
        refine at_aload_n 21 X rfl rfl dX9_read_20 rfl ?_
        refine at_iload_n 22 X rfl rfl dX9_read_21 rfl ?_
        refine at_callV 25 X _ 9 (ct_X9_readClause hG G1 s hs (rdS B n k).2.1 (rdS B n k).2.2 (rd_WS B n k h16.1).1 ((hS_F h16.1).fr (fun q a b => hf_G1.1 q (by omega))) B n (goT B n (rdS B n k).1) hT_G1 k (by omega)) clX9 rfl (kX9 hs) mo_X9_readClause w_951 vo_X9_readClause.1 vo_X9_readClause.2 rfl rfl (crm Rt (by decide)) (Nat.le_of_ble_eq_true rfl) dX9_read_22 rfl ?_
        rintro _ _ ⟨rfl, G2, rfl, hT_G2, hS_G2, hd_G2⟩
        refine at_iincV 28 X ((k + 1 : Nat) : Int) (w32_v (by omega) (by omega) (by omega)) rfl dX9_read_25 rfl (by decide) ?_
        refine at_goto 6 X dX9_read_28 (by decide) ?_
        exact at_sub _ (by exact ⟨rfl, rfl, rfl, trivial⟩) (ih6 G2 (k + 1) (by first | omega | (simp only [] at *; omega)) (by first | omega | assumption) (by rw [rdS_s, show clS B n k (rdS B n k) = clN B n k (goT B n (rdS B n k).1, (rdS B n k).2) from if_pos h16]; exact hT_G2) (by rw [rdS_s, show clS B n k (rdS B n k) = clN B n k (goT B n (rdS B n k).1, (rdS B n k).2) from if_pos h16]; exact hS_G2) ((hd_F.tr hf_G1.df).tr hd_G2))
  exact at_sub _ (by exact ⟨rfl, rfl, rfl, trivial⟩) (J6 _ F0 0 (Nat.lt_succ_self _) (by first | omega | assumption | rfl) hT_F0 (fun _ => hS_F0) hd_F0)
