/-- what a reader of the law's text leaves: the tape, the law so far -/
def LPo (B : Nat → Int) (n : Nat) (E E1 : Mm) (s : Lws) : Prop := TP E1 B n s.1 ∧ (CL E1 8 s.2 ∧ s.2.1 ≤ 150) ∧ DR 8 11 E E1
theorem addL_ov {E : Mm} {m : Nat} {w v : Int} : addL (ov E) 8 m w v = ov (addL E 8 m w v) := by
  unfold addL
  split
  · rw [ov_wr (rtv_e e_9 _), ov_wr (rtv_e e_10 _), ov_wr rn_8_3]
  · rfl
theorem CL_add {E : Mm} {L : LW} {w v : Int} (h : CL E 8 L) : CL (addL E 8 L.1 w v) 8 (addW L w v) ∧ ∀ q, ¬ (8 ≤ q ∧ q ≤ 11) → addL E 8 L.1 w v q = E q := by
  unfold addL addW
  by_cases c : L.1 < 150
  · rw [if_pos c, if_pos c]
    refine ⟨⟨wr_s _ _ _ _, fun i hi => ?_⟩, fun q hq => by simp (disch := omega) only [wr_row]⟩
    have hi' : i < L.1 + 1 := hi
    show _ = updf L.2.1 L.1 w i ∧ _ = updf L.2.2 L.1 v i
    by_cases e : i = L.1
    · subst e; rw [updf_s, updf_s]; exact ⟨by simp (disch := omega) only [wr_o, wr_s], by simp (disch := omega) only [wr_o, wr_s]⟩
    · rw [updf_o e, updf_o e]
      have := h.2 i (by omega)
      exact ⟨by simp (disch := omega) only [wr_o]; exact this.1, by simp (disch := omega) only [wr_o]; exact this.2⟩
  · rw [if_neg c, if_neg c]
    exact ⟨h, fun _ _ => rfl⟩
theorem c7_add {g : Gw} (hG : GF g) {z : Bool} (E : Mm) (L : LW) (hL : CL E 8 L ∧ L.1 ≤ 150) (w v : Int) : CT g yX7_add cX7_add 3 none 0 0 0 0 K2 z [mR 8, mI w, mI v] (ov E) K2 z (fun r D' => r = none ∧ ∃ E1, D' = ov E1 ∧ (CL E1 8 (addW L w v) ∧ (addW L w v).1 ≤ 150) ∧ ∀ q, ¬ (8 ≤ q ∧ q ≤ 11) → E1 q = E q) := by
  have h := ct_X7_add hG (K := K2) (z := z) (ov E) 8 L.1 w v k_8 k_9 k_10 (ov_s r_8_0) (ov_s r_8_1) ((ov_n rn_8_3).trans hL.1.n) hL.2
  rw [addL_ov] at h
  exact h.imp (fun r D' q => ⟨q.1, _, q.2, ⟨(CL_add hL.1).1, addW_le hL.2⟩, (CL_add hL.1).2⟩)
section
variable {B : Nat → Int} {n : Nat} {z : Bool} {f : Lws → Lws} {t : TS} {L : LW}
theorem unF_bad (h : ¬ t.2.2.1 = 0) : unF B n z f (t, L) = (t, L) := if_pos h
theorem unF_dig (h : t.2.2.1 = 0) (h1 : isA B n (sk B n t.1) 48 57) : unF B n z f (t, L) = (nuT B n t 0 999, addW L 0 ((nuV B n t 0 999 : Nat) : Int)) := (if_neg (fun q => q h)).trans (if_pos h1)
theorem unF_brz (h : t.2.2.1 = 0) (h1 : ¬ isA B n (sk B n t.1) 48 57) (h2 : isA B n (sk B n t.1) 40 40) : unF B n true f (t, L) = (flT (goT B n t) 3, L) := (if_neg (fun q => q h)).trans ((if_neg h1).trans ((if_pos h2).trans (if_pos rfl)))
theorem unF_br (h : t.2.2.1 = 0) (h1 : ¬ isA B n (sk B n t.1) 48 57) (h2 : isA B n (sk B n t.1) 40 40) : unF B n false f (t, L) = brF B n f (t, L) := (if_neg (fun q => q h)).trans ((if_neg h1).trans ((if_pos h2).trans (if_neg (by decide))))
theorem unF_unk (h : t.2.2.1 = 0) (h1 : ¬ isA B n (sk B n t.1) 48 57) (h2 : ¬ isA B n (sk B n t.1) 40 40) (h3 : woW B (twT B n t) = 11) : unF B n z f (t, L) = (flT (twT B n t) 1, addW L 11 0) := (if_neg (fun q => q h)).trans ((if_neg h1).trans ((if_neg h2).trans (if_pos h3)))
theorem unF_w3z (h : t.2.2.1 = 0) (h1 : ¬ isA B n (sk B n t.1) 48 57) (h2 : ¬ isA B n (sk B n t.1) 40 40) (h3 : ¬ woW B (twT B n t) = 11) (h4 : 9 ≤ woW B (twT B n t)) : unF B n true f (t, L) = (flT (twT B n t) 3, L) := (if_neg (fun q => q h)).trans ((if_neg h1).trans ((if_neg h2).trans ((if_neg h3).trans ((if_pos h4).trans (if_pos rfl)))))
theorem unF_w3 (h : t.2.2.1 = 0) (h1 : ¬ isA B n (sk B n t.1) 48 57) (h2 : ¬ isA B n (sk B n t.1) 40 40) (h3 : ¬ woW B (twT B n t) = 11) (h4 : 9 ≤ woW B (twT B n t)) : unF B n false f (t, L) = w3F B n f (woW B (twT B n t)) (twT B n t, L) := (if_neg (fun q => q h)).trans ((if_neg h1).trans ((if_neg h2).trans ((if_neg h3).trans ((if_pos h4).trans (if_neg (by decide))))))
theorem unF_wd (h : t.2.2.1 = 0) (h1 : ¬ isA B n (sk B n t.1) 48 57) (h2 : ¬ isA B n (sk B n t.1) 40 40) (h3 : ¬ woW B (twT B n t) = 11) (h4 : ¬ 9 ≤ woW B (twT B n t)) : unF B n z f (t, L) = (twT B n t, addW L (woW B (twT B n t)) 0) := (if_neg (fun q => q h)).trans ((if_neg h1).trans ((if_neg h2).trans ((if_neg h3).trans (if_neg h4))))
end
theorem dX7_readProduct_0 : decode cX7_readProduct 0 = .ok (.aload_n 0, 1) := by decide +kernel
theorem dX7_readProduct_1 : decode cX7_readProduct 1 = .ok (.aload_n 1, 1) := by decide +kernel
theorem dX7_readProduct_2 : decode cX7_readProduct 2 = .ok (.iload_n 2, 1) := by decide +kernel
theorem dX7_readProduct_3 : decode cX7_readProduct 3 = .ok (.invokevirtual 63, 3) := by decide +kernel
theorem dX7_readProduct_6 : decode cX7_readProduct 6 = .ok (.iconst 0, 1) := by decide +kernel
theorem dX7_readProduct_7 : decode cX7_readProduct 7 = .ok (.istore_n 3, 1) := by decide +kernel
theorem dX7_readProduct_8 : decode cX7_readProduct 8 = .ok (.iload_n 3, 1) := by decide +kernel
theorem dX7_readProduct_9 : decode cX7_readProduct 9 = .ok (.sipush 150, 3) := by decide +kernel
theorem dX7_readProduct_12 : decode cX7_readProduct 12 = .ok (.if_icmp .ge 76, 3) := by decide +kernel
theorem dX7_readProduct_15 : decode cX7_readProduct 15 = .ok (.aload_n 1, 1) := by decide +kernel
theorem dX7_readProduct_16 : decode cX7_readProduct 16 = .ok (.bipush 42, 2) := by decide +kernel
theorem dX7_readProduct_18 : decode cX7_readProduct 18 = .ok (.invokevirtual 55, 3) := by decide +kernel
theorem dX7_readProduct_21 : decode cX7_readProduct 21 = .ok (.ifCond .ne 12, 3) := by decide +kernel
theorem dX7_readProduct_24 : decode cX7_readProduct 24 = .ok (.aload_n 1, 1) := by decide +kernel
theorem dX7_readProduct_25 : decode cX7_readProduct 25 = .ok (.bipush 47, 2) := by decide +kernel
theorem dX7_readProduct_27 : decode cX7_readProduct 27 = .ok (.invokevirtual 55, 3) := by decide +kernel
theorem dX7_readProduct_30 : decode cX7_readProduct 30 = .ok (.ifCond .eq 58, 3) := by decide +kernel
theorem dX7_readProduct_33 : decode cX7_readProduct 33 = .ok (.aload_n 1, 1) := by decide +kernel
theorem dX7_readProduct_34 : decode cX7_readProduct 34 = .ok (.bipush 42, 2) := by decide +kernel
theorem dX7_readProduct_36 : decode cX7_readProduct 36 = .ok (.invokevirtual 55, 3) := by decide +kernel
theorem dX7_readProduct_39 : decode cX7_readProduct 39 = .ok (.ifCond .eq 8, 3) := by decide +kernel
theorem dX7_readProduct_42 : decode cX7_readProduct 42 = .ok (.bipush 7, 2) := by decide +kernel
theorem dX7_readProduct_44 : decode cX7_readProduct 44 = .ok (.goto 5, 3) := by decide +kernel
theorem dX7_readProduct_47 : decode cX7_readProduct 47 = .ok (.bipush 8, 2) := by decide +kernel
theorem dX7_readProduct_49 : decode cX7_readProduct 49 = .ok (.istore 4, 2) := by decide +kernel
theorem dX7_readProduct_51 : decode cX7_readProduct 51 = .ok (.aload_n 1, 1) := by decide +kernel
theorem dX7_readProduct_52 : decode cX7_readProduct 52 = .ok (.iload 4, 2) := by decide +kernel
theorem dX7_readProduct_54 : decode cX7_readProduct 54 = .ok (.bipush 7, 2) := by decide +kernel
theorem dX7_readProduct_56 : decode cX7_readProduct 56 = .ok (.if_icmp .ne 8, 3) := by decide +kernel
theorem dX7_readProduct_59 : decode cX7_readProduct 59 = .ok (.bipush 42, 2) := by decide +kernel
theorem dX7_readProduct_61 : decode cX7_readProduct 61 = .ok (.goto 5, 3) := by decide +kernel
theorem dX7_readProduct_64 : decode cX7_readProduct 64 = .ok (.bipush 47, 2) := by decide +kernel
theorem dX7_readProduct_66 : decode cX7_readProduct 66 = .ok (.invokevirtual 59, 3) := by decide +kernel
theorem dX7_readProduct_69 : decode cX7_readProduct 69 = .ok (.aload_n 0, 1) := by decide +kernel
theorem dX7_readProduct_70 : decode cX7_readProduct 70 = .ok (.aload_n 1, 1) := by decide +kernel
theorem dX7_readProduct_71 : decode cX7_readProduct 71 = .ok (.iload_n 2, 1) := by decide +kernel
theorem dX7_readProduct_72 : decode cX7_readProduct 72 = .ok (.invokevirtual 63, 3) := by decide +kernel
theorem dX7_readProduct_75 : decode cX7_readProduct 75 = .ok (.aload_n 0, 1) := by decide +kernel
theorem dX7_readProduct_76 : decode cX7_readProduct 76 = .ok (.iload 4, 2) := by decide +kernel
theorem dX7_readProduct_78 : decode cX7_readProduct 78 = .ok (.iconst 0, 1) := by decide +kernel
theorem dX7_readProduct_79 : decode cX7_readProduct 79 = .ok (.invokevirtual 28, 3) := by decide +kernel
theorem dX7_readProduct_82 : decode cX7_readProduct 82 = .ok (.iinc 3 1, 3) := by decide +kernel
theorem dX7_readProduct_85 : decode cX7_readProduct 85 = .ok (.goto (-77), 3) := by decide +kernel
theorem dX7_readProduct_88 : decode cX7_readProduct 88 = .ok (.return_, 1) := by decide +kernel
theorem c7_prod {g : Gw} (hG : GF g) {z : Bool} (B : Nat → Int) (n : Nat) (U : Lws → Lws) (fr lo : Nat) (hfr : 1 ≤ fr) (hlo : 40 ≤ lo) (op : Int) (hU : ∀ (E : Mm) (t : TS) (L : LW), TP E B n t → (CL E 8 L ∧ L.1 ≤ 150) → CT g yX7_readUnit cX7_readUnit 5 none fr lo 0 0 K2 z [mR 8, mR 1, mI op] (ov E) K2 z (fun r D' => r = none ∧ ∃ E1, D' = ov E1 ∧ LPo B n E E1 (U (t, L)))) (E : Mm) (t : TS) (L : LW) (hT_E : TP E B n t) (hL_E : CL E 8 L ∧ L.1 ≤ 150) : CT g yX7_readProduct cX7_readProduct 5 none (fr + 1) (lo + 24) 0 0 K2 z [mR 8, mR 1, mI op] (ov E) K2 z (fun r D' => r = none ∧ ∃ E1, D' = ov E1 ∧ LPo B n E E1 (prF B n U (t, L))) := by
  refine CT.mk hG (by decide +kernel) (Nat.le_of_ble_eq_true rfl) (fun κ X Rt _ ok => ?_)
  have hd_E : DR 8 11 E E := DR.rf
  refine at_aload_n 1 X rfl rfl dX7_readProduct_0 rfl ?_
  refine at_aload_n 2 X rfl rfl dX7_readProduct_1 rfl ?_
  refine at_iload_n 3 X rfl rfl dX7_readProduct_2 rfl ?_
  refine at_callV 6 X _ 7 (hU E t L hT_E hL_E) clX7 rfl k_8 mo_X7_readUnit w_1124 vo_X7_readUnit.1 vo_X7_readUnit.2 rfl rfl (crm Rt ⟨by omega, by omega, by omega, by omega⟩) (Nat.le_of_ble_eq_true rfl) dX7_readProduct_3 rfl ?_
  rintro _ _ ⟨rfl, F0, rfl, hP_F0⟩
  have hT_F0 := hP_F0.1
  have hL_F0 := hP_F0.2.1
  have hd_F0 : DR 8 11 E F0 := hd_E.tr hP_F0.2.2
  refine at_iconst 7 X (by decide) dX7_readProduct_6 rfl ?_
  refine at_istore_n 8 X rfl dX7_readProduct_7 rfl (by decide) ?_
  have J8 : ∀ (f8 : Nat) (F : Mm) (i : Nat) (s : Lws), 151 - i < f8 → (i ≤ 150) → (TP F B n s.1) → (CL F 8 s.2 ∧ s.2.1 ≤ 150) → (DR 8 11 E F) → (lpW B n U 42 7 47 8 (150 - i) s = prF B n U (t, L)) → AT g κ K2 z 0 0 8 [(0, mR 8), (1, mR 1), (2, mI op), (3, mI ((i : Nat) : Int))] [] (ov F) := by
    intro f8
    induction f8 with
    | zero => intro F i s hf8; omega
    | succ f8 ih8 =>
    intro F i s hf8 hi hT_F hL_F hd_F hs
    refine at_iload_n 9 X rfl rfl dX7_readProduct_8 rfl ?_
    refine at_sipush 12 X (by decide) (by decide) dX7_readProduct_9 rfl ?_
    refine at_icmp_ge 15 88 X dX7_readProduct_12 rfl (by decide) (fun h12 => ?_) (fun h12 => ?_)
    · refine at_vret X Rt ?_ (Nat.le_refl _) (Nat.le_refl _) dX7_readProduct_88
      have e : s = prF B n U (t, L) := by rw [← hs, show 150 - i = 0 by omega]; rfl
      exact ⟨rfl, F, rfl, by rw [← e]; exact ⟨hT_F, hL_F, hd_F⟩⟩
    · have J33 : ∀ (G3 : Mm), (TP G3 B n (goT B n s.1)) → (CL G3 8 s.2 ∧ s.2.1 ≤ 150) → (DR 8 11 E G3) → (tst B n s.1 42 ∨ (¬ tst B n s.1 42 ∧ tst B n s.1 47)) → AT g κ K2 z 0 0 33 [(0, mR 8), (1, mR 1), (2, mI op), (3, mI ((i : Nat) : Int))] [] (ov G3) := by
        intro G3 hT_G3 hL_G3 hd_G3 hsg
        refine at_aload_n 34 X rfl rfl dX7_readProduct_33 rfl ?_
        refine at_bipush 36 X (by decide) (by decide) dX7_readProduct_34 rfl ?_
        refine at_callV 39 X _ 10 (c10_sees hG G3 B n (goT B n s.1) hT_G3 42 (by decide)) clX10 rfl k_1 mo_X10_sees w_1134 vo_X10_sees.1 vo_X10_sees.2 rfl rfl (crm Rt ⟨by omega, by omega, by omega, by omega⟩) (Nat.le_of_ble_eq_true rfl) dX7_readProduct_36 rfl ?_
        rintro _ _ ⟨rfl, G4, rfl, hT_G4, hf_G4⟩
        rw [goT_go] at hT_G4
        have hL_G4 : CL G4 8 s.2 ∧ s.2.1 ≤ 150 := ⟨hL_G3.1.fr (fun q a b => hf_G4.1 q (by omega)), hL_G3.2⟩
        have hd_G4 : DR 8 11 E G4 := hd_G3.tr hf_G4.dr
        refine at_if_eq 42 47 X dX7_readProduct_39 rfl (by decide) (fun h39 => ?_) (fun h39 => ?_)
        · have h39 : ¬ ((goT B n s.1).2.2.1 = 0 ∧ isA B n (sk B n (goT B n s.1).1) 42 42) := ite_no.mp h39
          have h1n : ¬ tst B n s.1 42 := fun q => h39 (tst_go.mpr q)
          have h2g : tst B n s.1 47 := (hsg.resolve_left h1n).2
          refine at_bipush 49 X (by decide) (by decide) dX7_readProduct_47 rfl ?_
          refine at_istore 51 X dX7_readProduct_49 rfl (by decide) ?_
          refine at_aload_n 52 X rfl rfl dX7_readProduct_51 rfl ?_
          refine at_iload 54 X rfl dX7_readProduct_52 rfl ?_
          refine at_bipush 56 X (by decide) (by decide) dX7_readProduct_54 rfl ?_
          refine at_icmp_ne 59 64 X dX7_readProduct_56 rfl (by decide) (fun h56 => ?_) (fun h56 => ?_)
          · refine at_bipush 66 X (by decide) (by decide) dX7_readProduct_64 rfl ?_
            refine at_callV 69 X _ 10 (c10_takeSign hG G4 B n (goT B n s.1) hT_G4 47 (by decide)) clX10 rfl k_1 mo_X10_takeSign w_1150 vo_X10_takeSign.1 vo_X10_takeSign.2 rfl rfl (crm Rt ⟨by omega, by omega, by omega, by omega⟩) (Nat.le_of_ble_eq_true rfl) dX7_readProduct_66 rfl ?_
            rintro _ _ ⟨rfl, G5, rfl, hT_G5, hf_G5⟩
            rw [tsT_go] at hT_G5
            have hL_G5 : CL G5 8 s.2 ∧ s.2.1 ≤ 150 := ⟨hL_G4.1.fr (fun q a b => hf_G5.1 q (by omega)), hL_G4.2⟩
            have hd_G5 : DR 8 11 E G5 := hd_G4.tr hf_G5.dr
            refine at_aload_n 70 X rfl rfl dX7_readProduct_69 rfl ?_
            refine at_aload_n 71 X rfl rfl dX7_readProduct_70 rfl ?_
            refine at_iload_n 72 X rfl rfl dX7_readProduct_71 rfl ?_
            refine at_callV 75 X _ 7 (hU G5 (tsT B n s.1 47) s.2 hT_G5 hL_G5) clX7 rfl k_8 mo_X7_readUnit w_1124 vo_X7_readUnit.1 vo_X7_readUnit.2 rfl rfl (crm Rt ⟨by omega, by omega, by omega, by omega⟩) (Nat.le_of_ble_eq_true rfl) dX7_readProduct_72 rfl ?_
            rintro _ _ ⟨rfl, G6, rfl, hP_G6⟩
            have hT_G6 := hP_G6.1
            have hL_G6 := hP_G6.2.1
            have hd_G6 : DR 8 11 E G6 := hd_G5.tr hP_G6.2.2
            refine at_aload_n 76 X rfl rfl dX7_readProduct_75 rfl ?_
            refine at_iload 78 X rfl dX7_readProduct_76 rfl ?_
            refine at_iconst 79 X (by decide) dX7_readProduct_78 rfl ?_
            refine at_callV 82 X _ 7 (c7_add hG G6 ((U (tsT B n s.1 47, s.2)).2) hL_G6 8 0) clX7 rfl k_8 mo_X7_add w_199 vo_X7_add.1 vo_X7_add.2 rfl rfl (crm Rt ⟨by omega, by omega, by omega, by omega⟩) (Nat.le_of_ble_eq_true rfl) dX7_readProduct_79 rfl ?_
            rintro _ _ ⟨rfl, G7, rfl, hL_G7, hr_G7⟩
            have hT_G7 : TP G7 B n ((U (tsT B n s.1 47, s.2)).1) := hT_G6.fr (hr_G7 1 (by omega)) (hr_G7 2 (by omega))
            have hd_G7 : DR 8 11 E G7 := hd_G6.tr ⟨fun q a b => hr_G7 q b, fun k hk => congrFun (hr_G7 1 (by omega)) k⟩
            refine at_iincV 85 X ((i + 1 : Nat) : Int) (w32_v (by omega) (by omega) (by omega)) rfl dX7_readProduct_82 rfl (by decide) ?_
            refine at_goto 8 X dX7_readProduct_85 (by decide) ?_
            exact at_sub _ (by exact ⟨rfl, rfl, rfl, rfl, trivial⟩) (ih8 G7 (i + 1) ((U (tsT B n s.1 47, s.2)).1, addW ((U (tsT B n s.1 47, s.2)).2) 8 0) (by first | omega | (simp only [] at *; omega)) (by first | omega | assumption) hT_G7 hL_G7 hd_G7 (by rw [show 150 - (i + 1) = 149 - i by omega, ← hs, show 150 - i = (149 - i) + 1 by omega]; first | rw [lpW_y1 h1g] | rw [lpW_y2 h1n h2g]))
          · exact absurd h56 (by decide)
        · have h39 : ((goT B n s.1).2.2.1 = 0 ∧ isA B n (sk B n (goT B n s.1).1) 42 42) := ite_yes.mp h39
          have h1g : tst B n s.1 42 := tst_go.mp h39
          refine at_bipush 44 X (by decide) (by decide) dX7_readProduct_42 rfl ?_
          refine at_goto 49 X dX7_readProduct_44 (by decide) ?_
          refine at_istore 51 X dX7_readProduct_49 rfl (by decide) ?_
          refine at_aload_n 52 X rfl rfl dX7_readProduct_51 rfl ?_
          refine at_iload 54 X rfl dX7_readProduct_52 rfl ?_
          refine at_bipush 56 X (by decide) (by decide) dX7_readProduct_54 rfl ?_
          refine at_icmp_ne 59 64 X dX7_readProduct_56 rfl (by decide) (fun h56 => ?_) (fun h56 => ?_)
          · exact absurd h56 (by decide)
          · refine at_bipush 61 X (by decide) (by decide) dX7_readProduct_59 rfl ?_
            refine at_goto 66 X dX7_readProduct_61 (by decide) ?_
            refine at_callV 69 X _ 10 (c10_takeSign hG G4 B n (goT B n s.1) hT_G4 42 (by decide)) clX10 rfl k_1 mo_X10_takeSign w_1150 vo_X10_takeSign.1 vo_X10_takeSign.2 rfl rfl (crm Rt ⟨by omega, by omega, by omega, by omega⟩) (Nat.le_of_ble_eq_true rfl) dX7_readProduct_66 rfl ?_
            rintro _ _ ⟨rfl, G5, rfl, hT_G5, hf_G5⟩
            rw [tsT_go] at hT_G5
            have hL_G5 : CL G5 8 s.2 ∧ s.2.1 ≤ 150 := ⟨hL_G4.1.fr (fun q a b => hf_G5.1 q (by omega)), hL_G4.2⟩
            have hd_G5 : DR 8 11 E G5 := hd_G4.tr hf_G5.dr
            refine at_aload_n 70 X rfl rfl dX7_readProduct_69 rfl ?_
            refine at_aload_n 71 X rfl rfl dX7_readProduct_70 rfl ?_
            refine at_iload_n 72 X rfl rfl dX7_readProduct_71 rfl ?_
            refine at_callV 75 X _ 7 (hU G5 (tsT B n s.1 42) s.2 hT_G5 hL_G5) clX7 rfl k_8 mo_X7_readUnit w_1124 vo_X7_readUnit.1 vo_X7_readUnit.2 rfl rfl (crm Rt ⟨by omega, by omega, by omega, by omega⟩) (Nat.le_of_ble_eq_true rfl) dX7_readProduct_72 rfl ?_
            rintro _ _ ⟨rfl, G6, rfl, hP_G6⟩
            have hT_G6 := hP_G6.1
            have hL_G6 := hP_G6.2.1
            have hd_G6 : DR 8 11 E G6 := hd_G5.tr hP_G6.2.2
            refine at_aload_n 76 X rfl rfl dX7_readProduct_75 rfl ?_
            refine at_iload 78 X rfl dX7_readProduct_76 rfl ?_
            refine at_iconst 79 X (by decide) dX7_readProduct_78 rfl ?_
            refine at_callV 82 X _ 7 (c7_add hG G6 ((U (tsT B n s.1 42, s.2)).2) hL_G6 7 0) clX7 rfl k_8 mo_X7_add w_199 vo_X7_add.1 vo_X7_add.2 rfl rfl (crm Rt ⟨by omega, by omega, by omega, by omega⟩) (Nat.le_of_ble_eq_true rfl) dX7_readProduct_79 rfl ?_
            rintro _ _ ⟨rfl, G7, rfl, hL_G7, hr_G7⟩
            have hT_G7 : TP G7 B n ((U (tsT B n s.1 42, s.2)).1) := hT_G6.fr (hr_G7 1 (by omega)) (hr_G7 2 (by omega))
            have hd_G7 : DR 8 11 E G7 := hd_G6.tr ⟨fun q a b => hr_G7 q b, fun k hk => congrFun (hr_G7 1 (by omega)) k⟩
            refine at_iincV 85 X ((i + 1 : Nat) : Int) (w32_v (by omega) (by omega) (by omega)) rfl dX7_readProduct_82 rfl (by decide) ?_
            refine at_goto 8 X dX7_readProduct_85 (by decide) ?_
            exact at_sub _ (by exact ⟨rfl, rfl, rfl, rfl, trivial⟩) (ih8 G7 (i + 1) ((U (tsT B n s.1 42, s.2)).1, addW ((U (tsT B n s.1 42, s.2)).2) 7 0) (by first | omega | (simp only [] at *; omega)) (by first | omega | assumption) hT_G7 hL_G7 hd_G7 (by rw [show 150 - (i + 1) = 149 - i by omega, ← hs, show 150 - i = (149 - i) + 1 by omega]; first | rw [lpW_y1 h1g] | rw [lpW_y2 h1n h2g]))
      refine at_aload_n 16 X rfl rfl dX7_readProduct_15 rfl ?_
      refine at_bipush 18 X (by decide) (by decide) dX7_readProduct_16 rfl ?_
      refine at_callV 21 X _ 10 (c10_sees hG F B n s.1 hT_F 42 (by decide)) clX10 rfl k_1 mo_X10_sees w_1134 vo_X10_sees.1 vo_X10_sees.2 rfl rfl (crm Rt ⟨by omega, by omega, by omega, by omega⟩) (Nat.le_of_ble_eq_true rfl) dX7_readProduct_18 rfl ?_
      rintro _ _ ⟨rfl, G1, rfl, hT_G1, hf_G1⟩
      have hL_G1 : CL G1 8 s.2 ∧ s.2.1 ≤ 150 := ⟨hL_F.1.fr (fun q a b => hf_G1.1 q (by omega)), hL_F.2⟩
      have hd_G1 : DR 8 11 E G1 := hd_F.tr hf_G1.dr
      refine at_if_ne 24 33 X dX7_readProduct_21 rfl (by decide) (fun h21 => ?_) (fun h21 => ?_)
      · have h21 : ((s.1).2.2.1 = 0 ∧ isA B n (sk B n (s.1).1) 42 42) := ite_yes.mp h21
        exact at_sub _ (by exact ⟨rfl, rfl, rfl, rfl, trivial⟩) (J33 G1 hT_G1 hL_G1 hd_G1 (Or.inl h21))
      · have h21 : ¬ ((s.1).2.2.1 = 0 ∧ isA B n (sk B n (s.1).1) 42 42) := ite_no.mp h21
        refine at_aload_n 25 X rfl rfl dX7_readProduct_24 rfl ?_
        refine at_bipush 27 X (by decide) (by decide) dX7_readProduct_25 rfl ?_
        refine at_callV 30 X _ 10 (c10_sees hG G1 B n (goT B n s.1) hT_G1 47 (by decide)) clX10 rfl k_1 mo_X10_sees w_1134 vo_X10_sees.1 vo_X10_sees.2 rfl rfl (crm Rt ⟨by omega, by omega, by omega, by omega⟩) (Nat.le_of_ble_eq_true rfl) dX7_readProduct_27 rfl ?_
        rintro _ _ ⟨rfl, G2, rfl, hT_G2, hf_G2⟩
        rw [goT_go] at hT_G2
        have hL_G2 : CL G2 8 s.2 ∧ s.2.1 ≤ 150 := ⟨hL_G1.1.fr (fun q a b => hf_G2.1 q (by omega)), hL_G1.2⟩
        have hd_G2 : DR 8 11 E G2 := hd_G1.tr hf_G2.dr
        refine at_if_eq 33 88 X dX7_readProduct_30 rfl (by decide) (fun h30 => ?_) (fun h30 => ?_)
        · have h30 : ¬ ((goT B n s.1).2.2.1 = 0 ∧ isA B n (sk B n (goT B n s.1).1) 47 47) := ite_no.mp h30
          refine at_vret X Rt ?_ (Nat.le_refl _) (Nat.le_refl _) dX7_readProduct_88
          have e : (goT B n s.1, s.2) = prF B n U (t, L) := by rw [← hs, show 150 - i = (149 - i) + 1 by omega, lpW_no h21 (fun q => h30 (tst_go.mpr q))]
          exact ⟨rfl, G2, rfl, by rw [← e]; exact ⟨hT_G2, hL_G2, hd_G2⟩⟩
        · have h30 : ((goT B n s.1).2.2.1 = 0 ∧ isA B n (sk B n (goT B n s.1).1) 47 47) := ite_yes.mp h30
          exact at_sub _ (by exact ⟨rfl, rfl, rfl, rfl, trivial⟩) (J33 G2 hT_G2 hL_G2 hd_G2 (Or.inr ⟨h21, tst_go.mp h30⟩))
  exact at_sub _ (by exact ⟨rfl, rfl, rfl, rfl, trivial⟩) (J8 _ F0 0 (U (t, L)) (Nat.lt_succ_self _) (by first | omega | assumption | rfl) hT_F0 hL_F0 hd_F0 rfl)
theorem dX7_readSum_0 : decode cX7_readSum 0 = .ok (.aload_n 0, 1) := by decide +kernel
theorem dX7_readSum_1 : decode cX7_readSum 1 = .ok (.aload_n 1, 1) := by decide +kernel
theorem dX7_readSum_2 : decode cX7_readSum 2 = .ok (.iload_n 2, 1) := by decide +kernel
theorem dX7_readSum_3 : decode cX7_readSum 3 = .ok (.invokevirtual 52, 3) := by decide +kernel
theorem dX7_readSum_6 : decode cX7_readSum 6 = .ok (.iconst 0, 1) := by decide +kernel
theorem dX7_readSum_7 : decode cX7_readSum 7 = .ok (.istore_n 3, 1) := by decide +kernel
theorem dX7_readSum_8 : decode cX7_readSum 8 = .ok (.iload_n 3, 1) := by decide +kernel
theorem dX7_readSum_9 : decode cX7_readSum 9 = .ok (.sipush 150, 3) := by decide +kernel
theorem dX7_readSum_12 : decode cX7_readSum 12 = .ok (.if_icmp .ge 74, 3) := by decide +kernel
theorem dX7_readSum_15 : decode cX7_readSum 15 = .ok (.aload_n 1, 1) := by decide +kernel
theorem dX7_readSum_16 : decode cX7_readSum 16 = .ok (.bipush 43, 2) := by decide +kernel
theorem dX7_readSum_18 : decode cX7_readSum 18 = .ok (.invokevirtual 55, 3) := by decide +kernel
theorem dX7_readSum_21 : decode cX7_readSum 21 = .ok (.ifCond .ne 12, 3) := by decide +kernel
theorem dX7_readSum_24 : decode cX7_readSum 24 = .ok (.aload_n 1, 1) := by decide +kernel
theorem dX7_readSum_25 : decode cX7_readSum 25 = .ok (.bipush 45, 2) := by decide +kernel
theorem dX7_readSum_27 : decode cX7_readSum 27 = .ok (.invokevirtual 55, 3) := by decide +kernel
theorem dX7_readSum_30 : decode cX7_readSum 30 = .ok (.ifCond .eq 56, 3) := by decide +kernel
theorem dX7_readSum_33 : decode cX7_readSum 33 = .ok (.aload_n 1, 1) := by decide +kernel
theorem dX7_readSum_34 : decode cX7_readSum 34 = .ok (.bipush 43, 2) := by decide +kernel
theorem dX7_readSum_36 : decode cX7_readSum 36 = .ok (.invokevirtual 55, 3) := by decide +kernel
theorem dX7_readSum_39 : decode cX7_readSum 39 = .ok (.ifCond .eq 7, 3) := by decide +kernel
theorem dX7_readSum_42 : decode cX7_readSum 42 = .ok (.iconst 5, 1) := by decide +kernel
theorem dX7_readSum_43 : decode cX7_readSum 43 = .ok (.goto 5, 3) := by decide +kernel
theorem dX7_readSum_46 : decode cX7_readSum 46 = .ok (.bipush 6, 2) := by decide +kernel
theorem dX7_readSum_48 : decode cX7_readSum 48 = .ok (.istore 4, 2) := by decide +kernel
theorem dX7_readSum_50 : decode cX7_readSum 50 = .ok (.aload_n 1, 1) := by decide +kernel
theorem dX7_readSum_51 : decode cX7_readSum 51 = .ok (.iload 4, 2) := by decide +kernel
theorem dX7_readSum_53 : decode cX7_readSum 53 = .ok (.iconst 5, 1) := by decide +kernel
theorem dX7_readSum_54 : decode cX7_readSum 54 = .ok (.if_icmp .ne 8, 3) := by decide +kernel
theorem dX7_readSum_57 : decode cX7_readSum 57 = .ok (.bipush 43, 2) := by decide +kernel
theorem dX7_readSum_59 : decode cX7_readSum 59 = .ok (.goto 5, 3) := by decide +kernel
theorem dX7_readSum_62 : decode cX7_readSum 62 = .ok (.bipush 45, 2) := by decide +kernel
theorem dX7_readSum_64 : decode cX7_readSum 64 = .ok (.invokevirtual 59, 3) := by decide +kernel
theorem dX7_readSum_67 : decode cX7_readSum 67 = .ok (.aload_n 0, 1) := by decide +kernel
theorem dX7_readSum_68 : decode cX7_readSum 68 = .ok (.aload_n 1, 1) := by decide +kernel
theorem dX7_readSum_69 : decode cX7_readSum 69 = .ok (.iload_n 2, 1) := by decide +kernel
theorem dX7_readSum_70 : decode cX7_readSum 70 = .ok (.invokevirtual 52, 3) := by decide +kernel
theorem dX7_readSum_73 : decode cX7_readSum 73 = .ok (.aload_n 0, 1) := by decide +kernel
theorem dX7_readSum_74 : decode cX7_readSum 74 = .ok (.iload 4, 2) := by decide +kernel
theorem dX7_readSum_76 : decode cX7_readSum 76 = .ok (.iconst 0, 1) := by decide +kernel
theorem dX7_readSum_77 : decode cX7_readSum 77 = .ok (.invokevirtual 28, 3) := by decide +kernel
theorem dX7_readSum_80 : decode cX7_readSum 80 = .ok (.iinc 3 1, 3) := by decide +kernel
theorem dX7_readSum_83 : decode cX7_readSum 83 = .ok (.goto (-75), 3) := by decide +kernel
theorem dX7_readSum_86 : decode cX7_readSum 86 = .ok (.return_, 1) := by decide +kernel
theorem c7_sum {g : Gw} (hG : GF g) {z : Bool} (B : Nat → Int) (n : Nat) (U : Lws → Lws) (fr lo : Nat) (hfr : 1 ≤ fr) (hlo : 40 ≤ lo) (op : Int) (hU : ∀ (E : Mm) (t : TS) (L : LW), TP E B n t → (CL E 8 L ∧ L.1 ≤ 150) → CT g yX7_readProduct cX7_readProduct 5 none fr lo 0 0 K2 z [mR 8, mR 1, mI op] (ov E) K2 z (fun r D' => r = none ∧ ∃ E1, D' = ov E1 ∧ LPo B n E E1 (U (t, L)))) (E : Mm) (t : TS) (L : LW) (hT_E : TP E B n t) (hL_E : CL E 8 L ∧ L.1 ≤ 150) : CT g yX7_readSum cX7_readSum 5 none (fr + 1) (lo + 24) 0 0 K2 z [mR 8, mR 1, mI op] (ov E) K2 z (fun r D' => r = none ∧ ∃ E1, D' = ov E1 ∧ LPo B n E E1 (lpW B n U 43 5 45 6 150 (U (t, L)))) := by
  refine CT.mk hG (by decide +kernel) (Nat.le_of_ble_eq_true rfl) (fun κ X Rt _ ok => ?_)
  have hd_E : DR 8 11 E E := DR.rf
  refine at_aload_n 1 X rfl rfl dX7_readSum_0 rfl ?_
  refine at_aload_n 2 X rfl rfl dX7_readSum_1 rfl ?_
  refine at_iload_n 3 X rfl rfl dX7_readSum_2 rfl ?_
  refine at_callV 6 X _ 7 (hU E t L hT_E hL_E) clX7 rfl k_8 mo_X7_readProduct w_1120 vo_X7_readProduct.1 vo_X7_readProduct.2 rfl rfl (crm Rt ⟨by omega, by omega, by omega, by omega⟩) (Nat.le_of_ble_eq_true rfl) dX7_readSum_3 rfl ?_
  rintro _ _ ⟨rfl, F0, rfl, hP_F0⟩
  have hT_F0 := hP_F0.1
  have hL_F0 := hP_F0.2.1
  have hd_F0 : DR 8 11 E F0 := hd_E.tr hP_F0.2.2
  refine at_iconst 7 X (by decide) dX7_readSum_6 rfl ?_
  refine at_istore_n 8 X rfl dX7_readSum_7 rfl (by decide) ?_
  have J8 : ∀ (f8 : Nat) (F : Mm) (i : Nat) (s : Lws), 151 - i < f8 → (i ≤ 150) → (TP F B n s.1) → (CL F 8 s.2 ∧ s.2.1 ≤ 150) → (DR 8 11 E F) → (lpW B n U 43 5 45 6 (150 - i) s = lpW B n U 43 5 45 6 150 (U (t, L))) → AT g κ K2 z 0 0 8 [(0, mR 8), (1, mR 1), (2, mI op), (3, mI ((i : Nat) : Int))] [] (ov F) := by
    intro f8
    induction f8 with
    | zero => intro F i s hf8; omega
    | succ f8 ih8 =>
    intro F i s hf8 hi hT_F hL_F hd_F hs
    refine at_iload_n 9 X rfl rfl dX7_readSum_8 rfl ?_
    refine at_sipush 12 X (by decide) (by decide) dX7_readSum_9 rfl ?_
    refine at_icmp_ge 15 86 X dX7_readSum_12 rfl (by decide) (fun h12 => ?_) (fun h12 => ?_)
    · refine at_vret X Rt ?_ (Nat.le_refl _) (Nat.le_refl _) dX7_readSum_86
      have e : s = lpW B n U 43 5 45 6 150 (U (t, L)) := by rw [← hs, show 150 - i = 0 by omega]; rfl
      exact ⟨rfl, F, rfl, by rw [← e]; exact ⟨hT_F, hL_F, hd_F⟩⟩
    · have J33 : ∀ (G3 : Mm), (TP G3 B n (goT B n s.1)) → (CL G3 8 s.2 ∧ s.2.1 ≤ 150) → (DR 8 11 E G3) → (tst B n s.1 43 ∨ (¬ tst B n s.1 43 ∧ tst B n s.1 45)) → AT g κ K2 z 0 0 33 [(0, mR 8), (1, mR 1), (2, mI op), (3, mI ((i : Nat) : Int))] [] (ov G3) := by
        intro G3 hT_G3 hL_G3 hd_G3 hsg
        refine at_aload_n 34 X rfl rfl dX7_readSum_33 rfl ?_
        refine at_bipush 36 X (by decide) (by decide) dX7_readSum_34 rfl ?_
        refine at_callV 39 X _ 10 (c10_sees hG G3 B n (goT B n s.1) hT_G3 43 (by decide)) clX10 rfl k_1 mo_X10_sees w_1134 vo_X10_sees.1 vo_X10_sees.2 rfl rfl (crm Rt ⟨by omega, by omega, by omega, by omega⟩) (Nat.le_of_ble_eq_true rfl) dX7_readSum_36 rfl ?_
        rintro _ _ ⟨rfl, G4, rfl, hT_G4, hf_G4⟩
        rw [goT_go] at hT_G4
        have hL_G4 : CL G4 8 s.2 ∧ s.2.1 ≤ 150 := ⟨hL_G3.1.fr (fun q a b => hf_G4.1 q (by omega)), hL_G3.2⟩
        have hd_G4 : DR 8 11 E G4 := hd_G3.tr hf_G4.dr
        refine at_if_eq 42 46 X dX7_readSum_39 rfl (by decide) (fun h39 => ?_) (fun h39 => ?_)
        · have h39 : ¬ ((goT B n s.1).2.2.1 = 0 ∧ isA B n (sk B n (goT B n s.1).1) 43 43) := ite_no.mp h39
          have h1n : ¬ tst B n s.1 43 := fun q => h39 (tst_go.mpr q)
          have h2g : tst B n s.1 45 := (hsg.resolve_left h1n).2
          refine at_bipush 48 X (by decide) (by decide) dX7_readSum_46 rfl ?_
          refine at_istore 50 X dX7_readSum_48 rfl (by decide) ?_
          refine at_aload_n 51 X rfl rfl dX7_readSum_50 rfl ?_
          refine at_iload 53 X rfl dX7_readSum_51 rfl ?_
          refine at_iconst 54 X (by decide) dX7_readSum_53 rfl ?_
          refine at_icmp_ne 57 62 X dX7_readSum_54 rfl (by decide) (fun h54 => ?_) (fun h54 => ?_)
          · refine at_bipush 64 X (by decide) (by decide) dX7_readSum_62 rfl ?_
            refine at_callV 67 X _ 10 (c10_takeSign hG G4 B n (goT B n s.1) hT_G4 45 (by decide)) clX10 rfl k_1 mo_X10_takeSign w_1150 vo_X10_takeSign.1 vo_X10_takeSign.2 rfl rfl (crm Rt ⟨by omega, by omega, by omega, by omega⟩) (Nat.le_of_ble_eq_true rfl) dX7_readSum_64 rfl ?_
            rintro _ _ ⟨rfl, G5, rfl, hT_G5, hf_G5⟩
            rw [tsT_go] at hT_G5
            have hL_G5 : CL G5 8 s.2 ∧ s.2.1 ≤ 150 := ⟨hL_G4.1.fr (fun q a b => hf_G5.1 q (by omega)), hL_G4.2⟩
            have hd_G5 : DR 8 11 E G5 := hd_G4.tr hf_G5.dr
            refine at_aload_n 68 X rfl rfl dX7_readSum_67 rfl ?_
            refine at_aload_n 69 X rfl rfl dX7_readSum_68 rfl ?_
            refine at_iload_n 70 X rfl rfl dX7_readSum_69 rfl ?_
            refine at_callV 73 X _ 7 (hU G5 (tsT B n s.1 45) s.2 hT_G5 hL_G5) clX7 rfl k_8 mo_X7_readProduct w_1120 vo_X7_readProduct.1 vo_X7_readProduct.2 rfl rfl (crm Rt ⟨by omega, by omega, by omega, by omega⟩) (Nat.le_of_ble_eq_true rfl) dX7_readSum_70 rfl ?_
            rintro _ _ ⟨rfl, G6, rfl, hP_G6⟩
            have hT_G6 := hP_G6.1
            have hL_G6 := hP_G6.2.1
            have hd_G6 : DR 8 11 E G6 := hd_G5.tr hP_G6.2.2
            refine at_aload_n 74 X rfl rfl dX7_readSum_73 rfl ?_
            refine at_iload 76 X rfl dX7_readSum_74 rfl ?_
            refine at_iconst 77 X (by decide) dX7_readSum_76 rfl ?_
            refine at_callV 80 X _ 7 (c7_add hG G6 ((U (tsT B n s.1 45, s.2)).2) hL_G6 6 0) clX7 rfl k_8 mo_X7_add w_199 vo_X7_add.1 vo_X7_add.2 rfl rfl (crm Rt ⟨by omega, by omega, by omega, by omega⟩) (Nat.le_of_ble_eq_true rfl) dX7_readSum_77 rfl ?_
            rintro _ _ ⟨rfl, G7, rfl, hL_G7, hr_G7⟩
            have hT_G7 : TP G7 B n ((U (tsT B n s.1 45, s.2)).1) := hT_G6.fr (hr_G7 1 (by omega)) (hr_G7 2 (by omega))
            have hd_G7 : DR 8 11 E G7 := hd_G6.tr ⟨fun q a b => hr_G7 q b, fun k hk => congrFun (hr_G7 1 (by omega)) k⟩
            refine at_iincV 83 X ((i + 1 : Nat) : Int) (w32_v (by omega) (by omega) (by omega)) rfl dX7_readSum_80 rfl (by decide) ?_
            refine at_goto 8 X dX7_readSum_83 (by decide) ?_
            exact at_sub _ (by exact ⟨rfl, rfl, rfl, rfl, trivial⟩) (ih8 G7 (i + 1) ((U (tsT B n s.1 45, s.2)).1, addW ((U (tsT B n s.1 45, s.2)).2) 6 0) (by first | omega | (simp only [] at *; omega)) (by first | omega | assumption) hT_G7 hL_G7 hd_G7 (by rw [show 150 - (i + 1) = 149 - i by omega, ← hs, show 150 - i = (149 - i) + 1 by omega]; first | rw [lpW_y1 h1g] | rw [lpW_y2 h1n h2g]))
          · exact absurd h54 (by decide)
        · have h39 : ((goT B n s.1).2.2.1 = 0 ∧ isA B n (sk B n (goT B n s.1).1) 43 43) := ite_yes.mp h39
          have h1g : tst B n s.1 43 := tst_go.mp h39
          refine at_iconst 43 X (by decide) dX7_readSum_42 rfl ?_
          refine at_goto 48 X dX7_readSum_43 (by decide) ?_
          refine at_istore 50 X dX7_readSum_48 rfl (by decide) ?_
          refine at_aload_n 51 X rfl rfl dX7_readSum_50 rfl ?_
          refine at_iload 53 X rfl dX7_readSum_51 rfl ?_
          refine at_iconst 54 X (by decide) dX7_readSum_53 rfl ?_
          refine at_icmp_ne 57 62 X dX7_readSum_54 rfl (by decide) (fun h54 => ?_) (fun h54 => ?_)
          · exact absurd h54 (by decide)
          · refine at_bipush 59 X (by decide) (by decide) dX7_readSum_57 rfl ?_
            refine at_goto 64 X dX7_readSum_59 (by decide) ?_
            refine at_callV 67 X _ 10 (c10_takeSign hG G4 B n (goT B n s.1) hT_G4 43 (by decide)) clX10 rfl k_1 mo_X10_takeSign w_1150 vo_X10_takeSign.1 vo_X10_takeSign.2 rfl rfl (crm Rt ⟨by omega, by omega, by omega, by omega⟩) (Nat.le_of_ble_eq_true rfl) dX7_readSum_64 rfl ?_
            rintro _ _ ⟨rfl, G5, rfl, hT_G5, hf_G5⟩
            rw [tsT_go] at hT_G5
            have hL_G5 : CL G5 8 s.2 ∧ s.2.1 ≤ 150 := ⟨hL_G4.1.fr (fun q a b => hf_G5.1 q (by omega)), hL_G4.2⟩
            have hd_G5 : DR 8 11 E G5 := hd_G4.tr hf_G5.dr
            refine at_aload_n 68 X rfl rfl dX7_readSum_67 rfl ?_
            refine at_aload_n 69 X rfl rfl dX7_readSum_68 rfl ?_
            refine at_iload_n 70 X rfl rfl dX7_readSum_69 rfl ?_
            refine at_callV 73 X _ 7 (hU G5 (tsT B n s.1 43) s.2 hT_G5 hL_G5) clX7 rfl k_8 mo_X7_readProduct w_1120 vo_X7_readProduct.1 vo_X7_readProduct.2 rfl rfl (crm Rt ⟨by omega, by omega, by omega, by omega⟩) (Nat.le_of_ble_eq_true rfl) dX7_readSum_70 rfl ?_
            rintro _ _ ⟨rfl, G6, rfl, hP_G6⟩
            have hT_G6 := hP_G6.1
            have hL_G6 := hP_G6.2.1
            have hd_G6 : DR 8 11 E G6 := hd_G5.tr hP_G6.2.2
            refine at_aload_n 74 X rfl rfl dX7_readSum_73 rfl ?_
            refine at_iload 76 X rfl dX7_readSum_74 rfl ?_
            refine at_iconst 77 X (by decide) dX7_readSum_76 rfl ?_
            refine at_callV 80 X _ 7 (c7_add hG G6 ((U (tsT B n s.1 43, s.2)).2) hL_G6 5 0) clX7 rfl k_8 mo_X7_add w_199 vo_X7_add.1 vo_X7_add.2 rfl rfl (crm Rt ⟨by omega, by omega, by omega, by omega⟩) (Nat.le_of_ble_eq_true rfl) dX7_readSum_77 rfl ?_
            rintro _ _ ⟨rfl, G7, rfl, hL_G7, hr_G7⟩
            have hT_G7 : TP G7 B n ((U (tsT B n s.1 43, s.2)).1) := hT_G6.fr (hr_G7 1 (by omega)) (hr_G7 2 (by omega))
            have hd_G7 : DR 8 11 E G7 := hd_G6.tr ⟨fun q a b => hr_G7 q b, fun k hk => congrFun (hr_G7 1 (by omega)) k⟩
            refine at_iincV 83 X ((i + 1 : Nat) : Int) (w32_v (by omega) (by omega) (by omega)) rfl dX7_readSum_80 rfl (by decide) ?_
            refine at_goto 8 X dX7_readSum_83 (by decide) ?_
            exact at_sub _ (by exact ⟨rfl, rfl, rfl, rfl, trivial⟩) (ih8 G7 (i + 1) ((U (tsT B n s.1 43, s.2)).1, addW ((U (tsT B n s.1 43, s.2)).2) 5 0) (by first | omega | (simp only [] at *; omega)) (by first | omega | assumption) hT_G7 hL_G7 hd_G7 (by rw [show 150 - (i + 1) = 149 - i by omega, ← hs, show 150 - i = (149 - i) + 1 by omega]; first | rw [lpW_y1 h1g] | rw [lpW_y2 h1n h2g]))
      refine at_aload_n 16 X rfl rfl dX7_readSum_15 rfl ?_
      refine at_bipush 18 X (by decide) (by decide) dX7_readSum_16 rfl ?_
      refine at_callV 21 X _ 10 (c10_sees hG F B n s.1 hT_F 43 (by decide)) clX10 rfl k_1 mo_X10_sees w_1134 vo_X10_sees.1 vo_X10_sees.2 rfl rfl (crm Rt ⟨by omega, by omega, by omega, by omega⟩) (Nat.le_of_ble_eq_true rfl) dX7_readSum_18 rfl ?_
      rintro _ _ ⟨rfl, G1, rfl, hT_G1, hf_G1⟩
      have hL_G1 : CL G1 8 s.2 ∧ s.2.1 ≤ 150 := ⟨hL_F.1.fr (fun q a b => hf_G1.1 q (by omega)), hL_F.2⟩
      have hd_G1 : DR 8 11 E G1 := hd_F.tr hf_G1.dr
      refine at_if_ne 24 33 X dX7_readSum_21 rfl (by decide) (fun h21 => ?_) (fun h21 => ?_)
      · have h21 : ((s.1).2.2.1 = 0 ∧ isA B n (sk B n (s.1).1) 43 43) := ite_yes.mp h21
        exact at_sub _ (by exact ⟨rfl, rfl, rfl, rfl, trivial⟩) (J33 G1 hT_G1 hL_G1 hd_G1 (Or.inl h21))
      · have h21 : ¬ ((s.1).2.2.1 = 0 ∧ isA B n (sk B n (s.1).1) 43 43) := ite_no.mp h21
        refine at_aload_n 25 X rfl rfl dX7_readSum_24 rfl ?_
        refine at_bipush 27 X (by decide) (by decide) dX7_readSum_25 rfl ?_
        refine at_callV 30 X _ 10 (c10_sees hG G1 B n (goT B n s.1) hT_G1 45 (by decide)) clX10 rfl k_1 mo_X10_sees w_1134 vo_X10_sees.1 vo_X10_sees.2 rfl rfl (crm Rt ⟨by omega, by omega, by omega, by omega⟩) (Nat.le_of_ble_eq_true rfl) dX7_readSum_27 rfl ?_
        rintro _ _ ⟨rfl, G2, rfl, hT_G2, hf_G2⟩
        rw [goT_go] at hT_G2
        have hL_G2 : CL G2 8 s.2 ∧ s.2.1 ≤ 150 := ⟨hL_G1.1.fr (fun q a b => hf_G2.1 q (by omega)), hL_G1.2⟩
        have hd_G2 : DR 8 11 E G2 := hd_G1.tr hf_G2.dr
        refine at_if_eq 33 86 X dX7_readSum_30 rfl (by decide) (fun h30 => ?_) (fun h30 => ?_)
        · have h30 : ¬ ((goT B n s.1).2.2.1 = 0 ∧ isA B n (sk B n (goT B n s.1).1) 45 45) := ite_no.mp h30
          refine at_vret X Rt ?_ (Nat.le_refl _) (Nat.le_refl _) dX7_readSum_86
          have e : (goT B n s.1, s.2) = lpW B n U 43 5 45 6 150 (U (t, L)) := by rw [← hs, show 150 - i = (149 - i) + 1 by omega, lpW_no h21 (fun q => h30 (tst_go.mpr q))]
          exact ⟨rfl, G2, rfl, by rw [← e]; exact ⟨hT_G2, hL_G2, hd_G2⟩⟩
        · have h30 : ((goT B n s.1).2.2.1 = 0 ∧ isA B n (sk B n (goT B n s.1).1) 45 45) := ite_yes.mp h30
          exact at_sub _ (by exact ⟨rfl, rfl, rfl, rfl, trivial⟩) (J33 G2 hT_G2 hL_G2 hd_G2 (Or.inr ⟨h21, tst_go.mp h30⟩))
  exact at_sub _ (by exact ⟨rfl, rfl, rfl, rfl, trivial⟩) (J8 _ F0 0 (U (t, L)) (Nat.lt_succ_self _) (by first | omega | assumption | rfl) hT_F0 hL_F0 hd_F0 rfl)
theorem dX7_readUnit_0 : decode cX7_readUnit 0 = .ok (.aload_n 1, 1) := by decide +kernel
theorem dX7_readUnit_1 : decode cX7_readUnit 1 = .ok (.invokevirtual 66, 3) := by decide +kernel
theorem dX7_readUnit_4 : decode cX7_readUnit 4 = .ok (.ifCond .eq 4, 3) := by decide +kernel
theorem dX7_readUnit_7 : decode cX7_readUnit 7 = .ok (.return_, 1) := by decide +kernel
theorem dX7_readUnit_8 : decode cX7_readUnit 8 = .ok (.aload_n 1, 1) := by decide +kernel
theorem dX7_readUnit_9 : decode cX7_readUnit 9 = .ok (.invokevirtual 69, 3) := by decide +kernel
theorem dX7_readUnit_12 : decode cX7_readUnit 12 = .ok (.ifCond .eq 17, 3) := by decide +kernel
theorem dX7_readUnit_15 : decode cX7_readUnit 15 = .ok (.aload_n 0, 1) := by decide +kernel
theorem dX7_readUnit_16 : decode cX7_readUnit 16 = .ok (.iconst 0, 1) := by decide +kernel
theorem dX7_readUnit_17 : decode cX7_readUnit 17 = .ok (.aload_n 1, 1) := by decide +kernel
theorem dX7_readUnit_18 : decode cX7_readUnit 18 = .ok (.iconst 0, 1) := by decide +kernel
theorem dX7_readUnit_19 : decode cX7_readUnit 19 = .ok (.sipush 999, 3) := by decide +kernel
theorem dX7_readUnit_22 : decode cX7_readUnit 22 = .ok (.invokevirtual 72, 3) := by decide +kernel
theorem dX7_readUnit_25 : decode cX7_readUnit 25 = .ok (.invokevirtual 28, 3) := by decide +kernel
theorem dX7_readUnit_28 : decode cX7_readUnit 28 = .ok (.return_, 1) := by decide +kernel
theorem dX7_readUnit_29 : decode cX7_readUnit 29 = .ok (.aload_n 1, 1) := by decide +kernel
theorem dX7_readUnit_30 : decode cX7_readUnit 30 = .ok (.bipush 40, 2) := by decide +kernel
theorem dX7_readUnit_32 : decode cX7_readUnit 32 = .ok (.invokevirtual 55, 3) := by decide +kernel
theorem dX7_readUnit_35 : decode cX7_readUnit 35 = .ok (.istore_n 3, 1) := by decide +kernel
theorem dX7_readUnit_36 : decode cX7_readUnit 36 = .ok (.iconst 0, 1) := by decide +kernel
theorem dX7_readUnit_37 : decode cX7_readUnit 37 = .ok (.istore 4, 2) := by decide +kernel
theorem dX7_readUnit_39 : decode cX7_readUnit 39 = .ok (.iload_n 3, 1) := by decide +kernel
theorem dX7_readUnit_40 : decode cX7_readUnit 40 = .ok (.ifCond .ne 13, 3) := by decide +kernel
theorem dX7_readUnit_43 : decode cX7_readUnit 43 = .ok (.aload_n 1, 1) := by decide +kernel
theorem dX7_readUnit_44 : decode cX7_readUnit 44 = .ok (.invokevirtual 76, 3) := by decide +kernel
theorem dX7_readUnit_47 : decode cX7_readUnit 47 = .ok (.aload_n 1, 1) := by decide +kernel
theorem dX7_readUnit_48 : decode cX7_readUnit 48 = .ok (.invokestatic 79, 3) := by decide +kernel
theorem dX7_readUnit_51 : decode cX7_readUnit 51 = .ok (.istore 4, 2) := by decide +kernel
theorem dX7_readUnit_53 : decode cX7_readUnit 53 = .ok (.iload 4, 2) := by decide +kernel
theorem dX7_readUnit_55 : decode cX7_readUnit 55 = .ok (.bipush 11, 2) := by decide +kernel
theorem dX7_readUnit_57 : decode cX7_readUnit 57 = .ok (.if_icmp .ne 11, 3) := by decide +kernel
theorem dX7_readUnit_60 : decode cX7_readUnit 60 = .ok (.aload_n 1, 1) := by decide +kernel
theorem dX7_readUnit_61 : decode cX7_readUnit 61 = .ok (.iconst 1, 1) := by decide +kernel
theorem dX7_readUnit_62 : decode cX7_readUnit 62 = .ok (.invokevirtual 48, 3) := by decide +kernel
theorem dX7_readUnit_65 : decode cX7_readUnit 65 = .ok (.goto 82, 3) := by decide +kernel
theorem dX7_readUnit_68 : decode cX7_readUnit 68 = .ok (.iload_n 3, 1) := by decide +kernel
theorem dX7_readUnit_69 : decode cX7_readUnit 69 = .ok (.ifCond .ne 10, 3) := by decide +kernel
theorem dX7_readUnit_72 : decode cX7_readUnit 72 = .ok (.iload 4, 2) := by decide +kernel
theorem dX7_readUnit_74 : decode cX7_readUnit 74 = .ok (.bipush 9, 2) := by decide +kernel
theorem dX7_readUnit_76 : decode cX7_readUnit 76 = .ok (.if_icmp .lt 71, 3) := by decide +kernel
theorem dX7_readUnit_79 : decode cX7_readUnit 79 = .ok (.iload_n 2, 1) := by decide +kernel
theorem dX7_readUnit_80 : decode cX7_readUnit 80 = .ok (.bipush 6, 2) := by decide +kernel
theorem dX7_readUnit_82 : decode cX7_readUnit 82 = .ok (.if_icmp .lt 9, 3) := by decide +kernel
theorem dX7_readUnit_85 : decode cX7_readUnit 85 = .ok (.aload_n 1, 1) := by decide +kernel
theorem dX7_readUnit_86 : decode cX7_readUnit 86 = .ok (.iconst 3, 1) := by decide +kernel
theorem dX7_readUnit_87 : decode cX7_readUnit 87 = .ok (.invokevirtual 48, 3) := by decide +kernel
theorem dX7_readUnit_90 : decode cX7_readUnit 90 = .ok (.return_, 1) := by decide +kernel
theorem dX7_readUnit_91 : decode cX7_readUnit 91 = .ok (.aload_n 1, 1) := by decide +kernel
theorem dX7_readUnit_92 : decode cX7_readUnit 92 = .ok (.iload_n 3, 1) := by decide +kernel
theorem dX7_readUnit_93 : decode cX7_readUnit 93 = .ok (.ifCond .eq 8, 3) := by decide +kernel
theorem dX7_readUnit_96 : decode cX7_readUnit 96 = .ok (.bipush 40, 2) := by decide +kernel
theorem dX7_readUnit_98 : decode cX7_readUnit 98 = .ok (.goto 5, 3) := by decide +kernel
theorem dX7_readUnit_101 : decode cX7_readUnit 101 = .ok (.bipush 91, 2) := by decide +kernel
theorem dX7_readUnit_103 : decode cX7_readUnit 103 = .ok (.invokevirtual 59, 3) := by decide +kernel
theorem dX7_readUnit_106 : decode cX7_readUnit 106 = .ok (.aload_n 0, 1) := by decide +kernel
theorem dX7_readUnit_107 : decode cX7_readUnit 107 = .ok (.aload_n 1, 1) := by decide +kernel
theorem dX7_readUnit_108 : decode cX7_readUnit 108 = .ok (.iload_n 2, 1) := by decide +kernel
theorem dX7_readUnit_109 : decode cX7_readUnit 109 = .ok (.iconst 1, 1) := by decide +kernel
theorem dX7_readUnit_110 : decode cX7_readUnit 110 = .ok (.iadd, 1) := by decide +kernel
theorem dX7_readUnit_111 : decode cX7_readUnit 111 = .ok (.invokevirtual 38, 3) := by decide +kernel
theorem dX7_readUnit_114 : decode cX7_readUnit 114 = .ok (.iload_n 3, 1) := by decide +kernel
theorem dX7_readUnit_115 : decode cX7_readUnit 115 = .ok (.ifCond .ne 17, 3) := by decide +kernel
theorem dX7_readUnit_118 : decode cX7_readUnit 118 = .ok (.aload_n 1, 1) := by decide +kernel
theorem dX7_readUnit_119 : decode cX7_readUnit 119 = .ok (.bipush 44, 2) := by decide +kernel
theorem dX7_readUnit_121 : decode cX7_readUnit 121 = .ok (.invokevirtual 59, 3) := by decide +kernel
theorem dX7_readUnit_124 : decode cX7_readUnit 124 = .ok (.aload_n 0, 1) := by decide +kernel
theorem dX7_readUnit_125 : decode cX7_readUnit 125 = .ok (.aload_n 1, 1) := by decide +kernel
theorem dX7_readUnit_126 : decode cX7_readUnit 126 = .ok (.iload_n 2, 1) := by decide +kernel
theorem dX7_readUnit_127 : decode cX7_readUnit 127 = .ok (.iconst 1, 1) := by decide +kernel
theorem dX7_readUnit_128 : decode cX7_readUnit 128 = .ok (.iadd, 1) := by decide +kernel
theorem dX7_readUnit_129 : decode cX7_readUnit 129 = .ok (.invokevirtual 38, 3) := by decide +kernel
theorem dX7_readUnit_132 : decode cX7_readUnit 132 = .ok (.aload_n 1, 1) := by decide +kernel
theorem dX7_readUnit_133 : decode cX7_readUnit 133 = .ok (.iload_n 3, 1) := by decide +kernel
theorem dX7_readUnit_134 : decode cX7_readUnit 134 = .ok (.ifCond .eq 8, 3) := by decide +kernel
theorem dX7_readUnit_137 : decode cX7_readUnit 137 = .ok (.bipush 41, 2) := by decide +kernel
theorem dX7_readUnit_139 : decode cX7_readUnit 139 = .ok (.goto 5, 3) := by decide +kernel
theorem dX7_readUnit_142 : decode cX7_readUnit 142 = .ok (.bipush 93, 2) := by decide +kernel
theorem dX7_readUnit_144 : decode cX7_readUnit 144 = .ok (.invokevirtual 59, 3) := by decide +kernel
theorem dX7_readUnit_147 : decode cX7_readUnit 147 = .ok (.iload_n 3, 1) := by decide +kernel
theorem dX7_readUnit_148 : decode cX7_readUnit 148 = .ok (.ifCond .ne 10, 3) := by decide +kernel
theorem dX7_readUnit_151 : decode cX7_readUnit 151 = .ok (.aload_n 0, 1) := by decide +kernel
theorem dX7_readUnit_152 : decode cX7_readUnit 152 = .ok (.iload 4, 2) := by decide +kernel
theorem dX7_readUnit_154 : decode cX7_readUnit 154 = .ok (.iconst 0, 1) := by decide +kernel
theorem dX7_readUnit_155 : decode cX7_readUnit 155 = .ok (.invokevirtual 28, 3) := by decide +kernel
theorem dX7_readUnit_158 : decode cX7_readUnit 158 = .ok (.return_, 1) := by decide +kernel
theorem c7_unit0 {g : Gw} (hG : GF g) {z : Bool} (B : Nat → Int) (n : Nat) (E : Mm) (t : TS) (L : LW) (hT_E : TP E B n t) (hL_E : CL E 8 L ∧ L.1 ≤ 150) : CT g yX7_readUnit cX7_readUnit 5 none 6 127 0 0 K2 z [mR 8, mR 1, mI 6] (ov E) K2 z (fun r D' => r = none ∧ ∃ E1, D' = ov E1 ∧ LPo B n E E1 (unF B n true id (t, L))) := by
  refine CT.mk hG (by decide +kernel) (Nat.le_of_ble_eq_true rfl) (fun κ X Rt _ ok => ?_)
  have hd_E : DR 8 11 E E := DR.rf
  refine at_aload_n 1 X rfl rfl dX7_readUnit_0 rfl ?_
  refine at_callV 4 X _ 10 (c10_failed hG E B n t hT_E) clX10 rfl k_1 mo_X10_failed w_1128 vo_X10_failed.1 vo_X10_failed.2 rfl rfl (crm Rt ⟨by omega, by omega, by omega, by omega⟩) (Nat.le_of_ble_eq_true rfl) dX7_readUnit_1 rfl ?_
  rintro _ _ ⟨rfl, rfl⟩
  refine at_if_eq 7 8 X dX7_readUnit_4 rfl (by decide) (fun h4 => ?_) (fun h4 => ?_)
  · have h0 : t.2.2.1 = 0 := Decidable.byContradiction (fun q => by rw [if_neg q] at h4; exact absurd h4 (by decide))
    refine at_aload_n 9 X rfl rfl dX7_readUnit_8 rfl ?_
    refine at_callV 12 X _ 10 (c10_seesDigit hG E B n t hT_E) clX10 rfl k_1 mo_X10_seesDigit w_1129 vo_X10_seesDigit.1 vo_X10_seesDigit.2 rfl rfl (crm Rt ⟨by omega, by omega, by omega, by omega⟩) (Nat.le_of_ble_eq_true rfl) dX7_readUnit_9 rfl ?_
    rintro _ _ ⟨rfl, G1, rfl, hT_G1, hf_G1⟩
    have hL_G1 : CL G1 8 L ∧ L.1 ≤ 150 := ⟨hL_E.1.fr (fun q a b => hf_G1.1 q (by omega)), hL_E.2⟩
    have hd_G1 : DR 8 11 E G1 := hd_E.tr hf_G1.dr
    refine at_if_eq 15 29 X dX7_readUnit_12 rfl (by decide) (fun h12 => ?_) (fun h12 => ?_)
    · have h12 : ¬ (t.2.2.1 = 0 ∧ isA B n (sk B n t.1) 48 57) := ite_no.mp h12
      have hd1 : ¬ isA B n (sk B n t.1) 48 57 := fun q => h12 ⟨h0, q⟩
      refine at_aload_n 30 X rfl rfl dX7_readUnit_29 rfl ?_
      refine at_bipush 32 X (by decide) (by decide) dX7_readUnit_30 rfl ?_
      refine at_callV 35 X _ 10 (c10_sees hG G1 B n (goT B n t) hT_G1 40 (by decide)) clX10 rfl k_1 mo_X10_sees w_1134 vo_X10_sees.1 vo_X10_sees.2 rfl rfl (crm Rt ⟨by omega, by omega, by omega, by omega⟩) (Nat.le_of_ble_eq_true rfl) dX7_readUnit_32 rfl ?_
      rintro _ _ ⟨rfl, G2, rfl, hT_G2, hf_G2⟩
      rw [goT_go] at hT_G2
      have hL_G2 : CL G2 8 L ∧ L.1 ≤ 150 := ⟨hL_G1.1.fr (fun q a b => hf_G2.1 q (by omega)), hL_G1.2⟩
      have hd_G2 : DR 8 11 E G2 := hd_G1.tr hf_G2.dr
      refine at_istore_n 36 X rfl dX7_readUnit_35 rfl (by decide) ?_
      by_cases hb : tst B n t 40
      · have hb2 := hb.2
        rw [show (if (goT B n t).2.2.1 = 0 ∧ isA B n (sk B n (goT B n t).1) 40 40 then (1 : Int) else 0) = 1 from if_pos (tst_go.mpr hb)]
        refine at_iconst 37 X (by decide) dX7_readUnit_36 rfl ?_
        refine at_istore 39 X dX7_readUnit_37 rfl (by decide) ?_
        refine at_iload_n 40 X rfl rfl dX7_readUnit_39 rfl ?_
        refine at_if_ne 43 53 X dX7_readUnit_40 rfl (by decide) (fun h40 => ?_) (fun h40 => ?_)
        · refine at_iload 55 X rfl dX7_readUnit_53 rfl ?_
          refine at_bipush 57 X (by decide) (by decide) dX7_readUnit_55 rfl ?_
          refine at_icmp_ne 60 68 X dX7_readUnit_57 rfl (by decide) (fun h57 => ?_) (fun h57 => ?_)
          · refine at_iload_n 69 X rfl rfl dX7_readUnit_68 rfl ?_
            refine at_if_ne 72 79 X dX7_readUnit_69 rfl (by decide) (fun h69 => ?_) (fun h69 => ?_)
            · refine at_iload_n 80 X rfl rfl dX7_readUnit_79 rfl ?_
              refine at_bipush 82 X (by decide) (by decide) dX7_readUnit_80 rfl ?_
              refine at_icmp_lt 85 91 X dX7_readUnit_82 rfl (by decide) (fun h82 => ?_) (fun h82 => ?_)
              · exact absurd h82 (by decide)
              · refine at_aload_n 86 X rfl rfl dX7_readUnit_85 rfl ?_
                refine at_iconst 87 X (by decide) dX7_readUnit_86 rfl ?_
                refine at_callV 90 X _ 10 (c10_fail hG G2 B n (goT B n t) hT_G2 3) clX10 rfl k_1 mo_X10_fail w_1149 vo_X10_fail.1 vo_X10_fail.2 rfl rfl (crm Rt ⟨by omega, by omega, by omega, by omega⟩) (Nat.le_of_ble_eq_true rfl) dX7_readUnit_87 rfl ?_
                rintro _ _ ⟨rfl, G4, rfl, hT_G4, hf_G4⟩
                have hL_G4 : CL G4 8 L ∧ L.1 ≤ 150 := ⟨hL_G2.1.fr (fun q a b => hf_G4.1 q (by omega)), hL_G2.2⟩
                have hd_G4 : DR 8 11 E G4 := hd_G2.tr hf_G4.dr
                refine at_vret X Rt ?_ (Nat.le_refl _) (Nat.le_refl _) dX7_readUnit_90
                have e : unF B n true id (t, L) = _ := unF_brz h0 hd1 hb2
                exact ⟨rfl, G4, rfl, by rw [e]; exact ⟨hT_G4, hL_G4, hd_G4⟩⟩
            · exact absurd h69 (by decide)
          · exact absurd h57 (by decide)
        · exact absurd h40 (by decide)
      · have hb2 : ¬ isA B n (sk B n t.1) 40 40 := fun q => hb ⟨h0, q⟩
        rw [show (if (goT B n t).2.2.1 = 0 ∧ isA B n (sk B n (goT B n t).1) 40 40 then (1 : Int) else 0) = 0 from if_neg (fun q => hb (tst_go.mp q))]
        refine at_iconst 37 X (by decide) dX7_readUnit_36 rfl ?_
        refine at_istore 39 X dX7_readUnit_37 rfl (by decide) ?_
        refine at_iload_n 40 X rfl rfl dX7_readUnit_39 rfl ?_
        refine at_if_ne 43 53 X dX7_readUnit_40 rfl (by decide) (fun h40 => ?_) (fun h40 => ?_)
        · exact absurd h40 (by decide)
        · refine at_aload_n 44 X rfl rfl dX7_readUnit_43 rfl ?_
          refine at_callV 47 X _ 10 (c10_takeWord hG G2 B n (goT B n t) hT_G2) clX10 rfl k_1 mo_X10_takeWord w_1138 vo_X10_takeWord.1 vo_X10_takeWord.2 rfl rfl (crm Rt ⟨by omega, by omega, by omega, by omega⟩) (Nat.le_of_ble_eq_true rfl) dX7_readUnit_44 rfl ?_
          rintro _ _ ⟨rfl, G3, rfl, hT_G3, hf_G3⟩
          rw [twT_go] at hT_G3
          have hL_G3 : CL G3 8 L ∧ L.1 ≤ 150 := ⟨hL_G2.1.fr (fun q a b => hf_G3.1 q (by omega)), hL_G2.2⟩
          have hd_G3 : DR 8 11 E G3 := hd_G2.tr hf_G3.dr
          refine at_aload_n 48 X rfl rfl dX7_readUnit_47 rfl ?_
          refine at_callS 51 X (ct_X7_wordOf hG G3 B n (twT B n t) hT_G3) mo_X7_wordOf w_1139 so_X7_wordOf rfl rfl (crm Rt ⟨by omega, by omega, by omega, by omega⟩) (Nat.le_of_ble_eq_true rfl) dX7_readUnit_48 rfl ?_
          rintro _ _ ⟨rfl, rfl⟩
          have hwi := woW_in B (twT B n t)
          refine at_istore 53 X dX7_readUnit_51 rfl (by decide) ?_
          refine at_iload 55 X rfl dX7_readUnit_53 rfl ?_
          refine at_bipush 57 X (by decide) (by decide) dX7_readUnit_55 rfl ?_
          refine at_icmp_ne 60 68 X dX7_readUnit_57 rfl (by decide) (fun h57 => ?_) (fun h57 => ?_)
          · refine at_iload_n 69 X rfl rfl dX7_readUnit_68 rfl ?_
            refine at_if_ne 72 79 X dX7_readUnit_69 rfl (by decide) (fun h69 => ?_) (fun h69 => ?_)
            · exact absurd h69 (by decide)
            · refine at_iload 74 X rfl dX7_readUnit_72 rfl ?_
              refine at_bipush 76 X (by decide) (by decide) dX7_readUnit_74 rfl ?_
              refine at_icmp_lt 79 147 X dX7_readUnit_76 rfl (by decide) (fun h76 => ?_) (fun h76 => ?_)
              · refine at_iload_n 148 X rfl rfl dX7_readUnit_147 rfl ?_
                refine at_if_ne 151 158 X dX7_readUnit_148 rfl (by decide) (fun h148 => ?_) (fun h148 => ?_)
                · exact absurd h148 (by decide)
                · refine at_aload_n 152 X rfl rfl dX7_readUnit_151 rfl ?_
                  refine at_iload 154 X rfl dX7_readUnit_152 rfl ?_
                  refine at_iconst 155 X (by decide) dX7_readUnit_154 rfl ?_
                  refine at_callV 158 X _ 7 (c7_add hG G3 L hL_G3 (woW B (twT B n t)) 0) clX7 rfl k_8 mo_X7_add w_199 vo_X7_add.1 vo_X7_add.2 rfl rfl (crm Rt ⟨by omega, by omega, by omega, by omega⟩) (Nat.le_of_ble_eq_true rfl) dX7_readUnit_155 rfl ?_
                  rintro _ _ ⟨rfl, G9, rfl, hL_G9, hr_G9⟩
                  have hT_G9 : TP G9 B n (twT B n t) := hT_G3.fr (hr_G9 1 (by omega)) (hr_G9 2 (by omega))
                  have hd_G9 : DR 8 11 E G9 := hd_G3.tr ⟨fun q a b => hr_G9 q b, fun k hk => congrFun (hr_G9 1 (by omega)) k⟩
                  refine at_vret X Rt ?_ (Nat.le_refl _) (Nat.le_refl _) dX7_readUnit_158
                  have e : unF B n true id (t, L) = _ := unF_wd h0 hd1 hb2 h57 (by omega)
                  exact ⟨rfl, G9, rfl, by rw [e]; exact ⟨hT_G9, hL_G9, hd_G9⟩⟩
              · refine at_iload_n 80 X rfl rfl dX7_readUnit_79 rfl ?_
                refine at_bipush 82 X (by decide) (by decide) dX7_readUnit_80 rfl ?_
                refine at_icmp_lt 85 91 X dX7_readUnit_82 rfl (by decide) (fun h82 => ?_) (fun h82 => ?_)
                · exact absurd h82 (by decide)
                · refine at_aload_n 86 X rfl rfl dX7_readUnit_85 rfl ?_
                  refine at_iconst 87 X (by decide) dX7_readUnit_86 rfl ?_
                  refine at_callV 90 X _ 10 (c10_fail hG G3 B n (twT B n t) hT_G3 3) clX10 rfl k_1 mo_X10_fail w_1149 vo_X10_fail.1 vo_X10_fail.2 rfl rfl (crm Rt ⟨by omega, by omega, by omega, by omega⟩) (Nat.le_of_ble_eq_true rfl) dX7_readUnit_87 rfl ?_
                  rintro _ _ ⟨rfl, G4, rfl, hT_G4, hf_G4⟩
                  have hL_G4 : CL G4 8 L ∧ L.1 ≤ 150 := ⟨hL_G3.1.fr (fun q a b => hf_G4.1 q (by omega)), hL_G3.2⟩
                  have hd_G4 : DR 8 11 E G4 := hd_G3.tr hf_G4.dr
                  refine at_vret X Rt ?_ (Nat.le_refl _) (Nat.le_refl _) dX7_readUnit_90
                  have e : unF B n true id (t, L) = _ := unF_w3z h0 hd1 hb2 h57 (by omega)
                  exact ⟨rfl, G4, rfl, by rw [e]; exact ⟨hT_G4, hL_G4, hd_G4⟩⟩
          · refine at_aload_n 61 X rfl rfl dX7_readUnit_60 rfl ?_
            refine at_iconst 62 X (by decide) dX7_readUnit_61 rfl ?_
            refine at_callV 65 X _ 10 (c10_fail hG G3 B n (twT B n t) hT_G3 1) clX10 rfl k_1 mo_X10_fail w_1149 vo_X10_fail.1 vo_X10_fail.2 rfl rfl (crm Rt ⟨by omega, by omega, by omega, by omega⟩) (Nat.le_of_ble_eq_true rfl) dX7_readUnit_62 rfl ?_
            rintro _ _ ⟨rfl, G4, rfl, hT_G4, hf_G4⟩
            have hL_G4 : CL G4 8 L ∧ L.1 ≤ 150 := ⟨hL_G3.1.fr (fun q a b => hf_G4.1 q (by omega)), hL_G3.2⟩
            have hd_G4 : DR 8 11 E G4 := hd_G3.tr hf_G4.dr
            refine at_goto 147 X dX7_readUnit_65 (by decide) ?_
            refine at_iload_n 148 X rfl rfl dX7_readUnit_147 rfl ?_
            refine at_if_ne 151 158 X dX7_readUnit_148 rfl (by decide) (fun h148 => ?_) (fun h148 => ?_)
            · exact absurd h148 (by decide)
            · refine at_aload_n 152 X rfl rfl dX7_readUnit_151 rfl ?_
              refine at_iload 154 X rfl dX7_readUnit_152 rfl ?_
              refine at_iconst 155 X (by decide) dX7_readUnit_154 rfl ?_
              refine at_callV 158 X _ 7 (c7_add hG G4 L hL_G4 (woW B (twT B n t)) 0) clX7 rfl k_8 mo_X7_add w_199 vo_X7_add.1 vo_X7_add.2 rfl rfl (crm Rt ⟨by omega, by omega, by omega, by omega⟩) (Nat.le_of_ble_eq_true rfl) dX7_readUnit_155 rfl ?_
              rintro _ _ ⟨rfl, G9, rfl, hL_G9, hr_G9⟩
              have hT_G9 : TP G9 B n (flT (twT B n t) 1) := hT_G4.fr (hr_G9 1 (by omega)) (hr_G9 2 (by omega))
              have hd_G9 : DR 8 11 E G9 := hd_G4.tr ⟨fun q a b => hr_G9 q b, fun k hk => congrFun (hr_G9 1 (by omega)) k⟩
              refine at_vret X Rt ?_ (Nat.le_refl _) (Nat.le_refl _) dX7_readUnit_158
              rw [h57] at hL_G9
              have e : unF B n true id (t, L) = _ := unF_unk h0 hd1 hb2 h57
              exact ⟨rfl, G9, rfl, by rw [e]; exact ⟨hT_G9, hL_G9, hd_G9⟩⟩
    · have h12 : (t.2.2.1 = 0 ∧ isA B n (sk B n t.1) 48 57) := ite_yes.mp h12
      have hd1 := h12.2
      refine at_aload_n 16 X rfl rfl dX7_readUnit_15 rfl ?_
      refine at_iconst 17 X (by decide) dX7_readUnit_16 rfl ?_
      refine at_aload_n 18 X rfl rfl dX7_readUnit_17 rfl ?_
      refine at_iconst 19 X (by decide) dX7_readUnit_18 rfl ?_
      refine at_sipush 22 X (by decide) (by decide) dX7_readUnit_19 rfl ?_
      refine at_callV 25 X _ 10 (c10_num hG G1 B n (goT B n t) hT_G1 0 999 (by omega)) clX10 rfl k_1 mo_X10_takeNumber w_1133 vo_X10_takeNumber.1 vo_X10_takeNumber.2 rfl rfl (crm Rt ⟨by omega, by omega, by omega, by omega⟩) (Nat.le_of_ble_eq_true rfl) dX7_readUnit_22 rfl ?_
      rintro _ _ ⟨rfl, G3, rfl, hT_G3, hf_G3⟩
      rw [(nuT_go h0).2]
      rw [(nuT_go h0).1] at hT_G3
      have hL_G3 : CL G3 8 L ∧ L.1 ≤ 150 := ⟨hL_G1.1.fr (fun q a b => hf_G3.1 q (by omega)), hL_G1.2⟩
      have hd_G3 : DR 8 11 E G3 := hd_G1.tr hf_G3.dr
      refine at_callV 28 X _ 7 (c7_add hG G3 L hL_G3 0 ((nuV B n t 0 999 : Nat) : Int)) clX7 rfl k_8 mo_X7_add w_199 vo_X7_add.1 vo_X7_add.2 rfl rfl (crm Rt ⟨by omega, by omega, by omega, by omega⟩) (Nat.le_of_ble_eq_true rfl) dX7_readUnit_25 rfl ?_
      rintro _ _ ⟨rfl, G9, rfl, hL_G9, hr_G9⟩
      have hT_G9 : TP G9 B n (nuT B n t 0 999) := hT_G3.fr (hr_G9 1 (by omega)) (hr_G9 2 (by omega))
      have hd_G9 : DR 8 11 E G9 := hd_G3.tr ⟨fun q a b => hr_G9 q b, fun k hk => congrFun (hr_G9 1 (by omega)) k⟩
      refine at_vret X Rt ?_ (Nat.le_refl _) (Nat.le_refl _) dX7_readUnit_28
      have e : unF B n true id (t, L) = _ := unF_dig h0 hd1
      exact ⟨rfl, G9, rfl, by rw [e]; exact ⟨hT_G9, hL_G9, hd_G9⟩⟩
  · have h0 : ¬ t.2.2.1 = 0 := fun q => h4 (by rw [if_pos q])
    refine at_vret X Rt ?_ (Nat.le_refl _) (Nat.le_refl _) dX7_readUnit_7
    have e : unF B n true id (t, L) = _ := unF_bad h0
    exact ⟨rfl, E, rfl, by rw [e]; exact ⟨hT_E, hL_E, hd_E⟩⟩
theorem c7_unitS {g : Gw} (hG : GF g) {z : Bool} (B : Nat → Int) (n : Nat) (S : Lws → Lws) (fr lo : Nat) (hfr : 5 ≤ fr) (hlo : 107 ≤ lo) (op op1 : Int) (hop : -100 ≤ op ∧ op < 6) (hop1 : op + 1 = op1) (hS : ∀ (E : Mm) (t : TS) (L : LW), TP E B n t → (CL E 8 L ∧ L.1 ≤ 150) → CT g yX7_readSum cX7_readSum 5 none fr lo 0 0 K2 z [mR 8, mR 1, mI op1] (ov E) K2 z (fun r D' => r = none ∧ ∃ E1, D' = ov E1 ∧ LPo B n E E1 (S (t, L)))) (E : Mm) (t : TS) (L : LW) (hT_E : TP E B n t) (hL_E : CL E 8 L ∧ L.1 ≤ 150) : CT g yX7_readUnit cX7_readUnit 5 none (fr + 1) (lo + 24) 0 0 K2 z [mR 8, mR 1, mI op] (ov E) K2 z (fun r D' => r = none ∧ ∃ E1, D' = ov E1 ∧ LPo B n E E1 (unF B n false S (t, L))) := by
  refine CT.mk hG (by decide +kernel) (Nat.le_of_ble_eq_true rfl) (fun κ X Rt _ ok => ?_)
  have hd_E : DR 8 11 E E := DR.rf
  refine at_aload_n 1 X rfl rfl dX7_readUnit_0 rfl ?_
  refine at_callV 4 X _ 10 (c10_failed hG E B n t hT_E) clX10 rfl k_1 mo_X10_failed w_1128 vo_X10_failed.1 vo_X10_failed.2 rfl rfl (crm Rt ⟨by omega, by omega, by omega, by omega⟩) (Nat.le_of_ble_eq_true rfl) dX7_readUnit_1 rfl ?_
  rintro _ _ ⟨rfl, rfl⟩
  refine at_if_eq 7 8 X dX7_readUnit_4 rfl (by decide) (fun h4 => ?_) (fun h4 => ?_)
  · have h0 : t.2.2.1 = 0 := Decidable.byContradiction (fun q => by rw [if_neg q] at h4; exact absurd h4 (by decide))
    refine at_aload_n 9 X rfl rfl dX7_readUnit_8 rfl ?_
    refine at_callV 12 X _ 10 (c10_seesDigit hG E B n t hT_E) clX10 rfl k_1 mo_X10_seesDigit w_1129 vo_X10_seesDigit.1 vo_X10_seesDigit.2 rfl rfl (crm Rt ⟨by omega, by omega, by omega, by omega⟩) (Nat.le_of_ble_eq_true rfl) dX7_readUnit_9 rfl ?_
    rintro _ _ ⟨rfl, G1, rfl, hT_G1, hf_G1⟩
    have hL_G1 : CL G1 8 L ∧ L.1 ≤ 150 := ⟨hL_E.1.fr (fun q a b => hf_G1.1 q (by omega)), hL_E.2⟩
    have hd_G1 : DR 8 11 E G1 := hd_E.tr hf_G1.dr
    refine at_if_eq 15 29 X dX7_readUnit_12 rfl (by decide) (fun h12 => ?_) (fun h12 => ?_)
    · have h12 : ¬ (t.2.2.1 = 0 ∧ isA B n (sk B n t.1) 48 57) := ite_no.mp h12
      have hd1 : ¬ isA B n (sk B n t.1) 48 57 := fun q => h12 ⟨h0, q⟩
      refine at_aload_n 30 X rfl rfl dX7_readUnit_29 rfl ?_
      refine at_bipush 32 X (by decide) (by decide) dX7_readUnit_30 rfl ?_
      refine at_callV 35 X _ 10 (c10_sees hG G1 B n (goT B n t) hT_G1 40 (by decide)) clX10 rfl k_1 mo_X10_sees w_1134 vo_X10_sees.1 vo_X10_sees.2 rfl rfl (crm Rt ⟨by omega, by omega, by omega, by omega⟩) (Nat.le_of_ble_eq_true rfl) dX7_readUnit_32 rfl ?_
      rintro _ _ ⟨rfl, G2, rfl, hT_G2, hf_G2⟩
      rw [goT_go] at hT_G2
      have hL_G2 : CL G2 8 L ∧ L.1 ≤ 150 := ⟨hL_G1.1.fr (fun q a b => hf_G2.1 q (by omega)), hL_G1.2⟩
      have hd_G2 : DR 8 11 E G2 := hd_G1.tr hf_G2.dr
      refine at_istore_n 36 X rfl dX7_readUnit_35 rfl (by decide) ?_
      by_cases hb : tst B n t 40
      · have hb2 := hb.2
        rw [show (if (goT B n t).2.2.1 = 0 ∧ isA B n (sk B n (goT B n t).1) 40 40 then (1 : Int) else 0) = 1 from if_pos (tst_go.mpr hb)]
        refine at_iconst 37 X (by decide) dX7_readUnit_36 rfl ?_
        refine at_istore 39 X dX7_readUnit_37 rfl (by decide) ?_
        refine at_iload_n 40 X rfl rfl dX7_readUnit_39 rfl ?_
        refine at_if_ne 43 53 X dX7_readUnit_40 rfl (by decide) (fun h40 => ?_) (fun h40 => ?_)
        · refine at_iload 55 X rfl dX7_readUnit_53 rfl ?_
          refine at_bipush 57 X (by decide) (by decide) dX7_readUnit_55 rfl ?_
          refine at_icmp_ne 60 68 X dX7_readUnit_57 rfl (by decide) (fun h57 => ?_) (fun h57 => ?_)
          · refine at_iload_n 69 X rfl rfl dX7_readUnit_68 rfl ?_
            refine at_if_ne 72 79 X dX7_readUnit_69 rfl (by decide) (fun h69 => ?_) (fun h69 => ?_)
            · refine at_iload_n 80 X rfl rfl dX7_readUnit_79 rfl ?_
              refine at_bipush 82 X (by decide) (by decide) dX7_readUnit_80 rfl ?_
              refine at_icmp_lt 85 91 X dX7_readUnit_82 rfl (by decide) (fun h82 => ?_) (fun h82 => ?_)
              · refine at_aload_n 92 X rfl rfl dX7_readUnit_91 rfl ?_
                refine at_iload_n 93 X rfl rfl dX7_readUnit_92 rfl ?_
                refine at_if_eq 96 101 X dX7_readUnit_93 rfl (by decide) (fun h93 => ?_) (fun h93 => ?_)
                · exact absurd h93 (by decide)
                · refine at_bipush 98 X (by decide) (by decide) dX7_readUnit_96 rfl ?_
                  refine at_goto 103 X dX7_readUnit_98 (by decide) ?_
                  refine at_callV 106 X _ 10 (c10_takeSign hG G2 B n (goT B n t) hT_G2 40 (by decide)) clX10 rfl k_1 mo_X10_takeSign w_1150 vo_X10_takeSign.1 vo_X10_takeSign.2 rfl rfl (crm Rt ⟨by omega, by omega, by omega, by omega⟩) (Nat.le_of_ble_eq_true rfl) dX7_readUnit_103 rfl ?_
                  rintro _ _ ⟨rfl, G5, rfl, hT_G5, hf_G5⟩
                  rw [tsT_go] at hT_G5
                  have hL_G5 : CL G5 8 L ∧ L.1 ≤ 150 := ⟨hL_G2.1.fr (fun q a b => hf_G5.1 q (by omega)), hL_G2.2⟩
                  have hd_G5 : DR 8 11 E G5 := hd_G2.tr hf_G5.dr
                  refine at_aload_n 107 X rfl rfl dX7_readUnit_106 rfl ?_
                  refine at_aload_n 108 X rfl rfl dX7_readUnit_107 rfl ?_
                  refine at_iload_n 109 X rfl rfl dX7_readUnit_108 rfl ?_
                  refine at_iconst 110 X (by decide) dX7_readUnit_109 rfl ?_
                  refine at_iaddV 111 X op1 (w32_v hop1 (by omega) (by omega)) dX7_readUnit_110 rfl ?_
                  refine at_callV 114 X _ 7 (hS G5 (tsT B n t 40) L hT_G5 hL_G5) clX7 rfl k_8 mo_X7_readSum w_1116 vo_X7_readSum.1 vo_X7_readSum.2 rfl rfl (crm Rt ⟨by omega, by omega, by omega, by omega⟩) (Nat.le_of_ble_eq_true rfl) dX7_readUnit_111 rfl ?_
                  rintro _ _ ⟨rfl, G6, rfl, hP_G6⟩
                  have hT_G6 := hP_G6.1
                  have hL_G6 := hP_G6.2.1
                  have hd_G6 : DR 8 11 E G6 := hd_G5.tr hP_G6.2.2
                  refine at_iload_n 115 X rfl rfl dX7_readUnit_114 rfl ?_
                  refine at_if_ne 118 132 X dX7_readUnit_115 rfl (by decide) (fun h115 => ?_) (fun h115 => ?_)
                  · refine at_aload_n 133 X rfl rfl dX7_readUnit_132 rfl ?_
                    refine at_iload_n 134 X rfl rfl dX7_readUnit_133 rfl ?_
                    refine at_if_eq 137 142 X dX7_readUnit_134 rfl (by decide) (fun h134 => ?_) (fun h134 => ?_)
                    · exact absurd h134 (by decide)
                    · refine at_bipush 139 X (by decide) (by decide) dX7_readUnit_137 rfl ?_
                      refine at_goto 144 X dX7_readUnit_139 (by decide) ?_
                      refine at_callV 147 X _ 10 (c10_takeSign hG G6 B n ((S (tsT B n t 40, L)).1) hT_G6 41 (by decide)) clX10 rfl k_1 mo_X10_takeSign w_1150 vo_X10_takeSign.1 vo_X10_takeSign.2 rfl rfl (crm Rt ⟨by omega, by omega, by omega, by omega⟩) (Nat.le_of_ble_eq_true rfl) dX7_readUnit_144 rfl ?_
                      rintro _ _ ⟨rfl, GA, rfl, hT_GA, hf_GA⟩
                      have hL_GA : CL GA 8 ((S (tsT B n t 40, L)).2) ∧ ((S (tsT B n t 40, L)).2).1 ≤ 150 := ⟨hL_G6.1.fr (fun q a b => hf_GA.1 q (by omega)), hL_G6.2⟩
                      have hd_GA : DR 8 11 E GA := hd_G6.tr hf_GA.dr
                      refine at_iload_n 148 X rfl rfl dX7_readUnit_147 rfl ?_
                      refine at_if_ne 151 158 X dX7_readUnit_148 rfl (by decide) (fun h148 => ?_) (fun h148 => ?_)
                      · refine at_vret X Rt ?_ (Nat.le_refl _) (Nat.le_refl _) dX7_readUnit_158
                        have e : unF B n false S (t, L) = _ := unF_br h0 hd1 hb2
                        exact ⟨rfl, GA, rfl, by rw [e]; exact ⟨hT_GA, hL_GA, hd_GA⟩⟩
                      · exact absurd h148 (by decide)
                  · exact absurd h115 (by decide)
              · exfalso; omega
            · exact absurd h69 (by decide)
          · exact absurd h57 (by decide)
        · exact absurd h40 (by decide)
      · have hb2 : ¬ isA B n (sk B n t.1) 40 40 := fun q => hb ⟨h0, q⟩
        rw [show (if (goT B n t).2.2.1 = 0 ∧ isA B n (sk B n (goT B n t).1) 40 40 then (1 : Int) else 0) = 0 from if_neg (fun q => hb (tst_go.mp q))]
        refine at_iconst 37 X (by decide) dX7_readUnit_36 rfl ?_
        refine at_istore 39 X dX7_readUnit_37 rfl (by decide) ?_
        refine at_iload_n 40 X rfl rfl dX7_readUnit_39 rfl ?_
        refine at_if_ne 43 53 X dX7_readUnit_40 rfl (by decide) (fun h40 => ?_) (fun h40 => ?_)
        · exact absurd h40 (by decide)
        · refine at_aload_n 44 X rfl rfl dX7_readUnit_43 rfl ?_
          refine at_callV 47 X _ 10 (c10_takeWord hG G2 B n (goT B n t) hT_G2) clX10 rfl k_1 mo_X10_takeWord w_1138 vo_X10_takeWord.1 vo_X10_takeWord.2 rfl rfl (crm Rt ⟨by omega, by omega, by omega, by omega⟩) (Nat.le_of_ble_eq_true rfl) dX7_readUnit_44 rfl ?_
          rintro _ _ ⟨rfl, G3, rfl, hT_G3, hf_G3⟩
          rw [twT_go] at hT_G3
          have hL_G3 : CL G3 8 L ∧ L.1 ≤ 150 := ⟨hL_G2.1.fr (fun q a b => hf_G3.1 q (by omega)), hL_G2.2⟩
          have hd_G3 : DR 8 11 E G3 := hd_G2.tr hf_G3.dr
          refine at_aload_n 48 X rfl rfl dX7_readUnit_47 rfl ?_
          refine at_callS 51 X (ct_X7_wordOf hG G3 B n (twT B n t) hT_G3) mo_X7_wordOf w_1139 so_X7_wordOf rfl rfl (crm Rt ⟨by omega, by omega, by omega, by omega⟩) (Nat.le_of_ble_eq_true rfl) dX7_readUnit_48 rfl ?_
          rintro _ _ ⟨rfl, rfl⟩
          have hwi := woW_in B (twT B n t)
          refine at_istore 53 X dX7_readUnit_51 rfl (by decide) ?_
          refine at_iload 55 X rfl dX7_readUnit_53 rfl ?_
          refine at_bipush 57 X (by decide) (by decide) dX7_readUnit_55 rfl ?_
          refine at_icmp_ne 60 68 X dX7_readUnit_57 rfl (by decide) (fun h57 => ?_) (fun h57 => ?_)
          · refine at_iload_n 69 X rfl rfl dX7_readUnit_68 rfl ?_
            refine at_if_ne 72 79 X dX7_readUnit_69 rfl (by decide) (fun h69 => ?_) (fun h69 => ?_)
            · exact absurd h69 (by decide)
            · refine at_iload 74 X rfl dX7_readUnit_72 rfl ?_
              refine at_bipush 76 X (by decide) (by decide) dX7_readUnit_74 rfl ?_
              refine at_icmp_lt 79 147 X dX7_readUnit_76 rfl (by decide) (fun h76 => ?_) (fun h76 => ?_)
              · refine at_iload_n 148 X rfl rfl dX7_readUnit_147 rfl ?_
                refine at_if_ne 151 158 X dX7_readUnit_148 rfl (by decide) (fun h148 => ?_) (fun h148 => ?_)
                · exact absurd h148 (by decide)
                · refine at_aload_n 152 X rfl rfl dX7_readUnit_151 rfl ?_
                  refine at_iload 154 X rfl dX7_readUnit_152 rfl ?_
                  refine at_iconst 155 X (by decide) dX7_readUnit_154 rfl ?_
                  refine at_callV 158 X _ 7 (c7_add hG G3 L hL_G3 (woW B (twT B n t)) 0) clX7 rfl k_8 mo_X7_add w_199 vo_X7_add.1 vo_X7_add.2 rfl rfl (crm Rt ⟨by omega, by omega, by omega, by omega⟩) (Nat.le_of_ble_eq_true rfl) dX7_readUnit_155 rfl ?_
                  rintro _ _ ⟨rfl, G9, rfl, hL_G9, hr_G9⟩
                  have hT_G9 : TP G9 B n (twT B n t) := hT_G3.fr (hr_G9 1 (by omega)) (hr_G9 2 (by omega))
                  have hd_G9 : DR 8 11 E G9 := hd_G3.tr ⟨fun q a b => hr_G9 q b, fun k hk => congrFun (hr_G9 1 (by omega)) k⟩
                  refine at_vret X Rt ?_ (Nat.le_refl _) (Nat.le_refl _) dX7_readUnit_158
                  have e : unF B n false S (t, L) = _ := unF_wd h0 hd1 hb2 h57 (by omega)
                  exact ⟨rfl, G9, rfl, by rw [e]; exact ⟨hT_G9, hL_G9, hd_G9⟩⟩
              · refine at_iload_n 80 X rfl rfl dX7_readUnit_79 rfl ?_
                refine at_bipush 82 X (by decide) (by decide) dX7_readUnit_80 rfl ?_
                refine at_icmp_lt 85 91 X dX7_readUnit_82 rfl (by decide) (fun h82 => ?_) (fun h82 => ?_)
                · refine at_aload_n 92 X rfl rfl dX7_readUnit_91 rfl ?_
                  refine at_iload_n 93 X rfl rfl dX7_readUnit_92 rfl ?_
                  refine at_if_eq 96 101 X dX7_readUnit_93 rfl (by decide) (fun h93 => ?_) (fun h93 => ?_)
                  · refine at_bipush 103 X (by decide) (by decide) dX7_readUnit_101 rfl ?_
                    refine at_callV 106 X _ 10 (c10_takeSign hG G3 B n (twT B n t) hT_G3 91 (by decide)) clX10 rfl k_1 mo_X10_takeSign w_1150 vo_X10_takeSign.1 vo_X10_takeSign.2 rfl rfl (crm Rt ⟨by omega, by omega, by omega, by omega⟩) (Nat.le_of_ble_eq_true rfl) dX7_readUnit_103 rfl ?_
                    rintro _ _ ⟨rfl, G5, rfl, hT_G5, hf_G5⟩
                    have hL_G5 : CL G5 8 L ∧ L.1 ≤ 150 := ⟨hL_G3.1.fr (fun q a b => hf_G5.1 q (by omega)), hL_G3.2⟩
                    have hd_G5 : DR 8 11 E G5 := hd_G3.tr hf_G5.dr
                    refine at_aload_n 107 X rfl rfl dX7_readUnit_106 rfl ?_
                    refine at_aload_n 108 X rfl rfl dX7_readUnit_107 rfl ?_
                    refine at_iload_n 109 X rfl rfl dX7_readUnit_108 rfl ?_
                    refine at_iconst 110 X (by decide) dX7_readUnit_109 rfl ?_
                    refine at_iaddV 111 X op1 (w32_v hop1 (by omega) (by omega)) dX7_readUnit_110 rfl ?_
                    refine at_callV 114 X _ 7 (hS G5 (tsT B n (twT B n t) 91) L hT_G5 hL_G5) clX7 rfl k_8 mo_X7_readSum w_1116 vo_X7_readSum.1 vo_X7_readSum.2 rfl rfl (crm Rt ⟨by omega, by omega, by omega, by omega⟩) (Nat.le_of_ble_eq_true rfl) dX7_readUnit_111 rfl ?_
                    rintro _ _ ⟨rfl, G6, rfl, hP_G6⟩
                    have hT_G6 := hP_G6.1
                    have hL_G6 := hP_G6.2.1
                    have hd_G6 : DR 8 11 E G6 := hd_G5.tr hP_G6.2.2
                    refine at_iload_n 115 X rfl rfl dX7_readUnit_114 rfl ?_
                    refine at_if_ne 118 132 X dX7_readUnit_115 rfl (by decide) (fun h115 => ?_) (fun h115 => ?_)
                    · exact absurd h115 (by decide)
                    · refine at_aload_n 119 X rfl rfl dX7_readUnit_118 rfl ?_
                      refine at_bipush 121 X (by decide) (by decide) dX7_readUnit_119 rfl ?_
                      refine at_callV 124 X _ 10 (c10_takeSign hG G6 B n ((S (tsT B n (twT B n t) 91, L)).1) hT_G6 44 (by decide)) clX10 rfl k_1 mo_X10_takeSign w_1150 vo_X10_takeSign.1 vo_X10_takeSign.2 rfl rfl (crm Rt ⟨by omega, by omega, by omega, by omega⟩) (Nat.le_of_ble_eq_true rfl) dX7_readUnit_121 rfl ?_
                      rintro _ _ ⟨rfl, G7, rfl, hT_G7, hf_G7⟩
                      have hL_G7 : CL G7 8 ((S (tsT B n (twT B n t) 91, L)).2) ∧ ((S (tsT B n (twT B n t) 91, L)).2).1 ≤ 150 := ⟨hL_G6.1.fr (fun q a b => hf_G7.1 q (by omega)), hL_G6.2⟩
                      have hd_G7 : DR 8 11 E G7 := hd_G6.tr hf_G7.dr
                      refine at_aload_n 125 X rfl rfl dX7_readUnit_124 rfl ?_
                      refine at_aload_n 126 X rfl rfl dX7_readUnit_125 rfl ?_
                      refine at_iload_n 127 X rfl rfl dX7_readUnit_126 rfl ?_
                      refine at_iconst 128 X (by decide) dX7_readUnit_127 rfl ?_
                      refine at_iaddV 129 X op1 (w32_v hop1 (by omega) (by omega)) dX7_readUnit_128 rfl ?_
                      refine at_callV 132 X _ 7 (hS G7 (tsT B n ((S (tsT B n (twT B n t) 91, L)).1) 44) ((S (tsT B n (twT B n t) 91, L)).2) hT_G7 hL_G7) clX7 rfl k_8 mo_X7_readSum w_1116 vo_X7_readSum.1 vo_X7_readSum.2 rfl rfl (crm Rt ⟨by omega, by omega, by omega, by omega⟩) (Nat.le_of_ble_eq_true rfl) dX7_readUnit_129 rfl ?_
                      rintro _ _ ⟨rfl, G8, rfl, hP_G8⟩
                      have hT_G8 := hP_G8.1
                      have hL_G8 := hP_G8.2.1
                      have hd_G8 : DR 8 11 E G8 := hd_G7.tr hP_G8.2.2
                      refine at_aload_n 133 X rfl rfl dX7_readUnit_132 rfl ?_
                      refine at_iload_n 134 X rfl rfl dX7_readUnit_133 rfl ?_
                      refine at_if_eq 137 142 X dX7_readUnit_134 rfl (by decide) (fun h134 => ?_) (fun h134 => ?_)
                      · refine at_bipush 144 X (by decide) (by decide) dX7_readUnit_142 rfl ?_
                        refine at_callV 147 X _ 10 (c10_takeSign hG G8 B n ((S (tsT B n ((S (tsT B n (twT B n t) 91, L)).1) 44, (S (tsT B n (twT B n t) 91, L)).2)).1) hT_G8 93 (by decide)) clX10 rfl k_1 mo_X10_takeSign w_1150 vo_X10_takeSign.1 vo_X10_takeSign.2 rfl rfl (crm Rt ⟨by omega, by omega, by omega, by omega⟩) (Nat.le_of_ble_eq_true rfl) dX7_readUnit_144 rfl ?_
                        rintro _ _ ⟨rfl, GA, rfl, hT_GA, hf_GA⟩
                        have hL_GA : CL GA 8 ((S (tsT B n ((S (tsT B n (twT B n t) 91, L)).1) 44, (S (tsT B n (twT B n t) 91, L)).2)).2) ∧ ((S (tsT B n ((S (tsT B n (twT B n t) 91, L)).1) 44, (S (tsT B n (twT B n t) 91, L)).2)).2).1 ≤ 150 := ⟨hL_G8.1.fr (fun q a b => hf_GA.1 q (by omega)), hL_G8.2⟩
                        have hd_GA : DR 8 11 E GA := hd_G8.tr hf_GA.dr
                        refine at_iload_n 148 X rfl rfl dX7_readUnit_147 rfl ?_
                        refine at_if_ne 151 158 X dX7_readUnit_148 rfl (by decide) (fun h148 => ?_) (fun h148 => ?_)
                        · exact absurd h148 (by decide)
                        · refine at_aload_n 152 X rfl rfl dX7_readUnit_151 rfl ?_
                          refine at_iload 154 X rfl dX7_readUnit_152 rfl ?_
                          refine at_iconst 155 X (by decide) dX7_readUnit_154 rfl ?_
                          refine at_callV 158 X _ 7 (c7_add hG GA ((S (tsT B n ((S (tsT B n (twT B n t) 91, L)).1) 44, (S (tsT B n (twT B n t) 91, L)).2)).2) hL_GA (woW B (twT B n t)) 0) clX7 rfl k_8 mo_X7_add w_199 vo_X7_add.1 vo_X7_add.2 rfl rfl (crm Rt ⟨by omega, by omega, by omega, by omega⟩) (Nat.le_of_ble_eq_true rfl) dX7_readUnit_155 rfl ?_
                          rintro _ _ ⟨rfl, G9, rfl, hL_G9, hr_G9⟩
                          have hT_G9 : TP G9 B n (tsT B n ((S (tsT B n ((S (tsT B n (twT B n t) 91, L)).1) 44, (S (tsT B n (twT B n t) 91, L)).2)).1) 93) := hT_GA.fr (hr_G9 1 (by omega)) (hr_G9 2 (by omega))
                          have hd_G9 : DR 8 11 E G9 := hd_GA.tr ⟨fun q a b => hr_G9 q b, fun k hk => congrFun (hr_G9 1 (by omega)) k⟩
                          refine at_vret X Rt ?_ (Nat.le_refl _) (Nat.le_refl _) dX7_readUnit_158
                          have e : unF B n false S (t, L) = _ := unF_w3 h0 hd1 hb2 h57 (by omega)
                          exact ⟨rfl, G9, rfl, by rw [e]; exact ⟨hT_G9, hL_G9, hd_G9⟩⟩
                      · exact absurd h134 (by decide)
                  · exact absurd h93 (by decide)
                · exfalso; omega
          · refine at_aload_n 61 X rfl rfl dX7_readUnit_60 rfl ?_
            refine at_iconst 62 X (by decide) dX7_readUnit_61 rfl ?_
            refine at_callV 65 X _ 10 (c10_fail hG G3 B n (twT B n t) hT_G3 1) clX10 rfl k_1 mo_X10_fail w_1149 vo_X10_fail.1 vo_X10_fail.2 rfl rfl (crm Rt ⟨by omega, by omega, by omega, by omega⟩) (Nat.le_of_ble_eq_true rfl) dX7_readUnit_62 rfl ?_
            rintro _ _ ⟨rfl, G4, rfl, hT_G4, hf_G4⟩
            have hL_G4 : CL G4 8 L ∧ L.1 ≤ 150 := ⟨hL_G3.1.fr (fun q a b => hf_G4.1 q (by omega)), hL_G3.2⟩
            have hd_G4 : DR 8 11 E G4 := hd_G3.tr hf_G4.dr
            refine at_goto 147 X dX7_readUnit_65 (by decide) ?_
            refine at_iload_n 148 X rfl rfl dX7_readUnit_147 rfl ?_
            refine at_if_ne 151 158 X dX7_readUnit_148 rfl (by decide) (fun h148 => ?_) (fun h148 => ?_)
            · exact absurd h148 (by decide)
            · refine at_aload_n 152 X rfl rfl dX7_readUnit_151 rfl ?_
              refine at_iload 154 X rfl dX7_readUnit_152 rfl ?_
              refine at_iconst 155 X (by decide) dX7_readUnit_154 rfl ?_
              refine at_callV 158 X _ 7 (c7_add hG G4 L hL_G4 (woW B (twT B n t)) 0) clX7 rfl k_8 mo_X7_add w_199 vo_X7_add.1 vo_X7_add.2 rfl rfl (crm Rt ⟨by omega, by omega, by omega, by omega⟩) (Nat.le_of_ble_eq_true rfl) dX7_readUnit_155 rfl ?_
              rintro _ _ ⟨rfl, G9, rfl, hL_G9, hr_G9⟩
              have hT_G9 : TP G9 B n (flT (twT B n t) 1) := hT_G4.fr (hr_G9 1 (by omega)) (hr_G9 2 (by omega))
              have hd_G9 : DR 8 11 E G9 := hd_G4.tr ⟨fun q a b => hr_G9 q b, fun k hk => congrFun (hr_G9 1 (by omega)) k⟩
              refine at_vret X Rt ?_ (Nat.le_refl _) (Nat.le_refl _) dX7_readUnit_158
              rw [h57] at hL_G9
              have e : unF B n false S (t, L) = _ := unF_unk h0 hd1 hb2 h57
              exact ⟨rfl, G9, rfl, by rw [e]; exact ⟨hT_G9, hL_G9, hd_G9⟩⟩
    · have h12 : (t.2.2.1 = 0 ∧ isA B n (sk B n t.1) 48 57) := ite_yes.mp h12
      have hd1 := h12.2
      refine at_aload_n 16 X rfl rfl dX7_readUnit_15 rfl ?_
      refine at_iconst 17 X (by decide) dX7_readUnit_16 rfl ?_
      refine at_aload_n 18 X rfl rfl dX7_readUnit_17 rfl ?_
      refine at_iconst 19 X (by decide) dX7_readUnit_18 rfl ?_
      refine at_sipush 22 X (by decide) (by decide) dX7_readUnit_19 rfl ?_
      refine at_callV 25 X _ 10 (c10_num hG G1 B n (goT B n t) hT_G1 0 999 (by omega)) clX10 rfl k_1 mo_X10_takeNumber w_1133 vo_X10_takeNumber.1 vo_X10_takeNumber.2 rfl rfl (crm Rt ⟨by omega, by omega, by omega, by omega⟩) (Nat.le_of_ble_eq_true rfl) dX7_readUnit_22 rfl ?_
      rintro _ _ ⟨rfl, G3, rfl, hT_G3, hf_G3⟩
      rw [(nuT_go h0).2]
      rw [(nuT_go h0).1] at hT_G3
      have hL_G3 : CL G3 8 L ∧ L.1 ≤ 150 := ⟨hL_G1.1.fr (fun q a b => hf_G3.1 q (by omega)), hL_G1.2⟩
      have hd_G3 : DR 8 11 E G3 := hd_G1.tr hf_G3.dr
      refine at_callV 28 X _ 7 (c7_add hG G3 L hL_G3 0 ((nuV B n t 0 999 : Nat) : Int)) clX7 rfl k_8 mo_X7_add w_199 vo_X7_add.1 vo_X7_add.2 rfl rfl (crm Rt ⟨by omega, by omega, by omega, by omega⟩) (Nat.le_of_ble_eq_true rfl) dX7_readUnit_25 rfl ?_
      rintro _ _ ⟨rfl, G9, rfl, hL_G9, hr_G9⟩
      have hT_G9 : TP G9 B n (nuT B n t 0 999) := hT_G3.fr (hr_G9 1 (by omega)) (hr_G9 2 (by omega))
      have hd_G9 : DR 8 11 E G9 := hd_G3.tr ⟨fun q a b => hr_G9 q b, fun k hk => congrFun (hr_G9 1 (by omega)) k⟩
      refine at_vret X Rt ?_ (Nat.le_refl _) (Nat.le_refl _) dX7_readUnit_28
      have e : unF B n false S (t, L) = _ := unF_dig h0 hd1
      exact ⟨rfl, G9, rfl, by rw [e]; exact ⟨hT_G9, hL_G9, hd_G9⟩⟩
  · have h0 : ¬ t.2.2.1 = 0 := fun q => h4 (by rw [if_pos q])
    refine at_vret X Rt ?_ (Nat.le_refl _) (Nat.le_refl _) dX7_readUnit_7
    have e : unF B n false S (t, L) = _ := unF_bad h0
    exact ⟨rfl, E, rfl, by rw [e]; exact ⟨hT_E, hL_E, hd_E⟩⟩
theorem c7_unit {g : Gw} (hG : GF g) {z : Bool} (B : Nat → Int) (n : Nat) : ∀ k : Nat, k ≤ 6 → ∀ (E : Mm) (t : TS) (L : LW), TP E B n t → (CL E 8 L ∧ L.1 ≤ 150) → CT g yX7_readUnit cX7_readUnit 5 none (6 + 3 * k) (127 + 72 * k) 0 0 K2 z [mR 8, mR 1, mI (6 - (k : Int))] (ov E) K2 z (fun r D' => r = none ∧ ∃ E1, D' = ov E1 ∧ LPo B n E E1 (unW B n k (t, L)))
  | 0, _ => fun E t L h1 h2 => c7_unit0 hG B n E t L h1 h2
  | k + 1, hk => fun E t L h1 h2 => by
    have hu := c7_unit hG (z := z) B n k (by omega)
    have hp := c7_prod hG B n (unW B n k) (6 + 3 * k) (127 + 72 * k) (by omega) (by omega) (6 - (k : Int)) hu
    have hsu := c7_sum hG B n (prF B n (unW B n k)) (6 + 3 * k + 1) (127 + 72 * k + 24) (by omega) (by omega) (6 - (k : Int)) hp
    have h := c7_unitS hG B n (suF B n (unW B n k)) (6 + 3 * k + 1 + 1) (127 + 72 * k + 24 + 24) (by omega) (by omega) (6 - ((k + 1 : Nat) : Int)) (6 - (k : Int)) (by omega) (by omega) hsu E t L h1 h2
    rw [show 6 + 3 * (k + 1) = 6 + 3 * k + 1 + 1 + 1 by omega, show 127 + 72 * (k + 1) = 127 + 72 * k + 24 + 24 + 24 by omega]
    exact h
theorem c7_law {g : Gw} (hG : GF g) {z : Bool} (B : Nat → Int) (n : Nat) (E : Mm) (t : TS) (L : LW) (h1 : TP E B n t) (h2 : CL E 8 L ∧ L.1 ≤ 150) : CT g yX7_readSum cX7_readSum 5 none 26 607 0 0 K2 z [mR 8, mR 1, mI 0] (ov E) K2 z (fun r D' => r = none ∧ ∃ E1, D' = ov E1 ∧ LPo B n E E1 (suF B n (unW B n 6) (t, L))) := by
  have hu := c7_unit hG (z := z) B n 6 (Nat.le_refl _)
  have hp := c7_prod hG B n (unW B n 6) (6 + 3 * 6) (127 + 72 * 6) (by omega) (by omega) (6 - ((6 : Nat) : Int)) hu
  exact c7_sum hG B n (prF B n (unW B n 6)) (6 + 3 * 6 + 1) (127 + 72 * 6 + 24) (by omega) (by omega) (6 - ((6 : Nat) : Int)) hp E t L h1 h2
theorem dX7_read_0 : decode cX7_read 0 = .ok (.aload_n 0, 1) := by decide +kernel
theorem dX7_read_1 : decode cX7_read 1 = .ok (.iconst 0, 1) := by decide +kernel
theorem dX7_read_2 : decode cX7_read 2 = .ok (.putfield 24, 3) := by decide +kernel
theorem dX7_read_5 : decode cX7_read 5 = .ok (.aload_n 0, 1) := by decide +kernel
theorem dX7_read_6 : decode cX7_read 6 = .ok (.aload_n 1, 1) := by decide +kernel
theorem dX7_read_7 : decode cX7_read 7 = .ok (.iconst 0, 1) := by decide +kernel
theorem dX7_read_8 : decode cX7_read 8 = .ok (.invokevirtual 38, 3) := by decide +kernel
theorem dX7_read_11 : decode cX7_read 11 = .ok (.aload_n 1, 1) := by decide +kernel
theorem dX7_read_12 : decode cX7_read 12 = .ok (.invokevirtual 42, 3) := by decide +kernel
theorem dX7_read_15 : decode cX7_read 15 = .ok (.ifCond .eq 8, 3) := by decide +kernel
theorem dX7_read_18 : decode cX7_read 18 = .ok (.aload_n 1, 1) := by decide +kernel
theorem dX7_read_19 : decode cX7_read 19 = .ok (.iconst 1, 1) := by decide +kernel
theorem dX7_read_20 : decode cX7_read 20 = .ok (.invokevirtual 48, 3) := by decide +kernel
theorem dX7_read_23 : decode cX7_read 23 = .ok (.return_, 1) := by decide +kernel
theorem ct_X7_read {g : Gw} (hG : GF g) {z : Bool} (E : Mm) (B : Nat → Int) (n : Nat) (hT_E : TP E B n (0, 0, 0, -1)) : CT g yX7_read cX7_read 2 none 27 631 0 0 K2 z [mR 8, mR 1] (ov E) K2 z (fun r D' => r = none ∧ ∃ E1, D' = ov E1 ∧ TP E1 B n (lawT B n) ∧ CL E1 8 (lawS B n).2 ∧ DR 8 11 E E1) := by
  refine CT.mk hG (by decide +kernel) (Nat.le_of_ble_eq_true rfl) (fun κ X Rt _ ok => ?_)
  refine at_aload_n 1 X rfl rfl dX7_read_0 rfl ?_
  refine at_iconst 2 X (by decide) dX7_read_1 rfl ?_
  refine m_putI 5 X f_X7_24 fw_7_3 k_8 rn_8_3 dX7_read_2 rfl ?_
  refine at_aload_n 6 X rfl rfl dX7_read_5 rfl ?_
  refine at_aload_n 7 X rfl rfl dX7_read_6 rfl ?_
  refine at_iconst 8 X (by decide) dX7_read_7 rfl ?_
  refine at_callV 11 X _ 7 (c7_law hG B n (wr E 8 3 0) (0, 0, 0, -1) (0, fun _ => 0, fun _ => 0) (hT_E.fr (wr_row (by omega)) (wr_row (by omega))) ⟨⟨wr_s _ _ _ _, fun i hi => absurd hi (Nat.not_lt_zero i)⟩, Nat.zero_le _⟩) clX7 rfl k_8 mo_X7_readSum w_1116 vo_X7_readSum.1 vo_X7_readSum.2 rfl rfl (crm Rt (by decide)) (Nat.le_of_ble_eq_true rfl) dX7_read_8 rfl ?_
  rintro _ _ ⟨rfl, F1, rfl, hP_F1⟩
  have hT_F1 : TP F1 B n (lawS B n).1 := hP_F1.1
  have hL_F1 : CL F1 8 (lawS B n).2 ∧ (lawS B n).2.1 ≤ 150 := hP_F1.2.1
  have hd_F1 : DR 8 11 E F1 := DR.tr ⟨fun q a b => wr_row (by omega), fun k hk => congrFun (wr_row (by omega)) k⟩ hP_F1.2.2
  refine at_aload_n 12 X rfl rfl dX7_read_11 rfl ?_
  refine at_callV 15 X _ 10 (c10_goesOn hG F1 B n ((lawS B n).1) hT_F1) clX10 rfl k_1 mo_X10_goesOn w_1151 vo_X10_goesOn.1 vo_X10_goesOn.2 rfl rfl (crm Rt ⟨by omega, by omega, by omega, by omega⟩) (Nat.le_of_ble_eq_true rfl) dX7_read_12 rfl ?_
  rintro _ _ ⟨rfl, G1, rfl, hT_G1, hf_G1⟩
  have hL_G1 : CL G1 8 ((lawS B n).2) ∧ ((lawS B n).2).1 ≤ 150 := ⟨hL_F1.1.fr (fun q a b => hf_G1.1 q (by omega)), hL_F1.2⟩
  have hd_G1 : DR 8 11 E G1 := hd_F1.tr hf_G1.dr
  refine at_if_eq 18 23 X dX7_read_15 rfl (by decide) (fun h15 => ?_) (fun h15 => ?_)
  · have h15 : ¬ ((lawS B n).1.2.2.1 = 0 ∧ sk B n (lawS B n).1.1 < n) := ite_no.mp h15
    refine at_vret X Rt ?_ (Nat.le_refl _) (Nat.le_refl _) dX7_read_23
    have e : lawT B n = goT B n (lawS B n).1 := if_neg h15
    exact ⟨rfl, G1, rfl, by rw [e]; exact hT_G1, hL_G1.1, hd_G1⟩
  · have h15 : ((lawS B n).1.2.2.1 = 0 ∧ sk B n (lawS B n).1.1 < n) := ite_yes.mp h15
    refine at_aload_n 19 X rfl rfl dX7_read_18 rfl ?_
    refine at_iconst 20 X (by decide) dX7_read_19 rfl ?_
    refine at_callV 23 X _ 10 (c10_fail hG G1 B n (goT B n (lawS B n).1) hT_G1 1) clX10 rfl k_1 mo_X10_fail w_1149 vo_X10_fail.1 vo_X10_fail.2 rfl rfl (crm Rt ⟨by omega, by omega, by omega, by omega⟩) (Nat.le_of_ble_eq_true rfl) dX7_read_20 rfl ?_
    rintro _ _ ⟨rfl, G2, rfl, hT_G2, hf_G2⟩
    have hL_G2 : CL G2 8 ((lawS B n).2) ∧ ((lawS B n).2).1 ≤ 150 := ⟨hL_G1.1.fr (fun q a b => hf_G2.1 q (by omega)), hL_G1.2⟩
    have hd_G2 : DR 8 11 E G2 := hd_G1.tr hf_G2.dr
    refine at_vret X Rt ?_ (Nat.le_refl _) (Nat.le_refl _) dX7_read_23
    have e : lawT B n = flT (goT B n (lawS B n).1) 1 := if_pos h15
    exact ⟨rfl, G2, rfl, by rw [e]; exact hT_G2, hL_G2.1, hd_G2⟩
