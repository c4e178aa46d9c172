set_option maxHeartbeats 4000000 in
theorem ct_X12_clause {g : Gw} (hG : GF g) {z : Bool} (E : Mm) (B : Nat → Int) (n : Nat) (t : TS) (ht : t.1 ≤ n) (hP_E : RTp E B n t) (h0 : t.2.2.1 = 0) (P : SP) (Q : RX) (hP : WS P) (hD : RTD E P Q) (hB : RBd P Q) (ns : Nat) (hns : E 125 27 = ((ns : Nat) : Int)) (hn12 : ns ≤ 12) (hxn : xNs Q ≤ ns) (k : Nat) (hk60 : k ≤ 60) (hcl : E 125 7 = ((k : Nat) : Int)) : CT g yX12_clause cX12_clause 5 none 5 109 0 0 K2 z [mR 125] (ov E) K2 z (fun r D' => r = none ∧ ∃ E1, D' = ov E1 ∧ RTp E1 B n (clN B n k (t, P, ns)).1 ∧ ((clN B n k (t, P, ns)).1.2.2.1 = 0 → E1 125 27 = (((clN B n k (t, P, ns)).2.2 : Nat) : Int) ∧ E1 125 7 = ((k + 1 : Nat) : Int) ∧ ∃ Q2, RTD E1 (clN B n k (t, P, ns)).2.1 Q2 ∧ xNs Q2 ≤ (clN B n k (t, P, ns)).2.2) ∧ RFr E E1) := by
  refine CT.mk hG (by decide +kernel) (Nat.le_of_ble_eq_true rfl) (fun κ X Rt _ ok => ?_)
  have hW40 := hP.W
  obtain ⟨b1, b2, b3, b4, b5, b6⟩ := id hB
  refine at_aload_n 1 X rfl rfl dX12_clause_0 rfl ?_
  refine at_callV 4 X _ 12 (ct_X12_kindHere hG E B n t ht hP_E h0) clX12 rfl k_125 mo_X12_kindHere w_1980 vo_X12_kindHere.1 vo_X12_kindHere.2 rfl rfl (crm Rt (by decide)) (Nat.le_of_ble_eq_true rfl) dX12_clause_1 rfl ?_
  rintro _ _ ⟨rfl, F1, rfl, hP_F1, hf_F1, hat_F1⟩
  obtain ⟨kd, hkd⟩ : ∃ kd, kd = kdW B (twT B n t) := ⟨_, rfl⟩
  rw [← hkd]
  obtain ⟨rk, hrk⟩ : ∃ rk, rk = rkW kd := ⟨_, rfl⟩
  rw [← hrk]
  have hkin := kdW_in B (twT B n t)
  rw [← hkd] at hkin
  have hq_F1 : ∀ q, q ≠ 125 → F1 q = E q := fun q h => hf_F1.1 q h
  have hh : hdT B n k t P ns = if kd = 0 then flT (twT B n t) 1 else if 60 ≤ k ∨ fuW P ns kd = true then flT (twT B n t) 3 else if kd = 1 ∧ 0 < k then flT (twT B n t) 4 else twT B n t := by rw [hkd]; rfl
  refine at_istore_n 5 X rfl dX12_clause_4 rfl (by decide) ?_
  have J71 : ∀ (G6 : Mm), ((hdT B n k t P ns).2.2.1 = 0 → RTp G6 B n t ∧ G6 125 4 = ((sk B n t.1 : Nat) : Int)) → (¬ (hdT B n k t P ns).2.2.1 = 0 → RTp G6 B n (hdT B n k t P ns)) → (RTf E G6) → (G6 125 5 = (hdT B n k t P ns).2.2.1) → AT g κ K2 z 0 0 71 [(0, mR 125), (1, mI rk)] [] (ov G6) := by
    intro G6 hgd hbd hf_G6 h5_G6
    refine at_aload_n 72 X rfl rfl dX12_clause_71 rfl ?_
    refine m_getIV 75 X ((hdT B n k t P ns).2.2.1) h5_G6 f_X12_168 k_125 rn_125_5 dX12_clause_72 rfl ?_
    refine at_if_eq 78 79 X dX12_clause_75 rfl (by decide) (fun h75 => ?_) (fun h75 => ?_)
    · have hg0 : (hdT B n k t P ns).2.2.1 = 0 := h75
      have hdk := hdT_ok hg0
      rw [← hkd] at hdk
      obtain ⟨hdk1, hdk2, hdk3, hdk4, hdk5, hdk6⟩ := hdk
      have hrin := fun _ : Unit => rkW_in (k := kd) ⟨hdk3, hkin.2⟩
      have hrb : 0 ≤ rk ∧ rk ≤ 8 := by rw [hrk]; exact ⟨(hrin ()).1, (hrin ()).2.1⟩
      refine at_aload_n 80 X rfl rfl dX12_clause_79 rfl ?_
      refine at_callV 83 X _ 12 (c12_skip hG G6 B n t ht (hgd hg0).1 h0 (hgd hg0).2) clX12 rfl k_125 mo_X12_skipWord w_2006 vo_X12_skipWord.1 vo_X12_skipWord.2 rfl rfl (crm Rt (by decide)) (Nat.le_of_ble_eq_true rfl) dX12_clause_80 rfl ?_
      rintro _ _ ⟨rfl, F7, rfl, hP_F7, hf_F7⟩
      refine at_aload_n 84 X rfl rfl dX12_clause_83 rfl ?_
      refine at_dup 85 X (show ¬ (2 : Nat) = 1 by decide) dX12_clause_84 rfl ?_
      refine m_getIV 88 X ((k : Nat) : Int) ((hf_F7.2 7 (by omega)).trans ((hf_G6.2 7 (by omega)).trans hcl)) f_X12_208 k_125 rn_125_7 dX12_clause_85 rfl ?_
      refine at_iconst 89 X (by decide) dX12_clause_88 rfl ?_
      refine at_iaddV 90 X ((k + 1 : Nat) : Int) (w32_v (by omega) (by omega) (by omega)) dX12_clause_89 rfl ?_
      refine m_putI 93 X f_X12_208 fw_12_7 k_125 rn_125_7 dX12_clause_90 rfl ?_
      have hP8 : RTp (wr F7 125 7 ((k + 1 : Nat) : Int)) B n (twT B n t) := hP_F7.w (fun k hk => by simp (disch := omega) only [wr_o]) (by simp (disch := omega) only [wr_row])
      have hq8 : ∀ q, q ≠ 125 → (wr F7 125 7 ((k + 1 : Nat) : Int)) q = E q := fun q h => by rw [wr_row h, hf_F7.1 q h, hf_G6.1 q h]
      have hs8 : ∀ j, ¬ (4 ≤ j ∧ j ≤ 7) → (wr F7 125 7 ((k + 1 : Nat) : Int)) 125 j = E 125 j := fun j h => by rw [wr_o (by omega), hf_F7.2 j (by omega), hf_G6.2 j (by omega)]
      have hc8 : (wr F7 125 7 ((k + 1 : Nat) : Int)) 125 7 = ((k + 1 : Nat) : Int) := wr_s _ _ _ _
      generalize wr F7 125 7 ((k + 1 : Nat) : Int) = G8 at hP8 hq8 hs8 hc8 ⊢
      have hP_G8 := hP8
      have hq_G8 := hq8
      have hD8 : RTD G8 P Q := hD.fr hq8
      have htw : (twT B n t).1 ≤ n := by rw [show twT B n t = (wdE B n (sk B n t.1), sk B n t.1, t.2.2) from if_pos h0]; exact (wd_in B (sk_in B ht).2).2
      have ht0 : (twT B n t).2.2.1 = 0 := by rw [tw_fk]; exact h0
      have J441 : ∀ (G9 : Mm), (RTp G9 B n (nbT B n kd (twT B n t) P ns).1) → ((nbT B n kd (twT B n t) P ns).1.2.2.1 = 0 → G9 125 27 = (((nbT B n kd (twT B n t) P ns).2.2 : Nat) : Int) ∧ ∃ Q2, RTD G9 (nbT B n kd (twT B n t) P ns).2.1 Q2 ∧ xNs Q2 ≤ (nbT B n kd (twT B n t) P ns).2.2) → (RFr E G9) → (G9 125 7 = ((k + 1 : Nat) : Int)) → AT g κ K2 z 0 0 441 [(0, mR 125)] [] (ov G9) := by
        intro G9 hP_G9 hD_G9 hr_G9 hc_G9
        refine at_aload_n 442 X rfl rfl dX12_clause_441 rfl ?_
        refine at_bipush 444 X (by decide) (by decide) dX12_clause_442 rfl ?_
        refine at_callV 447 X _ 12 (c12_sign hG G9 B n ((nbT B n kd (twT B n t) P ns).1) hP_G9 59 (by decide)) clX12 rfl k_125 mo_X12_sign w_2034 vo_X12_sign.1 vo_X12_sign.2 rfl rfl (crm Rt (by decide)) (Nat.le_of_ble_eq_true rfl) dX12_clause_444 rfl ?_
        rintro _ _ ⟨rfl, F1, rfl, hP_F1, hf_F1⟩
        refine at_vret X Rt ?_ (Nat.le_refl _) (Nat.le_refl _) dX12_clause_447
        have e : clN B n k (t, P, ns) = (tsT B n (nbT B n kd (twT B n t) P ns).1 59, (nbT B n kd (twT B n t) P ns).2) := by
          rw [hkd]
          refine (if_pos hg0).trans ?_
          rw [hdk1]
        rw [e]
        exact ⟨rfl, F1, rfl, hP_F1, fun q => by
          obtain ⟨g1, Q2, g2, g3⟩ := hD_G9 (ts_ok q).1
          exact ⟨(hf_F1.2 27 (by omega)).trans g1, (hf_F1.2 7 (by omega)).trans hc_G9, Q2, g2.fr (fun q hq => hf_F1.1 q hq), g3⟩, hr_G9.tr hf_F1.fr⟩
      refine at_iload_n 94 X rfl rfl dX12_clause_93 rfl ?_
      rcases (show rk = 0 ∨ rk = 1 ∨ rk = 2 ∨ rk = 3 ∨ rk = 4 ∨ rk = 5 ∨ rk = 6 ∨ rk = 7 ∨ (rk < 0 ∨ 7 < rk) by omega) with h94 | h94 | h94 | h94 | h94 | h94 | h94 | h94 | h94
      · refine at_tswIn 140 X dX12_clause_94 (by omega) (by rw [h94]; rfl) (by decide) ?_
        have hrkv : rk = 0 := by clear hrin hdk6; omega
        have hkv : kd = 1 := (hrin ()).2.2.1 (hrk.symm.trans hrkv)
        rw [hrkv]
        exact X12cl_b0 hG X Rt E B n t P Q hP hD ns k hB hxn hn12 hns G8 htw ht0 hP_G8 hq_G8 hs8 hc8 hD8 kd hdk5 hkv J441
      · refine at_tswIn 156 X dX12_clause_94 (by omega) (by rw [h94]; rfl) (by decide) ?_
        have hrkv : rk = 1 := by clear hrin hdk6; omega
        have hkv : kd = 2 := (hrin ()).2.2.2.1 (hrk.symm.trans hrkv)
        rw [hrkv]
        exact X12cl_b1 hG X Rt E B n t P Q hP hD ns k hB hxn hn12 hns G8 htw ht0 hP_G8 hq_G8 hs8 hc8 hD8 kd hdk5 hkv J441
      · refine at_tswIn 174 X dX12_clause_94 (by omega) (by rw [h94]; rfl) (by decide) ?_
        have hrkv : rk = 2 := by clear hrin hdk6; omega
        have hkv : kd = 3 := (hrin ()).2.2.2.2.1 (hrk.symm.trans hrkv)
        rw [hrkv]
        exact X12cl_b2 hG X Rt E B n t P Q hP hD ns k hB hxn hn12 hns G8 htw ht0 hP_G8 hq_G8 hs8 hc8 hD8 kd hdk5 hkv J441
      · refine at_tswIn 181 X dX12_clause_94 (by omega) (by rw [h94]; rfl) (by decide) ?_
        have hrkv : rk = 3 := by clear hrin hdk6; omega
        have hkv : kd = 5 := (hrin ()).2.2.2.2.2.1 (hrk.symm.trans hrkv)
        rw [hrkv]
        exact X12cl_b3 hG X Rt E B n t P Q hP hD ns k hB hxn hn12 hns G8 htw ht0 hP_G8 hq_G8 hs8 hc8 hD8 kd hdk5 hkv J441
      · refine at_tswIn 229 X dX12_clause_94 (by omega) (by rw [h94]; rfl) (by decide) ?_
        have hrkv : rk = 4 := by clear hrin hdk6; omega
        have hkv : kd = 6 := (hrin ()).2.2.2.2.2.2.1 (hrk.symm.trans hrkv)
        rw [hrkv]
        exact X12cl_b4 hG X Rt E B n t P Q hP hD ns k hB hxn hn12 hns G8 htw ht0 hP_G8 hq_G8 hs8 hc8 hD8 kd hdk5 hkv J441
      · refine at_tswIn 266 X dX12_clause_94 (by omega) (by rw [h94]; rfl) (by decide) ?_
        have hrkv : rk = 5 := by clear hrin hdk6; omega
        have hkv : kd = 7 := (hrin ()).2.2.2.2.2.2.2.1 (hrk.symm.trans hrkv)
        rw [hrkv]
        exact X12cl_b5 hG X Rt E B n t P Q hP hD ns k hB hxn hn12 hns G8 htw ht0 hP_G8 hq_G8 hs8 hc8 hD8 kd hdk5 hkv J441
      · refine at_tswIn 298 X dX12_clause_94 (by omega) (by rw [h94]; rfl) (by decide) ?_
        have hrkv : rk = 6 := by clear hrin hdk6; omega
        have hkv : kd = 8 := (hrin ()).2.2.2.2.2.2.2.2.1 (hrk.symm.trans hrkv)
        rw [hrkv]
        exact X12cl_b6 hG X Rt E B n t P Q hP hD ns k hB hxn hn12 hns G8 htw ht0 hP_G8 hq_G8 hs8 hc8 hD8 kd hdk5 hkv J441
      · refine at_tswIn 317 X dX12_clause_94 (by omega) (by rw [h94]; rfl) (by decide) ?_
        have hrkv : rk = 7 := by clear hrin hdk6; omega
        have hkv : kd = 4 := (hrin ()).2.2.2.2.2.2.2.2.2.1 (hrk.symm.trans hrkv)
        rw [hrkv]
        exact X12cl_b7 hG X Rt E B n t P Q hP hD ns k hB hxn hn12 hns G8 htw ht0 hP_G8 hq_G8 hs8 hc8 hD8 kd hdk5 hkv J441
      · refine at_tswOut 334 X dX12_clause_94 h94 (by decide) ?_
        have hrkv : rk = 8 := by clear hrin hdk6; omega
        have hkv : kd = 9 := (hrin ()).2.2.2.2.2.2.2.2.2.2 (hrk.symm.trans hrkv)
        rw [hrkv]
        exact X12cl_b8 hG X Rt E B n t P Q hP hD ns k hB hxn hn12 hns G8 htw ht0 hP_G8 hq_G8 hs8 hc8 hD8 kd hdk5 hkv J441
    · have hg0 : ¬ (hdT B n k t P ns).2.2.1 = 0 := h75
      refine at_vret X Rt ?_ (Nat.le_refl _) (Nat.le_refl _) dX12_clause_78
      have e : clN B n k (t, P, ns) = (hdT B n k t P ns, P, ns) := if_neg hg0
      rw [e]
      exact ⟨rfl, G6, rfl, hbd hg0, fun q => absurd q hg0, hf_G6.fr⟩
  refine at_iload_n 6 X rfl rfl dX12_clause_5 rfl ?_
  refine at_iconst 7 X (by decide) dX12_clause_6 rfl ?_
  refine at_icmp_ne 10 22 X dX12_clause_7 rfl (by decide) (fun h7 => ?_) (fun h7 => ?_)
  · have hk0 : ¬ kd = 0 := fun c => by rw [c] at hrk; exact h7 hrk
    have hrb : 0 ≤ rk ∧ rk ≤ 8 := by
      have h := rkW_in (k := kd) ⟨by omega, hkin.2⟩
      rw [← hrk] at h
      exact ⟨h.1, h.2.1⟩
    have hr1 : rk = 0 ↔ kd = 1 := by rw [hrk]; exact rkW_1 ⟨by omega, hkin.2⟩
    have hfe := fuR_fu P ns (k := kd) ⟨by omega, hkin.2⟩
    rw [← hrk] at hfe
    refine at_aload_n 23 X rfl rfl dX12_clause_22 rfl ?_
    refine m_getIV 26 X ((k : Nat) : Int) ((hf_F1.2 7 (by omega)).trans hcl) f_X12_208 k_125 rn_125_7 dX12_clause_23 rfl ?_
    refine at_bipush 28 X (by decide) (by decide) dX12_clause_26 rfl ?_
    refine at_icmp_eq 31 39 X dX12_clause_28 rfl (by decide) (fun h28 => ?_) (fun h28 => ?_)
    · refine at_aload_n 40 X rfl rfl dX12_clause_39 rfl ?_
      refine at_iconst 41 X (by decide) dX12_clause_40 rfl ?_
      refine at_aload_n 42 X rfl rfl dX12_clause_41 rfl ?_
      refine m_getIV 45 X ((sk B n t.1 : Nat) : Int) hat_F1 f_X12_161 k_125 rn_125_4 dX12_clause_42 rfl ?_
      refine at_callV 48 X _ 12 (c12_fl hG F1 B n t hP_F1 h0 3 ((sk B n t.1 : Nat) : Int) (by decide) (flT (twT B n t) 3) (flT_tw h0 3)) clX12 rfl k_125 mo_X12_wrong w_1998 vo_X12_wrong.1 vo_X12_wrong.2 rfl rfl (crm Rt (by decide)) (Nat.le_of_ble_eq_true rfl) dX12_clause_45 rfl ?_
      rintro _ _ ⟨rfl, H3, rfl, hP_H3, hf_H3⟩
      refine at_goto 71 X dX12_clause_48 (by decide) ?_
      exact at_sub _ (by exact ⟨rfl, rfl, trivial⟩) (J71 H3 (fun q => by rw [(show (hdT B n k t P ns) = flT (twT B n t) 3 by first | (rw [hh, if_pos hk0]; done) | (rw [hh, if_neg hk0, if_pos (Or.inl (by omega))]; done) | (rw [hh, if_neg hk0, if_pos (Or.inr (by rw [← hfe]; exact h36))]; done) | (rw [hh, if_neg hk0, if_neg (by rintro (q | q); omega; exact h36 (hfe.trans q)), if_pos ⟨by omega, by omega⟩]; done) | (rw [hh, if_neg hk0, if_neg (by rintro (q | q); omega; exact h36 (hfe.trans q)), if_neg (by rintro ⟨q1, q2⟩; omega)]; done))] at q; exact absurd q (flT_fk (by decide))) (fun q => by rw [(show (hdT B n k t P ns) = flT (twT B n t) 3 by first | (rw [hh, if_pos hk0]; done) | (rw [hh, if_neg hk0, if_pos (Or.inl (by omega))]; done) | (rw [hh, if_neg hk0, if_pos (Or.inr (by rw [← hfe]; exact h36))]; done) | (rw [hh, if_neg hk0, if_neg (by rintro (q | q); omega; exact h36 (hfe.trans q)), if_pos ⟨by omega, by omega⟩]; done) | (rw [hh, if_neg hk0, if_neg (by rintro (q | q); omega; exact h36 (hfe.trans q)), if_neg (by rintro ⟨q1, q2⟩; omega)]; done))]; exact hP_H3) (hf_F1.tr hf_H3) (by rw [(show (hdT B n k t P ns) = flT (twT B n t) 3 by first | (rw [hh, if_pos hk0]; done) | (rw [hh, if_neg hk0, if_pos (Or.inl (by omega))]; done) | (rw [hh, if_neg hk0, if_pos (Or.inr (by rw [← hfe]; exact h36))]; done) | (rw [hh, if_neg hk0, if_neg (by rintro (q | q); omega; exact h36 (hfe.trans q)), if_pos ⟨by omega, by omega⟩]; done) | (rw [hh, if_neg hk0, if_neg (by rintro (q | q); omega; exact h36 (hfe.trans q)), if_neg (by rintro ⟨q1, q2⟩; omega)]; done))]; exact rfk hP_H3))
    · refine at_aload_n 32 X rfl rfl dX12_clause_31 rfl ?_
      refine at_iload_n 33 X rfl rfl dX12_clause_32 rfl ?_
      refine at_callV 36 X _ 12 (ct_X12_isFull hG F1 P Q hP (hD.fr hq_F1) hB ns ((hf_F1.2 27 (by omega)).trans hns) hn12 rk) clX12 rfl k_125 mo_X12_isFull w_2002 vo_X12_isFull.1 vo_X12_isFull.2 rfl rfl (crm Rt (by decide)) (Nat.le_of_ble_eq_true rfl) dX12_clause_33 rfl ?_
      rintro _ _ ⟨rfl, rfl⟩
      refine at_if_eq 39 51 X dX12_clause_36 rfl (by decide) (fun h36 => ?_) (fun h36 => ?_)
      · have h36 : ¬ (fuR P ns rk = true) := ite_no.mp h36
        refine at_iload_n 52 X rfl rfl dX12_clause_51 rfl ?_
        refine at_if_ne 55 71 X dX12_clause_52 rfl (by decide) (fun h52 => ?_) (fun h52 => ?_)
        · exact at_sub _ (by exact ⟨rfl, rfl, trivial⟩) (J71 F1 (fun q => ⟨hP_F1, hat_F1⟩) (fun q => by rw [(show (hdT B n k t P ns) = twT B n t by first | (rw [hh, if_pos hk0]; done) | (rw [hh, if_neg hk0, if_pos (Or.inl (by omega))]; done) | (rw [hh, if_neg hk0, if_pos (Or.inr (by rw [← hfe]; exact h36))]; done) | (rw [hh, if_neg hk0, if_neg (by rintro (q | q); omega; exact h36 (hfe.trans q)), if_pos ⟨by omega, by omega⟩]; done) | (rw [hh, if_neg hk0, if_neg (by rintro (q | q); omega; exact h36 (hfe.trans q)), if_neg (by rintro ⟨q1, q2⟩; omega)]; done)), tw_fk] at q; exact absurd h0 q) hf_F1 (by rw [(show (hdT B n k t P ns) = twT B n t by first | (rw [hh, if_pos hk0]; done) | (rw [hh, if_neg hk0, if_pos (Or.inl (by omega))]; done) | (rw [hh, if_neg hk0, if_pos (Or.inr (by rw [← hfe]; exact h36))]; done) | (rw [hh, if_neg hk0, if_neg (by rintro (q | q); omega; exact h36 (hfe.trans q)), if_pos ⟨by omega, by omega⟩]; done) | (rw [hh, if_neg hk0, if_neg (by rintro (q | q); omega; exact h36 (hfe.trans q)), if_neg (by rintro ⟨q1, q2⟩; omega)]; done)), tw_fk]; exact rfk hP_F1))
        · refine at_aload_n 56 X rfl rfl dX12_clause_55 rfl ?_
          refine m_getIV 59 X ((k : Nat) : Int) ((hf_F1.2 7 (by omega)).trans hcl) f_X12_208 k_125 rn_125_7 dX12_clause_56 rfl ?_
          refine at_if_le 62 71 X dX12_clause_59 rfl (by decide) (fun h59 => ?_) (fun h59 => ?_)
          · exact at_sub _ (by exact ⟨rfl, rfl, trivial⟩) (J71 F1 (fun q => ⟨hP_F1, hat_F1⟩) (fun q => by rw [(show (hdT B n k t P ns) = twT B n t by first | (rw [hh, if_pos hk0]; done) | (rw [hh, if_neg hk0, if_pos (Or.inl (by omega))]; done) | (rw [hh, if_neg hk0, if_pos (Or.inr (by rw [← hfe]; exact h36))]; done) | (rw [hh, if_neg hk0, if_neg (by rintro (q | q); omega; exact h36 (hfe.trans q)), if_pos ⟨by omega, by omega⟩]; done) | (rw [hh, if_neg hk0, if_neg (by rintro (q | q); omega; exact h36 (hfe.trans q)), if_neg (by rintro ⟨q1, q2⟩; omega)]; done)), tw_fk] at q; exact absurd h0 q) hf_F1 (by rw [(show (hdT B n k t P ns) = twT B n t by first | (rw [hh, if_pos hk0]; done) | (rw [hh, if_neg hk0, if_pos (Or.inl (by omega))]; done) | (rw [hh, if_neg hk0, if_pos (Or.inr (by rw [← hfe]; exact h36))]; done) | (rw [hh, if_neg hk0, if_neg (by rintro (q | q); omega; exact h36 (hfe.trans q)), if_pos ⟨by omega, by omega⟩]; done) | (rw [hh, if_neg hk0, if_neg (by rintro (q | q); omega; exact h36 (hfe.trans q)), if_neg (by rintro ⟨q1, q2⟩; omega)]; done)), tw_fk]; exact rfk hP_F1))
          · refine at_aload_n 63 X rfl rfl dX12_clause_62 rfl ?_
            refine at_iconst 64 X (by decide) dX12_clause_63 rfl ?_
            refine at_aload_n 65 X rfl rfl dX12_clause_64 rfl ?_
            refine m_getIV 68 X ((sk B n t.1 : Nat) : Int) hat_F1 f_X12_161 k_125 rn_125_4 dX12_clause_65 rfl ?_
            refine at_callV 71 X _ 12 (c12_fl hG F1 B n t hP_F1 h0 4 ((sk B n t.1 : Nat) : Int) (by decide) (flT (twT B n t) 4) (flT_tw h0 4)) clX12 rfl k_125 mo_X12_wrong w_1998 vo_X12_wrong.1 vo_X12_wrong.2 rfl rfl (crm Rt (by decide)) (Nat.le_of_ble_eq_true rfl) dX12_clause_68 rfl ?_
            rintro _ _ ⟨rfl, H4, rfl, hP_H4, hf_H4⟩
            exact at_sub _ (by exact ⟨rfl, rfl, trivial⟩) (J71 H4 (fun q => by rw [(show (hdT B n k t P ns) = flT (twT B n t) 4 by first | (rw [hh, if_pos hk0]; done) | (rw [hh, if_neg hk0, if_pos (Or.inl (by omega))]; done) | (rw [hh, if_neg hk0, if_pos (Or.inr (by rw [← hfe]; exact h36))]; done) | (rw [hh, if_neg hk0, if_neg (by rintro (q | q); omega; exact h36 (hfe.trans q)), if_pos ⟨by omega, by omega⟩]; done) | (rw [hh, if_neg hk0, if_neg (by rintro (q | q); omega; exact h36 (hfe.trans q)), if_neg (by rintro ⟨q1, q2⟩; omega)]; done))] at q; exact absurd q (flT_fk (by decide))) (fun q => by rw [(show (hdT B n k t P ns) = flT (twT B n t) 4 by first | (rw [hh, if_pos hk0]; done) | (rw [hh, if_neg hk0, if_pos (Or.inl (by omega))]; done) | (rw [hh, if_neg hk0, if_pos (Or.inr (by rw [← hfe]; exact h36))]; done) | (rw [hh, if_neg hk0, if_neg (by rintro (q | q); omega; exact h36 (hfe.trans q)), if_pos ⟨by omega, by omega⟩]; done) | (rw [hh, if_neg hk0, if_neg (by rintro (q | q); omega; exact h36 (hfe.trans q)), if_neg (by rintro ⟨q1, q2⟩; omega)]; done))]; exact hP_H4) (hf_F1.tr hf_H4) (by rw [(show (hdT B n k t P ns) = flT (twT B n t) 4 by first | (rw [hh, if_pos hk0]; done) | (rw [hh, if_neg hk0, if_pos (Or.inl (by omega))]; done) | (rw [hh, if_neg hk0, if_pos (Or.inr (by rw [← hfe]; exact h36))]; done) | (rw [hh, if_neg hk0, if_neg (by rintro (q | q); omega; exact h36 (hfe.trans q)), if_pos ⟨by omega, by omega⟩]; done) | (rw [hh, if_neg hk0, if_neg (by rintro (q | q); omega; exact h36 (hfe.trans q)), if_neg (by rintro ⟨q1, q2⟩; omega)]; done))]; exact rfk hP_H4))
      · have h36 : (fuR P ns rk = true) := ite_yes.mp h36
        refine at_aload_n 40 X rfl rfl dX12_clause_39 rfl ?_
        refine at_iconst 41 X (by decide) dX12_clause_40 rfl ?_
        refine at_aload_n 42 X rfl rfl dX12_clause_41 rfl ?_
        refine m_getIV 45 X ((sk B n t.1 : Nat) : Int) hat_F1 f_X12_161 k_125 rn_125_4 dX12_clause_42 rfl ?_
        refine at_callV 48 X _ 12 (c12_fl hG F1 B n t hP_F1 h0 3 ((sk B n t.1 : Nat) : Int) (by decide) (flT (twT B n t) 3) (flT_tw h0 3)) clX12 rfl k_125 mo_X12_wrong w_1998 vo_X12_wrong.1 vo_X12_wrong.2 rfl rfl (crm Rt (by decide)) (Nat.le_of_ble_eq_true rfl) dX12_clause_45 rfl ?_
        rintro _ _ ⟨rfl, H3, rfl, hP_H3, hf_H3⟩
        refine at_goto 71 X dX12_clause_48 (by decide) ?_
        exact at_sub _ (by exact ⟨rfl, rfl, trivial⟩) (J71 H3 (fun q => by rw [(show (hdT B n k t P ns) = flT (twT B n t) 3 by first | (rw [hh, if_pos hk0]; done) | (rw [hh, if_neg hk0, if_pos (Or.inl (by omega))]; done) | (rw [hh, if_neg hk0, if_pos (Or.inr (by rw [← hfe]; exact h36))]; done) | (rw [hh, if_neg hk0, if_neg (by rintro (q | q); omega; exact h36 (hfe.trans q)), if_pos ⟨by omega, by omega⟩]; done) | (rw [hh, if_neg hk0, if_neg (by rintro (q | q); omega; exact h36 (hfe.trans q)), if_neg (by rintro ⟨q1, q2⟩; omega)]; done))] at q; exact absurd q (flT_fk (by decide))) (fun q => by rw [(show (hdT B n k t P ns) = flT (twT B n t) 3 by first | (rw [hh, if_pos hk0]; done) | (rw [hh, if_neg hk0, if_pos (Or.inl (by omega))]; done) | (rw [hh, if_neg hk0, if_pos (Or.inr (by rw [← hfe]; exact h36))]; done) | (rw [hh, if_neg hk0, if_neg (by rintro (q | q); omega; exact h36 (hfe.trans q)), if_pos ⟨by omega, by omega⟩]; done) | (rw [hh, if_neg hk0, if_neg (by rintro (q | q); omega; exact h36 (hfe.trans q)), if_neg (by rintro ⟨q1, q2⟩; omega)]; done))]; exact hP_H3) (hf_F1.tr hf_H3) (by rw [(show (hdT B n k t P ns) = flT (twT B n t) 3 by first | (rw [hh, if_pos hk0]; done) | (rw [hh, if_neg hk0, if_pos (Or.inl (by omega))]; done) | (rw [hh, if_neg hk0, if_pos (Or.inr (by rw [← hfe]; exact h36))]; done) | (rw [hh, if_neg hk0, if_neg (by rintro (q | q); omega; exact h36 (hfe.trans q)), if_pos ⟨by omega, by omega⟩]; done) | (rw [hh, if_neg hk0, if_neg (by rintro (q | q); omega; exact h36 (hfe.trans q)), if_neg (by rintro ⟨q1, q2⟩; omega)]; done))]; exact rfk hP_H3))
  · have hk0 : kd = 0 := by
      by_cases c : kd = 0
      · exact c
      · have h := (rkW_in (k := kd) ⟨by omega, hkin.2⟩).1
        rw [← hrk] at h
        omega
    refine at_aload_n 11 X rfl rfl dX12_clause_10 rfl ?_
    refine at_iconst 12 X (by decide) dX12_clause_11 rfl ?_
    refine at_aload_n 13 X rfl rfl dX12_clause_12 rfl ?_
    refine m_getIV 16 X ((sk B n t.1 : Nat) : Int) hat_F1 f_X12_161 k_125 rn_125_4 dX12_clause_13 rfl ?_
    refine at_callV 19 X _ 12 (c12_fl hG F1 B n t hP_F1 h0 1 ((sk B n t.1 : Nat) : Int) (by decide) (flT (twT B n t) 1) (flT_tw h0 1)) clX12 rfl k_125 mo_X12_wrong w_1998 vo_X12_wrong.1 vo_X12_wrong.2 rfl rfl (crm Rt (by decide)) (Nat.le_of_ble_eq_true rfl) dX12_clause_16 rfl ?_
    rintro _ _ ⟨rfl, H1, rfl, hP_H1, hf_H1⟩
    refine at_goto 71 X dX12_clause_19 (by decide) ?_
    exact at_sub _ (by exact ⟨rfl, rfl, trivial⟩) (J71 H1 (fun q => by rw [(show (hdT B n k t P ns) = flT (twT B n t) 1 by first | (rw [hh, if_pos hk0]; done) | (rw [hh, if_neg hk0, if_pos (Or.inl (by omega))]; done) | (rw [hh, if_neg hk0, if_pos (Or.inr (by rw [← hfe]; exact h36))]; done) | (rw [hh, if_neg hk0, if_neg (by rintro (q | q); omega; exact h36 (hfe.trans q)), if_pos ⟨by omega, by omega⟩]; done) | (rw [hh, if_neg hk0, if_neg (by rintro (q | q); omega; exact h36 (hfe.trans q)), if_neg (by rintro ⟨q1, q2⟩; omega)]; done))] at q; exact absurd q (flT_fk (by decide))) (fun q => by rw [(show (hdT B n k t P ns) = flT (twT B n t) 1 by first | (rw [hh, if_pos hk0]; done) | (rw [hh, if_neg hk0, if_pos (Or.inl (by omega))]; done) | (rw [hh, if_neg hk0, if_pos (Or.inr (by rw [← hfe]; exact h36))]; done) | (rw [hh, if_neg hk0, if_neg (by rintro (q | q); omega; exact h36 (hfe.trans q)), if_pos ⟨by omega, by omega⟩]; done) | (rw [hh, if_neg hk0, if_neg (by rintro (q | q); omega; exact h36 (hfe.trans q)), if_neg (by rintro ⟨q1, q2⟩; omega)]; done))]; exact hP_H1) (hf_F1.tr hf_H1) (by rw [(show (hdT B n k t P ns) = flT (twT B n t) 1 by first | (rw [hh, if_pos hk0]; done) | (rw [hh, if_neg hk0, if_pos (Or.inl (by omega))]; done) | (rw [hh, if_neg hk0, if_pos (Or.inr (by rw [← hfe]; exact h36))]; done) | (rw [hh, if_neg hk0, if_neg (by rintro (q | q); omega; exact h36 (hfe.trans q)), if_pos ⟨by omega, by omega⟩]; done) | (rw [hh, if_neg hk0, if_neg (by rintro (q | q); omega; exact h36 (hfe.trans q)), if_neg (by rintro ⟨q1, q2⟩; omega)]; done))]; exact rfk hP_H1))
