theorem dL_street_0 : decode cL_street 0 = .ok (.aload_n 2, 1) := by decide +kernel
theorem dL_street_1 : decode cL_street 1 = .ok (.iconst 0, 1) := by decide +kernel
theorem dL_street_2 : decode cL_street 2 = .ok (.aload_n 0, 1) := by decide +kernel
theorem dL_street_3 : decode cL_street 3 = .ok (.iload_n 1, 1) := by decide +kernel
theorem dL_street_4 : decode cL_street 4 = .ok (.invokevirtual 7, 3) := by decide +kernel
theorem dL_street_7 : decode cL_street 7 = .ok (.i2l, 1) := by decide +kernel
theorem dL_street_8 : decode cL_street 8 = .ok (.lastore, 1) := by decide +kernel
theorem dL_street_9 : decode cL_street 9 = .ok (.goto 6, 3) := by decide +kernel
theorem dL_street_12 : decode cL_street 12 = .ok (.astore_n 3, 1) := by decide +kernel
theorem dL_street_13 : decode cL_street 13 = .ok (.iconst 1, 1) := by decide +kernel
theorem dL_street_14 : decode cL_street 14 = .ok (.ireturn, 1) := by decide +kernel
theorem dL_street_15 : decode cL_street 15 = .ok (.iconst 0, 1) := by decide +kernel
theorem dL_street_16 : decode cL_street 16 = .ok (.ireturn, 1) := by decide +kernel
theorem lh_street {g : Gw} (hG : GF g) {fr lo mc ms : Nat} (E : Mm) (x0 : Int) (M : Nat → Int → Mm → Prop) (hX : CTX g yX11_street cX11_street 3 (some .int) fr lo mc ms K2 false [mR 0, mI x0] (ov E) K2 false (fun r D' => ∃ (v : Int) (E1 : Mm), r = some (mI v) ∧ D' = ov E1 ∧ M 0 v E1) (fun X D' => ∃ (c : Nat) (E1 : Mm), ((c = 1 ∧ X = "java/lang/IllegalArgumentException")) ∧ D' = ov E1 ∧ M c 0 E1)) : CTH g yL_street cL_street 4 (some .int) [(0, 9, 12, 13)] (fr + 1) (lo + 22) mc ms K2 false [mR 0, mI x0, mR 813] (ov E) K2 false (fun r D' => ∃ (c : Nat) (v : Int) (E1 : Mm), r = some (mI (c : Int)) ∧ M c v E1 ∧ D' = ov (if c = 0 then wr E1 813 0 v else E1)) := by
  refine CTH.mk hG (by decide +kernel) (Nat.le_of_ble_eq_true rfl) (fun κ X Rt htab ok => ?_)
  refine at_aload_n 1 X rfl rfl dL_street_0 rfl ?_
  refine at_iconst 2 X (by decide) dL_street_1 rfl ?_
  refine at_aload_n 3 X rfl rfl dL_street_2 rfl ?_
  refine at_iload_n 4 X rfl rfl dL_street_3 rfl ?_
  refine at_callVH 7 X htab 0 11 hX clX11 rfl k_0 mo_X11_street w_855 vo_X11_street.1 vo_X11_street.2 rfl rfl (crm Rt ⟨Nat.le_refl _, by omega, by omega, by omega⟩) (Nat.le_of_ble_eq_true rfl) dL_street_4 rfl ?_ ?_
  · rintro _ _ ⟨c, E1, ⟨rfl, rfl⟩, rfl, hM⟩
    refine ⟨tableOf [], _, tableOf [], "java/lang/IllegalArgumentException", rfl, (fun w hw => by cases hw), rfl, by decide, w_854, w_869, fun q => ?_⟩
    refine at_xstore_n 13 X rfl dL_street_12 rfl (by decide) ?_
    refine at_iconst 14 X (by decide) dL_street_13 rfl ?_
    exact at_iret X Rt ⟨1, 0, E1, rfl, hM, rfl⟩ (by omega) (by omega) dL_street_14
  rintro _ _ ⟨v, E1, rfl, rfl, hM⟩
  refine at_i2l 8 X dL_street_7 rfl ?_
  refine m_lastore 9 X k_813 e_813 (by decide) (by decide) dL_street_8 rfl ?_
  refine at_goto 15 X dL_street_9 (by decide) ?_
  refine at_iconst 16 X (by decide) dL_street_15 rfl ?_
  exact at_iret X Rt ⟨0, v, E1, rfl, hM, rfl⟩ (by omega) (by omega) dL_street_16
theorem dL_law_0 : decode cL_law 0 = .ok (.aload_n 2, 1) := by decide +kernel
theorem dL_law_1 : decode cL_law 1 = .ok (.iconst 0, 1) := by decide +kernel
theorem dL_law_2 : decode cL_law 2 = .ok (.aload_n 0, 1) := by decide +kernel
theorem dL_law_3 : decode cL_law 3 = .ok (.iload_n 1, 1) := by decide +kernel
theorem dL_law_4 : decode cL_law 4 = .ok (.invokevirtual 15, 3) := by decide +kernel
theorem dL_law_7 : decode cL_law 7 = .ok (.i2l, 1) := by decide +kernel
theorem dL_law_8 : decode cL_law 8 = .ok (.lastore, 1) := by decide +kernel
theorem dL_law_9 : decode cL_law 9 = .ok (.goto 6, 3) := by decide +kernel
theorem dL_law_12 : decode cL_law 12 = .ok (.astore_n 3, 1) := by decide +kernel
theorem dL_law_13 : decode cL_law 13 = .ok (.iconst 1, 1) := by decide +kernel
theorem dL_law_14 : decode cL_law 14 = .ok (.ireturn, 1) := by decide +kernel
theorem dL_law_15 : decode cL_law 15 = .ok (.iconst 0, 1) := by decide +kernel
theorem dL_law_16 : decode cL_law 16 = .ok (.ireturn, 1) := by decide +kernel
theorem lh_law {g : Gw} (hG : GF g) {fr lo mc ms : Nat} (E : Mm) (x0 : Int) (M : Nat → Int → Mm → Prop) (hX : CTX g yX11_law cX11_law 2 (some .int) fr lo mc ms K2 false [mR 0, mI x0] (ov E) K2 false (fun r D' => ∃ (v : Int) (E1 : Mm), r = some (mI v) ∧ D' = ov E1 ∧ M 0 v E1) (fun X D' => ∃ (c : Nat) (E1 : Mm), ((c = 1 ∧ X = "java/lang/IllegalArgumentException")) ∧ D' = ov E1 ∧ M c 0 E1)) : CTH g yL_law cL_law 4 (some .int) [(0, 9, 12, 13)] (fr + 1) (lo + 21) mc ms K2 false [mR 0, mI x0, mR 813] (ov E) K2 false (fun r D' => ∃ (c : Nat) (v : Int) (E1 : Mm), r = some (mI (c : Int)) ∧ M c v E1 ∧ D' = ov (if c = 0 then wr E1 813 0 v else E1)) := by
  refine CTH.mk hG (by decide +kernel) (Nat.le_of_ble_eq_true rfl) (fun κ X Rt htab ok => ?_)
  refine at_aload_n 1 X rfl rfl dL_law_0 rfl ?_
  refine at_iconst 2 X (by decide) dL_law_1 rfl ?_
  refine at_aload_n 3 X rfl rfl dL_law_2 rfl ?_
  refine at_iload_n 4 X rfl rfl dL_law_3 rfl ?_
  refine at_callVH 7 X htab 0 11 hX clX11 rfl k_0 mo_X11_law w_1108 vo_X11_law.1 vo_X11_law.2 rfl rfl (crm Rt ⟨Nat.le_refl _, by omega, by omega, by omega⟩) (Nat.le_of_ble_eq_true rfl) dL_law_4 rfl ?_ ?_
  · rintro _ _ ⟨c, E1, ⟨rfl, rfl⟩, rfl, hM⟩
    refine ⟨tableOf [], _, tableOf [], "java/lang/IllegalArgumentException", rfl, (fun w hw => by cases hw), rfl, by decide, w_854, w_869, fun q => ?_⟩
    refine at_xstore_n 13 X rfl dL_law_12 rfl (by decide) ?_
    refine at_iconst 14 X (by decide) dL_law_13 rfl ?_
    exact at_iret X Rt ⟨1, 0, E1, rfl, hM, rfl⟩ (by omega) (by omega) dL_law_14
  rintro _ _ ⟨v, E1, rfl, rfl, hM⟩
  refine at_i2l 8 X dL_law_7 rfl ?_
  refine m_lastore 9 X k_813 e_813 (by decide) (by decide) dL_law_8 rfl ?_
  refine at_goto 15 X dL_law_9 (by decide) ?_
  refine at_iconst 16 X (by decide) dL_law_15 rfl ?_
  exact at_iret X Rt ⟨0, v, E1, rfl, hM, rfl⟩ (by omega) (by omega) dL_law_16
theorem dL_moves_0 : decode cL_moves 0 = .ok (.aload_n 2, 1) := by decide +kernel
theorem dL_moves_1 : decode cL_moves 1 = .ok (.iconst 0, 1) := by decide +kernel
theorem dL_moves_2 : decode cL_moves 2 = .ok (.aload_n 0, 1) := by decide +kernel
theorem dL_moves_3 : decode cL_moves 3 = .ok (.iload_n 1, 1) := by decide +kernel
theorem dL_moves_4 : decode cL_moves 4 = .ok (.invokevirtual 18, 3) := by decide +kernel
theorem dL_moves_7 : decode cL_moves 7 = .ok (.i2l, 1) := by decide +kernel
theorem dL_moves_8 : decode cL_moves 8 = .ok (.lastore, 1) := by decide +kernel
theorem dL_moves_9 : decode cL_moves 9 = .ok (.goto 6, 3) := by decide +kernel
theorem dL_moves_12 : decode cL_moves 12 = .ok (.astore_n 3, 1) := by decide +kernel
theorem dL_moves_13 : decode cL_moves 13 = .ok (.iconst 1, 1) := by decide +kernel
theorem dL_moves_14 : decode cL_moves 14 = .ok (.ireturn, 1) := by decide +kernel
theorem dL_moves_15 : decode cL_moves 15 = .ok (.iconst 0, 1) := by decide +kernel
theorem dL_moves_16 : decode cL_moves 16 = .ok (.ireturn, 1) := by decide +kernel
theorem lh_moves {g : Gw} (hG : GF g) {fr lo mc ms : Nat} (E : Mm) (x0 : Int) (M : Nat → Int → Mm → Prop) (hX : CTX g yX11_moves cX11_moves 2 (some .int) fr lo mc ms K2 false [mR 0, mI x0] (ov E) K2 false (fun r D' => ∃ (v : Int) (E1 : Mm), r = some (mI v) ∧ D' = ov E1 ∧ M 0 v E1) (fun X D' => ∃ (c : Nat) (E1 : Mm), ((c = 1 ∧ X = "java/lang/IllegalArgumentException")) ∧ D' = ov E1 ∧ M c 0 E1)) : CTH g yL_moves cL_moves 4 (some .int) [(0, 9, 12, 13)] (fr + 1) (lo + 21) mc ms K2 false [mR 0, mI x0, mR 813] (ov E) K2 false (fun r D' => ∃ (c : Nat) (v : Int) (E1 : Mm), r = some (mI (c : Int)) ∧ M c v E1 ∧ D' = ov (if c = 0 then wr E1 813 0 v else E1)) := by
  refine CTH.mk hG (by decide +kernel) (Nat.le_of_ble_eq_true rfl) (fun κ X Rt htab ok => ?_)
  refine at_aload_n 1 X rfl rfl dL_moves_0 rfl ?_
  refine at_iconst 2 X (by decide) dL_moves_1 rfl ?_
  refine at_aload_n 3 X rfl rfl dL_moves_2 rfl ?_
  refine at_iload_n 4 X rfl rfl dL_moves_3 rfl ?_
  refine at_callVH 7 X htab 0 11 hX clX11 rfl k_0 mo_X11_moves w_1160 vo_X11_moves.1 vo_X11_moves.2 rfl rfl (crm Rt ⟨Nat.le_refl _, by omega, by omega, by omega⟩) (Nat.le_of_ble_eq_true rfl) dL_moves_4 rfl ?_ ?_
  · rintro _ _ ⟨c, E1, ⟨rfl, rfl⟩, rfl, hM⟩
    refine ⟨tableOf [], _, tableOf [], "java/lang/IllegalArgumentException", rfl, (fun w hw => by cases hw), rfl, by decide, w_854, w_869, fun q => ?_⟩
    refine at_xstore_n 13 X rfl dL_moves_12 rfl (by decide) ?_
    refine at_iconst 14 X (by decide) dL_moves_13 rfl ?_
    exact at_iret X Rt ⟨1, 0, E1, rfl, hM, rfl⟩ (by omega) (by omega) dL_moves_14
  rintro _ _ ⟨v, E1, rfl, rfl, hM⟩
  refine at_i2l 8 X dL_moves_7 rfl ?_
  refine m_lastore 9 X k_813 e_813 (by decide) (by decide) dL_moves_8 rfl ?_
  refine at_goto 15 X dL_moves_9 (by decide) ?_
  refine at_iconst 16 X (by decide) dL_moves_15 rfl ?_
  exact at_iret X Rt ⟨0, v, E1, rfl, hM, rfl⟩ (by omega) (by omega) dL_moves_16
theorem dL_book_0 : decode cL_book 0 = .ok (.aload_n 2, 1) := by decide +kernel
theorem dL_book_1 : decode cL_book 1 = .ok (.iconst 0, 1) := by decide +kernel
theorem dL_book_2 : decode cL_book 2 = .ok (.aload_n 0, 1) := by decide +kernel
theorem dL_book_3 : decode cL_book 3 = .ok (.iload_n 1, 1) := by decide +kernel
theorem dL_book_4 : decode cL_book 4 = .ok (.invokevirtual 21, 3) := by decide +kernel
theorem dL_book_7 : decode cL_book 7 = .ok (.i2l, 1) := by decide +kernel
theorem dL_book_8 : decode cL_book 8 = .ok (.lastore, 1) := by decide +kernel
theorem dL_book_9 : decode cL_book 9 = .ok (.goto 6, 3) := by decide +kernel
theorem dL_book_12 : decode cL_book 12 = .ok (.astore_n 3, 1) := by decide +kernel
theorem dL_book_13 : decode cL_book 13 = .ok (.iconst 1, 1) := by decide +kernel
theorem dL_book_14 : decode cL_book 14 = .ok (.ireturn, 1) := by decide +kernel
theorem dL_book_15 : decode cL_book 15 = .ok (.iconst 0, 1) := by decide +kernel
theorem dL_book_16 : decode cL_book 16 = .ok (.ireturn, 1) := by decide +kernel
theorem lh_book {g : Gw} (hG : GF g) {fr lo mc ms : Nat} (E : Mm) (x0 : Int) (M : Nat → Int → Mm → Prop) (hX : CTX g yX11_book cX11_book 2 (some .int) fr lo mc ms K2 false [mR 0, mI x0] (ov E) K2 false (fun r D' => ∃ (v : Int) (E1 : Mm), r = some (mI v) ∧ D' = ov E1 ∧ M 0 v E1) (fun X D' => ∃ (c : Nat) (E1 : Mm), ((c = 1 ∧ X = "java/lang/IllegalArgumentException")) ∧ D' = ov E1 ∧ M c 0 E1)) : CTH g yL_book cL_book 4 (some .int) [(0, 9, 12, 13)] (fr + 1) (lo + 21) mc ms K2 false [mR 0, mI x0, mR 813] (ov E) K2 false (fun r D' => ∃ (c : Nat) (v : Int) (E1 : Mm), r = some (mI (c : Int)) ∧ M c v E1 ∧ D' = ov (if c = 0 then wr E1 813 0 v else E1)) := by
  refine CTH.mk hG (by decide +kernel) (Nat.le_of_ble_eq_true rfl) (fun κ X Rt htab ok => ?_)
  refine at_aload_n 1 X rfl rfl dL_book_0 rfl ?_
  refine at_iconst 2 X (by decide) dL_book_1 rfl ?_
  refine at_aload_n 3 X rfl rfl dL_book_2 rfl ?_
  refine at_iload_n 4 X rfl rfl dL_book_3 rfl ?_
  refine at_callVH 7 X htab 0 11 hX clX11 rfl k_0 mo_X11_book w_1184 vo_X11_book.1 vo_X11_book.2 rfl rfl (crm Rt ⟨Nat.le_refl _, by omega, by omega, by omega⟩) (Nat.le_of_ble_eq_true rfl) dL_book_4 rfl ?_ ?_
  · rintro _ _ ⟨c, E1, ⟨rfl, rfl⟩, rfl, hM⟩
    refine ⟨tableOf [], _, tableOf [], "java/lang/IllegalArgumentException", rfl, (fun w hw => by cases hw), rfl, by decide, w_854, w_869, fun q => ?_⟩
    refine at_xstore_n 13 X rfl dL_book_12 rfl (by decide) ?_
    refine at_iconst 14 X (by decide) dL_book_13 rfl ?_
    exact at_iret X Rt ⟨1, 0, E1, rfl, hM, rfl⟩ (by omega) (by omega) dL_book_14
  rintro _ _ ⟨v, E1, rfl, rfl, hM⟩
  refine at_i2l 8 X dL_book_7 rfl ?_
  refine m_lastore 9 X k_813 e_813 (by decide) (by decide) dL_book_8 rfl ?_
  refine at_goto 15 X dL_book_9 (by decide) ?_
  refine at_iconst 16 X (by decide) dL_book_15 rfl ?_
  exact at_iret X Rt ⟨0, v, E1, rfl, hM, rfl⟩ (by omega) (by omega) dL_book_16
theorem dL_told_0 : decode cL_told 0 = .ok (.aload_n 2, 1) := by decide +kernel
theorem dL_told_1 : decode cL_told 1 = .ok (.iconst 0, 1) := by decide +kernel
theorem dL_told_2 : decode cL_told 2 = .ok (.aload_n 0, 1) := by decide +kernel
theorem dL_told_3 : decode cL_told 3 = .ok (.iload_n 1, 1) := by decide +kernel
theorem dL_told_4 : decode cL_told 4 = .ok (.invokevirtual 24, 3) := by decide +kernel
theorem dL_told_7 : decode cL_told 7 = .ok (.i2l, 1) := by decide +kernel
theorem dL_told_8 : decode cL_told 8 = .ok (.lastore, 1) := by decide +kernel
theorem dL_told_9 : decode cL_told 9 = .ok (.goto 6, 3) := by decide +kernel
theorem dL_told_12 : decode cL_told 12 = .ok (.astore_n 3, 1) := by decide +kernel
theorem dL_told_13 : decode cL_told 13 = .ok (.iconst 1, 1) := by decide +kernel
theorem dL_told_14 : decode cL_told 14 = .ok (.ireturn, 1) := by decide +kernel
theorem dL_told_15 : decode cL_told 15 = .ok (.iconst 0, 1) := by decide +kernel
theorem dL_told_16 : decode cL_told 16 = .ok (.ireturn, 1) := by decide +kernel
theorem lh_told {g : Gw} (hG : GF g) {fr lo mc ms : Nat} (E : Mm) (x0 : Int) (M : Nat → Int → Mm → Prop) (hX : CTX g yX11_told cX11_told 2 (some .int) fr lo mc ms K2 false [mR 0, mI x0] (ov E) K2 false (fun r D' => ∃ (v : Int) (E1 : Mm), r = some (mI v) ∧ D' = ov E1 ∧ M 0 v E1) (fun X D' => ∃ (c : Nat) (E1 : Mm), ((c = 1 ∧ X = "java/lang/IllegalArgumentException")) ∧ D' = ov E1 ∧ M c 0 E1)) : CTH g yL_told cL_told 4 (some .int) [(0, 9, 12, 13)] (fr + 1) (lo + 21) mc ms K2 false [mR 0, mI x0, mR 813] (ov E) K2 false (fun r D' => ∃ (c : Nat) (v : Int) (E1 : Mm), r = some (mI (c : Int)) ∧ M c v E1 ∧ D' = ov (if c = 0 then wr E1 813 0 v else E1)) := by
  refine CTH.mk hG (by decide +kernel) (Nat.le_of_ble_eq_true rfl) (fun κ X Rt htab ok => ?_)
  refine at_aload_n 1 X rfl rfl dL_told_0 rfl ?_
  refine at_iconst 2 X (by decide) dL_told_1 rfl ?_
  refine at_aload_n 3 X rfl rfl dL_told_2 rfl ?_
  refine at_iload_n 4 X rfl rfl dL_told_3 rfl ?_
  refine at_callVH 7 X htab 0 11 hX clX11 rfl k_0 mo_X11_told w_1195 vo_X11_told.1 vo_X11_told.2 rfl rfl (crm Rt ⟨Nat.le_refl _, by omega, by omega, by omega⟩) (Nat.le_of_ble_eq_true rfl) dL_told_4 rfl ?_ ?_
  · rintro _ _ ⟨c, E1, ⟨rfl, rfl⟩, rfl, hM⟩
    refine ⟨tableOf [], _, tableOf [], "java/lang/IllegalArgumentException", rfl, (fun w hw => by cases hw), rfl, by decide, w_854, w_869, fun q => ?_⟩
    refine at_xstore_n 13 X rfl dL_told_12 rfl (by decide) ?_
    refine at_iconst 14 X (by decide) dL_told_13 rfl ?_
    exact at_iret X Rt ⟨1, 0, E1, rfl, hM, rfl⟩ (by omega) (by omega) dL_told_14
  rintro _ _ ⟨v, E1, rfl, rfl, hM⟩
  refine at_i2l 8 X dL_told_7 rfl ?_
  refine m_lastore 9 X k_813 e_813 (by decide) (by decide) dL_told_8 rfl ?_
  refine at_goto 15 X dL_told_9 (by decide) ?_
  refine at_iconst 16 X (by decide) dL_told_15 rfl ?_
  exact at_iret X Rt ⟨0, v, E1, rfl, hM, rfl⟩ (by omega) (by omega) dL_told_16
theorem dL_post_0 : decode cL_post 0 = .ok (.aload_n 3, 1) := by decide +kernel
theorem dL_post_1 : decode cL_post 1 = .ok (.iconst 0, 1) := by decide +kernel
theorem dL_post_2 : decode cL_post 2 = .ok (.aload_n 0, 1) := by decide +kernel
theorem dL_post_3 : decode cL_post 3 = .ok (.iload_n 1, 1) := by decide +kernel
theorem dL_post_4 : decode cL_post 4 = .ok (.iload_n 2, 1) := by decide +kernel
theorem dL_post_5 : decode cL_post 5 = .ok (.invokevirtual 27, 3) := by decide +kernel
theorem dL_post_8 : decode cL_post 8 = .ok (.i2l, 1) := by decide +kernel
theorem dL_post_9 : decode cL_post 9 = .ok (.lastore, 1) := by decide +kernel
theorem dL_post_10 : decode cL_post 10 = .ok (.goto 11, 3) := by decide +kernel
theorem dL_post_13 : decode cL_post 13 = .ok (.astore 4, 2) := by decide +kernel
theorem dL_post_15 : decode cL_post 15 = .ok (.iconst 1, 1) := by decide +kernel
theorem dL_post_16 : decode cL_post 16 = .ok (.ireturn, 1) := by decide +kernel
theorem dL_post_17 : decode cL_post 17 = .ok (.astore 4, 2) := by decide +kernel
theorem dL_post_19 : decode cL_post 19 = .ok (.iconst 2, 1) := by decide +kernel
theorem dL_post_20 : decode cL_post 20 = .ok (.ireturn, 1) := by decide +kernel
theorem dL_post_21 : decode cL_post 21 = .ok (.iconst 0, 1) := by decide +kernel
theorem dL_post_22 : decode cL_post 22 = .ok (.ireturn, 1) := by decide +kernel
theorem lh_post {g : Gw} (hG : GF g) {fr lo mc ms : Nat} (E : Mm) (x0 x1 : Int) (M : Nat → Int → Mm → Prop) (hX : CTX g yX11_post cX11_post 3 (some .int) fr lo mc ms K2 false [mR 0, mI x0, mI x1] (ov E) K2 false (fun r D' => ∃ (v : Int) (E1 : Mm), r = some (mI v) ∧ D' = ov E1 ∧ M 0 v E1) (fun X D' => ∃ (c : Nat) (E1 : Mm), ((c = 1 ∧ X = "java/util/NoSuchElementException") ∨ (c = 2 ∧ X = "java/lang/IllegalArgumentException")) ∧ D' = ov E1 ∧ M c 0 E1)) : CTH g yL_post cL_post 5 (some .int) [(0, 10, 13, 31), (0, 10, 17, 13)] (fr + 1) (lo + 22) mc ms K2 false [mR 0, mI x0, mI x1, mR 813] (ov E) K2 false (fun r D' => ∃ (c : Nat) (v : Int) (E1 : Mm), r = some (mI (c : Int)) ∧ M c v E1 ∧ D' = ov (if c = 0 then wr E1 813 0 v else E1)) := by
  refine CTH.mk hG (by decide +kernel) (Nat.le_of_ble_eq_true rfl) (fun κ X Rt htab ok => ?_)
  refine at_aload_n 1 X rfl rfl dL_post_0 rfl ?_
  refine at_iconst 2 X (by decide) dL_post_1 rfl ?_
  refine at_aload_n 3 X rfl rfl dL_post_2 rfl ?_
  refine at_iload_n 4 X rfl rfl dL_post_3 rfl ?_
  refine at_iload_n 5 X rfl rfl dL_post_4 rfl ?_
  refine at_callVH 8 X htab 0 11 hX clX11 rfl k_0 mo_X11_post w_1203 vo_X11_post.1 vo_X11_post.2 rfl rfl (crm Rt ⟨Nat.le_refl _, by omega, by omega, by omega⟩) (Nat.le_of_ble_eq_true rfl) dL_post_5 rfl ?_ ?_
  · rintro _ _ ⟨c, E1, (⟨rfl, rfl⟩ | ⟨rfl, rfl⟩), rfl, hM⟩
    · refine ⟨tableOf [], _, tableOf [(0, 10, 17, 13)], "java/util/NoSuchElementException", rfl, (fun w hw => by cases hw), rfl, by decide, w_1202, w_1214, fun q => ?_⟩
      refine at_xstore 15 X dL_post_13 rfl (by decide) ?_
      refine at_iconst 16 X (by decide) dL_post_15 rfl ?_
      exact at_iret X Rt ⟨1, 0, E1, rfl, hM, rfl⟩ (by omega) (by omega) dL_post_16
    · refine ⟨tableOf [(0, 10, 13, 31)], _, tableOf [], "java/lang/IllegalArgumentException", rfl, (fun w hw => by
        rcases (by simpa [tableOf] using hw : w = ⟨0, 10, 13, 31⟩) with rfl
        · exact Or.inr ⟨by decide, "java/util/NoSuchElementException", w_1202, by decide, by decide, by decide⟩), rfl, by decide, w_854, w_869, fun q => ?_⟩
      refine at_xstore 19 X dL_post_17 rfl (by decide) ?_
      refine at_iconst 20 X (by decide) dL_post_19 rfl ?_
      exact at_iret X Rt ⟨2, 0, E1, rfl, hM, rfl⟩ (by omega) (by omega) dL_post_20
  rintro _ _ ⟨v, E1, rfl, rfl, hM⟩
  refine at_i2l 9 X dL_post_8 rfl ?_
  refine m_lastore 10 X k_813 e_813 (by decide) (by decide) dL_post_9 rfl ?_
  refine at_goto 21 X dL_post_10 (by decide) ?_
  refine at_iconst 22 X (by decide) dL_post_21 rfl ?_
  exact at_iret X Rt ⟨0, v, E1, rfl, hM, rfl⟩ (by omega) (by omega) dL_post_22
theorem dL_beam_0 : decode cL_beam 0 = .ok (.aload_n 3, 1) := by decide +kernel
theorem dL_beam_1 : decode cL_beam 1 = .ok (.iconst 0, 1) := by decide +kernel
theorem dL_beam_2 : decode cL_beam 2 = .ok (.aload_n 0, 1) := by decide +kernel
theorem dL_beam_3 : decode cL_beam 3 = .ok (.iload_n 1, 1) := by decide +kernel
theorem dL_beam_4 : decode cL_beam 4 = .ok (.iload_n 2, 1) := by decide +kernel
theorem dL_beam_5 : decode cL_beam 5 = .ok (.invokevirtual 33, 3) := by decide +kernel
theorem dL_beam_8 : decode cL_beam 8 = .ok (.i2l, 1) := by decide +kernel
theorem dL_beam_9 : decode cL_beam 9 = .ok (.lastore, 1) := by decide +kernel
theorem dL_beam_10 : decode cL_beam 10 = .ok (.goto 11, 3) := by decide +kernel
theorem dL_beam_13 : decode cL_beam 13 = .ok (.astore 4, 2) := by decide +kernel
theorem dL_beam_15 : decode cL_beam 15 = .ok (.iconst 1, 1) := by decide +kernel
theorem dL_beam_16 : decode cL_beam 16 = .ok (.ireturn, 1) := by decide +kernel
theorem dL_beam_17 : decode cL_beam 17 = .ok (.astore 4, 2) := by decide +kernel
theorem dL_beam_19 : decode cL_beam 19 = .ok (.iconst 2, 1) := by decide +kernel
theorem dL_beam_20 : decode cL_beam 20 = .ok (.ireturn, 1) := by decide +kernel
theorem dL_beam_21 : decode cL_beam 21 = .ok (.iconst 0, 1) := by decide +kernel
theorem dL_beam_22 : decode cL_beam 22 = .ok (.ireturn, 1) := by decide +kernel
theorem lh_beam {g : Gw} (hG : GF g) {fr lo mc ms : Nat} (E : Mm) (x0 x1 : Int) (M : Nat → Int → Mm → Prop) (hX : CTX g yX11_beam cX11_beam 3 (some .int) fr lo mc ms K2 false [mR 0, mI x0, mI x1] (ov E) K2 false (fun r D' => ∃ (v : Int) (E1 : Mm), r = some (mI v) ∧ D' = ov E1 ∧ M 0 v E1) (fun X D' => ∃ (c : Nat) (E1 : Mm), ((c = 1 ∧ X = "java/util/NoSuchElementException") ∨ (c = 2 ∧ X = "java/lang/IllegalArgumentException")) ∧ D' = ov E1 ∧ M c 0 E1)) : CTH g yL_beam cL_beam 5 (some .int) [(0, 10, 13, 31), (0, 10, 17, 13)] (fr + 1) (lo + 22) mc ms K2 false [mR 0, mI x0, mI x1, mR 813] (ov E) K2 false (fun r D' => ∃ (c : Nat) (v : Int) (E1 : Mm), r = some (mI (c : Int)) ∧ M c v E1 ∧ D' = ov (if c = 0 then wr E1 813 0 v else E1)) := by
  refine CTH.mk hG (by decide +kernel) (Nat.le_of_ble_eq_true rfl) (fun κ X Rt htab ok => ?_)
  refine at_aload_n 1 X rfl rfl dL_beam_0 rfl ?_
  refine at_iconst 2 X (by decide) dL_beam_1 rfl ?_
  refine at_aload_n 3 X rfl rfl dL_beam_2 rfl ?_
  refine at_iload_n 4 X rfl rfl dL_beam_3 rfl ?_
  refine at_iload_n 5 X rfl rfl dL_beam_4 rfl ?_
  refine at_callVH 8 X htab 0 11 hX clX11 rfl k_0 mo_X11_beam w_1235 vo_X11_beam.1 vo_X11_beam.2 rfl rfl (crm Rt ⟨Nat.le_refl _, by omega, by omega, by omega⟩) (Nat.le_of_ble_eq_true rfl) dL_beam_5 rfl ?_ ?_
  · rintro _ _ ⟨c, E1, (⟨rfl, rfl⟩ | ⟨rfl, rfl⟩), rfl, hM⟩
    · refine ⟨tableOf [], _, tableOf [(0, 10, 17, 13)], "java/util/NoSuchElementException", rfl, (fun w hw => by cases hw), rfl, by decide, w_1202, w_1214, fun q => ?_⟩
      refine at_xstore 15 X dL_beam_13 rfl (by decide) ?_
      refine at_iconst 16 X (by decide) dL_beam_15 rfl ?_
      exact at_iret X Rt ⟨1, 0, E1, rfl, hM, rfl⟩ (by omega) (by omega) dL_beam_16
    · refine ⟨tableOf [(0, 10, 13, 31)], _, tableOf [], "java/lang/IllegalArgumentException", rfl, (fun w hw => by
        rcases (by simpa [tableOf] using hw : w = ⟨0, 10, 13, 31⟩) with rfl
        · exact Or.inr ⟨by decide, "java/util/NoSuchElementException", w_1202, by decide, by decide, by decide⟩), rfl, by decide, w_854, w_869, fun q => ?_⟩
      refine at_xstore 19 X dL_beam_17 rfl (by decide) ?_
      refine at_iconst 20 X (by decide) dL_beam_19 rfl ?_
      exact at_iret X Rt ⟨2, 0, E1, rfl, hM, rfl⟩ (by omega) (by omega) dL_beam_20
  rintro _ _ ⟨v, E1, rfl, rfl, hM⟩
  refine at_i2l 9 X dL_beam_8 rfl ?_
  refine m_lastore 10 X k_813 e_813 (by decide) (by decide) dL_beam_9 rfl ?_
  refine at_goto 21 X dL_beam_10 (by decide) ?_
  refine at_iconst 22 X (by decide) dL_beam_21 rfl ?_
  exact at_iret X Rt ⟨0, v, E1, rfl, hM, rfl⟩ (by omega) (by omega) dL_beam_22
theorem dL_light_0 : decode cL_light 0 = .ok (.aload_n 3, 1) := by decide +kernel
theorem dL_light_1 : decode cL_light 1 = .ok (.iconst 0, 1) := by decide +kernel
theorem dL_light_2 : decode cL_light 2 = .ok (.aload_n 0, 1) := by decide +kernel
theorem dL_light_3 : decode cL_light 3 = .ok (.iload_n 1, 1) := by decide +kernel
theorem dL_light_4 : decode cL_light 4 = .ok (.iload_n 2, 1) := by decide +kernel
theorem dL_light_5 : decode cL_light 5 = .ok (.invokevirtual 36, 3) := by decide +kernel
theorem dL_light_8 : decode cL_light 8 = .ok (.i2l, 1) := by decide +kernel
theorem dL_light_9 : decode cL_light 9 = .ok (.lastore, 1) := by decide +kernel
theorem dL_light_10 : decode cL_light 10 = .ok (.goto 7, 3) := by decide +kernel
theorem dL_light_13 : decode cL_light 13 = .ok (.astore 4, 2) := by decide +kernel
theorem dL_light_15 : decode cL_light 15 = .ok (.iconst 1, 1) := by decide +kernel
theorem dL_light_16 : decode cL_light 16 = .ok (.ireturn, 1) := by decide +kernel
theorem dL_light_17 : decode cL_light 17 = .ok (.iconst 0, 1) := by decide +kernel
theorem dL_light_18 : decode cL_light 18 = .ok (.ireturn, 1) := by decide +kernel
theorem lh_light {g : Gw} (hG : GF g) {fr lo mc ms : Nat} (E : Mm) (x0 x1 : Int) (M : Nat → Int → Mm → Prop) (hX : CTX g yX11_light cX11_light 3 (some .int) fr lo mc ms K2 false [mR 0, mI x0, mI x1] (ov E) K2 false (fun r D' => ∃ (v : Int) (E1 : Mm), r = some (mI v) ∧ D' = ov E1 ∧ M 0 v E1) (fun X D' => ∃ (c : Nat) (E1 : Mm), ((c = 1 ∧ X = "java/lang/IllegalArgumentException")) ∧ D' = ov E1 ∧ M c 0 E1)) : CTH g yL_light cL_light 5 (some .int) [(0, 10, 13, 13)] (fr + 1) (lo + 22) mc ms K2 false [mR 0, mI x0, mI x1, mR 813] (ov E) K2 false (fun r D' => ∃ (c : Nat) (v : Int) (E1 : Mm), r = some (mI (c : Int)) ∧ M c v E1 ∧ D' = ov (if c = 0 then wr E1 813 0 v else E1)) := by
  refine CTH.mk hG (by decide +kernel) (Nat.le_of_ble_eq_true rfl) (fun κ X Rt htab ok => ?_)
  refine at_aload_n 1 X rfl rfl dL_light_0 rfl ?_
  refine at_iconst 2 X (by decide) dL_light_1 rfl ?_
  refine at_aload_n 3 X rfl rfl dL_light_2 rfl ?_
  refine at_iload_n 4 X rfl rfl dL_light_3 rfl ?_
  refine at_iload_n 5 X rfl rfl dL_light_4 rfl ?_
  refine at_callVH 8 X htab 0 11 hX clX11 rfl k_0 mo_X11_light w_1255 vo_X11_light.1 vo_X11_light.2 rfl rfl (crm Rt ⟨Nat.le_refl _, by omega, by omega, by omega⟩) (Nat.le_of_ble_eq_true rfl) dL_light_5 rfl ?_ ?_
  · rintro _ _ ⟨c, E1, ⟨rfl, rfl⟩, rfl, hM⟩
    refine ⟨tableOf [], _, tableOf [], "java/lang/IllegalArgumentException", rfl, (fun w hw => by cases hw), rfl, by decide, w_854, w_869, fun q => ?_⟩
    refine at_xstore 15 X dL_light_13 rfl (by decide) ?_
    refine at_iconst 16 X (by decide) dL_light_15 rfl ?_
    exact at_iret X Rt ⟨1, 0, E1, rfl, hM, rfl⟩ (by omega) (by omega) dL_light_16
  rintro _ _ ⟨v, E1, rfl, rfl, hM⟩
  refine at_i2l 9 X dL_light_8 rfl ?_
  refine m_lastore 10 X k_813 e_813 (by decide) (by decide) dL_light_9 rfl ?_
  refine at_goto 17 X dL_light_10 (by decide) ?_
  refine at_iconst 18 X (by decide) dL_light_17 rfl ?_
  exact at_iret X Rt ⟨0, v, E1, rfl, hM, rfl⟩ (by omega) (by omega) dL_light_18
theorem dL_shade_0 : decode cL_shade 0 = .ok (.aload 4, 2) := by decide +kernel
theorem dL_shade_2 : decode cL_shade 2 = .ok (.iconst 0, 1) := by decide +kernel
theorem dL_shade_3 : decode cL_shade 3 = .ok (.aload_n 0, 1) := by decide +kernel
theorem dL_shade_4 : decode cL_shade 4 = .ok (.iload_n 1, 1) := by decide +kernel
theorem dL_shade_5 : decode cL_shade 5 = .ok (.iload_n 2, 1) := by decide +kernel
theorem dL_shade_6 : decode cL_shade 6 = .ok (.iload_n 3, 1) := by decide +kernel
theorem dL_shade_7 : decode cL_shade 7 = .ok (.invokevirtual 39, 3) := by decide +kernel
theorem dL_shade_10 : decode cL_shade 10 = .ok (.ifCond .eq 7, 3) := by decide +kernel
theorem dL_shade_13 : decode cL_shade 13 = .ok (.lconst 1, 1) := by decide +kernel
theorem dL_shade_14 : decode cL_shade 14 = .ok (.goto 4, 3) := by decide +kernel
theorem dL_shade_17 : decode cL_shade 17 = .ok (.lconst 0, 1) := by decide +kernel
theorem dL_shade_18 : decode cL_shade 18 = .ok (.lastore, 1) := by decide +kernel
theorem dL_shade_19 : decode cL_shade 19 = .ok (.goto 15, 3) := by decide +kernel
theorem dL_shade_22 : decode cL_shade 22 = .ok (.astore 5, 2) := by decide +kernel
theorem dL_shade_24 : decode cL_shade 24 = .ok (.iconst 1, 1) := by decide +kernel
theorem dL_shade_25 : decode cL_shade 25 = .ok (.ireturn, 1) := by decide +kernel
theorem dL_shade_26 : decode cL_shade 26 = .ok (.astore 5, 2) := by decide +kernel
theorem dL_shade_28 : decode cL_shade 28 = .ok (.iconst 2, 1) := by decide +kernel
theorem dL_shade_29 : decode cL_shade 29 = .ok (.ireturn, 1) := by decide +kernel
theorem dL_shade_30 : decode cL_shade 30 = .ok (.astore 5, 2) := by decide +kernel
theorem dL_shade_32 : decode cL_shade 32 = .ok (.iconst 3, 1) := by decide +kernel
theorem dL_shade_33 : decode cL_shade 33 = .ok (.ireturn, 1) := by decide +kernel
theorem dL_shade_34 : decode cL_shade 34 = .ok (.iconst 0, 1) := by decide +kernel
theorem dL_shade_35 : decode cL_shade 35 = .ok (.ireturn, 1) := by decide +kernel
theorem lh_shade {g : Gw} (hG : GF g) {fr lo mc ms : Nat} (E : Mm) (x0 x1 x2 : Int) (M : Nat → Int → Mm → Prop) (hX : CTX g yX11_shade cX11_shade 4 (some .boolean) fr lo mc ms K2 false [mR 0, mI x0, mI x1, mI x2] (ov E) K2 false (fun r D' => ∃ (v : Int) (E1 : Mm), r = some (mI v) ∧ (v = 0 ∨ v = 1) ∧ D' = ov E1 ∧ M 0 v E1) (fun X D' => ∃ (c : Nat) (E1 : Mm), ((c = 1 ∧ X = "java/lang/IndexOutOfBoundsException") ∨ (c = 2 ∧ X = "java/util/NoSuchElementException") ∨ (c = 3 ∧ X = "java/lang/IllegalArgumentException")) ∧ D' = ov E1 ∧ M c 0 E1)) : CTH g yL_shade cL_shade 6 (some .int) [(0, 19, 22, 43), (0, 19, 26, 31), (0, 19, 30, 13)] (fr + 1) (lo + 23) mc ms K2 false [mR 0, mI x0, mI x1, mI x2, mR 813] (ov E) K2 false (fun r D' => ∃ (c : Nat) (v : Int) (E1 : Mm), r = some (mI (c : Int)) ∧ M c v E1 ∧ D' = ov (if c = 0 then wr E1 813 0 v else E1)) := by
  refine CTH.mk hG (by decide +kernel) (Nat.le_of_ble_eq_true rfl) (fun κ X Rt htab ok => ?_)
  refine at_aload 2 X rfl dL_shade_0 rfl ?_
  refine at_iconst 3 X (by decide) dL_shade_2 rfl ?_
  refine at_aload_n 4 X rfl rfl dL_shade_3 rfl ?_
  refine at_iload_n 5 X rfl rfl dL_shade_4 rfl ?_
  refine at_iload_n 6 X rfl rfl dL_shade_5 rfl ?_
  refine at_iload_n 7 X rfl rfl dL_shade_6 rfl ?_
  refine at_callVH 10 X htab 0 11 hX clX11 rfl k_0 mo_X11_shade w_1268 vo_X11_shade.1 vo_X11_shade.2 rfl rfl (crm Rt ⟨Nat.le_refl _, by omega, by omega, by omega⟩) (Nat.le_of_ble_eq_true rfl) dL_shade_7 rfl ?_ ?_
  · rintro _ _ ⟨c, E1, (⟨rfl, rfl⟩ | ⟨rfl, rfl⟩ | ⟨rfl, rfl⟩), rfl, hM⟩
    · refine ⟨tableOf [], _, tableOf [(0, 19, 26, 31), (0, 19, 30, 13)], "java/lang/IndexOutOfBoundsException", rfl, (fun w hw => by cases hw), rfl, by decide, w_1267, w_1278, fun q => ?_⟩
      refine at_xstore 24 X dL_shade_22 rfl (by decide) ?_
      refine at_iconst 25 X (by decide) dL_shade_24 rfl ?_
      exact at_iret X Rt ⟨1, 0, E1, rfl, hM, rfl⟩ (by omega) (by omega) dL_shade_25
    · refine ⟨tableOf [(0, 19, 22, 43)], _, tableOf [(0, 19, 30, 13)], "java/util/NoSuchElementException", rfl, (fun w hw => by
        rcases (by simpa [tableOf] using hw : w = ⟨0, 19, 22, 43⟩) with rfl
        · exact Or.inr ⟨by decide, "java/lang/IndexOutOfBoundsException", w_1267, by decide, by decide, by decide⟩), rfl, by decide, w_1202, w_1214, fun q => ?_⟩
      refine at_xstore 28 X dL_shade_26 rfl (by decide) ?_
      refine at_iconst 29 X (by decide) dL_shade_28 rfl ?_
      exact at_iret X Rt ⟨2, 0, E1, rfl, hM, rfl⟩ (by omega) (by omega) dL_shade_29
    · refine ⟨tableOf [(0, 19, 22, 43), (0, 19, 26, 31)], _, tableOf [], "java/lang/IllegalArgumentException", rfl, (fun w hw => by
        rcases (by simpa [tableOf] using hw : w = ⟨0, 19, 22, 43⟩ ∨ w = ⟨0, 19, 26, 31⟩) with rfl | rfl
        · exact Or.inr ⟨by decide, "java/lang/IndexOutOfBoundsException", w_1267, by decide, by decide, by decide⟩
        · exact Or.inr ⟨by decide, "java/util/NoSuchElementException", w_1202, by decide, by decide, by decide⟩), rfl, by decide, w_854, w_869, fun q => ?_⟩
      refine at_xstore 32 X dL_shade_30 rfl (by decide) ?_
      refine at_iconst 33 X (by decide) dL_shade_32 rfl ?_
      exact at_iret X Rt ⟨3, 0, E1, rfl, hM, rfl⟩ (by omega) (by omega) dL_shade_33
  rintro _ _ ⟨v, E1, rfl, hv, rfl, hM⟩
  refine at_if_eq 13 17 X dL_shade_10 rfl (by decide) (fun h => ?_) (fun h => ?_)
  · refine at_lconst 18 X (v := 0) (by decide) (by decide) dL_shade_17 rfl ?_
    refine m_lastore 19 X k_813 e_813 (by decide) (by decide) dL_shade_18 rfl ?_
    refine at_goto 34 X dL_shade_19 (by decide) ?_
    refine at_iconst 35 X (by decide) dL_shade_34 rfl ?_
    exact at_iret X Rt ⟨0, v, E1, rfl, hM, by rw [show v = 0 by omega]; rfl⟩ (by omega) (by omega) dL_shade_35
  · refine at_lconst 14 X (v := 1) (by decide) (by decide) dL_shade_13 rfl ?_
    refine at_goto 18 X dL_shade_14 (by decide) ?_
    refine m_lastore 19 X k_813 e_813 (by decide) (by decide) dL_shade_18 rfl ?_
    refine at_goto 34 X dL_shade_19 (by decide) ?_
    refine at_iconst 35 X (by decide) dL_shade_34 rfl ?_
    exact at_iret X Rt ⟨0, v, E1, rfl, hM, by rw [show v = 1 by omega]; rfl⟩ (by omega) (by omega) dL_shade_35
theorem dL_bears_0 : decode cL_bears 0 = .ok (.aload_n 3, 1) := by decide +kernel
theorem dL_bears_1 : decode cL_bears 1 = .ok (.iconst 0, 1) := by decide +kernel
theorem dL_bears_2 : decode cL_bears 2 = .ok (.aload_n 0, 1) := by decide +kernel
theorem dL_bears_3 : decode cL_bears 3 = .ok (.iload_n 1, 1) := by decide +kernel
theorem dL_bears_4 : decode cL_bears 4 = .ok (.iload_n 2, 1) := by decide +kernel
theorem dL_bears_5 : decode cL_bears 5 = .ok (.invokevirtual 45, 3) := by decide +kernel
theorem dL_bears_8 : decode cL_bears 8 = .ok (.i2l, 1) := by decide +kernel
theorem dL_bears_9 : decode cL_bears 9 = .ok (.lastore, 1) := by decide +kernel
theorem dL_bears_10 : decode cL_bears 10 = .ok (.goto 11, 3) := by decide +kernel
theorem dL_bears_13 : decode cL_bears 13 = .ok (.astore 4, 2) := by decide +kernel
theorem dL_bears_15 : decode cL_bears 15 = .ok (.iconst 1, 1) := by decide +kernel
theorem dL_bears_16 : decode cL_bears 16 = .ok (.ireturn, 1) := by decide +kernel
theorem dL_bears_17 : decode cL_bears 17 = .ok (.astore 4, 2) := by decide +kernel
theorem dL_bears_19 : decode cL_bears 19 = .ok (.iconst 2, 1) := by decide +kernel
theorem dL_bears_20 : decode cL_bears 20 = .ok (.ireturn, 1) := by decide +kernel
theorem dL_bears_21 : decode cL_bears 21 = .ok (.iconst 0, 1) := by decide +kernel
theorem dL_bears_22 : decode cL_bears 22 = .ok (.ireturn, 1) := by decide +kernel
theorem lh_bears {g : Gw} (hG : GF g) {fr lo mc ms : Nat} (E : Mm) (x0 x1 : Int) (M : Nat → Int → Mm → Prop) (hX : CTX g yX11_bears cX11_bears 3 (some .int) fr lo mc ms K2 false [mR 0, mI x0, mI x1] (ov E) K2 false (fun r D' => ∃ (v : Int) (E1 : Mm), r = some (mI v) ∧ D' = ov E1 ∧ M 0 v E1) (fun X D' => ∃ (c : Nat) (E1 : Mm), ((c = 1 ∧ X = "java/lang/IndexOutOfBoundsException") ∨ (c = 2 ∧ X = "java/lang/IllegalArgumentException")) ∧ D' = ov E1 ∧ M c 0 E1)) : CTH g yL_bears cL_bears 5 (some .int) [(0, 10, 13, 43), (0, 10, 17, 13)] (fr + 1) (lo + 22) mc ms K2 false [mR 0, mI x0, mI x1, mR 813] (ov E) K2 false (fun r D' => ∃ (c : Nat) (v : Int) (E1 : Mm), r = some (mI (c : Int)) ∧ M c v E1 ∧ D' = ov (if c = 0 then wr E1 813 0 v else E1)) := by
  refine CTH.mk hG (by decide +kernel) (Nat.le_of_ble_eq_true rfl) (fun κ X Rt htab ok => ?_)
  refine at_aload_n 1 X rfl rfl dL_bears_0 rfl ?_
  refine at_iconst 2 X (by decide) dL_bears_1 rfl ?_
  refine at_aload_n 3 X rfl rfl dL_bears_2 rfl ?_
  refine at_iload_n 4 X rfl rfl dL_bears_3 rfl ?_
  refine at_iload_n 5 X rfl rfl dL_bears_4 rfl ?_
  refine at_callVH 8 X htab 0 11 hX clX11 rfl k_0 mo_X11_bears w_1299 vo_X11_bears.1 vo_X11_bears.2 rfl rfl (crm Rt ⟨Nat.le_refl _, by omega, by omega, by omega⟩) (Nat.le_of_ble_eq_true rfl) dL_bears_5 rfl ?_ ?_
  · rintro _ _ ⟨c, E1, (⟨rfl, rfl⟩ | ⟨rfl, rfl⟩), rfl, hM⟩
    · refine ⟨tableOf [], _, tableOf [(0, 10, 17, 13)], "java/lang/IndexOutOfBoundsException", rfl, (fun w hw => by cases hw), rfl, by decide, w_1267, w_1278, fun q => ?_⟩
      refine at_xstore 15 X dL_bears_13 rfl (by decide) ?_
      refine at_iconst 16 X (by decide) dL_bears_15 rfl ?_
      exact at_iret X Rt ⟨1, 0, E1, rfl, hM, rfl⟩ (by omega) (by omega) dL_bears_16
    · refine ⟨tableOf [(0, 10, 13, 43)], _, tableOf [], "java/lang/IllegalArgumentException", rfl, (fun w hw => by
        rcases (by simpa [tableOf] using hw : w = ⟨0, 10, 13, 43⟩) with rfl
        · exact Or.inr ⟨by decide, "java/lang/IndexOutOfBoundsException", w_1267, by decide, by decide, by decide⟩), rfl, by decide, w_854, w_869, fun q => ?_⟩
      refine at_xstore 19 X dL_bears_17 rfl (by decide) ?_
      refine at_iconst 20 X (by decide) dL_bears_19 rfl ?_
      exact at_iret X Rt ⟨2, 0, E1, rfl, hM, rfl⟩ (by omega) (by omega) dL_bears_20
  rintro _ _ ⟨v, E1, rfl, rfl, hM⟩
  refine at_i2l 9 X dL_bears_8 rfl ?_
  refine m_lastore 10 X k_813 e_813 (by decide) (by decide) dL_bears_9 rfl ?_
  refine at_goto 21 X dL_bears_10 (by decide) ?_
  refine at_iconst 22 X (by decide) dL_bears_21 rfl ?_
  exact at_iret X Rt ⟨0, v, E1, rfl, hM, rfl⟩ (by omega) (by omega) dL_bears_22
theorem dL_bearing_0 : decode cL_bearing 0 = .ok (.aload 5, 2) := by decide +kernel
theorem dL_bearing_2 : decode cL_bearing 2 = .ok (.iconst 0, 1) := by decide +kernel
theorem dL_bearing_3 : decode cL_bearing 3 = .ok (.aload_n 0, 1) := by decide +kernel
theorem dL_bearing_4 : decode cL_bearing 4 = .ok (.iload_n 1, 1) := by decide +kernel
theorem dL_bearing_5 : decode cL_bearing 5 = .ok (.iload_n 2, 1) := by decide +kernel
theorem dL_bearing_6 : decode cL_bearing 6 = .ok (.iload_n 3, 1) := by decide +kernel
theorem dL_bearing_7 : decode cL_bearing 7 = .ok (.iload 4, 2) := by decide +kernel
theorem dL_bearing_9 : decode cL_bearing 9 = .ok (.invokevirtual 48, 3) := by decide +kernel
theorem dL_bearing_12 : decode cL_bearing 12 = .ok (.i2l, 1) := by decide +kernel
theorem dL_bearing_13 : decode cL_bearing 13 = .ok (.lastore, 1) := by decide +kernel
theorem dL_bearing_14 : decode cL_bearing 14 = .ok (.goto 7, 3) := by decide +kernel
theorem dL_bearing_17 : decode cL_bearing 17 = .ok (.astore 6, 2) := by decide +kernel
theorem dL_bearing_19 : decode cL_bearing 19 = .ok (.iconst 1, 1) := by decide +kernel
theorem dL_bearing_20 : decode cL_bearing 20 = .ok (.ireturn, 1) := by decide +kernel
theorem dL_bearing_21 : decode cL_bearing 21 = .ok (.iconst 0, 1) := by decide +kernel
theorem dL_bearing_22 : decode cL_bearing 22 = .ok (.ireturn, 1) := by decide +kernel
theorem lh_bearing {g : Gw} (hG : GF g) {fr lo mc ms : Nat} (E : Mm) (x0 x1 x2 x3 : Int) (M : Nat → Int → Mm → Prop) (hX : CTX g yX11_bearing cX11_bearing 5 (some .int) fr lo mc ms K2 false [mR 0, mI x0, mI x1, mI x2, mI x3] (ov E) K2 false (fun r D' => ∃ (v : Int) (E1 : Mm), r = some (mI v) ∧ D' = ov E1 ∧ M 0 v E1) (fun X D' => ∃ (c : Nat) (E1 : Mm), ((c = 1 ∧ X = "java/lang/IllegalArgumentException")) ∧ D' = ov E1 ∧ M c 0 E1)) : CTH g yL_bearing cL_bearing 7 (some .int) [(0, 14, 17, 13)] (fr + 1) (lo + 24) mc ms K2 false [mR 0, mI x0, mI x1, mI x2, mI x3, mR 813] (ov E) K2 false (fun r D' => ∃ (c : Nat) (v : Int) (E1 : Mm), r = some (mI (c : Int)) ∧ M c v E1 ∧ D' = ov (if c = 0 then wr E1 813 0 v else E1)) := by
  refine CTH.mk hG (by decide +kernel) (Nat.le_of_ble_eq_true rfl) (fun κ X Rt htab ok => ?_)
  refine at_aload 2 X rfl dL_bearing_0 rfl ?_
  refine at_iconst 3 X (by decide) dL_bearing_2 rfl ?_
  refine at_aload_n 4 X rfl rfl dL_bearing_3 rfl ?_
  refine at_iload_n 5 X rfl rfl dL_bearing_4 rfl ?_
  refine at_iload_n 6 X rfl rfl dL_bearing_5 rfl ?_
  refine at_iload_n 7 X rfl rfl dL_bearing_6 rfl ?_
  refine at_iload 9 X rfl dL_bearing_7 rfl ?_
  refine at_callVH 12 X htab 0 11 hX clX11 rfl k_0 mo_X11_bearing w_1307 vo_X11_bearing.1 vo_X11_bearing.2 rfl rfl (crm Rt ⟨Nat.le_refl _, by omega, by omega, by omega⟩) (Nat.le_of_ble_eq_true rfl) dL_bearing_9 rfl ?_ ?_
  · rintro _ _ ⟨c, E1, ⟨rfl, rfl⟩, rfl, hM⟩
    refine ⟨tableOf [], _, tableOf [], "java/lang/IllegalArgumentException", rfl, (fun w hw => by cases hw), rfl, by decide, w_854, w_869, fun q => ?_⟩
    refine at_xstore 19 X dL_bearing_17 rfl (by decide) ?_
    refine at_iconst 20 X (by decide) dL_bearing_19 rfl ?_
    exact at_iret X Rt ⟨1, 0, E1, rfl, hM, rfl⟩ (by omega) (by omega) dL_bearing_20
  rintro _ _ ⟨v, E1, rfl, rfl, hM⟩
  refine at_i2l 13 X dL_bearing_12 rfl ?_
  refine m_lastore 14 X k_813 e_813 (by decide) (by decide) dL_bearing_13 rfl ?_
  refine at_goto 21 X dL_bearing_14 (by decide) ?_
  refine at_iconst 22 X (by decide) dL_bearing_21 rfl ?_
  exact at_iret X Rt ⟨0, v, E1, rfl, hM, rfl⟩ (by omega) (by omega) dL_bearing_22
theorem dL_rests_0 : decode cL_rests 0 = .ok (.aload 4, 2) := by decide +kernel
theorem dL_rests_2 : decode cL_rests 2 = .ok (.iconst 0, 1) := by decide +kernel
theorem dL_rests_3 : decode cL_rests 3 = .ok (.aload_n 0, 1) := by decide +kernel
theorem dL_rests_4 : decode cL_rests 4 = .ok (.iload_n 1, 1) := by decide +kernel
theorem dL_rests_5 : decode cL_rests 5 = .ok (.iload_n 2, 1) := by decide +kernel
theorem dL_rests_6 : decode cL_rests 6 = .ok (.iload_n 3, 1) := by decide +kernel
theorem dL_rests_7 : decode cL_rests 7 = .ok (.invokevirtual 52, 3) := by decide +kernel
theorem dL_rests_10 : decode cL_rests 10 = .ok (.lastore, 1) := by decide +kernel
theorem dL_rests_11 : decode cL_rests 11 = .ok (.goto 11, 3) := by decide +kernel
theorem dL_rests_14 : decode cL_rests 14 = .ok (.astore 5, 2) := by decide +kernel
theorem dL_rests_16 : decode cL_rests 16 = .ok (.iconst 1, 1) := by decide +kernel
theorem dL_rests_17 : decode cL_rests 17 = .ok (.ireturn, 1) := by decide +kernel
theorem dL_rests_18 : decode cL_rests 18 = .ok (.astore 5, 2) := by decide +kernel
theorem dL_rests_20 : decode cL_rests 20 = .ok (.iconst 2, 1) := by decide +kernel
theorem dL_rests_21 : decode cL_rests 21 = .ok (.ireturn, 1) := by decide +kernel
theorem dL_rests_22 : decode cL_rests 22 = .ok (.iconst 0, 1) := by decide +kernel
theorem dL_rests_23 : decode cL_rests 23 = .ok (.ireturn, 1) := by decide +kernel
theorem lh_rests {g : Gw} (hG : GF g) {fr lo mc ms : Nat} (E : Mm) (x0 x1 x2 : Int) (M : Nat → Int → Mm → Prop) (hX : CTX g yX11_rests cX11_rests 4 (some .long) fr lo mc ms K2 false [mR 0, mI x0, mI x1, mI x2] (ov E) K2 false (fun r D' => ∃ (v : Int) (E1 : Mm), r = some (mL v) ∧ D' = ov E1 ∧ M 0 v E1) (fun X D' => ∃ (c : Nat) (E1 : Mm), ((c = 1 ∧ X = "java/lang/IndexOutOfBoundsException") ∨ (c = 2 ∧ X = "java/lang/IllegalArgumentException")) ∧ D' = ov E1 ∧ M c 0 E1)) : CTH g yL_rests cL_rests 6 (some .int) [(0, 11, 14, 43), (0, 11, 18, 13)] (fr + 1) (lo + 23) mc ms K2 false [mR 0, mI x0, mI x1, mI x2, mR 813] (ov E) K2 false (fun r D' => ∃ (c : Nat) (v : Int) (E1 : Mm), r = some (mI (c : Int)) ∧ M c v E1 ∧ D' = ov (if c = 0 then wr E1 813 0 v else E1)) := by
  refine CTH.mk hG (by decide +kernel) (Nat.le_of_ble_eq_true rfl) (fun κ X Rt htab ok => ?_)
  refine at_aload 2 X rfl dL_rests_0 rfl ?_
  refine at_iconst 3 X (by decide) dL_rests_2 rfl ?_
  refine at_aload_n 4 X rfl rfl dL_rests_3 rfl ?_
  refine at_iload_n 5 X rfl rfl dL_rests_4 rfl ?_
  refine at_iload_n 6 X rfl rfl dL_rests_5 rfl ?_
  refine at_iload_n 7 X rfl rfl dL_rests_6 rfl ?_
  refine at_callVH 10 X htab 0 11 hX clX11 rfl k_0 mo_X11_rests w_1315 vo_X11_rests.1 vo_X11_rests.2 rfl rfl (crm Rt ⟨Nat.le_refl _, by omega, by omega, by omega⟩) (Nat.le_of_ble_eq_true rfl) dL_rests_7 rfl ?_ ?_
  · rintro _ _ ⟨c, E1, (⟨rfl, rfl⟩ | ⟨rfl, rfl⟩), rfl, hM⟩
    · refine ⟨tableOf [], _, tableOf [(0, 11, 18, 13)], "java/lang/IndexOutOfBoundsException", rfl, (fun w hw => by cases hw), rfl, by decide, w_1267, w_1278, fun q => ?_⟩
      refine at_xstore 16 X dL_rests_14 rfl (by decide) ?_
      refine at_iconst 17 X (by decide) dL_rests_16 rfl ?_
      exact at_iret X Rt ⟨1, 0, E1, rfl, hM, rfl⟩ (by omega) (by omega) dL_rests_17
    · refine ⟨tableOf [(0, 11, 14, 43)], _, tableOf [], "java/lang/IllegalArgumentException", rfl, (fun w hw => by
        rcases (by simpa [tableOf] using hw : w = ⟨0, 11, 14, 43⟩) with rfl
        · exact Or.inr ⟨by decide, "java/lang/IndexOutOfBoundsException", w_1267, by decide, by decide, by decide⟩), rfl, by decide, w_854, w_869, fun q => ?_⟩
      refine at_xstore 20 X dL_rests_18 rfl (by decide) ?_
      refine at_iconst 21 X (by decide) dL_rests_20 rfl ?_
      exact at_iret X Rt ⟨2, 0, E1, rfl, hM, rfl⟩ (by omega) (by omega) dL_rests_21
  rintro _ _ ⟨v, E1, rfl, rfl, hM⟩
  refine m_lastore 11 X k_813 e_813 (by decide) (by decide) dL_rests_10 rfl ?_
  refine at_goto 22 X dL_rests_11 (by decide) ?_
  refine at_iconst 23 X (by decide) dL_rests_22 rfl ?_
  exact at_iret X Rt ⟨0, v, E1, rfl, hM, rfl⟩ (by omega) (by omega) dL_rests_23
theorem dL_puts_0 : decode cL_puts 0 = .ok (.aload 4, 2) := by decide +kernel
theorem dL_puts_2 : decode cL_puts 2 = .ok (.iconst 0, 1) := by decide +kernel
theorem dL_puts_3 : decode cL_puts 3 = .ok (.aload_n 0, 1) := by decide +kernel
theorem dL_puts_4 : decode cL_puts 4 = .ok (.iload_n 1, 1) := by decide +kernel
theorem dL_puts_5 : decode cL_puts 5 = .ok (.iload_n 2, 1) := by decide +kernel
theorem dL_puts_6 : decode cL_puts 6 = .ok (.iload_n 3, 1) := by decide +kernel
theorem dL_puts_7 : decode cL_puts 7 = .ok (.invokevirtual 56, 3) := by decide +kernel
theorem dL_puts_10 : decode cL_puts 10 = .ok (.lastore, 1) := by decide +kernel
theorem dL_puts_11 : decode cL_puts 11 = .ok (.goto 11, 3) := by decide +kernel
theorem dL_puts_14 : decode cL_puts 14 = .ok (.astore 5, 2) := by decide +kernel
theorem dL_puts_16 : decode cL_puts 16 = .ok (.iconst 1, 1) := by decide +kernel
theorem dL_puts_17 : decode cL_puts 17 = .ok (.ireturn, 1) := by decide +kernel
theorem dL_puts_18 : decode cL_puts 18 = .ok (.astore 5, 2) := by decide +kernel
theorem dL_puts_20 : decode cL_puts 20 = .ok (.iconst 2, 1) := by decide +kernel
theorem dL_puts_21 : decode cL_puts 21 = .ok (.ireturn, 1) := by decide +kernel
theorem dL_puts_22 : decode cL_puts 22 = .ok (.iconst 0, 1) := by decide +kernel
theorem dL_puts_23 : decode cL_puts 23 = .ok (.ireturn, 1) := by decide +kernel
theorem lh_puts {g : Gw} (hG : GF g) {fr lo mc ms : Nat} (E : Mm) (x0 x1 x2 : Int) (M : Nat → Int → Mm → Prop) (hX : CTX g yX11_puts cX11_puts 4 (some .long) fr lo mc ms K2 false [mR 0, mI x0, mI x1, mI x2] (ov E) K2 false (fun r D' => ∃ (v : Int) (E1 : Mm), r = some (mL v) ∧ D' = ov E1 ∧ M 0 v E1) (fun X D' => ∃ (c : Nat) (E1 : Mm), ((c = 1 ∧ X = "java/util/NoSuchElementException") ∨ (c = 2 ∧ X = "java/lang/IllegalArgumentException")) ∧ D' = ov E1 ∧ M c 0 E1)) : CTH g yL_puts cL_puts 6 (some .int) [(0, 11, 14, 31), (0, 11, 18, 13)] (fr + 1) (lo + 23) mc ms K2 false [mR 0, mI x0, mI x1, mI x2, mR 813] (ov E) K2 false (fun r D' => ∃ (c : Nat) (v : Int) (E1 : Mm), r = some (mI (c : Int)) ∧ M c v E1 ∧ D' = ov (if c = 0 then wr E1 813 0 v else E1)) := by
  refine CTH.mk hG (by decide +kernel) (Nat.le_of_ble_eq_true rfl) (fun κ X Rt htab ok => ?_)
  refine at_aload 2 X rfl dL_puts_0 rfl ?_
  refine at_iconst 3 X (by decide) dL_puts_2 rfl ?_
  refine at_aload_n 4 X rfl rfl dL_puts_3 rfl ?_
  refine at_iload_n 5 X rfl rfl dL_puts_4 rfl ?_
  refine at_iload_n 6 X rfl rfl dL_puts_5 rfl ?_
  refine at_iload_n 7 X rfl rfl dL_puts_6 rfl ?_
  refine at_callVH 10 X htab 0 11 hX clX11 rfl k_0 mo_X11_puts w_1340 vo_X11_puts.1 vo_X11_puts.2 rfl rfl (crm Rt ⟨Nat.le_refl _, by omega, by omega, by omega⟩) (Nat.le_of_ble_eq_true rfl) dL_puts_7 rfl ?_ ?_
  · rintro _ _ ⟨c, E1, (⟨rfl, rfl⟩ | ⟨rfl, rfl⟩), rfl, hM⟩
    · refine ⟨tableOf [], _, tableOf [(0, 11, 18, 13)], "java/util/NoSuchElementException", rfl, (fun w hw => by cases hw), rfl, by decide, w_1202, w_1214, fun q => ?_⟩
      refine at_xstore 16 X dL_puts_14 rfl (by decide) ?_
      refine at_iconst 17 X (by decide) dL_puts_16 rfl ?_
      exact at_iret X Rt ⟨1, 0, E1, rfl, hM, rfl⟩ (by omega) (by omega) dL_puts_17
    · refine ⟨tableOf [(0, 11, 14, 31)], _, tableOf [], "java/lang/IllegalArgumentException", rfl, (fun w hw => by
        rcases (by simpa [tableOf] using hw : w = ⟨0, 11, 14, 31⟩) with rfl
        · exact Or.inr ⟨by decide, "java/util/NoSuchElementException", w_1202, by decide, by decide, by decide⟩), rfl, by decide, w_854, w_869, fun q => ?_⟩
      refine at_xstore 20 X dL_puts_18 rfl (by decide) ?_
      refine at_iconst 21 X (by decide) dL_puts_20 rfl ?_
      exact at_iret X Rt ⟨2, 0, E1, rfl, hM, rfl⟩ (by omega) (by omega) dL_puts_21
  rintro _ _ ⟨v, E1, rfl, rfl, hM⟩
  refine m_lastore 11 X k_813 e_813 (by decide) (by decide) dL_puts_10 rfl ?_
  refine at_goto 22 X dL_puts_11 (by decide) ?_
  refine at_iconst 23 X (by decide) dL_puts_22 rfl ?_
  exact at_iret X Rt ⟨0, v, E1, rfl, hM, rfl⟩ (by omega) (by omega) dL_puts_23
theorem dL_falls_0 : decode cL_falls 0 = .ok (.aload_n 2, 1) := by decide +kernel
theorem dL_falls_1 : decode cL_falls 1 = .ok (.iconst 0, 1) := by decide +kernel
theorem dL_falls_2 : decode cL_falls 2 = .ok (.aload_n 0, 1) := by decide +kernel
theorem dL_falls_3 : decode cL_falls 3 = .ok (.iload_n 1, 1) := by decide +kernel
theorem dL_falls_4 : decode cL_falls 4 = .ok (.invokevirtual 59, 3) := by decide +kernel
theorem dL_falls_7 : decode cL_falls 7 = .ok (.i2l, 1) := by decide +kernel
theorem dL_falls_8 : decode cL_falls 8 = .ok (.lastore, 1) := by decide +kernel
theorem dL_falls_9 : decode cL_falls 9 = .ok (.goto 6, 3) := by decide +kernel
theorem dL_falls_12 : decode cL_falls 12 = .ok (.astore_n 3, 1) := by decide +kernel
theorem dL_falls_13 : decode cL_falls 13 = .ok (.iconst 1, 1) := by decide +kernel
theorem dL_falls_14 : decode cL_falls 14 = .ok (.ireturn, 1) := by decide +kernel
theorem dL_falls_15 : decode cL_falls 15 = .ok (.iconst 0, 1) := by decide +kernel
theorem dL_falls_16 : decode cL_falls 16 = .ok (.ireturn, 1) := by decide +kernel
theorem lh_falls {g : Gw} (hG : GF g) {fr lo mc ms : Nat} (E : Mm) (x0 : Int) (M : Nat → Int → Mm → Prop) (hX : CTX g yX11_falls cX11_falls 2 (some .int) fr lo mc ms K2 false [mR 0, mI x0] (ov E) K2 false (fun r D' => ∃ (v : Int) (E1 : Mm), r = some (mI v) ∧ D' = ov E1 ∧ M 0 v E1) (fun X D' => ∃ (c : Nat) (E1 : Mm), ((c = 1 ∧ X = "java/util/NoSuchElementException")) ∧ D' = ov E1 ∧ M c 0 E1)) : CTH g yL_falls cL_falls 4 (some .int) [(0, 9, 12, 31)] (fr + 1) (lo + 21) mc ms K2 false [mR 0, mI x0, mR 813] (ov E) K2 false (fun r D' => ∃ (c : Nat) (v : Int) (E1 : Mm), r = some (mI (c : Int)) ∧ M c v E1 ∧ D' = ov (if c = 0 then wr E1 813 0 v else E1)) := by
  refine CTH.mk hG (by decide +kernel) (Nat.le_of_ble_eq_true rfl) (fun κ X Rt htab ok => ?_)
  refine at_aload_n 1 X rfl rfl dL_falls_0 rfl ?_
  refine at_iconst 2 X (by decide) dL_falls_1 rfl ?_
  refine at_aload_n 3 X rfl rfl dL_falls_2 rfl ?_
  refine at_iload_n 4 X rfl rfl dL_falls_3 rfl ?_
  refine at_callVH 7 X htab 0 11 hX clX11 rfl k_0 mo_X11_falls w_1347 vo_X11_falls.1 vo_X11_falls.2 rfl rfl (crm Rt ⟨Nat.le_refl _, by omega, by omega, by omega⟩) (Nat.le_of_ble_eq_true rfl) dL_falls_4 rfl ?_ ?_
  · rintro _ _ ⟨c, E1, ⟨rfl, rfl⟩, rfl, hM⟩
    refine ⟨tableOf [], _, tableOf [], "java/util/NoSuchElementException", rfl, (fun w hw => by cases hw), rfl, by decide, w_1202, w_1214, fun q => ?_⟩
    refine at_xstore_n 13 X rfl dL_falls_12 rfl (by decide) ?_
    refine at_iconst 14 X (by decide) dL_falls_13 rfl ?_
    exact at_iret X Rt ⟨1, 0, E1, rfl, hM, rfl⟩ (by omega) (by omega) dL_falls_14
  rintro _ _ ⟨v, E1, rfl, rfl, hM⟩
  refine at_i2l 8 X dL_falls_7 rfl ?_
  refine m_lastore 9 X k_813 e_813 (by decide) (by decide) dL_falls_8 rfl ?_
  refine at_goto 15 X dL_falls_9 (by decide) ?_
  refine at_iconst 16 X (by decide) dL_falls_15 rfl ?_
  exact at_iret X Rt ⟨0, v, E1, rfl, hM, rfl⟩ (by omega) (by omega) dL_falls_16
theorem dL_lies_0 : decode cL_lies 0 = .ok (.aload_n 3, 1) := by decide +kernel
theorem dL_lies_1 : decode cL_lies 1 = .ok (.iconst 0, 1) := by decide +kernel
theorem dL_lies_2 : decode cL_lies 2 = .ok (.aload_n 0, 1) := by decide +kernel
theorem dL_lies_3 : decode cL_lies 3 = .ok (.iload_n 1, 1) := by decide +kernel
theorem dL_lies_4 : decode cL_lies 4 = .ok (.iload_n 2, 1) := by decide +kernel
theorem dL_lies_5 : decode cL_lies 5 = .ok (.invokevirtual 62, 3) := by decide +kernel
theorem dL_lies_8 : decode cL_lies 8 = .ok (.i2l, 1) := by decide +kernel
theorem dL_lies_9 : decode cL_lies 9 = .ok (.lastore, 1) := by decide +kernel
theorem dL_lies_10 : decode cL_lies 10 = .ok (.goto 11, 3) := by decide +kernel
theorem dL_lies_13 : decode cL_lies 13 = .ok (.astore 4, 2) := by decide +kernel
theorem dL_lies_15 : decode cL_lies 15 = .ok (.iconst 1, 1) := by decide +kernel
theorem dL_lies_16 : decode cL_lies 16 = .ok (.ireturn, 1) := by decide +kernel
theorem dL_lies_17 : decode cL_lies 17 = .ok (.astore 4, 2) := by decide +kernel
theorem dL_lies_19 : decode cL_lies 19 = .ok (.iconst 2, 1) := by decide +kernel
theorem dL_lies_20 : decode cL_lies 20 = .ok (.ireturn, 1) := by decide +kernel
theorem dL_lies_21 : decode cL_lies 21 = .ok (.iconst 0, 1) := by decide +kernel
theorem dL_lies_22 : decode cL_lies 22 = .ok (.ireturn, 1) := by decide +kernel
theorem lh_lies {g : Gw} (hG : GF g) {fr lo mc ms : Nat} (E : Mm) (x0 x1 : Int) (M : Nat → Int → Mm → Prop) (hX : CTX g yX11_lies cX11_lies 3 (some .int) fr lo mc ms K2 false [mR 0, mI x0, mI x1] (ov E) K2 false (fun r D' => ∃ (v : Int) (E1 : Mm), r = some (mI v) ∧ D' = ov E1 ∧ M 0 v E1) (fun X D' => ∃ (c : Nat) (E1 : Mm), ((c = 1 ∧ X = "java/util/NoSuchElementException") ∨ (c = 2 ∧ X = "java/lang/IllegalArgumentException")) ∧ D' = ov E1 ∧ M c 0 E1)) : CTH g yL_lies cL_lies 5 (some .int) [(0, 10, 13, 31), (0, 10, 17, 13)] (fr + 1) (lo + 22) mc ms K2 false [mR 0, mI x0, mI x1, mR 813] (ov E) K2 false (fun r D' => ∃ (c : Nat) (v : Int) (E1 : Mm), r = some (mI (c : Int)) ∧ M c v E1 ∧ D' = ov (if c = 0 then wr E1 813 0 v else E1)) := by
  refine CTH.mk hG (by decide +kernel) (Nat.le_of_ble_eq_true rfl) (fun κ X Rt htab ok => ?_)
  refine at_aload_n 1 X rfl rfl dL_lies_0 rfl ?_
  refine at_iconst 2 X (by decide) dL_lies_1 rfl ?_
  refine at_aload_n 3 X rfl rfl dL_lies_2 rfl ?_
  refine at_iload_n 4 X rfl rfl dL_lies_3 rfl ?_
  refine at_iload_n 5 X rfl rfl dL_lies_4 rfl ?_
  refine at_callVH 8 X htab 0 11 hX clX11 rfl k_0 mo_X11_lies w_1354 vo_X11_lies.1 vo_X11_lies.2 rfl rfl (crm Rt ⟨Nat.le_refl _, by omega, by omega, by omega⟩) (Nat.le_of_ble_eq_true rfl) dL_lies_5 rfl ?_ ?_
  · rintro _ _ ⟨c, E1, (⟨rfl, rfl⟩ | ⟨rfl, rfl⟩), rfl, hM⟩
    · refine ⟨tableOf [], _, tableOf [(0, 10, 17, 13)], "java/util/NoSuchElementException", rfl, (fun w hw => by cases hw), rfl, by decide, w_1202, w_1214, fun q => ?_⟩
      refine at_xstore 15 X dL_lies_13 rfl (by decide) ?_
      refine at_iconst 16 X (by decide) dL_lies_15 rfl ?_
      exact at_iret X Rt ⟨1, 0, E1, rfl, hM, rfl⟩ (by omega) (by omega) dL_lies_16
    · refine ⟨tableOf [(0, 10, 13, 31)], _, tableOf [], "java/lang/IllegalArgumentException", rfl, (fun w hw => by
        rcases (by simpa [tableOf] using hw : w = ⟨0, 10, 13, 31⟩) with rfl
        · exact Or.inr ⟨by decide, "java/util/NoSuchElementException", w_1202, by decide, by decide, by decide⟩), rfl, by decide, w_854, w_869, fun q => ?_⟩
      refine at_xstore 19 X dL_lies_17 rfl (by decide) ?_
      refine at_iconst 20 X (by decide) dL_lies_19 rfl ?_
      exact at_iret X Rt ⟨2, 0, E1, rfl, hM, rfl⟩ (by omega) (by omega) dL_lies_20
  rintro _ _ ⟨v, E1, rfl, rfl, hM⟩
  refine at_i2l 9 X dL_lies_8 rfl ?_
  refine m_lastore 10 X k_813 e_813 (by decide) (by decide) dL_lies_9 rfl ?_
  refine at_goto 21 X dL_lies_10 (by decide) ?_
  refine at_iconst 22 X (by decide) dL_lies_21 rfl ?_
  exact at_iret X Rt ⟨0, v, E1, rfl, hM, rfl⟩ (by omega) (by omega) dL_lies_22
theorem dL_day_0 : decode cL_day 0 = .ok (.aload_n 2, 1) := by decide +kernel
theorem dL_day_1 : decode cL_day 1 = .ok (.iconst 0, 1) := by decide +kernel
theorem dL_day_2 : decode cL_day 2 = .ok (.aload_n 0, 1) := by decide +kernel
theorem dL_day_3 : decode cL_day 3 = .ok (.iload_n 1, 1) := by decide +kernel
theorem dL_day_4 : decode cL_day 4 = .ok (.invokevirtual 65, 3) := by decide +kernel
theorem dL_day_7 : decode cL_day 7 = .ok (.i2l, 1) := by decide +kernel
theorem dL_day_8 : decode cL_day 8 = .ok (.lastore, 1) := by decide +kernel
theorem dL_day_9 : decode cL_day 9 = .ok (.goto 6, 3) := by decide +kernel
theorem dL_day_12 : decode cL_day 12 = .ok (.astore_n 3, 1) := by decide +kernel
theorem dL_day_13 : decode cL_day 13 = .ok (.iconst 1, 1) := by decide +kernel
theorem dL_day_14 : decode cL_day 14 = .ok (.ireturn, 1) := by decide +kernel
theorem dL_day_15 : decode cL_day 15 = .ok (.iconst 0, 1) := by decide +kernel
theorem dL_day_16 : decode cL_day 16 = .ok (.ireturn, 1) := by decide +kernel
theorem lh_day {g : Gw} (hG : GF g) {fr lo mc ms : Nat} (E : Mm) (x0 : Int) (M : Nat → Int → Mm → Prop) (hX : CTX g yX11_day cX11_day 3 (some .int) fr lo mc ms K2 false [mR 0, mI x0] (ov E) K2 false (fun r D' => ∃ (v : Int) (E1 : Mm), r = some (mI v) ∧ D' = ov E1 ∧ M 0 v E1) (fun X D' => ∃ (c : Nat) (E1 : Mm), ((c = 1 ∧ X = "java/lang/IllegalArgumentException")) ∧ D' = ov E1 ∧ M c 0 E1)) : CTH g yL_day cL_day 4 (some .int) [(0, 9, 12, 13)] (fr + 1) (lo + 22) mc ms K2 false [mR 0, mI x0, mR 813] (ov E) K2 false (fun r D' => ∃ (c : Nat) (v : Int) (E1 : Mm), r = some (mI (c : Int)) ∧ M c v E1 ∧ D' = ov (if c = 0 then wr E1 813 0 v else E1)) := by
  refine CTH.mk hG (by decide +kernel) (Nat.le_of_ble_eq_true rfl) (fun κ X Rt htab ok => ?_)
  refine at_aload_n 1 X rfl rfl dL_day_0 rfl ?_
  refine at_iconst 2 X (by decide) dL_day_1 rfl ?_
  refine at_aload_n 3 X rfl rfl dL_day_2 rfl ?_
  refine at_iload_n 4 X rfl rfl dL_day_3 rfl ?_
  refine at_callVH 7 X htab 0 11 hX clX11 rfl k_0 mo_X11_day w_1362 vo_X11_day.1 vo_X11_day.2 rfl rfl (crm Rt ⟨Nat.le_refl _, by omega, by omega, by omega⟩) (Nat.le_of_ble_eq_true rfl) dL_day_4 rfl ?_ ?_
  · rintro _ _ ⟨c, E1, ⟨rfl, rfl⟩, rfl, hM⟩
    refine ⟨tableOf [], _, tableOf [], "java/lang/IllegalArgumentException", rfl, (fun w hw => by cases hw), rfl, by decide, w_854, w_869, fun q => ?_⟩
    refine at_xstore_n 13 X rfl dL_day_12 rfl (by decide) ?_
    refine at_iconst 14 X (by decide) dL_day_13 rfl ?_
    exact at_iret X Rt ⟨1, 0, E1, rfl, hM, rfl⟩ (by omega) (by omega) dL_day_14
  rintro _ _ ⟨v, E1, rfl, rfl, hM⟩
  refine at_i2l 8 X dL_day_7 rfl ?_
  refine m_lastore 9 X k_813 e_813 (by decide) (by decide) dL_day_8 rfl ?_
  refine at_goto 15 X dL_day_9 (by decide) ?_
  refine at_iconst 16 X (by decide) dL_day_15 rfl ?_
  exact at_iret X Rt ⟨0, v, E1, rfl, hM, rfl⟩ (by omega) (by omega) dL_day_16
theorem dL_kept_0 : decode cL_kept 0 = .ok (.aload 4, 2) := by decide +kernel
theorem dL_kept_2 : decode cL_kept 2 = .ok (.iconst 0, 1) := by decide +kernel
theorem dL_kept_3 : decode cL_kept 3 = .ok (.aload_n 0, 1) := by decide +kernel
theorem dL_kept_4 : decode cL_kept 4 = .ok (.iload_n 1, 1) := by decide +kernel
theorem dL_kept_5 : decode cL_kept 5 = .ok (.iload_n 2, 1) := by decide +kernel
theorem dL_kept_6 : decode cL_kept 6 = .ok (.iload_n 3, 1) := by decide +kernel
theorem dL_kept_7 : decode cL_kept 7 = .ok (.invokevirtual 68, 3) := by decide +kernel
theorem dL_kept_10 : decode cL_kept 10 = .ok (.i2l, 1) := by decide +kernel
theorem dL_kept_11 : decode cL_kept 11 = .ok (.lastore, 1) := by decide +kernel
theorem dL_kept_12 : decode cL_kept 12 = .ok (.goto 11, 3) := by decide +kernel
theorem dL_kept_15 : decode cL_kept 15 = .ok (.astore 5, 2) := by decide +kernel
theorem dL_kept_17 : decode cL_kept 17 = .ok (.iconst 1, 1) := by decide +kernel
theorem dL_kept_18 : decode cL_kept 18 = .ok (.ireturn, 1) := by decide +kernel
theorem dL_kept_19 : decode cL_kept 19 = .ok (.astore 5, 2) := by decide +kernel
theorem dL_kept_21 : decode cL_kept 21 = .ok (.iconst 2, 1) := by decide +kernel
theorem dL_kept_22 : decode cL_kept 22 = .ok (.ireturn, 1) := by decide +kernel
theorem dL_kept_23 : decode cL_kept 23 = .ok (.iconst 0, 1) := by decide +kernel
theorem dL_kept_24 : decode cL_kept 24 = .ok (.ireturn, 1) := by decide +kernel
theorem lh_kept {g : Gw} (hG : GF g) {fr lo mc ms : Nat} (E : Mm) (x0 x1 x2 : Int) (M : Nat → Int → Mm → Prop) (hX : CTX g yX11_kept cX11_kept 4 (some .int) fr lo mc ms K2 false [mR 0, mI x0, mI x1, mI x2] (ov E) K2 false (fun r D' => ∃ (v : Int) (E1 : Mm), r = some (mI v) ∧ D' = ov E1 ∧ M 0 v E1) (fun X D' => ∃ (c : Nat) (E1 : Mm), ((c = 1 ∧ X = "java/util/NoSuchElementException") ∨ (c = 2 ∧ X = "java/lang/IllegalArgumentException")) ∧ D' = ov E1 ∧ M c 0 E1)) : CTH g yL_kept cL_kept 6 (some .int) [(0, 12, 15, 31), (0, 12, 19, 13)] (fr + 1) (lo + 23) mc ms K2 false [mR 0, mI x0, mI x1, mI x2, mR 813] (ov E) K2 false (fun r D' => ∃ (c : Nat) (v : Int) (E1 : Mm), r = some (mI (c : Int)) ∧ M c v E1 ∧ D' = ov (if c = 0 then wr E1 813 0 v else E1)) := by
  refine CTH.mk hG (by decide +kernel) (Nat.le_of_ble_eq_true rfl) (fun κ X Rt htab ok => ?_)
  refine at_aload 2 X rfl dL_kept_0 rfl ?_
  refine at_iconst 3 X (by decide) dL_kept_2 rfl ?_
  refine at_aload_n 4 X rfl rfl dL_kept_3 rfl ?_
  refine at_iload_n 5 X rfl rfl dL_kept_4 rfl ?_
  refine at_iload_n 6 X rfl rfl dL_kept_5 rfl ?_
  refine at_iload_n 7 X rfl rfl dL_kept_6 rfl ?_
  refine at_callVH 10 X htab 0 11 hX clX11 rfl k_0 mo_X11_kept w_1373 vo_X11_kept.1 vo_X11_kept.2 rfl rfl (crm Rt ⟨Nat.le_refl _, by omega, by omega, by omega⟩) (Nat.le_of_ble_eq_true rfl) dL_kept_7 rfl ?_ ?_
  · rintro _ _ ⟨c, E1, (⟨rfl, rfl⟩ | ⟨rfl, rfl⟩), rfl, hM⟩
    · refine ⟨tableOf [], _, tableOf [(0, 12, 19, 13)], "java/util/NoSuchElementException", rfl, (fun w hw => by cases hw), rfl, by decide, w_1202, w_1214, fun q => ?_⟩
      refine at_xstore 17 X dL_kept_15 rfl (by decide) ?_
      refine at_iconst 18 X (by decide) dL_kept_17 rfl ?_
      exact at_iret X Rt ⟨1, 0, E1, rfl, hM, rfl⟩ (by omega) (by omega) dL_kept_18
    · refine ⟨tableOf [(0, 12, 15, 31)], _, tableOf [], "java/lang/IllegalArgumentException", rfl, (fun w hw => by
        rcases (by simpa [tableOf] using hw : w = ⟨0, 12, 15, 31⟩) with rfl
        · exact Or.inr ⟨by decide, "java/util/NoSuchElementException", w_1202, by decide, by decide, by decide⟩), rfl, by decide, w_854, w_869, fun q => ?_⟩
      refine at_xstore 21 X dL_kept_19 rfl (by decide) ?_
      refine at_iconst 22 X (by decide) dL_kept_21 rfl ?_
      exact at_iret X Rt ⟨2, 0, E1, rfl, hM, rfl⟩ (by omega) (by omega) dL_kept_22
  rintro _ _ ⟨v, E1, rfl, rfl, hM⟩
  refine at_i2l 11 X dL_kept_10 rfl ?_
  refine m_lastore 12 X k_813 e_813 (by decide) (by decide) dL_kept_11 rfl ?_
  refine at_goto 23 X dL_kept_12 (by decide) ?_
  refine at_iconst 24 X (by decide) dL_kept_23 rfl ?_
  exact at_iret X Rt ⟨0, v, E1, rfl, hM, rfl⟩ (by omega) (by omega) dL_kept_24
theorem dL_carry_0 : decode cL_carry 0 = .ok (.aload 5, 2) := by decide +kernel
theorem dL_carry_2 : decode cL_carry 2 = .ok (.iconst 0, 1) := by decide +kernel
theorem dL_carry_3 : decode cL_carry 3 = .ok (.aload_n 0, 1) := by decide +kernel
theorem dL_carry_4 : decode cL_carry 4 = .ok (.iload_n 1, 1) := by decide +kernel
theorem dL_carry_5 : decode cL_carry 5 = .ok (.iload_n 2, 1) := by decide +kernel
theorem dL_carry_6 : decode cL_carry 6 = .ok (.iload_n 3, 1) := by decide +kernel
theorem dL_carry_7 : decode cL_carry 7 = .ok (.iload 4, 2) := by decide +kernel
theorem dL_carry_9 : decode cL_carry 9 = .ok (.invokevirtual 72, 3) := by decide +kernel
theorem dL_carry_12 : decode cL_carry 12 = .ok (.i2l, 1) := by decide +kernel
theorem dL_carry_13 : decode cL_carry 13 = .ok (.lastore, 1) := by decide +kernel
theorem dL_carry_14 : decode cL_carry 14 = .ok (.goto 11, 3) := by decide +kernel
theorem dL_carry_17 : decode cL_carry 17 = .ok (.astore 6, 2) := by decide +kernel
theorem dL_carry_19 : decode cL_carry 19 = .ok (.iconst 1, 1) := by decide +kernel
theorem dL_carry_20 : decode cL_carry 20 = .ok (.ireturn, 1) := by decide +kernel
theorem dL_carry_21 : decode cL_carry 21 = .ok (.astore 6, 2) := by decide +kernel
theorem dL_carry_23 : decode cL_carry 23 = .ok (.iconst 2, 1) := by decide +kernel
theorem dL_carry_24 : decode cL_carry 24 = .ok (.ireturn, 1) := by decide +kernel
theorem dL_carry_25 : decode cL_carry 25 = .ok (.iconst 0, 1) := by decide +kernel
theorem dL_carry_26 : decode cL_carry 26 = .ok (.ireturn, 1) := by decide +kernel
theorem lh_carry {g : Gw} (hG : GF g) {fr lo mc ms : Nat} (E : Mm) (x0 x1 x2 x3 : Int) (M : Nat → Int → Mm → Prop) (hX : CTX g yX11_carry cX11_carry 5 (some .int) fr lo mc ms K2 false [mR 0, mI x0, mI x1, mI x2, mI x3] (ov E) K2 false (fun r D' => ∃ (v : Int) (E1 : Mm), r = some (mI v) ∧ D' = ov E1 ∧ M 0 v E1) (fun X D' => ∃ (c : Nat) (E1 : Mm), ((c = 1 ∧ X = "java/util/NoSuchElementException") ∨ (c = 2 ∧ X = "java/lang/IllegalArgumentException")) ∧ D' = ov E1 ∧ M c 0 E1)) : CTH g yL_carry cL_carry 7 (some .int) [(0, 14, 17, 31), (0, 14, 21, 13)] (fr + 1) (lo + 24) mc ms K2 false [mR 0, mI x0, mI x1, mI x2, mI x3, mR 813] (ov E) K2 false (fun r D' => ∃ (c : Nat) (v : Int) (E1 : Mm), r = some (mI (c : Int)) ∧ M c v E1 ∧ D' = ov (if c = 0 then wr E1 813 0 v else E1)) := by
  refine CTH.mk hG (by decide +kernel) (Nat.le_of_ble_eq_true rfl) (fun κ X Rt htab ok => ?_)
  refine at_aload 2 X rfl dL_carry_0 rfl ?_
  refine at_iconst 3 X (by decide) dL_carry_2 rfl ?_
  refine at_aload_n 4 X rfl rfl dL_carry_3 rfl ?_
  refine at_iload_n 5 X rfl rfl dL_carry_4 rfl ?_
  refine at_iload_n 6 X rfl rfl dL_carry_5 rfl ?_
  refine at_iload_n 7 X rfl rfl dL_carry_6 rfl ?_
  refine at_iload 9 X rfl dL_carry_7 rfl ?_
  refine at_callVH 12 X htab 0 11 hX clX11 rfl k_0 mo_X11_carry w_1413 vo_X11_carry.1 vo_X11_carry.2 rfl rfl (crm Rt ⟨Nat.le_refl _, by omega, by omega, by omega⟩) (Nat.le_of_ble_eq_true rfl) dL_carry_9 rfl ?_ ?_
  · rintro _ _ ⟨c, E1, (⟨rfl, rfl⟩ | ⟨rfl, rfl⟩), rfl, hM⟩
    · refine ⟨tableOf [], _, tableOf [(0, 14, 21, 13)], "java/util/NoSuchElementException", rfl, (fun w hw => by cases hw), rfl, by decide, w_1202, w_1214, fun q => ?_⟩
      refine at_xstore 19 X dL_carry_17 rfl (by decide) ?_
      refine at_iconst 20 X (by decide) dL_carry_19 rfl ?_
      exact at_iret X Rt ⟨1, 0, E1, rfl, hM, rfl⟩ (by omega) (by omega) dL_carry_20
    · refine ⟨tableOf [(0, 14, 17, 31)], _, tableOf [], "java/lang/IllegalArgumentException", rfl, (fun w hw => by
        rcases (by simpa [tableOf] using hw : w = ⟨0, 14, 17, 31⟩) with rfl
        · exact Or.inr ⟨by decide, "java/util/NoSuchElementException", w_1202, by decide, by decide, by decide⟩), rfl, by decide, w_854, w_869, fun q => ?_⟩
      refine at_xstore 23 X dL_carry_21 rfl (by decide) ?_
      refine at_iconst 24 X (by decide) dL_carry_23 rfl ?_
      exact at_iret X Rt ⟨2, 0, E1, rfl, hM, rfl⟩ (by omega) (by omega) dL_carry_24
  rintro _ _ ⟨v, E1, rfl, rfl, hM⟩
  refine at_i2l 13 X dL_carry_12 rfl ?_
  refine m_lastore 14 X k_813 e_813 (by decide) (by decide) dL_carry_13 rfl ?_
  refine at_goto 25 X dL_carry_14 (by decide) ?_
  refine at_iconst 26 X (by decide) dL_carry_25 rfl ?_
  exact at_iret X Rt ⟨0, v, E1, rfl, hM, rfl⟩ (by omega) (by omega) dL_carry_26
theorem dL_lit_0 : decode cL_lit 0 = .ok (.aload 4, 2) := by decide +kernel
theorem dL_lit_2 : decode cL_lit 2 = .ok (.iconst 0, 1) := by decide +kernel
theorem dL_lit_3 : decode cL_lit 3 = .ok (.aload_n 0, 1) := by decide +kernel
theorem dL_lit_4 : decode cL_lit 4 = .ok (.iload_n 1, 1) := by decide +kernel
theorem dL_lit_5 : decode cL_lit 5 = .ok (.iload_n 2, 1) := by decide +kernel
theorem dL_lit_6 : decode cL_lit 6 = .ok (.iload_n 3, 1) := by decide +kernel
theorem dL_lit_7 : decode cL_lit 7 = .ok (.invokevirtual 75, 3) := by decide +kernel
theorem dL_lit_10 : decode cL_lit 10 = .ok (.i2l, 1) := by decide +kernel
theorem dL_lit_11 : decode cL_lit 11 = .ok (.lastore, 1) := by decide +kernel
theorem dL_lit_12 : decode cL_lit 12 = .ok (.goto 7, 3) := by decide +kernel
theorem dL_lit_15 : decode cL_lit 15 = .ok (.astore 5, 2) := by decide +kernel
theorem dL_lit_17 : decode cL_lit 17 = .ok (.iconst 1, 1) := by decide +kernel
theorem dL_lit_18 : decode cL_lit 18 = .ok (.ireturn, 1) := by decide +kernel
theorem dL_lit_19 : decode cL_lit 19 = .ok (.iconst 0, 1) := by decide +kernel
theorem dL_lit_20 : decode cL_lit 20 = .ok (.ireturn, 1) := by decide +kernel
theorem lh_lit {g : Gw} (hG : GF g) {fr lo mc ms : Nat} (E : Mm) (x0 x1 x2 : Int) (M : Nat → Int → Mm → Prop) (hX : CTX g yX11_lit cX11_lit 5 (some .int) fr lo mc ms K2 false [mR 0, mI x0, mI x1, mI x2] (ov E) K2 false (fun r D' => ∃ (v : Int) (E1 : Mm), r = some (mI v) ∧ D' = ov E1 ∧ M 0 v E1) (fun X D' => ∃ (c : Nat) (E1 : Mm), ((c = 1 ∧ X = "java/lang/IllegalArgumentException")) ∧ D' = ov E1 ∧ M c 0 E1)) : CTH g yL_lit cL_lit 6 (some .int) [(0, 12, 15, 13)] (fr + 1) (lo + 24) mc ms K2 false [mR 0, mI x0, mI x1, mI x2, mR 813] (ov E) K2 false (fun r D' => ∃ (c : Nat) (v : Int) (E1 : Mm), r = some (mI (c : Int)) ∧ M c v E1 ∧ D' = ov (if c = 0 then wr E1 813 0 v else E1)) := by
  refine CTH.mk hG (by decide +kernel) (Nat.le_of_ble_eq_true rfl) (fun κ X Rt htab ok => ?_)
  refine at_aload 2 X rfl dL_lit_0 rfl ?_
  refine at_iconst 3 X (by decide) dL_lit_2 rfl ?_
  refine at_aload_n 4 X rfl rfl dL_lit_3 rfl ?_
  refine at_iload_n 5 X rfl rfl dL_lit_4 rfl ?_
  refine at_iload_n 6 X rfl rfl dL_lit_5 rfl ?_
  refine at_iload_n 7 X rfl rfl dL_lit_6 rfl ?_
  refine at_callVH 10 X htab 0 11 hX clX11 rfl k_0 mo_X11_lit w_1429 vo_X11_lit.1 vo_X11_lit.2 rfl rfl (crm Rt ⟨Nat.le_refl _, by omega, by omega, by omega⟩) (Nat.le_of_ble_eq_true rfl) dL_lit_7 rfl ?_ ?_
  · rintro _ _ ⟨c, E1, ⟨rfl, rfl⟩, rfl, hM⟩
    refine ⟨tableOf [], _, tableOf [], "java/lang/IllegalArgumentException", rfl, (fun w hw => by cases hw), rfl, by decide, w_854, w_869, fun q => ?_⟩
    refine at_xstore 17 X dL_lit_15 rfl (by decide) ?_
    refine at_iconst 18 X (by decide) dL_lit_17 rfl ?_
    exact at_iret X Rt ⟨1, 0, E1, rfl, hM, rfl⟩ (by omega) (by omega) dL_lit_18
  rintro _ _ ⟨v, E1, rfl, rfl, hM⟩
  refine at_i2l 11 X dL_lit_10 rfl ?_
  refine m_lastore 12 X k_813 e_813 (by decide) (by decide) dL_lit_11 rfl ?_
  refine at_goto 19 X dL_lit_12 (by decide) ?_
  refine at_iconst 20 X (by decide) dL_lit_19 rfl ?_
  exact at_iret X Rt ⟨0, v, E1, rfl, hM, rfl⟩ (by omega) (by omega) dL_lit_20
theorem dL_tower_0 : decode cL_tower 0 = .ok (.aload_n 3, 1) := by decide +kernel
theorem dL_tower_1 : decode cL_tower 1 = .ok (.iconst 0, 1) := by decide +kernel
theorem dL_tower_2 : decode cL_tower 2 = .ok (.aload_n 0, 1) := by decide +kernel
theorem dL_tower_3 : decode cL_tower 3 = .ok (.iload_n 1, 1) := by decide +kernel
theorem dL_tower_4 : decode cL_tower 4 = .ok (.iload_n 2, 1) := by decide +kernel
theorem dL_tower_5 : decode cL_tower 5 = .ok (.invokevirtual 78, 3) := by decide +kernel
theorem dL_tower_8 : decode cL_tower 8 = .ok (.i2l, 1) := by decide +kernel
theorem dL_tower_9 : decode cL_tower 9 = .ok (.lastore, 1) := by decide +kernel
theorem dL_tower_10 : decode cL_tower 10 = .ok (.goto 7, 3) := by decide +kernel
theorem dL_tower_13 : decode cL_tower 13 = .ok (.astore 4, 2) := by decide +kernel
theorem dL_tower_15 : decode cL_tower 15 = .ok (.iconst 1, 1) := by decide +kernel
theorem dL_tower_16 : decode cL_tower 16 = .ok (.ireturn, 1) := by decide +kernel
theorem dL_tower_17 : decode cL_tower 17 = .ok (.iconst 0, 1) := by decide +kernel
theorem dL_tower_18 : decode cL_tower 18 = .ok (.ireturn, 1) := by decide +kernel
theorem lh_tower {g : Gw} (hG : GF g) {fr lo mc ms : Nat} (E : Mm) (x0 x1 : Int) (M : Nat → Int → Mm → Prop) (hX : CTX g yX11_tower cX11_tower 6 (some .int) fr lo mc ms K2 false [mR 0, mI x0, mI x1] (ov E) K2 false (fun r D' => ∃ (v : Int) (E1 : Mm), r = some (mI v) ∧ D' = ov E1 ∧ M 0 v E1) (fun X D' => ∃ (c : Nat) (E1 : Mm), ((c = 1 ∧ X = "java/lang/IllegalArgumentException")) ∧ D' = ov E1 ∧ M c 0 E1)) : CTH g yL_tower cL_tower 5 (some .int) [(0, 10, 13, 13)] (fr + 1) (lo + 25) mc ms K2 false [mR 0, mI x0, mI x1, mR 813] (ov E) K2 false (fun r D' => ∃ (c : Nat) (v : Int) (E1 : Mm), r = some (mI (c : Int)) ∧ M c v E1 ∧ D' = ov (if c = 0 then wr E1 813 0 v else E1)) := by
  refine CTH.mk hG (by decide +kernel) (Nat.le_of_ble_eq_true rfl) (fun κ X Rt htab ok => ?_)
  refine at_aload_n 1 X rfl rfl dL_tower_0 rfl ?_
  refine at_iconst 2 X (by decide) dL_tower_1 rfl ?_
  refine at_aload_n 3 X rfl rfl dL_tower_2 rfl ?_
  refine at_iload_n 4 X rfl rfl dL_tower_3 rfl ?_
  refine at_iload_n 5 X rfl rfl dL_tower_4 rfl ?_
  refine at_callVH 8 X htab 0 11 hX clX11 rfl k_0 mo_X11_tower w_1507 vo_X11_tower.1 vo_X11_tower.2 rfl rfl (crm Rt ⟨Nat.le_refl _, by omega, by omega, by omega⟩) (Nat.le_of_ble_eq_true rfl) dL_tower_5 rfl ?_ ?_
  · rintro _ _ ⟨c, E1, ⟨rfl, rfl⟩, rfl, hM⟩
    refine ⟨tableOf [], _, tableOf [], "java/lang/IllegalArgumentException", rfl, (fun w hw => by cases hw), rfl, by decide, w_854, w_869, fun q => ?_⟩
    refine at_xstore 15 X dL_tower_13 rfl (by decide) ?_
    refine at_iconst 16 X (by decide) dL_tower_15 rfl ?_
    exact at_iret X Rt ⟨1, 0, E1, rfl, hM, rfl⟩ (by omega) (by omega) dL_tower_16
  rintro _ _ ⟨v, E1, rfl, rfl, hM⟩
  refine at_i2l 9 X dL_tower_8 rfl ?_
  refine m_lastore 10 X k_813 e_813 (by decide) (by decide) dL_tower_9 rfl ?_
  refine at_goto 17 X dL_tower_10 (by decide) ?_
  refine at_iconst 18 X (by decide) dL_tower_17 rfl ?_
  exact at_iret X Rt ⟨0, v, E1, rfl, hM, rfl⟩ (by omega) (by omega) dL_tower_18
theorem dL_worth_0 : decode cL_worth 0 = .ok (.aload_n 2, 1) := by decide +kernel
theorem dL_worth_1 : decode cL_worth 1 = .ok (.iconst 0, 1) := by decide +kernel
theorem dL_worth_2 : decode cL_worth 2 = .ok (.aload_n 0, 1) := by decide +kernel
theorem dL_worth_3 : decode cL_worth 3 = .ok (.iload_n 1, 1) := by decide +kernel
theorem dL_worth_4 : decode cL_worth 4 = .ok (.invokevirtual 81, 3) := by decide +kernel
theorem dL_worth_7 : decode cL_worth 7 = .ok (.i2l, 1) := by decide +kernel
theorem dL_worth_8 : decode cL_worth 8 = .ok (.lastore, 1) := by decide +kernel
theorem dL_worth_9 : decode cL_worth 9 = .ok (.goto 6, 3) := by decide +kernel
theorem dL_worth_12 : decode cL_worth 12 = .ok (.astore_n 3, 1) := by decide +kernel
theorem dL_worth_13 : decode cL_worth 13 = .ok (.iconst 1, 1) := by decide +kernel
theorem dL_worth_14 : decode cL_worth 14 = .ok (.ireturn, 1) := by decide +kernel
theorem dL_worth_15 : decode cL_worth 15 = .ok (.iconst 0, 1) := by decide +kernel
theorem dL_worth_16 : decode cL_worth 16 = .ok (.ireturn, 1) := by decide +kernel
theorem lh_worth {g : Gw} (hG : GF g) {fr lo mc ms : Nat} (E : Mm) (x0 : Int) (M : Nat → Int → Mm → Prop) (hX : CTX g yX11_worth cX11_worth 2 (some .int) fr lo mc ms K2 false [mR 0, mI x0] (ov E) K2 false (fun r D' => ∃ (v : Int) (E1 : Mm), r = some (mI v) ∧ D' = ov E1 ∧ M 0 v E1) (fun X D' => ∃ (c : Nat) (E1 : Mm), ((c = 1 ∧ X = "java/util/NoSuchElementException")) ∧ D' = ov E1 ∧ M c 0 E1)) : CTH g yL_worth cL_worth 4 (some .int) [(0, 9, 12, 31)] (fr + 1) (lo + 21) mc ms K2 false [mR 0, mI x0, mR 813] (ov E) K2 false (fun r D' => ∃ (c : Nat) (v : Int) (E1 : Mm), r = some (mI (c : Int)) ∧ M c v E1 ∧ D' = ov (if c = 0 then wr E1 813 0 v else E1)) := by
  refine CTH.mk hG (by decide +kernel) (Nat.le_of_ble_eq_true rfl) (fun κ X Rt htab ok => ?_)
  refine at_aload_n 1 X rfl rfl dL_worth_0 rfl ?_
  refine at_iconst 2 X (by decide) dL_worth_1 rfl ?_
  refine at_aload_n 3 X rfl rfl dL_worth_2 rfl ?_
  refine at_iload_n 4 X rfl rfl dL_worth_3 rfl ?_
  refine at_callVH 7 X htab 0 11 hX clX11 rfl k_0 mo_X11_worth w_1520 vo_X11_worth.1 vo_X11_worth.2 rfl rfl (crm Rt ⟨Nat.le_refl _, by omega, by omega, by omega⟩) (Nat.le_of_ble_eq_true rfl) dL_worth_4 rfl ?_ ?_
  · rintro _ _ ⟨c, E1, ⟨rfl, rfl⟩, rfl, hM⟩
    refine ⟨tableOf [], _, tableOf [], "java/util/NoSuchElementException", rfl, (fun w hw => by cases hw), rfl, by decide, w_1202, w_1214, fun q => ?_⟩
    refine at_xstore_n 13 X rfl dL_worth_12 rfl (by decide) ?_
    refine at_iconst 14 X (by decide) dL_worth_13 rfl ?_
    exact at_iret X Rt ⟨1, 0, E1, rfl, hM, rfl⟩ (by omega) (by omega) dL_worth_14
  rintro _ _ ⟨v, E1, rfl, rfl, hM⟩
  refine at_i2l 8 X dL_worth_7 rfl ?_
  refine m_lastore 9 X k_813 e_813 (by decide) (by decide) dL_worth_8 rfl ?_
  refine at_goto 15 X dL_worth_9 (by decide) ?_
  refine at_iconst 16 X (by decide) dL_worth_15 rfl ?_
  exact at_iret X Rt ⟨0, v, E1, rfl, hM, rfl⟩ (by omega) (by omega) dL_worth_16
theorem dL_walk_0 : decode cL_walk 0 = .ok (.aload 5, 2) := by decide +kernel
theorem dL_walk_2 : decode cL_walk 2 = .ok (.iconst 0, 1) := by decide +kernel
theorem dL_walk_3 : decode cL_walk 3 = .ok (.aload_n 0, 1) := by decide +kernel
theorem dL_walk_4 : decode cL_walk 4 = .ok (.iload_n 1, 1) := by decide +kernel
theorem dL_walk_5 : decode cL_walk 5 = .ok (.iload_n 2, 1) := by decide +kernel
theorem dL_walk_6 : decode cL_walk 6 = .ok (.iload_n 3, 1) := by decide +kernel
theorem dL_walk_7 : decode cL_walk 7 = .ok (.iload 4, 2) := by decide +kernel
theorem dL_walk_9 : decode cL_walk 9 = .ok (.invokevirtual 84, 3) := by decide +kernel
theorem dL_walk_12 : decode cL_walk 12 = .ok (.i2l, 1) := by decide +kernel
theorem dL_walk_13 : decode cL_walk 13 = .ok (.lastore, 1) := by decide +kernel
theorem dL_walk_14 : decode cL_walk 14 = .ok (.goto 11, 3) := by decide +kernel
theorem dL_walk_17 : decode cL_walk 17 = .ok (.astore 6, 2) := by decide +kernel
theorem dL_walk_19 : decode cL_walk 19 = .ok (.iconst 1, 1) := by decide +kernel
theorem dL_walk_20 : decode cL_walk 20 = .ok (.ireturn, 1) := by decide +kernel
theorem dL_walk_21 : decode cL_walk 21 = .ok (.astore 6, 2) := by decide +kernel
theorem dL_walk_23 : decode cL_walk 23 = .ok (.iconst 2, 1) := by decide +kernel
theorem dL_walk_24 : decode cL_walk 24 = .ok (.ireturn, 1) := by decide +kernel
theorem dL_walk_25 : decode cL_walk 25 = .ok (.iconst 0, 1) := by decide +kernel
theorem dL_walk_26 : decode cL_walk 26 = .ok (.ireturn, 1) := by decide +kernel
theorem lh_walk {g : Gw} (hG : GF g) {fr lo mc ms : Nat} (E : Mm) (x0 x1 x2 x3 : Int) (M : Nat → Int → Mm → Prop) (hX : CTX g yX11_walk cX11_walk 8 (some .int) fr lo mc ms K2 false [mR 0, mI x0, mI x1, mI x2, mI x3] (ov E) K2 false (fun r D' => ∃ (v : Int) (E1 : Mm), r = some (mI v) ∧ D' = ov E1 ∧ M 0 v E1) (fun X D' => ∃ (c : Nat) (E1 : Mm), ((c = 1 ∧ X = "java/lang/IndexOutOfBoundsException") ∨ (c = 2 ∧ X = "java/lang/IllegalArgumentException")) ∧ D' = ov E1 ∧ M c 0 E1)) : CTH g yL_walk cL_walk 7 (some .int) [(0, 14, 17, 43), (0, 14, 21, 13)] (fr + 1) (lo + 27) mc ms K2 false [mR 0, mI x0, mI x1, mI x2, mI x3, mR 813] (ov E) K2 false (fun r D' => ∃ (c : Nat) (v : Int) (E1 : Mm), r = some (mI (c : Int)) ∧ M c v E1 ∧ D' = ov (if c = 0 then wr E1 813 0 v else E1)) := by
  refine CTH.mk hG (by decide +kernel) (Nat.le_of_ble_eq_true rfl) (fun κ X Rt htab ok => ?_)
  refine at_aload 2 X rfl dL_walk_0 rfl ?_
  refine at_iconst 3 X (by decide) dL_walk_2 rfl ?_
  refine at_aload_n 4 X rfl rfl dL_walk_3 rfl ?_
  refine at_iload_n 5 X rfl rfl dL_walk_4 rfl ?_
  refine at_iload_n 6 X rfl rfl dL_walk_5 rfl ?_
  refine at_iload_n 7 X rfl rfl dL_walk_6 rfl ?_
  refine at_iload 9 X rfl dL_walk_7 rfl ?_
  refine at_callVH 12 X htab 0 11 hX clX11 rfl k_0 mo_X11_walk w_1532 vo_X11_walk.1 vo_X11_walk.2 rfl rfl (crm Rt ⟨Nat.le_refl _, by omega, by omega, by omega⟩) (Nat.le_of_ble_eq_true rfl) dL_walk_9 rfl ?_ ?_
  · rintro _ _ ⟨c, E1, (⟨rfl, rfl⟩ | ⟨rfl, rfl⟩), rfl, hM⟩
    · refine ⟨tableOf [], _, tableOf [(0, 14, 21, 13)], "java/lang/IndexOutOfBoundsException", rfl, (fun w hw => by cases hw), rfl, by decide, w_1267, w_1278, fun q => ?_⟩
      refine at_xstore 19 X dL_walk_17 rfl (by decide) ?_
      refine at_iconst 20 X (by decide) dL_walk_19 rfl ?_
      exact at_iret X Rt ⟨1, 0, E1, rfl, hM, rfl⟩ (by omega) (by omega) dL_walk_20
    · refine ⟨tableOf [(0, 14, 17, 43)], _, tableOf [], "java/lang/IllegalArgumentException", rfl, (fun w hw => by
        rcases (by simpa [tableOf] using hw : w = ⟨0, 14, 17, 43⟩) with rfl
        · exact Or.inr ⟨by decide, "java/lang/IndexOutOfBoundsException", w_1267, by decide, by decide, by decide⟩), rfl, by decide, w_854, w_869, fun q => ?_⟩
      refine at_xstore 23 X dL_walk_21 rfl (by decide) ?_
      refine at_iconst 24 X (by decide) dL_walk_23 rfl ?_
      exact at_iret X Rt ⟨2, 0, E1, rfl, hM, rfl⟩ (by omega) (by omega) dL_walk_24
  rintro _ _ ⟨v, E1, rfl, rfl, hM⟩
  refine at_i2l 13 X dL_walk_12 rfl ?_
  refine m_lastore 14 X k_813 e_813 (by decide) (by decide) dL_walk_13 rfl ?_
  refine at_goto 25 X dL_walk_14 (by decide) ?_
  refine at_iconst 26 X (by decide) dL_walk_25 rfl ?_
  exact at_iret X Rt ⟨0, v, E1, rfl, hM, rfl⟩ (by omega) (by omega) dL_walk_26
theorem dL_missing_0 : decode cL_missing 0 = .ok (.aload_n 3, 1) := by decide +kernel
theorem dL_missing_1 : decode cL_missing 1 = .ok (.iconst 0, 1) := by decide +kernel
theorem dL_missing_2 : decode cL_missing 2 = .ok (.aload_n 0, 1) := by decide +kernel
theorem dL_missing_3 : decode cL_missing 3 = .ok (.iload_n 1, 1) := by decide +kernel
theorem dL_missing_4 : decode cL_missing 4 = .ok (.iload_n 2, 1) := by decide +kernel
theorem dL_missing_5 : decode cL_missing 5 = .ok (.invokevirtual 87, 3) := by decide +kernel
theorem dL_missing_8 : decode cL_missing 8 = .ok (.i2l, 1) := by decide +kernel
theorem dL_missing_9 : decode cL_missing 9 = .ok (.lastore, 1) := by decide +kernel
theorem dL_missing_10 : decode cL_missing 10 = .ok (.goto 7, 3) := by decide +kernel
theorem dL_missing_13 : decode cL_missing 13 = .ok (.astore 4, 2) := by decide +kernel
theorem dL_missing_15 : decode cL_missing 15 = .ok (.iconst 1, 1) := by decide +kernel
theorem dL_missing_16 : decode cL_missing 16 = .ok (.ireturn, 1) := by decide +kernel
theorem dL_missing_17 : decode cL_missing 17 = .ok (.iconst 0, 1) := by decide +kernel
theorem dL_missing_18 : decode cL_missing 18 = .ok (.ireturn, 1) := by decide +kernel
theorem lh_missing {g : Gw} (hG : GF g) {fr lo mc ms : Nat} (E : Mm) (x0 x1 : Int) (M : Nat → Int → Mm → Prop) (hX : CTX g yX11_missing cX11_missing 6 (some .int) fr lo mc ms K2 false [mR 0, mI x0, mI x1] (ov E) K2 false (fun r D' => ∃ (v : Int) (E1 : Mm), r = some (mI v) ∧ D' = ov E1 ∧ M 0 v E1) (fun X D' => ∃ (c : Nat) (E1 : Mm), ((c = 1 ∧ X = "java/lang/IllegalArgumentException")) ∧ D' = ov E1 ∧ M c 0 E1)) : CTH g yL_missing cL_missing 5 (some .int) [(0, 10, 13, 13)] (fr + 1) (lo + 25) mc ms K2 false [mR 0, mI x0, mI x1, mR 813] (ov E) K2 false (fun r D' => ∃ (c : Nat) (v : Int) (E1 : Mm), r = some (mI (c : Int)) ∧ M c v E1 ∧ D' = ov (if c = 0 then wr E1 813 0 v else E1)) := by
  refine CTH.mk hG (by decide +kernel) (Nat.le_of_ble_eq_true rfl) (fun κ X Rt htab ok => ?_)
  refine at_aload_n 1 X rfl rfl dL_missing_0 rfl ?_
  refine at_iconst 2 X (by decide) dL_missing_1 rfl ?_
  refine at_aload_n 3 X rfl rfl dL_missing_2 rfl ?_
  refine at_iload_n 4 X rfl rfl dL_missing_3 rfl ?_
  refine at_iload_n 5 X rfl rfl dL_missing_4 rfl ?_
  refine at_callVH 8 X htab 0 11 hX clX11 rfl k_0 mo_X11_missing w_1544 vo_X11_missing.1 vo_X11_missing.2 rfl rfl (crm Rt ⟨Nat.le_refl _, by omega, by omega, by omega⟩) (Nat.le_of_ble_eq_true rfl) dL_missing_5 rfl ?_ ?_
  · rintro _ _ ⟨c, E1, ⟨rfl, rfl⟩, rfl, hM⟩
    refine ⟨tableOf [], _, tableOf [], "java/lang/IllegalArgumentException", rfl, (fun w hw => by cases hw), rfl, by decide, w_854, w_869, fun q => ?_⟩
    refine at_xstore 15 X dL_missing_13 rfl (by decide) ?_
    refine at_iconst 16 X (by decide) dL_missing_15 rfl ?_
    exact at_iret X Rt ⟨1, 0, E1, rfl, hM, rfl⟩ (by omega) (by omega) dL_missing_16
  rintro _ _ ⟨v, E1, rfl, rfl, hM⟩
  refine at_i2l 9 X dL_missing_8 rfl ?_
  refine m_lastore 10 X k_813 e_813 (by decide) (by decide) dL_missing_9 rfl ?_
  refine at_goto 17 X dL_missing_10 (by decide) ?_
  refine at_iconst 18 X (by decide) dL_missing_17 rfl ?_
  exact at_iret X Rt ⟨0, v, E1, rfl, hM, rfl⟩ (by omega) (by omega) dL_missing_18
theorem dL_whole_0 : decode cL_whole 0 = .ok (.aload_n 3, 1) := by decide +kernel
theorem dL_whole_1 : decode cL_whole 1 = .ok (.iconst 0, 1) := by decide +kernel
theorem dL_whole_2 : decode cL_whole 2 = .ok (.aload_n 0, 1) := by decide +kernel
theorem dL_whole_3 : decode cL_whole 3 = .ok (.iload_n 1, 1) := by decide +kernel
theorem dL_whole_4 : decode cL_whole 4 = .ok (.iload_n 2, 1) := by decide +kernel
theorem dL_whole_5 : decode cL_whole 5 = .ok (.invokevirtual 90, 3) := by decide +kernel
theorem dL_whole_8 : decode cL_whole 8 = .ok (.i2l, 1) := by decide +kernel
theorem dL_whole_9 : decode cL_whole 9 = .ok (.lastore, 1) := by decide +kernel
theorem dL_whole_10 : decode cL_whole 10 = .ok (.goto 7, 3) := by decide +kernel
theorem dL_whole_13 : decode cL_whole 13 = .ok (.astore 4, 2) := by decide +kernel
theorem dL_whole_15 : decode cL_whole 15 = .ok (.iconst 1, 1) := by decide +kernel
theorem dL_whole_16 : decode cL_whole 16 = .ok (.ireturn, 1) := by decide +kernel
theorem dL_whole_17 : decode cL_whole 17 = .ok (.iconst 0, 1) := by decide +kernel
theorem dL_whole_18 : decode cL_whole 18 = .ok (.ireturn, 1) := by decide +kernel
theorem lh_whole {g : Gw} (hG : GF g) {fr lo mc ms : Nat} (E : Mm) (x0 x1 : Int) (M : Nat → Int → Mm → Prop) (hX : CTX g yX11_whole cX11_whole 6 (some .int) fr lo mc ms K2 false [mR 0, mI x0, mI x1] (ov E) K2 false (fun r D' => ∃ (v : Int) (E1 : Mm), r = some (mI v) ∧ D' = ov E1 ∧ M 0 v E1) (fun X D' => ∃ (c : Nat) (E1 : Mm), ((c = 1 ∧ X = "java/lang/IllegalArgumentException")) ∧ D' = ov E1 ∧ M c 0 E1)) : CTH g yL_whole cL_whole 5 (some .int) [(0, 10, 13, 13)] (fr + 1) (lo + 25) mc ms K2 false [mR 0, mI x0, mI x1, mR 813] (ov E) K2 false (fun r D' => ∃ (c : Nat) (v : Int) (E1 : Mm), r = some (mI (c : Int)) ∧ M c v E1 ∧ D' = ov (if c = 0 then wr E1 813 0 v else E1)) := by
  refine CTH.mk hG (by decide +kernel) (Nat.le_of_ble_eq_true rfl) (fun κ X Rt htab ok => ?_)
  refine at_aload_n 1 X rfl rfl dL_whole_0 rfl ?_
  refine at_iconst 2 X (by decide) dL_whole_1 rfl ?_
  refine at_aload_n 3 X rfl rfl dL_whole_2 rfl ?_
  refine at_iload_n 4 X rfl rfl dL_whole_3 rfl ?_
  refine at_iload_n 5 X rfl rfl dL_whole_4 rfl ?_
  refine at_callVH 8 X htab 0 11 hX clX11 rfl k_0 mo_X11_whole w_1551 vo_X11_whole.1 vo_X11_whole.2 rfl rfl (crm Rt ⟨Nat.le_refl _, by omega, by omega, by omega⟩) (Nat.le_of_ble_eq_true rfl) dL_whole_5 rfl ?_ ?_
  · rintro _ _ ⟨c, E1, ⟨rfl, rfl⟩, rfl, hM⟩
    refine ⟨tableOf [], _, tableOf [], "java/lang/IllegalArgumentException", rfl, (fun w hw => by cases hw), rfl, by decide, w_854, w_869, fun q => ?_⟩
    refine at_xstore 15 X dL_whole_13 rfl (by decide) ?_
    refine at_iconst 16 X (by decide) dL_whole_15 rfl ?_
    exact at_iret X Rt ⟨1, 0, E1, rfl, hM, rfl⟩ (by omega) (by omega) dL_whole_16
  rintro _ _ ⟨v, E1, rfl, rfl, hM⟩
  refine at_i2l 9 X dL_whole_8 rfl ?_
  refine m_lastore 10 X k_813 e_813 (by decide) (by decide) dL_whole_9 rfl ?_
  refine at_goto 17 X dL_whole_10 (by decide) ?_
  refine at_iconst 18 X (by decide) dL_whole_17 rfl ?_
  exact at_iret X Rt ⟨0, v, E1, rfl, hM, rfl⟩ (by omega) (by omega) dL_whole_18
theorem dL_next_0 : decode cL_next 0 = .ok (.aload_n 2, 1) := by decide +kernel
theorem dL_next_1 : decode cL_next 1 = .ok (.iconst 0, 1) := by decide +kernel
theorem dL_next_2 : decode cL_next 2 = .ok (.aload_n 0, 1) := by decide +kernel
theorem dL_next_3 : decode cL_next 3 = .ok (.iload_n 1, 1) := by decide +kernel
theorem dL_next_4 : decode cL_next 4 = .ok (.invokevirtual 93, 3) := by decide +kernel
theorem dL_next_7 : decode cL_next 7 = .ok (.i2l, 1) := by decide +kernel
theorem dL_next_8 : decode cL_next 8 = .ok (.lastore, 1) := by decide +kernel
theorem dL_next_9 : decode cL_next 9 = .ok (.goto 6, 3) := by decide +kernel
theorem dL_next_12 : decode cL_next 12 = .ok (.astore_n 3, 1) := by decide +kernel
theorem dL_next_13 : decode cL_next 13 = .ok (.iconst 1, 1) := by decide +kernel
theorem dL_next_14 : decode cL_next 14 = .ok (.ireturn, 1) := by decide +kernel
theorem dL_next_15 : decode cL_next 15 = .ok (.iconst 0, 1) := by decide +kernel
theorem dL_next_16 : decode cL_next 16 = .ok (.ireturn, 1) := by decide +kernel
theorem lh_next {g : Gw} (hG : GF g) {fr lo mc ms : Nat} (E : Mm) (x0 : Int) (M : Nat → Int → Mm → Prop) (hX : CTX g yX11_next cX11_next 4 (some .int) fr lo mc ms K2 false [mR 0, mI x0] (ov E) K2 false (fun r D' => ∃ (v : Int) (E1 : Mm), r = some (mI v) ∧ D' = ov E1 ∧ M 0 v E1) (fun X D' => ∃ (c : Nat) (E1 : Mm), ((c = 1 ∧ X = "java/lang/IllegalArgumentException")) ∧ D' = ov E1 ∧ M c 0 E1)) : CTH g yL_next cL_next 4 (some .int) [(0, 9, 12, 13)] (fr + 1) (lo + 23) mc ms K2 false [mR 0, mI x0, mR 813] (ov E) K2 false (fun r D' => ∃ (c : Nat) (v : Int) (E1 : Mm), r = some (mI (c : Int)) ∧ M c v E1 ∧ D' = ov (if c = 0 then wr E1 813 0 v else E1)) := by
  refine CTH.mk hG (by decide +kernel) (Nat.le_of_ble_eq_true rfl) (fun κ X Rt htab ok => ?_)
  refine at_aload_n 1 X rfl rfl dL_next_0 rfl ?_
  refine at_iconst 2 X (by decide) dL_next_1 rfl ?_
  refine at_aload_n 3 X rfl rfl dL_next_2 rfl ?_
  refine at_iload_n 4 X rfl rfl dL_next_3 rfl ?_
  refine at_callVH 7 X htab 0 11 hX clX11 rfl k_0 mo_X11_next w_1566 vo_X11_next.1 vo_X11_next.2 rfl rfl (crm Rt ⟨Nat.le_refl _, by omega, by omega, by omega⟩) (Nat.le_of_ble_eq_true rfl) dL_next_4 rfl ?_ ?_
  · rintro _ _ ⟨c, E1, ⟨rfl, rfl⟩, rfl, hM⟩
    refine ⟨tableOf [], _, tableOf [], "java/lang/IllegalArgumentException", rfl, (fun w hw => by cases hw), rfl, by decide, w_854, w_869, fun q => ?_⟩
    refine at_xstore_n 13 X rfl dL_next_12 rfl (by decide) ?_
    refine at_iconst 14 X (by decide) dL_next_13 rfl ?_
    exact at_iret X Rt ⟨1, 0, E1, rfl, hM, rfl⟩ (by omega) (by omega) dL_next_14
  rintro _ _ ⟨v, E1, rfl, rfl, hM⟩
  refine at_i2l 8 X dL_next_7 rfl ?_
  refine m_lastore 9 X k_813 e_813 (by decide) (by decide) dL_next_8 rfl ?_
  refine at_goto 15 X dL_next_9 (by decide) ?_
  refine at_iconst 16 X (by decide) dL_next_15 rfl ?_
  exact at_iret X Rt ⟨0, v, E1, rfl, hM, rfl⟩ (by omega) (by omega) dL_next_16
theorem dL_odds_0 : decode cL_odds 0 = .ok (.aload 6, 2) := by decide +kernel
theorem dL_odds_2 : decode cL_odds 2 = .ok (.iconst 0, 1) := by decide +kernel
theorem dL_odds_3 : decode cL_odds 3 = .ok (.aload_n 0, 1) := by decide +kernel
theorem dL_odds_4 : decode cL_odds 4 = .ok (.iload_n 1, 1) := by decide +kernel
theorem dL_odds_5 : decode cL_odds 5 = .ok (.iload_n 2, 1) := by decide +kernel
theorem dL_odds_6 : decode cL_odds 6 = .ok (.iload_n 3, 1) := by decide +kernel
theorem dL_odds_7 : decode cL_odds 7 = .ok (.iload 4, 2) := by decide +kernel
theorem dL_odds_9 : decode cL_odds 9 = .ok (.iload 5, 2) := by decide +kernel
theorem dL_odds_11 : decode cL_odds 11 = .ok (.invokevirtual 96, 3) := by decide +kernel
theorem dL_odds_14 : decode cL_odds 14 = .ok (.lastore, 1) := by decide +kernel
theorem dL_odds_15 : decode cL_odds 15 = .ok (.goto 11, 3) := by decide +kernel
theorem dL_odds_18 : decode cL_odds 18 = .ok (.astore 7, 2) := by decide +kernel
theorem dL_odds_20 : decode cL_odds 20 = .ok (.iconst 1, 1) := by decide +kernel
theorem dL_odds_21 : decode cL_odds 21 = .ok (.ireturn, 1) := by decide +kernel
theorem dL_odds_22 : decode cL_odds 22 = .ok (.astore 7, 2) := by decide +kernel
theorem dL_odds_24 : decode cL_odds 24 = .ok (.iconst 2, 1) := by decide +kernel
theorem dL_odds_25 : decode cL_odds 25 = .ok (.ireturn, 1) := by decide +kernel
theorem dL_odds_26 : decode cL_odds 26 = .ok (.iconst 0, 1) := by decide +kernel
theorem dL_odds_27 : decode cL_odds 27 = .ok (.ireturn, 1) := by decide +kernel
theorem lh_odds {g : Gw} (hG : GF g) {fr lo mc ms : Nat} (E : Mm) (x0 x1 x2 x3 x4 : Int) (M : Nat → Int → Mm → Prop) (hX : CTX g yX11_odds cX11_odds 12 (some .long) fr lo mc ms K2 false [mR 0, mI x0, mI x1, mI x2, mI x3, mI x4] (ov E) K2 false (fun r D' => ∃ (v : Int) (E1 : Mm), r = some (mL v) ∧ D' = ov E1 ∧ M 0 v E1) (fun X D' => ∃ (c : Nat) (E1 : Mm), ((c = 1 ∧ X = "java/util/NoSuchElementException") ∨ (c = 2 ∧ X = "java/lang/IllegalArgumentException")) ∧ D' = ov E1 ∧ M c 0 E1)) : CTH g yL_odds cL_odds 8 (some .int) [(0, 15, 18, 31), (0, 15, 22, 13)] (fr + 1) (lo + 31) mc ms K2 false [mR 0, mI x0, mI x1, mI x2, mI x3, mI x4, mR 813] (ov E) K2 false (fun r D' => ∃ (c : Nat) (v : Int) (E1 : Mm), r = some (mI (c : Int)) ∧ M c v E1 ∧ D' = ov (if c = 0 then wr E1 813 0 v else E1)) := by
  refine CTH.mk hG (by decide +kernel) (Nat.le_of_ble_eq_true rfl) (fun κ X Rt htab ok => ?_)
  refine at_aload 2 X rfl dL_odds_0 rfl ?_
  refine at_iconst 3 X (by decide) dL_odds_2 rfl ?_
  refine at_aload_n 4 X rfl rfl dL_odds_3 rfl ?_
  refine at_iload_n 5 X rfl rfl dL_odds_4 rfl ?_
  refine at_iload_n 6 X rfl rfl dL_odds_5 rfl ?_
  refine at_iload_n 7 X rfl rfl dL_odds_6 rfl ?_
  refine at_iload 9 X rfl dL_odds_7 rfl ?_
  refine at_iload 11 X rfl dL_odds_9 rfl ?_
  refine at_callVH 14 X htab 0 11 hX clX11 rfl k_0 mo_X11_odds w_1573 vo_X11_odds.1 vo_X11_odds.2 rfl rfl (crm Rt ⟨Nat.le_refl _, by omega, by omega, by omega⟩) (Nat.le_of_ble_eq_true rfl) dL_odds_11 rfl ?_ ?_
  · rintro _ _ ⟨c, E1, (⟨rfl, rfl⟩ | ⟨rfl, rfl⟩), rfl, hM⟩
    · refine ⟨tableOf [], _, tableOf [(0, 15, 22, 13)], "java/util/NoSuchElementException", rfl, (fun w hw => by cases hw), rfl, by decide, w_1202, w_1214, fun q => ?_⟩
      refine at_xstore 20 X dL_odds_18 rfl (by decide) ?_
      refine at_iconst 21 X (by decide) dL_odds_20 rfl ?_
      exact at_iret X Rt ⟨1, 0, E1, rfl, hM, rfl⟩ (by omega) (by omega) dL_odds_21
    · refine ⟨tableOf [(0, 15, 18, 31)], _, tableOf [], "java/lang/IllegalArgumentException", rfl, (fun w hw => by
        rcases (by simpa [tableOf] using hw : w = ⟨0, 15, 18, 31⟩) with rfl
        · exact Or.inr ⟨by decide, "java/util/NoSuchElementException", w_1202, by decide, by decide, by decide⟩), rfl, by decide, w_854, w_869, fun q => ?_⟩
      refine at_xstore 24 X dL_odds_22 rfl (by decide) ?_
      refine at_iconst 25 X (by decide) dL_odds_24 rfl ?_
      exact at_iret X Rt ⟨2, 0, E1, rfl, hM, rfl⟩ (by omega) (by omega) dL_odds_25
  rintro _ _ ⟨v, E1, rfl, rfl, hM⟩
  refine m_lastore 15 X k_813 e_813 (by decide) (by decide) dL_odds_14 rfl ?_
  refine at_goto 26 X dL_odds_15 (by decide) ?_
  refine at_iconst 27 X (by decide) dL_odds_26 rfl ?_
  exact at_iret X Rt ⟨0, v, E1, rfl, hM, rfl⟩ (by omega) (by omega) dL_odds_27
theorem dL_drawn_0 : decode cL_drawn 0 = .ok (.aload_n 3, 1) := by decide +kernel
theorem dL_drawn_1 : decode cL_drawn 1 = .ok (.iconst 0, 1) := by decide +kernel
theorem dL_drawn_2 : decode cL_drawn 2 = .ok (.aload_n 0, 1) := by decide +kernel
theorem dL_drawn_3 : decode cL_drawn 3 = .ok (.iload_n 1, 1) := by decide +kernel
theorem dL_drawn_4 : decode cL_drawn 4 = .ok (.iload_n 2, 1) := by decide +kernel
theorem dL_drawn_5 : decode cL_drawn 5 = .ok (.invokevirtual 100, 3) := by decide +kernel
theorem dL_drawn_8 : decode cL_drawn 8 = .ok (.i2l, 1) := by decide +kernel
theorem dL_drawn_9 : decode cL_drawn 9 = .ok (.lastore, 1) := by decide +kernel
theorem dL_drawn_10 : decode cL_drawn 10 = .ok (.goto 7, 3) := by decide +kernel
theorem dL_drawn_13 : decode cL_drawn 13 = .ok (.astore 4, 2) := by decide +kernel
theorem dL_drawn_15 : decode cL_drawn 15 = .ok (.iconst 1, 1) := by decide +kernel
theorem dL_drawn_16 : decode cL_drawn 16 = .ok (.ireturn, 1) := by decide +kernel
theorem dL_drawn_17 : decode cL_drawn 17 = .ok (.iconst 0, 1) := by decide +kernel
theorem dL_drawn_18 : decode cL_drawn 18 = .ok (.ireturn, 1) := by decide +kernel
theorem lh_drawn {g : Gw} (hG : GF g) {fr lo mc ms : Nat} (E : Mm) (x0 x1 : Int) (M : Nat → Int → Mm → Prop) (hX : CTX g yX11_drawn cX11_drawn 3 (some .int) fr lo mc ms K2 false [mR 0, mI x0, mI x1] (ov E) K2 false (fun r D' => ∃ (v : Int) (E1 : Mm), r = some (mI v) ∧ D' = ov E1 ∧ M 0 v E1) (fun X D' => ∃ (c : Nat) (E1 : Mm), ((c = 1 ∧ X = "java/lang/IllegalArgumentException")) ∧ D' = ov E1 ∧ M c 0 E1)) : CTH g yL_drawn cL_drawn 5 (some .int) [(0, 10, 13, 13)] (fr + 1) (lo + 22) mc ms K2 false [mR 0, mI x0, mI x1, mR 813] (ov E) K2 false (fun r D' => ∃ (c : Nat) (v : Int) (E1 : Mm), r = some (mI (c : Int)) ∧ M c v E1 ∧ D' = ov (if c = 0 then wr E1 813 0 v else E1)) := by
  refine CTH.mk hG (by decide +kernel) (Nat.le_of_ble_eq_true rfl) (fun κ X Rt htab ok => ?_)
  refine at_aload_n 1 X rfl rfl dL_drawn_0 rfl ?_
  refine at_iconst 2 X (by decide) dL_drawn_1 rfl ?_
  refine at_aload_n 3 X rfl rfl dL_drawn_2 rfl ?_
  refine at_iload_n 4 X rfl rfl dL_drawn_3 rfl ?_
  refine at_iload_n 5 X rfl rfl dL_drawn_4 rfl ?_
  refine at_callVH 8 X htab 0 11 hX clX11 rfl k_0 mo_X11_drawn w_1583 vo_X11_drawn.1 vo_X11_drawn.2 rfl rfl (crm Rt ⟨Nat.le_refl _, by omega, by omega, by omega⟩) (Nat.le_of_ble_eq_true rfl) dL_drawn_5 rfl ?_ ?_
  · rintro _ _ ⟨c, E1, ⟨rfl, rfl⟩, rfl, hM⟩
    refine ⟨tableOf [], _, tableOf [], "java/lang/IllegalArgumentException", rfl, (fun w hw => by cases hw), rfl, by decide, w_854, w_869, fun q => ?_⟩
    refine at_xstore 15 X dL_drawn_13 rfl (by decide) ?_
    refine at_iconst 16 X (by decide) dL_drawn_15 rfl ?_
    exact at_iret X Rt ⟨1, 0, E1, rfl, hM, rfl⟩ (by omega) (by omega) dL_drawn_16
  rintro _ _ ⟨v, E1, rfl, rfl, hM⟩
  refine at_i2l 9 X dL_drawn_8 rfl ?_
  refine m_lastore 10 X k_813 e_813 (by decide) (by decide) dL_drawn_9 rfl ?_
  refine at_goto 17 X dL_drawn_10 (by decide) ?_
  refine at_iconst 18 X (by decide) dL_drawn_17 rfl ?_
  exact at_iret X Rt ⟨0, v, E1, rfl, hM, rfl⟩ (by omega) (by omega) dL_drawn_18
theorem dL_span_0 : decode cL_span 0 = .ok (.aload 6, 2) := by decide +kernel
theorem dL_span_2 : decode cL_span 2 = .ok (.iconst 0, 1) := by decide +kernel
theorem dL_span_3 : decode cL_span 3 = .ok (.aload_n 0, 1) := by decide +kernel
theorem dL_span_4 : decode cL_span 4 = .ok (.iload_n 1, 1) := by decide +kernel
theorem dL_span_5 : decode cL_span 5 = .ok (.iload_n 2, 1) := by decide +kernel
theorem dL_span_6 : decode cL_span 6 = .ok (.iload_n 3, 1) := by decide +kernel
theorem dL_span_7 : decode cL_span 7 = .ok (.iload 4, 2) := by decide +kernel
theorem dL_span_9 : decode cL_span 9 = .ok (.iload 5, 2) := by decide +kernel
theorem dL_span_11 : decode cL_span 11 = .ok (.invokevirtual 103, 3) := by decide +kernel
theorem dL_span_14 : decode cL_span 14 = .ok (.i2l, 1) := by decide +kernel
theorem dL_span_15 : decode cL_span 15 = .ok (.lastore, 1) := by decide +kernel
theorem dL_span_16 : decode cL_span 16 = .ok (.goto 7, 3) := by decide +kernel
theorem dL_span_19 : decode cL_span 19 = .ok (.astore 7, 2) := by decide +kernel
theorem dL_span_21 : decode cL_span 21 = .ok (.iconst 1, 1) := by decide +kernel
theorem dL_span_22 : decode cL_span 22 = .ok (.ireturn, 1) := by decide +kernel
theorem dL_span_23 : decode cL_span 23 = .ok (.iconst 0, 1) := by decide +kernel
theorem dL_span_24 : decode cL_span 24 = .ok (.ireturn, 1) := by decide +kernel
theorem lh_span {g : Gw} (hG : GF g) {fr lo mc ms : Nat} (E : Mm) (x0 x1 x2 x3 x4 : Int) (M : Nat → Int → Mm → Prop) (hX : CTX g yX11_span cX11_span 10 (some .int) fr lo mc ms K2 false [mR 0, mI x0, mI x1, mI x2, mI x3, mI x4] (ov E) K2 false (fun r D' => ∃ (v : Int) (E1 : Mm), r = some (mI v) ∧ D' = ov E1 ∧ M 0 v E1) (fun X D' => ∃ (c : Nat) (E1 : Mm), ((c = 1 ∧ X = "java/lang/IllegalArgumentException")) ∧ D' = ov E1 ∧ M c 0 E1)) : CTH g yL_span cL_span 8 (some .int) [(0, 16, 19, 13)] (fr + 1) (lo + 29) mc ms K2 false [mR 0, mI x0, mI x1, mI x2, mI x3, mI x4, mR 813] (ov E) K2 false (fun r D' => ∃ (c : Nat) (v : Int) (E1 : Mm), r = some (mI (c : Int)) ∧ M c v E1 ∧ D' = ov (if c = 0 then wr E1 813 0 v else E1)) := by
  refine CTH.mk hG (by decide +kernel) (Nat.le_of_ble_eq_true rfl) (fun κ X Rt htab ok => ?_)
  refine at_aload 2 X rfl dL_span_0 rfl ?_
  refine at_iconst 3 X (by decide) dL_span_2 rfl ?_
  refine at_aload_n 4 X rfl rfl dL_span_3 rfl ?_
  refine at_iload_n 5 X rfl rfl dL_span_4 rfl ?_
  refine at_iload_n 6 X rfl rfl dL_span_5 rfl ?_
  refine at_iload_n 7 X rfl rfl dL_span_6 rfl ?_
  refine at_iload 9 X rfl dL_span_7 rfl ?_
  refine at_iload 11 X rfl dL_span_9 rfl ?_
  refine at_callVH 14 X htab 0 11 hX clX11 rfl k_0 mo_X11_span w_1595 vo_X11_span.1 vo_X11_span.2 rfl rfl (crm Rt ⟨Nat.le_refl _, by omega, by omega, by omega⟩) (Nat.le_of_ble_eq_true rfl) dL_span_11 rfl ?_ ?_
  · rintro _ _ ⟨c, E1, ⟨rfl, rfl⟩, rfl, hM⟩
    refine ⟨tableOf [], _, tableOf [], "java/lang/IllegalArgumentException", rfl, (fun w hw => by cases hw), rfl, by decide, w_854, w_869, fun q => ?_⟩
    refine at_xstore 21 X dL_span_19 rfl (by decide) ?_
    refine at_iconst 22 X (by decide) dL_span_21 rfl ?_
    exact at_iret X Rt ⟨1, 0, E1, rfl, hM, rfl⟩ (by omega) (by omega) dL_span_22
  rintro _ _ ⟨v, E1, rfl, rfl, hM⟩
  refine at_i2l 15 X dL_span_14 rfl ?_
  refine m_lastore 16 X k_813 e_813 (by decide) (by decide) dL_span_15 rfl ?_
  refine at_goto 23 X dL_span_16 (by decide) ?_
  refine at_iconst 24 X (by decide) dL_span_23 rfl ?_
  exact at_iret X Rt ⟨0, v, E1, rfl, hM, rfl⟩ (by omega) (by omega) dL_span_24
theorem dL_places_0 : decode cL_places 0 = .ok (.aload 4, 2) := by decide +kernel
theorem dL_places_2 : decode cL_places 2 = .ok (.iconst 0, 1) := by decide +kernel
theorem dL_places_3 : decode cL_places 3 = .ok (.aload_n 0, 1) := by decide +kernel
theorem dL_places_4 : decode cL_places 4 = .ok (.iload_n 1, 1) := by decide +kernel
theorem dL_places_5 : decode cL_places 5 = .ok (.iload_n 2, 1) := by decide +kernel
theorem dL_places_6 : decode cL_places 6 = .ok (.iload_n 3, 1) := by decide +kernel
theorem dL_places_7 : decode cL_places 7 = .ok (.invokevirtual 107, 3) := by decide +kernel
theorem dL_places_10 : decode cL_places 10 = .ok (.i2l, 1) := by decide +kernel
theorem dL_places_11 : decode cL_places 11 = .ok (.lastore, 1) := by decide +kernel
theorem dL_places_12 : decode cL_places 12 = .ok (.goto 11, 3) := by decide +kernel
theorem dL_places_15 : decode cL_places 15 = .ok (.astore 5, 2) := by decide +kernel
theorem dL_places_17 : decode cL_places 17 = .ok (.iconst 1, 1) := by decide +kernel
theorem dL_places_18 : decode cL_places 18 = .ok (.ireturn, 1) := by decide +kernel
theorem dL_places_19 : decode cL_places 19 = .ok (.astore 5, 2) := by decide +kernel
theorem dL_places_21 : decode cL_places 21 = .ok (.iconst 2, 1) := by decide +kernel
theorem dL_places_22 : decode cL_places 22 = .ok (.ireturn, 1) := by decide +kernel
theorem dL_places_23 : decode cL_places 23 = .ok (.iconst 0, 1) := by decide +kernel
theorem dL_places_24 : decode cL_places 24 = .ok (.ireturn, 1) := by decide +kernel
theorem lh_places {g : Gw} (hG : GF g) {fr lo mc ms : Nat} (E : Mm) (x0 x1 x2 : Int) (M : Nat → Int → Mm → Prop) (hX : CTX g yX11_places cX11_places 6 (some .int) fr lo mc ms K2 false [mR 0, mI x0, mI x1, mI x2] (ov E) K2 false (fun r D' => ∃ (v : Int) (E1 : Mm), r = some (mI v) ∧ D' = ov E1 ∧ M 0 v E1) (fun X D' => ∃ (c : Nat) (E1 : Mm), ((c = 1 ∧ X = "java/util/NoSuchElementException") ∨ (c = 2 ∧ X = "java/lang/IllegalArgumentException")) ∧ D' = ov E1 ∧ M c 0 E1)) : CTH g yL_places cL_places 6 (some .int) [(0, 12, 15, 31), (0, 12, 19, 13)] (fr + 1) (lo + 25) mc ms K2 false [mR 0, mI x0, mI x1, mI x2, mR 813] (ov E) K2 false (fun r D' => ∃ (c : Nat) (v : Int) (E1 : Mm), r = some (mI (c : Int)) ∧ M c v E1 ∧ D' = ov (if c = 0 then wr E1 813 0 v else E1)) := by
  refine CTH.mk hG (by decide +kernel) (Nat.le_of_ble_eq_true rfl) (fun κ X Rt htab ok => ?_)
  refine at_aload 2 X rfl dL_places_0 rfl ?_
  refine at_iconst 3 X (by decide) dL_places_2 rfl ?_
  refine at_aload_n 4 X rfl rfl dL_places_3 rfl ?_
  refine at_iload_n 5 X rfl rfl dL_places_4 rfl ?_
  refine at_iload_n 6 X rfl rfl dL_places_5 rfl ?_
  refine at_iload_n 7 X rfl rfl dL_places_6 rfl ?_
  refine at_callVH 10 X htab 0 11 hX clX11 rfl k_0 mo_X11_places w_1604 vo_X11_places.1 vo_X11_places.2 rfl rfl (crm Rt ⟨Nat.le_refl _, by omega, by omega, by omega⟩) (Nat.le_of_ble_eq_true rfl) dL_places_7 rfl ?_ ?_
  · rintro _ _ ⟨c, E1, (⟨rfl, rfl⟩ | ⟨rfl, rfl⟩), rfl, hM⟩
    · refine ⟨tableOf [], _, tableOf [(0, 12, 19, 13)], "java/util/NoSuchElementException", rfl, (fun w hw => by cases hw), rfl, by decide, w_1202, w_1214, fun q => ?_⟩
      refine at_xstore 17 X dL_places_15 rfl (by decide) ?_
      refine at_iconst 18 X (by decide) dL_places_17 rfl ?_
      exact at_iret X Rt ⟨1, 0, E1, rfl, hM, rfl⟩ (by omega) (by omega) dL_places_18
    · refine ⟨tableOf [(0, 12, 15, 31)], _, tableOf [], "java/lang/IllegalArgumentException", rfl, (fun w hw => by
        rcases (by simpa [tableOf] using hw : w = ⟨0, 12, 15, 31⟩) with rfl
        · exact Or.inr ⟨by decide, "java/util/NoSuchElementException", w_1202, by decide, by decide, by decide⟩), rfl, by decide, w_854, w_869, fun q => ?_⟩
      refine at_xstore 21 X dL_places_19 rfl (by decide) ?_
      refine at_iconst 22 X (by decide) dL_places_21 rfl ?_
      exact at_iret X Rt ⟨2, 0, E1, rfl, hM, rfl⟩ (by omega) (by omega) dL_places_22
  rintro _ _ ⟨v, E1, rfl, rfl, hM⟩
  refine at_i2l 11 X dL_places_10 rfl ?_
  refine m_lastore 12 X k_813 e_813 (by decide) (by decide) dL_places_11 rfl ?_
  refine at_goto 23 X dL_places_12 (by decide) ?_
  refine at_iconst 24 X (by decide) dL_places_23 rfl ?_
  exact at_iret X Rt ⟨0, v, E1, rfl, hM, rfl⟩ (by omega) (by omega) dL_places_24
theorem dL_row_0 : decode cL_row 0 = .ok (.aload_n 3, 1) := by decide +kernel
theorem dL_row_1 : decode cL_row 1 = .ok (.iconst 0, 1) := by decide +kernel
theorem dL_row_2 : decode cL_row 2 = .ok (.aload_n 0, 1) := by decide +kernel
theorem dL_row_3 : decode cL_row 3 = .ok (.iload_n 1, 1) := by decide +kernel
theorem dL_row_4 : decode cL_row 4 = .ok (.iload_n 2, 1) := by decide +kernel
theorem dL_row_5 : decode cL_row 5 = .ok (.invokevirtual 110, 3) := by decide +kernel
theorem dL_row_8 : decode cL_row 8 = .ok (.i2l, 1) := by decide +kernel
theorem dL_row_9 : decode cL_row 9 = .ok (.lastore, 1) := by decide +kernel
theorem dL_row_10 : decode cL_row 10 = .ok (.goto 7, 3) := by decide +kernel
theorem dL_row_13 : decode cL_row 13 = .ok (.astore 4, 2) := by decide +kernel
theorem dL_row_15 : decode cL_row 15 = .ok (.iconst 1, 1) := by decide +kernel
theorem dL_row_16 : decode cL_row 16 = .ok (.ireturn, 1) := by decide +kernel
theorem dL_row_17 : decode cL_row 17 = .ok (.iconst 0, 1) := by decide +kernel
theorem dL_row_18 : decode cL_row 18 = .ok (.ireturn, 1) := by decide +kernel
theorem lh_row {g : Gw} (hG : GF g) {fr lo mc ms : Nat} (E : Mm) (x0 x1 : Int) (M : Nat → Int → Mm → Prop) (hX : CTX g yX11_row cX11_row 9 (some .int) fr lo mc ms K2 false [mR 0, mI x0, mI x1] (ov E) K2 false (fun r D' => ∃ (v : Int) (E1 : Mm), r = some (mI v) ∧ D' = ov E1 ∧ M 0 v E1) (fun X D' => ∃ (c : Nat) (E1 : Mm), ((c = 1 ∧ X = "java/lang/IllegalArgumentException")) ∧ D' = ov E1 ∧ M c 0 E1)) : CTH g yL_row cL_row 5 (some .int) [(0, 10, 13, 13)] (fr + 1) (lo + 28) mc ms K2 false [mR 0, mI x0, mI x1, mR 813] (ov E) K2 false (fun r D' => ∃ (c : Nat) (v : Int) (E1 : Mm), r = some (mI (c : Int)) ∧ M c v E1 ∧ D' = ov (if c = 0 then wr E1 813 0 v else E1)) := by
  refine CTH.mk hG (by decide +kernel) (Nat.le_of_ble_eq_true rfl) (fun κ X Rt htab ok => ?_)
  refine at_aload_n 1 X rfl rfl dL_row_0 rfl ?_
  refine at_iconst 2 X (by decide) dL_row_1 rfl ?_
  refine at_aload_n 3 X rfl rfl dL_row_2 rfl ?_
  refine at_iload_n 4 X rfl rfl dL_row_3 rfl ?_
  refine at_iload_n 5 X rfl rfl dL_row_4 rfl ?_
  refine at_callVH 8 X htab 0 11 hX clX11 rfl k_0 mo_X11_row w_1635 vo_X11_row.1 vo_X11_row.2 rfl rfl (crm Rt ⟨Nat.le_refl _, by omega, by omega, by omega⟩) (Nat.le_of_ble_eq_true rfl) dL_row_5 rfl ?_ ?_
  · rintro _ _ ⟨c, E1, ⟨rfl, rfl⟩, rfl, hM⟩
    refine ⟨tableOf [], _, tableOf [], "java/lang/IllegalArgumentException", rfl, (fun w hw => by cases hw), rfl, by decide, w_854, w_869, fun q => ?_⟩
    refine at_xstore 15 X dL_row_13 rfl (by decide) ?_
    refine at_iconst 16 X (by decide) dL_row_15 rfl ?_
    exact at_iret X Rt ⟨1, 0, E1, rfl, hM, rfl⟩ (by omega) (by omega) dL_row_16
  rintro _ _ ⟨v, E1, rfl, rfl, hM⟩
  refine at_i2l 9 X dL_row_8 rfl ?_
  refine m_lastore 10 X k_813 e_813 (by decide) (by decide) dL_row_9 rfl ?_
  refine at_goto 17 X dL_row_10 (by decide) ?_
  refine at_iconst 18 X (by decide) dL_row_17 rfl ?_
  exact at_iret X Rt ⟨0, v, E1, rfl, hM, rfl⟩ (by omega) (by omega) dL_row_18
theorem dL_best_0 : decode cL_best 0 = .ok (.aload_n 2, 1) := by decide +kernel
theorem dL_best_1 : decode cL_best 1 = .ok (.iconst 0, 1) := by decide +kernel
theorem dL_best_2 : decode cL_best 2 = .ok (.aload_n 0, 1) := by decide +kernel
theorem dL_best_3 : decode cL_best 3 = .ok (.iload_n 1, 1) := by decide +kernel
theorem dL_best_4 : decode cL_best 4 = .ok (.invokevirtual 113, 3) := by decide +kernel
theorem dL_best_7 : decode cL_best 7 = .ok (.i2l, 1) := by decide +kernel
theorem dL_best_8 : decode cL_best 8 = .ok (.lastore, 1) := by decide +kernel
theorem dL_best_9 : decode cL_best 9 = .ok (.goto 6, 3) := by decide +kernel
theorem dL_best_12 : decode cL_best 12 = .ok (.astore_n 3, 1) := by decide +kernel
theorem dL_best_13 : decode cL_best 13 = .ok (.iconst 1, 1) := by decide +kernel
theorem dL_best_14 : decode cL_best 14 = .ok (.ireturn, 1) := by decide +kernel
theorem dL_best_15 : decode cL_best 15 = .ok (.iconst 0, 1) := by decide +kernel
theorem dL_best_16 : decode cL_best 16 = .ok (.ireturn, 1) := by decide +kernel
theorem lh_best {g : Gw} (hG : GF g) {fr lo mc ms : Nat} (E : Mm) (x0 : Int) (M : Nat → Int → Mm → Prop) (hX : CTX g yX11_best cX11_best 6 (some .int) fr lo mc ms K2 false [mR 0, mI x0] (ov E) K2 false (fun r D' => ∃ (v : Int) (E1 : Mm), r = some (mI v) ∧ D' = ov E1 ∧ M 0 v E1) (fun X D' => ∃ (c : Nat) (E1 : Mm), ((c = 1 ∧ X = "java/util/NoSuchElementException")) ∧ D' = ov E1 ∧ M c 0 E1)) : CTH g yL_best cL_best 4 (some .int) [(0, 9, 12, 31)] (fr + 1) (lo + 25) mc ms K2 false [mR 0, mI x0, mR 813] (ov E) K2 false (fun r D' => ∃ (c : Nat) (v : Int) (E1 : Mm), r = some (mI (c : Int)) ∧ M c v E1 ∧ D' = ov (if c = 0 then wr E1 813 0 v else E1)) := by
  refine CTH.mk hG (by decide +kernel) (Nat.le_of_ble_eq_true rfl) (fun κ X Rt htab ok => ?_)
  refine at_aload_n 1 X rfl rfl dL_best_0 rfl ?_
  refine at_iconst 2 X (by decide) dL_best_1 rfl ?_
  refine at_aload_n 3 X rfl rfl dL_best_2 rfl ?_
  refine at_iload_n 4 X rfl rfl dL_best_3 rfl ?_
  refine at_callVH 7 X htab 0 11 hX clX11 rfl k_0 mo_X11_best w_1642 vo_X11_best.1 vo_X11_best.2 rfl rfl (crm Rt ⟨Nat.le_refl _, by omega, by omega, by omega⟩) (Nat.le_of_ble_eq_true rfl) dL_best_4 rfl ?_ ?_
  · rintro _ _ ⟨c, E1, ⟨rfl, rfl⟩, rfl, hM⟩
    refine ⟨tableOf [], _, tableOf [], "java/util/NoSuchElementException", rfl, (fun w hw => by cases hw), rfl, by decide, w_1202, w_1214, fun q => ?_⟩
    refine at_xstore_n 13 X rfl dL_best_12 rfl (by decide) ?_
    refine at_iconst 14 X (by decide) dL_best_13 rfl ?_
    exact at_iret X Rt ⟨1, 0, E1, rfl, hM, rfl⟩ (by omega) (by omega) dL_best_14
  rintro _ _ ⟨v, E1, rfl, rfl, hM⟩
  refine at_i2l 8 X dL_best_7 rfl ?_
  refine m_lastore 9 X k_813 e_813 (by decide) (by decide) dL_best_8 rfl ?_
  refine at_goto 15 X dL_best_9 (by decide) ?_
  refine at_iconst 16 X (by decide) dL_best_15 rfl ?_
  exact at_iret X Rt ⟨0, v, E1, rfl, hM, rfl⟩ (by omega) (by omega) dL_best_16
theorem dL_held_0 : decode cL_held 0 = .ok (.aload_n 2, 1) := by decide +kernel
theorem dL_held_1 : decode cL_held 1 = .ok (.iconst 0, 1) := by decide +kernel
theorem dL_held_2 : decode cL_held 2 = .ok (.aload_n 0, 1) := by decide +kernel
theorem dL_held_3 : decode cL_held 3 = .ok (.iload_n 1, 1) := by decide +kernel
theorem dL_held_4 : decode cL_held 4 = .ok (.invokevirtual 116, 3) := by decide +kernel
theorem dL_held_7 : decode cL_held 7 = .ok (.i2l, 1) := by decide +kernel
theorem dL_held_8 : decode cL_held 8 = .ok (.lastore, 1) := by decide +kernel
theorem dL_held_9 : decode cL_held 9 = .ok (.goto 6, 3) := by decide +kernel
theorem dL_held_12 : decode cL_held 12 = .ok (.astore_n 3, 1) := by decide +kernel
theorem dL_held_13 : decode cL_held 13 = .ok (.iconst 1, 1) := by decide +kernel
theorem dL_held_14 : decode cL_held 14 = .ok (.ireturn, 1) := by decide +kernel
theorem dL_held_15 : decode cL_held 15 = .ok (.iconst 0, 1) := by decide +kernel
theorem dL_held_16 : decode cL_held 16 = .ok (.ireturn, 1) := by decide +kernel
theorem lh_held {g : Gw} (hG : GF g) {fr lo mc ms : Nat} (E : Mm) (x0 : Int) (M : Nat → Int → Mm → Prop) (hX : CTX g yX11_held cX11_held 4 (some .int) fr lo mc ms K2 false [mR 0, mI x0] (ov E) K2 false (fun r D' => ∃ (v : Int) (E1 : Mm), r = some (mI v) ∧ D' = ov E1 ∧ M 0 v E1) (fun X D' => ∃ (c : Nat) (E1 : Mm), ((c = 1 ∧ X = "java/util/NoSuchElementException")) ∧ D' = ov E1 ∧ M c 0 E1)) : CTH g yL_held cL_held 4 (some .int) [(0, 9, 12, 31)] (fr + 1) (lo + 23) mc ms K2 false [mR 0, mI x0, mR 813] (ov E) K2 false (fun r D' => ∃ (c : Nat) (v : Int) (E1 : Mm), r = some (mI (c : Int)) ∧ M c v E1 ∧ D' = ov (if c = 0 then wr E1 813 0 v else E1)) := by
  refine CTH.mk hG (by decide +kernel) (Nat.le_of_ble_eq_true rfl) (fun κ X Rt htab ok => ?_)
  refine at_aload_n 1 X rfl rfl dL_held_0 rfl ?_
  refine at_iconst 2 X (by decide) dL_held_1 rfl ?_
  refine at_aload_n 3 X rfl rfl dL_held_2 rfl ?_
  refine at_iload_n 4 X rfl rfl dL_held_3 rfl ?_
  refine at_callVH 7 X htab 0 11 hX clX11 rfl k_0 mo_X11_held w_1649 vo_X11_held.1 vo_X11_held.2 rfl rfl (crm Rt ⟨Nat.le_refl _, by omega, by omega, by omega⟩) (Nat.le_of_ble_eq_true rfl) dL_held_4 rfl ?_ ?_
  · rintro _ _ ⟨c, E1, ⟨rfl, rfl⟩, rfl, hM⟩
    refine ⟨tableOf [], _, tableOf [], "java/util/NoSuchElementException", rfl, (fun w hw => by cases hw), rfl, by decide, w_1202, w_1214, fun q => ?_⟩
    refine at_xstore_n 13 X rfl dL_held_12 rfl (by decide) ?_
    refine at_iconst 14 X (by decide) dL_held_13 rfl ?_
    exact at_iret X Rt ⟨1, 0, E1, rfl, hM, rfl⟩ (by omega) (by omega) dL_held_14
  rintro _ _ ⟨v, E1, rfl, rfl, hM⟩
  refine at_i2l 8 X dL_held_7 rfl ?_
  refine m_lastore 9 X k_813 e_813 (by decide) (by decide) dL_held_8 rfl ?_
  refine at_goto 15 X dL_held_9 (by decide) ?_
  refine at_iconst 16 X (by decide) dL_held_15 rfl ?_
  exact at_iret X Rt ⟨0, v, E1, rfl, hM, rfl⟩ (by omega) (by omega) dL_held_16
theorem dL_share_0 : decode cL_share 0 = .ok (.aload_n 2, 1) := by decide +kernel
theorem dL_share_1 : decode cL_share 1 = .ok (.iconst 0, 1) := by decide +kernel
theorem dL_share_2 : decode cL_share 2 = .ok (.aload_n 0, 1) := by decide +kernel
theorem dL_share_3 : decode cL_share 3 = .ok (.iload_n 1, 1) := by decide +kernel
theorem dL_share_4 : decode cL_share 4 = .ok (.invokevirtual 119, 3) := by decide +kernel
theorem dL_share_7 : decode cL_share 7 = .ok (.i2l, 1) := by decide +kernel
theorem dL_share_8 : decode cL_share 8 = .ok (.lastore, 1) := by decide +kernel
theorem dL_share_9 : decode cL_share 9 = .ok (.goto 6, 3) := by decide +kernel
theorem dL_share_12 : decode cL_share 12 = .ok (.astore_n 3, 1) := by decide +kernel
theorem dL_share_13 : decode cL_share 13 = .ok (.iconst 1, 1) := by decide +kernel
theorem dL_share_14 : decode cL_share 14 = .ok (.ireturn, 1) := by decide +kernel
theorem dL_share_15 : decode cL_share 15 = .ok (.iconst 0, 1) := by decide +kernel
theorem dL_share_16 : decode cL_share 16 = .ok (.ireturn, 1) := by decide +kernel
theorem lh_share {g : Gw} (hG : GF g) {fr lo mc ms : Nat} (E : Mm) (x0 : Int) (M : Nat → Int → Mm → Prop) (hX : CTX g yX11_share cX11_share 5 (some .int) fr lo mc ms K2 false [mR 0, mI x0] (ov E) K2 false (fun r D' => ∃ (v : Int) (E1 : Mm), r = some (mI v) ∧ D' = ov E1 ∧ M 0 v E1) (fun X D' => ∃ (c : Nat) (E1 : Mm), ((c = 1 ∧ X = "java/util/NoSuchElementException")) ∧ D' = ov E1 ∧ M c 0 E1)) : CTH g yL_share cL_share 4 (some .int) [(0, 9, 12, 31)] (fr + 1) (lo + 24) mc ms K2 false [mR 0, mI x0, mR 813] (ov E) K2 false (fun r D' => ∃ (c : Nat) (v : Int) (E1 : Mm), r = some (mI (c : Int)) ∧ M c v E1 ∧ D' = ov (if c = 0 then wr E1 813 0 v else E1)) := by
  refine CTH.mk hG (by decide +kernel) (Nat.le_of_ble_eq_true rfl) (fun κ X Rt htab ok => ?_)
  refine at_aload_n 1 X rfl rfl dL_share_0 rfl ?_
  refine at_iconst 2 X (by decide) dL_share_1 rfl ?_
  refine at_aload_n 3 X rfl rfl dL_share_2 rfl ?_
  refine at_iload_n 4 X rfl rfl dL_share_3 rfl ?_
  refine at_callVH 7 X htab 0 11 hX clX11 rfl k_0 mo_X11_share w_1656 vo_X11_share.1 vo_X11_share.2 rfl rfl (crm Rt ⟨Nat.le_refl _, by omega, by omega, by omega⟩) (Nat.le_of_ble_eq_true rfl) dL_share_4 rfl ?_ ?_
  · rintro _ _ ⟨c, E1, ⟨rfl, rfl⟩, rfl, hM⟩
    refine ⟨tableOf [], _, tableOf [], "java/util/NoSuchElementException", rfl, (fun w hw => by cases hw), rfl, by decide, w_1202, w_1214, fun q => ?_⟩
    refine at_xstore_n 13 X rfl dL_share_12 rfl (by decide) ?_
    refine at_iconst 14 X (by decide) dL_share_13 rfl ?_
    exact at_iret X Rt ⟨1, 0, E1, rfl, hM, rfl⟩ (by omega) (by omega) dL_share_14
  rintro _ _ ⟨v, E1, rfl, rfl, hM⟩
  refine at_i2l 8 X dL_share_7 rfl ?_
  refine m_lastore 9 X k_813 e_813 (by decide) (by decide) dL_share_8 rfl ?_
  refine at_goto 15 X dL_share_9 (by decide) ?_
  refine at_iconst 16 X (by decide) dL_share_15 rfl ?_
  exact at_iret X Rt ⟨0, v, E1, rfl, hM, rfl⟩ (by omega) (by omega) dL_share_16
theorem dL_summed_0 : decode cL_summed 0 = .ok (.aload_n 3, 1) := by decide +kernel
theorem dL_summed_1 : decode cL_summed 1 = .ok (.iconst 0, 1) := by decide +kernel
theorem dL_summed_2 : decode cL_summed 2 = .ok (.aload_n 0, 1) := by decide +kernel
theorem dL_summed_3 : decode cL_summed 3 = .ok (.iload_n 1, 1) := by decide +kernel
theorem dL_summed_4 : decode cL_summed 4 = .ok (.iload_n 2, 1) := by decide +kernel
theorem dL_summed_5 : decode cL_summed 5 = .ok (.invokevirtual 122, 3) := by decide +kernel
theorem dL_summed_8 : decode cL_summed 8 = .ok (.i2l, 1) := by decide +kernel
theorem dL_summed_9 : decode cL_summed 9 = .ok (.lastore, 1) := by decide +kernel
theorem dL_summed_10 : decode cL_summed 10 = .ok (.goto 7, 3) := by decide +kernel
theorem dL_summed_13 : decode cL_summed 13 = .ok (.astore 4, 2) := by decide +kernel
theorem dL_summed_15 : decode cL_summed 15 = .ok (.iconst 1, 1) := by decide +kernel
theorem dL_summed_16 : decode cL_summed 16 = .ok (.ireturn, 1) := by decide +kernel
theorem dL_summed_17 : decode cL_summed 17 = .ok (.iconst 0, 1) := by decide +kernel
theorem dL_summed_18 : decode cL_summed 18 = .ok (.ireturn, 1) := by decide +kernel
theorem lh_summed {g : Gw} (hG : GF g) {fr lo mc ms : Nat} (E : Mm) (x0 x1 : Int) (M : Nat → Int → Mm → Prop) (hX : CTX g yX11_summed cX11_summed 6 (some .int) fr lo mc ms K2 false [mR 0, mI x0, mI x1] (ov E) K2 false (fun r D' => ∃ (v : Int) (E1 : Mm), r = some (mI v) ∧ D' = ov E1 ∧ M 0 v E1) (fun X D' => ∃ (c : Nat) (E1 : Mm), ((c = 1 ∧ X = "java/lang/IllegalArgumentException")) ∧ D' = ov E1 ∧ M c 0 E1)) : CTH g yL_summed cL_summed 5 (some .int) [(0, 10, 13, 13)] (fr + 1) (lo + 25) mc ms K2 false [mR 0, mI x0, mI x1, mR 813] (ov E) K2 false (fun r D' => ∃ (c : Nat) (v : Int) (E1 : Mm), r = some (mI (c : Int)) ∧ M c v E1 ∧ D' = ov (if c = 0 then wr E1 813 0 v else E1)) := by
  refine CTH.mk hG (by decide +kernel) (Nat.le_of_ble_eq_true rfl) (fun κ X Rt htab ok => ?_)
  refine at_aload_n 1 X rfl rfl dL_summed_0 rfl ?_
  refine at_iconst 2 X (by decide) dL_summed_1 rfl ?_
  refine at_aload_n 3 X rfl rfl dL_summed_2 rfl ?_
  refine at_iload_n 4 X rfl rfl dL_summed_3 rfl ?_
  refine at_iload_n 5 X rfl rfl dL_summed_4 rfl ?_
  refine at_callVH 8 X htab 0 11 hX clX11 rfl k_0 mo_X11_summed w_1663 vo_X11_summed.1 vo_X11_summed.2 rfl rfl (crm Rt ⟨Nat.le_refl _, by omega, by omega, by omega⟩) (Nat.le_of_ble_eq_true rfl) dL_summed_5 rfl ?_ ?_
  · rintro _ _ ⟨c, E1, ⟨rfl, rfl⟩, rfl, hM⟩
    refine ⟨tableOf [], _, tableOf [], "java/lang/IllegalArgumentException", rfl, (fun w hw => by cases hw), rfl, by decide, w_854, w_869, fun q => ?_⟩
    refine at_xstore 15 X dL_summed_13 rfl (by decide) ?_
    refine at_iconst 16 X (by decide) dL_summed_15 rfl ?_
    exact at_iret X Rt ⟨1, 0, E1, rfl, hM, rfl⟩ (by omega) (by omega) dL_summed_16
  rintro _ _ ⟨v, E1, rfl, rfl, hM⟩
  refine at_i2l 9 X dL_summed_8 rfl ?_
  refine m_lastore 10 X k_813 e_813 (by decide) (by decide) dL_summed_9 rfl ?_
  refine at_goto 17 X dL_summed_10 (by decide) ?_
  refine at_iconst 18 X (by decide) dL_summed_17 rfl ?_
  exact at_iret X Rt ⟨0, v, E1, rfl, hM, rfl⟩ (by omega) (by omega) dL_summed_18
theorem dL_slack_0 : decode cL_slack 0 = .ok (.aload 4, 2) := by decide +kernel
theorem dL_slack_2 : decode cL_slack 2 = .ok (.iconst 0, 1) := by decide +kernel
theorem dL_slack_3 : decode cL_slack 3 = .ok (.aload_n 0, 1) := by decide +kernel
theorem dL_slack_4 : decode cL_slack 4 = .ok (.iload_n 1, 1) := by decide +kernel
theorem dL_slack_5 : decode cL_slack 5 = .ok (.iload_n 2, 1) := by decide +kernel
theorem dL_slack_6 : decode cL_slack 6 = .ok (.iload_n 3, 1) := by decide +kernel
theorem dL_slack_7 : decode cL_slack 7 = .ok (.invokevirtual 125, 3) := by decide +kernel
theorem dL_slack_10 : decode cL_slack 10 = .ok (.lastore, 1) := by decide +kernel
theorem dL_slack_11 : decode cL_slack 11 = .ok (.goto 11, 3) := by decide +kernel
theorem dL_slack_14 : decode cL_slack 14 = .ok (.astore 5, 2) := by decide +kernel
theorem dL_slack_16 : decode cL_slack 16 = .ok (.iconst 1, 1) := by decide +kernel
theorem dL_slack_17 : decode cL_slack 17 = .ok (.ireturn, 1) := by decide +kernel
theorem dL_slack_18 : decode cL_slack 18 = .ok (.astore 5, 2) := by decide +kernel
theorem dL_slack_20 : decode cL_slack 20 = .ok (.iconst 2, 1) := by decide +kernel
theorem dL_slack_21 : decode cL_slack 21 = .ok (.ireturn, 1) := by decide +kernel
theorem dL_slack_22 : decode cL_slack 22 = .ok (.iconst 0, 1) := by decide +kernel
theorem dL_slack_23 : decode cL_slack 23 = .ok (.ireturn, 1) := by decide +kernel
theorem lh_slack {g : Gw} (hG : GF g) {fr lo mc ms : Nat} (E : Mm) (x0 x1 x2 : Int) (M : Nat → Int → Mm → Prop) (hX : CTX g yX11_slack cX11_slack 4 (some .long) fr lo mc ms K2 false [mR 0, mI x0, mI x1, mI x2] (ov E) K2 false (fun r D' => ∃ (v : Int) (E1 : Mm), r = some (mL v) ∧ D' = ov E1 ∧ M 0 v E1) (fun X D' => ∃ (c : Nat) (E1 : Mm), ((c = 1 ∧ X = "java/lang/IndexOutOfBoundsException") ∨ (c = 2 ∧ X = "java/lang/IllegalArgumentException")) ∧ D' = ov E1 ∧ M c 0 E1)) : CTH g yL_slack cL_slack 6 (some .int) [(0, 11, 14, 43), (0, 11, 18, 13)] (fr + 1) (lo + 23) mc ms K2 false [mR 0, mI x0, mI x1, mI x2, mR 813] (ov E) K2 false (fun r D' => ∃ (c : Nat) (v : Int) (E1 : Mm), r = some (mI (c : Int)) ∧ M c v E1 ∧ D' = ov (if c = 0 then wr E1 813 0 v else E1)) := by
  refine CTH.mk hG (by decide +kernel) (Nat.le_of_ble_eq_true rfl) (fun κ X Rt htab ok => ?_)
  refine at_aload 2 X rfl dL_slack_0 rfl ?_
  refine at_iconst 3 X (by decide) dL_slack_2 rfl ?_
  refine at_aload_n 4 X rfl rfl dL_slack_3 rfl ?_
  refine at_iload_n 5 X rfl rfl dL_slack_4 rfl ?_
  refine at_iload_n 6 X rfl rfl dL_slack_5 rfl ?_
  refine at_iload_n 7 X rfl rfl dL_slack_6 rfl ?_
  refine at_callVH 10 X htab 0 11 hX clX11 rfl k_0 mo_X11_slack w_1671 vo_X11_slack.1 vo_X11_slack.2 rfl rfl (crm Rt ⟨Nat.le_refl _, by omega, by omega, by omega⟩) (Nat.le_of_ble_eq_true rfl) dL_slack_7 rfl ?_ ?_
  · rintro _ _ ⟨c, E1, (⟨rfl, rfl⟩ | ⟨rfl, rfl⟩), rfl, hM⟩
    · refine ⟨tableOf [], _, tableOf [(0, 11, 18, 13)], "java/lang/IndexOutOfBoundsException", rfl, (fun w hw => by cases hw), rfl, by decide, w_1267, w_1278, fun q => ?_⟩
      refine at_xstore 16 X dL_slack_14 rfl (by decide) ?_
      refine at_iconst 17 X (by decide) dL_slack_16 rfl ?_
      exact at_iret X Rt ⟨1, 0, E1, rfl, hM, rfl⟩ (by omega) (by omega) dL_slack_17
    · refine ⟨tableOf [(0, 11, 14, 43)], _, tableOf [], "java/lang/IllegalArgumentException", rfl, (fun w hw => by
        rcases (by simpa [tableOf] using hw : w = ⟨0, 11, 14, 43⟩) with rfl
        · exact Or.inr ⟨by decide, "java/lang/IndexOutOfBoundsException", w_1267, by decide, by decide, by decide⟩), rfl, by decide, w_854, w_869, fun q => ?_⟩
      refine at_xstore 20 X dL_slack_18 rfl (by decide) ?_
      refine at_iconst 21 X (by decide) dL_slack_20 rfl ?_
      exact at_iret X Rt ⟨2, 0, E1, rfl, hM, rfl⟩ (by omega) (by omega) dL_slack_21
  rintro _ _ ⟨v, E1, rfl, rfl, hM⟩
  refine m_lastore 11 X k_813 e_813 (by decide) (by decide) dL_slack_10 rfl ?_
  refine at_goto 22 X dL_slack_11 (by decide) ?_
  refine at_iconst 23 X (by decide) dL_slack_22 rfl ?_
  exact at_iret X Rt ⟨0, v, E1, rfl, hM, rfl⟩ (by omega) (by omega) dL_slack_23
theorem dL_lighter_0 : decode cL_lighter 0 = .ok (.aload_n 2, 1) := by decide +kernel
theorem dL_lighter_1 : decode cL_lighter 1 = .ok (.iconst 0, 1) := by decide +kernel
theorem dL_lighter_2 : decode cL_lighter 2 = .ok (.aload_n 0, 1) := by decide +kernel
theorem dL_lighter_3 : decode cL_lighter 3 = .ok (.iload_n 1, 1) := by decide +kernel
theorem dL_lighter_4 : decode cL_lighter 4 = .ok (.invokevirtual 128, 3) := by decide +kernel
theorem dL_lighter_7 : decode cL_lighter 7 = .ok (.i2l, 1) := by decide +kernel
theorem dL_lighter_8 : decode cL_lighter 8 = .ok (.lastore, 1) := by decide +kernel
theorem dL_lighter_9 : decode cL_lighter 9 = .ok (.goto 6, 3) := by decide +kernel
theorem dL_lighter_12 : decode cL_lighter 12 = .ok (.astore_n 3, 1) := by decide +kernel
theorem dL_lighter_13 : decode cL_lighter 13 = .ok (.iconst 1, 1) := by decide +kernel
theorem dL_lighter_14 : decode cL_lighter 14 = .ok (.ireturn, 1) := by decide +kernel
theorem dL_lighter_15 : decode cL_lighter 15 = .ok (.iconst 0, 1) := by decide +kernel
theorem dL_lighter_16 : decode cL_lighter 16 = .ok (.ireturn, 1) := by decide +kernel
theorem lh_lighter {g : Gw} (hG : GF g) {fr lo mc ms : Nat} (E : Mm) (x0 : Int) (M : Nat → Int → Mm → Prop) (hX : CTX g yX11_lighter cX11_lighter 6 (some .int) fr lo mc ms K2 false [mR 0, mI x0] (ov E) K2 false (fun r D' => ∃ (v : Int) (E1 : Mm), r = some (mI v) ∧ D' = ov E1 ∧ M 0 v E1) (fun X D' => ∃ (c : Nat) (E1 : Mm), ((c = 1 ∧ X = "java/util/NoSuchElementException")) ∧ D' = ov E1 ∧ M c 0 E1)) : CTH g yL_lighter cL_lighter 4 (some .int) [(0, 9, 12, 31)] (fr + 1) (lo + 25) mc ms K2 false [mR 0, mI x0, mR 813] (ov E) K2 false (fun r D' => ∃ (c : Nat) (v : Int) (E1 : Mm), r = some (mI (c : Int)) ∧ M c v E1 ∧ D' = ov (if c = 0 then wr E1 813 0 v else E1)) := by
  refine CTH.mk hG (by decide +kernel) (Nat.le_of_ble_eq_true rfl) (fun κ X Rt htab ok => ?_)
  refine at_aload_n 1 X rfl rfl dL_lighter_0 rfl ?_
  refine at_iconst 2 X (by decide) dL_lighter_1 rfl ?_
  refine at_aload_n 3 X rfl rfl dL_lighter_2 rfl ?_
  refine at_iload_n 4 X rfl rfl dL_lighter_3 rfl ?_
  refine at_callVH 7 X htab 0 11 hX clX11 rfl k_0 mo_X11_lighter w_1678 vo_X11_lighter.1 vo_X11_lighter.2 rfl rfl (crm Rt ⟨Nat.le_refl _, by omega, by omega, by omega⟩) (Nat.le_of_ble_eq_true rfl) dL_lighter_4 rfl ?_ ?_
  · rintro _ _ ⟨c, E1, ⟨rfl, rfl⟩, rfl, hM⟩
    refine ⟨tableOf [], _, tableOf [], "java/util/NoSuchElementException", rfl, (fun w hw => by cases hw), rfl, by decide, w_1202, w_1214, fun q => ?_⟩
    refine at_xstore_n 13 X rfl dL_lighter_12 rfl (by decide) ?_
    refine at_iconst 14 X (by decide) dL_lighter_13 rfl ?_
    exact at_iret X Rt ⟨1, 0, E1, rfl, hM, rfl⟩ (by omega) (by omega) dL_lighter_14
  rintro _ _ ⟨v, E1, rfl, rfl, hM⟩
  refine at_i2l 8 X dL_lighter_7 rfl ?_
  refine m_lastore 9 X k_813 e_813 (by decide) (by decide) dL_lighter_8 rfl ?_
  refine at_goto 15 X dL_lighter_9 (by decide) ?_
  refine at_iconst 16 X (by decide) dL_lighter_15 rfl ?_
  exact at_iret X Rt ⟨0, v, E1, rfl, hM, rfl⟩ (by omega) (by omega) dL_lighter_16
theorem dL_lasts_0 : decode cL_lasts 0 = .ok (.aload_n 2, 1) := by decide +kernel
theorem dL_lasts_1 : decode cL_lasts 1 = .ok (.iconst 0, 1) := by decide +kernel
theorem dL_lasts_2 : decode cL_lasts 2 = .ok (.aload_n 0, 1) := by decide +kernel
theorem dL_lasts_3 : decode cL_lasts 3 = .ok (.iload_n 1, 1) := by decide +kernel
theorem dL_lasts_4 : decode cL_lasts 4 = .ok (.invokevirtual 131, 3) := by decide +kernel
theorem dL_lasts_7 : decode cL_lasts 7 = .ok (.i2l, 1) := by decide +kernel
theorem dL_lasts_8 : decode cL_lasts 8 = .ok (.lastore, 1) := by decide +kernel
theorem dL_lasts_9 : decode cL_lasts 9 = .ok (.goto 6, 3) := by decide +kernel
theorem dL_lasts_12 : decode cL_lasts 12 = .ok (.astore_n 3, 1) := by decide +kernel
theorem dL_lasts_13 : decode cL_lasts 13 = .ok (.iconst 1, 1) := by decide +kernel
theorem dL_lasts_14 : decode cL_lasts 14 = .ok (.ireturn, 1) := by decide +kernel
theorem dL_lasts_15 : decode cL_lasts 15 = .ok (.iconst 0, 1) := by decide +kernel
theorem dL_lasts_16 : decode cL_lasts 16 = .ok (.ireturn, 1) := by decide +kernel
theorem lh_lasts {g : Gw} (hG : GF g) {fr lo mc ms : Nat} (E : Mm) (x0 : Int) (M : Nat → Int → Mm → Prop) (hX : CTX g yX11_lasts cX11_lasts 2 (some .int) fr lo mc ms K2 false [mR 0, mI x0] (ov E) K2 false (fun r D' => ∃ (v : Int) (E1 : Mm), r = some (mI v) ∧ D' = ov E1 ∧ M 0 v E1) (fun X D' => ∃ (c : Nat) (E1 : Mm), ((c = 1 ∧ X = "java/util/NoSuchElementException")) ∧ D' = ov E1 ∧ M c 0 E1)) : CTH g yL_lasts cL_lasts 4 (some .int) [(0, 9, 12, 31)] (fr + 1) (lo + 21) mc ms K2 false [mR 0, mI x0, mR 813] (ov E) K2 false (fun r D' => ∃ (c : Nat) (v : Int) (E1 : Mm), r = some (mI (c : Int)) ∧ M c v E1 ∧ D' = ov (if c = 0 then wr E1 813 0 v else E1)) := by
  refine CTH.mk hG (by decide +kernel) (Nat.le_of_ble_eq_true rfl) (fun κ X Rt htab ok => ?_)
  refine at_aload_n 1 X rfl rfl dL_lasts_0 rfl ?_
  refine at_iconst 2 X (by decide) dL_lasts_1 rfl ?_
  refine at_aload_n 3 X rfl rfl dL_lasts_2 rfl ?_
  refine at_iload_n 4 X rfl rfl dL_lasts_3 rfl ?_
  refine at_callVH 7 X htab 0 11 hX clX11 rfl k_0 mo_X11_lasts w_1687 vo_X11_lasts.1 vo_X11_lasts.2 rfl rfl (crm Rt ⟨Nat.le_refl _, by omega, by omega, by omega⟩) (Nat.le_of_ble_eq_true rfl) dL_lasts_4 rfl ?_ ?_
  · rintro _ _ ⟨c, E1, ⟨rfl, rfl⟩, rfl, hM⟩
    refine ⟨tableOf [], _, tableOf [], "java/util/NoSuchElementException", rfl, (fun w hw => by cases hw), rfl, by decide, w_1202, w_1214, fun q => ?_⟩
    refine at_xstore_n 13 X rfl dL_lasts_12 rfl (by decide) ?_
    refine at_iconst 14 X (by decide) dL_lasts_13 rfl ?_
    exact at_iret X Rt ⟨1, 0, E1, rfl, hM, rfl⟩ (by omega) (by omega) dL_lasts_14
  rintro _ _ ⟨v, E1, rfl, rfl, hM⟩
  refine at_i2l 8 X dL_lasts_7 rfl ?_
  refine m_lastore 9 X k_813 e_813 (by decide) (by decide) dL_lasts_8 rfl ?_
  refine at_goto 15 X dL_lasts_9 (by decide) ?_
  refine at_iconst 16 X (by decide) dL_lasts_15 rfl ?_
  exact at_iret X Rt ⟨0, v, E1, rfl, hM, rfl⟩ (by omega) (by omega) dL_lasts_16
theorem dL_bare_0 : decode cL_bare 0 = .ok (.aload_n 3, 1) := by decide +kernel
theorem dL_bare_1 : decode cL_bare 1 = .ok (.iconst 0, 1) := by decide +kernel
theorem dL_bare_2 : decode cL_bare 2 = .ok (.aload_n 0, 1) := by decide +kernel
theorem dL_bare_3 : decode cL_bare 3 = .ok (.iload_n 1, 1) := by decide +kernel
theorem dL_bare_4 : decode cL_bare 4 = .ok (.iload_n 2, 1) := by decide +kernel
theorem dL_bare_5 : decode cL_bare 5 = .ok (.invokevirtual 134, 3) := by decide +kernel
theorem dL_bare_8 : decode cL_bare 8 = .ok (.i2l, 1) := by decide +kernel
theorem dL_bare_9 : decode cL_bare 9 = .ok (.lastore, 1) := by decide +kernel
theorem dL_bare_10 : decode cL_bare 10 = .ok (.goto 7, 3) := by decide +kernel
theorem dL_bare_13 : decode cL_bare 13 = .ok (.astore 4, 2) := by decide +kernel
theorem dL_bare_15 : decode cL_bare 15 = .ok (.iconst 1, 1) := by decide +kernel
theorem dL_bare_16 : decode cL_bare 16 = .ok (.ireturn, 1) := by decide +kernel
theorem dL_bare_17 : decode cL_bare 17 = .ok (.iconst 0, 1) := by decide +kernel
theorem dL_bare_18 : decode cL_bare 18 = .ok (.ireturn, 1) := by decide +kernel
theorem lh_bare {g : Gw} (hG : GF g) {fr lo mc ms : Nat} (E : Mm) (x0 x1 : Int) (M : Nat → Int → Mm → Prop) (hX : CTX g yX11_bare cX11_bare 6 (some .int) fr lo mc ms K2 false [mR 0, mI x0, mI x1] (ov E) K2 false (fun r D' => ∃ (v : Int) (E1 : Mm), r = some (mI v) ∧ D' = ov E1 ∧ M 0 v E1) (fun X D' => ∃ (c : Nat) (E1 : Mm), ((c = 1 ∧ X = "java/lang/IllegalArgumentException")) ∧ D' = ov E1 ∧ M c 0 E1)) : CTH g yL_bare cL_bare 5 (some .int) [(0, 10, 13, 13)] (fr + 1) (lo + 25) mc ms K2 false [mR 0, mI x0, mI x1, mR 813] (ov E) K2 false (fun r D' => ∃ (c : Nat) (v : Int) (E1 : Mm), r = some (mI (c : Int)) ∧ M c v E1 ∧ D' = ov (if c = 0 then wr E1 813 0 v else E1)) := by
  refine CTH.mk hG (by decide +kernel) (Nat.le_of_ble_eq_true rfl) (fun κ X Rt htab ok => ?_)
  refine at_aload_n 1 X rfl rfl dL_bare_0 rfl ?_
  refine at_iconst 2 X (by decide) dL_bare_1 rfl ?_
  refine at_aload_n 3 X rfl rfl dL_bare_2 rfl ?_
  refine at_iload_n 4 X rfl rfl dL_bare_3 rfl ?_
  refine at_iload_n 5 X rfl rfl dL_bare_4 rfl ?_
  refine at_callVH 8 X htab 0 11 hX clX11 rfl k_0 mo_X11_bare w_1694 vo_X11_bare.1 vo_X11_bare.2 rfl rfl (crm Rt ⟨Nat.le_refl _, by omega, by omega, by omega⟩) (Nat.le_of_ble_eq_true rfl) dL_bare_5 rfl ?_ ?_
  · rintro _ _ ⟨c, E1, ⟨rfl, rfl⟩, rfl, hM⟩
    refine ⟨tableOf [], _, tableOf [], "java/lang/IllegalArgumentException", rfl, (fun w hw => by cases hw), rfl, by decide, w_854, w_869, fun q => ?_⟩
    refine at_xstore 15 X dL_bare_13 rfl (by decide) ?_
    refine at_iconst 16 X (by decide) dL_bare_15 rfl ?_
    exact at_iret X Rt ⟨1, 0, E1, rfl, hM, rfl⟩ (by omega) (by omega) dL_bare_16
  rintro _ _ ⟨v, E1, rfl, rfl, hM⟩
  refine at_i2l 9 X dL_bare_8 rfl ?_
  refine m_lastore 10 X k_813 e_813 (by decide) (by decide) dL_bare_9 rfl ?_
  refine at_goto 17 X dL_bare_10 (by decide) ?_
  refine at_iconst 18 X (by decide) dL_bare_17 rfl ?_
  exact at_iret X Rt ⟨0, v, E1, rfl, hM, rfl⟩ (by omega) (by omega) dL_bare_18
theorem dL_build_0 : decode cL_build 0 = .ok (.aload_n 3, 1) := by decide +kernel
theorem dL_build_1 : decode cL_build 1 = .ok (.iconst 0, 1) := by decide +kernel
theorem dL_build_2 : decode cL_build 2 = .ok (.aload_n 0, 1) := by decide +kernel
theorem dL_build_3 : decode cL_build 3 = .ok (.iload_n 1, 1) := by decide +kernel
theorem dL_build_4 : decode cL_build 4 = .ok (.iload_n 2, 1) := by decide +kernel
theorem dL_build_5 : decode cL_build 5 = .ok (.invokevirtual 137, 3) := by decide +kernel
theorem dL_build_8 : decode cL_build 8 = .ok (.i2l, 1) := by decide +kernel
theorem dL_build_9 : decode cL_build 9 = .ok (.lastore, 1) := by decide +kernel
theorem dL_build_10 : decode cL_build 10 = .ok (.goto 11, 3) := by decide +kernel
theorem dL_build_13 : decode cL_build 13 = .ok (.astore 4, 2) := by decide +kernel
theorem dL_build_15 : decode cL_build 15 = .ok (.iconst 1, 1) := by decide +kernel
theorem dL_build_16 : decode cL_build 16 = .ok (.ireturn, 1) := by decide +kernel
theorem dL_build_17 : decode cL_build 17 = .ok (.astore 4, 2) := by decide +kernel
theorem dL_build_19 : decode cL_build 19 = .ok (.iconst 2, 1) := by decide +kernel
theorem dL_build_20 : decode cL_build 20 = .ok (.ireturn, 1) := by decide +kernel
theorem dL_build_21 : decode cL_build 21 = .ok (.iconst 0, 1) := by decide +kernel
theorem dL_build_22 : decode cL_build 22 = .ok (.ireturn, 1) := by decide +kernel
theorem lh_build {g : Gw} (hG : GF g) {fr lo mc ms : Nat} (E : Mm) (x0 x1 : Int) (M : Nat → Int → Mm → Prop) (hX : CTX g yX11_build cX11_build 4 (some .int) fr lo mc ms K2 false [mR 0, mI x0, mI x1] (ov E) K2 false (fun r D' => ∃ (v : Int) (E1 : Mm), r = some (mI v) ∧ D' = ov E1 ∧ M 0 v E1) (fun X D' => ∃ (c : Nat) (E1 : Mm), ((c = 1 ∧ X = "java/util/NoSuchElementException") ∨ (c = 2 ∧ X = "java/lang/IllegalArgumentException")) ∧ D' = ov E1 ∧ M c 0 E1)) : CTH g yL_build cL_build 5 (some .int) [(0, 10, 13, 31), (0, 10, 17, 13)] (fr + 1) (lo + 23) mc ms K2 false [mR 0, mI x0, mI x1, mR 813] (ov E) K2 false (fun r D' => ∃ (c : Nat) (v : Int) (E1 : Mm), r = some (mI (c : Int)) ∧ M c v E1 ∧ D' = ov (if c = 0 then wr E1 813 0 v else E1)) := by
  refine CTH.mk hG (by decide +kernel) (Nat.le_of_ble_eq_true rfl) (fun κ X Rt htab ok => ?_)
  refine at_aload_n 1 X rfl rfl dL_build_0 rfl ?_
  refine at_iconst 2 X (by decide) dL_build_1 rfl ?_
  refine at_aload_n 3 X rfl rfl dL_build_2 rfl ?_
  refine at_iload_n 4 X rfl rfl dL_build_3 rfl ?_
  refine at_iload_n 5 X rfl rfl dL_build_4 rfl ?_
  refine at_callVH 8 X htab 0 11 hX clX11 rfl k_0 mo_X11_build w_1701 vo_X11_build.1 vo_X11_build.2 rfl rfl (crm Rt ⟨Nat.le_refl _, by omega, by omega, by omega⟩) (Nat.le_of_ble_eq_true rfl) dL_build_5 rfl ?_ ?_
  · rintro _ _ ⟨c, E1, (⟨rfl, rfl⟩ | ⟨rfl, rfl⟩), rfl, hM⟩
    · refine ⟨tableOf [], _, tableOf [(0, 10, 17, 13)], "java/util/NoSuchElementException", rfl, (fun w hw => by cases hw), rfl, by decide, w_1202, w_1214, fun q => ?_⟩
      refine at_xstore 15 X dL_build_13 rfl (by decide) ?_
      refine at_iconst 16 X (by decide) dL_build_15 rfl ?_
      exact at_iret X Rt ⟨1, 0, E1, rfl, hM, rfl⟩ (by omega) (by omega) dL_build_16
    · refine ⟨tableOf [(0, 10, 13, 31)], _, tableOf [], "java/lang/IllegalArgumentException", rfl, (fun w hw => by
        rcases (by simpa [tableOf] using hw : w = ⟨0, 10, 13, 31⟩) with rfl
        · exact Or.inr ⟨by decide, "java/util/NoSuchElementException", w_1202, by decide, by decide, by decide⟩), rfl, by decide, w_854, w_869, fun q => ?_⟩
      refine at_xstore 19 X dL_build_17 rfl (by decide) ?_
      refine at_iconst 20 X (by decide) dL_build_19 rfl ?_
      exact at_iret X Rt ⟨2, 0, E1, rfl, hM, rfl⟩ (by omega) (by omega) dL_build_20
  rintro _ _ ⟨v, E1, rfl, rfl, hM⟩
  refine at_i2l 9 X dL_build_8 rfl ?_
  refine m_lastore 10 X k_813 e_813 (by decide) (by decide) dL_build_9 rfl ?_
  refine at_goto 21 X dL_build_10 (by decide) ?_
  refine at_iconst 22 X (by decide) dL_build_21 rfl ?_
  exact at_iret X Rt ⟨0, v, E1, rfl, hM, rfl⟩ (by omega) (by omega) dL_build_22
theorem dL_lay_0 : decode cL_lay 0 = .ok (.aload_n 3, 1) := by decide +kernel
theorem dL_lay_1 : decode cL_lay 1 = .ok (.iconst 0, 1) := by decide +kernel
theorem dL_lay_2 : decode cL_lay 2 = .ok (.aload_n 0, 1) := by decide +kernel
theorem dL_lay_3 : decode cL_lay 3 = .ok (.iload_n 1, 1) := by decide +kernel
theorem dL_lay_4 : decode cL_lay 4 = .ok (.iload_n 2, 1) := by decide +kernel
theorem dL_lay_5 : decode cL_lay 5 = .ok (.invokevirtual 140, 3) := by decide +kernel
theorem dL_lay_8 : decode cL_lay 8 = .ok (.i2l, 1) := by decide +kernel
theorem dL_lay_9 : decode cL_lay 9 = .ok (.lastore, 1) := by decide +kernel
theorem dL_lay_10 : decode cL_lay 10 = .ok (.goto 11, 3) := by decide +kernel
theorem dL_lay_13 : decode cL_lay 13 = .ok (.astore 4, 2) := by decide +kernel
theorem dL_lay_15 : decode cL_lay 15 = .ok (.iconst 1, 1) := by decide +kernel
theorem dL_lay_16 : decode cL_lay 16 = .ok (.ireturn, 1) := by decide +kernel
theorem dL_lay_17 : decode cL_lay 17 = .ok (.astore 4, 2) := by decide +kernel
theorem dL_lay_19 : decode cL_lay 19 = .ok (.iconst 2, 1) := by decide +kernel
theorem dL_lay_20 : decode cL_lay 20 = .ok (.ireturn, 1) := by decide +kernel
theorem dL_lay_21 : decode cL_lay 21 = .ok (.iconst 0, 1) := by decide +kernel
theorem dL_lay_22 : decode cL_lay 22 = .ok (.ireturn, 1) := by decide +kernel
theorem lh_lay {g : Gw} (hG : GF g) {fr lo mc ms : Nat} (E : Mm) (x0 x1 : Int) (M : Nat → Int → Mm → Prop) (hX : CTX g yX11_lay cX11_lay 4 (some .int) fr lo mc ms K2 false [mR 0, mI x0, mI x1] (ov E) K2 false (fun r D' => ∃ (v : Int) (E1 : Mm), r = some (mI v) ∧ D' = ov E1 ∧ M 0 v E1) (fun X D' => ∃ (c : Nat) (E1 : Mm), ((c = 1 ∧ X = "java/util/NoSuchElementException") ∨ (c = 2 ∧ X = "java/lang/IllegalArgumentException")) ∧ D' = ov E1 ∧ M c 0 E1)) : CTH g yL_lay cL_lay 5 (some .int) [(0, 10, 13, 31), (0, 10, 17, 13)] (fr + 1) (lo + 23) mc ms K2 false [mR 0, mI x0, mI x1, mR 813] (ov E) K2 false (fun r D' => ∃ (c : Nat) (v : Int) (E1 : Mm), r = some (mI (c : Int)) ∧ M c v E1 ∧ D' = ov (if c = 0 then wr E1 813 0 v else E1)) := by
  refine CTH.mk hG (by decide +kernel) (Nat.le_of_ble_eq_true rfl) (fun κ X Rt htab ok => ?_)
  refine at_aload_n 1 X rfl rfl dL_lay_0 rfl ?_
  refine at_iconst 2 X (by decide) dL_lay_1 rfl ?_
  refine at_aload_n 3 X rfl rfl dL_lay_2 rfl ?_
  refine at_iload_n 4 X rfl rfl dL_lay_3 rfl ?_
  refine at_iload_n 5 X rfl rfl dL_lay_4 rfl ?_
  refine at_callVH 8 X htab 0 11 hX clX11 rfl k_0 mo_X11_lay w_1712 vo_X11_lay.1 vo_X11_lay.2 rfl rfl (crm Rt ⟨Nat.le_refl _, by omega, by omega, by omega⟩) (Nat.le_of_ble_eq_true rfl) dL_lay_5 rfl ?_ ?_
  · rintro _ _ ⟨c, E1, (⟨rfl, rfl⟩ | ⟨rfl, rfl⟩), rfl, hM⟩
    · refine ⟨tableOf [], _, tableOf [(0, 10, 17, 13)], "java/util/NoSuchElementException", rfl, (fun w hw => by cases hw), rfl, by decide, w_1202, w_1214, fun q => ?_⟩
      refine at_xstore 15 X dL_lay_13 rfl (by decide) ?_
      refine at_iconst 16 X (by decide) dL_lay_15 rfl ?_
      exact at_iret X Rt ⟨1, 0, E1, rfl, hM, rfl⟩ (by omega) (by omega) dL_lay_16
    · refine ⟨tableOf [(0, 10, 13, 31)], _, tableOf [], "java/lang/IllegalArgumentException", rfl, (fun w hw => by
        rcases (by simpa [tableOf] using hw : w = ⟨0, 10, 13, 31⟩) with rfl
        · exact Or.inr ⟨by decide, "java/util/NoSuchElementException", w_1202, by decide, by decide, by decide⟩), rfl, by decide, w_854, w_869, fun q => ?_⟩
      refine at_xstore 19 X dL_lay_17 rfl (by decide) ?_
      refine at_iconst 20 X (by decide) dL_lay_19 rfl ?_
      exact at_iret X Rt ⟨2, 0, E1, rfl, hM, rfl⟩ (by omega) (by omega) dL_lay_20
  rintro _ _ ⟨v, E1, rfl, rfl, hM⟩
  refine at_i2l 9 X dL_lay_8 rfl ?_
  refine m_lastore 10 X k_813 e_813 (by decide) (by decide) dL_lay_9 rfl ?_
  refine at_goto 21 X dL_lay_10 (by decide) ?_
  refine at_iconst 22 X (by decide) dL_lay_21 rfl ?_
  exact at_iret X Rt ⟨0, v, E1, rfl, hM, rfl⟩ (by omega) (by omega) dL_lay_22
theorem dL_put_0 : decode cL_put 0 = .ok (.aload 4, 2) := by decide +kernel
theorem dL_put_2 : decode cL_put 2 = .ok (.iconst 0, 1) := by decide +kernel
theorem dL_put_3 : decode cL_put 3 = .ok (.aload_n 0, 1) := by decide +kernel
theorem dL_put_4 : decode cL_put 4 = .ok (.iload_n 1, 1) := by decide +kernel
theorem dL_put_5 : decode cL_put 5 = .ok (.iload_n 2, 1) := by decide +kernel
theorem dL_put_6 : decode cL_put 6 = .ok (.iload_n 3, 1) := by decide +kernel
theorem dL_put_7 : decode cL_put 7 = .ok (.invokevirtual 143, 3) := by decide +kernel
theorem dL_put_10 : decode cL_put 10 = .ok (.i2l, 1) := by decide +kernel
theorem dL_put_11 : decode cL_put 11 = .ok (.lastore, 1) := by decide +kernel
theorem dL_put_12 : decode cL_put 12 = .ok (.goto 11, 3) := by decide +kernel
theorem dL_put_15 : decode cL_put 15 = .ok (.astore 5, 2) := by decide +kernel
theorem dL_put_17 : decode cL_put 17 = .ok (.iconst 1, 1) := by decide +kernel
theorem dL_put_18 : decode cL_put 18 = .ok (.ireturn, 1) := by decide +kernel
theorem dL_put_19 : decode cL_put 19 = .ok (.astore 5, 2) := by decide +kernel
theorem dL_put_21 : decode cL_put 21 = .ok (.iconst 2, 1) := by decide +kernel
theorem dL_put_22 : decode cL_put 22 = .ok (.ireturn, 1) := by decide +kernel
theorem dL_put_23 : decode cL_put 23 = .ok (.iconst 0, 1) := by decide +kernel
theorem dL_put_24 : decode cL_put 24 = .ok (.ireturn, 1) := by decide +kernel
theorem lh_put {g : Gw} (hG : GF g) {fr lo mc ms : Nat} (E : Mm) (x0 x1 x2 : Int) (M : Nat → Int → Mm → Prop) (hX : CTX g yX11_put cX11_put 5 (some .int) fr lo mc ms K2 false [mR 0, mI x0, mI x1, mI x2] (ov E) K2 false (fun r D' => ∃ (v : Int) (E1 : Mm), r = some (mI v) ∧ D' = ov E1 ∧ M 0 v E1) (fun X D' => ∃ (c : Nat) (E1 : Mm), ((c = 1 ∧ X = "java/util/NoSuchElementException") ∨ (c = 2 ∧ X = "java/lang/IllegalArgumentException")) ∧ D' = ov E1 ∧ M c 0 E1)) : CTH g yL_put cL_put 6 (some .int) [(0, 12, 15, 31), (0, 12, 19, 13)] (fr + 1) (lo + 24) mc ms K2 false [mR 0, mI x0, mI x1, mI x2, mR 813] (ov E) K2 false (fun r D' => ∃ (c : Nat) (v : Int) (E1 : Mm), r = some (mI (c : Int)) ∧ M c v E1 ∧ D' = ov (if c = 0 then wr E1 813 0 v else E1)) := by
  refine CTH.mk hG (by decide +kernel) (Nat.le_of_ble_eq_true rfl) (fun κ X Rt htab ok => ?_)
  refine at_aload 2 X rfl dL_put_0 rfl ?_
  refine at_iconst 3 X (by decide) dL_put_2 rfl ?_
  refine at_aload_n 4 X rfl rfl dL_put_3 rfl ?_
  refine at_iload_n 5 X rfl rfl dL_put_4 rfl ?_
  refine at_iload_n 6 X rfl rfl dL_put_5 rfl ?_
  refine at_iload_n 7 X rfl rfl dL_put_6 rfl ?_
  refine at_callVH 10 X htab 0 11 hX clX11 rfl k_0 mo_X11_put w_1719 vo_X11_put.1 vo_X11_put.2 rfl rfl (crm Rt ⟨Nat.le_refl _, by omega, by omega, by omega⟩) (Nat.le_of_ble_eq_true rfl) dL_put_7 rfl ?_ ?_
  · rintro _ _ ⟨c, E1, (⟨rfl, rfl⟩ | ⟨rfl, rfl⟩), rfl, hM⟩
    · refine ⟨tableOf [], _, tableOf [(0, 12, 19, 13)], "java/util/NoSuchElementException", rfl, (fun w hw => by cases hw), rfl, by decide, w_1202, w_1214, fun q => ?_⟩
      refine at_xstore 17 X dL_put_15 rfl (by decide) ?_
      refine at_iconst 18 X (by decide) dL_put_17 rfl ?_
      exact at_iret X Rt ⟨1, 0, E1, rfl, hM, rfl⟩ (by omega) (by omega) dL_put_18
    · refine ⟨tableOf [(0, 12, 15, 31)], _, tableOf [], "java/lang/IllegalArgumentException", rfl, (fun w hw => by
        rcases (by simpa [tableOf] using hw : w = ⟨0, 12, 15, 31⟩) with rfl
        · exact Or.inr ⟨by decide, "java/util/NoSuchElementException", w_1202, by decide, by decide, by decide⟩), rfl, by decide, w_854, w_869, fun q => ?_⟩
      refine at_xstore 21 X dL_put_19 rfl (by decide) ?_
      refine at_iconst 22 X (by decide) dL_put_21 rfl ?_
      exact at_iret X Rt ⟨2, 0, E1, rfl, hM, rfl⟩ (by omega) (by omega) dL_put_22
  rintro _ _ ⟨v, E1, rfl, rfl, hM⟩
  refine at_i2l 11 X dL_put_10 rfl ?_
  refine m_lastore 12 X k_813 e_813 (by decide) (by decide) dL_put_11 rfl ?_
  refine at_goto 23 X dL_put_12 (by decide) ?_
  refine at_iconst 24 X (by decide) dL_put_23 rfl ?_
  exact at_iret X Rt ⟨0, v, E1, rfl, hM, rfl⟩ (by omega) (by omega) dL_put_24
