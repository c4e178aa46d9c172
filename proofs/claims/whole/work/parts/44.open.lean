theorem lcmp_ge {x y : Int} : lcmpI x y ≥ 0 ↔ x ≥ y := by
  unfold lcmpI
  split
  · omega
  · split <;> omega
theorem lcmp_lt {x y : Int} : lcmpI x y < 0 ↔ x < y := by
  unfold lcmpI
  split
  · omega
  · split <;> omega
section MATH
variable {g : Gw} {κ : Kp} {cc : ByteArray} {own : String} {nL : Nat} {K : Shp} {z : Bool} {cells slots pc : Nat} {l : List (Nat × MV)} {st : List MV} {D : Mm}
/-- Math.min of ints -/
theorem at_min (pc' : Nat) (X : CX g κ cc own nL) {x y : Int} {ix : Nat} (hl : Cond.methodLink own ix yJ9_min_7cf53 ∈ ALLW) (hr : 1 ≤ (kR κ).frames ∧ mwid st + 13 ≤ (kR κ).locals ∧ cells ≤ (kR κ).cells ∧ slots ≤ (kR κ).slots) (d : decode cc pc = .ok (.invokestatic ix, 3)) (e0 : pc + 3 = pc') (kk : AT g κ K z cells slots pc' l (mI (if x ≤ y then x else y) :: st) D) : AT g κ K z cells slots pc l (mI y :: mI x :: st) D := by
  obtain ⟨p, e, R, s, m, args, below, meth, c, Q⟩ := κ
  obtain ⟨hx, hb, hnl, hown, hts, hlk, hal, hG, hold, hsz, hnw⟩ := X
  subst e0
  intro H ls locs hl' o1 o2 hD hS
  have oy : -2147483648 ≤ y ∧ y < 2147483648 := ok_hd o2
  have ox : -2147483648 ≤ x ∧ x < 2147483648 := ok_hd (ok_tl o2)
  have h := kk H ls locs hl' o1 (ok_cons (v := mI (if x ≤ y then x else y)) (by split; exact ox; exact oy) (ok_tl (ok_tl o2))) hD hS
  refine va_mmin hx hb hl'.1.symm hown (hts _ hl) (hts _ so_J9_min_7cf53) (hts _ mo_J9_min_7cf53.2.1) (hts _ mo_J9_min_7cf53.1) hr.1 (by rw [mwid_sum]; exact hr.2.1) hr.2.2.1 hr.2.2.2 (x := Int32.ofInt x) (y := Int32.ofInt y) d ?_
  have e2 : (if Int32.ofInt y < Int32.ofInt x then Int32.ofInt y else Int32.ofInt x) = Int32.ofInt (if x ≤ y then x else y) := by
    by_cases c : x ≤ y
    · rw [if_pos c, if_neg (fun q => by have := (ei_lt oy ox).mp q; omega)]
    · rw [if_neg c, if_pos ((ei_lt oy ox).mpr (by omega))]
  rw [e2]
  exact h
end MATH
theorem dX10_open_0 : decode cX10_open 0 = .ok (.aload_n 0, 1) := by decide +kernel
theorem dX10_open_1 : decode cX10_open 1 = .ok (.iload_n 1, 1) := by decide +kernel
theorem dX10_open_2 : decode cX10_open 2 = .ok (.sipush 600, 3) := by decide +kernel
theorem dX10_open_5 : decode cX10_open 5 = .ok (.invokestatic 22, 3) := by decide +kernel
theorem dX10_open_8 : decode cX10_open 8 = .ok (.putfield 28, 3) := by decide +kernel
theorem dX10_open_11 : decode cX10_open 11 = .ok (.aload_n 0, 1) := by decide +kernel
theorem dX10_open_12 : decode cX10_open 12 = .ok (.iconst 0, 1) := by decide +kernel
theorem dX10_open_13 : decode cX10_open 13 = .ok (.putfield 19, 3) := by decide +kernel
theorem dX10_open_16 : decode cX10_open 16 = .ok (.aload_n 0, 1) := by decide +kernel
theorem dX10_open_17 : decode cX10_open 17 = .ok (.iconst 0, 1) := by decide +kernel
theorem dX10_open_18 : decode cX10_open 18 = .ok (.putfield 31, 3) := by decide +kernel
theorem dX10_open_21 : decode cX10_open 21 = .ok (.aload_n 0, 1) := by decide +kernel
theorem dX10_open_22 : decode cX10_open 22 = .ok (.iconst 0, 1) := by decide +kernel
theorem dX10_open_23 : decode cX10_open 23 = .ok (.putfield 34, 3) := by decide +kernel
theorem dX10_open_26 : decode cX10_open 26 = .ok (.aload_n 0, 1) := by decide +kernel
theorem dX10_open_27 : decode cX10_open 27 = .ok (.iconst 0, 1) := by decide +kernel
theorem dX10_open_28 : decode cX10_open 28 = .ok (.putfield 37, 3) := by decide +kernel
theorem dX10_open_31 : decode cX10_open 31 = .ok (.aload_n 0, 1) := by decide +kernel
theorem dX10_open_32 : decode cX10_open 32 = .ok (.iconst (-1), 1) := by decide +kernel
theorem dX10_open_33 : decode cX10_open 33 = .ok (.putfield 15, 3) := by decide +kernel
theorem dX10_open_36 : decode cX10_open 36 = .ok (.return_, 1) := by decide +kernel
/-- a text is opened: m bytes, none read -/
def openE (E : Mm) (m : Int) : Mm := tpE (wr (wr E 1 2 m) 1 1 0) (0, 0, 0, -1)
theorem openE_eq {E : Mm} {m : Int} : openE E m = wr (wr (wr (wr (wr (wr E 1 2 m) 1 1 0) 1 3 0) 1 4 0) 1 5 0) 1 6 (-1) := by
  funext q j
  unfold openE tpE wr
  by_cases c : q = 1
  · subst c
    by_cases c3 : j = 3
    · simp [c3]
    by_cases c4 : j = 4
    · simp [c4]
    by_cases c5 : j = 5
    · simp [c5]
    by_cases c6 : j = 6
    · simp [c6]
    simp [c3, c4, c5, c6]
  · simp [c]
theorem ct_X10_open {g : Gw} (hG : GF g) {z : Bool} (E : Mm) (n : Int) : CT g yX10_open cX10_open 2 none 1 21 0 0 K2 z [mR 1, mI n] (ov (E)) K2 z (fun r D' => r = none ∧ D' = ov (openE E (if n ≤ 600 then n else 600))) := by
  refine CT.mk hG (by decide +kernel) (Nat.le_of_ble_eq_true rfl) (fun κ X Rt _ ok => ?_)
  refine at_aload_n 1 X rfl rfl dX10_open_0 rfl ?_
  refine at_iload_n 2 X rfl rfl dX10_open_1 rfl ?_
  refine at_sipush 5 X (by decide) (by decide) dX10_open_2 rfl ?_
  refine at_min 8 X w_938 (by rw [Rt.1]; exact ⟨by decide, by decide, by decide, by decide⟩) dX10_open_5 rfl ?_
  refine m_putI 11 X f_X10_28 fw_10_2 k_1 rn_1_2 dX10_open_8 rfl ?_
  refine at_aload_n 12 X rfl rfl dX10_open_11 rfl ?_
  refine at_iconst 13 X (by decide) dX10_open_12 rfl ?_
  refine m_putI 16 X f_X10_19 fw_10_1 k_1 rn_1_1 dX10_open_13 rfl ?_
  refine at_aload_n 17 X rfl rfl dX10_open_16 rfl ?_
  refine at_iconst 18 X (by decide) dX10_open_17 rfl ?_
  refine m_putI 21 X f_X10_31 fw_10_3 k_1 rn_1_3 dX10_open_18 rfl ?_
  refine at_aload_n 22 X rfl rfl dX10_open_21 rfl ?_
  refine at_iconst 23 X (by decide) dX10_open_22 rfl ?_
  refine m_putI 26 X f_X10_34 fw_10_4 k_1 rn_1_4 dX10_open_23 rfl ?_
  refine at_aload_n 27 X rfl rfl dX10_open_26 rfl ?_
  refine at_iconst 28 X (by decide) dX10_open_27 rfl ?_
  refine m_putI 31 X f_X10_37 fw_10_5 k_1 rn_1_5 dX10_open_28 rfl ?_
  refine at_aload_n 32 X rfl rfl dX10_open_31 rfl ?_
  refine at_iconst 33 X (by decide) dX10_open_32 rfl ?_
  refine m_putI 36 X f_X10_15 fw_10_6 k_1 rn_1_6 dX10_open_33 rfl ?_
  refine at_vret X Rt ⟨rfl, by rw [openE_eq]⟩ (Nat.le_refl _) (Nat.le_refl _) dX10_open_36
theorem dX11_openText_0 : decode cX11_openText 0 = .ok (.aload_n 0, 1) := by decide +kernel
theorem dX11_openText_1 : decode cX11_openText 1 = .ok (.iload_n 1, 1) := by decide +kernel
theorem dX11_openText_2 : decode cX11_openText 2 = .ok (.ifCond .lt 23, 3) := by decide +kernel
theorem dX11_openText_5 : decode cX11_openText 5 = .ok (.iload_n 1, 1) := by decide +kernel
theorem dX11_openText_6 : decode cX11_openText 6 = .ok (.iload_n 2, 1) := by decide +kernel
theorem dX11_openText_7 : decode cX11_openText 7 = .ok (.if_icmp .gt 18, 3) := by decide +kernel
theorem dX11_openText_10 : decode cX11_openText 10 = .ok (.iload_n 1, 1) := by decide +kernel
theorem dX11_openText_11 : decode cX11_openText 11 = .ok (.aload_n 0, 1) := by decide +kernel
theorem dX11_openText_12 : decode cX11_openText 12 = .ok (.getfield 12, 3) := by decide +kernel
theorem dX11_openText_15 : decode cX11_openText 15 = .ok (.getfield 113, 3) := by decide +kernel
theorem dX11_openText_18 : decode cX11_openText 18 = .ok (.if_icmp .gt 7, 3) := by decide +kernel
theorem dX11_openText_21 : decode cX11_openText 21 = .ok (.iconst 1, 1) := by decide +kernel
theorem dX11_openText_22 : decode cX11_openText 22 = .ok (.goto 4, 3) := by decide +kernel
theorem dX11_openText_25 : decode cX11_openText 25 = .ok (.iconst 0, 1) := by decide +kernel
theorem dX11_openText_26 : decode cX11_openText 26 = .ok (.invokevirtual 164, 3) := by decide +kernel
theorem dX11_openText_29 : decode cX11_openText 29 = .ok (.aload_n 0, 1) := by decide +kernel
theorem dX11_openText_30 : decode cX11_openText 30 = .ok (.getfield 12, 3) := by decide +kernel
theorem dX11_openText_33 : decode cX11_openText 33 = .ok (.iload_n 1, 1) := by decide +kernel
theorem dX11_openText_34 : decode cX11_openText 34 = .ok (.invokevirtual 168, 3) := by decide +kernel
theorem dX11_openText_37 : decode cX11_openText 37 = .ok (.return_, 1) := by decide +kernel
theorem ct_X11_openText {g : Gw} (hG : GF g) {z : Bool} (E : Mm) (n most : Int) (hs : E 1 1 ≤ 600) : CTX g yX11_openText cX11_openText 3 none 7 111 1 6 K2 z [mR 0, mI n, mI most] (ov (E)) K2 z (fun r D' => (0 ≤ n ∧ n ≤ most ∧ n ≤ E 1 1) ∧ r = none ∧ D' = ov (openE E n)) (fun X D' => ¬ (0 ≤ n ∧ n ≤ most ∧ n ≤ E 1 1) ∧ X = "java/lang/IllegalArgumentException" ∧ D' = ov (bumpE E 2)) := by
  refine CTX.mk hG (by decide +kernel) (Nat.le_of_ble_eq_true rfl) (fun κ X Rt Rx ok => ?_)
  refine at_aload_n 1 X rfl rfl dX11_openText_0 rfl ?_
  refine at_iload_n 2 X rfl rfl dX11_openText_1 rfl ?_
  refine at_if_lt 5 25 X dX11_openText_2 rfl (by decide) (fun h2 => ?_) (fun h2 => ?_)
  · refine at_iconst 26 X (by decide) dX11_openText_25 rfl ?_
    refine at_callVX 29 X Rt Rx _ 11 (ct_X11_need hG E _) clX11 rfl k_0 mo_X11_need w_863 vo_X11_need.1 vo_X11_need.2 rfl rfl (by decide) (Nat.le_of_ble_eq_true rfl) dX11_openText_26 rfl (fun _ _ h => ⟨by have := h.1; omega, h.2⟩) ?_
    rintro _ _ ⟨hq, rfl, rfl⟩
    refine at_aload_n 30 X rfl rfl dX11_openText_29 rfl ?_
    refine m_getR 33 X f_X11_12 k_0 r_0_0 dX11_openText_30 rfl ?_
    refine at_iload_n 34 X rfl rfl dX11_openText_33 rfl ?_
    refine at_callV 37 X _ 10 (ct_X10_open hG E n) clX10 rfl k_1 mo_X10_open w_934 vo_X10_open.1 vo_X10_open.2 rfl rfl (crm Rt (by decide)) (Nat.le_of_ble_eq_true rfl) dX11_openText_34 rfl ?_
    rintro _ _ ⟨rfl, rfl⟩
    refine at_vret X Rt ⟨by omega, rfl, by rw [if_pos (by omega)]⟩ (by decide) (by decide) dX11_openText_37
  · refine at_iload_n 6 X rfl rfl dX11_openText_5 rfl ?_
    refine at_iload_n 7 X rfl rfl dX11_openText_6 rfl ?_
    refine at_icmp_gt 10 25 X dX11_openText_7 rfl (by decide) (fun h7 => ?_) (fun h7 => ?_)
    · refine at_iconst 26 X (by decide) dX11_openText_25 rfl ?_
      refine at_callVX 29 X Rt Rx _ 11 (ct_X11_need hG E _) clX11 rfl k_0 mo_X11_need w_863 vo_X11_need.1 vo_X11_need.2 rfl rfl (by decide) (Nat.le_of_ble_eq_true rfl) dX11_openText_26 rfl (fun _ _ h => ⟨by have := h.1; omega, h.2⟩) ?_
      rintro _ _ ⟨hq, rfl, rfl⟩
      refine at_aload_n 30 X rfl rfl dX11_openText_29 rfl ?_
      refine m_getR 33 X f_X11_12 k_0 r_0_0 dX11_openText_30 rfl ?_
      refine at_iload_n 34 X rfl rfl dX11_openText_33 rfl ?_
      refine at_callV 37 X _ 10 (ct_X10_open hG E n) clX10 rfl k_1 mo_X10_open w_934 vo_X10_open.1 vo_X10_open.2 rfl rfl (crm Rt (by decide)) (Nat.le_of_ble_eq_true rfl) dX11_openText_34 rfl ?_
      rintro _ _ ⟨rfl, rfl⟩
      refine at_vret X Rt ⟨by omega, rfl, by rw [if_pos (by omega)]⟩ (by decide) (by decide) dX11_openText_37
    · refine at_iload_n 11 X rfl rfl dX11_openText_10 rfl ?_
      refine at_aload_n 12 X rfl rfl dX11_openText_11 rfl ?_
      refine m_getR 15 X f_X11_12 k_0 r_0_0 dX11_openText_12 rfl ?_
      refine m_getI 18 X f_X11_113 k_1 rn_1_1 dX11_openText_15 rfl ?_
      refine at_icmp_gt 21 25 X dX11_openText_18 rfl (by decide) (fun h18 => ?_) (fun h18 => ?_)
      · refine at_iconst 26 X (by decide) dX11_openText_25 rfl ?_
        refine at_callVX 29 X Rt Rx _ 11 (ct_X11_need hG E _) clX11 rfl k_0 mo_X11_need w_863 vo_X11_need.1 vo_X11_need.2 rfl rfl (by decide) (Nat.le_of_ble_eq_true rfl) dX11_openText_26 rfl (fun _ _ h => ⟨by have := h.1; omega, h.2⟩) ?_
        rintro _ _ ⟨hq, rfl, rfl⟩
        refine at_aload_n 30 X rfl rfl dX11_openText_29 rfl ?_
        refine m_getR 33 X f_X11_12 k_0 r_0_0 dX11_openText_30 rfl ?_
        refine at_iload_n 34 X rfl rfl dX11_openText_33 rfl ?_
        refine at_callV 37 X _ 10 (ct_X10_open hG E n) clX10 rfl k_1 mo_X10_open w_934 vo_X10_open.1 vo_X10_open.2 rfl rfl (crm Rt (by decide)) (Nat.le_of_ble_eq_true rfl) dX11_openText_34 rfl ?_
        rintro _ _ ⟨rfl, rfl⟩
        refine at_vret X Rt ⟨by omega, rfl, by rw [if_pos (by omega)]⟩ (by decide) (by decide) dX11_openText_37
      · refine at_iconst 22 X (by decide) dX11_openText_21 rfl ?_
        refine at_goto 26 X dX11_openText_22 (by decide) ?_
        refine at_callVX 29 X Rt Rx _ 11 (ct_X11_need hG E _) clX11 rfl k_0 mo_X11_need w_863 vo_X11_need.1 vo_X11_need.2 rfl rfl (by decide) (Nat.le_of_ble_eq_true rfl) dX11_openText_26 rfl (fun _ _ h => ⟨by have := h.1; omega, h.2⟩) ?_
        rintro _ _ ⟨hq, rfl, rfl⟩
        refine at_aload_n 30 X rfl rfl dX11_openText_29 rfl ?_
        refine m_getR 33 X f_X11_12 k_0 r_0_0 dX11_openText_30 rfl ?_
        refine at_iload_n 34 X rfl rfl dX11_openText_33 rfl ?_
        refine at_callV 37 X _ 10 (ct_X10_open hG E n) clX10 rfl k_1 mo_X10_open w_934 vo_X10_open.1 vo_X10_open.2 rfl rfl (crm Rt (by decide)) (Nat.le_of_ble_eq_true rfl) dX11_openText_34 rfl ?_
        rintro _ _ ⟨rfl, rfl⟩
        refine at_vret X Rt ⟨by omega, rfl, by rw [if_pos (by omega)]⟩ (by decide) (by decide) dX11_openText_37
