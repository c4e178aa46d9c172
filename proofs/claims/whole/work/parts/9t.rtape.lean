/-! the reference's tape -/
/-- the reference's tape: n bytes B, read as far as a -/
def RTa (E : Mm) (B : Nat → Int) (n a : Nat) : Prop := (n ≤ 600 ∧ a ≤ n) ∧ E 125 2 = (n : Int) ∧ E 126 = B ∧ (∀ k, k < n → 0 ≤ B k ∧ B k < 256) ∧ E 125 4 = (a : Int)
/-- it stands as the tape t of the other side does -/
def RTp (E : Mm) (B : Nat → Int) (n : Nat) (t : TS) : Prop := ∃ a : Nat, RTa E B n a ∧ E 125 5 = t.2.2.1 ∧ E 125 6 = t.2.2.2 ∧ (t.2.2.1 = 0 → sk B n a = sk B n t.1)
/-- only what is read has moved -/
def RTf (E E1 : Mm) : Prop := (∀ q, q ≠ 125 → E1 q = E q) ∧ ∀ k, ¬ (4 ≤ k ∧ k ≤ 6) → E1 125 k = E 125 k
theorem RTf.rf {E : Mm} : RTf E E := ⟨fun _ _ => rfl, fun _ _ => rfl⟩
theorem RTf.tr {E E1 E2 : Mm} (h : RTf E E1) (h2 : RTf E1 E2) : RTf E E2 := ⟨fun q a => (h2.1 q a).trans (h.1 q a), fun k hk => (h2.2 k hk).trans (h.2 k hk)⟩
theorem RTa.w4 {E : Mm} {B : Nat → Int} {n a b : Nat} (h : RTa E B n a) (hb : b ≤ n) : RTa (wr E 125 4 (b : Int)) B n b ∧ RTf E (wr E 125 4 (b : Int)) :=
  ⟨⟨⟨h.1.1, hb⟩, (wr_o (by omega)).trans h.2.1, (wr_row (by omega)).trans h.2.2.1, h.2.2.2.1, wr_s _ _ _ _⟩, fun q hq => wr_row hq, fun k hk => wr_o (by omega)⟩
theorem RTa.w {E E1 : Mm} {B : Nat → Int} {n a : Nat} (h : RTa E B n a) (h2 : E1 125 2 = E 125 2) (h4 : E1 125 4 = E 125 4) (h6 : E1 126 = E 126) : RTa E1 B n a := ⟨h.1, h2.trans h.2.1, h6.trans h.2.2.1, h.2.2.2.1, h4.trans h.2.2.2.2⟩
theorem RTa.by {E : Mm} {B : Nat → Int} {n a : Nat} (h : RTa E B n a) {k : Nat} : E 126 k = B k := congrFun h.2.2.1 k
/-- what stands at a place; none behind the end -/
def bAt (B : Nat → Int) (n k : Nat) : Int := if n ≤ k then -1 else B k
theorem bAt_is {B : Nat → Int} {n k : Nat} {x : Int} (hx : 0 ≤ x) : bAt B n k = x ↔ isA B n k x x := by
  unfold bAt
  constructor
  · intro h
    split at h
    · omega
    · exact ⟨by omega, by omega, by omega⟩
  · rintro ⟨h1, h2, h3⟩
    rw [if_neg (by omega)]; omega
theorem bAt_in {B : Nat → Int} {n k : Nat} {x y : Int} (hx : 0 ≤ x) : (x ≤ bAt B n k ∧ bAt B n k ≤ y) ↔ isA B n k x y := by
  unfold bAt
  constructor
  · rintro ⟨h1, h2⟩
    split at h1
    · omega
    · rename_i c; rw [if_neg c] at h2; exact ⟨by omega, h1, h2⟩
  · rintro ⟨h1, h2, h3⟩
    rw [if_neg (by omega)]; exact ⟨h2, h3⟩
theorem c12_byteAt {g : Gw} (hG : GF g) {z : Bool} (E : Mm) (B : Nat → Int) (n a : Nat) (hA : RTa E B n a) (k : Nat) : CT g yX12_byteAt cX12_byteAt 2 (some .int) 0 0 0 0 K2 z [mR 125, mI (k : Int)] (ov E) K2 z (fun r D' => r = some (mI (bAt B n k)) ∧ D' = ov E) := by
  have h := ct_X12_byteAt hG (z := z) E (k : Int) n hA.2.1 hA.1.1 (by omega)
  refine h.imp (fun r D' q => ⟨q.1.trans ?_, q.2⟩)
  unfold bAt
  rw [Int.toNat_natCast, hA.by]
  by_cases c : n ≤ k
  · rw [if_pos c, if_pos (by omega)]
  · rw [if_neg c, if_neg (by omega)]
theorem c12_blanks {g : Gw} (hG : GF g) {z : Bool} (E : Mm) (B : Nat → Int) (n a : Nat) (hA : RTa E B n a) : CT g yX12_blanks cX12_blanks 1 none 1 21 0 0 K2 z [mR 125] (ov E) K2 z (fun r D' => r = none ∧ ∃ E1, D' = ov E1 ∧ RTa E1 B n (sk B n a) ∧ RTf E E1 ∧ E1 125 5 = E 125 5 ∧ E1 125 6 = E 125 6) := by
  have h := ct_X12_blanks hG (z := z) E a n hA.2.1 hA.1.1 hA.2.2.2.2
  rw [hA.2.2.1] at h
  exact h.imp (fun r D' q => ⟨q.1, _, q.2, (hA.w4 (sk_in B hA.1.2).2).1, (hA.w4 (sk_in B hA.1.2).2).2, wr_o (by omega), wr_o (by omega)⟩)
theorem dX12_isDigit_0 : decode cX12_isDigit 0 = .ok (.iload_n 0, 1) := by decide +kernel
theorem dX12_isDigit_1 : decode cX12_isDigit 1 = .ok (.bipush 48, 2) := by decide +kernel
theorem dX12_isDigit_3 : decode cX12_isDigit 3 = .ok (.if_icmp .lt 13, 3) := by decide +kernel
theorem dX12_isDigit_6 : decode cX12_isDigit 6 = .ok (.iload_n 0, 1) := by decide +kernel
theorem dX12_isDigit_7 : decode cX12_isDigit 7 = .ok (.bipush 57, 2) := by decide +kernel
theorem dX12_isDigit_9 : decode cX12_isDigit 9 = .ok (.if_icmp .gt 7, 3) := by decide +kernel
theorem dX12_isDigit_12 : decode cX12_isDigit 12 = .ok (.iconst 1, 1) := by decide +kernel
theorem dX12_isDigit_13 : decode cX12_isDigit 13 = .ok (.goto 4, 3) := by decide +kernel
theorem dX12_isDigit_16 : decode cX12_isDigit 16 = .ok (.iconst 0, 1) := by decide +kernel
theorem dX12_isDigit_17 : decode cX12_isDigit 17 = .ok (.ireturn, 1) := by decide +kernel
theorem ct_X12_isDigit {g : Gw} (hG : GF g) {z : Bool} (E : Mm) (c : Int) : CT g yX12_isDigit cX12_isDigit 1 (some .boolean) 0 0 0 0 K2 z [mI c] (ov E) K2 z (fun r D' => r = some (mI (if 48 ≤ c ∧ c ≤ 57 then 1 else 0)) ∧ D' = ov E) := by
  refine CT.mk hG (by decide +kernel) (Nat.le_of_ble_eq_true rfl) (fun κ X Rt _ ok => ?_)
  refine at_iload_n 1 X rfl rfl dX12_isDigit_0 rfl ?_
  refine at_bipush 3 X (by decide) (by decide) dX12_isDigit_1 rfl ?_
  refine at_icmp_lt 6 16 X dX12_isDigit_3 rfl (by decide) (fun h3 => ?_) (fun h3 => ?_)
  · refine at_iconst 17 X (by decide) dX12_isDigit_16 rfl ?_
    refine at_zret X Rt ?_ (by first | decide | (split <;> decide)) (Nat.le_refl _) (Nat.le_refl _) dX12_isDigit_17
    exact ⟨by first | rw [if_pos (by omega)] | rw [if_neg (by omega)], rfl⟩
  · refine at_iload_n 7 X rfl rfl dX12_isDigit_6 rfl ?_
    refine at_bipush 9 X (by decide) (by decide) dX12_isDigit_7 rfl ?_
    refine at_icmp_gt 12 16 X dX12_isDigit_9 rfl (by decide) (fun h9 => ?_) (fun h9 => ?_)
    · refine at_iconst 17 X (by decide) dX12_isDigit_16 rfl ?_
      refine at_zret X Rt ?_ (by first | decide | (split <;> decide)) (Nat.le_refl _) (Nat.le_refl _) dX12_isDigit_17
      exact ⟨by first | rw [if_pos (by omega)] | rw [if_neg (by omega)], rfl⟩
    · refine at_iconst 13 X (by decide) dX12_isDigit_12 rfl ?_
      refine at_goto 17 X dX12_isDigit_13 (by decide) ?_
      refine at_zret X Rt ?_ (by first | decide | (split <;> decide)) (Nat.le_refl _) (Nat.le_refl _) dX12_isDigit_17
      exact ⟨by first | rw [if_pos (by omega)] | rw [if_neg (by omega)], rfl⟩
theorem dX12_isSmall_0 : decode cX12_isSmall 0 = .ok (.iload_n 0, 1) := by decide +kernel
theorem dX12_isSmall_1 : decode cX12_isSmall 1 = .ok (.bipush 97, 2) := by decide +kernel
theorem dX12_isSmall_3 : decode cX12_isSmall 3 = .ok (.if_icmp .lt 13, 3) := by decide +kernel
theorem dX12_isSmall_6 : decode cX12_isSmall 6 = .ok (.iload_n 0, 1) := by decide +kernel
theorem dX12_isSmall_7 : decode cX12_isSmall 7 = .ok (.bipush 122, 2) := by decide +kernel
theorem dX12_isSmall_9 : decode cX12_isSmall 9 = .ok (.if_icmp .gt 7, 3) := by decide +kernel
theorem dX12_isSmall_12 : decode cX12_isSmall 12 = .ok (.iconst 1, 1) := by decide +kernel
theorem dX12_isSmall_13 : decode cX12_isSmall 13 = .ok (.goto 4, 3) := by decide +kernel
theorem dX12_isSmall_16 : decode cX12_isSmall 16 = .ok (.iconst 0, 1) := by decide +kernel
theorem dX12_isSmall_17 : decode cX12_isSmall 17 = .ok (.ireturn, 1) := by decide +kernel
theorem ct_X12_isSmall {g : Gw} (hG : GF g) {z : Bool} (E : Mm) (c : Int) : CT g yX12_isSmall cX12_isSmall 1 (some .boolean) 0 0 0 0 K2 z [mI c] (ov E) K2 z (fun r D' => r = some (mI (if 97 ≤ c ∧ c ≤ 122 then 1 else 0)) ∧ D' = ov E) := by
  refine CT.mk hG (by decide +kernel) (Nat.le_of_ble_eq_true rfl) (fun κ X Rt _ ok => ?_)
  refine at_iload_n 1 X rfl rfl dX12_isSmall_0 rfl ?_
  refine at_bipush 3 X (by decide) (by decide) dX12_isSmall_1 rfl ?_
  refine at_icmp_lt 6 16 X dX12_isSmall_3 rfl (by decide) (fun h3 => ?_) (fun h3 => ?_)
  · refine at_iconst 17 X (by decide) dX12_isSmall_16 rfl ?_
    refine at_zret X Rt ?_ (by first | decide | (split <;> decide)) (Nat.le_refl _) (Nat.le_refl _) dX12_isSmall_17
    exact ⟨by first | rw [if_pos (by omega)] | rw [if_neg (by omega)], rfl⟩
  · refine at_iload_n 7 X rfl rfl dX12_isSmall_6 rfl ?_
    refine at_bipush 9 X (by decide) (by decide) dX12_isSmall_7 rfl ?_
    refine at_icmp_gt 12 16 X dX12_isSmall_9 rfl (by decide) (fun h9 => ?_) (fun h9 => ?_)
    · refine at_iconst 17 X (by decide) dX12_isSmall_16 rfl ?_
      refine at_zret X Rt ?_ (by first | decide | (split <;> decide)) (Nat.le_refl _) (Nat.le_refl _) dX12_isSmall_17
      exact ⟨by first | rw [if_pos (by omega)] | rw [if_neg (by omega)], rfl⟩
    · refine at_iconst 13 X (by decide) dX12_isSmall_12 rfl ?_
      refine at_goto 17 X dX12_isSmall_13 (by decide) ?_
      refine at_zret X Rt ?_ (by first | decide | (split <;> decide)) (Nat.le_refl _) (Nat.le_refl _) dX12_isSmall_17
      exact ⟨by first | rw [if_pos (by omega)] | rw [if_neg (by omega)], rfl⟩
theorem dX12_wrong_0 : decode cX12_wrong 0 = .ok (.aload_n 0, 1) := by decide +kernel
theorem dX12_wrong_1 : decode cX12_wrong 1 = .ok (.getfield 168, 3) := by decide +kernel
theorem dX12_wrong_4 : decode cX12_wrong 4 = .ok (.ifCond .ne 13, 3) := by decide +kernel
theorem dX12_wrong_7 : decode cX12_wrong 7 = .ok (.aload_n 0, 1) := by decide +kernel
theorem dX12_wrong_8 : decode cX12_wrong 8 = .ok (.iload_n 1, 1) := by decide +kernel
theorem dX12_wrong_9 : decode cX12_wrong 9 = .ok (.putfield 168, 3) := by decide +kernel
theorem dX12_wrong_12 : decode cX12_wrong 12 = .ok (.aload_n 0, 1) := by decide +kernel
theorem dX12_wrong_13 : decode cX12_wrong 13 = .ok (.iload_n 2, 1) := by decide +kernel
theorem dX12_wrong_14 : decode cX12_wrong 14 = .ok (.putfield 171, 3) := by decide +kernel
theorem dX12_wrong_17 : decode cX12_wrong 17 = .ok (.return_, 1) := by decide +kernel
theorem ct_X12_wrong {g : Gw} (hG : GF g) {z : Bool} (E : Mm) (k x : Int) : CT g yX12_wrong cX12_wrong 3 none 0 0 0 0 K2 z [mR 125, mI k, mI x] (ov E) K2 z (fun r D' => r = none ∧ D' = ov (if E 125 5 = 0 then wr (wr E 125 5 k) 125 6 x else E)) := by
  refine CT.mk hG (by decide +kernel) (Nat.le_of_ble_eq_true rfl) (fun κ X Rt _ ok => ?_)
  refine at_aload_n 1 X rfl rfl dX12_wrong_0 rfl ?_
  refine m_getIV 4 X (E 125 5) rfl f_X12_168 k_125 rn_125_5 dX12_wrong_1 rfl ?_
  refine at_if_ne 7 17 X dX12_wrong_4 rfl (by decide) (fun h4 => ?_) (fun h4 => ?_)
  · refine at_vret X Rt ?_ (Nat.le_refl _) (Nat.le_refl _) dX12_wrong_17
    exact ⟨rfl, by rw [if_neg h4]⟩
  · refine at_aload_n 8 X rfl rfl dX12_wrong_7 rfl ?_
    refine at_iload_n 9 X rfl rfl dX12_wrong_8 rfl ?_
    refine m_putI 12 X f_X12_168 fw_12_5 k_125 rn_125_5 dX12_wrong_9 rfl ?_
    refine at_aload_n 13 X rfl rfl dX12_wrong_12 rfl ?_
    refine at_iload_n 14 X rfl rfl dX12_wrong_13 rfl ?_
    refine m_putI 17 X f_X12_171 fw_12_6 k_125 rn_125_6 dX12_wrong_14 rfl ?_
    refine at_vret X Rt ?_ (Nat.le_refl _) (Nat.le_refl _) dX12_wrong_17
    exact ⟨rfl, by rw [if_pos h4]⟩
theorem c12_wrong {g : Gw} (hG : GF g) {z : Bool} (E : Mm) (B : Nat → Int) (n a : Nat) (hA : RTa E B n a) (k x : Int) : CT g yX12_wrong cX12_wrong 3 none 0 0 0 0 K2 z [mR 125, mI k, mI x] (ov E) K2 z (fun r D' => r = none ∧ ∃ E1, D' = ov E1 ∧ RTa E1 B n a ∧ RTf E E1 ∧ (E 125 5 = 0 → E1 125 5 = k ∧ E1 125 6 = x) ∧ (¬ E 125 5 = 0 → E1 125 5 = E 125 5 ∧ E1 125 6 = E 125 6)) := by
  refine (ct_X12_wrong hG (z := z) E k x).imp (fun r D' q => ⟨q.1, _, q.2, ?_⟩)
  by_cases c : E 125 5 = 0
  · rw [if_pos c]
    exact ⟨hA.w (by simp (disch := omega) only [wr_o]) (by simp (disch := omega) only [wr_o]) (by simp (disch := omega) only [wr_row]), ⟨fun q hq => by simp (disch := omega) only [wr_row], fun k hk => by simp (disch := omega) only [wr_o]⟩, fun _ => ⟨by simp (disch := omega) only [wr_o, wr_s], wr_s _ _ _ _⟩, fun h => absurd c h⟩
  · rw [if_neg c]
    exact ⟨hA, RTf.rf, fun h => absurd h c, fun _ => ⟨rfl, rfl⟩⟩
/-- the reference's number, held to 100000, against the class's, held to 1000000 -/
def nmQ (v v' : Int) : Prop := 0 ≤ v ∧ 0 ≤ v' ∧ v' ≤ 1000000 ∧ ((v = v' ∧ v ≤ 100000) ∨ (v = 100000 ∧ 100000 ≤ v'))
theorem nmQ_step {v v' d : Int} (h : nmQ v v') (hd : 48 ≤ d ∧ d ≤ 57) : nmQ (if 10 * v + d - 48 ≤ 100000 then 10 * v + d - 48 else 100000) (if v' * 10 + d - 48 ≤ 1000000 then v' * 10 + d - 48 else 1000000) := by
  unfold nmQ at *
  obtain ⟨h1, h2, h3, h4⟩ := h
  split <;> split <;> omega
theorem dX12_number_0 : decode cX12_number 0 = .ok (.aload_n 0, 1) := by decide +kernel
theorem dX12_number_1 : decode cX12_number 1 = .ok (.getfield 168, 3) := by decide +kernel
theorem dX12_number_4 : decode cX12_number 4 = .ok (.ifCond .eq 5, 3) := by decide +kernel
theorem dX12_number_7 : decode cX12_number 7 = .ok (.iconst 0, 1) := by decide +kernel
theorem dX12_number_8 : decode cX12_number 8 = .ok (.ireturn, 1) := by decide +kernel
theorem dX12_number_9 : decode cX12_number 9 = .ok (.aload_n 0, 1) := by decide +kernel
theorem dX12_number_10 : decode cX12_number 10 = .ok (.invokevirtual 174, 3) := by decide +kernel
theorem dX12_number_13 : decode cX12_number 13 = .ok (.aload_n 0, 1) := by decide +kernel
theorem dX12_number_14 : decode cX12_number 14 = .ok (.getfield 161, 3) := by decide +kernel
theorem dX12_number_17 : decode cX12_number 17 = .ok (.istore_n 3, 1) := by decide +kernel
theorem dX12_number_18 : decode cX12_number 18 = .ok (.iconst 0, 1) := by decide +kernel
theorem dX12_number_19 : decode cX12_number 19 = .ok (.istore 4, 2) := by decide +kernel
theorem dX12_number_21 : decode cX12_number 21 = .ok (.aload_n 0, 1) := by decide +kernel
theorem dX12_number_22 : decode cX12_number 22 = .ok (.aload_n 0, 1) := by decide +kernel
theorem dX12_number_23 : decode cX12_number 23 = .ok (.getfield 161, 3) := by decide +kernel
theorem dX12_number_26 : decode cX12_number 26 = .ok (.invokevirtual 164, 3) := by decide +kernel
theorem dX12_number_29 : decode cX12_number 29 = .ok (.invokestatic 177, 3) := by decide +kernel
theorem dX12_number_32 : decode cX12_number 32 = .ok (.ifCond .ne 12, 3) := by decide +kernel
theorem dX12_number_35 : decode cX12_number 35 = .ok (.aload_n 0, 1) := by decide +kernel
theorem dX12_number_36 : decode cX12_number 36 = .ok (.iconst 1, 1) := by decide +kernel
theorem dX12_number_37 : decode cX12_number 37 = .ok (.aload_n 0, 1) := by decide +kernel
theorem dX12_number_38 : decode cX12_number 38 = .ok (.getfield 161, 3) := by decide +kernel
theorem dX12_number_41 : decode cX12_number 41 = .ok (.invokevirtual 181, 3) := by decide +kernel
theorem dX12_number_44 : decode cX12_number 44 = .ok (.aload_n 0, 1) := by decide +kernel
theorem dX12_number_45 : decode cX12_number 45 = .ok (.aload_n 0, 1) := by decide +kernel
theorem dX12_number_46 : decode cX12_number 46 = .ok (.getfield 161, 3) := by decide +kernel
theorem dX12_number_49 : decode cX12_number 49 = .ok (.invokevirtual 164, 3) := by decide +kernel
theorem dX12_number_52 : decode cX12_number 52 = .ok (.invokestatic 177, 3) := by decide +kernel
theorem dX12_number_55 : decode cX12_number 55 = .ok (.ifCond .eq 51, 3) := by decide +kernel
theorem dX12_number_58 : decode cX12_number 58 = .ok (.bipush 10, 2) := by decide +kernel
theorem dX12_number_60 : decode cX12_number 60 = .ok (.iload 4, 2) := by decide +kernel
theorem dX12_number_62 : decode cX12_number 62 = .ok (.imul, 1) := by decide +kernel
theorem dX12_number_63 : decode cX12_number 63 = .ok (.aload_n 0, 1) := by decide +kernel
theorem dX12_number_64 : decode cX12_number 64 = .ok (.aload_n 0, 1) := by decide +kernel
theorem dX12_number_65 : decode cX12_number 65 = .ok (.getfield 161, 3) := by decide +kernel
theorem dX12_number_68 : decode cX12_number 68 = .ok (.invokevirtual 164, 3) := by decide +kernel
theorem dX12_number_71 : decode cX12_number 71 = .ok (.iadd, 1) := by decide +kernel
theorem dX12_number_72 : decode cX12_number 72 = .ok (.bipush 48, 2) := by decide +kernel
theorem dX12_number_74 : decode cX12_number 74 = .ok (.isub, 1) := by decide +kernel
theorem dX12_number_75 : decode cX12_number 75 = .ok (.istore 4, 2) := by decide +kernel
theorem dX12_number_77 : decode cX12_number 77 = .ok (.iload 4, 2) := by decide +kernel
theorem dX12_number_79 : decode cX12_number 79 = .ok (.ldc 185, 2) := by decide +kernel
theorem dX12_number_81 : decode cX12_number 81 = .ok (.if_icmp .le 8, 3) := by decide +kernel
theorem dX12_number_84 : decode cX12_number 84 = .ok (.ldc 185, 2) := by decide +kernel
theorem dX12_number_86 : decode cX12_number 86 = .ok (.goto 5, 3) := by decide +kernel
theorem dX12_number_89 : decode cX12_number 89 = .ok (.iload 4, 2) := by decide +kernel
theorem dX12_number_91 : decode cX12_number 91 = .ok (.istore 4, 2) := by decide +kernel
theorem dX12_number_93 : decode cX12_number 93 = .ok (.aload_n 0, 1) := by decide +kernel
theorem dX12_number_94 : decode cX12_number 94 = .ok (.dup, 1) := by decide +kernel
theorem dX12_number_95 : decode cX12_number 95 = .ok (.getfield 161, 3) := by decide +kernel
theorem dX12_number_98 : decode cX12_number 98 = .ok (.iconst 1, 1) := by decide +kernel
theorem dX12_number_99 : decode cX12_number 99 = .ok (.iadd, 1) := by decide +kernel
theorem dX12_number_100 : decode cX12_number 100 = .ok (.putfield 161, 3) := by decide +kernel
theorem dX12_number_103 : decode cX12_number 103 = .ok (.goto (-59), 3) := by decide +kernel
theorem dX12_number_106 : decode cX12_number 106 = .ok (.iload 4, 2) := by decide +kernel
theorem dX12_number_108 : decode cX12_number 108 = .ok (.iload_n 1, 1) := by decide +kernel
theorem dX12_number_109 : decode cX12_number 109 = .ok (.iload_n 2, 1) := by decide +kernel
theorem dX12_number_110 : decode cX12_number 110 = .ok (.invokestatic 186, 3) := by decide +kernel
theorem dX12_number_113 : decode cX12_number 113 = .ok (.ifCond .ne 9, 3) := by decide +kernel
theorem dX12_number_116 : decode cX12_number 116 = .ok (.aload_n 0, 1) := by decide +kernel
theorem dX12_number_117 : decode cX12_number 117 = .ok (.iconst 2, 1) := by decide +kernel
theorem dX12_number_118 : decode cX12_number 118 = .ok (.iload_n 3, 1) := by decide +kernel
theorem dX12_number_119 : decode cX12_number 119 = .ok (.invokevirtual 181, 3) := by decide +kernel
theorem dX12_number_122 : decode cX12_number 122 = .ok (.aload_n 0, 1) := by decide +kernel
theorem dX12_number_123 : decode cX12_number 123 = .ok (.getfield 168, 3) := by decide +kernel
theorem dX12_number_126 : decode cX12_number 126 = .ok (.ifCond .ne 8, 3) := by decide +kernel
theorem dX12_number_129 : decode cX12_number 129 = .ok (.iload 4, 2) := by decide +kernel
theorem dX12_number_131 : decode cX12_number 131 = .ok (.goto 4, 3) := by decide +kernel
theorem dX12_number_134 : decode cX12_number 134 = .ok (.iconst 0, 1) := by decide +kernel
theorem dX12_number_135 : decode cX12_number 135 = .ok (.ireturn, 1) := by decide +kernel
theorem c12_num {g : Gw} (hG : GF g) {z : Bool} (E : Mm) (B : Nat → Int) (n : Nat) (t : TS) (hP : RTp E B n t) (lo hi : Int) (hlo : 0 ≤ lo) (hhi : hi < 100000) : CT g yX12_number cX12_number 5 (some .int) 2 41 0 0 K2 z [mR 125, mI lo, mI hi] (ov E) K2 z (fun r D' => r = some (mI (if (nuT B n t lo hi).2.2.1 = 0 then ((nuV B n t lo hi : Nat) : Int) else 0)) ∧ ∃ E1, D' = ov E1 ∧ RTp E1 B n (nuT B n t lo hi) ∧ RTf E E1) := by
  refine CT.mk hG (by decide +kernel) (Nat.le_of_ble_eq_true rfl) (fun κ X Rt _ ok => ?_)
  obtain ⟨a, hA_E, h5, h6, hs⟩ := hP
  refine at_aload_n 1 X rfl rfl dX12_number_0 rfl ?_
  refine m_getIV 4 X t.2.2.1 h5 f_X12_168 k_125 rn_125_5 dX12_number_1 rfl ?_
  refine at_if_eq 7 9 X dX12_number_4 rfl (by decide) (fun h4 => ?_) (fun h4 => ?_)
  · have h0 : t.2.2.1 = 0 := h4
    refine at_aload_n 10 X rfl rfl dX12_number_9 rfl ?_
    refine at_callV 13 X _ 12 (c12_blanks hG E B n a hA_E) clX12 rfl k_125 mo_X12_blanks w_1968 vo_X12_blanks.1 vo_X12_blanks.2 rfl rfl (crm Rt (by decide)) (Nat.le_of_ble_eq_true rfl) dX12_number_10 rfl ?_
    rintro _ _ ⟨rfl, F1, rfl, hA_F1, hf_F1, h5_F1, h6_F1⟩
    refine at_aload_n 14 X rfl rfl dX12_number_13 rfl ?_
    refine m_getIV 17 X ((sk B n a : Nat) : Int) hA_F1.2.2.2.2 f_X12_161 k_125 rn_125_4 dX12_number_14 rfl ?_
    have := hA_F1.1.2
    refine at_istore_n 18 X rfl dX12_number_17 rfl (by decide) ?_
    refine at_iconst 19 X (by decide) dX12_number_18 rfl ?_
    refine at_istore 21 X dX12_number_19 rfl (by decide) ?_
    refine at_aload_n 22 X rfl rfl dX12_number_21 rfl ?_
    refine at_aload_n 23 X rfl rfl dX12_number_22 rfl ?_
    refine m_getIV 26 X ((sk B n a : Nat) : Int) hA_F1.2.2.2.2 f_X12_161 k_125 rn_125_4 dX12_number_23 rfl ?_
    have := hA_F1.1.2
    refine at_callV 29 X _ 12 (c12_byteAt hG F1 B n (sk B n a) hA_F1 (sk B n a)) clX12 rfl k_125 mo_X12_byteAt w_1972 vo_X12_byteAt.1 vo_X12_byteAt.2 rfl rfl (crm Rt (by decide)) (Nat.le_of_ble_eq_true rfl) dX12_number_26 rfl ?_
    rintro _ _ ⟨rfl, rfl⟩
    refine at_callS 32 X (ct_X12_isDigit hG F1 (bAt B n (sk B n a))) mo_X12_isDigit w_2014 so_X12_isDigit rfl rfl (crm Rt (by decide)) (Nat.le_of_ble_eq_true rfl) dX12_number_29 rfl ?_
    rintro _ _ ⟨rfl, rfl⟩
    refine at_if_ne 35 44 X dX12_number_32 rfl (by decide) (fun h32 => ?_) (fun h32 => ?_)
    · have h32 : (48 ≤ (bAt B n (sk B n a)) ∧ (bAt B n (sk B n a)) ≤ 57) := ite_yes.mp h32
      have hd0 : isA B n (sk B n a) 48 57 := (bAt_in (by decide)).mp h32
      have hmv : (nmE B n (sk B n a) 0).1 ≠ sk B n a := by
        rw [nm_y hd0]
        have h1 := hd0.1
        have h2 := hd0.2.1
        have := (nm_in' B n (n - (sk B n a + 1) + 1) (sk B n a + 1) (if 0 * 10 + B (sk B n a) - 48 ≤ 1000000 then 0 * 10 + B (sk B n a) - 48 else 1000000) (by omega) (by omega) (by split <;> omega)).1.1
        omega
      have J44 : ∀ (f44 : Nat) (F3 : Mm) (x : Nat) (v : Int) (v' : Int) (fk : Int), n - x < f44 → (RTa F3 B n x) → (RTf E F3) → (nmQ v v') → (nmE B n x v' = nmE B n (sk B n a) 0) → (F3 125 5 = fk) → ((fk = 0 ∧ F3 125 6 = E 125 6 ∧ (nmE B n (sk B n a) 0).1 ≠ sk B n a) ∨ (fk = 1 ∧ F3 125 6 = ((sk B n a : Nat) : Int) ∧ x = sk B n a ∧ ¬ isA B n (sk B n a) 48 57)) → AT g κ K2 z 0 0 44 [(0, mR 125), (1, mI lo), (2, mI hi), (3, mI ((sk B n a : Nat) : Int)), (4, mI v)] [] (ov F3) := by
        intro f44
        induction f44 with
        | zero => intro F3 x v v' fk hf44; omega
        | succ f44 ih44 =>
        intro F3 x v v' fk hf44 hA_F3 hf_F3 hQ hR hfk3 hF
        have hxn := hA_F3.1
        refine at_aload_n 45 X rfl rfl dX12_number_44 rfl ?_
        refine at_aload_n 46 X rfl rfl dX12_number_45 rfl ?_
        refine m_getIV 49 X ((x : Nat) : Int) hA_F3.2.2.2.2 f_X12_161 k_125 rn_125_4 dX12_number_46 rfl ?_
        have := hA_F3.1.2
        refine at_callV 52 X _ 12 (c12_byteAt hG F3 B n x hA_F3 x) clX12 rfl k_125 mo_X12_byteAt w_1972 vo_X12_byteAt.1 vo_X12_byteAt.2 rfl rfl (crm Rt (by decide)) (Nat.le_of_ble_eq_true rfl) dX12_number_49 rfl ?_
        rintro _ _ ⟨rfl, rfl⟩
        refine at_callS 55 X (ct_X12_isDigit hG F3 (bAt B n x)) mo_X12_isDigit w_2014 so_X12_isDigit rfl rfl (crm Rt (by decide)) (Nat.le_of_ble_eq_true rfl) dX12_number_52 rfl ?_
        rintro _ _ ⟨rfl, rfl⟩
        refine at_if_eq 58 106 X dX12_number_55 rfl (by decide) (fun h55 => ?_) (fun h55 => ?_)
        · have h55 : ¬ (48 ≤ (bAt B n x) ∧ (bAt B n x) ≤ 57) := ite_no.mp h55
          have hdg : ¬ isA B n x 48 57 := fun q => h55 ((bAt_in (by decide)).mpr q)
          have hend : nmE B n (sk B n a) 0 = (x, v') := by rw [← hR]; exact nm_n hdg
          refine at_iload 108 X rfl dX12_number_106 rfl ?_
          refine at_iload_n 109 X rfl rfl dX12_number_108 rfl ?_
          refine at_iload_n 110 X rfl rfl dX12_number_109 rfl ?_
          refine at_callS 113 X (ct_X12_in hG _ _ _) mo_X12_in w_1957 so_X12_in rfl rfl (crm Rt (by decide)) (Nat.le_of_ble_eq_true rfl) dX12_number_110 rfl ?_
          rintro _ _ ⟨rfl, rfl⟩
          refine at_if_ne 116 122 X dX12_number_113 rfl (by decide) (fun h113 => ?_) (fun h113 => ?_)
          · have h113 : (lo ≤ v ∧ v ≤ hi) := ite_yes.mp h113
            refine at_aload_n 123 X rfl rfl dX12_number_122 rfl ?_
            refine m_getIV 126 X fk hfk3 f_X12_168 k_125 rn_125_5 dX12_number_123 rfl ?_
            refine at_if_ne 129 134 X dX12_number_126 rfl (by decide) (fun h126 => ?_) (fun h126 => ?_)
            · refine at_iconst 135 X (by decide) dX12_number_134 rfl ?_
              refine at_iret X Rt ?_ (Nat.le_refl _) (Nat.le_refl _) dX12_number_135
              have hsk := (hs h0).symm
              have hst : sk B n t.1 = sk B n a := (hs h0).symm
              have hend1 : (nmE B n (sk B n a) 0).1 = x := by rw [hend]
              have hend2 : (nmE B n (sk B n a) 0).2 = v' := by rw [hend]
              have hx : x ≤ n := hA_F3.1.2
              rcases hF with ⟨q1, q2, q3⟩ | ⟨q1, q2, q3, q4⟩
              · have e0 : takeT B n t lo hi = if lo ≤ v' ∧ v' ≤ hi then (v', (x, sk B n a, t.2.2)) else (lo, flT (x, sk B n a, t.2.2) 2) := by
                  unfold takeT
                  rw [if_pos h0, hst, hend1, hend2, if_neg (by rw [← hend1]; exact q3)]
                have hfit : lo ≤ v' ∧ v' ≤ hi := by unfold nmQ at hQ; omega
                rw [if_pos hfit] at e0
                exact absurd q1 h126
              · have e0 : takeT B n t lo hi = (lo, flT (x, sk B n a, t.2.2) 1) := by
                  unfold takeT
                  rw [if_pos h0, hst, hend1, if_pos q3]
                have e1 : flT (x, sk B n a, t.2.2) 1 = (x, sk B n a, 1, ((sk B n a : Nat) : Int)) := if_pos h0
                rw [e1] at e0
                refine ⟨?_, F3, rfl, ?_, hf_F3⟩
                · unfold nuT; rw [e0]; rfl
                · unfold nuT; rw [e0]
                  exact ⟨x, hA_F3, hfk3.trans q1, q2, fun q => absurd q (by decide : ¬ (1 : Int) = 0)⟩
            · refine at_iload 131 X rfl dX12_number_129 rfl ?_
              refine at_goto 135 X dX12_number_131 (by decide) ?_
              refine at_iret X Rt ?_ (Nat.le_refl _) (Nat.le_refl _) dX12_number_135
              have hsk := (hs h0).symm
              have hst : sk B n t.1 = sk B n a := (hs h0).symm
              have hend1 : (nmE B n (sk B n a) 0).1 = x := by rw [hend]
              have hend2 : (nmE B n (sk B n a) 0).2 = v' := by rw [hend]
              have hx : x ≤ n := hA_F3.1.2
              rcases hF with ⟨q1, q2, q3⟩ | ⟨q1, q2, q3, q4⟩
              · have e0 : takeT B n t lo hi = if lo ≤ v' ∧ v' ≤ hi then (v', (x, sk B n a, t.2.2)) else (lo, flT (x, sk B n a, t.2.2) 2) := by
                  unfold takeT
                  rw [if_pos h0, hst, hend1, hend2, if_neg (by rw [← hend1]; exact q3)]
                have hfit : lo ≤ v' ∧ v' ≤ hi := by unfold nmQ at hQ; omega
                rw [if_pos hfit] at e0
                have hv : v = v' := by unfold nmQ at hQ; omega
                refine ⟨?_, F3, rfl, ?_, hf_F3⟩
                · unfold nuT nuV; rw [e0]
                  show some (mI v) = some (mI (if t.2.2.1 = 0 then ((v'.toNat : Nat) : Int) else 0))
                  rw [if_pos h0, hv]
                  have : ((v'.toNat : Nat) : Int) = v' := by unfold nmQ at hQ; omega
                  rw [this]
                · unfold nuT; rw [e0]
                  exact ⟨x, hA_F3, hfk3.trans (q1.trans h0.symm), q2.trans h6, fun _ => rfl⟩
              · have e0 : takeT B n t lo hi = (lo, flT (x, sk B n a, t.2.2) 1) := by
                  unfold takeT
                  rw [if_pos h0, hst, hend1, if_pos q3]
                exact absurd h126 (by omega)
          · have h113 : ¬ (lo ≤ v ∧ v ≤ hi) := ite_no.mp h113
            refine at_aload_n 117 X rfl rfl dX12_number_116 rfl ?_
            refine at_iconst 118 X (by decide) dX12_number_117 rfl ?_
            refine at_iload_n 119 X rfl rfl dX12_number_118 rfl ?_
            refine at_callV 122 X _ 12 (c12_wrong hG F3 B n x hA_F3 2 ((sk B n a : Nat) : Int)) clX12 rfl k_125 mo_X12_wrong w_1998 vo_X12_wrong.1 vo_X12_wrong.2 rfl rfl (crm Rt (by decide)) (Nat.le_of_ble_eq_true rfl) dX12_number_119 rfl ?_
            rintro _ _ ⟨rfl, F4, rfl, hA_F4, hf_F4, hy_F4, hn_F4⟩
            refine at_aload_n 123 X rfl rfl dX12_number_122 rfl ?_
            refine m_getIV 126 X (F4 125 5) rfl f_X12_168 k_125 rn_125_5 dX12_number_123 rfl ?_
            refine at_if_ne 129 134 X dX12_number_126 rfl (by decide) (fun h126 => ?_) (fun h126 => ?_)
            · refine at_iconst 135 X (by decide) dX12_number_134 rfl ?_
              refine at_iret X Rt ?_ (Nat.le_refl _) (Nat.le_refl _) dX12_number_135
              have hsk := (hs h0).symm
              have hst : sk B n t.1 = sk B n a := (hs h0).symm
              have hend1 : (nmE B n (sk B n a) 0).1 = x := by rw [hend]
              have hend2 : (nmE B n (sk B n a) 0).2 = v' := by rw [hend]
              have hx : x ≤ n := hA_F3.1.2
              rcases hF with ⟨q1, q2, q3⟩ | ⟨q1, q2, q3, q4⟩
              · have e0 : takeT B n t lo hi = if lo ≤ v' ∧ v' ≤ hi then (v', (x, sk B n a, t.2.2)) else (lo, flT (x, sk B n a, t.2.2) 2) := by
                  unfold takeT
                  rw [if_pos h0, hst, hend1, hend2, if_neg (by rw [← hend1]; exact q3)]
                have hfit : ¬ (lo ≤ v' ∧ v' ≤ hi) := by unfold nmQ at hQ; omega
                rw [if_neg hfit] at e0
                have e1 : flT (x, sk B n a, t.2.2) 2 = (x, sk B n a, 2, ((sk B n a : Nat) : Int)) := if_pos h0
                rw [e1] at e0
                have q5 := hy_F4 (hfk3.trans q1)
                refine ⟨?_, F4, rfl, ?_, hf_F3.tr hf_F4⟩
                · unfold nuT; rw [e0]; rfl
                · unfold nuT; rw [e0]
                  exact ⟨x, hA_F4, q5.1, q5.2, fun q => absurd q (by decide : ¬ (2 : Int) = 0)⟩
              · have e0 : takeT B n t lo hi = (lo, flT (x, sk B n a, t.2.2) 1) := by
                  unfold takeT
                  rw [if_pos h0, hst, hend1, if_pos q3]
                have e1 : flT (x, sk B n a, t.2.2) 1 = (x, sk B n a, 1, ((sk B n a : Nat) : Int)) := if_pos h0
                rw [e1] at e0
                have q5 := hn_F4 (by rw [hfk3, q1]; decide)
                refine ⟨?_, F4, rfl, ?_, hf_F3.tr hf_F4⟩
                · unfold nuT; rw [e0]; rfl
                · unfold nuT; rw [e0]
                  exact ⟨x, hA_F4, q5.1.trans (hfk3.trans q1), q5.2.trans q2, fun q => absurd q (by decide : ¬ (1 : Int) = 0)⟩
            · refine at_iload 131 X rfl dX12_number_129 rfl ?_
              refine at_goto 135 X dX12_number_131 (by decide) ?_
              refine at_iret X Rt ?_ (Nat.le_refl _) (Nat.le_refl _) dX12_number_135
              have hsk := (hs h0).symm
              have hst : sk B n t.1 = sk B n a := (hs h0).symm
              have hend1 : (nmE B n (sk B n a) 0).1 = x := by rw [hend]
              have hend2 : (nmE B n (sk B n a) 0).2 = v' := by rw [hend]
              have hx : x ≤ n := hA_F3.1.2
              rcases hF with ⟨q1, q2, q3⟩ | ⟨q1, q2, q3, q4⟩
              · have e0 : takeT B n t lo hi = if lo ≤ v' ∧ v' ≤ hi then (v', (x, sk B n a, t.2.2)) else (lo, flT (x, sk B n a, t.2.2) 2) := by
                  unfold takeT
                  rw [if_pos h0, hst, hend1, hend2, if_neg (by rw [← hend1]; exact q3)]
                have hfit : ¬ (lo ≤ v' ∧ v' ≤ hi) := by unfold nmQ at hQ; omega
                rw [if_neg hfit] at e0
                have e1 : flT (x, sk B n a, t.2.2) 2 = (x, sk B n a, 2, ((sk B n a : Nat) : Int)) := if_pos h0
                rw [e1] at e0
                have q5 := hy_F4 (hfk3.trans q1)
                exact absurd (q5.1.symm.trans h126) (by decide)
              · have e0 : takeT B n t lo hi = (lo, flT (x, sk B n a, t.2.2) 1) := by
                  unfold takeT
                  rw [if_pos h0, hst, hend1, if_pos q3]
                have e1 : flT (x, sk B n a, t.2.2) 1 = (x, sk B n a, 1, ((sk B n a : Nat) : Int)) := if_pos h0
                rw [e1] at e0
                have q5 := hn_F4 (by rw [hfk3, q1]; decide)
                exact absurd ((q5.1.trans (hfk3.trans q1)).symm.trans h126) (by decide)
        · have h55 : (48 ≤ (bAt B n x) ∧ (bAt B n x) ≤ 57) := ite_yes.mp h55
          have hdg : isA B n x 48 57 := (bAt_in (by decide)).mp h55
          have hdx := hdg.1
          have hbx : bAt B n x = B x := if_neg (by omega)
          have hQ2 := nmQ_step hQ h55
          refine at_bipush 60 X (by decide) (by decide) dX12_number_58 rfl ?_
          refine at_iload 62 X rfl dX12_number_60 rfl ?_
          refine at_imulV 63 X (10 * v) (w32_v rfl (by unfold nmQ at hQ; omega) (by unfold nmQ at hQ; omega)) dX12_number_62 rfl ?_
          refine at_aload_n 64 X rfl rfl dX12_number_63 rfl ?_
          refine at_aload_n 65 X rfl rfl dX12_number_64 rfl ?_
          refine m_getIV 68 X ((x : Nat) : Int) hA_F3.2.2.2.2 f_X12_161 k_125 rn_125_4 dX12_number_65 rfl ?_
          have := hA_F3.1.2
          refine at_callV 71 X _ 12 (c12_byteAt hG F3 B n x hA_F3 x) clX12 rfl k_125 mo_X12_byteAt w_1972 vo_X12_byteAt.1 vo_X12_byteAt.2 rfl rfl (crm Rt (by decide)) (Nat.le_of_ble_eq_true rfl) dX12_number_68 rfl ?_
          rintro _ _ ⟨rfl, rfl⟩
          refine at_iaddV 72 X (10 * v + bAt B n x) (w32_v rfl (by unfold nmQ at hQ; omega) (by unfold nmQ at hQ; omega)) dX12_number_71 rfl ?_
          refine at_bipush 74 X (by decide) (by decide) dX12_number_72 rfl ?_
          refine at_isubV 75 X (10 * v + bAt B n x - 48) (w32_v rfl (by unfold nmQ at hQ; omega) (by unfold nmQ at hQ; omega)) dX12_number_74 rfl ?_
          refine at_istore 77 X dX12_number_75 rfl (by decide) ?_
          refine at_iload 79 X rfl dX12_number_77 rfl ?_
          refine at_ldc 81 X (n := 100000) w_2017 (by decide) (by decide) dX12_number_79 rfl ?_
          refine at_icmp_le 84 89 X dX12_number_81 rfl (by decide) (fun h81 => ?_) (fun h81 => ?_)
          · rw [if_pos h81] at hQ2
            refine at_iload 91 X rfl dX12_number_89 rfl ?_
            refine at_istore 93 X dX12_number_91 rfl (by decide) ?_
            refine at_aload_n 94 X rfl rfl dX12_number_93 rfl ?_
            refine at_dup 95 X (show ¬ (2 : Nat) = 1 by decide) dX12_number_94 rfl ?_
            refine m_getIV 98 X ((x : Nat) : Int) hA_F3.2.2.2.2 f_X12_161 k_125 rn_125_4 dX12_number_95 rfl ?_
            have := hA_F3.1.2
            refine at_iconst 99 X (by decide) dX12_number_98 rfl ?_
            refine at_iaddV 100 X ((x + 1 : Nat) : Int) (w32_v (by omega) (by omega) (by omega)) dX12_number_99 rfl ?_
            refine m_putI 103 X f_X12_161 fw_12_4 k_125 rn_125_4 dX12_number_100 rfl ?_
            refine at_goto 44 X dX12_number_103 (by decide) ?_
            exact at_sub _ (by exact ⟨rfl, rfl, rfl, rfl, rfl, trivial⟩) (ih44 (wr F3 125 4 ((x + 1 : Nat) : Int)) (x + 1) (10 * v + bAt B n x - 48) (if v' * 10 + bAt B n x - 48 ≤ 1000000 then v' * 10 + bAt B n x - 48 else 1000000) fk (by first | omega | (simp only [] at *; omega)) (hA_F3.w4 (by omega)).1 (hf_F3.tr (hA_F3.w4 (by omega)).2) hQ2 (by rw [← hR]; conv => rhs; rw [nm_y hdg, ← hbx]) ((wr_o (by omega)).trans hfk3) (by rcases hF with ⟨q1, q2, q3⟩ | ⟨q1, q2, q3, q4⟩; exact Or.inl ⟨q1, (wr_o (by omega)).trans q2, q3⟩; exact absurd (by rw [← q3]; exact hdg) q4))
          · rw [if_neg (by omega)] at hQ2
            refine at_ldc 86 X (n := 100000) w_2017 (by decide) (by decide) dX12_number_84 rfl ?_
            refine at_goto 91 X dX12_number_86 (by decide) ?_
            refine at_istore 93 X dX12_number_91 rfl (by decide) ?_
            refine at_aload_n 94 X rfl rfl dX12_number_93 rfl ?_
            refine at_dup 95 X (show ¬ (2 : Nat) = 1 by decide) dX12_number_94 rfl ?_
            refine m_getIV 98 X ((x : Nat) : Int) hA_F3.2.2.2.2 f_X12_161 k_125 rn_125_4 dX12_number_95 rfl ?_
            have := hA_F3.1.2
            refine at_iconst 99 X (by decide) dX12_number_98 rfl ?_
            refine at_iaddV 100 X ((x + 1 : Nat) : Int) (w32_v (by omega) (by omega) (by omega)) dX12_number_99 rfl ?_
            refine m_putI 103 X f_X12_161 fw_12_4 k_125 rn_125_4 dX12_number_100 rfl ?_
            refine at_goto 44 X dX12_number_103 (by decide) ?_
            exact at_sub _ (by exact ⟨rfl, rfl, rfl, rfl, rfl, trivial⟩) (ih44 (wr F3 125 4 ((x + 1 : Nat) : Int)) (x + 1) 100000 (if v' * 10 + bAt B n x - 48 ≤ 1000000 then v' * 10 + bAt B n x - 48 else 1000000) fk (by first | omega | (simp only [] at *; omega)) (hA_F3.w4 (by omega)).1 (hf_F3.tr (hA_F3.w4 (by omega)).2) hQ2 (by rw [← hR]; conv => rhs; rw [nm_y hdg, ← hbx]) ((wr_o (by omega)).trans hfk3) (by rcases hF with ⟨q1, q2, q3⟩ | ⟨q1, q2, q3, q4⟩; exact Or.inl ⟨q1, (wr_o (by omega)).trans q2, q3⟩; exact absurd (by rw [← q3]; exact hdg) q4))
      exact at_sub _ (by exact ⟨rfl, rfl, rfl, rfl, rfl, trivial⟩) (J44 _ F1 (sk B n a) 0 0 0 (Nat.lt_succ_self _) hA_F1 hf_F1 ⟨by decide, by decide, by decide, Or.inl ⟨rfl, by decide⟩⟩ rfl ((h5_F1.trans h5).trans h0) (Or.inl ⟨rfl, h6_F1, hmv⟩))
    · have h32 : ¬ (48 ≤ (bAt B n (sk B n a)) ∧ (bAt B n (sk B n a)) ≤ 57) := ite_no.mp h32
      have hd0 : ¬ isA B n (sk B n a) 48 57 := fun q => h32 ((bAt_in (by decide)).mpr q)
      refine at_aload_n 36 X rfl rfl dX12_number_35 rfl ?_
      refine at_iconst 37 X (by decide) dX12_number_36 rfl ?_
      refine at_aload_n 38 X rfl rfl dX12_number_37 rfl ?_
      refine m_getIV 41 X ((sk B n a : Nat) : Int) hA_F1.2.2.2.2 f_X12_161 k_125 rn_125_4 dX12_number_38 rfl ?_
      have := hA_F1.1.2
      refine at_callV 44 X _ 12 (c12_wrong hG F1 B n (sk B n a) hA_F1 1 ((sk B n a : Nat) : Int)) clX12 rfl k_125 mo_X12_wrong w_1998 vo_X12_wrong.1 vo_X12_wrong.2 rfl rfl (crm Rt (by decide)) (Nat.le_of_ble_eq_true rfl) dX12_number_41 rfl ?_
      rintro _ _ ⟨rfl, F2, rfl, hA_F2, hf_F2, hy_F2, hn_F2⟩
      have J44 : ∀ (f44 : Nat) (F3 : Mm) (x : Nat) (v : Int) (v' : Int) (fk : Int), n - x < f44 → (RTa F3 B n x) → (RTf E F3) → (nmQ v v') → (nmE B n x v' = nmE B n (sk B n a) 0) → (F3 125 5 = fk) → ((fk = 0 ∧ F3 125 6 = E 125 6 ∧ (nmE B n (sk B n a) 0).1 ≠ sk B n a) ∨ (fk = 1 ∧ F3 125 6 = ((sk B n a : Nat) : Int) ∧ x = sk B n a ∧ ¬ isA B n (sk B n a) 48 57)) → AT g κ K2 z 0 0 44 [(0, mR 125), (1, mI lo), (2, mI hi), (3, mI ((sk B n a : Nat) : Int)), (4, mI v)] [] (ov F3) := by
        intro f44
        induction f44 with
        | zero => intro F3 x v v' fk hf44; omega
        | succ f44 ih44 =>
        intro F3 x v v' fk hf44 hA_F3 hf_F3 hQ hR hfk3 hF
        have hxn := hA_F3.1
        refine at_aload_n 45 X rfl rfl dX12_number_44 rfl ?_
        refine at_aload_n 46 X rfl rfl dX12_number_45 rfl ?_
        refine m_getIV 49 X ((x : Nat) : Int) hA_F3.2.2.2.2 f_X12_161 k_125 rn_125_4 dX12_number_46 rfl ?_
        have := hA_F3.1.2
        refine at_callV 52 X _ 12 (c12_byteAt hG F3 B n x hA_F3 x) clX12 rfl k_125 mo_X12_byteAt w_1972 vo_X12_byteAt.1 vo_X12_byteAt.2 rfl rfl (crm Rt (by decide)) (Nat.le_of_ble_eq_true rfl) dX12_number_49 rfl ?_
        rintro _ _ ⟨rfl, rfl⟩
        refine at_callS 55 X (ct_X12_isDigit hG F3 (bAt B n x)) mo_X12_isDigit w_2014 so_X12_isDigit rfl rfl (crm Rt (by decide)) (Nat.le_of_ble_eq_true rfl) dX12_number_52 rfl ?_
        rintro _ _ ⟨rfl, rfl⟩
        refine at_if_eq 58 106 X dX12_number_55 rfl (by decide) (fun h55 => ?_) (fun h55 => ?_)
        · have h55 : ¬ (48 ≤ (bAt B n x) ∧ (bAt B n x) ≤ 57) := ite_no.mp h55
          have hdg : ¬ isA B n x 48 57 := fun q => h55 ((bAt_in (by decide)).mpr q)
          have hend : nmE B n (sk B n a) 0 = (x, v') := by rw [← hR]; exact nm_n hdg
          refine at_iload 108 X rfl dX12_number_106 rfl ?_
          refine at_iload_n 109 X rfl rfl dX12_number_108 rfl ?_
          refine at_iload_n 110 X rfl rfl dX12_number_109 rfl ?_
          refine at_callS 113 X (ct_X12_in hG _ _ _) mo_X12_in w_1957 so_X12_in rfl rfl (crm Rt (by decide)) (Nat.le_of_ble_eq_true rfl) dX12_number_110 rfl ?_
          rintro _ _ ⟨rfl, rfl⟩
          refine at_if_ne 116 122 X dX12_number_113 rfl (by decide) (fun h113 => ?_) (fun h113 => ?_)
          · have h113 : (lo ≤ v ∧ v ≤ hi) := ite_yes.mp h113
            refine at_aload_n 123 X rfl rfl dX12_number_122 rfl ?_
            refine m_getIV 126 X fk hfk3 f_X12_168 k_125 rn_125_5 dX12_number_123 rfl ?_
            refine at_if_ne 129 134 X dX12_number_126 rfl (by decide) (fun h126 => ?_) (fun h126 => ?_)
            · refine at_iconst 135 X (by decide) dX12_number_134 rfl ?_
              refine at_iret X Rt ?_ (Nat.le_refl _) (Nat.le_refl _) dX12_number_135
              have hsk := (hs h0).symm
              have hst : sk B n t.1 = sk B n a := (hs h0).symm
              have hend1 : (nmE B n (sk B n a) 0).1 = x := by rw [hend]
              have hend2 : (nmE B n (sk B n a) 0).2 = v' := by rw [hend]
              have hx : x ≤ n := hA_F3.1.2
              rcases hF with ⟨q1, q2, q3⟩ | ⟨q1, q2, q3, q4⟩
              · have e0 : takeT B n t lo hi = if lo ≤ v' ∧ v' ≤ hi then (v', (x, sk B n a, t.2.2)) else (lo, flT (x, sk B n a, t.2.2) 2) := by
                  unfold takeT
                  rw [if_pos h0, hst, hend1, hend2, if_neg (by rw [← hend1]; exact q3)]
                have hfit : lo ≤ v' ∧ v' ≤ hi := by unfold nmQ at hQ; omega
                rw [if_pos hfit] at e0
                exact absurd q1 h126
              · have e0 : takeT B n t lo hi = (lo, flT (x, sk B n a, t.2.2) 1) := by
                  unfold takeT
                  rw [if_pos h0, hst, hend1, if_pos q3]
                have e1 : flT (x, sk B n a, t.2.2) 1 = (x, sk B n a, 1, ((sk B n a : Nat) : Int)) := if_pos h0
                rw [e1] at e0
                refine ⟨?_, F3, rfl, ?_, hf_F3⟩
                · unfold nuT; rw [e0]; rfl
                · unfold nuT; rw [e0]
                  exact ⟨x, hA_F3, hfk3.trans q1, q2, fun q => absurd q (by decide : ¬ (1 : Int) = 0)⟩
            · refine at_iload 131 X rfl dX12_number_129 rfl ?_
              refine at_goto 135 X dX12_number_131 (by decide) ?_
              refine at_iret X Rt ?_ (Nat.le_refl _) (Nat.le_refl _) dX12_number_135
              have hsk := (hs h0).symm
              have hst : sk B n t.1 = sk B n a := (hs h0).symm
              have hend1 : (nmE B n (sk B n a) 0).1 = x := by rw [hend]
              have hend2 : (nmE B n (sk B n a) 0).2 = v' := by rw [hend]
              have hx : x ≤ n := hA_F3.1.2
              rcases hF with ⟨q1, q2, q3⟩ | ⟨q1, q2, q3, q4⟩
              · have e0 : takeT B n t lo hi = if lo ≤ v' ∧ v' ≤ hi then (v', (x, sk B n a, t.2.2)) else (lo, flT (x, sk B n a, t.2.2) 2) := by
                  unfold takeT
                  rw [if_pos h0, hst, hend1, hend2, if_neg (by rw [← hend1]; exact q3)]
                have hfit : lo ≤ v' ∧ v' ≤ hi := by unfold nmQ at hQ; omega
                rw [if_pos hfit] at e0
                have hv : v = v' := by unfold nmQ at hQ; omega
                refine ⟨?_, F3, rfl, ?_, hf_F3⟩
                · unfold nuT nuV; rw [e0]
                  show some (mI v) = some (mI (if t.2.2.1 = 0 then ((v'.toNat : Nat) : Int) else 0))
                  rw [if_pos h0, hv]
                  have : ((v'.toNat : Nat) : Int) = v' := by unfold nmQ at hQ; omega
                  rw [this]
                · unfold nuT; rw [e0]
                  exact ⟨x, hA_F3, hfk3.trans (q1.trans h0.symm), q2.trans h6, fun _ => rfl⟩
              · have e0 : takeT B n t lo hi = (lo, flT (x, sk B n a, t.2.2) 1) := by
                  unfold takeT
                  rw [if_pos h0, hst, hend1, if_pos q3]
                exact absurd h126 (by omega)
          · have h113 : ¬ (lo ≤ v ∧ v ≤ hi) := ite_no.mp h113
            refine at_aload_n 117 X rfl rfl dX12_number_116 rfl ?_
            refine at_iconst 118 X (by decide) dX12_number_117 rfl ?_
            refine at_iload_n 119 X rfl rfl dX12_number_118 rfl ?_
            refine at_callV 122 X _ 12 (c12_wrong hG F3 B n x hA_F3 2 ((sk B n a : Nat) : Int)) clX12 rfl k_125 mo_X12_wrong w_1998 vo_X12_wrong.1 vo_X12_wrong.2 rfl rfl (crm Rt (by decide)) (Nat.le_of_ble_eq_true rfl) dX12_number_119 rfl ?_
            rintro _ _ ⟨rfl, F4, rfl, hA_F4, hf_F4, hy_F4, hn_F4⟩
            refine at_aload_n 123 X rfl rfl dX12_number_122 rfl ?_
            refine m_getIV 126 X (F4 125 5) rfl f_X12_168 k_125 rn_125_5 dX12_number_123 rfl ?_
            refine at_if_ne 129 134 X dX12_number_126 rfl (by decide) (fun h126 => ?_) (fun h126 => ?_)
            · refine at_iconst 135 X (by decide) dX12_number_134 rfl ?_
              refine at_iret X Rt ?_ (Nat.le_refl _) (Nat.le_refl _) dX12_number_135
              have hsk := (hs h0).symm
              have hst : sk B n t.1 = sk B n a := (hs h0).symm
              have hend1 : (nmE B n (sk B n a) 0).1 = x := by rw [hend]
              have hend2 : (nmE B n (sk B n a) 0).2 = v' := by rw [hend]
              have hx : x ≤ n := hA_F3.1.2
              rcases hF with ⟨q1, q2, q3⟩ | ⟨q1, q2, q3, q4⟩
              · have e0 : takeT B n t lo hi = if lo ≤ v' ∧ v' ≤ hi then (v', (x, sk B n a, t.2.2)) else (lo, flT (x, sk B n a, t.2.2) 2) := by
                  unfold takeT
                  rw [if_pos h0, hst, hend1, hend2, if_neg (by rw [← hend1]; exact q3)]
                have hfit : ¬ (lo ≤ v' ∧ v' ≤ hi) := by unfold nmQ at hQ; omega
                rw [if_neg hfit] at e0
                have e1 : flT (x, sk B n a, t.2.2) 2 = (x, sk B n a, 2, ((sk B n a : Nat) : Int)) := if_pos h0
                rw [e1] at e0
                have q5 := hy_F4 (hfk3.trans q1)
                refine ⟨?_, F4, rfl, ?_, hf_F3.tr hf_F4⟩
                · unfold nuT; rw [e0]; rfl
                · unfold nuT; rw [e0]
                  exact ⟨x, hA_F4, q5.1, q5.2, fun q => absurd q (by decide : ¬ (2 : Int) = 0)⟩
              · have e0 : takeT B n t lo hi = (lo, flT (x, sk B n a, t.2.2) 1) := by
                  unfold takeT
                  rw [if_pos h0, hst, hend1, if_pos q3]
                have e1 : flT (x, sk B n a, t.2.2) 1 = (x, sk B n a, 1, ((sk B n a : Nat) : Int)) := if_pos h0
                rw [e1] at e0
                have q5 := hn_F4 (by rw [hfk3, q1]; decide)
                refine ⟨?_, F4, rfl, ?_, hf_F3.tr hf_F4⟩
                · unfold nuT; rw [e0]; rfl
                · unfold nuT; rw [e0]
                  exact ⟨x, hA_F4, q5.1.trans (hfk3.trans q1), q5.2.trans q2, fun q => absurd q (by decide : ¬ (1 : Int) = 0)⟩
            · refine at_iload 131 X rfl dX12_number_129 rfl ?_
              refine at_goto 135 X dX12_number_131 (by decide) ?_
              refine at_iret X Rt ?_ (Nat.le_refl _) (Nat.le_refl _) dX12_number_135
              have hsk := (hs h0).symm
              have hst : sk B n t.1 = sk B n a := (hs h0).symm
              have hend1 : (nmE B n (sk B n a) 0).1 = x := by rw [hend]
              have hend2 : (nmE B n (sk B n a) 0).2 = v' := by rw [hend]
              have hx : x ≤ n := hA_F3.1.2
              rcases hF with ⟨q1, q2, q3⟩ | ⟨q1, q2, q3, q4⟩
              · have e0 : takeT B n t lo hi = if lo ≤ v' ∧ v' ≤ hi then (v', (x, sk B n a, t.2.2)) else (lo, flT (x, sk B n a, t.2.2) 2) := by
                  unfold takeT
                  rw [if_pos h0, hst, hend1, hend2, if_neg (by rw [← hend1]; exact q3)]
                have hfit : ¬ (lo ≤ v' ∧ v' ≤ hi) := by unfold nmQ at hQ; omega
                rw [if_neg hfit] at e0
                have e1 : flT (x, sk B n a, t.2.2) 2 = (x, sk B n a, 2, ((sk B n a : Nat) : Int)) := if_pos h0
                rw [e1] at e0
                have q5 := hy_F4 (hfk3.trans q1)
                exact absurd (q5.1.symm.trans h126) (by decide)
              · have e0 : takeT B n t lo hi = (lo, flT (x, sk B n a, t.2.2) 1) := by
                  unfold takeT
                  rw [if_pos h0, hst, hend1, if_pos q3]
                have e1 : flT (x, sk B n a, t.2.2) 1 = (x, sk B n a, 1, ((sk B n a : Nat) : Int)) := if_pos h0
                rw [e1] at e0
                have q5 := hn_F4 (by rw [hfk3, q1]; decide)
                exact absurd ((q5.1.trans (hfk3.trans q1)).symm.trans h126) (by decide)
        · have h55 : (48 ≤ (bAt B n x) ∧ (bAt B n x) ≤ 57) := ite_yes.mp h55
          have hdg : isA B n x 48 57 := (bAt_in (by decide)).mp h55
          have hdx := hdg.1
          have hbx : bAt B n x = B x := if_neg (by omega)
          have hQ2 := nmQ_step hQ h55
          refine at_bipush 60 X (by decide) (by decide) dX12_number_58 rfl ?_
          refine at_iload 62 X rfl dX12_number_60 rfl ?_
          refine at_imulV 63 X (10 * v) (w32_v rfl (by unfold nmQ at hQ; omega) (by unfold nmQ at hQ; omega)) dX12_number_62 rfl ?_
          refine at_aload_n 64 X rfl rfl dX12_number_63 rfl ?_
          refine at_aload_n 65 X rfl rfl dX12_number_64 rfl ?_
          refine m_getIV 68 X ((x : Nat) : Int) hA_F3.2.2.2.2 f_X12_161 k_125 rn_125_4 dX12_number_65 rfl ?_
          have := hA_F3.1.2
          refine at_callV 71 X _ 12 (c12_byteAt hG F3 B n x hA_F3 x) clX12 rfl k_125 mo_X12_byteAt w_1972 vo_X12_byteAt.1 vo_X12_byteAt.2 rfl rfl (crm Rt (by decide)) (Nat.le_of_ble_eq_true rfl) dX12_number_68 rfl ?_
          rintro _ _ ⟨rfl, rfl⟩
          refine at_iaddV 72 X (10 * v + bAt B n x) (w32_v rfl (by unfold nmQ at hQ; omega) (by unfold nmQ at hQ; omega)) dX12_number_71 rfl ?_
          refine at_bipush 74 X (by decide) (by decide) dX12_number_72 rfl ?_
          refine at_isubV 75 X (10 * v + bAt B n x - 48) (w32_v rfl (by unfold nmQ at hQ; omega) (by unfold nmQ at hQ; omega)) dX12_number_74 rfl ?_
          refine at_istore 77 X dX12_number_75 rfl (by decide) ?_
          refine at_iload 79 X rfl dX12_number_77 rfl ?_
          refine at_ldc 81 X (n := 100000) w_2017 (by decide) (by decide) dX12_number_79 rfl ?_
          refine at_icmp_le 84 89 X dX12_number_81 rfl (by decide) (fun h81 => ?_) (fun h81 => ?_)
          · rw [if_pos h81] at hQ2
            refine at_iload 91 X rfl dX12_number_89 rfl ?_
            refine at_istore 93 X dX12_number_91 rfl (by decide) ?_
            refine at_aload_n 94 X rfl rfl dX12_number_93 rfl ?_
            refine at_dup 95 X (show ¬ (2 : Nat) = 1 by decide) dX12_number_94 rfl ?_
            refine m_getIV 98 X ((x : Nat) : Int) hA_F3.2.2.2.2 f_X12_161 k_125 rn_125_4 dX12_number_95 rfl ?_
            have := hA_F3.1.2
            refine at_iconst 99 X (by decide) dX12_number_98 rfl ?_
            refine at_iaddV 100 X ((x + 1 : Nat) : Int) (w32_v (by omega) (by omega) (by omega)) dX12_number_99 rfl ?_
            refine m_putI 103 X f_X12_161 fw_12_4 k_125 rn_125_4 dX12_number_100 rfl ?_
            refine at_goto 44 X dX12_number_103 (by decide) ?_
            exact at_sub _ (by exact ⟨rfl, rfl, rfl, rfl, rfl, trivial⟩) (ih44 (wr F3 125 4 ((x + 1 : Nat) : Int)) (x + 1) (10 * v + bAt B n x - 48) (if v' * 10 + bAt B n x - 48 ≤ 1000000 then v' * 10 + bAt B n x - 48 else 1000000) fk (by first | omega | (simp only [] at *; omega)) (hA_F3.w4 (by omega)).1 (hf_F3.tr (hA_F3.w4 (by omega)).2) hQ2 (by rw [← hR]; conv => rhs; rw [nm_y hdg, ← hbx]) ((wr_o (by omega)).trans hfk3) (by rcases hF with ⟨q1, q2, q3⟩ | ⟨q1, q2, q3, q4⟩; exact Or.inl ⟨q1, (wr_o (by omega)).trans q2, q3⟩; exact absurd (by rw [← q3]; exact hdg) q4))
          · rw [if_neg (by omega)] at hQ2
            refine at_ldc 86 X (n := 100000) w_2017 (by decide) (by decide) dX12_number_84 rfl ?_
            refine at_goto 91 X dX12_number_86 (by decide) ?_
            refine at_istore 93 X dX12_number_91 rfl (by decide) ?_
            refine at_aload_n 94 X rfl rfl dX12_number_93 rfl ?_
            refine at_dup 95 X (show ¬ (2 : Nat) = 1 by decide) dX12_number_94 rfl ?_
            refine m_getIV 98 X ((x : Nat) : Int) hA_F3.2.2.2.2 f_X12_161 k_125 rn_125_4 dX12_number_95 rfl ?_
            have := hA_F3.1.2
            refine at_iconst 99 X (by decide) dX12_number_98 rfl ?_
            refine at_iaddV 100 X ((x + 1 : Nat) : Int) (w32_v (by omega) (by omega) (by omega)) dX12_number_99 rfl ?_
            refine m_putI 103 X f_X12_161 fw_12_4 k_125 rn_125_4 dX12_number_100 rfl ?_
            refine at_goto 44 X dX12_number_103 (by decide) ?_
            exact at_sub _ (by exact ⟨rfl, rfl, rfl, rfl, rfl, trivial⟩) (ih44 (wr F3 125 4 ((x + 1 : Nat) : Int)) (x + 1) 100000 (if v' * 10 + bAt B n x - 48 ≤ 1000000 then v' * 10 + bAt B n x - 48 else 1000000) fk (by first | omega | (simp only [] at *; omega)) (hA_F3.w4 (by omega)).1 (hf_F3.tr (hA_F3.w4 (by omega)).2) hQ2 (by rw [← hR]; conv => rhs; rw [nm_y hdg, ← hbx]) ((wr_o (by omega)).trans hfk3) (by rcases hF with ⟨q1, q2, q3⟩ | ⟨q1, q2, q3, q4⟩; exact Or.inl ⟨q1, (wr_o (by omega)).trans q2, q3⟩; exact absurd (by rw [← q3]; exact hdg) q4))
      exact at_sub _ (by exact ⟨rfl, rfl, rfl, rfl, rfl, trivial⟩) (J44 _ F2 (sk B n a) 0 0 1 (Nat.lt_succ_self _) hA_F2 (hf_F1.tr hf_F2) ⟨by decide, by decide, by decide, Or.inl ⟨rfl, by decide⟩⟩ rfl (hy_F2 ((h5_F1.trans h5).trans h0)).1 (Or.inr ⟨rfl, (hy_F2 ((h5_F1.trans h5).trans h0)).2, rfl, hd0⟩))
  · have h0 : ¬ t.2.2.1 = 0 := h4
    refine at_iconst 8 X (by decide) dX12_number_7 rfl ?_
    refine at_iret X Rt ?_ (Nat.le_refl _) (Nat.le_refl _) dX12_number_8
    have e1 : nuT B n t lo hi = t := nu_bad h0
    refine ⟨by rw [e1, if_neg h0], E, rfl, ?_, RTf.rf⟩
    rw [e1]
    exact ⟨a, hA_E, h5, h6, fun q => absurd q h0⟩
