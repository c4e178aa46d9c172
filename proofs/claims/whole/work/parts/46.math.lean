theorem pl_String : plainName "java/lang/String" = true := by decide +kernel
theorem pl_Latin : plainName "java/lang/StringLatin1" = true := by decide +kernel
theorem pl_U16 : plainName "java/lang/StringUTF16" = true := by decide +kernel
theorem pl_Pre : plainName "jdk/internal/util/Preconditions" = true := by decide +kernel
theorem pl_Int : plainName "java/lang/Integer" = true := by decide +kernel
theorem pl_Long : plainName "java/lang/Long" = true := by decide +kernel
section MATH2
variable {g : Gw} {κ : Kp} {cc : ByteArray} {own : String} {nL : Nat} {K : Shp} {z : Bool} {cells slots pc : Nat} {l : List (Nat × MV)} {st : List MV} {D : Mm}
/-- Math.max of ints -/
theorem at_max (pc' : Nat) (X : CX g κ cc own nL) {x y : Int} {ix : Nat} (hl : Cond.methodLink own ix yJ9_max_7cf53 ∈ ALLW) (hr : 1 ≤ (kR κ).frames ∧ mwid st + 13 ≤ (kR κ).locals ∧ cells ≤ (kR κ).cells ∧ slots ≤ (kR κ).slots) (d : decode cc pc = .ok (.invokestatic ix, 3)) (e0 : pc + 3 = pc') (kk : AT g κ K z cells slots pc' l (mI (if x < y then y else x) :: st) D) : AT g κ K z cells slots pc l (mI y :: mI x :: st) D := by
  obtain ⟨p, e, R, s, m, args, below, meth, c, Q⟩ := κ
  obtain ⟨hx, hb, hnl, hown, hts, hlk, hal, hG, hold, hsz, hnw⟩ := X
  subst e0
  intro H ls locs hl' o1 o2 hD hS
  have oy : -2147483648 ≤ y ∧ y < 2147483648 := ok_hd o2
  have ox : -2147483648 ≤ x ∧ x < 2147483648 := ok_hd (ok_tl o2)
  have h := kk H ls locs hl' o1 (ok_cons (v := mI (if x < y then y else x)) (by split; exact oy; exact ox) (ok_tl (ok_tl o2))) hD hS
  refine va_mmax hx hb hl'.1.symm hown (hts _ hl) (hts _ so_J9_max_7cf53) (hts _ mo_J9_max_7cf53.2.1) (hts _ mo_J9_max_7cf53.1) hr.1 (by rw [mwid_sum]; exact hr.2.1) hr.2.2.1 hr.2.2.2 (x := Int32.ofInt x) (y := Int32.ofInt y) d ?_
  have e2 : (if Int32.ofInt x < Int32.ofInt y then Int32.ofInt y else Int32.ofInt x) = Int32.ofInt (if x < y then y else x) := by
    by_cases c : x < y
    · rw [if_pos c, if_pos ((ei_lt ox oy).mpr c)]
    · rw [if_neg c, if_neg (fun q => c ((ei_lt ox oy).mp q))]
  rw [e2]
  exact h
/-- Math.abs of ints -/
theorem at_abs (pc' : Nat) (X : CX g κ cc own nL) {x : Int} {ix : Nat} (hx0 : -2147483648 < x) (hl : Cond.methodLink own ix yJ9_abs_0f7a4 ∈ ALLW) (hr : 1 ≤ (kR κ).frames ∧ mwid st + 13 ≤ (kR κ).locals ∧ cells ≤ (kR κ).cells ∧ slots ≤ (kR κ).slots) (d : decode cc pc = .ok (.invokestatic ix, 3)) (e0 : pc + 3 = pc') (kk : AT g κ K z cells slots pc' l (mI (if 0 ≤ x then x else -x) :: st) D) : AT g κ K z cells slots pc l (mI x :: st) D := by
  obtain ⟨p, e, R, s, m, args, below, meth, c, Q⟩ := κ
  obtain ⟨hx, hb, hnl, hown, hts, hlk, hal, hG, hold, hsz, hnw⟩ := X
  subst e0
  intro H ls locs hl' o1 o2 hD hS
  have ox : -2147483648 ≤ x ∧ x < 2147483648 := ok_hd o2
  have h := kk H ls locs hl' o1 (ok_cons (v := mI (if 0 ≤ x then x else -x)) (show -2147483648 ≤ (if 0 ≤ x then x else -x) ∧ (if 0 ≤ x then x else -x) < 2147483648 by split <;> omega) (ok_tl o2)) hD hS
  refine va_mabs hx hb hl'.1.symm hown (hts _ hl) (hts _ so_J9_abs_0f7a4) (hts _ mo_J9_abs_0f7a4.2.1) (hts _ mo_J9_abs_0f7a4.1) hr.1 (by rw [mwid_sum]; exact hr.2.1) hr.2.2.1 hr.2.2.2 (x := Int32.ofInt x) d ?_
  have t0 : (Int32.ofInt x).toInt = x := ti' ox.1 ox.2
  have e2 : (if 0 ≤ Int32.ofInt x then Int32.ofInt x else 0 - Int32.ofInt x) = Int32.ofInt (if 0 ≤ x then x else -x) := by
    have hle : (0 ≤ Int32.ofInt x) ↔ 0 ≤ x := by
      rw [Int32.le_iff_toInt_le, t0]
      rfl
    by_cases c : 0 ≤ x
    · rw [if_pos c, if_pos (hle.mpr c)]
    · rw [if_neg c, if_neg (fun q => c (hle.mp q))]
      rw [Int32.zero_sub, ← Int32.ofInt_neg]
  rw [e2]
  exact h
theorem i64_lt {x y : Int} (h1 : -9223372036854775808 ≤ x ∧ x < 9223372036854775808) (h2 : -9223372036854775808 ≤ y ∧ y < 9223372036854775808) : Int64.ofInt x < Int64.ofInt y ↔ x < y := by
  rw [Int64.lt_iff_toInt_lt, tl' h1.1 h1.2, tl' h2.1 h2.2]
/-- Math.max of longs -/
theorem at_maxJ (pc' : Nat) (X : CX g κ cc own nL) {x y : Int} {ix : Nat} (hl : Cond.methodLink own ix yJ9_max_f86c9 ∈ ALLW) (hr : 1 ≤ (kR κ).frames ∧ mwid st + 15 ≤ (kR κ).locals ∧ cells ≤ (kR κ).cells ∧ slots ≤ (kR κ).slots) (d : decode cc pc = .ok (.invokestatic ix, 3)) (e0 : pc + 3 = pc') (kk : AT g κ K z cells slots pc' l (mL (if y < x then x else y) :: st) D) : AT g κ K z cells slots pc l (mL y :: mL x :: st) D := by
  obtain ⟨p, e, R, s, m, args, below, meth, c, Q⟩ := κ
  obtain ⟨hx, hb, hnl, hown, hts, hlk, hal, hG, hold, hsz, hnw⟩ := X
  subst e0
  intro H ls locs hl' o1 o2 hD hS
  have oy : -9223372036854775808 ≤ y ∧ y < 9223372036854775808 := ok_hd o2
  have ox : -9223372036854775808 ≤ x ∧ x < 9223372036854775808 := ok_hd (ok_tl o2)
  have h := kk H ls locs hl' o1 (ok_cons (v := mL (if y < x then x else y)) (by split; exact ox; exact oy) (ok_tl (ok_tl o2))) hD hS
  refine va_mmax_long hx hb hl'.1.symm hown (hts _ hl) (hts _ so_J9_max_f86c9) (hts _ mo_J9_max_f86c9.2.1) (hts _ mo_J9_max_f86c9.1) hr.1 (by rw [mwid_sum]; exact hr.2.1) hr.2.2.1 hr.2.2.2 (x := Int64.ofInt x) (y := Int64.ofInt y) d ?_
  have e2 : (if Int64.ofInt y < Int64.ofInt x then Int64.ofInt x else Int64.ofInt y) = Int64.ofInt (if y < x then x else y) := by
    by_cases c : y < x
    · rw [if_pos c, if_pos ((i64_lt oy ox).mpr c)]
    · rw [if_neg c, if_neg (fun q => c ((i64_lt oy ox).mp q))]
  rw [e2]
  exact h
/-- Math.abs of longs -/
theorem at_absJ (pc' : Nat) (X : CX g κ cc own nL) {x : Int} {ix : Nat} (hx0 : -9223372036854775808 < x) (hl : Cond.methodLink own ix yJ9_abs_067f4 ∈ ALLW) (hr : 1 ≤ (kR κ).frames ∧ mwid st + 13 ≤ (kR κ).locals ∧ cells ≤ (kR κ).cells ∧ slots ≤ (kR κ).slots) (d : decode cc pc = .ok (.invokestatic ix, 3)) (e0 : pc + 3 = pc') (kk : AT g κ K z cells slots pc' l (mL (if 0 < x then x else -x) :: st) D) : AT g κ K z cells slots pc l (mL x :: st) D := by
  obtain ⟨p, e, R, s, m, args, below, meth, c, Q⟩ := κ
  obtain ⟨hx, hb, hnl, hown, hts, hlk, hal, hG, hold, hsz, hnw⟩ := X
  subst e0
  intro H ls locs hl' o1 o2 hD hS
  have ox : -9223372036854775808 ≤ x ∧ x < 9223372036854775808 := ok_hd o2
  have h := kk H ls locs hl' o1 (ok_cons (v := mL (if 0 < x then x else -x)) (show -9223372036854775808 ≤ (if 0 < x then x else -x) ∧ (if 0 < x then x else -x) < 9223372036854775808 by split <;> omega) (ok_tl o2)) hD hS
  refine va_mabs_long hx hb hl'.1.symm hown (hts _ hl) (hts _ so_J9_abs_067f4) (hts _ mo_J9_abs_067f4.2.1) (hts _ mo_J9_abs_067f4.1) hr.1 (by rw [mwid_sum]; exact hr.2.1) hr.2.2.1 hr.2.2.2 (x := Int64.ofInt x) d ?_
  have e2 : (if 0 < Int64.ofInt x then Int64.ofInt x else -Int64.ofInt x) = Int64.ofInt (if 0 < x then x else -x) := by
    have hlt : (0 < Int64.ofInt x) ↔ 0 < x := i64_lt (x := 0) (by decide) ox
    by_cases c : 0 < x
    · rw [if_pos c, if_pos (hlt.mpr c)]
    · rw [if_neg c, if_neg (fun q => c (hlt.mp q)), ← Int64.ofInt_neg]
  rw [e2]
  exact h
end MATH2
