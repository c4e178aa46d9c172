section JDK
variable {g : Gw} {κ : Kp} {cc : ByteArray} {own : String} {nL : Nat} {K : Shp} {z : Bool} {cells slots pc : Nat} {l : List (Nat × MV)} {st : List MV} {D : Mm}
theorem at_maxV (pc' : Nat) (X : CX g κ cc own nL) {x y : Int} {ix : Nat} (v : Int) (hv : (if x < y then y else x) = v) (hl : Cond.methodLink own ix yJ9_max_7cf53 ∈ ALLW) (hr : 1 ≤ (kR κ).frames ∧ mwid st + 13 ≤ (kR κ).locals ∧ cells ≤ (kR κ).cells ∧ slots ≤ (kR κ).slots) (d : decode cc pc = .ok (.invokestatic ix, 3)) (e0 : pc + 3 = pc') (kk : AT g κ K z cells slots pc' l (mI v :: st) D) : AT g κ K z cells slots pc l (mI y :: mI x :: st) D := at_max pc' X hl hr d e0 (by rw [hv]; exact kk)
theorem at_minV (pc' : Nat) (X : CX g κ cc own nL) {x y : Int} {ix : Nat} (v : Int) (hv : (if x ≤ y then x else y) = v) (hl : Cond.methodLink own ix yJ9_min_7cf53 ∈ ALLW) (hr : 1 ≤ (kR κ).frames ∧ mwid st + 13 ≤ (kR κ).locals ∧ cells ≤ (kR κ).cells ∧ slots ≤ (kR κ).slots) (d : decode cc pc = .ok (.invokestatic ix, 3)) (e0 : pc + 3 = pc') (kk : AT g κ K z cells slots pc' l (mI v :: st) D) : AT g κ K z cells slots pc l (mI y :: mI x :: st) D := at_min pc' X hl hr d e0 (by rw [hv]; exact kk)
theorem at_absV (pc' : Nat) (X : CX g κ cc own nL) {x : Int} {ix : Nat} (v : Int) (hv : (if 0 ≤ x then x else -x) = v) (hx0 : -2147483648 < x) (hl : Cond.methodLink own ix yJ9_abs_0f7a4 ∈ ALLW) (hr : 1 ≤ (kR κ).frames ∧ mwid st + 13 ≤ (kR κ).locals ∧ cells ≤ (kR κ).cells ∧ slots ≤ (kR κ).slots) (d : decode cc pc = .ok (.invokestatic ix, 3)) (e0 : pc + 3 = pc') (kk : AT g κ K z cells slots pc' l (mI v :: st) D) : AT g κ K z cells slots pc l (mI x :: st) D := at_abs pc' X hx0 hl hr d e0 (by rw [hv]; exact kk)
theorem at_maxJV (pc' : Nat) (X : CX g κ cc own nL) {x y : Int} {ix : Nat} (v : Int) (hv : (if y < x then x else y) = v) (hl : Cond.methodLink own ix yJ9_max_f86c9 ∈ ALLW) (hr : 1 ≤ (kR κ).frames ∧ mwid st + 15 ≤ (kR κ).locals ∧ cells ≤ (kR κ).cells ∧ slots ≤ (kR κ).slots) (d : decode cc pc = .ok (.invokestatic ix, 3)) (e0 : pc + 3 = pc') (kk : AT g κ K z cells slots pc' l (mL v :: st) D) : AT g κ K z cells slots pc l (mL y :: mL x :: st) D := at_maxJ pc' X hl hr d e0 (by rw [hv]; exact kk)
theorem at_absJV (pc' : Nat) (X : CX g κ cc own nL) {x : Int} {ix : Nat} (v : Int) (hv : (if 0 < x then x else -x) = v) (hx0 : -9223372036854775808 < x) (hl : Cond.methodLink own ix yJ9_abs_067f4 ∈ ALLW) (hr : 1 ≤ (kR κ).frames ∧ mwid st + 13 ≤ (kR κ).locals ∧ cells ≤ (kR κ).cells ∧ slots ≤ (kR κ).slots) (d : decode cc pc = .ok (.invokestatic ix, 3)) (e0 : pc + 3 = pc') (kk : AT g κ K z cells slots pc' l (mL v :: st) D) : AT g κ K z cells slots pc l (mL x :: st) D := at_absJ pc' X hx0 hl hr d e0 (by rw [hv]; exact kk)
theorem at_ldcw (pc' : Nat) (X : CX g κ cc own nL) {ix : Nat} {n : Int} {v : Int32} (hw : Jvm.Cond.constant own ix v ∈ ALLW) (hn : -2147483648 ≤ n ∧ n < 2147483648) (hv : v = Int32.ofInt n) (d : decode cc pc = .ok (.ldc_w ix, 3)) (e0 : pc + 3 = pc') (k : AT g κ K z cells slots pc' l (mI n :: st) D) : AT g κ K z cells slots pc l (st) D := by
  obtain ⟨p, e, R, s, m, args, below, meth, c, Q⟩ := κ
  obtain ⟨hx, hb, hnl, hown, hts, hlk, hal, hG, hold, hsz, hnw⟩ := X
  subst e0
  intro H ls locs hl o1 o2 hD hS
  subst hv
  exact lv_ldcw hx hb hown (hts _ hw) d (k H ls locs hl o1 (ok_cons (v := mI n) hn o2) hD hS)
/-- a reference that there is -/
theorem at_ifnn (tgt : Nat) (X : CX g κ cc own nL) {a : Nat} {off : Int} (d : decode cc pc = .ok (.ifnonnull off, 3)) (ht : (pc : Int) + off = (tgt : Int)) (k : AT g κ K z cells slots tgt l st D) : AT g κ K z cells slots pc l (mR a :: st) D := by
  obtain ⟨p, e, R, s, m, args, below, meth, c, Q⟩ := κ
  obtain ⟨hx, hb, hnl, hown, hts, hlk, hal, hG, hold, hsz, hnw⟩ := X
  intro H ls locs hl o1 o2 hD hS
  rw [List.map_cons, rvv_ref]
  intro T hT X'
  obtain ⟨t, a1, b1⟩ := k H ls locs hl o1 (ok_tl o2) hD hS T hT X'
  refine ⟨t, ?_, b1⟩
  jvm_step X'.here [X'.here.top, hx, hb, d, ht]
  exact a1
end JDK
def bs1 (x : Int) : Int := w32 (x - iand (iushr x 1) 1431655765)
def bs2 (x : Int) : Int := w32 (iand x 858993459 + iand (iushr x 2) 858993459)
def bs3 (x : Int) : Int := iand (w32 (x + iushr x 4)) 252645135
def bs4 (x : Int) : Int := w32 (x + iushr x 8)
def bs5 (x : Int) : Int := w32 (x + iushr x 16)
theorem bits_11 : ∀ b : Nat, b < 2048 → iand (bs5 (bs4 (bs3 (bs2 (bs1 (b : Int)))))) 63 = ((cntp (fun p => b.testBit p) 11 : Nat) : Int) := by decide +kernel
theorem dJ6_bitCount_0f7a4_0 : decode cJ6_bitCount_0f7a4 0 = .ok (.iload_n 0, 1) := by decide +kernel
theorem dJ6_bitCount_0f7a4_1 : decode cJ6_bitCount_0f7a4 1 = .ok (.iload_n 0, 1) := by decide +kernel
theorem dJ6_bitCount_0f7a4_2 : decode cJ6_bitCount_0f7a4 2 = .ok (.iconst 1, 1) := by decide +kernel
theorem dJ6_bitCount_0f7a4_3 : decode cJ6_bitCount_0f7a4 3 = .ok (.iushr, 1) := by decide +kernel
theorem dJ6_bitCount_0f7a4_4 : decode cJ6_bitCount_0f7a4 4 = .ok (.ldc_w 265, 3) := by decide +kernel
theorem dJ6_bitCount_0f7a4_7 : decode cJ6_bitCount_0f7a4 7 = .ok (.iand, 1) := by decide +kernel
theorem dJ6_bitCount_0f7a4_8 : decode cJ6_bitCount_0f7a4 8 = .ok (.isub, 1) := by decide +kernel
theorem dJ6_bitCount_0f7a4_9 : decode cJ6_bitCount_0f7a4 9 = .ok (.istore_n 0, 1) := by decide +kernel
theorem dJ6_bitCount_0f7a4_10 : decode cJ6_bitCount_0f7a4 10 = .ok (.iload_n 0, 1) := by decide +kernel
theorem dJ6_bitCount_0f7a4_11 : decode cJ6_bitCount_0f7a4 11 = .ok (.ldc_w 266, 3) := by decide +kernel
theorem dJ6_bitCount_0f7a4_14 : decode cJ6_bitCount_0f7a4 14 = .ok (.iand, 1) := by decide +kernel
theorem dJ6_bitCount_0f7a4_15 : decode cJ6_bitCount_0f7a4 15 = .ok (.iload_n 0, 1) := by decide +kernel
theorem dJ6_bitCount_0f7a4_16 : decode cJ6_bitCount_0f7a4 16 = .ok (.iconst 2, 1) := by decide +kernel
theorem dJ6_bitCount_0f7a4_17 : decode cJ6_bitCount_0f7a4 17 = .ok (.iushr, 1) := by decide +kernel
theorem dJ6_bitCount_0f7a4_18 : decode cJ6_bitCount_0f7a4 18 = .ok (.ldc_w 266, 3) := by decide +kernel
theorem dJ6_bitCount_0f7a4_21 : decode cJ6_bitCount_0f7a4 21 = .ok (.iand, 1) := by decide +kernel
theorem dJ6_bitCount_0f7a4_22 : decode cJ6_bitCount_0f7a4 22 = .ok (.iadd, 1) := by decide +kernel
theorem dJ6_bitCount_0f7a4_23 : decode cJ6_bitCount_0f7a4 23 = .ok (.istore_n 0, 1) := by decide +kernel
theorem dJ6_bitCount_0f7a4_24 : decode cJ6_bitCount_0f7a4 24 = .ok (.iload_n 0, 1) := by decide +kernel
theorem dJ6_bitCount_0f7a4_25 : decode cJ6_bitCount_0f7a4 25 = .ok (.iload_n 0, 1) := by decide +kernel
theorem dJ6_bitCount_0f7a4_26 : decode cJ6_bitCount_0f7a4 26 = .ok (.iconst 4, 1) := by decide +kernel
theorem dJ6_bitCount_0f7a4_27 : decode cJ6_bitCount_0f7a4 27 = .ok (.iushr, 1) := by decide +kernel
theorem dJ6_bitCount_0f7a4_28 : decode cJ6_bitCount_0f7a4 28 = .ok (.iadd, 1) := by decide +kernel
theorem dJ6_bitCount_0f7a4_29 : decode cJ6_bitCount_0f7a4 29 = .ok (.ldc_w 267, 3) := by decide +kernel
theorem dJ6_bitCount_0f7a4_32 : decode cJ6_bitCount_0f7a4 32 = .ok (.iand, 1) := by decide +kernel
theorem dJ6_bitCount_0f7a4_33 : decode cJ6_bitCount_0f7a4 33 = .ok (.istore_n 0, 1) := by decide +kernel
theorem dJ6_bitCount_0f7a4_34 : decode cJ6_bitCount_0f7a4 34 = .ok (.iload_n 0, 1) := by decide +kernel
theorem dJ6_bitCount_0f7a4_35 : decode cJ6_bitCount_0f7a4 35 = .ok (.iload_n 0, 1) := by decide +kernel
theorem dJ6_bitCount_0f7a4_36 : decode cJ6_bitCount_0f7a4 36 = .ok (.bipush 8, 2) := by decide +kernel
theorem dJ6_bitCount_0f7a4_38 : decode cJ6_bitCount_0f7a4 38 = .ok (.iushr, 1) := by decide +kernel
theorem dJ6_bitCount_0f7a4_39 : decode cJ6_bitCount_0f7a4 39 = .ok (.iadd, 1) := by decide +kernel
theorem dJ6_bitCount_0f7a4_40 : decode cJ6_bitCount_0f7a4 40 = .ok (.istore_n 0, 1) := by decide +kernel
theorem dJ6_bitCount_0f7a4_41 : decode cJ6_bitCount_0f7a4 41 = .ok (.iload_n 0, 1) := by decide +kernel
theorem dJ6_bitCount_0f7a4_42 : decode cJ6_bitCount_0f7a4 42 = .ok (.iload_n 0, 1) := by decide +kernel
theorem dJ6_bitCount_0f7a4_43 : decode cJ6_bitCount_0f7a4 43 = .ok (.bipush 16, 2) := by decide +kernel
theorem dJ6_bitCount_0f7a4_45 : decode cJ6_bitCount_0f7a4 45 = .ok (.iushr, 1) := by decide +kernel
theorem dJ6_bitCount_0f7a4_46 : decode cJ6_bitCount_0f7a4 46 = .ok (.iadd, 1) := by decide +kernel
theorem dJ6_bitCount_0f7a4_47 : decode cJ6_bitCount_0f7a4 47 = .ok (.istore_n 0, 1) := by decide +kernel
theorem dJ6_bitCount_0f7a4_48 : decode cJ6_bitCount_0f7a4 48 = .ok (.iload_n 0, 1) := by decide +kernel
theorem dJ6_bitCount_0f7a4_49 : decode cJ6_bitCount_0f7a4 49 = .ok (.bipush 63, 2) := by decide +kernel
theorem dJ6_bitCount_0f7a4_51 : decode cJ6_bitCount_0f7a4 51 = .ok (.iand, 1) := by decide +kernel
theorem dJ6_bitCount_0f7a4_52 : decode cJ6_bitCount_0f7a4 52 = .ok (.ireturn, 1) := by decide +kernel
theorem ct_J6_bitCount_0f7a4 {g : Gw} (hG : GF g) {z : Bool} (E : Mm) (b : Nat) (hb : b < 2048) : CT g yJ6_bitCount_0f7a4 cJ6_bitCount_0f7a4 1 (some .int) 0 0 0 0 K2 z [mI ((b : Nat) : Int)] (ov E) K2 z (fun r D' => r = some (mI (cntp (fun p => b.testBit p) 11 : Nat)) ∧ D' = ov E) := by
  refine CT.mk hG (by decide +kernel) (Nat.le_of_ble_eq_true rfl) (fun κ X Rt _ ok => ?_)
  refine at_iload_n 1 X rfl rfl dJ6_bitCount_0f7a4_0 rfl ?_
  refine at_iload_n 2 X rfl rfl dJ6_bitCount_0f7a4_1 rfl ?_
  refine at_iconst 3 X (by decide) dJ6_bitCount_0f7a4_2 rfl ?_
  refine at_iushrV 4 X (iushr ((b : Nat) : Int) 1) rfl dJ6_bitCount_0f7a4_3 rfl ?_
  refine at_ldcw 7 X (n := 1431655765) w_761 (by decide) (by decide) dJ6_bitCount_0f7a4_4 rfl ?_
  refine at_iandV 8 X (iand (iushr ((b : Nat) : Int) 1) 1431655765) rfl dJ6_bitCount_0f7a4_7 rfl ?_
  refine at_isubV 9 X (bs1 (b : Int)) rfl dJ6_bitCount_0f7a4_8 rfl ?_
  refine at_istore_n 10 X rfl dJ6_bitCount_0f7a4_9 rfl (by decide) ?_
  refine at_iload_n 11 X rfl rfl dJ6_bitCount_0f7a4_10 rfl ?_
  refine at_ldcw 14 X (n := 858993459) w_762 (by decide) (by decide) dJ6_bitCount_0f7a4_11 rfl ?_
  refine at_iandV 15 X (iand (bs1 (b : Int)) 858993459) rfl dJ6_bitCount_0f7a4_14 rfl ?_
  refine at_iload_n 16 X rfl rfl dJ6_bitCount_0f7a4_15 rfl ?_
  refine at_iconst 17 X (by decide) dJ6_bitCount_0f7a4_16 rfl ?_
  refine at_iushrV 18 X (iushr (bs1 (b : Int)) 2) rfl dJ6_bitCount_0f7a4_17 rfl ?_
  refine at_ldcw 21 X (n := 858993459) w_762 (by decide) (by decide) dJ6_bitCount_0f7a4_18 rfl ?_
  refine at_iandV 22 X (iand (iushr (bs1 (b : Int)) 2) 858993459) rfl dJ6_bitCount_0f7a4_21 rfl ?_
  refine at_iaddV 23 X (bs2 (bs1 (b : Int))) rfl dJ6_bitCount_0f7a4_22 rfl ?_
  refine at_istore_n 24 X rfl dJ6_bitCount_0f7a4_23 rfl (by decide) ?_
  refine at_iload_n 25 X rfl rfl dJ6_bitCount_0f7a4_24 rfl ?_
  refine at_iload_n 26 X rfl rfl dJ6_bitCount_0f7a4_25 rfl ?_
  refine at_iconst 27 X (by decide) dJ6_bitCount_0f7a4_26 rfl ?_
  refine at_iushrV 28 X (iushr (bs2 (bs1 (b : Int))) 4) rfl dJ6_bitCount_0f7a4_27 rfl ?_
  refine at_iaddV 29 X (w32 (bs2 (bs1 (b : Int)) + iushr (bs2 (bs1 (b : Int))) 4)) rfl dJ6_bitCount_0f7a4_28 rfl ?_
  refine at_ldcw 32 X (n := 252645135) w_763 (by decide) (by decide) dJ6_bitCount_0f7a4_29 rfl ?_
  refine at_iandV 33 X (bs3 (bs2 (bs1 (b : Int)))) rfl dJ6_bitCount_0f7a4_32 rfl ?_
  refine at_istore_n 34 X rfl dJ6_bitCount_0f7a4_33 rfl (by decide) ?_
  refine at_iload_n 35 X rfl rfl dJ6_bitCount_0f7a4_34 rfl ?_
  refine at_iload_n 36 X rfl rfl dJ6_bitCount_0f7a4_35 rfl ?_
  refine at_bipush 38 X (by decide) (by decide) dJ6_bitCount_0f7a4_36 rfl ?_
  refine at_iushrV 39 X (iushr (bs3 (bs2 (bs1 (b : Int)))) 8) rfl dJ6_bitCount_0f7a4_38 rfl ?_
  refine at_iaddV 40 X (bs4 (bs3 (bs2 (bs1 (b : Int))))) rfl dJ6_bitCount_0f7a4_39 rfl ?_
  refine at_istore_n 41 X rfl dJ6_bitCount_0f7a4_40 rfl (by decide) ?_
  refine at_iload_n 42 X rfl rfl dJ6_bitCount_0f7a4_41 rfl ?_
  refine at_iload_n 43 X rfl rfl dJ6_bitCount_0f7a4_42 rfl ?_
  refine at_bipush 45 X (by decide) (by decide) dJ6_bitCount_0f7a4_43 rfl ?_
  refine at_iushrV 46 X (iushr (bs4 (bs3 (bs2 (bs1 (b : Int))))) 16) rfl dJ6_bitCount_0f7a4_45 rfl ?_
  refine at_iaddV 47 X (bs5 (bs4 (bs3 (bs2 (bs1 (b : Int)))))) rfl dJ6_bitCount_0f7a4_46 rfl ?_
  refine at_istore_n 48 X rfl dJ6_bitCount_0f7a4_47 rfl (by decide) ?_
  refine at_iload_n 49 X rfl rfl dJ6_bitCount_0f7a4_48 rfl ?_
  refine at_bipush 51 X (by decide) (by decide) dJ6_bitCount_0f7a4_49 rfl ?_
  refine at_iandV 52 X (iand (bs5 (bs4 (bs3 (bs2 (bs1 (b : Int)))))) 63) rfl dJ6_bitCount_0f7a4_51 rfl ?_
  refine at_iret X Rt ?_ (Nat.le_refl _) (Nat.le_refl _) dJ6_bitCount_0f7a4_52
  exact ⟨by rw [← bits_11 b hb], rfl⟩
