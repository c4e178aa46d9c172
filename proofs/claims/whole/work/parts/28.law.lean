theorem dL_law__0 : decode code 0 = .ok (.new 8, 3) := by decide +kernel
theorem dL_law__3 : decode code 3 = .ok (.dup, 1) := by decide +kernel
theorem dL_law__4 : decode code 4 = .ok (.invokespecial 146, 3) := by decide +kernel
theorem dL_law__7 : decode code 7 = .ok (.astore_n 1, 1) := by decide +kernel
theorem dL_law__8 : decode code 8 = .ok (.new 147, 3) := by decide +kernel
theorem dL_law__11 : decode code 11 = .ok (.dup, 1) := by decide +kernel
theorem dL_law__12 : decode code 12 = .ok (.invokespecial 149, 3) := by decide +kernel
theorem dL_law__15 : decode code 15 = .ok (.astore_n 2, 1) := by decide +kernel
theorem dL_law__16 : decode code 16 = .ok (.iconst 1, 1) := by decide +kernel
theorem dL_law__17 : decode code 17 = .ok (.newarray .long, 2) := by decide +kernel
theorem dL_law__19 : decode code 19 = .ok (.astore_n 3, 1) := by decide +kernel
theorem dL_law__20 : decode code 20 = .ok (.iconst 0, 1) := by decide +kernel
theorem dL_law__21 : decode code 21 = .ok (.istore 4, 2) := by decide +kernel
theorem dL_law__23 : decode code 23 = .ok (.iload 4, 2) := by decide +kernel
theorem dL_law__25 : decode code 25 = .ok (.aload_n 0, 1) := by decide +kernel
theorem dL_law__26 : decode code 26 = .ok (.arraylength, 1) := by decide +kernel
theorem dL_law__27 : decode code 27 = .ok (.bipush 6, 2) := by decide +kernel
theorem dL_law__29 : decode code 29 = .ok (.isub, 1) := by decide +kernel
theorem dL_law__30 : decode code 30 = .ok (.if_icmp .gt 3342, 3) := by decide +kernel
theorem dL_law__33 : decode code 33 = .ok (.aload_n 0, 1) := by decide +kernel
theorem dL_law__34 : decode code 34 = .ok (.iload 4, 2) := by decide +kernel
theorem dL_law__36 : decode code 36 = .ok (.iaload, 1) := by decide +kernel
theorem dL_law__37 : decode code 37 = .ok (.bipush 63, 2) := by decide +kernel
theorem dL_law__39 : decode code 39 = .ok (.iand, 1) := by decide +kernel
theorem dL_law__40 : decode code 40 = .ok (.tableswitch 3326 0 51 #[224, 297, 353, 409, 465, 521, 534, 590, 658, 726, 794, 881, 949, 1041, 1120, 1199, 1255, 1323, 1336, 1361, 1417, 1497, 1589, 1669, 1737, 1793, 1885, 1953, 1966, 2034, 2090, 2193, 2261, 2365, 2445, 2513, 2569, 2625, 2681, 2749, 2828, 2884, 2940, 2953, 3021, 3089, 3157, 3237, 3250, 3263, 3276, 3301], 224) := by decide +kernel
theorem dL_law__3366 : decode code 3366 = .ok (.iinc 4 6, 3) := by decide +kernel
theorem dL_law__3369 : decode code 3369 = .ok (.goto (-3346), 3) := by decide +kernel
theorem dL_law__3372 : decode code 3372 = .ok (.iconst 1, 1) := by decide +kernel
theorem dL_law__3373 : decode code 3373 = .ok (.ireturn, 1) := by decide +kernel
/-- where the law's cases begin -/
def casePc : List Nat := [264, 337, 393, 449, 505, 561, 574, 630, 698, 766, 834, 921, 989, 1081, 1160, 1239, 1295, 1363, 1376, 1401, 1457, 1537, 1629, 1709, 1777, 1833, 1925, 1993, 2006, 2074, 2130, 2233, 2301, 2405, 2485, 2553, 2609, 2665, 2721, 2789, 2868, 2924, 2980, 2993, 3061, 3129, 3197, 3277, 3290, 3303, 3316, 3341]
/-- the law's locals: script, system, reference, the place for an answer, where it reads -/
abbrev lawL (b n : Nat) : List (Nat × MV) := [(0, mX b), (1, mR 0), (2, mR 125), (3, mR 813), (4, mI (n : Int))]
def caseOff : Array Int := #[224, 297, 353, 409, 465, 521, 534, 590, 658, 726, 794, 881, 949, 1041, 1120, 1199, 1255, 1323, 1336, 1361, 1417, 1497, 1589, 1669, 1737, 1793, 1885, 1953, 1966, 2034, 2090, 2193, 2261, 2365, 2445, 2513, 2569, 2625, 2681, 2749, 2828, 2884, 2940, 2953, 3021, 3089, 3157, 3237, 3250, 3263, 3276, 3301]
theorem case_at : ∀ k, k < 52 → casePc[k]? = some (casePc.getD k 0) ∧ caseOff[k]? = some (caseOff.getD k 0) ∧ (40 : Int) + caseOff.getD k 0 = (casePc.getD k 0 : Int) := by decide +kernel
theorem mg_zero {B D : Mm} : mg 0 B D = B := funext fun q => funext fun j => if_neg (Nat.not_lt_zero _)
theorem crl {p : Program} {e : Env} {s : State} {m : MethodId} {below : List Frame} {meth : Method} {c : Code} {b maxL fr lo mc ms cells slots : Nat} (h1 : fr + 1 ≤ room_1.frames ∧ 8 + (maxL + 11) + lo ≤ room_1.locals) (h2 : cells + mc ≤ 601024) (h3 : slots + ms ≤ 7293034) : CRm (KL p e s m below meth c b) maxL fr lo mc ms cells slots := ⟨h1.1, h1.2, h2, h3⟩
theorem iand63 (x : Int32) : ∃ k : Nat, k < 64 ∧ iand x.toInt 63 = (k : Int) := by
  unfold iand
  rw [Int32.ofInt_toInt]
  have e : (x &&& Int32.ofInt 63).toInt = ((x.toBitVec &&& 63#32).toNat : Int) := by
    show ((x &&& Int32.ofInt 63).toBitVec).toInt = _
    have h : (x &&& Int32.ofInt 63).toBitVec = x.toBitVec &&& 63#32 := rfl
    rw [h, BitVec.toInt_eq_toNat_of_lt]
    rw [BitVec.toNat_and]
    have := Nat.and_le_right (n := x.toBitVec.toNat) (m := (63#32).toNat)
    have h63 : (63#32).toNat = 63 := rfl
    omega
  refine ⟨(x.toBitVec &&& 63#32).toNat, ?_, e⟩
  rw [BitVec.toNat_and]
  have := Nat.and_le_right (n := x.toBitVec.toNat) (m := (63#32).toNat)
  have h63 : (63#32).toNat = 63 := rfl
  omega
theorem law_main (INV : Nat → Mm → Prop) (h0 : INV 0 EI) (hmono : ∀ (n : Nat) (E : Mm), INV n E → INV (n + 6) E)
    (hcase : ∀ (g : Gw) (p : Program) (e : Env) (s : State) (m : MethodId) (below : List Frame) (meth : Method) (c : Code) (b L : Nat) (xs : Nat → Int32), L ≤ 3072 → GF g → CX g (KL p e s m below meth c b) code R_law 8 → SCR g (KL p e s m below meth c b) b L xs → ∀ (k pc : Nat), casePc[k]? = some pc → ∀ (E : Mm) (n cells slots : Nat), INV n E → n + 6 ≤ L → cells + 10 ≤ 601024 → slots + 100 ≤ 7293034 → (∀ E' : Mm, INV (n + 6) E' → AT g (KL p e s m below meth c b) K2 false (cells + 10) (slots + 100) 3366 (lawL b n) [] (ov E')) → AT g (KL p e s m below meth c b) K2 false cells slots pc (lawL b n) [] (ov E))
    (g : Gw) (p : Program) (e : Env) (s : State) (m : MethodId) (below : List Frame) (meth : Method) (c : Code) (b L : Nat) (xs : Nat → Int32) (hL : L ≤ 3072) (hs : gS g = s) (X : CX g (KL p e s m below meth c b) code R_law 8) (hr : meth.sig.returnType = ret) (S : SCR g (KL p e s m below meth c b) b L xs) : AT g (KL p e s m below meth c b) [] true 0 0 0 [(0, mX b)] [] (fun _ _ => 0) := by
  have hG : GF g := X.2.2.2.2.2.2.2.1
  have Lp : ∀ (f t : Nat) (E : Mm), INV (6 * t) E → L - 6 * t < f → 6 * t ≤ L → AT g (KL p e s m below meth c b) K2 false (814 + 10 * t) (147383 + 100 * t) 23 (lawL b (6 * t)) [] (ov E) := by
    intro f
    induction f with
    | zero => intro t E _ h; omega
    | succ f ih =>
    intro t E hE hf ht
    refine at_iload 25 X rfl dL_law__23 rfl ?_
    refine at_xload_n 26 X rfl rfl dL_law__25 rfl ?_
    refine at_xlen 27 X S dL_law__26 rfl hL ?_
    refine at_bipush 29 X (by decide) (by decide) dL_law__27 rfl ?_
    refine at_isub 30 X dL_law__29 rfl ?_
    rw [w32_id (by omega) (by omega)]
    refine at_icmp_gt 33 3372 X dL_law__30 rfl (by decide) (fun h => ?_) (fun h => ?_)
    · refine at_iconst 3373 X (by decide) dL_law__3372 rfl ?_
      exact at_lawEnd hs X hr (by omega) (by omega) dL_law__3373
    · have hn : 6 * t + 6 ≤ L := by omega
      refine at_xload_n 34 X rfl rfl dL_law__33 rfl ?_
      refine at_iload 36 X rfl dL_law__34 rfl ?_
      refine at_xint 37 X S (by omega) (by omega) dL_law__36 rfl ?_
      refine at_bipush 39 X (by decide) (by decide) dL_law__37 rfl ?_
      refine at_iand 40 X dL_law__39 rfl ?_
      obtain ⟨k, hk, ek⟩ := iand63 (xs ((6 * t : Nat) : Int).toNat)
      rw [ek]
      have hend : ∀ E' : Mm, INV (6 * t + 6) E' → AT g (KL p e s m below meth c b) K2 false (814 + 10 * t + 10) (147383 + 100 * t + 100) 3366 (lawL b (6 * t)) [] (ov E') := by
        intro E' hE'
        refine at_iinc 3369 X rfl dL_law__3366 rfl (by decide) ?_
        refine at_goto 23 X dL_law__3369 (by decide) ?_
        rw [w32_id (by omega) (by omega), show ((6 * t : Nat) : Int) + 6 = ((6 * (t + 1) : Nat) : Int) by omega]
        have h := ih (t + 1) E' (by rw [show 6 * (t + 1) = 6 * t + 6 by omega]; exact hE') (by omega) (by omega)
        rw [show 814 + 10 * (t + 1) = 814 + 10 * t + 10 by omega, show 147383 + 100 * (t + 1) = 147383 + 100 * t + 100 by omega] at h
        exact at_sub _ (by exact ⟨rfl, rfl, rfl, rfl, rfl, trivial⟩) h
      by_cases ck : k < 52
      · obtain ⟨q1, q2, q3⟩ := case_at k ck
        refine at_tswIn (off := caseOff.getD k 0) (casePc.getD k 0) X dL_law__40 (by omega) ?_ q3 ?_
        · rw [show ((k : Int) - 0).toNat = k by omega]
          exact q2
        · exact hcase g p e s m below meth c b L xs hL hG X S k _ q1 E (6 * t) _ _ hE hn (by omega) (by omega) hend
      · refine at_tswOut 3366 X dL_law__40 (by omega) (by decide) ?_
        exact at_widen (by omega) (by omega) (hend E (hmono _ E hE))
  show AT g _ (KT 0) true 0 0 0 [(0, mX b)] [] (fun _ _ => 0)
  refine c_new 3 0 X clX11 w_150 w_151 w_121 k_0 (by decide) (by show _ ≤ 601024; exact Nat.le_of_ble_eq_true rfl) (by show _ ≤ 7293034; exact Nat.le_of_ble_eq_true rfl) dL_law__0 rfl ?_
  refine at_dup 4 X (show ¬ (2 : Nat) = 1 by decide) dL_law__3 rfl ?_
  refine at_callI 7 X 0 (cc_X11_init_0 hG _ nz_fz) rfl mo_X11_init w_152 io_X11_init rfl rfl (crl ⟨Nat.le_of_ble_eq_true rfl, Nat.le_of_ble_eq_true rfl⟩ (Nat.le_of_ble_eq_true rfl) (Nat.le_of_ble_eq_true rfl)) (Nat.le_of_ble_eq_true rfl) dL_law__4 rfl ?_
  rintro _ _ ⟨rfl, rfl⟩
  refine at_mem mg_zero ?_
  refine at_astore_n 8 X rfl dL_law__7 rfl (by decide) ?_
  refine c_new 11 125 X clX12 w_1723 w_1724 w_134 k_125 (by decide) (by show _ ≤ 601024; exact Nat.le_of_ble_eq_true rfl) (by show _ ≤ 7293034; exact Nat.le_of_ble_eq_true rfl) dL_law__8 rfl ?_
  refine at_dup 12 X (show ¬ (2 : Nat) = 1 by decide) dL_law__11 rfl ?_
  refine at_callI 15 X 125 (cc_X12_init_125 hG _ nz_fz (fun q j hq => if_neg (by omega))) rfl mo_X12_init w_1725 io_X12_init rfl rfl (crl ⟨Nat.le_of_ble_eq_true rfl, Nat.le_of_ble_eq_true rfl⟩ (Nat.le_of_ble_eq_true rfl) (Nat.le_of_ble_eq_true rfl)) (Nat.le_of_ble_eq_true rfl) dL_law__12 rfl ?_
  rintro _ _ ⟨rfl, rfl⟩
  refine at_mem (D' := ov EI) (funext fun q => funext fun j => by
    unfold mg nz
    by_cases c : q < 125
    · rw [if_pos c, if_neg (by omega)]
    · rw [if_neg c]) ?_
  refine at_astore_n 16 X rfl dL_law__15 rfl (by decide) ?_
  refine at_iconst 17 X (by decide) dL_law__16 rfl ?_
  refine at_newaJ 19 X (n := 1) rfl (by decide) w_328 (by show _ ≤ 601024; exact Nat.le_of_ble_eq_true rfl) (by show _ ≤ 7293034; exact Nat.le_of_ble_eq_true rfl) dL_law__17 rfl ?_
  rw [KT_snoc k_813, KT_len (by decide)]
  refine at_agree (D' := ov EI) (fun q kq hq j hj => ?_) ?_
  · obtain ⟨h1, h2⟩ := KT_lt hq
    unfold nz
    by_cases c : q = 813
    · subst c
      rw [k_813] at h2
      cases h2
      rw [if_pos rfl]
      exact (by decide +kernel : ∀ j, j < slen (3, 1) → (if stag (3, 1) j = 2 then (-1 : Int) else 0) = ov EI 813 j) j hj
    · rw [if_neg c]
  refine at_astore_n 20 X rfl dL_law__19 rfl (by decide) ?_
  refine at_iconst 21 X (by decide) dL_law__20 rfl ?_
  refine at_istore 23 X dL_law__21 rfl (by decide) ?_
  rw [KT_all]
  refine at_shut (at_sub _ (by exact ⟨rfl, rfl, rfl, rfl, rfl, trivial⟩) (at_widen (by decide) (by decide) (Lp (L + 1) 0 EI h0 (by omega) (by omega))))
