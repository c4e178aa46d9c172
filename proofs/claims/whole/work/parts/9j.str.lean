theorem CT.imp {g : Gw} {y : MethodName} {cc : ByteArray} {maxL : Nat} {ret : Option FieldType} {fr lo mc ms : Nat} {K : Shp} {z : Bool} {avs : List MV} {D : Mm} {K' : Shp} {z' : Bool} {Post Post' : Option MV → Mm → Prop} (h : CT g y cc maxL ret fr lo mc ms K z avs D K' z' Post) (hp : ∀ r D', Post r D' → Post' r D') : CT g y cc maxL ret fr lo mc ms K z avs D K' z' Post' := by
  intro ok p e ha hc hk s m args below hf happ hP hK
  obtain ⟨n, o, h1, h2, h3, ⟨⟨⟨r, D', q1, q2, q3, q4⟩, q5⟩, q6⟩⟩ := h ok p e ha hc hk s m args below hf happ hP hK
  exact ⟨n, o, h1, h2, h3, ⟨⟨⟨r, D', q1, q2, hp _ _ q3, q4⟩, q5⟩, q6⟩⟩
section STRS
variable {g : Gw} {κ : Kp} {cc : ByteArray} {own : String} {nL : Nat} {K : Shp} {z : Bool} {cells slots pc : Nat} {l : List (Nat × MV)} {st : List MV} {D : Mm}
theorem old_at (X : CX g κ cc own nL) : OldF g (kS κ) (kS κ).heap := by
  obtain ⟨hx, hb, hnl, hown, hts, hlk, hal, hG, hold, hsz, hnw⟩ := X
  obtain ⟨h1, h2, h3, h4, h5⟩ := hG.2.2.1
  have q : ∀ a : Nat, a < (gS g).heap.size → ¬ gA g a → (kS κ).heap[a]? = (gS g).heap[a]? := fun a ha _ => hold a ha
  exact ⟨fun i b hi => ⟨(va_O.moved hal (h1 i b hi).1).kept q, (va_OF.moved hal (h1 i b hi).2.1).kept q, (va_OF.moved hal (h1 i b hi).2.2.1).kept q, (va_T.moved hal (h1 i b hi).2.2.2).kept q⟩, (va_Z.moved hal h2).kept q, (va_Zq.moved hal h3).kept q, (vx_Zq.moved hal h4).kept q, (vx_Zq.moved hal h5).kept q⟩
theorem at_ldcS (pc' : Nat) (X : CX g κ cc own nL) (i : Nat) {ix : Nat} {tx : String} (hs : STRL[i]? = some (own, ix, tx)) (d : decode cc pc = .ok (.ldc ix, 2)) (e0 : pc + 2 = pc') (k : AT g κ K z cells slots pc' l (mX (gT g i) :: st) D) : AT g κ K z cells slots pc l st D := by
  obtain ⟨p, e, R, s, m, args, below, meth, c, Q⟩ := κ
  obtain ⟨hx, hb, hnl, hown, hts, hlk, hal, hG, hold, hsz, hnw⟩ := X
  subst e0
  intro H ls locs hl o1 o2 hD hS
  have hk := k H ls locs hl o1 (ok_cons (v := mX (gT g i)) trivial o2) hD hS
  rw [List.map_cons, rvv_X] at hk
  exact va_ldcS hx hb hown (hnw.2 i _ hs) d hk
theorem at_xcoder (pc' : Nat) (X : CX g κ cc "java/lang/String" nL) {i : Nat} {b : List Int} (hi : STRB[i]? = some b) (d : decode cc pc = .ok (.getfield 15, 3)) (e0 : pc + 3 = pc') (k : AT g κ K z cells slots pc' l (mI 0 :: st) D) : AT g κ K z cells slots pc l (mX (gT g i) :: st) D := by
  have hO := ((old_at X).1 i b hi).2.1
  obtain ⟨p, e, R, s, m, args, below, meth, c, Q⟩ := κ
  obtain ⟨hx, hb, hnl, hown, hts, hlk, hal, hG, hold, hsz, hnw⟩ := X
  subst e0
  intro H ls locs hl o1 o2 hD hS
  have hk := k H ls locs hl o1 (ok_cons (v := mI 0) (show -2147483648 ≤ (0 : Int) ∧ (0 : Int) < 2147483648 by decide) (ok_tl o2)) hD hS
  rw [List.map_cons, rvv_X]
  obtain ⟨cf, kf, fi, f, cell, h1, h2, h3, h4, h5, h6⟩ := hO.kept hS.2.1
  exact W.getf hx hb hown (hts _ w_2470) h1 h2 h3 h4 (v := .int 0) h5 rfl rfl d hk
theorem at_xvalue (pc' : Nat) (X : CX g κ cc "java/lang/String" nL) {i : Nat} {b : List Int} (hi : STRB[i]? = some b) (d : decode cc pc = .ok (.getfield 9, 3)) (e0 : pc + 3 = pc') (k : AT g κ K z cells slots pc' l (mX (gV g i) :: st) D) : AT g κ K z cells slots pc l (mX (gT g i) :: st) D := by
  have hO := ((old_at X).1 i b hi).2.2.1
  obtain ⟨p, e, R, s, m, args, below, meth, c, Q⟩ := κ
  obtain ⟨hx, hb, hnl, hown, hts, hlk, hal, hG, hold, hsz, hnw⟩ := X
  subst e0
  intro H ls locs hl o1 o2 hD hS
  have hk := k H ls locs hl o1 (ok_cons (v := mX (gV g i)) trivial (ok_tl o2)) hD hS
  rw [List.map_cons, rvv_X] at hk ⊢
  obtain ⟨cf, kf, fi, f, cell, h1, h2, h3, h4, h5, h6⟩ := hO.kept hS.2.1
  exact W.getf hx hb hown (hts _ w_2469) h1 h2 h3 h4 (v := .ref (gV g i)) h5 rfl rfl d hk
theorem at_xcompact (pc' : Nat) (X : CX g κ cc "java/lang/String" nL) (d : decode cc pc = .ok (.getstatic 38, 3)) (e0 : pc + 3 = pc') (k : AT g κ K z cells slots pc' l (mI 1 :: st) D) : AT g κ K z cells slots pc l st D := by
  have hO := (old_at X).2.1
  obtain ⟨p, e, R, s, m, args, below, meth, c, Q⟩ := κ
  obtain ⟨hx, hb, hnl, hown, hts, hlk, hal, hG, hold, hsz, hnw⟩ := X
  subst e0
  intro H ls locs hl o1 o2 hD hS
  have hk := k H ls locs hl o1 (ok_cons (v := mI 1) (show -2147483648 ≤ (1 : Int) ∧ (1 : Int) < 2147483648 by decide) o2) hD hS
  exact va_gets hx hb hO hS hown (hts _ w_979) (fun _ h => h) d hk
theorem at_xform (pc' : Nat) (X : CX g κ cc "java/lang/String" nL) (d : decode cc pc = .ok (.getstatic 1053, 3)) (e0 : pc + 3 = pc') (k : ∀ a : Int, AT g κ K z cells slots pc' l ((2, a) :: st) D) (k2 : ∀ a : Nat, AT g κ K z cells slots pc' l (mX a :: st) D) : AT g κ K z cells slots pc l st D := by
  have hO := (old_at X).2.2.1
  obtain ⟨p, e, R, s, m, args, below, meth, c, Q⟩ := κ
  obtain ⟨hx, hb, hnl, hown, hts, hlk, hal, hG, hold, hsz, hnw⟩ := X
  subst e0
  intro H ls locs hl o1 o2 hD hS
  rcases hO with h | ⟨t, h⟩
  · have hk := k (-1) H ls locs hl o1 (ok_cons (v := (2, -1)) trivial o2) hD hS
    exact va_gets hx hb h hS hown (hts _ w_995) (fun _ h => h) d hk
  · have hk := k2 t H ls locs hl o1 (ok_cons (v := mX t) trivial o2) hD hS
    rw [List.map_cons, rvv_X] at hk
    exact va_gets hx hb h hS hown (hts _ w_995) (fun _ h => h) d hk
theorem at_xtlen (pc' : Nat) (X : CX g κ cc own nL) {i : Nat} {b : List Int} (hi : STRB[i]? = some b) (hn : b.length < 100) (d : decode cc pc = .ok (.arraylength, 1)) (e0 : pc + 1 = pc') (k : AT g κ K z cells slots pc' l (mI (b.length : Int) :: st) D) : AT g κ K z cells slots pc l (mX (gV g i) :: st) D := by
  have hO := ((old_at X).1 i b hi).2.2.2
  obtain ⟨p, e, R, s, m, args, below, meth, c, Q⟩ := κ
  obtain ⟨hx, hb, hnl, hown, hts, hlk, hal, hG, hold, hsz, hnw⟩ := X
  subst e0
  intro H ls locs hl o1 o2 hD hS
  have hk := k H ls locs hl o1 (ok_cons (v := mI (b.length : Int)) (show -2147483648 ≤ (b.length : Int) ∧ (b.length : Int) < 2147483648 by omega) (ok_tl o2)) hD hS
  rw [List.map_cons, rvv_X]
  rw [List.map_cons, show rvv (gB g) (mI (b.length : Int)) = .int (Int32.ofNat b.length) from congrArg Value.int Int32.ofInt_eq_ofNat] at hk
  exact va_tlen hx hb hO hS rfl d hk
theorem at_xtb (pc' : Nat) (X : CX g κ cc own nL) {i j : Nat} {b : List Int} (hi : STRB[i]? = some b) (hn : b.length < 100) (hj : j < b.length) (ok' : -128 ≤ b.getD j 0 ∧ b.getD j 0 < 128) (d : decode cc pc = .ok (.baload, 1)) (e0 : pc + 1 = pc') (k : AT g κ K z cells slots pc' l (mI (b.getD j 0) :: st) D) : AT g κ K z cells slots pc l (mI (j : Int) :: mX (gV g i) :: st) D := by
  have hO := ((old_at X).1 i b hi).2.2.2
  obtain ⟨p, e, R, s, m, args, below, meth, c, Q⟩ := κ
  obtain ⟨hx, hb, hnl, hown, hts, hlk, hal, hG, hold, hsz, hnw⟩ := X
  subst e0
  intro H ls locs hl o1 o2 hD hS
  have hk := k H ls locs hl o1 (ok_cons (v := mI (b.getD j 0)) (show -2147483648 ≤ b.getD j 0 ∧ b.getD j 0 < 2147483648 by omega) (ok_tl (ok_tl o2))) hD hS
  rw [List.map_cons, List.map_cons, rvv_X]
  have hz : (Int32.ofInt (j : Int)).toInt = (j : Int) := ti' (by omega) (by omega)
  have hc : (Int32.ofInt (j : Int)).toNatClampNeg = j := by
    show (Int32.ofInt (j : Int)).toInt.toNat = j
    rw [hz, Int.toNat_natCast]
  refine va_tb hx hb hO hS (i := Int32.ofInt (j : Int)) ?_ (v := .int (Int32.ofInt (b.getD j 0))) (by rw [hc]) d hk
  rintro (q | q)
  · rw [Int32.lt_iff_toInt_lt, hz] at q
    have : (0 : Int32).toInt = 0 := by decide
    omega
  · rw [hc] at q
    omega
theorem at_xi2c (pc' : Nat) (X : CX g κ cc own nL) {x : Int} (h0 : 0 ≤ x ∧ x < 65536) (d : decode cc pc = .ok (.i2c, 1)) (e0 : pc + 1 = pc') (k : AT g κ K z cells slots pc' l (mI x :: st) D) : AT g κ K z cells slots pc l (mI x :: st) D := by
  obtain ⟨p, e, R, s, m, args, below, meth, c, Q⟩ := κ
  obtain ⟨hx, hb, hnl, hown, hts, hlk, hal, hG, hold, hsz, hnw⟩ := X
  subst e0
  intro H ls locs hl o1 o2 hD hS
  have hk := k H ls locs hl o1 o2 hD hS
  have hz : (Int32.ofInt x).toInt = x := ti' (by omega) (by omega)
  exact lv_i2c hx hb d (lg_i2c_word (by rw [hz]; omega) (by rw [hz]; omega)) hk
theorem at_nret {ty : FieldType} {fr lo mc ms : Nat} {Post : Option MV → Mm → Prop} (X : CX g κ cc own nL) (Rt : RT g κ (some ty) fr lo mc ms K z Post) {x : Int} (hn : narrow ty (.int (Int32.ofInt x)) = .int (Int32.ofInt x)) (hp : Post (some (mI x)) D) (h1 : cells ≤ mc) (h2 : slots ≤ ms) (d : decode cc pc = .ok (.ireturn, 1)) : AT g κ K z cells slots pc l [mI x] D := by
  intro H ls locs hl o1 o2 hD hS
  obtain ⟨hR, hq, hr⟩ := Rt
  refine w_mono hq (W.widen h1 h2 ?_)
  exact W.zret X.1 X.2.1 hr hn (qr_end (r := some (mI x)) (fun v hv => by rw [List.mem_singleton.mp hv]; exact ok_hd o2) hp hD hS) hS.2.2 d X.2.2.2.2.2.1
theorem nar_c {x : Int} (h0 : 0 ≤ x ∧ x < 65536) : narrow .char (.int (Int32.ofInt x)) = .int (Int32.ofInt x) := by
  have hz : (Int32.ofInt x).toInt = x := ti' (by omega) (by omega)
  exact congrArg Value.int (lg_i2c_small (by rw [hz]; omega) (by rw [hz]; omega))
variable {fr lo mc ms : Nat} {Post : Option MV → Mm → Prop}
variable {y : MethodName} {cc' : ByteArray} {maxL fr' lo' mc' ms' n ix : Nat} {ret' : Option FieldType} {avs stk : List MV} {K' : Shp} {z' : Bool} {Post' : Option MV → Mm → Prop}
/-- invokevirtual on a written text -/
theorem at_callO (pc1 : Nat) (X : CX g κ cc own nL) {i : Nat} {b : List Int} (hi : STRB[i]? = some b) (hC : CT g y cc' maxL ret' fr' lo' mc' ms' K z (mX (gT g i) :: avs) D K' z' Post') (hyC : y.cls = "java/lang/String") (hm : MOk y cc' maxL ret' n) (hl : Cond.methodLink own ix y ∈ ALLW) (hi2 : Cond.instanceMethod y ∈ ALLW) (hs : Cond.selects y.cls y y ∈ ALLW) (hn : avs.length = n) (hst : stk = avs.reverse ++ mX (gT g i) :: st) (hr : CRm κ maxL fr' lo' mc' ms' cells slots) (hwd : mwid st ≤ 8) (d : decode cc pc = .ok (.invokevirtual ix, 3)) (e0 : pc + 3 = pc1)
    (kk : ∀ (r : Option MV) (D' : Mm), Post' r D' → AT g κ K' z' (cells + mc') (slots + ms') pc1 l (r.toList ++ st) D') : AT g κ K z cells slots pc l stk D := by
  have hO0 := ((old_at X).1 i b hi).1
  rw [← hyC] at hO0
  subst hst
  subst e0
  intro H ls locs hl' o1 o2 hD hS
  have X2 := X
  obtain ⟨p, e, R, s, m, args, below, meth, c, Q⟩ := κ
  obtain ⟨hx, hb, hnl, hown, hts, hlk, hal, hG, hold, hsz, hnw⟩ := X
  have oka : ∀ v ∈ mX (gT g i) :: avs, okv v := fun v hv => by
    rcases List.mem_cons.mp hv with rfl | hv
    · trivial
    · exact o2 v (List.mem_append_left _ (List.mem_reverse.mpr hv))
  obtain ⟨hm1, hm2, hm3⟩ := hm
  have hW : GoodIn (ALLW) (wsV own ix y.cls y (Cond.code y cc' maxL ret' :: ALLW)) := fun w hw => by
    have : w ∈ ALLW := by
      unfold wsV at hw
      rcases List.mem_append.mp hw with h | h
      · simp only [List.mem_cons, List.not_mem_nil, or_false] at h
        rcases h with rfl | rfl | rfl | rfl <;> assumption
      · rcases List.mem_cons.mp h with rfl | h
        · exact hm1
        · exact h
    exact ⟨this, good_of_word (aw_good this)⟩
  have hMet := hC oka
  rw [List.map_cons, rvv_X] at hMet
  refine call_go (va_runV (As := avs.map (rvv (gB g))) (rest := st.map (rvv (gB g))) (b := gT g i) ⟨hx, hb, hnl, hown, hts⟩ hMet (cwV n hts hW rfl rfl rfl ⟨rfl, hm3⟩ ⟨hr.1, hr.2.1⟩) ⟨wd_blind, va_Orecv hO0 hS, fun U hU hW2 => ⟨rfl, wd_at X2 hD hU hW2⟩⟩ rfl (by rw [List.length_map]; exact hn) (hl'.1.trans hnl) ?_ (lv_room (by rw [mwid_sum]; exact hwd)) d ⟨hr.2.2.1, hr.2.2.2⟩) hS fun r D' H1 locs1 h1 h2 h3 h4 => ?_
  · show List.map _ _ = _
    rw [List.map_append, List.map_cons, rvv_X, List.map_reverse]
  · rw [map_opt]
    exact kk r D' h2 H1 ls locs1 hl' o1 (ok_opt h1 (fun v hv => o2 v (List.mem_append_right _ (List.mem_cons_of_mem _ hv)))) h3 h4
end STRS
theorem strb_len : ∀ (i : Nat) (b : List Int), STRB[i]? = some b → b.length < 100 ∧ ∀ j, j < b.length → 97 ≤ b.getD j 0 ∧ b.getD j 0 ≤ 122 := by
  have key : ∀ b ∈ STRB, b.length < 100 ∧ ∀ j, j < b.length → 97 ≤ b.getD j 0 ∧ b.getD j 0 ≤ 122 := by decide +kernel
  exact fun i b h => key b (List.mem_of_getElem? h)
theorem dJ0_coder_7d493_0 : decode cJ0_coder_7d493 0 = .ok (.getstatic 38, 3) := by decide +kernel
theorem dJ0_coder_7d493_3 : decode cJ0_coder_7d493 3 = .ok (.ifCond .eq 10, 3) := by decide +kernel
theorem dJ0_coder_7d493_6 : decode cJ0_coder_7d493 6 = .ok (.aload_n 0, 1) := by decide +kernel
theorem dJ0_coder_7d493_7 : decode cJ0_coder_7d493 7 = .ok (.getfield 15, 3) := by decide +kernel
theorem dJ0_coder_7d493_10 : decode cJ0_coder_7d493 10 = .ok (.goto 4, 3) := by decide +kernel
theorem dJ0_coder_7d493_13 : decode cJ0_coder_7d493 13 = .ok (.iconst 1, 1) := by decide +kernel
theorem dJ0_coder_7d493_14 : decode cJ0_coder_7d493 14 = .ok (.ireturn, 1) := by decide +kernel
theorem ct_J0_coder_7d493 {g : Gw} (hG : GF g) (i : Nat) (b : List Int) (hi : STRB[i]? = some b) {K : Shp} {z : Bool} {D : Mm} : CT g yJ0_coder_7d493 cJ0_coder_7d493 1 (some .byte) 0 0 0 0 K z [mX (gT g i)] D K z (fun r D' => r = some (mI 0) ∧ D' = D) := by
  refine CT.mk hG (by decide +kernel) (Nat.le_of_ble_eq_true rfl) (fun κ X Rt _ ok => ?_)
  refine at_xcompact 3 X dJ0_coder_7d493_0 rfl ?_
  refine at_if_eq 6 13 X dJ0_coder_7d493_3 rfl (by decide) (fun h => absurd h (by decide)) (fun _ => ?_)
  refine at_xload_n 7 X rfl rfl dJ0_coder_7d493_6 rfl ?_
  refine at_xcoder 10 X hi dJ0_coder_7d493_7 rfl ?_
  refine at_goto 14 X dJ0_coder_7d493_10 (by decide) ?_
  exact at_nret X Rt (narrow_byte _) ⟨rfl, rfl⟩ (Nat.le_refl _) (Nat.le_refl _) dJ0_coder_7d493_14
theorem dJ0_length_8abf5_0 : decode cJ0_length_8abf5 0 = .ok (.aload_n 0, 1) := by decide +kernel
theorem dJ0_length_8abf5_1 : decode cJ0_length_8abf5 1 = .ok (.getfield 9, 3) := by decide +kernel
theorem dJ0_length_8abf5_4 : decode cJ0_length_8abf5 4 = .ok (.arraylength, 1) := by decide +kernel
theorem dJ0_length_8abf5_5 : decode cJ0_length_8abf5 5 = .ok (.aload_n 0, 1) := by decide +kernel
theorem dJ0_length_8abf5_6 : decode cJ0_length_8abf5 6 = .ok (.invokevirtual 335, 3) := by decide +kernel
theorem dJ0_length_8abf5_9 : decode cJ0_length_8abf5 9 = .ok (.ishr, 1) := by decide +kernel
theorem dJ0_length_8abf5_10 : decode cJ0_length_8abf5 10 = .ok (.ireturn, 1) := by decide +kernel
theorem ct_J0_length_8abf5 {g : Gw} (hG : GF g) (i : Nat) (b : List Int) (hi : STRB[i]? = some b) {K : Shp} {z : Bool} {D : Mm} : CT g yJ0_length_8abf5 cJ0_length_8abf5 1 (some .int) 1 20 0 0 K z [mX (gT g i)] D K z (fun r D' => r = some (mI (b.length : Int)) ∧ D' = D) := by
  refine CT.mk hG (by decide +kernel) (Nat.le_of_ble_eq_true rfl) (fun κ X Rt _ ok => ?_)
  have hbl := (strb_len i b hi).1
  refine at_xload_n 1 X rfl rfl dJ0_length_8abf5_0 rfl ?_
  refine at_xvalue 4 X hi dJ0_length_8abf5_1 rfl ?_
  refine at_xtlen 5 X hi hbl dJ0_length_8abf5_4 rfl ?_
  refine at_xload_n 6 X rfl rfl dJ0_length_8abf5_5 rfl ?_
  refine at_callO 9 X hi (ct_J0_coder_7d493 hG i b hi) rfl mo_J0_coder_7d493 w_975 vo_J0_coder_7d493.1 vo_J0_coder_7d493.2 rfl rfl (crm Rt (by decide)) (Nat.le_of_ble_eq_true rfl) dJ0_length_8abf5_6 rfl ?_
  rintro _ _ ⟨rfl, rfl⟩
  refine at_ishrV 10 X (b.length : Int) (by have h := ishr_eq (v := (b.length : Int)) (by omega) (by omega) (k := 0) (by omega); rw [Int.pow_zero, Int.ediv_one] at h; exact h) dJ0_length_8abf5_9 rfl ?_
  exact at_iret X Rt ⟨rfl, rfl⟩ (Nat.le_refl _) (Nat.le_refl _) dJ0_length_8abf5_10
theorem dJ0_isLatin1_aae02_0 : decode cJ0_isLatin1_aae02 0 = .ok (.getstatic 38, 3) := by decide +kernel
theorem dJ0_isLatin1_aae02_3 : decode cJ0_isLatin1_aae02 3 = .ok (.ifCond .eq 14, 3) := by decide +kernel
theorem dJ0_isLatin1_aae02_6 : decode cJ0_isLatin1_aae02 6 = .ok (.aload_n 0, 1) := by decide +kernel
theorem dJ0_isLatin1_aae02_7 : decode cJ0_isLatin1_aae02 7 = .ok (.getfield 15, 3) := by decide +kernel
theorem dJ0_isLatin1_aae02_10 : decode cJ0_isLatin1_aae02 10 = .ok (.ifCond .ne 7, 3) := by decide +kernel
theorem dJ0_isLatin1_aae02_13 : decode cJ0_isLatin1_aae02 13 = .ok (.iconst 1, 1) := by decide +kernel
theorem dJ0_isLatin1_aae02_14 : decode cJ0_isLatin1_aae02 14 = .ok (.goto 4, 3) := by decide +kernel
theorem dJ0_isLatin1_aae02_17 : decode cJ0_isLatin1_aae02 17 = .ok (.iconst 0, 1) := by decide +kernel
theorem dJ0_isLatin1_aae02_18 : decode cJ0_isLatin1_aae02 18 = .ok (.ireturn, 1) := by decide +kernel
theorem ct_J0_isLatin1_aae02 {g : Gw} (hG : GF g) (i : Nat) (b : List Int) (hi : STRB[i]? = some b) {K : Shp} {z : Bool} {D : Mm} : CT g yJ0_isLatin1_aae02 cJ0_isLatin1_aae02 1 (some .boolean) 0 0 0 0 K z [mX (gT g i)] D K z (fun r D' => r = some (mI 1) ∧ D' = D) := by
  refine CT.mk hG (by decide +kernel) (Nat.le_of_ble_eq_true rfl) (fun κ X Rt _ ok => ?_)
  refine at_xcompact 3 X dJ0_isLatin1_aae02_0 rfl ?_
  refine at_if_eq 6 17 X dJ0_isLatin1_aae02_3 rfl (by decide) (fun h => absurd h (by decide)) (fun _ => ?_)
  refine at_xload_n 7 X rfl rfl dJ0_isLatin1_aae02_6 rfl ?_
  refine at_xcoder 10 X hi dJ0_isLatin1_aae02_7 rfl ?_
  refine at_if_ne 13 17 X dJ0_isLatin1_aae02_10 rfl (by decide) (fun h => absurd rfl h) (fun _ => ?_)
  refine at_iconst 14 X (by decide) dJ0_isLatin1_aae02_13 rfl ?_
  refine at_goto 18 X dJ0_isLatin1_aae02_14 (by decide) ?_
  exact at_zret X Rt ⟨rfl, rfl⟩ (Or.inr rfl) (Nat.le_refl _) (Nat.le_refl _) dJ0_isLatin1_aae02_18
theorem dJ3_checkIndex_8e157_0 : decode cJ3_checkIndex_8e157 0 = .ok (.iload_n 0, 1) := by decide +kernel
theorem dJ3_checkIndex_8e157_1 : decode cJ3_checkIndex_8e157 1 = .ok (.ifCond .lt 8, 3) := by decide +kernel
theorem dJ3_checkIndex_8e157_4 : decode cJ3_checkIndex_8e157 4 = .ok (.iload_n 0, 1) := by decide +kernel
theorem dJ3_checkIndex_8e157_5 : decode cJ3_checkIndex_8e157 5 = .ok (.iload_n 1, 1) := by decide +kernel
theorem dJ3_checkIndex_8e157_6 : decode cJ3_checkIndex_8e157 6 = .ok (.if_icmp .lt 10, 3) := by decide +kernel
theorem dJ3_checkIndex_8e157_9 : decode cJ3_checkIndex_8e157 9 = .ok (.aload_n 2, 1) := by decide +kernel
theorem dJ3_checkIndex_8e157_10 : decode cJ3_checkIndex_8e157 10 = .ok (.iload_n 0, 1) := by decide +kernel
theorem dJ3_checkIndex_8e157_11 : decode cJ3_checkIndex_8e157 11 = .ok (.iload_n 1, 1) := by decide +kernel
theorem dJ3_checkIndex_8e157_12 : decode cJ3_checkIndex_8e157 12 = .ok (.invokestatic 95, 3) := by decide +kernel
theorem dJ3_checkIndex_8e157_15 : decode cJ3_checkIndex_8e157 15 = .ok (.athrow, 1) := by decide +kernel
theorem dJ3_checkIndex_8e157_16 : decode cJ3_checkIndex_8e157 16 = .ok (.iload_n 0, 1) := by decide +kernel
theorem dJ3_checkIndex_8e157_17 : decode cJ3_checkIndex_8e157 17 = .ok (.ireturn, 1) := by decide +kernel
theorem ct_J3_checkIndex_8e157 {g : Gw} (hG : GF g) (x y : Int) (v : MV) (hv : v.1 = 2 ∨ v.1 = 3) (h : 0 ≤ x ∧ x < y) {K : Shp} {z : Bool} {D : Mm} : CT g yJ3_checkIndex_8e157 cJ3_checkIndex_8e157 3 (some .int) 0 0 0 0 K z [mI x, mI y, v] D K z (fun r D' => r = some (mI x) ∧ D' = D) := by
  refine CT.mk hG (by decide +kernel) (by rcases v with ⟨t, q⟩; rcases hv with h1 | h1 <;> (subst h1; exact Nat.le_of_ble_eq_true rfl)) (fun κ X Rt _ ok => ?_)
  refine at_iload_n 1 X rfl rfl dJ3_checkIndex_8e157_0 rfl ?_
  refine at_if_lt 4 9 X dJ3_checkIndex_8e157_1 rfl (by decide) (fun h => by omega) (fun _ => ?_)
  refine at_iload_n 5 X rfl rfl dJ3_checkIndex_8e157_4 rfl ?_
  refine at_iload_n 6 X rfl rfl dJ3_checkIndex_8e157_5 rfl ?_
  refine at_icmp_lt 9 16 X dJ3_checkIndex_8e157_6 rfl (by decide) (fun _ => ?_) (fun h => by omega)
  refine at_iload_n 17 X rfl rfl dJ3_checkIndex_8e157_16 rfl ?_
  exact at_iret X Rt ⟨rfl, rfl⟩ (Nat.le_refl _) (Nat.le_refl _) dJ3_checkIndex_8e157_17
theorem dJ0_checkIndex_df160_0 : decode cJ0_checkIndex_df160 0 = .ok (.iload_n 0, 1) := by decide +kernel
theorem dJ0_checkIndex_df160_1 : decode cJ0_checkIndex_df160 1 = .ok (.iload_n 1, 1) := by decide +kernel
theorem dJ0_checkIndex_df160_2 : decode cJ0_checkIndex_df160 2 = .ok (.getstatic 1053, 3) := by decide +kernel
theorem dJ0_checkIndex_df160_5 : decode cJ0_checkIndex_df160 5 = .ok (.invokestatic 1059, 3) := by decide +kernel
theorem dJ0_checkIndex_df160_8 : decode cJ0_checkIndex_df160 8 = .ok (.pop, 1) := by decide +kernel
theorem dJ0_checkIndex_df160_9 : decode cJ0_checkIndex_df160 9 = .ok (.return_, 1) := by decide +kernel
theorem ct_J0_checkIndex_df160 {g : Gw} (hG : GF g) (x y : Int) (h : 0 ≤ x ∧ x < y) {K : Shp} {z : Bool} {D : Mm} : CT g yJ0_checkIndex_df160 cJ0_checkIndex_df160 2 none 1 22 0 0 K z [mI x, mI y] D K z (fun r D' => r = none ∧ D' = D) := by
  refine CT.mk hG (by decide +kernel) (Nat.le_of_ble_eq_true rfl) (fun κ X Rt _ ok => ?_)
  refine at_iload_n 1 X rfl rfl dJ0_checkIndex_df160_0 rfl ?_
  refine at_iload_n 2 X rfl rfl dJ0_checkIndex_df160_1 rfl ?_
  refine at_xform 5 X dJ0_checkIndex_df160_2 rfl (fun a => ?_) (fun a => ?_)
  · refine at_callS 8 X (ct_J3_checkIndex_8e157 hG x y (2, a) (Or.inl rfl) h) mo_J3_checkIndex_8e157 w_997 so_J3_checkIndex_8e157 rfl rfl (crm Rt (by decide)) (Nat.le_of_ble_eq_true rfl) dJ0_checkIndex_df160_5 rfl ?_
    rintro _ _ ⟨rfl, rfl⟩
    refine at_pop 9 X (show ¬ (0 : Nat) = 1 by decide) dJ0_checkIndex_df160_8 rfl ?_
    exact at_vret X Rt ⟨rfl, rfl⟩ (Nat.le_refl _) (Nat.le_refl _) dJ0_checkIndex_df160_9
  · refine at_callS 8 X (ct_J3_checkIndex_8e157 hG x y (mX a) (Or.inr rfl) h) mo_J3_checkIndex_8e157 w_997 so_J3_checkIndex_8e157 rfl rfl (crm Rt (by decide)) (Nat.le_of_ble_eq_true rfl) dJ0_checkIndex_df160_5 rfl ?_
    rintro _ _ ⟨rfl, rfl⟩
    refine at_pop 9 X (show ¬ (0 : Nat) = 1 by decide) dJ0_checkIndex_df160_8 rfl ?_
    exact at_vret X Rt ⟨rfl, rfl⟩ (Nat.le_refl _) (Nat.le_refl _) dJ0_checkIndex_df160_9
theorem dJ1_charAt_3b067_0 : decode cJ1_charAt_3b067 0 = .ok (.iload_n 1, 1) := by decide +kernel
theorem dJ1_charAt_3b067_1 : decode cJ1_charAt_3b067 1 = .ok (.aload_n 0, 1) := by decide +kernel
theorem dJ1_charAt_3b067_2 : decode cJ1_charAt_3b067 2 = .ok (.arraylength, 1) := by decide +kernel
theorem dJ1_charAt_3b067_3 : decode cJ1_charAt_3b067 3 = .ok (.invokestatic 9, 3) := by decide +kernel
theorem dJ1_charAt_3b067_6 : decode cJ1_charAt_3b067 6 = .ok (.aload_n 0, 1) := by decide +kernel
theorem dJ1_charAt_3b067_7 : decode cJ1_charAt_3b067 7 = .ok (.iload_n 1, 1) := by decide +kernel
theorem dJ1_charAt_3b067_8 : decode cJ1_charAt_3b067 8 = .ok (.baload, 1) := by decide +kernel
theorem dJ1_charAt_3b067_9 : decode cJ1_charAt_3b067 9 = .ok (.sipush 255, 3) := by decide +kernel
theorem dJ1_charAt_3b067_12 : decode cJ1_charAt_3b067 12 = .ok (.iand, 1) := by decide +kernel
theorem dJ1_charAt_3b067_13 : decode cJ1_charAt_3b067 13 = .ok (.i2c, 1) := by decide +kernel
theorem dJ1_charAt_3b067_14 : decode cJ1_charAt_3b067 14 = .ok (.ireturn, 1) := by decide +kernel
theorem ct_J1_charAt_3b067 {g : Gw} (hG : GF g) (i : Nat) (b : List Int) (hi : STRB[i]? = some b) (j : Nat) (hj : j < b.length) {K : Shp} {z : Bool} {D : Mm} : CT g yJ1_charAt_3b067 cJ1_charAt_3b067 2 (some .char) 2 43 0 0 K z [mX (gV g i), mI (j : Int)] D K z (fun r D' => r = some (mI (b.getD j 0)) ∧ D' = D) := by
  refine CT.mk hG (by decide +kernel) (Nat.le_of_ble_eq_true rfl) (fun κ X Rt _ ok => ?_)
  obtain ⟨hbl, hch⟩ := strb_len i b hi
  have hcj := hch j hj
  refine at_iload_n 1 X rfl rfl dJ1_charAt_3b067_0 rfl ?_
  refine at_xload_n 2 X rfl rfl dJ1_charAt_3b067_1 rfl ?_
  refine at_xtlen 3 X hi hbl dJ1_charAt_3b067_2 rfl ?_
  refine at_callS 6 X (ct_J0_checkIndex_df160 hG (j : Int) (b.length : Int) (by omega)) mo_J0_checkIndex_df160 w_992 so_J0_checkIndex_df160 rfl rfl (crm Rt (by decide)) (Nat.le_of_ble_eq_true rfl) dJ1_charAt_3b067_3 rfl ?_
  rintro _ _ ⟨rfl, rfl⟩
  refine at_xload_n 7 X rfl rfl dJ1_charAt_3b067_6 rfl ?_
  refine at_iload_n 8 X rfl rfl dJ1_charAt_3b067_7 rfl ?_
  refine at_xtb 9 X hi hbl hj (by omega) dJ1_charAt_3b067_8 rfl ?_
  refine at_sipush 12 X (by decide) (by decide) dJ1_charAt_3b067_9 rfl ?_
  refine at_iandV 13 X (b.getD j 0) (by rw [show (255 : Int) = 2 ^ 8 - 1 by decide, iand_mask (by decide)]; omega) dJ1_charAt_3b067_12 rfl ?_
  refine at_xi2c 14 X (by omega) dJ1_charAt_3b067_13 rfl ?_
  exact at_nret X Rt (nar_c (by omega)) ⟨rfl, rfl⟩ (Nat.le_refl _) (Nat.le_refl _) dJ1_charAt_3b067_14
theorem dJ0_charAt_5068e_0 : decode cJ0_charAt_5068e 0 = .ok (.aload_n 0, 1) := by decide +kernel
theorem dJ0_charAt_5068e_1 : decode cJ0_charAt_5068e 1 = .ok (.invokevirtual 492, 3) := by decide +kernel
theorem dJ0_charAt_5068e_4 : decode cJ0_charAt_5068e 4 = .ok (.ifCond .eq 12, 3) := by decide +kernel
theorem dJ0_charAt_5068e_7 : decode cJ0_charAt_5068e 7 = .ok (.aload_n 0, 1) := by decide +kernel
theorem dJ0_charAt_5068e_8 : decode cJ0_charAt_5068e 8 = .ok (.getfield 9, 3) := by decide +kernel
theorem dJ0_charAt_5068e_11 : decode cJ0_charAt_5068e 11 = .ok (.iload_n 1, 1) := by decide +kernel
theorem dJ0_charAt_5068e_12 : decode cJ0_charAt_5068e 12 = .ok (.invokestatic 495, 3) := by decide +kernel
theorem dJ0_charAt_5068e_15 : decode cJ0_charAt_5068e 15 = .ok (.ireturn, 1) := by decide +kernel
theorem dJ0_charAt_5068e_16 : decode cJ0_charAt_5068e 16 = .ok (.aload_n 0, 1) := by decide +kernel
theorem dJ0_charAt_5068e_17 : decode cJ0_charAt_5068e 17 = .ok (.getfield 9, 3) := by decide +kernel
theorem dJ0_charAt_5068e_20 : decode cJ0_charAt_5068e 20 = .ok (.iload_n 1, 1) := by decide +kernel
theorem dJ0_charAt_5068e_21 : decode cJ0_charAt_5068e 21 = .ok (.invokestatic 498, 3) := by decide +kernel
theorem dJ0_charAt_5068e_24 : decode cJ0_charAt_5068e 24 = .ok (.ireturn, 1) := by decide +kernel
theorem ct_J0_charAt_5068e {g : Gw} (hG : GF g) (i : Nat) (b : List Int) (hi : STRB[i]? = some b) (j : Nat) (hj : j < b.length) {K : Shp} {z : Bool} {D : Mm} : CT g yJ0_charAt_5068e cJ0_charAt_5068e 2 (some .char) 3 64 0 0 K z [mX (gT g i), mI (j : Int)] D K z (fun r D' => r = some (mI (b.getD j 0)) ∧ D' = D) := by
  refine CT.mk hG (by decide +kernel) (Nat.le_of_ble_eq_true rfl) (fun κ X Rt _ ok => ?_)
  obtain ⟨hbl, hch⟩ := strb_len i b hi
  have hcj := hch j hj
  refine at_xload_n 1 X rfl rfl dJ0_charAt_5068e_0 rfl ?_
  refine at_callO 4 X hi (ct_J0_isLatin1_aae02 hG i b hi) rfl mo_J0_isLatin1_aae02 w_985 vo_J0_isLatin1_aae02.1 vo_J0_isLatin1_aae02.2 rfl rfl (crm Rt (by decide)) (Nat.le_of_ble_eq_true rfl) dJ0_charAt_5068e_1 rfl ?_
  rintro _ _ ⟨rfl, rfl⟩
  refine at_if_eq 7 16 X dJ0_charAt_5068e_4 rfl (by decide) (fun h => absurd h (by decide)) (fun _ => ?_)
  refine at_xload_n 8 X rfl rfl dJ0_charAt_5068e_7 rfl ?_
  refine at_xvalue 11 X hi dJ0_charAt_5068e_8 rfl ?_
  refine at_iload_n 12 X rfl rfl dJ0_charAt_5068e_11 rfl ?_
  refine at_callS 15 X (ct_J1_charAt_3b067 hG i b hi j hj) mo_J1_charAt_3b067 w_989 so_J1_charAt_3b067 rfl rfl (crm Rt (by decide)) (Nat.le_of_ble_eq_true rfl) dJ0_charAt_5068e_12 rfl ?_
  rintro _ _ ⟨rfl, rfl⟩
  exact at_nret X Rt (nar_c (by omega)) ⟨rfl, rfl⟩ (Nat.le_refl _) (Nat.le_refl _) dJ0_charAt_5068e_15
