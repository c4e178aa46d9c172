section ROWS
variable {g : Gw} {κ : Kp} {cc : ByteArray} {own : String} {nL : Nat} {K : Shp} {z : Bool} {cells slots pc : Nat} {l : List (Nat × MV)} {st : List MV} {D : Mm}
theorem at_iconst (pc' : Nat) (X : CX g κ cc own nL) {n : Int} (hn : -2147483648 ≤ n ∧ n < 2147483648) (d : decode cc pc = .ok (.iconst n, 1)) (e0 : pc + 1 = pc') (k : AT g κ K z cells slots pc' l (mI n :: st) D) : AT g κ K z cells slots pc l (st) D := by
  obtain ⟨p, e, R, s, m, args, below, meth, c, Q⟩ := κ
  obtain ⟨hx, hb, hnl, hown, hts, hlk, hal, hG, hold, hsz, hnw⟩ := X
  subst e0
  intro H ls locs hl o1 o2 hD hS
  exact lv_iconst hx hb d rfl (k H ls locs hl o1 (ok_cons (v := mI n) hn o2) hD hS)
theorem at_bipush (pc' : Nat) (X : CX g κ cc own nL) {n : Int} (hn : -2147483648 ≤ n ∧ n < 2147483648) (hv : (Int8.ofInt n).toInt32 = Int32.ofInt n) (d : decode cc pc = .ok (.bipush n, 2)) (e0 : pc + 2 = pc') (k : AT g κ K z cells slots pc' l (mI n :: st) D) : AT g κ K z cells slots pc l (st) D := by
  obtain ⟨p, e, R, s, m, args, below, meth, c, Q⟩ := κ
  obtain ⟨hx, hb, hnl, hown, hts, hlk, hal, hG, hold, hsz, hnw⟩ := X
  subst e0
  intro H ls locs hl o1 o2 hD hS
  exact lv_bipush hx hb d hv (k H ls locs hl o1 (ok_cons (v := mI n) hn o2) hD hS)
theorem at_sipush (pc' : Nat) (X : CX g κ cc own nL) {n : Int} (hn : -2147483648 ≤ n ∧ n < 2147483648) (hv : (Int16.ofInt n).toInt32 = Int32.ofInt n) (d : decode cc pc = .ok (.sipush n, 3)) (e0 : pc + 3 = pc') (k : AT g κ K z cells slots pc' l (mI n :: st) D) : AT g κ K z cells slots pc l (st) D := by
  obtain ⟨p, e, R, s, m, args, below, meth, c, Q⟩ := κ
  obtain ⟨hx, hb, hnl, hown, hts, hlk, hal, hG, hold, hsz, hnw⟩ := X
  subst e0
  intro H ls locs hl o1 o2 hD hS
  exact lv_sipush hx hb d hv (k H ls locs hl o1 (ok_cons (v := mI n) hn o2) hD hS)
theorem at_lconst (pc' : Nat) (X : CX g κ cc own nL) {n : Fin 2} {v : Int} (hn : -9223372036854775808 ≤ v ∧ v < 9223372036854775808) (hv : Int64.ofNat (n : Nat) = Int64.ofInt v) (d : decode cc pc = .ok (.lconst n, 1)) (e0 : pc + 1 = pc') (k : AT g κ K z cells slots pc' l (mL v :: st) D) : AT g κ K z cells slots pc l (st) D := by
  obtain ⟨p, e, R, s, m, args, below, meth, c, Q⟩ := κ
  obtain ⟨hx, hb, hnl, hown, hts, hlk, hal, hG, hold, hsz, hnw⟩ := X
  subst e0
  intro H ls locs hl o1 o2 hD hS
  exact lv_lconst hx hb d hv (k H ls locs hl o1 (ok_cons (v := mL v) hn o2) hD hS)
theorem at_ldc (pc' : Nat) (X : CX g κ cc own nL) {ix : Nat} {n : Int} {v : Int32} (hw : Jvm.Cond.constant own ix v ∈ ALLW) (hn : -2147483648 ≤ n ∧ n < 2147483648) (hv : v = Int32.ofInt n) (d : decode cc pc = .ok (.ldc ix, 2)) (e0 : pc + 2 = pc') (k : AT g κ K z cells slots pc' l (mI n :: st) D) : AT g κ K z cells slots pc l (st) D := by
  obtain ⟨p, e, R, s, m, args, below, meth, c, Q⟩ := κ
  obtain ⟨hx, hb, hnl, hown, hts, hlk, hal, hG, hold, hsz, hnw⟩ := X
  subst e0
  intro H ls locs hl o1 o2 hD hS
  subst hv
  exact lv_ldc hx hb hown (hts _ hw) d (k H ls locs hl o1 (ok_cons (v := mI n) hn o2) hD hS)
theorem at_ldc2 (pc' : Nat) (X : CX g κ cc own nL) {ix : Nat} {n : Int} {v : Int64} (hw : Jvm.Cond.constantLong own ix v ∈ ALLW) (hn : -9223372036854775808 ≤ n ∧ n < 9223372036854775808) (hv : v = Int64.ofInt n) (d : decode cc pc = .ok (.ldc2_w ix, 3)) (e0 : pc + 3 = pc') (k : AT g κ K z cells slots pc' l (mL n :: st) D) : AT g κ K z cells slots pc l (st) D := by
  obtain ⟨p, e, R, s, m, args, below, meth, c, Q⟩ := κ
  obtain ⟨hx, hb, hnl, hown, hts, hlk, hal, hG, hold, hsz, hnw⟩ := X
  subst e0
  intro H ls locs hl o1 o2 hD hS
  subst hv
  exact lv_ldc2 hx hb hown (hts _ hw) d (k H ls locs hl o1 (ok_cons (v := mL n) hn o2) hD hS)
theorem at_iload_n (pc' : Nat) (X : CX g κ cc own nL) {kk : Fin 4} {i : Nat} {x : Int} (hi : (kk : Nat) = i) (h : lget l i = some (mI x)) (d : decode cc pc = .ok (.iload_n kk, 1)) (e0 : pc + 1 = pc') (k : AT g κ K z cells slots pc' l (mI x :: st) D) : AT g κ K z cells slots pc l (st) D := by
  obtain ⟨p, e, R, s, m, args, below, meth, c, Q⟩ := κ
  obtain ⟨hx, hb, hnl, hown, hts, hlk, hal, hG, hold, hsz, hnw⟩ := X
  subst e0
  intro H ls locs hl o1 o2 hD hS
  exact lv_iload_n hx hb d hi (lget_at hl h) (k H ls locs hl o1 (ok_cons (lget_ok h o1) o2) hD hS)
theorem at_iload (pc' : Nat) (X : CX g κ cc own nL) {i : Nat} {x : Int} (h : lget l i = some (mI x)) (d : decode cc pc = .ok (.iload i, 2)) (e0 : pc + 2 = pc') (k : AT g κ K z cells slots pc' l (mI x :: st) D) : AT g κ K z cells slots pc l (st) D := by
  obtain ⟨p, e, R, s, m, args, below, meth, c, Q⟩ := κ
  obtain ⟨hx, hb, hnl, hown, hts, hlk, hal, hG, hold, hsz, hnw⟩ := X
  subst e0
  intro H ls locs hl o1 o2 hD hS
  exact lv_iload hx hb d (lget_at hl h) (k H ls locs hl o1 (ok_cons (lget_ok h o1) o2) hD hS)
theorem at_lload_n (pc' : Nat) (X : CX g κ cc own nL) {kk : Fin 4} {i : Nat} {x : Int} (hi : (kk : Nat) = i) (h : lget l i = some (mL x)) (d : decode cc pc = .ok (.lload_n kk, 1)) (e0 : pc + 1 = pc') (k : AT g κ K z cells slots pc' l (mL x :: st) D) : AT g κ K z cells slots pc l (st) D := by
  obtain ⟨p, e, R, s, m, args, below, meth, c, Q⟩ := κ
  obtain ⟨hx, hb, hnl, hown, hts, hlk, hal, hG, hold, hsz, hnw⟩ := X
  subst e0
  intro H ls locs hl o1 o2 hD hS
  exact lv_lload_n hx hb d hi (lget_at hl h) (k H ls locs hl o1 (ok_cons (lget_ok h o1) o2) hD hS)
theorem at_lload (pc' : Nat) (X : CX g κ cc own nL) {i : Nat} {x : Int} (h : lget l i = some (mL x)) (d : decode cc pc = .ok (.lload i, 2)) (e0 : pc + 2 = pc') (k : AT g κ K z cells slots pc' l (mL x :: st) D) : AT g κ K z cells slots pc l (st) D := by
  obtain ⟨p, e, R, s, m, args, below, meth, c, Q⟩ := κ
  obtain ⟨hx, hb, hnl, hown, hts, hlk, hal, hG, hold, hsz, hnw⟩ := X
  subst e0
  intro H ls locs hl o1 o2 hD hS
  exact lv_lload hx hb d (lget_at hl h) (k H ls locs hl o1 (ok_cons (lget_ok h o1) o2) hD hS)
theorem at_aload_n (pc' : Nat) (X : CX g κ cc own nL) {kk : Fin 4} {i a : Nat} (hi : (kk : Nat) = i) (h : lget l i = some (mR a)) (d : decode cc pc = .ok (.aload_n kk, 1)) (e0 : pc + 1 = pc') (k : AT g κ K z cells slots pc' l (mR a :: st) D) : AT g κ K z cells slots pc l (st) D := by
  obtain ⟨p, e, R, s, m, args, below, meth, c, Q⟩ := κ
  obtain ⟨hx, hb, hnl, hown, hts, hlk, hal, hG, hold, hsz, hnw⟩ := X
  subst e0
  intro H ls locs hl o1 o2 hD hS
  have er : rvv (gB g) (mR a) = .ref (gB g + a) := rvv_ref _ _
  have hg := lget_at hl h
  rw [er] at hg
  have hk := k H ls locs hl o1 (ok_cons (lget_ok h o1) o2) hD hS
  rw [List.map_cons, er] at hk
  exact lv_aload_n hx hb d hi hg hk
theorem at_aload (pc' : Nat) (X : CX g κ cc own nL) {i a : Nat} (h : lget l i = some (mR a)) (d : decode cc pc = .ok (.aload i, 2)) (e0 : pc + 2 = pc') (k : AT g κ K z cells slots pc' l (mR a :: st) D) : AT g κ K z cells slots pc l (st) D := by
  obtain ⟨p, e, R, s, m, args, below, meth, c, Q⟩ := κ
  obtain ⟨hx, hb, hnl, hown, hts, hlk, hal, hG, hold, hsz, hnw⟩ := X
  subst e0
  intro H ls locs hl o1 o2 hD hS
  have er : rvv (gB g) (mR a) = .ref (gB g + a) := rvv_ref _ _
  have hg := lget_at hl h
  rw [er] at hg
  have hk := k H ls locs hl o1 (ok_cons (lget_ok h o1) o2) hD hS
  rw [List.map_cons, er] at hk
  exact lv_aload hx hb d hg hk
theorem at_xload_n (pc' : Nat) (X : CX g κ cc own nL) {kk : Fin 4} {i a : Nat} (hi : (kk : Nat) = i) (h : lget l i = some (mX a)) (d : decode cc pc = .ok (.aload_n kk, 1)) (e0 : pc + 1 = pc') (k : AT g κ K z cells slots pc' l (mX a :: st) D) : AT g κ K z cells slots pc l (st) D := by
  obtain ⟨p, e, R, s, m, args, below, meth, c, Q⟩ := κ
  obtain ⟨hx, hb, hnl, hown, hts, hlk, hal, hG, hold, hsz, hnw⟩ := X
  subst e0
  intro H ls locs hl o1 o2 hD hS
  exact lv_aload_n hx hb d hi (lget_at hl h) (k H ls locs hl o1 (ok_cons (lget_ok h o1) o2) hD hS)
theorem at_istore_n (pc' : Nat) (X : CX g κ cc own nL) {kk : Fin 4} {i : Nat} {x : Int} (hi : (kk : Nat) = i) (d : decode cc pc = .ok (.istore_n kk, 1)) (e0 : pc + 1 = pc') (hn : i < nL) (k : AT g κ K z cells slots pc' (lset i (mI x) l) st D) : AT g κ K z cells slots pc l (mI x :: st) D := by
  obtain ⟨p, e, R, s, m, args, below, meth, c, Q⟩ := κ
  obtain ⟨hx, hb, hnl, hown, hts, hlk, hal, hG, hold, hsz, hnw⟩ := X
  subst e0
  intro H ls locs hl o1 o2 hD hS
  subst hnl
  exact lv_istore_n hx hb d hi hl hn rfl (fun ls' hl' => k H ls' locs (lset_has hl') (lset_ok o1 (ok_hd o2)) (ok_tl o2) hD hS)
theorem at_istore (pc' : Nat) (X : CX g κ cc own nL) {i : Nat} {x : Int} (d : decode cc pc = .ok (.istore i, 2)) (e0 : pc + 2 = pc') (hn : i < nL) (k : AT g κ K z cells slots pc' (lset i (mI x) l) st D) : AT g κ K z cells slots pc l (mI x :: st) D := by
  obtain ⟨p, e, R, s, m, args, below, meth, c, Q⟩ := κ
  obtain ⟨hx, hb, hnl, hown, hts, hlk, hal, hG, hold, hsz, hnw⟩ := X
  subst e0
  intro H ls locs hl o1 o2 hD hS
  subst hnl
  exact lv_istore hx hb d hl hn rfl (fun ls' hl' => k H ls' locs (lset_has hl') (lset_ok o1 (ok_hd o2)) (ok_tl o2) hD hS)
theorem at_lstore_n (pc' : Nat) (X : CX g κ cc own nL) {kk : Fin 4} {i : Nat} {x : Int} (hi : (kk : Nat) = i) (d : decode cc pc = .ok (.lstore_n kk, 1)) (e0 : pc + 1 = pc') (hn : i + 1 < nL) (k : AT g κ K z cells slots pc' (lset2 i (mL x) l) st D) : AT g κ K z cells slots pc l (mL x :: st) D := by
  obtain ⟨p, e, R, s, m, args, below, meth, c, Q⟩ := κ
  obtain ⟨hx, hb, hnl, hown, hts, hlk, hal, hG, hold, hsz, hnw⟩ := X
  subst e0
  intro H ls locs hl o1 o2 hD hS
  subst hnl
  exact lv_lstore_n hx hb d hi hl hn rfl (fun ls' hl' => k H ls' locs (lset2_has hl') (lset2_ok o1 (ok_hd o2)) (ok_tl o2) hD hS)
theorem at_lstore (pc' : Nat) (X : CX g κ cc own nL) {i : Nat} {x : Int} (d : decode cc pc = .ok (.lstore i, 2)) (e0 : pc + 2 = pc') (hn : i + 1 < nL) (k : AT g κ K z cells slots pc' (lset2 i (mL x) l) st D) : AT g κ K z cells slots pc l (mL x :: st) D := by
  obtain ⟨p, e, R, s, m, args, below, meth, c, Q⟩ := κ
  obtain ⟨hx, hb, hnl, hown, hts, hlk, hal, hG, hold, hsz, hnw⟩ := X
  subst e0
  intro H ls locs hl o1 o2 hD hS
  subst hnl
  exact lv_lstore hx hb d hl hn rfl (fun ls' hl' => k H ls' locs (lset2_has hl') (lset2_ok o1 (ok_hd o2)) (ok_tl o2) hD hS)
theorem at_astore_n (pc' : Nat) (X : CX g κ cc own nL) {kk : Fin 4} {i a : Nat} (hi : (kk : Nat) = i) (d : decode cc pc = .ok (.astore_n kk, 1)) (e0 : pc + 1 = pc') (hn : i < nL) (k : AT g κ K z cells slots pc' (lset i (mR a) l) st D) : AT g κ K z cells slots pc l (mR a :: st) D := by
  obtain ⟨p, e, R, s, m, args, below, meth, c, Q⟩ := κ
  obtain ⟨hx, hb, hnl, hown, hts, hlk, hal, hG, hold, hsz, hnw⟩ := X
  subst e0
  intro H ls locs hl o1 o2 hD hS
  subst hnl
  have er : rvv (gB g) (mR a) = .ref (gB g + a) := rvv_ref _ _
  rw [List.map_cons, er]
  refine lv_astore_n hx hb d hi hl hn rfl (fun ls' hl' => ?_)
  rw [← er] at hl'
  exact k H ls' locs (lset_has hl') (lset_ok o1 (ok_hd o2)) (ok_tl o2) hD hS
theorem at_astore (pc' : Nat) (X : CX g κ cc own nL) {i a : Nat} (d : decode cc pc = .ok (.astore i, 2)) (e0 : pc + 2 = pc') (hn : i < nL) (k : AT g κ K z cells slots pc' (lset i (mR a) l) st D) : AT g κ K z cells slots pc l (mR a :: st) D := by
  obtain ⟨p, e, R, s, m, args, below, meth, c, Q⟩ := κ
  obtain ⟨hx, hb, hnl, hown, hts, hlk, hal, hG, hold, hsz, hnw⟩ := X
  subst e0
  intro H ls locs hl o1 o2 hD hS
  subst hnl
  have er : rvv (gB g) (mR a) = .ref (gB g + a) := rvv_ref _ _
  rw [List.map_cons, er]
  refine lv_astore hx hb d hl hn rfl (fun ls' hl' => ?_)
  rw [← er] at hl'
  exact k H ls' locs (lset_has hl') (lset_ok o1 (ok_hd o2)) (ok_tl o2) hD hS
theorem at_iinc (pc' : Nat) (X : CX g κ cc own nL) {i : Nat} {n x : Int} (h : lget l i = some (mI x)) (d : decode cc pc = .ok (.iinc i n, 3)) (e0 : pc + 3 = pc') (hn : i < nL) (k : AT g κ K z cells slots pc' (lset i (mI (w32 (x + n))) l) st D) : AT g κ K z cells slots pc l st D := by
  obtain ⟨p, e, R, s, m, args, below, meth, c, Q⟩ := κ
  obtain ⟨hx, hb, hnl, hown, hts, hlk, hal, hG, hold, hsz, hnw⟩ := X
  subst e0
  intro H ls locs hl o1 o2 hD hS
  subst hnl
  obtain ⟨j, hj⟩ := List.getElem?_of_mem (List.mem_map.mpr ⟨(i, mI x), lget_mem h, rfl⟩ : ((i, rvv (gB g) (mI x)) : Nat × Value) ∈ rvl (gB g) l)
  exact lv_iinc hx hb d hl hj (ei_add x n) hn rfl (fun ls' hl' => k H ls' locs (lset_has (v := mI (w32 (x + n))) hl') (lset_ok o1 (w32_ok _)) o2 hD hS)
theorem at_iadd (pc' : Nat) (X : CX g κ cc own nL) {x y : Int} (d : decode cc pc = .ok (.iadd, 1)) (e0 : pc + 1 = pc') (k : AT g κ K z cells slots pc' l (mI (w32 (x + y)) :: st) D) : AT g κ K z cells slots pc l (mI y :: mI x :: st) D := by
  obtain ⟨p, e, R, s, m, args, below, meth, c, Q⟩ := κ
  obtain ⟨hx, hb, hnl, hown, hts, hlk, hal, hG, hold, hsz, hnw⟩ := X
  subst e0
  intro H ls locs hl o1 o2 hD hS
  have hy := ok_hd o2
  have hz := ok_hd (ok_tl o2)
  have hk := k H ls locs hl o1 (ok_cons (v := mI (w32 (x + y))) (w32_ok _) (ok_tl (ok_tl o2))) hD hS
  refine lv_iadd hx hb d ?_
  rw [ei_add]
  exact hk
theorem at_ladd (pc' : Nat) (X : CX g κ cc own nL) {x y : Int} (d : decode cc pc = .ok (.ladd, 1)) (e0 : pc + 1 = pc') (k : AT g κ K z cells slots pc' l (mL (w64 (x + y)) :: st) D) : AT g κ K z cells slots pc l (mL y :: mL x :: st) D := by
  obtain ⟨p, e, R, s, m, args, below, meth, c, Q⟩ := κ
  obtain ⟨hx, hb, hnl, hown, hts, hlk, hal, hG, hold, hsz, hnw⟩ := X
  subst e0
  intro H ls locs hl o1 o2 hD hS
  have hy := ok_hd o2
  have hz := ok_hd (ok_tl o2)
  have hk := k H ls locs hl o1 (ok_cons (v := mL (w64 (x + y))) (w64_ok _) (ok_tl (ok_tl o2))) hD hS
  refine lv_ladd hx hb d ?_
  rw [el_add]
  exact hk
theorem at_isub (pc' : Nat) (X : CX g κ cc own nL) {x y : Int} (d : decode cc pc = .ok (.isub, 1)) (e0 : pc + 1 = pc') (k : AT g κ K z cells slots pc' l (mI (w32 (x - y)) :: st) D) : AT g κ K z cells slots pc l (mI y :: mI x :: st) D := by
  obtain ⟨p, e, R, s, m, args, below, meth, c, Q⟩ := κ
  obtain ⟨hx, hb, hnl, hown, hts, hlk, hal, hG, hold, hsz, hnw⟩ := X
  subst e0
  intro H ls locs hl o1 o2 hD hS
  have hy := ok_hd o2
  have hz := ok_hd (ok_tl o2)
  have hk := k H ls locs hl o1 (ok_cons (v := mI (w32 (x - y))) (w32_ok _) (ok_tl (ok_tl o2))) hD hS
  refine lv_isub hx hb d ?_
  rw [ei_sub]
  exact hk
theorem at_lsub (pc' : Nat) (X : CX g κ cc own nL) {x y : Int} (d : decode cc pc = .ok (.lsub, 1)) (e0 : pc + 1 = pc') (k : AT g κ K z cells slots pc' l (mL (w64 (x - y)) :: st) D) : AT g κ K z cells slots pc l (mL y :: mL x :: st) D := by
  obtain ⟨p, e, R, s, m, args, below, meth, c, Q⟩ := κ
  obtain ⟨hx, hb, hnl, hown, hts, hlk, hal, hG, hold, hsz, hnw⟩ := X
  subst e0
  intro H ls locs hl o1 o2 hD hS
  have hy := ok_hd o2
  have hz := ok_hd (ok_tl o2)
  have hk := k H ls locs hl o1 (ok_cons (v := mL (w64 (x - y))) (w64_ok _) (ok_tl (ok_tl o2))) hD hS
  refine lv_lsub hx hb d ?_
  rw [el_sub]
  exact hk
theorem at_imul (pc' : Nat) (X : CX g κ cc own nL) {x y : Int} (d : decode cc pc = .ok (.imul, 1)) (e0 : pc + 1 = pc') (k : AT g κ K z cells slots pc' l (mI (w32 (x * y)) :: st) D) : AT g κ K z cells slots pc l (mI y :: mI x :: st) D := by
  obtain ⟨p, e, R, s, m, args, below, meth, c, Q⟩ := κ
  obtain ⟨hx, hb, hnl, hown, hts, hlk, hal, hG, hold, hsz, hnw⟩ := X
  subst e0
  intro H ls locs hl o1 o2 hD hS
  have hy := ok_hd o2
  have hz := ok_hd (ok_tl o2)
  have hk := k H ls locs hl o1 (ok_cons (v := mI (w32 (x * y))) (w32_ok _) (ok_tl (ok_tl o2))) hD hS
  refine lv_imul hx hb d ?_
  rw [ei_mul]
  exact hk
theorem at_lmul (pc' : Nat) (X : CX g κ cc own nL) {x y : Int} (d : decode cc pc = .ok (.lmul, 1)) (e0 : pc + 1 = pc') (k : AT g κ K z cells slots pc' l (mL (w64 (x * y)) :: st) D) : AT g κ K z cells slots pc l (mL y :: mL x :: st) D := by
  obtain ⟨p, e, R, s, m, args, below, meth, c, Q⟩ := κ
  obtain ⟨hx, hb, hnl, hown, hts, hlk, hal, hG, hold, hsz, hnw⟩ := X
  subst e0
  intro H ls locs hl o1 o2 hD hS
  have hy := ok_hd o2
  have hz := ok_hd (ok_tl o2)
  have hk := k H ls locs hl o1 (ok_cons (v := mL (w64 (x * y))) (w64_ok _) (ok_tl (ok_tl o2))) hD hS
  refine lv_lmul hx hb d ?_
  rw [el_mul]
  exact hk
theorem at_idiv (pc' : Nat) (X : CX g κ cc own nL) {x y : Int} (hne : ¬ y = 0) (d : decode cc pc = .ok (.idiv, 1)) (e0 : pc + 1 = pc') (k : AT g κ K z cells slots pc' l (mI (w32 (x.tdiv y)) :: st) D) : AT g κ K z cells slots pc l (mI y :: mI x :: st) D := by
  obtain ⟨p, e, R, s, m, args, below, meth, c, Q⟩ := κ
  obtain ⟨hx, hb, hnl, hown, hts, hlk, hal, hG, hold, hsz, hnw⟩ := X
  subst e0
  intro H ls locs hl o1 o2 hD hS
  have hy := ok_hd o2
  have hz := ok_hd (ok_tl o2)
  have hk := k H ls locs hl o1 (ok_cons (v := mI (w32 (x.tdiv y))) (w32_ok _) (ok_tl (ok_tl o2))) hD hS
  refine lv_idiv hx hb d (fun q => hne ((ei_eq hy r0).mp (q.trans o0))) ?_
  rw [ei_div hz hy]
  exact hk
theorem at_irem (pc' : Nat) (X : CX g κ cc own nL) {x y : Int} (hne : ¬ y = 0) (d : decode cc pc = .ok (.irem, 1)) (e0 : pc + 1 = pc') (k : AT g κ K z cells slots pc' l (mI (w32 (x.tmod y)) :: st) D) : AT g κ K z cells slots pc l (mI y :: mI x :: st) D := by
  obtain ⟨p, e, R, s, m, args, below, meth, c, Q⟩ := κ
  obtain ⟨hx, hb, hnl, hown, hts, hlk, hal, hG, hold, hsz, hnw⟩ := X
  subst e0
  intro H ls locs hl o1 o2 hD hS
  have hy := ok_hd o2
  have hz := ok_hd (ok_tl o2)
  have hk := k H ls locs hl o1 (ok_cons (v := mI (w32 (x.tmod y))) (w32_ok _) (ok_tl (ok_tl o2))) hD hS
  refine lv_irem hx hb d (fun q => hne ((ei_eq hy r0).mp (q.trans o0))) ?_
  rw [ei_rem hz hy]
  exact hk
theorem at_ldiv (pc' : Nat) (X : CX g κ cc own nL) {x y : Int} (hne : ¬ y = 0) (d : decode cc pc = .ok (.ldiv, 1)) (e0 : pc + 1 = pc') (k : AT g κ K z cells slots pc' l (mL (w64 (x.tdiv y)) :: st) D) : AT g κ K z cells slots pc l (mL y :: mL x :: st) D := by
  obtain ⟨p, e, R, s, m, args, below, meth, c, Q⟩ := κ
  obtain ⟨hx, hb, hnl, hown, hts, hlk, hal, hG, hold, hsz, hnw⟩ := X
  subst e0
  intro H ls locs hl o1 o2 hD hS
  have hy := ok_hd o2
  have hz := ok_hd (ok_tl o2)
  have hk := k H ls locs hl o1 (ok_cons (v := mL (w64 (x.tdiv y))) (w64_ok _) (ok_tl (ok_tl o2))) hD hS
  refine lv_ldiv hx hb d (fun q => hne ((el_eq hy rl0).mp (q.trans ol0))) ?_
  rw [el_div hz hy]
  exact hk
theorem at_lrem (pc' : Nat) (X : CX g κ cc own nL) {x y : Int} (hne : ¬ y = 0) (d : decode cc pc = .ok (.lrem, 1)) (e0 : pc + 1 = pc') (k : AT g κ K z cells slots pc' l (mL (w64 (x.tmod y)) :: st) D) : AT g κ K z cells slots pc l (mL y :: mL x :: st) D := by
  obtain ⟨p, e, R, s, m, args, below, meth, c, Q⟩ := κ
  obtain ⟨hx, hb, hnl, hown, hts, hlk, hal, hG, hold, hsz, hnw⟩ := X
  subst e0
  intro H ls locs hl o1 o2 hD hS
  have hy := ok_hd o2
  have hz := ok_hd (ok_tl o2)
  have hk := k H ls locs hl o1 (ok_cons (v := mL (w64 (x.tmod y))) (w64_ok _) (ok_tl (ok_tl o2))) hD hS
  refine lv_lrem hx hb d (fun q => hne ((el_eq hy rl0).mp (q.trans ol0))) ?_
  rw [el_rem hz hy]
  exact hk
theorem at_iand (pc' : Nat) (X : CX g κ cc own nL) {x y : Int} (d : decode cc pc = .ok (.iand, 1)) (e0 : pc + 1 = pc') (k : AT g κ K z cells slots pc' l (mI (iand x y) :: st) D) : AT g κ K z cells slots pc l (mI y :: mI x :: st) D := by
  obtain ⟨p, e, R, s, m, args, below, meth, c, Q⟩ := κ
  obtain ⟨hx, hb, hnl, hown, hts, hlk, hal, hG, hold, hsz, hnw⟩ := X
  subst e0
  intro H ls locs hl o1 o2 hD hS
  have hk := k H ls locs hl o1 (ok_cons (v := mI (iand x y)) (ri _) (ok_tl (ok_tl o2))) hD hS
  have ek : rvv (gB g) (mI (iand x y)) = _ := congrArg Value.int (oi _)
  rw [List.map_cons, ek] at hk
  exact lv_iand hx hb d hk
theorem at_land (pc' : Nat) (X : CX g κ cc own nL) {x y : Int} (d : decode cc pc = .ok (.land, 1)) (e0 : pc + 1 = pc') (k : AT g κ K z cells slots pc' l (mL (land x y) :: st) D) : AT g κ K z cells slots pc l (mL y :: mL x :: st) D := by
  obtain ⟨p, e, R, s, m, args, below, meth, c, Q⟩ := κ
  obtain ⟨hx, hb, hnl, hown, hts, hlk, hal, hG, hold, hsz, hnw⟩ := X
  subst e0
  intro H ls locs hl o1 o2 hD hS
  have hk := k H ls locs hl o1 (ok_cons (v := mL (land x y)) (rl _) (ok_tl (ok_tl o2))) hD hS
  have ek : rvv (gB g) (mL (land x y)) = _ := congrArg Value.long (ol _)
  rw [List.map_cons, ek] at hk
  exact lv_land hx hb d hk
theorem at_ior (pc' : Nat) (X : CX g κ cc own nL) {x y : Int} (d : decode cc pc = .ok (.ior, 1)) (e0 : pc + 1 = pc') (k : AT g κ K z cells slots pc' l (mI (ior x y) :: st) D) : AT g κ K z cells slots pc l (mI y :: mI x :: st) D := by
  obtain ⟨p, e, R, s, m, args, below, meth, c, Q⟩ := κ
  obtain ⟨hx, hb, hnl, hown, hts, hlk, hal, hG, hold, hsz, hnw⟩ := X
  subst e0
  intro H ls locs hl o1 o2 hD hS
  have hk := k H ls locs hl o1 (ok_cons (v := mI (ior x y)) (ri _) (ok_tl (ok_tl o2))) hD hS
  have ek : rvv (gB g) (mI (ior x y)) = _ := congrArg Value.int (oi _)
  rw [List.map_cons, ek] at hk
  exact lv_ior hx hb d hk
theorem at_lor (pc' : Nat) (X : CX g κ cc own nL) {x y : Int} (d : decode cc pc = .ok (.lor, 1)) (e0 : pc + 1 = pc') (k : AT g κ K z cells slots pc' l (mL (lor x y) :: st) D) : AT g κ K z cells slots pc l (mL y :: mL x :: st) D := by
  obtain ⟨p, e, R, s, m, args, below, meth, c, Q⟩ := κ
  obtain ⟨hx, hb, hnl, hown, hts, hlk, hal, hG, hold, hsz, hnw⟩ := X
  subst e0
  intro H ls locs hl o1 o2 hD hS
  have hk := k H ls locs hl o1 (ok_cons (v := mL (lor x y)) (rl _) (ok_tl (ok_tl o2))) hD hS
  have ek : rvv (gB g) (mL (lor x y)) = _ := congrArg Value.long (ol _)
  rw [List.map_cons, ek] at hk
  exact lv_lor hx hb d hk
theorem at_ixor (pc' : Nat) (X : CX g κ cc own nL) {x y : Int} (d : decode cc pc = .ok (.ixor, 1)) (e0 : pc + 1 = pc') (k : AT g κ K z cells slots pc' l (mI (ixor x y) :: st) D) : AT g κ K z cells slots pc l (mI y :: mI x :: st) D := by
  obtain ⟨p, e, R, s, m, args, below, meth, c, Q⟩ := κ
  obtain ⟨hx, hb, hnl, hown, hts, hlk, hal, hG, hold, hsz, hnw⟩ := X
  subst e0
  intro H ls locs hl o1 o2 hD hS
  have hk := k H ls locs hl o1 (ok_cons (v := mI (ixor x y)) (ri _) (ok_tl (ok_tl o2))) hD hS
  have ek : rvv (gB g) (mI (ixor x y)) = _ := congrArg Value.int (oi _)
  rw [List.map_cons, ek] at hk
  exact lv_ixor hx hb d hk
theorem at_lxor (pc' : Nat) (X : CX g κ cc own nL) {x y : Int} (d : decode cc pc = .ok (.lxor, 1)) (e0 : pc + 1 = pc') (k : AT g κ K z cells slots pc' l (mL (lxor x y) :: st) D) : AT g κ K z cells slots pc l (mL y :: mL x :: st) D := by
  obtain ⟨p, e, R, s, m, args, below, meth, c, Q⟩ := κ
  obtain ⟨hx, hb, hnl, hown, hts, hlk, hal, hG, hold, hsz, hnw⟩ := X
  subst e0
  intro H ls locs hl o1 o2 hD hS
  have hk := k H ls locs hl o1 (ok_cons (v := mL (lxor x y)) (rl _) (ok_tl (ok_tl o2))) hD hS
  have ek : rvv (gB g) (mL (lxor x y)) = _ := congrArg Value.long (ol _)
  rw [List.map_cons, ek] at hk
  exact lv_lxor hx hb d hk
theorem at_ishl (pc' : Nat) (X : CX g κ cc own nL) {x y : Int} (d : decode cc pc = .ok (.ishl, 1)) (e0 : pc + 1 = pc') (k : AT g κ K z cells slots pc' l (mI (ishl x y) :: st) D) : AT g κ K z cells slots pc l (mI y :: mI x :: st) D := by
  obtain ⟨p, e, R, s, m, args, below, meth, c, Q⟩ := κ
  obtain ⟨hx, hb, hnl, hown, hts, hlk, hal, hG, hold, hsz, hnw⟩ := X
  subst e0
  intro H ls locs hl o1 o2 hD hS
  have hk := k H ls locs hl o1 (ok_cons (v := mI (ishl x y)) (ri _) (ok_tl (ok_tl o2))) hD hS
  have ek : rvv (gB g) (mI (ishl x y)) = _ := congrArg Value.int (oi _)
  rw [List.map_cons, ek] at hk
  exact lv_ishl hx hb d hk
theorem at_ishr (pc' : Nat) (X : CX g κ cc own nL) {x y : Int} (d : decode cc pc = .ok (.ishr, 1)) (e0 : pc + 1 = pc') (k : AT g κ K z cells slots pc' l (mI (ishr x y) :: st) D) : AT g κ K z cells slots pc l (mI y :: mI x :: st) D := by
  obtain ⟨p, e, R, s, m, args, below, meth, c, Q⟩ := κ
  obtain ⟨hx, hb, hnl, hown, hts, hlk, hal, hG, hold, hsz, hnw⟩ := X
  subst e0
  intro H ls locs hl o1 o2 hD hS
  have hk := k H ls locs hl o1 (ok_cons (v := mI (ishr x y)) (ri _) (ok_tl (ok_tl o2))) hD hS
  have ek : rvv (gB g) (mI (ishr x y)) = _ := congrArg Value.int (oi _)
  rw [List.map_cons, ek] at hk
  exact lv_ishr hx hb d hk
theorem at_iushr (pc' : Nat) (X : CX g κ cc own nL) {x y : Int} (d : decode cc pc = .ok (.iushr, 1)) (e0 : pc + 1 = pc') (k : AT g κ K z cells slots pc' l (mI (iushr x y) :: st) D) : AT g κ K z cells slots pc l (mI y :: mI x :: st) D := by
  obtain ⟨p, e, R, s, m, args, below, meth, c, Q⟩ := κ
  obtain ⟨hx, hb, hnl, hown, hts, hlk, hal, hG, hold, hsz, hnw⟩ := X
  subst e0
  intro H ls locs hl o1 o2 hD hS
  have hk := k H ls locs hl o1 (ok_cons (v := mI (iushr x y)) (ri _) (ok_tl (ok_tl o2))) hD hS
  have ek : rvv (gB g) (mI (iushr x y)) = _ := congrArg Value.int (oi _)
  rw [List.map_cons, ek] at hk
  exact lv_iushr hx hb d rfl hk
theorem at_lshl (pc' : Nat) (X : CX g κ cc own nL) {x y : Int} (d : decode cc pc = .ok (.lshl, 1)) (e0 : pc + 1 = pc') (k : AT g κ K z cells slots pc' l (mL (lshl x y) :: st) D) : AT g κ K z cells slots pc l (mI y :: mL x :: st) D := by
  obtain ⟨p, e, R, s, m, args, below, meth, c, Q⟩ := κ
  obtain ⟨hx, hb, hnl, hown, hts, hlk, hal, hG, hold, hsz, hnw⟩ := X
  subst e0
  intro H ls locs hl o1 o2 hD hS
  have hk := k H ls locs hl o1 (ok_cons (v := mL (lshl x y)) (rl _) (ok_tl (ok_tl o2))) hD hS
  have ek : rvv (gB g) (mL (lshl x y)) = _ := congrArg Value.long (ol _)
  rw [List.map_cons, ek] at hk
  exact lv_lshl hx hb d rfl hk
theorem at_lshr (pc' : Nat) (X : CX g κ cc own nL) {x y : Int} (d : decode cc pc = .ok (.lshr, 1)) (e0 : pc + 1 = pc') (k : AT g κ K z cells slots pc' l (mL (lshr x y) :: st) D) : AT g κ K z cells slots pc l (mI y :: mL x :: st) D := by
  obtain ⟨p, e, R, s, m, args, below, meth, c, Q⟩ := κ
  obtain ⟨hx, hb, hnl, hown, hts, hlk, hal, hG, hold, hsz, hnw⟩ := X
  subst e0
  intro H ls locs hl o1 o2 hD hS
  have hk := k H ls locs hl o1 (ok_cons (v := mL (lshr x y)) (rl _) (ok_tl (ok_tl o2))) hD hS
  have ek : rvv (gB g) (mL (lshr x y)) = _ := congrArg Value.long (ol _)
  rw [List.map_cons, ek] at hk
  exact lv_lshr hx hb d rfl hk
theorem at_lushr (pc' : Nat) (X : CX g κ cc own nL) {x y : Int} (d : decode cc pc = .ok (.lushr, 1)) (e0 : pc + 1 = pc') (k : AT g κ K z cells slots pc' l (mL (lushr x y) :: st) D) : AT g κ K z cells slots pc l (mI y :: mL x :: st) D := by
  obtain ⟨p, e, R, s, m, args, below, meth, c, Q⟩ := κ
  obtain ⟨hx, hb, hnl, hown, hts, hlk, hal, hG, hold, hsz, hnw⟩ := X
  subst e0
  intro H ls locs hl o1 o2 hD hS
  have hk := k H ls locs hl o1 (ok_cons (v := mL (lushr x y)) (rl _) (ok_tl (ok_tl o2))) hD hS
  have ek : rvv (gB g) (mL (lushr x y)) = _ := congrArg Value.long (ol _)
  rw [List.map_cons, ek] at hk
  exact lv_lushr hx hb d rfl hk
theorem at_ineg (pc' : Nat) (X : CX g κ cc own nL) {x : Int} (d : decode cc pc = .ok (.ineg, 1)) (e0 : pc + 1 = pc') (k : AT g κ K z cells slots pc' l (mI (w32 (-x)) :: st) D) : AT g κ K z cells slots pc l (mI x :: st) D := by
  obtain ⟨p, e, R, s, m, args, below, meth, c, Q⟩ := κ
  obtain ⟨hx, hb, hnl, hown, hts, hlk, hal, hG, hold, hsz, hnw⟩ := X
  subst e0
  intro H ls locs hl o1 o2 hD hS
  have hy := ok_hd o2
  have hk := k H ls locs hl o1 (ok_cons (v := mI (w32 (-x))) (w32_ok _) (ok_tl o2)) hD hS
  refine lv_ineg hx hb d ?_
  rw [ei_neg]
  exact hk
theorem at_lneg (pc' : Nat) (X : CX g κ cc own nL) {x : Int} (d : decode cc pc = .ok (.lneg, 1)) (e0 : pc + 1 = pc') (k : AT g κ K z cells slots pc' l (mL (w64 (-x)) :: st) D) : AT g κ K z cells slots pc l (mL x :: st) D := by
  obtain ⟨p, e, R, s, m, args, below, meth, c, Q⟩ := κ
  obtain ⟨hx, hb, hnl, hown, hts, hlk, hal, hG, hold, hsz, hnw⟩ := X
  subst e0
  intro H ls locs hl o1 o2 hD hS
  have hy := ok_hd o2
  have hk := k H ls locs hl o1 (ok_cons (v := mL (w64 (-x))) (w64_ok _) (ok_tl o2)) hD hS
  refine lv_lneg hx hb d ?_
  rw [el_neg]
  exact hk
theorem at_i2l (pc' : Nat) (X : CX g κ cc own nL) {x : Int} (d : decode cc pc = .ok (.i2l, 1)) (e0 : pc + 1 = pc') (k : AT g κ K z cells slots pc' l (mL (x) :: st) D) : AT g κ K z cells slots pc l (mI x :: st) D := by
  obtain ⟨p, e, R, s, m, args, below, meth, c, Q⟩ := κ
  obtain ⟨hx, hb, hnl, hown, hts, hlk, hal, hG, hold, hsz, hnw⟩ := X
  subst e0
  intro H ls locs hl o1 o2 hD hS
  have hy := ok_hd o2
  have hk := k H ls locs hl o1 (ok_cons (v := mL (x)) (by have h := hy; simp only [okv] at h ⊢; omega) (ok_tl o2)) hD hS
  exact lv_i2l hx hb d (e_i2l hy) hk
theorem at_l2i (pc' : Nat) (X : CX g κ cc own nL) {x : Int} (d : decode cc pc = .ok (.l2i, 1)) (e0 : pc + 1 = pc') (k : AT g κ K z cells slots pc' l (mI (w32 x) :: st) D) : AT g κ K z cells slots pc l (mL x :: st) D := by
  obtain ⟨p, e, R, s, m, args, below, meth, c, Q⟩ := κ
  obtain ⟨hx, hb, hnl, hown, hts, hlk, hal, hG, hold, hsz, hnw⟩ := X
  subst e0
  intro H ls locs hl o1 o2 hD hS
  have hy := ok_hd o2
  have hk := k H ls locs hl o1 (ok_cons (v := mI (w32 x)) (w32_ok _) (ok_tl o2)) hD hS
  exact lv_l2i hx hb d (e_l2i x) hk
theorem at_i2b (pc' : Nat) (X : CX g κ cc own nL) {x : Int} (d : decode cc pc = .ok (.i2b, 1)) (e0 : pc + 1 = pc') (k : AT g κ K z cells slots pc' l (mI (i2b x) :: st) D) : AT g κ K z cells slots pc l (mI x :: st) D := by
  obtain ⟨p, e, R, s, m, args, below, meth, c, Q⟩ := κ
  obtain ⟨hx, hb, hnl, hown, hts, hlk, hal, hG, hold, hsz, hnw⟩ := X
  subst e0
  intro H ls locs hl o1 o2 hD hS
  have hy := ok_hd o2
  have hk := k H ls locs hl o1 (ok_cons (v := mI (i2b x)) (by simp only [okv, i2b]; omega) (ok_tl o2)) hD hS
  exact lv_i2b hx hb d (e_i2b x) hk
theorem at_lcmp (pc' : Nat) (X : CX g κ cc own nL) {x y : Int} (d : decode cc pc = .ok (.lcmp, 1)) (e0 : pc + 1 = pc') (k : AT g κ K z cells slots pc' l (mI (lcmpI x y) :: st) D) : AT g κ K z cells slots pc l (mL y :: mL x :: st) D := by
  obtain ⟨p, e, R, s, m, args, below, meth, c, Q⟩ := κ
  obtain ⟨hx, hb, hnl, hown, hts, hlk, hal, hG, hold, hsz, hnw⟩ := X
  subst e0
  intro H ls locs hl o1 o2 hD hS
  have hy := ok_hd o2
  have hz := ok_hd (ok_tl o2)
  have hk := k H ls locs hl o1 (ok_cons (v := mI (lcmpI x y)) (lcmpI_ok x y) (ok_tl (ok_tl o2))) hD hS
  refine W.lcmp hx hb d ?_
  rw [e_cmp hz hy]
  exact hk
theorem at_dup (pc' : Nat) (X : CX g κ cc own nL) {v : MV} (hc : ¬ v.1 = 1) (d : decode cc pc = .ok (.dup, 1)) (e0 : pc + 1 = pc') (k : AT g κ K z cells slots pc' l (v :: v :: st) D) : AT g κ K z cells slots pc l (v :: st) D := by
  obtain ⟨p, e, R, s, m, args, below, meth, c, Q⟩ := κ
  obtain ⟨hx, hb, hnl, hown, hts, hlk, hal, hG, hold, hsz, hnw⟩ := X
  subst e0
  intro H ls locs hl o1 o2 hD hS
  exact lv_dup hx hb d (by rw [rvv_cat]; exact if_neg hc) (k H ls locs hl o1 (ok_cons (ok_hd o2) o2) hD hS)
theorem at_pop (pc' : Nat) (X : CX g κ cc own nL) {v : MV} (hc : ¬ v.1 = 1) (d : decode cc pc = .ok (.pop, 1)) (e0 : pc + 1 = pc') (k : AT g κ K z cells slots pc' l (st) D) : AT g κ K z cells slots pc l (v :: st) D := by
  obtain ⟨p, e, R, s, m, args, below, meth, c, Q⟩ := κ
  obtain ⟨hx, hb, hnl, hown, hts, hlk, hal, hG, hold, hsz, hnw⟩ := X
  subst e0
  intro H ls locs hl o1 o2 hD hS
  exact lv_pop hx hb d (by rw [rvv_cat]; exact if_neg hc) (k H ls locs hl o1 (ok_tl o2) hD hS)
theorem at_dup2 (pc' : Nat) (X : CX g κ cc own nL) {v u : MV} (hc : ¬ v.1 = 1) (hc2 : ¬ u.1 = 1) (d : decode cc pc = .ok (.dup2, 1)) (e0 : pc + 1 = pc') (k : AT g κ K z cells slots pc' l (v :: u :: v :: u :: st) D) : AT g κ K z cells slots pc l (v :: u :: st) D := by
  obtain ⟨p, e, R, s, m, args, below, meth, c, Q⟩ := κ
  obtain ⟨hx, hb, hnl, hown, hts, hlk, hal, hG, hold, hsz, hnw⟩ := X
  subst e0
  intro H ls locs hl o1 o2 hD hS
  exact lv_dup2_11 hx hb d (by rw [rvv_cat]; exact if_neg hc) (by rw [rvv_cat]; exact if_neg hc2) (k H ls locs hl o1 (ok_cons (ok_hd o2) (ok_cons (ok_hd (ok_tl o2)) o2)) hD hS)
theorem at_if_eq (pc' tgt : Nat) (X : CX g κ cc own nL) {x : Int} {off : Int} (d : decode cc pc = .ok (.ifCond .eq off, 3)) (e0 : pc + 3 = pc') (ht : (pc : Int) + off = (tgt : Int)) (kt : x = 0 → AT g κ K z cells slots tgt l st D) (kf : ¬ x = 0 → AT g κ K z cells slots pc' l st D) : AT g κ K z cells slots pc l (mI x :: st) D := by
  obtain ⟨p, e, R, s, m, args, below, meth, c, Q⟩ := κ
  obtain ⟨hx, hb, hnl, hown, hts, hlk, hal, hG, hold, hsz, hnw⟩ := X
  subst e0
  intro H ls locs hl o1 o2 hD hS
  have hy := ok_hd o2
  exact lv_if_eq hx hb d ht (fun q => kt ((ei_eq hy r0).mp q) H ls locs hl o1 (ok_tl o2) hD hS) (fun q => kf (fun h => q ((ei_eq hy r0).mpr h)) H ls locs hl o1 (ok_tl o2) hD hS)
theorem at_if_ne (pc' tgt : Nat) (X : CX g κ cc own nL) {x : Int} {off : Int} (d : decode cc pc = .ok (.ifCond .ne off, 3)) (e0 : pc + 3 = pc') (ht : (pc : Int) + off = (tgt : Int)) (kt : ¬ x = 0 → AT g κ K z cells slots tgt l st D) (kf : x = 0 → AT g κ K z cells slots pc' l st D) : AT g κ K z cells slots pc l (mI x :: st) D := by
  obtain ⟨p, e, R, s, m, args, below, meth, c, Q⟩ := κ
  obtain ⟨hx, hb, hnl, hown, hts, hlk, hal, hG, hold, hsz, hnw⟩ := X
  subst e0
  intro H ls locs hl o1 o2 hD hS
  have hy := ok_hd o2
  exact lv_if_ne hx hb d ht (fun q => kt (fun h => q ((ei_eq hy r0).mpr h)) H ls locs hl o1 (ok_tl o2) hD hS) (fun q => kf ((ei_eq hy r0).mp q) H ls locs hl o1 (ok_tl o2) hD hS)
theorem at_if_lt (pc' tgt : Nat) (X : CX g κ cc own nL) {x : Int} {off : Int} (d : decode cc pc = .ok (.ifCond .lt off, 3)) (e0 : pc + 3 = pc') (ht : (pc : Int) + off = (tgt : Int)) (kt : x < 0 → AT g κ K z cells slots tgt l st D) (kf : 0 ≤ x → AT g κ K z cells slots pc' l st D) : AT g κ K z cells slots pc l (mI x :: st) D := by
  obtain ⟨p, e, R, s, m, args, below, meth, c, Q⟩ := κ
  obtain ⟨hx, hb, hnl, hown, hts, hlk, hal, hG, hold, hsz, hnw⟩ := X
  subst e0
  intro H ls locs hl o1 o2 hD hS
  have hy := ok_hd o2
  exact lv_if_lt hx hb d ht (fun q => kt ((ei_lt hy r0).mp q) H ls locs hl o1 (ok_tl o2) hD hS) (fun q => kf (Int.not_lt.mp (fun h => q ((ei_lt hy r0).mpr h))) H ls locs hl o1 (ok_tl o2) hD hS)
theorem at_if_ge (pc' tgt : Nat) (X : CX g κ cc own nL) {x : Int} {off : Int} (d : decode cc pc = .ok (.ifCond .ge off, 3)) (e0 : pc + 3 = pc') (ht : (pc : Int) + off = (tgt : Int)) (kt : 0 ≤ x → AT g κ K z cells slots tgt l st D) (kf : x < 0 → AT g κ K z cells slots pc' l st D) : AT g κ K z cells slots pc l (mI x :: st) D := by
  obtain ⟨p, e, R, s, m, args, below, meth, c, Q⟩ := κ
  obtain ⟨hx, hb, hnl, hown, hts, hlk, hal, hG, hold, hsz, hnw⟩ := X
  subst e0
  intro H ls locs hl o1 o2 hD hS
  have hy := ok_hd o2
  exact lv_if_ge hx hb d ht (fun q => kt ((ei_le r0 hy).mp q) H ls locs hl o1 (ok_tl o2) hD hS) (fun q => kf (Int.not_le.mp (fun h => q ((ei_le r0 hy).mpr h))) H ls locs hl o1 (ok_tl o2) hD hS)
theorem at_if_gt (pc' tgt : Nat) (X : CX g κ cc own nL) {x : Int} {off : Int} (d : decode cc pc = .ok (.ifCond .gt off, 3)) (e0 : pc + 3 = pc') (ht : (pc : Int) + off = (tgt : Int)) (kt : 0 < x → AT g κ K z cells slots tgt l st D) (kf : x ≤ 0 → AT g κ K z cells slots pc' l st D) : AT g κ K z cells slots pc l (mI x :: st) D := by
  obtain ⟨p, e, R, s, m, args, below, meth, c, Q⟩ := κ
  obtain ⟨hx, hb, hnl, hown, hts, hlk, hal, hG, hold, hsz, hnw⟩ := X
  subst e0
  intro H ls locs hl o1 o2 hD hS
  have hy := ok_hd o2
  exact lv_if_gt hx hb d ht (fun q => kt ((ei_lt r0 hy).mp q) H ls locs hl o1 (ok_tl o2) hD hS) (fun q => kf (Int.not_lt.mp (fun h => q ((ei_lt r0 hy).mpr h))) H ls locs hl o1 (ok_tl o2) hD hS)
theorem at_if_le (pc' tgt : Nat) (X : CX g κ cc own nL) {x : Int} {off : Int} (d : decode cc pc = .ok (.ifCond .le off, 3)) (e0 : pc + 3 = pc') (ht : (pc : Int) + off = (tgt : Int)) (kt : x ≤ 0 → AT g κ K z cells slots tgt l st D) (kf : 0 < x → AT g κ K z cells slots pc' l st D) : AT g κ K z cells slots pc l (mI x :: st) D := by
  obtain ⟨p, e, R, s, m, args, below, meth, c, Q⟩ := κ
  obtain ⟨hx, hb, hnl, hown, hts, hlk, hal, hG, hold, hsz, hnw⟩ := X
  subst e0
  intro H ls locs hl o1 o2 hD hS
  have hy := ok_hd o2
  exact lv_if_le hx hb d ht (fun q => kt ((ei_le hy r0).mp q) H ls locs hl o1 (ok_tl o2) hD hS) (fun q => kf (Int.not_le.mp (fun h => q ((ei_le hy r0).mpr h))) H ls locs hl o1 (ok_tl o2) hD hS)
theorem at_icmp_eq (pc' tgt : Nat) (X : CX g κ cc own nL) {x y : Int} {off : Int} (d : decode cc pc = .ok (.if_icmp .eq off, 3)) (e0 : pc + 3 = pc') (ht : (pc : Int) + off = (tgt : Int)) (kt : x = y → AT g κ K z cells slots tgt l st D) (kf : ¬ x = y → AT g κ K z cells slots pc' l st D) : AT g κ K z cells slots pc l (mI y :: mI x :: st) D := by
  obtain ⟨p, e, R, s, m, args, below, meth, c, Q⟩ := κ
  obtain ⟨hx, hb, hnl, hown, hts, hlk, hal, hG, hold, hsz, hnw⟩ := X
  subst e0
  intro H ls locs hl o1 o2 hD hS
  have hy := ok_hd o2
  have hz := ok_hd (ok_tl o2)
  exact lv_icmp_eq hx hb d ht (fun q => kt ((ei_eq hz hy).mp q) H ls locs hl o1 (ok_tl (ok_tl o2)) hD hS) (fun q => kf (fun h => q ((ei_eq hz hy).mpr h)) H ls locs hl o1 (ok_tl (ok_tl o2)) hD hS)
theorem at_icmp_ne (pc' tgt : Nat) (X : CX g κ cc own nL) {x y : Int} {off : Int} (d : decode cc pc = .ok (.if_icmp .ne off, 3)) (e0 : pc + 3 = pc') (ht : (pc : Int) + off = (tgt : Int)) (kt : ¬ x = y → AT g κ K z cells slots tgt l st D) (kf : x = y → AT g κ K z cells slots pc' l st D) : AT g κ K z cells slots pc l (mI y :: mI x :: st) D := by
  obtain ⟨p, e, R, s, m, args, below, meth, c, Q⟩ := κ
  obtain ⟨hx, hb, hnl, hown, hts, hlk, hal, hG, hold, hsz, hnw⟩ := X
  subst e0
  intro H ls locs hl o1 o2 hD hS
  have hy := ok_hd o2
  have hz := ok_hd (ok_tl o2)
  exact lv_icmp_ne hx hb d ht (fun q => kt (fun h => q ((ei_eq hz hy).mpr h)) H ls locs hl o1 (ok_tl (ok_tl o2)) hD hS) (fun q => kf ((ei_eq hz hy).mp q) H ls locs hl o1 (ok_tl (ok_tl o2)) hD hS)
theorem at_icmp_lt (pc' tgt : Nat) (X : CX g κ cc own nL) {x y : Int} {off : Int} (d : decode cc pc = .ok (.if_icmp .lt off, 3)) (e0 : pc + 3 = pc') (ht : (pc : Int) + off = (tgt : Int)) (kt : x < y → AT g κ K z cells slots tgt l st D) (kf : y ≤ x → AT g κ K z cells slots pc' l st D) : AT g κ K z cells slots pc l (mI y :: mI x :: st) D := by
  obtain ⟨p, e, R, s, m, args, below, meth, c, Q⟩ := κ
  obtain ⟨hx, hb, hnl, hown, hts, hlk, hal, hG, hold, hsz, hnw⟩ := X
  subst e0
  intro H ls locs hl o1 o2 hD hS
  have hy := ok_hd o2
  have hz := ok_hd (ok_tl o2)
  exact lv_icmp_lt hx hb d ht (fun q => kt ((ei_lt hz hy).mp q) H ls locs hl o1 (ok_tl (ok_tl o2)) hD hS) (fun q => kf (Int.not_lt.mp (fun h => q ((ei_lt hz hy).mpr h))) H ls locs hl o1 (ok_tl (ok_tl o2)) hD hS)
theorem at_icmp_ge (pc' tgt : Nat) (X : CX g κ cc own nL) {x y : Int} {off : Int} (d : decode cc pc = .ok (.if_icmp .ge off, 3)) (e0 : pc + 3 = pc') (ht : (pc : Int) + off = (tgt : Int)) (kt : y ≤ x → AT g κ K z cells slots tgt l st D) (kf : x < y → AT g κ K z cells slots pc' l st D) : AT g κ K z cells slots pc l (mI y :: mI x :: st) D := by
  obtain ⟨p, e, R, s, m, args, below, meth, c, Q⟩ := κ
  obtain ⟨hx, hb, hnl, hown, hts, hlk, hal, hG, hold, hsz, hnw⟩ := X
  subst e0
  intro H ls locs hl o1 o2 hD hS
  have hy := ok_hd o2
  have hz := ok_hd (ok_tl o2)
  exact lv_icmp_ge hx hb d ht (fun q => kt ((ei_le hy hz).mp q) H ls locs hl o1 (ok_tl (ok_tl o2)) hD hS) (fun q => kf (Int.not_le.mp (fun h => q ((ei_le hy hz).mpr h))) H ls locs hl o1 (ok_tl (ok_tl o2)) hD hS)
theorem at_icmp_gt (pc' tgt : Nat) (X : CX g κ cc own nL) {x y : Int} {off : Int} (d : decode cc pc = .ok (.if_icmp .gt off, 3)) (e0 : pc + 3 = pc') (ht : (pc : Int) + off = (tgt : Int)) (kt : y < x → AT g κ K z cells slots tgt l st D) (kf : x ≤ y → AT g κ K z cells slots pc' l st D) : AT g κ K z cells slots pc l (mI y :: mI x :: st) D := by
  obtain ⟨p, e, R, s, m, args, below, meth, c, Q⟩ := κ
  obtain ⟨hx, hb, hnl, hown, hts, hlk, hal, hG, hold, hsz, hnw⟩ := X
  subst e0
  intro H ls locs hl o1 o2 hD hS
  have hy := ok_hd o2
  have hz := ok_hd (ok_tl o2)
  exact lv_icmp_gt hx hb d ht (fun q => kt ((ei_lt hy hz).mp q) H ls locs hl o1 (ok_tl (ok_tl o2)) hD hS) (fun q => kf (Int.not_lt.mp (fun h => q ((ei_lt hy hz).mpr h))) H ls locs hl o1 (ok_tl (ok_tl o2)) hD hS)
theorem at_icmp_le (pc' tgt : Nat) (X : CX g κ cc own nL) {x y : Int} {off : Int} (d : decode cc pc = .ok (.if_icmp .le off, 3)) (e0 : pc + 3 = pc') (ht : (pc : Int) + off = (tgt : Int)) (kt : x ≤ y → AT g κ K z cells slots tgt l st D) (kf : y < x → AT g κ K z cells slots pc' l st D) : AT g κ K z cells slots pc l (mI y :: mI x :: st) D := by
  obtain ⟨p, e, R, s, m, args, below, meth, c, Q⟩ := κ
  obtain ⟨hx, hb, hnl, hown, hts, hlk, hal, hG, hold, hsz, hnw⟩ := X
  subst e0
  intro H ls locs hl o1 o2 hD hS
  have hy := ok_hd o2
  have hz := ok_hd (ok_tl o2)
  exact lv_icmp_le hx hb d ht (fun q => kt ((ei_le hz hy).mp q) H ls locs hl o1 (ok_tl (ok_tl o2)) hD hS) (fun q => kf (Int.not_le.mp (fun h => q ((ei_le hz hy).mpr h))) H ls locs hl o1 (ok_tl (ok_tl o2)) hD hS)
theorem at_goto (tgt : Nat) (X : CX g κ cc own nL) {off : Int} (d : decode cc pc = .ok (.goto off, 3)) (ht : (pc : Int) + off = (tgt : Int)) (k : AT g κ K z cells slots tgt l st D) : AT g κ K z cells slots pc l st D := by
  obtain ⟨p, e, R, s, m, args, below, meth, c, Q⟩ := κ
  obtain ⟨hx, hb, -⟩ := X
  intro H ls locs hl o1 o2 hD hS
  exact lv_goto hx hb d ht (k H ls locs hl o1 o2 hD hS)
theorem at_tswIn (tgt : Nat) (X : CX g κ cc own nL) {dflt lo hi x off : Int} {offs : Array Int} {len : Nat} (d : decode cc pc = .ok (.tableswitch dflt lo hi offs, len)) (h1 : lo ≤ x ∧ x ≤ hi) (ho : offs[(x - lo).toNat]? = some off) (ht : (pc : Int) + off = (tgt : Int)) (k : AT g κ K z cells slots tgt l st D) : AT g κ K z cells slots pc l (mI x :: st) D := by
  obtain ⟨p, e, R, s, m, args, below, meth, c, Q⟩ := κ
  obtain ⟨hx, hb, -⟩ := X
  intro H ls locs hl o1 o2 hD hS
  have hy := ok_hd o2
  have e1 : (Int32.ofInt x).toInt = x := ti' hy.1 hy.2
  exact lv_tableIn hx hb d (by rw [e1]; omega) (by rw [e1]; omega) (by rw [e1]; exact ho) ht (k H ls locs hl o1 (ok_tl o2) hD hS)
theorem at_tswOut (tgt : Nat) (X : CX g κ cc own nL) {dflt lo hi x : Int} {offs : Array Int} {len : Nat} (d : decode cc pc = .ok (.tableswitch dflt lo hi offs, len)) (h1 : x < lo ∨ hi < x) (ht : (pc : Int) + dflt = (tgt : Int)) (k : AT g κ K z cells slots tgt l st D) : AT g κ K z cells slots pc l (mI x :: st) D := by
  obtain ⟨p, e, R, s, m, args, below, meth, c, Q⟩ := κ
  obtain ⟨hx, hb, -⟩ := X
  intro H ls locs hl o1 o2 hD hS
  have hy := ok_hd o2
  have e1 : (Int32.ofInt x).toInt = x := ti' hy.1 hy.2
  exact lv_tableOut hx hb d (by rw [e1]; exact h1) ht (k H ls locs hl o1 (ok_tl o2) hD hS)
theorem at_lsw (tgt : Nat) (X : CX g κ cc own nL) {dflt x off : Int} {ps : Array (Int × Int)} {len : Nat} (d : decode cc pc = .ok (.lookupswitch dflt ps, len)) (hp : (ps.toList.zip (ps.toList.drop 1)).all (fun (a, next) => a.1 < next.1) = true) (ho : Op.lookupswitch.offset ps.toList dflt x = off) (ht : (pc : Int) + off = (tgt : Int)) (k : AT g κ K z cells slots tgt l st D) : AT g κ K z cells slots pc l (mI x :: st) D := by
  obtain ⟨p, e, R, s, m, args, below, meth, c, Q⟩ := κ
  obtain ⟨hx, hb, -⟩ := X
  intro H ls locs hl o1 o2 hD hS
  have hy := ok_hd o2
  have e1 : (Int32.ofInt x).toInt = x := ti' hy.1 hy.2
  exact lv_lookup hx hb d hp (by rw [e1]; exact ho) ht (k H ls locs hl o1 (ok_tl o2) hD hS)
/-- fewer locals -/
theorem at_sub (l' : List (Nat × MV)) (h : lsub l' l) (k : AT g κ K z cells slots pc l' st D) : AT g κ K z cells slots pc l st D := by
  intro H ls locs hl o1 o2 hD hS
  refine k H ls locs ⟨hl.1, hl.2.1, fun q hq => ?_⟩ (fun q hq => o1 q (lsub_mem h q hq)) o2 hD hS
  obtain ⟨q0, h0, rfl⟩ := List.mem_map.mp hq
  exact hl.2.2 _ (List.mem_map.mpr ⟨q0, lsub_mem h q0 h0, rfl⟩)
/-- another function for the same cells -/
theorem at_mem {D' : Mm} (h : D = D') (k : AT g κ K z cells slots pc l st D') : AT g κ K z cells slots pc l st D := h ▸ k
/-- what the values on the stack and in the locals are bounded by -/
theorem at_okS (k : (∀ v ∈ st, okv v) → (∀ q ∈ l, okv q.2) → AT g κ K z cells slots pc l st D) : AT g κ K z cells slots pc l st D := fun H ls locs hl o1 o2 hD hS => k o2 o1 H ls locs hl o1 o2 hD hS
theorem at_okD (k : (∀ (a : Nat) (kd : Nat × Nat), K[a]? = some kd → okc kd (D a)) → AT g κ K z cells slots pc l st D) : AT g κ K z cells slots pc l st D := fun H ls locs hl o1 o2 hD hS => k (fun a kd h => (hD.1 a kd h).2) H ls locs hl o1 o2 hD hS
theorem at_widen {k n : Nat} (h1 : cells ≤ k) (h2 : slots ≤ n) (kk : AT g κ K z k n pc l st D) : AT g κ K z cells slots pc l st D := fun H ls locs hl o1 o2 hD hS => W.widen h1 h2 (kk H ls locs hl o1 o2 hD hS)
end ROWS
