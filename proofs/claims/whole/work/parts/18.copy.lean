section COPY
/-- n values laid over a row from place dp on -/
theorem arrV_pairs (cI : ClassId) (N at_ : Nat) : ∀ (xs : List Value) (i : Nat) (f : Nat → Value), (arrV cI N f).storePairs at_ (xs.zipIdx i) = arrV cI N (fun k => if at_ + i ≤ k ∧ k < at_ + i + xs.length then xs.getD (k - (at_ + i)) .null else f k)
  | [], i, f => by
    show arrV cI N f = _
    refine congrArg (arrV cI N) (funext fun k => ?_)
    rw [if_neg (by intro h; simp only [List.length_nil] at h; omega)]
  | x :: xs, i, f => by
    rw [List.zipIdx_cons]
    show ((arrV cI N f).setSlot (at_ + i) x).storePairs at_ (xs.zipIdx (i + 1)) = _
    rw [arrV_store, arrV_pairs cI N at_ xs (i + 1)]
    refine congrArg (arrV cI N) (funext fun k => ?_)
    rcases Nat.lt_trichotomy k (at_ + i) with h | h | h
    · rw [if_neg (by omega), if_neg (by omega)]; simp [updV, Nat.ne_of_lt h]
    · subst h
      rw [if_neg (by omega), if_pos (by simp only [List.length_cons]; omega)]; simp [updV]
    · by_cases c : k < at_ + i + 1 + xs.length
      · rw [if_pos (by omega), if_pos (by simp only [List.length_cons]; omega), show k - (at_ + i) = (k - (at_ + (i + 1))) + 1 by omega, List.getD_cons_succ]
      · rw [if_neg (by omega), if_neg (by simp only [List.length_cons]; omega)]; simp [updV, show k ≠ at_ + i by omega]
theorem arrV_copied (c0 c1 : ClassId) {n0 n1 sp dp n : Nat} (f g : Nat → Value) (hs : sp + n ≤ n0) : (arrV c1 n1 g).storeRun dp ((arrV c0 n0 f).stretch sp n) = arrV c1 n1 (fun k => if dp ≤ k ∧ k < dp + n then f (sp + (k - dp)) else g k) := by
  have e : (arrV c0 n0 f).stretch sp n = (List.range n).map (fun i => f (sp + i)) := by
    unfold Cell.stretch
    refine List.map_congr_left fun i hi => ?_
    have hi' := List.mem_range.mp hi
    rw [Array.getD_eq_getD_getElem?, arrV_read _ _ (by omega)]
    rfl
  rw [e, Cell.storeRun, arrV_pairs]
  refine congrArg (arrV c1 n1) (funext fun k => ?_)
  simp only [List.length_map, List.length_range, Nat.add_zero]
  by_cases h : dp ≤ k ∧ k < dp + n
  · rw [if_pos h, if_pos h, List.getD_eq_getElem?_getD, List.getElem?_map, List.getElem?_range (by omega)]
    rfl
  · rw [if_neg h, if_neg h]
/-- what System.arraycopy leaves -/
def cpy (D : Mm) (a b sp dp n : Nat) : Mm := fun q j => if q = b ∧ dp ≤ j ∧ j < dp + n then D a (sp + (j - dp)) else D q j
variable {g : Gw} {κ : Kp} {cc : ByteArray} {own : String} {nL : Nat} {K : Shp} {cells slots pc : Nat} {l : List (Nat × MV)} {st : List MV} {D : Mm}
theorem at_copyI (pc' : Nat) (X : CX g κ cc own nL) {z : Bool} (a b : Nat) {n0 n1 ix sp dp n : Nat} {xs xd xn : Int} (hs : xs = (sp : Int)) (hd : xd = (dp : Int)) (hn : xn = (n : Int)) (ha : K[a]? = some (0, n0)) (hb' : K[b]? = some (0, n1)) (h4 : sp + n ≤ n0) (h5 : dp + n ≤ n1) (h6 : n0 < 2147483648) (h7 : n1 < 2147483648) (hlk' : Cond.methodLink own ix arraycopyName ∈ ALLW) (hfr : 1 ≤ (kR κ).frames) (hlo : (st.map fun v => if v.1 = 1 then 2 else 1).sum + (nativeFrameWords "java/lang/System" "arraycopy" 5 + 11) ≤ (kR κ).locals) (d : decode cc pc = .ok (.invokestatic ix, 3)) (e0 : pc + 3 = pc') (kk : AT g κ K z cells slots pc' l st (cpy D a b sp dp n)) : AT g κ K z cells slots pc l (mI xn :: mI xd :: mR b :: mI xs :: mR a :: st) D := by
  obtain ⟨p, e, R, s, m, args, below, meth, c, Q⟩ := κ
  obtain ⟨hx, hb, hnl, hown, hts, hlk, hal, hG, hold, hsz, hnw⟩ := X
  subst e0
  subst hs
  subst hd
  subst hn
  intro H ls locs hl o1 o2 hD hS
  have ok3 := ok_tl (ok_tl (ok_tl (ok_tl (ok_tl o2))))
  obtain ⟨i1, i2⟩ := idx_in (x := (n : Int)) (n := n + 1) (by omega) (by omega) (ok_hd o2)
  obtain ⟨j1, j2⟩ := idx_in (x := (dp : Int)) (n := dp + 1) (by omega) (by omega) (ok_hd (ok_tl o2))
  obtain ⟨k1, k2⟩ := idx_in (x := (sp : Int)) (n := sp + 1) (by omega) (by omega) (ok_hd (ok_tl (ok_tl (ok_tl o2))))
  rw [Int.toNat_natCast] at i2 j2 k2
  have tn : (Int32.ofInt (n : Int)).toInt = (n : Int) := ti' (ok_hd o2).1 (ok_hd o2).2
  have td : (Int32.ofInt (dp : Int)).toInt = (dp : Int) := ti' (ok_hd (ok_tl o2)).1 (ok_hd (ok_tl o2)).2
  have ts : (Int32.ofInt (sp : Int)).toInt = (sp : Int) := ti' (ok_hd (ok_tl (ok_tl (ok_tl o2)))).1 (ok_hd (ok_tl (ok_tl (ok_tl o2)))).2
  have hKa := (hK_of hG hal).2 0 _ rfl
  have ca := arr_at (t := 0) (by decide) hD ha
  have cb := arr_at (t := 0) (by decide) hD hb'
  intro T hT Xs
  obtain ⟨-, q0, hq0, m0, hm0⟩ := hKa.1 n0 (fun j => rvv (gB g) (etag 0, D a j))
  obtain ⟨-, q1, hq1, m1, hm1⟩ := hKa.1 n1 (fun j => rvv (gB g) (etag 0, D b j))
  rw [List.map_cons, List.map_cons, List.map_cons, List.map_cons, List.map_cons, rvv_ref, rvv_ref]
  have hcat : ((st.map (rvv (gB g))).map fun v => v.category).sum = (st.map fun v => if v.1 = 1 then 2 else 1).sum := by
    rw [List.map_map]
    exact congrArg List.sum (List.map_congr_left fun v _ => rvv_cat (gB g) v)
  obtain ⟨vm', X', step⟩ := Xs.arraycopy hx hown (hts _ hlk') (hts _ w_775) (hts _ w_774) (hts _ w_144) (src := gB g + a) (dst := gB g + b) (cs := arrV (g.2.2.1 0) n0 (fun j => rvv (gB g) (etag 0, D a j))) (cd := arrV (g.2.2.1 0) n1 (fun j => rvv (gB g) (etag 0, D b j))) (srcPos := Int32.ofInt (sp : Int)) (destPos := Int32.ofInt (dp : Int)) (n := Int32.ofInt (n : Int)) (by rw [hT]; exact ca) (by rw [hT]; exact cb)
    (fun _ h => by cases h) (fun _ h => by cases h) (fun h => by cases h) (fun h => by cases h) hq0 hq1 hm0 hm1 (by simp) (fun h => k1 (Or.inl h)) (fun h => j1 (Or.inl h)) (fun h => i1 (Or.inl h))
    (by rw [ts, tn]; show ¬ _ > ((arrV _ n0 _).slots.size : Int); rw [arrV_size]; omega)
    (by rw [td, tn]; show ¬ _ > ((arrV _ n1 _).slots.size : Int); rw [arrV_size]; omega)
    (fun vm₁ _ i hi => by
      have e : (arrV (g.2.2.1 0) n0 (fun j => rvv (gB g) (etag 0, D a j))).slots.getD ((Int32.ofInt (sp : Int)).toNatClampNeg + i) .null = .int (Int32.ofInt (D a ((Int32.ofInt (sp : Int)).toNatClampNeg + i))) := by
        rw [Array.getD_eq_getD_getElem?, arrV_read _ _ (by rw [k2]; rw [i2] at hi; omega)]
        rfl
      rw [e]
      exact ⟨rfl, trivial⟩)
    (g := F0 m pc ls (.int (Int32.ofInt (n : Int)) :: .int (Int32.ofInt (dp : Int)) :: .ref (gB g + b) :: .int (Int32.ofInt (sp : Int)) :: .ref (gB g + a) :: st.map (rvv (gB g)))) rfl (by show _ = _; exact hl.1) (rest := st.map (rvv (gB g))) rfl (by show decode c.code pc = _; rw [hb]; exact d) hfr (by show 2 * 0 + _ + _ ≤ _; rw [hcat]; omega)
  have e1 : copied (arrV (g.2.2.1 0) n0 (fun j => rvv (gB g) (etag 0, D a j))) (arrV (g.2.2.1 0) n1 (fun j => rvv (gB g) (etag 0, D b j))) (Int32.ofInt (sp : Int)) (Int32.ofInt (dp : Int)) (Int32.ofInt (n : Int)) = arrV (g.2.2.1 0) n1 (fun j => rvv (gB g) (etag 0, cpy D a b sp dp n b j)) := by
    have h := arrV_copied (g.2.2.1 0) (g.2.2.1 0) (n0 := n0) (n1 := n1) (sp := sp) (dp := dp) (n := n) (fun j => rvv (gB g) (etag 0, D a j)) (fun j => rvv (gB g) (etag 0, D b j)) h4
    rw [← k2, ← j2, ← i2] at h
    refine Eq.trans h ?_
    rw [k2, j2, i2]
    refine congrArg (arrV (g.2.2.1 0) n1) (funext fun j => ?_)
    by_cases c : dp ≤ j ∧ j < dp + n
    · simp only [cpy, c, if_true, true_and]
    · simp only [cpy, c, if_false, true_and]
  rw [e1] at X' step
  have hl' : gB g + b < H.size := (Array.getElem?_eq_some_iff.mp cb).1
  generalize hcell : arrV (g.2.2.1 0) n1 (fun j => rvv (gB g) (etag 0, cpy D a b sp dp n b j)) = cell at X' step
  have hheap : ((T.setVm vm').setCell (gB g + b) cell).heap = H.setIfInBounds (gB g + b) cell := by rw [← hT]; rfl
  have oq : ∀ q : Nat, q ≠ gB g + b → (H.setIfInBounds (gB g + b) cell)[q]? = H[q]? := fun q hq => by simp [Array.getElem?_setIfInBounds, Ne.symm hq]
  have hat : (H.setIfInBounds (gB g + b) cell)[gB g + b]? = some cell := by simp [Array.getElem?_setIfInBounds, hl']
  have hHD : HD g K z (cpy D a b sp dp n) (H.setIfInBounds (gB g + b) cell) := by
    refine ⟨fun q kq hq => ?_, fun h => by rw [Array.size_setIfInBounds]; exact hD.2.1 h, fun q hq => by rw [oq q (by omega)]; exact hD.2.2.1 q hq, by rw [Array.size_setIfInBounds]; exact hD.2.2.2⟩
    by_cases e : q = b
    · subst e
      rw [hb'] at hq
      cases hq
      refine ⟨?_, fun j hj => ?_⟩
      · unfold cellAt
        rw [if_pos (show (0 : Nat) < 7 by decide), hat, ← hcell]
      · rw [stag_arr (by decide)]
        have hj' : j < n1 := hj
        by_cases c : dp ≤ j ∧ j < dp + n
        · have := (hD.1 a _ ha).2 (sp + (j - dp)) (by show _ < n0; omega)
          rw [stag_arr (by decide)] at this
          simp only [cpy, c, if_true, true_and]
          exact this
        · have := (hD.1 q _ hb').2 j hj
          rw [stag_arr (by decide)] at this
          simp only [cpy, c, if_false, true_and]
          exact this
    · have e2 : cpy D a b sp dp n q = D q := funext fun j => by simp only [cpy, e, false_and, if_false]
      rw [e2]
      exact ⟨hd_kept (hD.1 q kq hq).1 (oq _ (by omega)), (hD.1 q kq hq).2⟩
  obtain ⟨t, a1, b1⟩ := kk _ ls _ hl o1 ok3 hHD ⟨by rw [Array.size_setIfInBounds]; exact hS.1, fun q g1 g2 => by
      rw [oq q (fun e => g2 (by rw [e]; exact Nat.le_add_right _ _))]
      exact hS.2.1 q g1 g2, fun q hq => by
      rcases List.mem_append.mp hq with h | h
      · exact hS.2.2 q h
      · obtain ⟨z, -, hz⟩ := List.mem_map.mp h
        rw [← hz]
        exact Nat.le_add_right _ _⟩ _ hheap X'
  exact ⟨t, step t a1, b1⟩
theorem ov_cpy {E : Mm} {a b sp dp n : Nat} (ha : rtab.getD a [] = []) (hb : rtab.getD b [] = []) : cpy (ov E) a b sp dp n = ov (cpy E a b sp dp n) := by
  funext q j
  by_cases c : q = b ∧ dp ≤ j ∧ j < dp + n
  · have e : rtv q j = none := by rw [c.1]; exact rtv_e hb _
    rw [ov_n e]
    simp only [cpy, c, and_self, if_true]
    exact ov_n (rtv_e ha _)
  · cases h : rtv q j with
    | none => rw [ov_n h]; simp only [cpy, c, if_false]; exact ov_n h
    | some v => rw [ov_s h]; simp only [cpy, c, if_false]; exact ov_s h
theorem m_copyI (pc' : Nat) (X : CX g κ cc own nL) {z : Bool} {E : Mm} {a b n0 n1 ix sp dp n : Nat} {xs xd xn : Int} (hs : xs = (sp : Int)) (hd : xd = (dp : Int)) (hn : xn = (n : Int)) (ha : K[a]? = some (0, n0)) (hae : rtab.getD a [] = []) (hb' : K[b]? = some (0, n1)) (hbe : rtab.getD b [] = []) (h4 : sp + n ≤ n0) (h5 : dp + n ≤ n1) (h6 : n0 < 2147483648) (h7 : n1 < 2147483648) (hlk' : Cond.methodLink own ix arraycopyName ∈ ALLW) (hfr : 1 ≤ (kR κ).frames) (hlo : (st.map fun v => if v.1 = 1 then 2 else 1).sum + (nativeFrameWords "java/lang/System" "arraycopy" 5 + 11) ≤ (kR κ).locals) (d : decode cc pc = .ok (.invokestatic ix, 3)) (e0 : pc + 3 = pc') (kk : AT g κ K z cells slots pc' l st (ov (cpy E a b sp dp n))) : AT g κ K z cells slots pc l (mI xn :: mI xd :: mR b :: mI xs :: mR a :: st) (ov E) := at_copyI pc' X a b hs hd hn ha hb' h4 h5 h6 h7 hlk' hfr hlo d e0 (by rw [ov_cpy hae hbe]; exact kk)
end COPY
