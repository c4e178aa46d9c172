/-! making cells: while no exception has been thrown the next cell's number is known -/
def nz (D : Mm) (a : Nat) (kd : Nat × Nat) : Mm := fun b j => if b = a then (if stag kd j = 2 then -1 else 0) else D b j
/-- n rows of one kind behind a grid at a -/
def nzR (D : Mm) (a n : Nat) (gk rk : Nat × Nat) : Mm := fun b j => if b = a then (if j < n then ((a + 1 + j : Nat) : Int) else -1) else if a < b ∧ b < a + 1 + n then (if stag rk j = 2 then -1 else 0) else D b j
section MAKE
variable {g : Gw} {κ : Kp} {cc : ByteArray} {own : String} {nL : Nat} {K : Shp} {cells slots pc : Nat} {l : List (Nat × MV)} {st : List MV} {D : Mm}
theorem hd_lt {z : Bool} {H : Heap} {a : Nat} {kd : Nat × Nat} (hD : HD g K z D H) (hK : K[a]? = some kd) : gB g + a < H.size := by
  have hc := (hD.1 a kd hK).1
  unfold cellAt at hc
  split at hc
  · exact (Array.getElem?_eq_some_iff.mp hc).1
  · obtain ⟨cell, q1, -⟩ := hc
    exact (Array.getElem?_eq_some_iff.mp q1).1
theorem nz_ok (kd : Nat × Nat) (j : Nat) : okv (stag kd j, if stag kd j = 2 then -1 else 0) := by
  generalize stag kd j = t
  match t with
  | 0 => exact ⟨by decide, by decide⟩
  | 1 => exact ⟨by decide, by decide⟩
  | n + 2 => trivial
theorem hd_push {H H1 : Heap} {kd : Nat × Nat} (hD : HD g K true D H) (hz : H1.size = H.size + 1) (ho : ∀ q : Nat, q < H.size → H1[q]? = H[q]?) (hc : cellAt g kd (fun j => if stag kd j = 2 then -1 else 0) H.size H1) : HD g (K ++ [kd]) true (nz D K.length kd) H1 := by
  have hs := hD.2.1 rfl
  refine ⟨fun a k hk => ?_, fun _ => by rw [hz, hs, List.length_append]; rfl, fun q hq => by rw [ho q (Nat.lt_of_lt_of_le hq hD.2.2.2)]; exact hD.2.2.1 q hq, by rw [hz]; exact Nat.le_succ_of_le hD.2.2.2⟩
  by_cases hl : a < K.length
  · rw [List.getElem?_append_left hl] at hk
    have e : nz D K.length kd a = D a := funext fun j => if_neg (by omega)
    rw [e]
    exact ⟨hd_kept (hD.1 a k hk).1 (ho _ (hd_lt hD hk)), (hD.1 a k hk).2⟩
  · have hl2 : a < K.length + 1 := by
      have := (List.getElem?_eq_some_iff.mp hk).1
      rw [List.length_append] at this
      exact this
    have ha : a = K.length := by omega
    subst ha
    rw [List.getElem?_append_right (Nat.le_refl _), Nat.sub_self] at hk
    cases hk
    have e : nz D K.length kd K.length = fun j => if stag kd j = 2 then -1 else 0 := funext fun j => if_pos rfl
    rw [e, ← hs]
    exact ⟨hc, fun j _ => nz_ok kd j⟩
theorem hS_push {H0 H H1 : Heap} {locs : List Loc} (h : va_S (gA g) H0 H locs) (hz : H.size ≤ H1.size) (ho : ∀ q : Nat, q < H.size → H1[q]? = H[q]?) : va_S (gA g) H0 H1 locs :=
  ⟨Nat.le_trans h.1 hz, fun q h1 h2 => (ho q (Nat.lt_of_lt_of_le h1 h.1)).trans (h.2.1 q h1 h2), h.2.2⟩
theorem ft_le (ci k : Nat) : (ftL.getD ci []).getD k 0 ≤ 2 := by
  have h : ∀ r ∈ ftL, ∀ t ∈ r, t ≤ 2 := by decide
  rw [List.getD_eq_getElem?_getD, List.getD_eq_getElem?_getD]
  cases h1 : ftL[ci]? with
  | none => simp
  | some r =>
    cases h2 : r[k]? with
    | none => simp [h2]
    | some t => simpa [h2] using h r (List.mem_of_getElem? h1) t (List.mem_of_getElem? h2)
theorem at_new (pc' : Nat) (X : CX g κ cc own nL) {ci ix : Nat} {C : String} {T : u_T} {N : Nat} {ty : Nat → FieldType} (hc : ClsOk ci C T N ty) (hl : Cond.classLink own ix C ∈ ALLW) (hi : Cond.instantiable C N ∈ ALLW) (hn : Cond.initialized C ∈ ALLW) (hrc : cells + 1 ≤ (kR κ).cells) (hrs : slots + N ≤ (kR κ).slots) (d : decode cc pc = .ok (.new ix, 3)) (e0 : pc + 3 = pc') (kk : AT g κ (K ++ [(ci + 7, 0)]) true (cells + 1) (slots + N) pc' l (mR K.length :: st) (nz D K.length (ci + 7, 0))) : AT g κ K true cells slots pc l st D := by
  obtain ⟨p, e, R, s, m, args, below, meth, c, Q⟩ := κ
  obtain ⟨hx, hb, hnl, hown, hts, hlk, hal, hG, hold, hsz, hnw⟩ := X
  subst e0
  intro H ls locs hl' o1 o2 hD hS
  obtain ⟨hcl, hin, hty, hnm, hN, hd, htg⟩ := hc
  have hKn := (hK_of hG hal).1 ci _ hcl
  refine W.newcK hx hb hown (hts _ hl) (hts _ hi) (hts _ hn) rfl d hrc hrs hKn.2.1 rfl fun H1 kC0 hkC e1 z1 o1' => ?_
  have h2 := kk H1 ls locs hl' o1 (ok_cons (v := mR K.length) trivial o2) (hd_push hD z1 o1' ?_) (hS_push hS (by omega) o1')
  · rw [List.map_cons, rvv_ref, ← hD.2.1 rfl] at h2
    exact h2
  · unfold cellAt
    rw [if_neg (by show ¬ (ci + 7 < 7); omega)]
    simp only [Nat.add_sub_cancel, stag_obj]
    have h3 := u_born ty hts hin hKn hkC e1 hty
    have h4 : t_OB H.size (g.1 ci) N (g.2.1 ci) H1 (fun j => rvv (gB g) ((ftL.getD ci []).getD j 0, if (ftL.getD ci []).getD j 0 = 2 then -1 else 0)) := by
      refine h3.to fun k hk => ?_
      obtain ⟨a0, a1, a2⟩ := htg k hk
      have hle := ft_le ci k
      generalize (ftL.getD ci []).getD k 0 = t at a0 a1 a2 hle
      match t with
      | 0 => rcases a0 rfl with e | e <;> rw [e] <;> rfl
      | 1 => rw [a1 rfl]; rfl
      | 2 =>
        have e := a2 rfl
        generalize ty k = f at e
        cases f <;> first | rfl | cases e
      | n + 3 => omega
    rw [hN]
    exact h4
theorem at_newaI (pc' : Nat) (X : CX g κ cc own nL) {n : Nat} {x : Int} (hxn : x = (n : Int)) (hn : n ≤ 60000) (ha : Cond.arrayClass .int ∈ ALLW) (hrc : cells + 1 ≤ (kR κ).cells) (hrs : slots + n ≤ (kR κ).slots) (d : decode cc pc = .ok (.newarray .int, 2)) (e0 : pc + 2 = pc') (kk : AT g κ (K ++ [(0, n)]) true (cells + 1) (slots + n) pc' l (mR K.length :: st) (nz D K.length (0, n))) : AT g κ K true cells slots pc l (mI x :: st) D := by
  obtain ⟨p, e, R, s, m, args, below, meth, c, Q⟩ := κ
  obtain ⟨hx, hb, hnl, hown, hts, hlk, hal, hG, hold, hsz, hnw⟩ := X
  subst e0
  subst hxn
  intro H ls locs hl' o1 o2 hD hS
  obtain ⟨i1, i2⟩ := idx_in (x := (n : Int)) (n := n + 1) (by omega) (by omega) (ok_hd o2)
  have hKs := (hK_of hG hal).2 0 _ rfl
  rw [Int.toNat_natCast] at i2
  refine va_newaK hx hb (atype := .int) (hts _ ha) rfl d rfl (fun q => i1 (Or.inl q)) i2 (by show n * 4 ≤ 536870912; omega) hrc hrs (hD.2.1 rfl) fun H1 cA e1 z1 o1' hAr hNm => ?_
  have hcA : cA = g.2.2.1 0 := Option.some.inj (hNm.symm.trans hKs.2)
  subst hcA
  have h2 := kk H1 ls locs hl' o1 (ok_cons (v := mR K.length) trivial (ok_tl o2)) (hd_push hD (by rw [z1, hD.2.1 rfl]) (fun q hq => o1' q (by rw [← hD.2.1 rfl]; exact hq)) ?_) (hS_push hS (by rw [z1, hD.2.1 rfl]; omega) (fun q hq => o1' q (by rw [← hD.2.1 rfl]; exact hq)))
  · rw [List.map_cons, rvv_ref] at h2
    exact h2
  · rw [hD.2.1 rfl]
    exact e1
theorem at_newaB (pc' : Nat) (X : CX g κ cc own nL) {n : Nat} {x : Int} (hxn : x = (n : Int)) (hn : n ≤ 60000) (ha : Cond.arrayClass .byte ∈ ALLW) (hrc : cells + 1 ≤ (kR κ).cells) (hrs : slots + n ≤ (kR κ).slots) (d : decode cc pc = .ok (.newarray .byte, 2)) (e0 : pc + 2 = pc') (kk : AT g κ (K ++ [(1, n)]) true (cells + 1) (slots + n) pc' l (mR K.length :: st) (nz D K.length (1, n))) : AT g κ K true cells slots pc l (mI x :: st) D := by
  obtain ⟨p, e, R, s, m, args, below, meth, c, Q⟩ := κ
  obtain ⟨hx, hb, hnl, hown, hts, hlk, hal, hG, hold, hsz, hnw⟩ := X
  subst e0
  subst hxn
  intro H ls locs hl' o1 o2 hD hS
  obtain ⟨i1, i2⟩ := idx_in (x := (n : Int)) (n := n + 1) (by omega) (by omega) (ok_hd o2)
  have hKs := (hK_of hG hal).2 1 _ rfl
  rw [Int.toNat_natCast] at i2
  refine va_newaK hx hb (atype := .byte) (hts _ ha) rfl d rfl (fun q => i1 (Or.inl q)) i2 (by show n * 1 ≤ 536870912; omega) hrc hrs (hD.2.1 rfl) fun H1 cA e1 z1 o1' hAr hNm => ?_
  have hcA : cA = g.2.2.1 1 := Option.some.inj (hNm.symm.trans hKs.2)
  subst hcA
  have h2 := kk H1 ls locs hl' o1 (ok_cons (v := mR K.length) trivial (ok_tl o2)) (hd_push hD (by rw [z1, hD.2.1 rfl]) (fun q hq => o1' q (by rw [← hD.2.1 rfl]; exact hq)) ?_) (hS_push hS (by rw [z1, hD.2.1 rfl]; omega) (fun q hq => o1' q (by rw [← hD.2.1 rfl]; exact hq)))
  · rw [List.map_cons, rvv_ref] at h2
    exact h2
  · rw [hD.2.1 rfl]
    exact e1
theorem at_newaZ (pc' : Nat) (X : CX g κ cc own nL) {n : Nat} {x : Int} (hxn : x = (n : Int)) (hn : n ≤ 60000) (ha : Cond.arrayClass .boolean ∈ ALLW) (hrc : cells + 1 ≤ (kR κ).cells) (hrs : slots + n ≤ (kR κ).slots) (d : decode cc pc = .ok (.newarray .boolean, 2)) (e0 : pc + 2 = pc') (kk : AT g κ (K ++ [(2, n)]) true (cells + 1) (slots + n) pc' l (mR K.length :: st) (nz D K.length (2, n))) : AT g κ K true cells slots pc l (mI x :: st) D := by
  obtain ⟨p, e, R, s, m, args, below, meth, c, Q⟩ := κ
  obtain ⟨hx, hb, hnl, hown, hts, hlk, hal, hG, hold, hsz, hnw⟩ := X
  subst e0
  subst hxn
  intro H ls locs hl' o1 o2 hD hS
  obtain ⟨i1, i2⟩ := idx_in (x := (n : Int)) (n := n + 1) (by omega) (by omega) (ok_hd o2)
  have hKs := (hK_of hG hal).2 2 _ rfl
  rw [Int.toNat_natCast] at i2
  refine va_newaK hx hb (atype := .boolean) (hts _ ha) rfl d rfl (fun q => i1 (Or.inl q)) i2 (by show n * 1 ≤ 536870912; omega) hrc hrs (hD.2.1 rfl) fun H1 cA e1 z1 o1' hAr hNm => ?_
  have hcA : cA = g.2.2.1 2 := Option.some.inj (hNm.symm.trans hKs.2)
  subst hcA
  have h2 := kk H1 ls locs hl' o1 (ok_cons (v := mR K.length) trivial (ok_tl o2)) (hd_push hD (by rw [z1, hD.2.1 rfl]) (fun q hq => o1' q (by rw [← hD.2.1 rfl]; exact hq)) ?_) (hS_push hS (by rw [z1, hD.2.1 rfl]; omega) (fun q hq => o1' q (by rw [← hD.2.1 rfl]; exact hq)))
  · rw [List.map_cons, rvv_ref] at h2
    exact h2
  · rw [hD.2.1 rfl]
    exact e1
theorem at_newaJ (pc' : Nat) (X : CX g κ cc own nL) {n : Nat} {x : Int} (hxn : x = (n : Int)) (hn : n ≤ 60000) (ha : Cond.arrayClass .long ∈ ALLW) (hrc : cells + 1 ≤ (kR κ).cells) (hrs : slots + n ≤ (kR κ).slots) (d : decode cc pc = .ok (.newarray .long, 2)) (e0 : pc + 2 = pc') (kk : AT g κ (K ++ [(3, n)]) true (cells + 1) (slots + n) pc' l (mR K.length :: st) (nz D K.length (3, n))) : AT g κ K true cells slots pc l (mI x :: st) D := by
  obtain ⟨p, e, R, s, m, args, below, meth, c, Q⟩ := κ
  obtain ⟨hx, hb, hnl, hown, hts, hlk, hal, hG, hold, hsz, hnw⟩ := X
  subst e0
  subst hxn
  intro H ls locs hl' o1 o2 hD hS
  obtain ⟨i1, i2⟩ := idx_in (x := (n : Int)) (n := n + 1) (by omega) (by omega) (ok_hd o2)
  have hKs := (hK_of hG hal).2 3 _ rfl
  rw [Int.toNat_natCast] at i2
  refine va_newaK hx hb (atype := .long) (hts _ ha) rfl d rfl (fun q => i1 (Or.inl q)) i2 (by show n * 8 ≤ 536870912; omega) hrc hrs (hD.2.1 rfl) fun H1 cA e1 z1 o1' hAr hNm => ?_
  have hcA : cA = g.2.2.1 3 := Option.some.inj (hNm.symm.trans hKs.2)
  subst hcA
  have h2 := kk H1 ls locs hl' o1 (ok_cons (v := mR K.length) trivial (ok_tl o2)) (hd_push hD (by rw [z1, hD.2.1 rfl]) (fun q hq => o1' q (by rw [← hD.2.1 rfl]; exact hq)) ?_) (hS_push hS (by rw [z1, hD.2.1 rfl]; omega) (fun q hq => o1' q (by rw [← hD.2.1 rfl]; exact hq)))
  · rw [List.map_cons, rvv_ref] at h2
    exact h2
  · rw [hD.2.1 rfl]
    exact e1
theorem at_objInit (pc' : Nat) (X : CX g κ cc own nL) {z : Bool} {a ix : Nat} (hl : Cond.methodLink own ix Lib.objectInit ∈ ALLW) (hi : Cond.instanceMethod Lib.objectInit ∈ ALLW) (hc : Cond.code Lib.objectInit ⟨#[0xb1]⟩ 1 none ∈ ALLW) (hf : 1 ≤ (kR κ).frames) (hlo : mwid st + 12 ≤ (kR κ).locals) (d : decode cc pc = .ok (.invokespecial ix, 3)) (e0 : pc + 3 = pc') (kk : AT g κ K z cells slots pc' l st D) : AT g κ K z cells slots pc l (mR a :: st) D := by
  obtain ⟨p, e, R, s, m, args, below, meth, c, Q⟩ := κ
  obtain ⟨hx, hb, hnl, hown, hts, hlk, hal, hG, hold, hsz, hnw⟩ := X
  subst e0
  intro H ls locs hl' o1 o2 hD hS
  have h2 := kk H ls locs hl' o1 (ok_tl o2) hD hS
  rw [List.map_cons, rvv_ref]
  exact W.objInit hx hb hown (hts _ hl) (hts _ hi) (hts _ hc) rfl hl'.1 rfl d hf (by show 2 * 0 + _ + 12 ≤ _; rw [mwid_sum]; omega) h2
end MAKE
section MAKE2
variable {g : Gw} {κ : Kp} {cc : ByteArray} {own : String} {nL : Nat} {K : Shp} {cells slots pc : Nat} {l : List (Nat × MV)} {st : List MV} {D : Mm}
theorem at_anewa (pc' : Nat) (X : CX g κ cc own nL) {n ix : Nat} {x : Int} (hxn : x = (n : Int)) (hn : n ≤ 60000) (hcl : Cond.classLink own ix "ShadeBeams$Image" ∈ ALLW) (hrc : cells + 1 ≤ (kR κ).cells) (hrs : slots + n ≤ (kR κ).slots) (d : decode cc pc = .ok (.anewarray ix, 3)) (e0 : pc + 3 = pc') (kk : AT g κ (K ++ [(4, n)]) true (cells + 1) (slots + n) pc' l (mR K.length :: st) (nz D K.length (4, n))) : AT g κ K true cells slots pc l (mI x :: st) D := by
  obtain ⟨p, e, R, s, m, args, below, meth, c, Q⟩ := κ
  obtain ⟨hx, hb, hnl, hown, hts, hlk, hal, hG, hold, hsz, hnw⟩ := X
  subst e0
  subst hxn
  intro H ls locs hl' o1 o2 hD hS
  obtain ⟨i1, i2⟩ := idx_in (x := (n : Int)) (n := n + 1) (by omega) (by omega) (ok_hd o2)
  have hKs := (hK_of hG hal).2 4 _ rfl
  rw [Int.toNat_natCast] at i2
  refine W.anew hx hb hown (hts _ hcl) (va_AO.use (va_AO.moved hal hG.2.2.2.2.1)) rfl d rfl (fun q => i1 (Or.inl q)) (by rw [i2]; omega) hrc (by rw [i2]; exact hrs) fun cA kA comp f1 f2 f3 f4 => ?_
  rw [i2]
  generalize hH1 : H.push ({ cls := cA, slots := Array.replicate n .null, vm := .none } : Cell) = H1
  have z1 : H1.size = H.size + 1 := by rw [← hH1, Array.size_push]
  have e1 : H1[H.size]? = some (arrV cA n (fun _ => .null)) := by rw [← hH1, Array.getElem?_push_size, ← arrV_new]
  have o1' : ∀ q : Nat, q < H.size → H1[q]? = H[q]? := fun q hq => by rw [← hH1, Array.getElem?_push, if_neg (Nat.ne_of_lt hq)]
  obtain ⟨kA', comp', r1, r2, r3, r4⟩ := hKs.2
  have hcA : cA = g.2.2.1 4 := Option.some.inj (f1.symm.trans r4)
  subst hcA
  have h2 := kk H1 ls locs hl' o1 (ok_cons (v := mR K.length) trivial (ok_tl o2)) (hd_push hD z1 o1' e1) (hS_push hS (by omega) o1')
  rw [List.map_cons, rvv_ref, ← hD.2.1 rfl] at h2
  exact h2
theorem at_mna (pc' : Nat) (X : CX g κ cc own nL) {gk rk : Nat} {ty : FieldType} (hk : (gk = 5 ∧ rk = 0 ∧ ty = .int) ∨ (gk = 6 ∧ rk = 3 ∧ ty = .long)) {n k ix : Nat} {x y : Int} (hxn : x = (n : Int)) (hyk : y = (k : Int)) (hn : n ≤ 1000) (hkk : k ≤ 60000) (hcl : Cond.classLink own ix ("[" ++ (FieldType.array ty).toString) ∈ ALLW) (ha : Cond.arrayClass ty ∈ ALLW) (hrc : cells + (1 + n) ≤ (kR κ).cells) (hrs : slots + (n + n * k) ≤ (kR κ).slots) (d : decode cc pc = .ok (.multianewarray ix 2, 4)) (e0 : pc + 4 = pc') (kk : AT g κ (K ++ (gk, n) :: List.replicate n (rk, k)) true (cells + (1 + n)) (slots + (n + n * k)) pc' l (mR K.length :: st) (nzR D K.length n (gk, n) (rk, k))) : AT g κ K true cells slots pc l (mI y :: mI x :: st) D := by
  obtain ⟨p, e, R, s, m, args, below, meth, c, Q⟩ := κ
  obtain ⟨hx, hb, hnl, hown, hts, hlk, hal, hG, hold, hsz, hnw⟩ := X
  subst e0
  subst hxn
  subst hyk
  intro H ls locs hl' o1 o2 hD hS
  obtain ⟨i1, i2⟩ := idx_in (x := (n : Int)) (n := n + 1) (by omega) (by omega) (ok_hd (ok_tl o2))
  obtain ⟨j1, j2⟩ := idx_in (x := (k : Int)) (n := k + 1) (by omega) (by omega) (ok_hd o2)
  rw [Int.toNat_natCast] at i2 j2
  have hover : (Cond.arrayOver (.array ty)).before args s = true := by
    rcases hk with ⟨-, -, rfl⟩ | ⟨-, -, rfl⟩
    · exact arrayOver_alikeB hal hG.2.2.2.2.2.1
    · exact arrayOver_alikeB hal hG.2.2.2.2.2.2
  have hfA : s.vm.findClass ("[" ++ (FieldType.array ty).toString) = some (g.2.2.1 gk) ∧ s.vm.findClass (FieldType.array ty).toString = some (g.2.2.1 rk) := by
    have h := (hK_of hG hal).2
    rcases hk with ⟨rfl, rfl, rfl⟩ | ⟨rfl, rfl, rfl⟩
    · exact ⟨(h 5 _ rfl).2, (h 0 _ rfl).2⟩
    · exact ⟨(h 6 _ rfl).2, (h 3 _ rfl).2⟩
  have hcb : componentBytes ty ≤ 8 := by rcases hk with ⟨-, -, rfl⟩ | ⟨-, -, rfl⟩ <;> decide
  have hdf : fits ty (defaultValue ty) = true ∧ (defaultValue ty).isDefault = true := by rcases hk with ⟨-, -, rfl⟩ | ⟨-, -, rfl⟩ <;> exact ⟨rfl, rfl⟩
  have hsz' := hD.2.1 rfl
  intro T hT Xs
  obtain ⟨vm₁, cA, comp, -, fA, fC, hO, -, X', step⟩ := Xs.multianewarray2F hx hown (hts _ hcl) hover (hts _ ha) (g := F0 m pc ls (.int (Int32.ofInt (k : Int)) :: .int (Int32.ofInt (n : Int)) :: st.map (rvv (gB g)))) rfl (by rw [show c.code = cc from hb]; exact d) rfl (fun q => i1 (Or.inl q)) (fun q => j1 (Or.inl q)) (by rw [i2]; omega) (by rw [j2]; exact Nat.le_trans (Nat.mul_le_mul hkk hcb) (by decide)) (by rw [j2]; omega) hdf.1 hdf.2 (by rw [i2]; exact hrc) (by rw [i2, j2]; exact hrs)
  cases Option.some.inj (fA.symm.trans hfA.1)
  cases Option.some.inj (fC.symm.trans hfA.2)
  rw [i2, j2] at X' step
  generalize hF : Jvm.Free.Multi.fill (T.setVm vm₁) (g.2.2.1 gk) (g.2.2.1 rk) n k (defaultValue ty) n = F at X' step
  have hTh : (T.setVm vm₁).heap = H := hT
  obtain ⟨f1, f2, -, -⟩ := Jvm.Free.Multi.fill_facts (T.setVm vm₁) (g.2.2.1 gk) (g.2.2.1 rk) n k (defaultValue ty) n
  rw [hF, hTh] at f1 f2
  have hold' : ∀ x : Nat, x < H.size → F.heap[x]? = H[x]? := fun x hx => by
    have := Jvm.Free.Multi.fill_old (T.setVm vm₁) (g.2.2.1 gk) (g.2.2.1 rk) n k (defaultValue ty) (a := x) (by rw [hTh]; exact hx) n
    rw [hF, hTh] at this
    exact this
  have hrow : ∀ j : Nat, j < n → F.heap[H.size + 1 + j]? = some (Jvm.Free.Multi.innerC (g.2.2.1 rk) k (defaultValue ty)) := fun j hj => by
    have := Jvm.Free.Multi.fill_inner (T.setVm vm₁) (g.2.2.1 gk) (g.2.2.1 rk) n k (defaultValue ty) n j hj
    rw [hF, hTh] at this
    exact this
  have hout : ∀ i : Nat, i ≤ n → Jvm.Free.Multi.outerC (g.2.2.1 gk) n H.size i = arrV (g.2.2.1 gk) n (fun j => if j < i then .ref (H.size + 1 + j) else .null) := by
    intro i
    induction i with
    | zero =>
      intro _
      show ({ cls := _, slots := Array.replicate n .null, vm := .none } : Cell) = _
      rw [arrV_new]
      exact congrArg (arrV _ n) (funext fun j => by simp)
    | succ i ih =>
      intro hi
      show (Jvm.Free.Multi.outerC _ n H.size i).setSlot i (.ref (H.size + 1 + i)) = _
      rw [ih (by omega), arrV_store]
      refine congrArg (arrV _ n) (funext fun j => ?_)
      by_cases e : j = i
      · subst e
        simp [updV]
      · by_cases h : j < i
        · simp [updV, e, h, Nat.lt_succ_of_lt h]
        · simp [updV, e, h, show ¬ j < i + 1 by omega]
  have hHD : HD g (K ++ (gk, n) :: List.replicate n (rk, k)) true (nzR D K.length n (gk, n) (rk, k)) F.heap := by
    refine ⟨fun a kd hk' => ?_, fun _ => by rw [f1, hsz', List.length_append, List.length_cons, List.length_replicate]; omega, fun q hq => by rw [hold' q (Nat.lt_of_lt_of_le hq hD.2.2.2)]; exact hD.2.2.1 q hq, by rw [f1]; have := hD.2.2.2; omega⟩
    by_cases hl : a < K.length
    · rw [List.getElem?_append_left hl] at hk'
      have e : nzR D K.length n (gk, n) (rk, k) a = D a := funext fun j => by unfold nzR; rw [if_neg (by omega), if_neg (by omega)]
      rw [e]
      exact ⟨hd_kept (hD.1 a kd hk').1 (hold' _ (hd_lt hD hk')), (hD.1 a kd hk').2⟩
    · rw [List.getElem?_append_right (by omega)] at hk'
      by_cases h0 : a = K.length
      · subst h0
        rw [Nat.sub_self] at hk'
        cases hk'
        have e : nzR D K.length n (gk, n) (rk, k) K.length = fun j => if j < n then ((K.length + 1 + j : Nat) : Int) else -1 := funext fun j => by unfold nzR; rw [if_pos rfl]
        rw [e]
        have hgk : gk < 7 ∧ etag gk = 2 := by rcases hk with ⟨rfl, -, -⟩ | ⟨rfl, -, -⟩ <;> exact ⟨by decide, rfl⟩
        refine ⟨?_, fun j hj => ?_⟩
        · unfold cellAt
          rw [if_pos hgk.1, ← hsz', f2, hout n (Nat.le_refl _)]
          refine congrArg some (congrArg (arrV _ n) (funext fun j => ?_))
          show _ = rvv (gB g) (etag gk, _)
          rw [hgk.2]
          by_cases c : j < n
          · simp only [if_pos c]
            have := rvv_ref (gB g) (K.length + 1 + j)
            rw [show (2, ((K.length + 1 + j : Nat) : Int)) = mR (K.length + 1 + j) from rfl, this, show H.size + 1 + j = gB g + (K.length + 1 + j) by omega]
          · simp only [if_neg c]; rfl
        · rw [stag_arr hgk.1, hgk.2]; trivial
      · obtain ⟨i, hi⟩ : ∃ i, a - K.length = i + 1 := ⟨a - K.length - 1, by omega⟩
        rw [hi, List.getElem?_cons_succ] at hk'
        have hin : i < n := by
          have := (List.getElem?_eq_some_iff.mp hk').1
          rw [List.length_replicate] at this
          exact this
        rw [List.getElem?_replicate, if_pos hin] at hk'
        cases hk'
        have hrk : rk < 7 ∧ etag rk ≠ 2 ∧ defaultValue ty = rvv (gB g) (etag rk, 0) := by rcases hk with ⟨-, rfl, rfl⟩ | ⟨-, rfl, rfl⟩ <;> exact ⟨by decide, by decide, rfl⟩
        have e : nzR D K.length n (gk, n) (rk, k) a = fun _ => 0 := funext fun j => by
          unfold nzR
          rw [if_neg h0, if_pos ⟨by omega, by omega⟩, stag_arr hrk.1, if_neg hrk.2.1]
        rw [e]
        refine ⟨?_, fun j hj => ?_⟩
        · unfold cellAt
          rw [if_pos hrk.1, show gB g + a = H.size + 1 + i by omega, hrow i hin]
          refine congrArg some ?_
          show ({ cls := _, slots := Array.replicate k (defaultValue ty), vm := .none } : Cell) = _
          rw [arrV_new, hrk.2.2]
        · rw [stag_arr hrk.1]
          have := nz_ok (rk, k) j
          rw [stag_arr hrk.1, if_neg hrk.2.1] at this
          exact this
  obtain ⟨t, a1, b1⟩ := kk F.heap ls locs hl' o1 (ok_cons (v := mR K.length) trivial (ok_tl (ok_tl o2))) hHD (hS_push hS (by rw [f1]; omega) hold') F rfl (by
    have : cells + (1 + n) = cells + 1 + n := by omega
    rw [this, show slots + (n + n * k) = slots + n + n * k by omega]
    exact X')
  refine ⟨t, step t ?_, b1⟩
  rw [List.map_cons, rvv_ref] at a1
  rw [show T.heap.size = gB g + K.length by rw [hT]; exact hsz']
  exact a1
theorem at_aastore (pc' : Nat) (X : CX g κ cc own nL) {z : Bool} (a b : Nat) {n nn : Nat} {x : Int} (hK : K[a]? = some (4, n)) (hKb : K[b]? = some (5 + 7, nn)) (h0 : 0 ≤ x) (h1 : x < n) (d : decode cc pc = .ok (.aastore, 1)) (e0 : pc + 1 = pc') (kk : AT g κ K z cells slots pc' l st (wr D a x.toNat (b : Int))) : AT g κ K z cells slots pc l (mR b :: mI x :: mR a :: st) D := by
  obtain ⟨p, e, R, s, m, args, below, meth, c, Q⟩ := κ
  obtain ⟨hx, hb, hnl, hown, hts, hlk, hal, hG, hold, hsz, hnw⟩ := X
  subst e0
  intro H ls locs hl o1 o2 hD hS
  obtain ⟨i1, i2⟩ := idx_in h0 h1 (ok_hd (ok_tl o2))
  rw [List.map_cons, List.map_cons, List.map_cons, rvv_ref, rvv_ref]
  obtain ⟨cellV, g1, g2, g3, -⟩ := obj_at hD hKb
  have hKs := hK_of hG hal
  have hcls := (hKs.1 5 _ rfl).2
  obtain ⟨kA, comp, k1, k2, k3, -⟩ := (hKs.2 4 _ rfl).2
  have hcomp : comp = g.1 5 := Option.some.inj (k3.symm.trans hcls.1)
  subst hcomp
  obtain ⟨kC, hkC, -⟩ := hcls.2
  refine W.aast hx hb (arr_at (t := 4) (by decide) hD hK) (fun q h => by cases h) (fun h => by cases h) k1 k2 rfl hkC ⟨fun q => i1 (Or.inl q), by rw [arrV_size, i2]; omega⟩ g1 (fun q h => by rw [g3] at h; cases h) (by rw [g2]; exact hkC) (by rw [g2]; exact va_assign hcls) rfl rfl d fun H1 e z oq => ?_
  rw [i2] at e ⊢
  refine kk H1 ls _ hl o1 (ok_tl (ok_tl (ok_tl o2))) (hd_set hD hK (fun _ => trivial) (hrow_set (t := 4) (by decide) ?_) z oq) (hS_put hS z oq)
  rw [e]
  show some (Cell.setSlot _ _ (.ref (gB g + b))) = some (Cell.setSlot _ _ (rvv (gB g) (mR b)))
  rw [rvv_ref]
end MAKE2
