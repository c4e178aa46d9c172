section MEM
variable {g : Gw} {κ : Kp} {cc : ByteArray} {own : String} {nL : Nat} {K : Shp} {z : Bool} {cells slots pc : Nat} {l : List (Nat × MV)} {st : List MV} {D : Mm}
/-- what is known of a class: its number, fields, types, and that its words are there -/
def ClsOk (ci : Nat) (C : String) (T : u_T) (N : Nat) (ty : Nat → FieldType) : Prop :=
  vwCl[ci]? = some (C, T, N) ∧ (∀ w ∈ u_ws C T N, w ∈ ALLW) ∧ (∀ k, k < N → parseFieldDescriptor (T k).2.2.1 = some (ty k)) ∧ (∀ a, a < N → ∀ b, b < N → a ≠ b → (T a).2.1 ≠ (T b).2.1) ∧ nFs ci = N ∧ (∀ k, k < N → (T k).1 = C) ∧ (∀ k, k < N → ((ftL.getD ci []).getD k 0 = 0 → ty k = .int ∨ ty k = .boolean) ∧ ((ftL.getD ci []).getD k 0 = 1 → ty k = .long) ∧ ((ftL.getD ci []).getD k 0 = 2 → (ty k).isReference = true))
theorem hd_kept {kd : Nat × Nat} {f : Nat → Int} {ad : Nat} {H H1 : Heap} (h : cellAt g kd f ad H) (hq : H1[ad]? = H[ad]?) : cellAt g kd f ad H1 := by
  unfold cellAt at h ⊢
  split
  · rename_i c; rw [if_pos c] at h; rw [hq]; exact h
  · rename_i c; rw [if_neg c] at h; exact h.kept hq
/-- one cell is written -/
theorem hd_set {a k : Nat} {kd : Nat × Nat} {x : Int} {H H1 : Heap} (hD : HD g K z D H) (hK : K[a]? = some kd) (hx : k < slen kd → okv (stag kd k, x)) (hc : cellAt g kd (fun j => if j = k then x else D a j) (gB g + a) H1) (hz : H1.size = H.size) (oq : ∀ q : Nat, q ≠ gB g + a → H1[q]? = H[q]?) : HD g K z (wr D a k x) H1 := by
  refine ⟨fun b kb hb => ?_, fun h => by rw [hz]; exact hD.2.1 h, fun q hq => by rw [oq q (by omega)]; exact hD.2.2.1 q hq, by rw [hz]; exact hD.2.2.2⟩
  by_cases e : b = a
  · subst e
    rw [hK] at hb
    cases hb
    have e2 : wr D b k x b = fun j => if j = k then x else D b j := funext fun j => by simp [wr]
    rw [e2]
    refine ⟨hc, fun j hj => ?_⟩
    by_cases e3 : j = k
    · subst e3; simp only [if_true]; exact hx hj
    · simp only [if_neg e3]; exact (hD.1 b kd hK).2 j hj
  · have e2 : wr D a k x b = D b := funext fun j => by simp [wr, e]
    rw [e2]
    exact ⟨hd_kept (hD.1 b kb hb).1 (oq _ (by omega)), (hD.1 b kb hb).2⟩
theorem hS_put {H0 H H1 : Heap} {locs : List Loc} {a k : Nat} (h : va_S (gA g) H0 H locs) (z : H1.size = H.size) (oq : ∀ q : Nat, q ≠ gB g + a → H1[q]? = H[q]?) : va_S (gA g) H0 H1 (locs ++ [⟨gB g + a, k⟩]) := h.put z oq (Nat.le_add_right _ _)
theorem hK_of (hG : GF g) {s : State} (hal : (gS g).vm.Alike s.vm) : va_K (g.1, g.2.1) vwCl (tysG g) s := hG.1.moved hal
theorem stag_obj (ci n j : Nat) : stag (ci + 7, n) j = (ftL.getD ci []).getD j 0 := by
  show (if ci + 7 < 7 then _ else (ftL.getD (ci + 7 - 7) []).getD j 0) = _
  rw [if_neg (by omega), Nat.add_sub_cancel]
theorem slen_obj (ci n : Nat) : slen (ci + 7, n) = nFs ci := by
  show (if ci + 7 < 7 then _ else nFs (ci + 7 - 7)) = _
  rw [if_neg (by omega), Nat.add_sub_cancel]
theorem stag_arr {t : Nat} (ht : t < 7) (n j : Nat) : stag (t, n) j = etag t := if_pos ht
theorem slen_arr {t : Nat} (ht : t < 7) (n : Nat) : slen (t, n) = n := if_pos ht
theorem obj_at {a ci : Nat} {n : Nat} {H : Heap} (hD : HD g K z D H) (hK : K[a]? = some (ci + 7, n)) : t_OB (gB g + a) (g.1 ci) (nFs ci) (g.2.1 ci) H (fun j => rvv (gB g) ((ftL.getD ci []).getD j 0, D a j)) := by
  have h := (hD.1 a _ hK).1
  unfold cellAt at h
  rw [if_neg (by show ¬ (ci + 7 < 7); omega)] at h
  simp only [Nat.add_sub_cancel, stag_obj] at h
  exact h
theorem arr_at {a t n : Nat} {H : Heap} (ht : t < 7) (hD : HD g K z D H) (hK : K[a]? = some (t, n)) : H[gB g + a]? = some (arrV (g.2.2.1 t) n (fun j => rvv (gB g) (etag t, D a j))) := by
  have h := (hD.1 a _ hK).1
  unfold cellAt at h
  rw [if_pos ht] at h
  exact h
theorem arr_ok {a t n j : Nat} {H : Heap} (ht : t < 7) (hD : HD g K z D H) (hK : K[a]? = some (t, n)) (hj : j < n) : okv (etag t, D a j) := by
  have h := (hD.1 a _ hK).2 j (by rw [slen_arr ht]; exact hj)
  rw [stag_arr ht] at h
  exact h
theorem obj_ok {a ci n j : Nat} {H : Heap} (hD : HD g K z D H) (hK : K[a]? = some (ci + 7, n)) (hj : j < nFs ci) : okv ((ftL.getD ci []).getD j 0, D a j) := by
  have h := (hD.1 a _ hK).2 j (by rw [slen_obj]; exact hj)
  rw [stag_obj] at h
  exact h
/-- getfield, by its link word: of the class itself, or of a nest mate -/
theorem at_getf (pc' : Nat) (X : CX g κ cc own nL) (a ci k : Nat) {C : String} {T : u_T} {N n ix t : Nat} {ty : Nat → FieldType} (hc : ClsOk ci C T N ty) (hk : k < N) (hlink : Cond.fieldLink own ix C (T k).2.1 (T k).2.2.1 ∈ ALLW) (hK : K[a]? = some (ci + 7, n)) (ht : (ftL.getD ci []).getD k 0 = t) (d : decode cc pc = .ok (.getfield ix, 3)) (e0 : pc + 3 = pc') (kk : AT g κ K z cells slots pc' l ((t, D a k) :: st) D) : AT g κ K z cells slots pc l (mR a :: st) D := by
  obtain ⟨p, e, R, s, m, args, below, meth, c, Q⟩ := κ
  obtain ⟨hx, hb, hnl, hown, hts, hlk, hal, hG, hold, hsz, hnw⟩ := X
  subst e0
  intro H ls locs hl o1 o2 hD hS
  obtain ⟨hcl, hin, hty, hnm, hN, hd, -⟩ := hc
  obtain ⟨cell, q1, q2, q3, q4⟩ := obj_at hD hK
  obtain ⟨hS', hfc, kC', hkC, hkind⟩ := (hK_of hG hal).1 ci _ hcl
  obtain ⟨cf, kf, fi, f, hi, hsl⟩ := hS' k hk
  have hi' : s.fieldFound? C (T k).2.1 (T k).2.2.1 = some (cf, kf, fi, f) := by have := hi; rwa [hd k hk] at this
  have ok := obj_ok hD hK (j := k) (by rw [hN]; exact hk)
  rw [ht] at ok
  have h2 := kk H ls locs hl o1 (ok_cons ok (ok_tl o2)) hD hS
  rw [List.map_cons] at h2 ⊢
  rw [rvv_ref]
  refine W.getf hx hb hown (hts _ hlink) hi' (u_facts hfc hkC (u_lays hts hin hk) hi).1 q1 (by rw [q3]; exact fun h => by cases h) (v := rvv (gB g) (t, D a k)) ?_ rfl rfl d h2
  rw [hsl, q4 k (by rw [hN]; exact hk), ← ht]
theorem at_getfN (pc' : Nat) (X : CX g κ cc own nL) (a ci k : Nat) {C host : String} {T : u_T} {N n ix t : Nat} {ty : Nat → FieldType} (hc : ClsOk ci C T N ty) (hk : k < N) (hlink : Cond.fieldLinkNest own ix C (T k).2.1 (T k).2.2.1 host ∈ NESTW) (hK : K[a]? = some (ci + 7, n)) (ht : (ftL.getD ci []).getD k 0 = t) (d : decode cc pc = .ok (.getfield ix, 3)) (e0 : pc + 3 = pc') (kk : AT g κ K z cells slots pc' l ((t, D a k) :: st) D) : AT g κ K z cells slots pc l (mR a :: st) D := by
  obtain ⟨p, e, R, s, m, args, below, meth, c, Q⟩ := κ
  obtain ⟨hx, hb, hnl, hown, hts, hlk, hal, hG, hold, hsz, hnw⟩ := X
  subst e0
  intro H ls locs hl o1 o2 hD hS
  obtain ⟨hcl, hin, hty, hnm, hN, hd, -⟩ := hc
  obtain ⟨cell, q1, q2, q3, q4⟩ := obj_at hD hK
  obtain ⟨hS', hfc, kC', hkC, hkind⟩ := (hK_of hG hal).1 ci _ hcl
  obtain ⟨cf, kf, fi, f, hi, hsl⟩ := hS' k hk
  have hi' : s.fieldFound? C (T k).2.1 (T k).2.2.1 = some (cf, kf, fi, f) := by have := hi; rwa [hd k hk] at this
  have ok := obj_ok hD hK (j := k) (by rw [hN]; exact hk)
  rw [ht] at ok
  have h2 := kk H ls locs hl o1 (ok_cons ok (ok_tl o2)) hD hS
  rw [List.map_cons] at h2 ⊢
  rw [rvv_ref]
  refine va_Wgetf hx hb hown ((hnw.1 _ hlink).use (anw_on hlink)) hi' (u_facts hfc hkC (u_lays hts hin hk) hi).1 q1 (by rw [q3]; exact fun h => by cases h) (v := rvv (gB g) (t, D a k)) ?_ rfl rfl d h2
  rw [hsl, q4 k (by rw [hN]; exact hk), ← ht]
/-- a value may stand in a field of this type -/
theorem fit_of {ci k : Nat} {C : String} {T : u_T} {N : Nat} {ty : Nat → FieldType} (hc : ClsOk ci C T N ty) (hk : k < N) {t : Nat} (ht : (ftL.getD ci []).getD k 0 = t) (h2 : t ≤ 2) {x : Int} (hb : ty k = .boolean → x = 0 ∨ x = 1) : narrow (ty k) (rvv (gB g) (t, x)) = rvv (gB g) (t, x) ∧ fits (ty k) (rvv (gB g) (t, x)) = true := by
  obtain ⟨-, -, -, -, -, -, h⟩ := hc
  obtain ⟨a0, a1, a2⟩ := h k hk
  rw [ht] at a0 a1 a2
  match t, h2 with
  | 0, _ =>
    rcases a0 rfl with e | e
    · rw [e]; exact ⟨rfl, rfl⟩
    · rw [e]
      rcases hb e with rfl | rfl
      · exact ⟨rfl, rfl⟩
      · exact ⟨rfl, rfl⟩
  | 1, _ => rw [a1 rfl]; exact ⟨rfl, rfl⟩
  | 2, _ =>
    have e := a2 rfl
    by_cases c : x < 0
    · have er : rvv (gB g) (2, x) = .null := if_pos c
      rw [er]
      generalize ty k = f at e
      cases f with
      | object n => exact ⟨rfl, rfl⟩
      | array t => exact ⟨rfl, rfl⟩
      | _ => cases e
    · have er : rvv (gB g) (2, x) = .ref (gB g + x.toNat) := if_neg c
      rw [er]
      generalize ty k = f at e
      cases f with
      | object n => exact ⟨rfl, rfl⟩
      | array t => exact ⟨rfl, rfl⟩
      | _ => cases e
theorem obj_set {a ci n k : Nat} {x : Int} {H1 : Heap} {cell : Cell} (hK : K[a]? = some (ci + 7, n)) (hk : k < nFs ci) (hap : ∀ i j, i < nFs ci → j < nFs ci → i ≠ j → g.2.1 ci i ≠ g.2.1 ci j) (q2 : cell.cls = g.1 ci) (q3 : cell.vm = .none) (q4 : ∀ j, j < nFs ci → cell.slots[g.2.1 ci j]? = some (rvv (gB g) ((ftL.getD ci []).getD j 0, D a j))) (e1 : H1[gB g + a]? = some (cell.setSlot (g.2.1 ci k) (rvv (gB g) ((ftL.getD ci []).getD k 0, x)))) : cellAt g (ci + 7, n) (fun j => if j = k then x else D a j) (gB g + a) H1 := by
  unfold cellAt
  rw [if_neg (by show ¬ (ci + 7 < 7); omega)]
  show t_OB _ (g.1 (ci + 7 - 7)) (nFs (ci + 7 - 7)) (g.2.1 (ci + 7 - 7)) H1 _
  rw [show ci + 7 - 7 = ci by omega]
  refine ⟨_, e1, q2, q3, fun j hj => ?_⟩
  rw [t_set q4 hap hk _ j hj]
  unfold updV
  show some _ = some (rvv _ (stag (ci + 7, n) j, if j = k then x else D a j))
  rw [stag_obj]
  by_cases c : j = k
  · subst c; rw [if_pos rfl, if_pos rfl]
  · rw [if_neg c, if_neg c]
theorem at_putf (pc' : Nat) (X : CX g κ cc own nL) (a ci k : Nat) {C : String} {T : u_T} {N n ix t : Nat} {x : Int} {ty : Nat → FieldType} (hc : ClsOk ci C T N ty) (hk : k < N) (hlink : Cond.fieldLink own ix C (T k).2.1 (T k).2.2.1 ∈ ALLW) (hK : K[a]? = some (ci + 7, n)) (ht : (ftL.getD ci []).getD k 0 = t) (h2 : t ≤ 2) (hfin : (T k).2.2.2 = false) (hb2 : ty k = .boolean → x = 0 ∨ x = 1) (d : decode cc pc = .ok (.putfield ix, 3)) (e0 : pc + 3 = pc') (kk : AT g κ K z cells slots pc' l st (wr D a k x)) : AT g κ K z cells slots pc l ((t, x) :: mR a :: st) D := by
  obtain ⟨p, e, R, s, m, args, below, meth, c, Q⟩ := κ
  obtain ⟨hx, hb, hnl, hown, hts, hlk, hal, hG, hold, hsz, hnw⟩ := X
  subst e0
  intro H ls locs hl o1 o2 hD hS
  obtain ⟨hn, hf⟩ := fit_of (g := g) hc hk ht h2 hb2
  obtain ⟨hcl, hin, hty, hnm, hN, hd, -⟩ := hc
  have hKs := hK_of hG hal
  have hap := va_apart (own := own) hts hin ty hty hnm hKs hcl
  obtain ⟨cell, q1, q2, q3, q4⟩ := obj_at hD hK
  obtain ⟨hS', hfc, kC', hkC, hkind⟩ := hKs.1 ci _ hcl
  obtain ⟨cf, kf, fi, f, hi, hsl⟩ := hS' k hk
  have hi' : s.fieldFound? C (T k).2.1 (T k).2.2.1 = some (cf, kf, fi, f) := by have := hi; rwa [hd k hk] at this
  have hlay := hts _ (hin _ (u_in_lay hk))
  unfold u_lay at hlay
  rw [if_neg (by rw [hfin]; decide)] at hlay
  have hst := (u_facts hfc hkC (u_lays hts hin hk) hi).1
  have h6 := u_store hfc hkC hkind hlay hi (hty k hk) hn hf
  rw [List.map_cons, List.map_cons, rvv_ref]
  refine W.putK hx hb (f := f) ⟨hown, hts _ hlink, ⟨_, _, _, hi'⟩, hst⟩ (by rw [q2]; exact h6) q1 q3 (by rw [hsl]; exact k2_hasslot (q4 k (by rw [hN]; exact hk))) rfl rfl d fun H' e1 e2 e3 => ?_
  rw [hsl] at e1 ⊢
  refine kk H' ls _ hl o1 (ok_tl (ok_tl o2)) (hd_set hD hK (fun h => ?_) (obj_set (K := K) hK (by rw [hN]; exact hk) (by rw [hN]; exact hap) q2 q3 q4 (by rw [ht]; exact e1)) e2 e3) (hS_put hS e2 e3)
  rw [stag_obj, ht]
  exact ok_hd o2
theorem at_putfN (pc' : Nat) (X : CX g κ cc own nL) (a ci k : Nat) {C host : String} {T : u_T} {N n ix t : Nat} {x : Int} {ty : Nat → FieldType} (hc : ClsOk ci C T N ty) (hk : k < N) (hlink : Cond.fieldLinkNest own ix C (T k).2.1 (T k).2.2.1 host ∈ NESTW) (hK : K[a]? = some (ci + 7, n)) (ht : (ftL.getD ci []).getD k 0 = t) (h2 : t ≤ 2) (hfin : (T k).2.2.2 = false) (hb2 : ty k = .boolean → x = 0 ∨ x = 1) (d : decode cc pc = .ok (.putfield ix, 3)) (e0 : pc + 3 = pc') (kk : AT g κ K z cells slots pc' l st (wr D a k x)) : AT g κ K z cells slots pc l ((t, x) :: mR a :: st) D := by
  obtain ⟨p, e, R, s, m, args, below, meth, c, Q⟩ := κ
  obtain ⟨hx, hb, hnl, hown, hts, hlk, hal, hG, hold, hsz, hnw⟩ := X
  subst e0
  intro H ls locs hl o1 o2 hD hS
  obtain ⟨hn, hf⟩ := fit_of (g := g) hc hk ht h2 hb2
  obtain ⟨hcl, hin, hty, hnm, hN, hd, -⟩ := hc
  have hKs := hK_of hG hal
  have hap := va_apart (own := own) hts hin ty hty hnm hKs hcl
  obtain ⟨cell, q1, q2, q3, q4⟩ := obj_at hD hK
  obtain ⟨hS', hfc, kC', hkC, hkind⟩ := hKs.1 ci _ hcl
  obtain ⟨cf, kf, fi, f, hi, hsl⟩ := hS' k hk
  have hi' : s.fieldFound? C (T k).2.1 (T k).2.2.1 = some (cf, kf, fi, f) := by have := hi; rwa [hd k hk] at this
  have hlay := hts _ (hin _ (u_in_lay hk))
  unfold u_lay at hlay
  rw [if_neg (by rw [hfin]; decide)] at hlay
  have hst := (u_facts hfc hkC (u_lays hts hin hk) hi).1
  have h6 := u_store hfc hkC hkind hlay hi (hty k hk) hn hf
  rw [List.map_cons, List.map_cons, rvv_ref]
  refine va_WputK hx hb (f := f) hown ((hnw.1 _ hlink).use (anw_on hlink)) hi' hst (by rw [q2]; exact h6) q1 q3 (by rw [hsl]; exact k2_hasslot (q4 k (by rw [hN]; exact hk))) rfl rfl d fun H' e1 e2 e3 => ?_
  rw [hsl] at e1 ⊢
  refine kk H' ls _ hl o1 (ok_tl (ok_tl o2)) (hd_set hD hK (fun h => ?_) (obj_set (K := K) hK (by rw [hN]; exact hk) (by rw [hN]; exact hap) q2 q3 q4 (by rw [ht]; exact e1)) e2 e3) (hS_put hS e2 e3)
  rw [stag_obj, ht]
  exact ok_hd o2
/-- a final field, in the constructor of its own class -/
theorem at_putfF (pc' : Nat) (X : CX g κ cc own nL) (hin2 : (kH κ).name = "<init>") (a ci k : Nat) {C : String} {T : u_T} {N n ix t : Nat} {x : Int} {ty : Nat → FieldType} (hc : ClsOk ci C T N ty) (hCo : C = own) (hk : k < N) (hlink : Cond.fieldLink own ix C (T k).2.1 (T k).2.2.1 ∈ ALLW) (hK : K[a]? = some (ci + 7, n)) (ht : (ftL.getD ci []).getD k 0 = t) (h2 : t ≤ 2) (hfin : (T k).2.2.2 = true) (hb2 : ty k = .boolean → x = 0 ∨ x = 1) (d : decode cc pc = .ok (.putfield ix, 3)) (e0 : pc + 3 = pc') (kk : AT g κ K z cells slots pc' l st (wr D a k x)) : AT g κ K z cells slots pc l ((t, x) :: mR a :: st) D := by
  obtain ⟨p, e, R, s, m, args, below, meth, c, Q⟩ := κ
  obtain ⟨hx, hb, hnl, hown, hts, hlk, hal, hG, hold, hsz, hnw⟩ := X
  subst e0
  intro H ls locs hl o1 o2 hD hS
  obtain ⟨hn, hf⟩ := fit_of (g := g) hc hk ht h2 hb2
  obtain ⟨hcl, hin, hty, hnm, hN, hd, -⟩ := hc
  have hKs := hK_of hG hal
  have hap := va_apart (own := own) hts hin ty hty hnm hKs hcl
  obtain ⟨cell, q1, q2, q3, q4⟩ := obj_at hD hK
  obtain ⟨hS', hfc, kC', hkC, hkind⟩ := hKs.1 ci _ hcl
  obtain ⟨cf, kf, fi, f, hi, hsl⟩ := hS' k hk
  have hi' : s.fieldFound? C (T k).2.1 (T k).2.2.1 = some (cf, kf, fi, f) := by have := hi; rwa [hd k hk] at this
  have hlay := hts _ (hin _ (u_in_lay hk))
  unfold u_lay at hlay
  rw [if_pos hfin] at hlay
  have hst := (u_facts hfc hkC (u_lays hts hin hk) hi).1
  have hcf : m.cls = cf := by
    obtain ⟨_, _, c', _, _, _, -, -, hf', -, -, -, hown2, -⟩ := Cond.laysFinal_spec hlay
    have e1 : c' = cf := by have := hi.symm.trans hf'; simp at this; exact this.1.symm
    rw [hd k hk, hCo] at hown2
    rw [← e1]; exact Option.some.inj (hown.symm.trans hown2)
  have h6 := u_fits hfc hkC hkind (Or.inr hlay) hi (hty k hk) hn hf
  rw [List.map_cons, List.map_cons, rvv_ref]
  refine W.putFinK hx hb hown (hts _ hlink) hi' hst hcf hin2 (by rw [q2]; exact h6) q1 q3 (by rw [hsl]; exact k2_hasslot (q4 k (by rw [hN]; exact hk))) rfl rfl d fun H' e1 e2 e3 => ?_
  rw [hsl] at e1 ⊢
  refine kk H' ls _ hl o1 (ok_tl (ok_tl o2)) (hd_set hD hK (fun h => ?_) (obj_set (K := K) hK (by rw [hN]; exact hk) (by rw [hN]; exact hap) q2 q3 q4 (by rw [ht]; exact e1)) e2 e3) (hS_put hS e2 e3)
  rw [stag_obj, ht]
  exact ok_hd o2
theorem idx_in {x : Int} {n : Nat} (h0 : 0 ≤ x) (h1 : x < n) (h2 : -2147483648 ≤ x ∧ x < 2147483648) : ¬ (Int32.ofInt x < 0 ∨ n ≤ (Int32.ofInt x).toNatClampNeg) ∧ (Int32.ofInt x).toNatClampNeg = x.toNat := by
  have e1 : (Int32.ofInt x).toInt = x := ti' h2.1 h2.2
  have e : (Int32.ofInt x).toNatClampNeg = x.toNat := by
    show (Int32.ofInt x).toInt.toNat = _
    rw [e1]
  refine ⟨?_, e⟩
  rintro (h | h)
  · have := (ei_lt h2 r0).mp (by rw [← o0]; exact h)
    omega
  · rw [e] at h; omega
theorem at_alen (pc' : Nat) (X : CX g κ cc own nL) (a : Nat) {t n : Nat} (hK : K[a]? = some (t, n)) (ht : t < 7) (hn : (n : Int) < 2147483648) (d : decode cc pc = .ok (.arraylength, 1)) (e0 : pc + 1 = pc') (kk : AT g κ K z cells slots pc' l (mI (n : Int) :: st) D) : AT g κ K z cells slots pc l (mR a :: st) D := by
  obtain ⟨p, e, R, s, m, args, below, meth, c, Q⟩ := κ
  obtain ⟨hx, hb, hnl, hown, hts, hlk, hal, hG, hold, hsz, hnw⟩ := X
  subst e0
  intro H ls locs hl o1 o2 hD hS
  have hAr : ∃ ty, ArrOfT s (g.2.2.1 t) ty := by
    have h := (hK_of hG hal).2
    match t, ht with
    | 0, _ => exact ⟨_, (h 0 _ rfl).1⟩
    | 1, _ => exact ⟨_, (h 1 _ rfl).1⟩
    | 2, _ => exact ⟨_, (h 2 _ rfl).1⟩
    | 3, _ => exact ⟨_, (h 3 _ rfl).1⟩
    | 4, _ => exact ⟨_, (h 4 _ rfl).1⟩
    | 5, _ => exact ⟨_, (h 5 _ rfl).1⟩
    | 6, _ => exact ⟨_, (h 6 _ rfl).1⟩
  obtain ⟨ty, hA⟩ := hAr
  have h2 := kk H ls locs hl o1 (ok_cons (v := mI (n : Int)) ⟨by show (-2147483648 : Int) ≤ (n : Int); omega, hn⟩ (ok_tl o2)) hD hS
  rw [List.map_cons, rvv_ref]
  exact W.alen hx hb (arr_at ht hD hK) (hA n _) (by rw [arrV_size]; exact (Int32.ofInt_eq_ofNat).symm) rfl rfl d h2
theorem at_iaload (pc' : Nat) (X : CX g κ cc own nL) (a : Nat) {n : Nat} {x : Int} (hK : K[a]? = some (0, n)) (h0 : 0 ≤ x) (h1 : x < n) (d : decode cc pc = .ok (.iaload, 1)) (e0 : pc + 1 = pc') (kk : AT g κ K z cells slots pc' l (mI (D a x.toNat) :: st) D) : AT g κ K z cells slots pc l (mI x :: mR a :: st) D := by
  obtain ⟨p, e, R, s, m, args, below, meth, c, Q⟩ := κ
  obtain ⟨hx, hb, hnl, hown, hts, hlk, hal, hG, hold, hsz, hnw⟩ := X
  subst e0
  intro H ls locs hl o1 o2 hD hS
  obtain ⟨i1, i2⟩ := idx_in h0 h1 (ok_hd o2)
  have h2 := kk H ls locs hl o1 (ok_cons (v := mI (D a x.toNat)) (arr_ok (t := 0) (by decide) hD hK (by omega)) (ok_tl (ok_tl o2))) hD hS
  rw [List.map_cons, List.map_cons, rvv_ref]
  refine W.iald (v := .int (Int32.ofInt (D a x.toNat))) hx hb (arr_at (t := 0) (by decide) hD hK) (((hK_of hG hal).2 0 _ rfl).1 n _) (fun q => by cases q) (by rw [arrV_size]; exact i1) ?_ rfl rfl d h2
  rw [i2, arrV_read _ _ (by omega)]
  rfl
theorem at_baload (pc' : Nat) (X : CX g κ cc own nL) (a : Nat) {n : Nat} {x : Int} (hK : K[a]? = some (1, n)) (h0 : 0 ≤ x) (h1 : x < n) (d : decode cc pc = .ok (.baload, 1)) (e0 : pc + 1 = pc') (kk : AT g κ K z cells slots pc' l (mI (D a x.toNat) :: st) D) : AT g κ K z cells slots pc l (mI x :: mR a :: st) D := by
  obtain ⟨p, e, R, s, m, args, below, meth, c, Q⟩ := κ
  obtain ⟨hx, hb, hnl, hown, hts, hlk, hal, hG, hold, hsz, hnw⟩ := X
  subst e0
  intro H ls locs hl o1 o2 hD hS
  obtain ⟨i1, i2⟩ := idx_in h0 h1 (ok_hd o2)
  have h2 := kk H ls locs hl o1 (ok_cons (v := mI (D a x.toNat)) (arr_ok (t := 1) (by decide) hD hK (by omega)) (ok_tl (ok_tl o2))) hD hS
  rw [List.map_cons, List.map_cons, rvv_ref]
  refine W.bald (v := .int (Int32.ofInt (D a x.toNat))) hx hb (arr_at (t := 1) (by decide) hD hK) (((hK_of hG hal).2 1 _ rfl).1 n _) (fun q => by cases q) (by rw [arrV_size]; exact i1) ?_ rfl rfl d h2
  rw [i2, arrV_read _ _ (by omega)]
  rfl
theorem at_zaload (pc' : Nat) (X : CX g κ cc own nL) (a : Nat) {n : Nat} {x : Int} (hK : K[a]? = some (2, n)) (h0 : 0 ≤ x) (h1 : x < n) (d : decode cc pc = .ok (.baload, 1)) (e0 : pc + 1 = pc') (kk : AT g κ K z cells slots pc' l (mI (D a x.toNat) :: st) D) : AT g κ K z cells slots pc l (mI x :: mR a :: st) D := by
  obtain ⟨p, e, R, s, m, args, below, meth, c, Q⟩ := κ
  obtain ⟨hx, hb, hnl, hown, hts, hlk, hal, hG, hold, hsz, hnw⟩ := X
  subst e0
  intro H ls locs hl o1 o2 hD hS
  obtain ⟨i1, i2⟩ := idx_in h0 h1 (ok_hd o2)
  have h2 := kk H ls locs hl o1 (ok_cons (v := mI (D a x.toNat)) (arr_ok (t := 2) (by decide) hD hK (by omega)) (ok_tl (ok_tl o2))) hD hS
  rw [List.map_cons, List.map_cons, rvv_ref]
  refine W.zald (v := .int (Int32.ofInt (D a x.toNat))) hx hb (arr_at (t := 2) (by decide) hD hK) (((hK_of hG hal).2 2 _ rfl).1 n _) (fun q => by cases q) (by rw [arrV_size]; exact i1) ?_ rfl rfl d h2
  rw [i2, arrV_read _ _ (by omega)]
  rfl
theorem at_laload (pc' : Nat) (X : CX g κ cc own nL) (a : Nat) {n : Nat} {x : Int} (hK : K[a]? = some (3, n)) (h0 : 0 ≤ x) (h1 : x < n) (d : decode cc pc = .ok (.laload, 1)) (e0 : pc + 1 = pc') (kk : AT g κ K z cells slots pc' l (mL (D a x.toNat) :: st) D) : AT g κ K z cells slots pc l (mI x :: mR a :: st) D := by
  obtain ⟨p, e, R, s, m, args, below, meth, c, Q⟩ := κ
  obtain ⟨hx, hb, hnl, hown, hts, hlk, hal, hG, hold, hsz, hnw⟩ := X
  subst e0
  intro H ls locs hl o1 o2 hD hS
  obtain ⟨i1, i2⟩ := idx_in h0 h1 (ok_hd o2)
  have h2 := kk H ls locs hl o1 (ok_cons (v := mL (D a x.toNat)) (arr_ok (t := 3) (by decide) hD hK (by omega)) (ok_tl (ok_tl o2))) hD hS
  rw [List.map_cons, List.map_cons, rvv_ref]
  refine W.lald (v := .long (Int64.ofInt (D a x.toNat))) hx hb (arr_at (t := 3) (by decide) hD hK) (((hK_of hG hal).2 3 _ rfl).1 n _) (fun q => by cases q) (by rw [arrV_size]; exact i1) ?_ rfl rfl d h2
  rw [i2, arrV_read _ _ (by omega)]
  rfl
/-- a row of an array of references -/
theorem at_aaload (pc' : Nat) (X : CX g κ cc own nL) (a : Nat) {t n b : Nat} {x : Int} (hK : K[a]? = some (t, n)) (ht : t = 4 ∨ t = 5 ∨ t = 6) (h0 : 0 ≤ x) (h1 : x < n) (hb0 : D a x.toNat = (b : Int)) (d : decode cc pc = .ok (.aaload, 1)) (e0 : pc + 1 = pc') (kk : AT g κ K z cells slots pc' l (mR b :: st) D) : AT g κ K z cells slots pc l (mI x :: mR a :: st) D := by
  obtain ⟨p, e, R, s, m, args, below, meth, c, Q⟩ := κ
  obtain ⟨hx, hb, hnl, hown, hts, hlk, hal, hG, hold, hsz, hnw⟩ := X
  subst e0
  intro H ls locs hl o1 o2 hD hS
  obtain ⟨i1, i2⟩ := idx_in h0 h1 (ok_hd o2)
  have h2 := kk H ls locs hl o1 (ok_cons (v := mR b) trivial (ok_tl (ok_tl o2))) hD hS
  rw [List.map_cons, rvv_ref] at h2
  rw [List.map_cons, List.map_cons, rvv_ref]
  have hrd : (arrV (g.2.2.1 t) n (fun j => rvv (gB g) (etag t, D a j))).slots[(Int32.ofInt x).toNatClampNeg]? = some (.ref (gB g + b)) := by
    rw [i2, arrV_read _ _ (by omega), hb0]
    have : etag t = 2 := by rcases ht with rfl | rfl | rfl <;> rfl
    rw [this]
    exact congrArg some (rvv_ref _ _)
  rcases ht with rfl | rfl | rfl
  · exact W.aald (v := .ref (gB g + b)) (ty := .object "ShadeBeams$Image") hx hb (arr_at (t := 4) (by decide) hD hK) (((hK_of hG hal).2 4 _ rfl).1 n _) rfl (fun q => by cases q) (by rw [arrV_size]; exact i1) hrd rfl rfl d h2
  · exact W.aald (v := .ref (gB g + b)) (ty := .array .int) hx hb (arr_at (t := 5) (by decide) hD hK) (((hK_of hG hal).2 5 _ rfl).1 n _) rfl (fun q => by cases q) (by rw [arrV_size]; exact i1) hrd rfl rfl d h2
  · exact W.aald (v := .ref (gB g + b)) (ty := .array .long) hx hb (arr_at (t := 6) (by decide) hD hK) (((hK_of hG hal).2 6 _ rfl).1 n _) rfl (fun q => by cases q) (by rw [arrV_size]; exact i1) hrd rfl rfl d h2
theorem hrow_set {a t n k : Nat} {x : Int} {H1 : Heap} (ht : t < 7) (e : H1[gB g + a]? = some ((arrV (g.2.2.1 t) n (fun j => rvv (gB g) (etag t, D a j))).setSlot k (rvv (gB g) (etag t, x)))) : cellAt g (t, n) (fun j => if j = k then x else D a j) (gB g + a) H1 := by
  unfold cellAt
  rw [if_pos ht, e, arrV_store]
  congr 2
  funext j
  unfold updV
  by_cases c : j = k
  · simp [c]
  · simp [c]
theorem at_iastore (pc' : Nat) (X : CX g κ cc own nL) (a : Nat) {n : Nat} {x v : Int} (hK : K[a]? = some (0, n)) (h0 : 0 ≤ x) (h1 : x < n) (d : decode cc pc = .ok (.iastore, 1)) (e0 : pc + 1 = pc') (kk : AT g κ K z cells slots pc' l st (wr D a x.toNat v)) : AT g κ K z cells slots pc l (mI v :: mI x :: mR a :: st) D := by
  obtain ⟨p, e, R, s, m, args, below, meth, c, Q⟩ := κ
  obtain ⟨hx, hb, hnl, hown, hts, hlk, hal, hG, hold, hsz, hnw⟩ := X
  subst e0
  intro H ls locs hl o1 o2 hD hS
  obtain ⟨i1, i2⟩ := idx_in h0 h1 (ok_hd (ok_tl o2))
  rw [List.map_cons, List.map_cons, List.map_cons, rvv_ref]
  refine W.iast hx hb (arr_at (t := 0) (by decide) hD hK) (((hK_of hG hal).2 0 _ rfl).1 n _) (fun q => by cases q) (by rw [arrV_size]; exact i1) rfl rfl d fun H1 e z oq => ?_
  rw [i2] at e ⊢
  exact kk H1 ls _ hl o1 (ok_tl (ok_tl (ok_tl o2))) (hd_set hD hK (fun _ => ok_hd o2) (hrow_set (t := 0) (by decide) e) z oq) (hS_put hS z oq)
theorem at_lastore (pc' : Nat) (X : CX g κ cc own nL) (a : Nat) {n : Nat} {x v : Int} (hK : K[a]? = some (3, n)) (h0 : 0 ≤ x) (h1 : x < n) (d : decode cc pc = .ok (.lastore, 1)) (e0 : pc + 1 = pc') (kk : AT g κ K z cells slots pc' l st (wr D a x.toNat v)) : AT g κ K z cells slots pc l (mL v :: mI x :: mR a :: st) D := by
  obtain ⟨p, e, R, s, m, args, below, meth, c, Q⟩ := κ
  obtain ⟨hx, hb, hnl, hown, hts, hlk, hal, hG, hold, hsz, hnw⟩ := X
  subst e0
  intro H ls locs hl o1 o2 hD hS
  obtain ⟨i1, i2⟩ := idx_in h0 h1 (ok_hd (ok_tl o2))
  rw [List.map_cons, List.map_cons, List.map_cons, rvv_ref]
  refine W.last hx hb (arr_at (t := 3) (by decide) hD hK) (((hK_of hG hal).2 3 _ rfl).1 n _) (fun q => by cases q) (by rw [arrV_size]; exact i1) rfl rfl d fun H1 e z oq => ?_
  rw [i2] at e ⊢
  exact kk H1 ls _ hl o1 (ok_tl (ok_tl (ok_tl o2))) (hd_set hD hK (fun _ => ok_hd o2) (hrow_set (t := 3) (by decide) e) z oq) (hS_put hS z oq)
theorem nar_b {v : Int} (h : -128 ≤ v ∧ v < 128) : narrow .byte (.int (Int32.ofInt v)) = .int (Int32.ofInt v) := by
  show Value.int ((Int32.ofInt v).toInt8.toInt32) = _
  rw [e_i2b]
  congr 2
  unfold i2b; omega
theorem at_bastore (pc' : Nat) (X : CX g κ cc own nL) (a : Nat) {n : Nat} {x v : Int} (hK : K[a]? = some (1, n)) (h0 : 0 ≤ x) (h1 : x < n) (hv : -128 ≤ v ∧ v < 128) (d : decode cc pc = .ok (.bastore, 1)) (e0 : pc + 1 = pc') (kk : AT g κ K z cells slots pc' l st (wr D a x.toNat v)) : AT g κ K z cells slots pc l (mI v :: mI x :: mR a :: st) D := by
  obtain ⟨p, e, R, s, m, args, below, meth, c, Q⟩ := κ
  obtain ⟨hx, hb, hnl, hown, hts, hlk, hal, hG, hold, hsz, hnw⟩ := X
  subst e0
  intro H ls locs hl o1 o2 hD hS
  obtain ⟨i1, i2⟩ := idx_in h0 h1 (ok_hd (ok_tl o2))
  rw [List.map_cons, List.map_cons, List.map_cons, rvv_ref]
  refine W.bast hx hb (arr_at (t := 1) (by decide) hD hK) (((hK_of hG hal).2 1 _ rfl).1 n _) (fun q => by cases q) (by rw [arrV_size]; exact i1) rfl rfl d fun H1 e z oq => ?_
  rw [i2] at e ⊢
  rw [nar_b hv] at e
  exact kk H1 ls _ hl o1 (ok_tl (ok_tl (ok_tl o2))) (hd_set hD hK (fun _ => ok_hd o2) (hrow_set (t := 1) (by decide) e) z oq) (hS_put hS z oq)
theorem at_zastore (pc' : Nat) (X : CX g κ cc own nL) (a : Nat) {n : Nat} {x v : Int} (hK : K[a]? = some (2, n)) (h0 : 0 ≤ x) (h1 : x < n) (hv : v = 0 ∨ v = 1) (d : decode cc pc = .ok (.bastore, 1)) (e0 : pc + 1 = pc') (kk : AT g κ K z cells slots pc' l st (wr D a x.toNat v)) : AT g κ K z cells slots pc l (mI v :: mI x :: mR a :: st) D := by
  obtain ⟨p, e, R, s, m, args, below, meth, c, Q⟩ := κ
  obtain ⟨hx, hb, hnl, hown, hts, hlk, hal, hG, hold, hsz, hnw⟩ := X
  subst e0
  intro H ls locs hl o1 o2 hD hS
  obtain ⟨i1, i2⟩ := idx_in h0 h1 (ok_hd (ok_tl o2))
  rw [List.map_cons, List.map_cons, List.map_cons, rvv_ref]
  refine W.zast hx hb (arr_at (t := 2) (by decide) hD hK) (((hK_of hG hal).2 2 _ rfl).1 n _) (fun q => by cases q) (by rw [arrV_size]; exact i1) rfl rfl d fun H1 e z oq => ?_
  rw [i2] at e ⊢
  have en : narrow .boolean (.int (Int32.ofInt v)) = .int (Int32.ofInt v) := by rcases hv with rfl | rfl <;> rfl
  rw [en] at e
  exact kk H1 ls _ hl o1 (ok_tl (ok_tl (ok_tl o2))) (hd_set hD hK (fun _ => ok_hd o2) (hrow_set (t := 2) (by decide) e) z oq) (hS_put hS z oq)
end MEM
