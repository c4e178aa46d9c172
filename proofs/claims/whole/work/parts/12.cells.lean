section CELLS
variable {g : Gw} {κ : Kp} {cc : ByteArray} {own : String} {nL : Nat} {K : Shp} {z : Bool} {cells slots pc : Nat} {l : List (Nat × MV)} {st : List MV} {E : Mm}
theorem m_getI (pc' : Nat) (X : CX g κ cc own nL) {a ci k n ix : Nat} (hf : FOk own ix ci k 0) (hK : K[a]? = some (ci + 7, n)) (hn : rtv a k = none) (d : decode cc pc = .ok (.getfield ix, 3)) (e0 : pc + 3 = pc') (kk : AT g κ K z cells slots pc' l (mI (E a k) :: st) (ov E)) : AT g κ K z cells slots pc l (mR a :: st) (ov E) := by
  obtain ⟨C, T, N, ty, hc, hk, hl, ht⟩ := hf
  rw [← ov_n (E := E) hn] at kk
  rcases hl with hl | ⟨h, hl⟩
  · exact at_getf pc' X a ci k hc hk hl hK ht d e0 kk
  · exact at_getfN pc' X a ci k hc hk hl hK ht d e0 kk
theorem m_getL (pc' : Nat) (X : CX g κ cc own nL) {a ci k n ix : Nat} (hf : FOk own ix ci k 1) (hK : K[a]? = some (ci + 7, n)) (hn : rtv a k = none) (d : decode cc pc = .ok (.getfield ix, 3)) (e0 : pc + 3 = pc') (kk : AT g κ K z cells slots pc' l (mL (E a k) :: st) (ov E)) : AT g κ K z cells slots pc l (mR a :: st) (ov E) := by
  obtain ⟨C, T, N, ty, hc, hk, hl, ht⟩ := hf
  rw [← ov_n (E := E) hn] at kk
  rcases hl with hl | ⟨h, hl⟩
  · exact at_getf pc' X a ci k hc hk hl hK ht d e0 kk
  · exact at_getfN pc' X a ci k hc hk hl hK ht d e0 kk
theorem m_getV (pc' : Nat) (X : CX g κ cc own nL) {a ci k n ix b : Nat} (hf : FOk own ix ci k 2) (hK : K[a]? = some (ci + 7, n)) (hb : ov E a k = (b : Int)) (d : decode cc pc = .ok (.getfield ix, 3)) (e0 : pc + 3 = pc') (kk : AT g κ K z cells slots pc' l (mR b :: st) (ov E)) : AT g κ K z cells slots pc l (mR a :: st) (ov E) := by
  obtain ⟨C, T, N, ty, hc, hk, hl, ht⟩ := hf
  have e : mR b = (2, ov E a k) := by rw [hb]
  rw [e] at kk
  rcases hl with hl | ⟨h, hl⟩
  · exact at_getf pc' X a ci k hc hk hl hK ht d e0 kk
  · exact at_getfN pc' X a ci k hc hk hl hK ht d e0 kk
theorem m_getR (pc' : Nat) (X : CX g κ cc own nL) {a ci k n ix b : Nat} (hf : FOk own ix ci k 2) (hK : K[a]? = some (ci + 7, n)) (hb : rtv a k = some b) (d : decode cc pc = .ok (.getfield ix, 3)) (e0 : pc + 3 = pc') (kk : AT g κ K z cells slots pc' l (mR b :: st) (ov E)) : AT g κ K z cells slots pc l (mR a :: st) (ov E) := m_getV pc' X hf hK (ov_s hb) d e0 kk
/-- a reference that is written now and then -/
theorem m_getM (pc' : Nat) (X : CX g κ cc own nL) {a ci k n ix : Nat} (b : Nat) (hf : FOk own ix ci k 2) (hK : K[a]? = some (ci + 7, n)) (hn : rtv a k = none) (he : E a k = (b : Int)) (d : decode cc pc = .ok (.getfield ix, 3)) (e0 : pc + 3 = pc') (kk : AT g κ K z cells slots pc' l (mR b :: st) (ov E)) : AT g κ K z cells slots pc l (mR a :: st) (ov E) := m_getV pc' X hf hK ((ov_n hn).trans he) d e0 kk
theorem m_put (pc' : Nat) (X : CX g κ cc own nL) {a ci k n ix t : Nat} {x : Int} (h2 : t ≤ 2) (hf : FOk own ix ci k t) (hw : FWr ci k) (hK : K[a]? = some (ci + 7, n)) (hn : rtv a k = none) (d : decode cc pc = .ok (.putfield ix, 3)) (e0 : pc + 3 = pc') (kk : AT g κ K z cells slots pc' l st (ov (wr E a k x))) : AT g κ K z cells slots pc l ((t, x) :: mR a :: st) (ov E) := by
  obtain ⟨C, T, N, ty, hc, hk, hl, ht⟩ := hf
  obtain ⟨C', T', N', ty', hc', hfin, hnb⟩ := hw
  have e1 := hc.1.symm.trans hc'.1
  have e2 := hc.2.2.1
  cases e1
  have ety : ty k = ty' k := Option.some.inj ((hc.2.2.1 k hk).symm.trans (hc'.2.2.1 k hk))
  rw [← ov_wr hn] at kk
  rcases hl with hl | ⟨h, hl⟩
  · exact at_putf pc' X a ci k hc hk hl hK ht h2 hfin (fun q => absurd (ety ▸ q) hnb) d e0 kk
  · exact at_putfN pc' X a ci k hc hk hl hK ht h2 hfin (fun q => absurd (ety ▸ q) hnb) d e0 kk
theorem m_putI (pc' : Nat) (X : CX g κ cc own nL) {a ci k n ix : Nat} {x : Int} (hf : FOk own ix ci k 0) (hw : FWr ci k) (hK : K[a]? = some (ci + 7, n)) (hn : rtv a k = none) (d : decode cc pc = .ok (.putfield ix, 3)) (e0 : pc + 3 = pc') (kk : AT g κ K z cells slots pc' l st (ov (wr E a k x))) : AT g κ K z cells slots pc l (mI x :: mR a :: st) (ov E) := m_put pc' X (by decide) hf hw hK hn d e0 kk
theorem m_putL (pc' : Nat) (X : CX g κ cc own nL) {a ci k n ix : Nat} {x : Int} (hf : FOk own ix ci k 1) (hw : FWr ci k) (hK : K[a]? = some (ci + 7, n)) (hn : rtv a k = none) (d : decode cc pc = .ok (.putfield ix, 3)) (e0 : pc + 3 = pc') (kk : AT g κ K z cells slots pc' l st (ov (wr E a k x))) : AT g κ K z cells slots pc l (mL x :: mR a :: st) (ov E) := m_put pc' X (by decide) hf hw hK hn d e0 kk
theorem m_putR (pc' : Nat) (X : CX g κ cc own nL) {a ci k n ix b : Nat} (hf : FOk own ix ci k 2) (hw : FWr ci k) (hK : K[a]? = some (ci + 7, n)) (hn : rtv a k = none) (d : decode cc pc = .ok (.putfield ix, 3)) (e0 : pc + 3 = pc') (kk : AT g κ K z cells slots pc' l st (ov (wr E a k (b : Int)))) : AT g κ K z cells slots pc l (mR b :: mR a :: st) (ov E) := m_put pc' X (by decide) hf hw hK hn d e0 kk
theorem m_putZ (pc' : Nat) (X : CX g κ cc own nL) {a ci k n ix : Nat} {x : Int} (hx : x = 0 ∨ x = 1) (hf : FOk own ix ci k 0) (hw : FWz ci k) (hK : K[a]? = some (ci + 7, n)) (hn : rtv a k = none) (d : decode cc pc = .ok (.putfield ix, 3)) (e0 : pc + 3 = pc') (kk : AT g κ K z cells slots pc' l st (ov (wr E a k x))) : AT g κ K z cells slots pc l (mI x :: mR a :: st) (ov E) := by
  obtain ⟨C, T, N, ty, hc, hk, hl, ht⟩ := hf
  obtain ⟨C', T', N', ty', hc', hfin⟩ := hw
  have e1 := hc.1.symm.trans hc'.1
  cases e1
  rw [← ov_wr hn] at kk
  rcases hl with hl | ⟨h, hl⟩
  · exact at_putf pc' X a ci k hc hk hl hK ht (by decide) hfin (fun _ => hx) d e0 kk
  · exact at_putfN pc' X a ci k hc hk hl hK ht (by decide) hfin (fun _ => hx) d e0 kk
theorem m_iaload (pc' : Nat) (X : CX g κ cc own nL) {a n : Nat} {x : Int} (hK : K[a]? = some (0, n)) (he : rtab.getD a [] = []) (h0 : 0 ≤ x) (h1 : x < n) (d : decode cc pc = .ok (.iaload, 1)) (e0 : pc + 1 = pc') (kk : AT g κ K z cells slots pc' l (mI (E a x.toNat) :: st) (ov E)) : AT g κ K z cells slots pc l (mI x :: mR a :: st) (ov E) := at_iaload pc' X a hK h0 h1 d e0 (by rw [ov_n (rtv_e he _)]; exact kk)
theorem m_baload (pc' : Nat) (X : CX g κ cc own nL) {a n : Nat} {x : Int} (hK : K[a]? = some (1, n)) (he : rtab.getD a [] = []) (h0 : 0 ≤ x) (h1 : x < n) (d : decode cc pc = .ok (.baload, 1)) (e0 : pc + 1 = pc') (kk : AT g κ K z cells slots pc' l (mI (E a x.toNat) :: st) (ov E)) : AT g κ K z cells slots pc l (mI x :: mR a :: st) (ov E) := at_baload pc' X a hK h0 h1 d e0 (by rw [ov_n (rtv_e he _)]; exact kk)
theorem m_zaload (pc' : Nat) (X : CX g κ cc own nL) {a n : Nat} {x : Int} (hK : K[a]? = some (2, n)) (he : rtab.getD a [] = []) (h0 : 0 ≤ x) (h1 : x < n) (d : decode cc pc = .ok (.baload, 1)) (e0 : pc + 1 = pc') (kk : AT g κ K z cells slots pc' l (mI (E a x.toNat) :: st) (ov E)) : AT g κ K z cells slots pc l (mI x :: mR a :: st) (ov E) := at_zaload pc' X a hK h0 h1 d e0 (by rw [ov_n (rtv_e he _)]; exact kk)
theorem m_laload (pc' : Nat) (X : CX g κ cc own nL) {a n : Nat} {x : Int} (hK : K[a]? = some (3, n)) (he : rtab.getD a [] = []) (h0 : 0 ≤ x) (h1 : x < n) (d : decode cc pc = .ok (.laload, 1)) (e0 : pc + 1 = pc') (kk : AT g κ K z cells slots pc' l (mL (E a x.toNat) :: st) (ov E)) : AT g κ K z cells slots pc l (mI x :: mR a :: st) (ov E) := at_laload pc' X a hK h0 h1 d e0 (by rw [ov_n (rtv_e he _)]; exact kk)
theorem m_iastore (pc' : Nat) (X : CX g κ cc own nL) {a n : Nat} {x v : Int} (hK : K[a]? = some (0, n)) (he : rtab.getD a [] = []) (h0 : 0 ≤ x) (h1 : x < n) (d : decode cc pc = .ok (.iastore, 1)) (e0 : pc + 1 = pc') (kk : AT g κ K z cells slots pc' l st (ov (wr E a x.toNat v))) : AT g κ K z cells slots pc l (mI v :: mI x :: mR a :: st) (ov E) := at_iastore pc' X a hK h0 h1 d e0 (by rw [ov_wr (rtv_e he _)]; exact kk)
theorem m_bastore (pc' : Nat) (X : CX g κ cc own nL) {a n : Nat} {x v : Int} (hK : K[a]? = some (1, n)) (he : rtab.getD a [] = []) (h0 : 0 ≤ x) (h1 : x < n) (hv : -128 ≤ v ∧ v < 128) (d : decode cc pc = .ok (.bastore, 1)) (e0 : pc + 1 = pc') (kk : AT g κ K z cells slots pc' l st (ov (wr E a x.toNat v))) : AT g κ K z cells slots pc l (mI v :: mI x :: mR a :: st) (ov E) := at_bastore pc' X a hK h0 h1 hv d e0 (by rw [ov_wr (rtv_e he _)]; exact kk)
theorem m_zastore (pc' : Nat) (X : CX g κ cc own nL) {a n : Nat} {x v : Int} (hK : K[a]? = some (2, n)) (he : rtab.getD a [] = []) (h0 : 0 ≤ x) (h1 : x < n) (hv : v = 0 ∨ v = 1) (d : decode cc pc = .ok (.bastore, 1)) (e0 : pc + 1 = pc') (kk : AT g κ K z cells slots pc' l st (ov (wr E a x.toNat v))) : AT g κ K z cells slots pc l (mI v :: mI x :: mR a :: st) (ov E) := at_zastore pc' X a hK h0 h1 hv d e0 (by rw [ov_wr (rtv_e he _)]; exact kk)
theorem m_lastore (pc' : Nat) (X : CX g κ cc own nL) {a n : Nat} {x v : Int} (hK : K[a]? = some (3, n)) (he : rtab.getD a [] = []) (h0 : 0 ≤ x) (h1 : x < n) (d : decode cc pc = .ok (.lastore, 1)) (e0 : pc + 1 = pc') (kk : AT g κ K z cells slots pc' l st (ov (wr E a x.toNat v))) : AT g κ K z cells slots pc l (mL v :: mI x :: mR a :: st) (ov E) := at_lastore pc' X a hK h0 h1 d e0 (by rw [ov_wr (rtv_e he _)]; exact kk)
theorem m_aaload (pc' : Nat) (X : CX g κ cc own nL) {a t n b : Nat} {x : Int} (hK : K[a]? = some (t, n)) (ht : t = 4 ∨ t = 5 ∨ t = 6) (h0 : 0 ≤ x) (h1 : x < n) (hb : rtv a x.toNat = some b) (d : decode cc pc = .ok (.aaload, 1)) (e0 : pc + 1 = pc') (kk : AT g κ K z cells slots pc' l (mR b :: st) (ov E)) : AT g κ K z cells slots pc l (mI x :: mR a :: st) (ov E) := at_aaload pc' X a hK ht h0 h1 (ov_s hb) d e0 kk
end CELLS
theorem wr_s (E : Mm) (a k : Nat) (x : Int) : wr E a k x a k = x := if_pos ⟨rfl, rfl⟩
theorem wr_o {E : Mm} {a k b j : Nat} {x : Int} (h : b ≠ a ∨ j ≠ k) : wr E a k x b j = E b j := if_neg (fun q => h.elim (fun h => h q.1) (fun h => h q.2))
theorem wr_a {E : Mm} {a k b j : Nat} {x : Int} (h : b ≠ a) : wr E a k x b j = E b j := wr_o (Or.inl h)
theorem wr_k {E : Mm} {a k j : Nat} {x : Int} (h : j ≠ k) : wr E a k x a j = E a j := wr_o (Or.inr h)
theorem wr_wr (E : Mm) (a k : Nat) (x y : Int) : wr (wr E a k x) a k y = wr E a k y := by
  funext b j
  unfold wr
  by_cases c : b = a ∧ j = k
  · rw [if_pos c, if_pos c]
  · rw [if_neg c, if_neg c, if_neg c]
theorem wr_id {E : Mm} {a k : Nat} {x : Int} (h : E a k = x) : wr E a k x = E := by
  funext b j
  unfold wr
  by_cases c : b = a ∧ j = k
  · rw [if_pos c, c.1, c.2, h]
  · rw [if_neg c]
theorem wr_comm {E : Mm} {a k b j : Nat} {x y : Int} (h : b ≠ a ∨ j ≠ k) : wr (wr E a k x) b j y = wr (wr E b j y) a k x := by
  funext c i
  unfold wr
  by_cases h1 : c = a ∧ i = k <;> by_cases h2 : c = b ∧ i = j
  · obtain ⟨rfl, rfl⟩ := h1
    obtain ⟨rfl, rfl⟩ := h2
    rcases h with h | h <;> exact absurd rfl h
  · rw [if_neg h2, if_pos h1, if_pos h1]
  · rw [if_pos h2, if_neg h1, if_pos h2]
  · rw [if_neg h2, if_neg h1, if_neg h1, if_neg h2]
