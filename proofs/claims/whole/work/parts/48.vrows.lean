section VROWS
theorem w32_v {z v : Int} (h : z = v) (h1 : -2147483648 ≤ v) (h2 : v < 2147483648) : w32 z = v := by rw [h]; exact w32_id h1 h2
theorem w64_v {z v : Int} (h : z = v) (h1 : -9223372036854775808 ≤ v) (h2 : v < 9223372036854775808) : w64 z = v := by rw [h]; exact w64_id h1 h2
variable {g : Gw} {κ : Kp} {cc : ByteArray} {own : String} {nL : Nat} {K : Shp} {z : Bool} {cells slots pc : Nat} {l : List (Nat × MV)} {st : List MV} {D E : Mm}
theorem at_iaddV (pc' : Nat) (X : CX g κ cc own nL) {x y : Int} (v : Int) (hv : w32 (x + y) = v) (d : decode cc pc = .ok (.iadd, 1)) (e0 : pc + 1 = pc') (k : AT g κ K z cells slots pc' l (mI v :: st) D) : AT g κ K z cells slots pc l (mI y :: mI x :: st) D := at_iadd pc' X d e0 (by rw [hv]; exact k)
theorem at_laddV (pc' : Nat) (X : CX g κ cc own nL) {x y : Int} (v : Int) (hv : w64 (x + y) = v) (d : decode cc pc = .ok (.ladd, 1)) (e0 : pc + 1 = pc') (k : AT g κ K z cells slots pc' l (mL v :: st) D) : AT g κ K z cells slots pc l (mL y :: mL x :: st) D := at_ladd pc' X d e0 (by rw [hv]; exact k)
theorem at_isubV (pc' : Nat) (X : CX g κ cc own nL) {x y : Int} (v : Int) (hv : w32 (x - y) = v) (d : decode cc pc = .ok (.isub, 1)) (e0 : pc + 1 = pc') (k : AT g κ K z cells slots pc' l (mI v :: st) D) : AT g κ K z cells slots pc l (mI y :: mI x :: st) D := at_isub pc' X d e0 (by rw [hv]; exact k)
theorem at_lsubV (pc' : Nat) (X : CX g κ cc own nL) {x y : Int} (v : Int) (hv : w64 (x - y) = v) (d : decode cc pc = .ok (.lsub, 1)) (e0 : pc + 1 = pc') (k : AT g κ K z cells slots pc' l (mL v :: st) D) : AT g κ K z cells slots pc l (mL y :: mL x :: st) D := at_lsub pc' X d e0 (by rw [hv]; exact k)
theorem at_imulV (pc' : Nat) (X : CX g κ cc own nL) {x y : Int} (v : Int) (hv : w32 (x * y) = v) (d : decode cc pc = .ok (.imul, 1)) (e0 : pc + 1 = pc') (k : AT g κ K z cells slots pc' l (mI v :: st) D) : AT g κ K z cells slots pc l (mI y :: mI x :: st) D := at_imul pc' X d e0 (by rw [hv]; exact k)
theorem at_lmulV (pc' : Nat) (X : CX g κ cc own nL) {x y : Int} (v : Int) (hv : w64 (x * y) = v) (d : decode cc pc = .ok (.lmul, 1)) (e0 : pc + 1 = pc') (k : AT g κ K z cells slots pc' l (mL v :: st) D) : AT g κ K z cells slots pc l (mL y :: mL x :: st) D := at_lmul pc' X d e0 (by rw [hv]; exact k)
theorem at_idivV (pc' : Nat) (X : CX g κ cc own nL) {x y : Int} (hne : ¬ y = 0) (v : Int) (hv : w32 (x.tdiv y) = v) (d : decode cc pc = .ok (.idiv, 1)) (e0 : pc + 1 = pc') (k : AT g κ K z cells slots pc' l (mI v :: st) D) : AT g κ K z cells slots pc l (mI y :: mI x :: st) D := at_idiv pc' X hne d e0 (by rw [hv]; exact k)
theorem at_ldivV (pc' : Nat) (X : CX g κ cc own nL) {x y : Int} (hne : ¬ y = 0) (v : Int) (hv : w64 (x.tdiv y) = v) (d : decode cc pc = .ok (.ldiv, 1)) (e0 : pc + 1 = pc') (k : AT g κ K z cells slots pc' l (mL v :: st) D) : AT g κ K z cells slots pc l (mL y :: mL x :: st) D := at_ldiv pc' X hne d e0 (by rw [hv]; exact k)
theorem at_iremV (pc' : Nat) (X : CX g κ cc own nL) {x y : Int} (hne : ¬ y = 0) (v : Int) (hv : w32 (x.tmod y) = v) (d : decode cc pc = .ok (.irem, 1)) (e0 : pc + 1 = pc') (k : AT g κ K z cells slots pc' l (mI v :: st) D) : AT g κ K z cells slots pc l (mI y :: mI x :: st) D := at_irem pc' X hne d e0 (by rw [hv]; exact k)
theorem at_lremV (pc' : Nat) (X : CX g κ cc own nL) {x y : Int} (hne : ¬ y = 0) (v : Int) (hv : w64 (x.tmod y) = v) (d : decode cc pc = .ok (.lrem, 1)) (e0 : pc + 1 = pc') (k : AT g κ K z cells slots pc' l (mL v :: st) D) : AT g κ K z cells slots pc l (mL y :: mL x :: st) D := at_lrem pc' X hne d e0 (by rw [hv]; exact k)
theorem at_iandV (pc' : Nat) (X : CX g κ cc own nL) {x y : Int} (v : Int) (hv : iand x y = v) (d : decode cc pc = .ok (.iand, 1)) (e0 : pc + 1 = pc') (k : AT g κ K z cells slots pc' l (mI v :: st) D) : AT g κ K z cells slots pc l (mI y :: mI x :: st) D := at_iand pc' X d e0 (by rw [hv]; exact k)
theorem at_landV (pc' : Nat) (X : CX g κ cc own nL) {x y : Int} (v : Int) (hv : land x y = v) (d : decode cc pc = .ok (.land, 1)) (e0 : pc + 1 = pc') (k : AT g κ K z cells slots pc' l (mL v :: st) D) : AT g κ K z cells slots pc l (mL y :: mL x :: st) D := at_land pc' X d e0 (by rw [hv]; exact k)
theorem at_iorV (pc' : Nat) (X : CX g κ cc own nL) {x y : Int} (v : Int) (hv : ior x y = v) (d : decode cc pc = .ok (.ior, 1)) (e0 : pc + 1 = pc') (k : AT g κ K z cells slots pc' l (mI v :: st) D) : AT g κ K z cells slots pc l (mI y :: mI x :: st) D := at_ior pc' X d e0 (by rw [hv]; exact k)
theorem at_lorV (pc' : Nat) (X : CX g κ cc own nL) {x y : Int} (v : Int) (hv : lor x y = v) (d : decode cc pc = .ok (.lor, 1)) (e0 : pc + 1 = pc') (k : AT g κ K z cells slots pc' l (mL v :: st) D) : AT g κ K z cells slots pc l (mL y :: mL x :: st) D := at_lor pc' X d e0 (by rw [hv]; exact k)
theorem at_ixorV (pc' : Nat) (X : CX g κ cc own nL) {x y : Int} (v : Int) (hv : ixor x y = v) (d : decode cc pc = .ok (.ixor, 1)) (e0 : pc + 1 = pc') (k : AT g κ K z cells slots pc' l (mI v :: st) D) : AT g κ K z cells slots pc l (mI y :: mI x :: st) D := at_ixor pc' X d e0 (by rw [hv]; exact k)
theorem at_lxorV (pc' : Nat) (X : CX g κ cc own nL) {x y : Int} (v : Int) (hv : lxor x y = v) (d : decode cc pc = .ok (.lxor, 1)) (e0 : pc + 1 = pc') (k : AT g κ K z cells slots pc' l (mL v :: st) D) : AT g κ K z cells slots pc l (mL y :: mL x :: st) D := at_lxor pc' X d e0 (by rw [hv]; exact k)
theorem at_ishlV (pc' : Nat) (X : CX g κ cc own nL) {x y : Int} (v : Int) (hv : ishl x y = v) (d : decode cc pc = .ok (.ishl, 1)) (e0 : pc + 1 = pc') (k : AT g κ K z cells slots pc' l (mI v :: st) D) : AT g κ K z cells slots pc l (mI y :: mI x :: st) D := at_ishl pc' X d e0 (by rw [hv]; exact k)
theorem at_lshlV (pc' : Nat) (X : CX g κ cc own nL) {x y : Int} (v : Int) (hv : lshl x y = v) (d : decode cc pc = .ok (.lshl, 1)) (e0 : pc + 1 = pc') (k : AT g κ K z cells slots pc' l (mL v :: st) D) : AT g κ K z cells slots pc l (mI y :: mL x :: st) D := at_lshl pc' X d e0 (by rw [hv]; exact k)
theorem at_ishrV (pc' : Nat) (X : CX g κ cc own nL) {x y : Int} (v : Int) (hv : ishr x y = v) (d : decode cc pc = .ok (.ishr, 1)) (e0 : pc + 1 = pc') (k : AT g κ K z cells slots pc' l (mI v :: st) D) : AT g κ K z cells slots pc l (mI y :: mI x :: st) D := at_ishr pc' X d e0 (by rw [hv]; exact k)
theorem at_lshrV (pc' : Nat) (X : CX g κ cc own nL) {x y : Int} (v : Int) (hv : lshr x y = v) (d : decode cc pc = .ok (.lshr, 1)) (e0 : pc + 1 = pc') (k : AT g κ K z cells slots pc' l (mL v :: st) D) : AT g κ K z cells slots pc l (mI y :: mL x :: st) D := at_lshr pc' X d e0 (by rw [hv]; exact k)
theorem at_iushrV (pc' : Nat) (X : CX g κ cc own nL) {x y : Int} (v : Int) (hv : iushr x y = v) (d : decode cc pc = .ok (.iushr, 1)) (e0 : pc + 1 = pc') (k : AT g κ K z cells slots pc' l (mI v :: st) D) : AT g κ K z cells slots pc l (mI y :: mI x :: st) D := at_iushr pc' X d e0 (by rw [hv]; exact k)
theorem at_lushrV (pc' : Nat) (X : CX g κ cc own nL) {x y : Int} (v : Int) (hv : lushr x y = v) (d : decode cc pc = .ok (.lushr, 1)) (e0 : pc + 1 = pc') (k : AT g κ K z cells slots pc' l (mL v :: st) D) : AT g κ K z cells slots pc l (mI y :: mL x :: st) D := at_lushr pc' X d e0 (by rw [hv]; exact k)
theorem at_inegV (pc' : Nat) (X : CX g κ cc own nL) {x : Int} (v : Int) (hv : w32 (-x) = v) (d : decode cc pc = .ok (.ineg, 1)) (e0 : pc + 1 = pc') (k : AT g κ K z cells slots pc' l (mI v :: st) D) : AT g κ K z cells slots pc l (mI x :: st) D := at_ineg pc' X d e0 (by rw [hv]; exact k)
theorem at_lnegV (pc' : Nat) (X : CX g κ cc own nL) {x : Int} (v : Int) (hv : w64 (-x) = v) (d : decode cc pc = .ok (.lneg, 1)) (e0 : pc + 1 = pc') (k : AT g κ K z cells slots pc' l (mL v :: st) D) : AT g κ K z cells slots pc l (mL x :: st) D := at_lneg pc' X d e0 (by rw [hv]; exact k)
theorem at_l2iV (pc' : Nat) (X : CX g κ cc own nL) {x : Int} (v : Int) (hv : w32 x = v) (d : decode cc pc = .ok (.l2i, 1)) (e0 : pc + 1 = pc') (k : AT g κ K z cells slots pc' l (mI v :: st) D) : AT g κ K z cells slots pc l (mL x :: st) D := at_l2i pc' X d e0 (by rw [hv]; exact k)
theorem at_i2bV (pc' : Nat) (X : CX g κ cc own nL) {x : Int} (v : Int) (hv : i2b x = v) (d : decode cc pc = .ok (.i2b, 1)) (e0 : pc + 1 = pc') (k : AT g κ K z cells slots pc' l (mI v :: st) D) : AT g κ K z cells slots pc l (mI x :: st) D := at_i2b pc' X d e0 (by rw [hv]; exact k)
theorem at_iincV (pc' : Nat) (X : CX g κ cc own nL) {i : Nat} {n x : Int} (v : Int) (hv : w32 (x + n) = v) (h : lget l i = some (mI x)) (d : decode cc pc = .ok (.iinc i n, 3)) (e0 : pc + 3 = pc') (hn : i < nL) (k : AT g κ K z cells slots pc' (lset i (mI v) l) st D) : AT g κ K z cells slots pc l st D := at_iinc pc' X h d e0 hn (by rw [hv]; exact k)
theorem at_iconstV (pc' : Nat) (X : CX g κ cc own nL) {n : Int} (hn : -2147483648 ≤ n ∧ n < 2147483648) (v : Int) (hv : n = v) (d : decode cc pc = .ok (.iconst n, 1)) (e0 : pc + 1 = pc') (k : AT g κ K z cells slots pc' l (mI v :: st) D) : AT g κ K z cells slots pc l st D := at_iconst pc' X hn d e0 (by rw [hv]; exact k)
theorem at_lif_eq (pc1 pc' tgt : Nat) (X : CX g κ cc own nL) {x y : Int} {off : Int} (d : decode cc pc = .ok (.lcmp, 1)) (e0 : pc + 1 = pc1) (d2 : decode cc pc1 = .ok (.ifCond .eq off, 3)) (e1 : pc1 + 3 = pc') (ht : (pc1 : Int) + off = (tgt : Int)) (kt : x = y → AT g κ K z cells slots tgt l st D) (kf : ¬ x = y → AT g κ K z cells slots pc' l st D) : AT g κ K z cells slots pc l (mL y :: mL x :: st) D := by
  have hl : (x < y ∧ lcmpI x y = -1) ∨ (x = y ∧ lcmpI x y = 0) ∨ (y < x ∧ lcmpI x y = 1) := by
    unfold lcmpI
    rcases Int.lt_trichotomy x y with h | h | h
    · left; rw [if_neg (by omega), if_neg (by omega)]; exact ⟨h, rfl⟩
    · right; left; subst h; simp
    · right; right; rw [if_pos h]; exact ⟨h, rfl⟩
  refine at_lcmp pc1 X d e0 ?_
  exact at_if_eq pc' tgt X d2 e1 ht (fun h => kt (by omega)) (fun h => kf (by omega))
theorem at_lif_ne (pc1 pc' tgt : Nat) (X : CX g κ cc own nL) {x y : Int} {off : Int} (d : decode cc pc = .ok (.lcmp, 1)) (e0 : pc + 1 = pc1) (d2 : decode cc pc1 = .ok (.ifCond .ne off, 3)) (e1 : pc1 + 3 = pc') (ht : (pc1 : Int) + off = (tgt : Int)) (kt : ¬ x = y → AT g κ K z cells slots tgt l st D) (kf : x = y → AT g κ K z cells slots pc' l st D) : AT g κ K z cells slots pc l (mL y :: mL x :: st) D := by
  have hl : (x < y ∧ lcmpI x y = -1) ∨ (x = y ∧ lcmpI x y = 0) ∨ (y < x ∧ lcmpI x y = 1) := by
    unfold lcmpI
    rcases Int.lt_trichotomy x y with h | h | h
    · left; rw [if_neg (by omega), if_neg (by omega)]; exact ⟨h, rfl⟩
    · right; left; subst h; simp
    · right; right; rw [if_pos h]; exact ⟨h, rfl⟩
  refine at_lcmp pc1 X d e0 ?_
  exact at_if_ne pc' tgt X d2 e1 ht (fun h => kt (by omega)) (fun h => kf (by omega))
theorem at_lif_lt (pc1 pc' tgt : Nat) (X : CX g κ cc own nL) {x y : Int} {off : Int} (d : decode cc pc = .ok (.lcmp, 1)) (e0 : pc + 1 = pc1) (d2 : decode cc pc1 = .ok (.ifCond .lt off, 3)) (e1 : pc1 + 3 = pc') (ht : (pc1 : Int) + off = (tgt : Int)) (kt : x < y → AT g κ K z cells slots tgt l st D) (kf : y ≤ x → AT g κ K z cells slots pc' l st D) : AT g κ K z cells slots pc l (mL y :: mL x :: st) D := by
  have hl : (x < y ∧ lcmpI x y = -1) ∨ (x = y ∧ lcmpI x y = 0) ∨ (y < x ∧ lcmpI x y = 1) := by
    unfold lcmpI
    rcases Int.lt_trichotomy x y with h | h | h
    · left; rw [if_neg (by omega), if_neg (by omega)]; exact ⟨h, rfl⟩
    · right; left; subst h; simp
    · right; right; rw [if_pos h]; exact ⟨h, rfl⟩
  refine at_lcmp pc1 X d e0 ?_
  exact at_if_lt pc' tgt X d2 e1 ht (fun h => kt (by omega)) (fun h => kf (by omega))
theorem at_lif_ge (pc1 pc' tgt : Nat) (X : CX g κ cc own nL) {x y : Int} {off : Int} (d : decode cc pc = .ok (.lcmp, 1)) (e0 : pc + 1 = pc1) (d2 : decode cc pc1 = .ok (.ifCond .ge off, 3)) (e1 : pc1 + 3 = pc') (ht : (pc1 : Int) + off = (tgt : Int)) (kt : y ≤ x → AT g κ K z cells slots tgt l st D) (kf : x < y → AT g κ K z cells slots pc' l st D) : AT g κ K z cells slots pc l (mL y :: mL x :: st) D := by
  have hl : (x < y ∧ lcmpI x y = -1) ∨ (x = y ∧ lcmpI x y = 0) ∨ (y < x ∧ lcmpI x y = 1) := by
    unfold lcmpI
    rcases Int.lt_trichotomy x y with h | h | h
    · left; rw [if_neg (by omega), if_neg (by omega)]; exact ⟨h, rfl⟩
    · right; left; subst h; simp
    · right; right; rw [if_pos h]; exact ⟨h, rfl⟩
  refine at_lcmp pc1 X d e0 ?_
  exact at_if_ge pc' tgt X d2 e1 ht (fun h => kt (by omega)) (fun h => kf (by omega))
theorem at_lif_gt (pc1 pc' tgt : Nat) (X : CX g κ cc own nL) {x y : Int} {off : Int} (d : decode cc pc = .ok (.lcmp, 1)) (e0 : pc + 1 = pc1) (d2 : decode cc pc1 = .ok (.ifCond .gt off, 3)) (e1 : pc1 + 3 = pc') (ht : (pc1 : Int) + off = (tgt : Int)) (kt : y < x → AT g κ K z cells slots tgt l st D) (kf : x ≤ y → AT g κ K z cells slots pc' l st D) : AT g κ K z cells slots pc l (mL y :: mL x :: st) D := by
  have hl : (x < y ∧ lcmpI x y = -1) ∨ (x = y ∧ lcmpI x y = 0) ∨ (y < x ∧ lcmpI x y = 1) := by
    unfold lcmpI
    rcases Int.lt_trichotomy x y with h | h | h
    · left; rw [if_neg (by omega), if_neg (by omega)]; exact ⟨h, rfl⟩
    · right; left; subst h; simp
    · right; right; rw [if_pos h]; exact ⟨h, rfl⟩
  refine at_lcmp pc1 X d e0 ?_
  exact at_if_gt pc' tgt X d2 e1 ht (fun h => kt (by omega)) (fun h => kf (by omega))
theorem at_lif_le (pc1 pc' tgt : Nat) (X : CX g κ cc own nL) {x y : Int} {off : Int} (d : decode cc pc = .ok (.lcmp, 1)) (e0 : pc + 1 = pc1) (d2 : decode cc pc1 = .ok (.ifCond .le off, 3)) (e1 : pc1 + 3 = pc') (ht : (pc1 : Int) + off = (tgt : Int)) (kt : x ≤ y → AT g κ K z cells slots tgt l st D) (kf : y < x → AT g κ K z cells slots pc' l st D) : AT g κ K z cells slots pc l (mL y :: mL x :: st) D := by
  have hl : (x < y ∧ lcmpI x y = -1) ∨ (x = y ∧ lcmpI x y = 0) ∨ (y < x ∧ lcmpI x y = 1) := by
    unfold lcmpI
    rcases Int.lt_trichotomy x y with h | h | h
    · left; rw [if_neg (by omega), if_neg (by omega)]; exact ⟨h, rfl⟩
    · right; left; subst h; simp
    · right; right; rw [if_pos h]; exact ⟨h, rfl⟩
  refine at_lcmp pc1 X d e0 ?_
  exact at_if_le pc' tgt X d2 e1 ht (fun h => kt (by omega)) (fun h => kf (by omega))
theorem m_getIV (pc' : Nat) (X : CX g κ cc own nL) {a ci k n ix : Nat} (v : Int) (hv : E a k = v) (hf : FOk own ix ci k 0) (hK : K[a]? = some (ci + 7, n)) (hn : rtv a k = none) (d : decode cc pc = .ok (.getfield ix, 3)) (e0 : pc + 3 = pc') (kk : AT g κ K z cells slots pc' l (mI v :: st) (ov E)) : AT g κ K z cells slots pc l (mR a :: st) (ov E) := m_getI pc' X hf hK hn d e0 (by rw [hv]; exact kk)
theorem m_getLV (pc' : Nat) (X : CX g κ cc own nL) {a ci k n ix : Nat} (v : Int) (hv : E a k = v) (hf : FOk own ix ci k 1) (hK : K[a]? = some (ci + 7, n)) (hn : rtv a k = none) (d : decode cc pc = .ok (.getfield ix, 3)) (e0 : pc + 3 = pc') (kk : AT g κ K z cells slots pc' l (mL v :: st) (ov E)) : AT g κ K z cells slots pc l (mR a :: st) (ov E) := m_getL pc' X hf hK hn d e0 (by rw [hv]; exact kk)
theorem m_ialoadV (pc' : Nat) (X : CX g κ cc own nL) {a n : Nat} {x : Int} (i : Nat) (hx : x = (i : Int)) (v : Int) (hv : E a i = v) (hK : K[a]? = some (0, n)) (he : rtab.getD a [] = []) (hi : i < n) (d : decode cc pc = .ok (.iaload, 1)) (e0 : pc + 1 = pc') (kk : AT g κ K z cells slots pc' l (mI v :: st) (ov E)) : AT g κ K z cells slots pc l (mI x :: mR a :: st) (ov E) := by
  subst hx
  exact m_iaload pc' X hK he (by omega) (by omega) d e0 (by rw [Int.toNat_natCast, hv]; exact kk)
theorem m_baloadV (pc' : Nat) (X : CX g κ cc own nL) {a n : Nat} {x : Int} (i : Nat) (hx : x = (i : Int)) (v : Int) (hv : E a i = v) (hK : K[a]? = some (1, n)) (he : rtab.getD a [] = []) (hi : i < n) (d : decode cc pc = .ok (.baload, 1)) (e0 : pc + 1 = pc') (kk : AT g κ K z cells slots pc' l (mI v :: st) (ov E)) : AT g κ K z cells slots pc l (mI x :: mR a :: st) (ov E) := by
  subst hx
  exact m_baload pc' X hK he (by omega) (by omega) d e0 (by rw [Int.toNat_natCast, hv]; exact kk)
theorem m_zaloadV (pc' : Nat) (X : CX g κ cc own nL) {a n : Nat} {x : Int} (i : Nat) (hx : x = (i : Int)) (v : Int) (hv : E a i = v) (hK : K[a]? = some (2, n)) (he : rtab.getD a [] = []) (hi : i < n) (d : decode cc pc = .ok (.baload, 1)) (e0 : pc + 1 = pc') (kk : AT g κ K z cells slots pc' l (mI v :: st) (ov E)) : AT g κ K z cells slots pc l (mI x :: mR a :: st) (ov E) := by
  subst hx
  exact m_zaload pc' X hK he (by omega) (by omega) d e0 (by rw [Int.toNat_natCast, hv]; exact kk)
theorem m_laloadV (pc' : Nat) (X : CX g κ cc own nL) {a n : Nat} {x : Int} (i : Nat) (hx : x = (i : Int)) (v : Int) (hv : E a i = v) (hK : K[a]? = some (3, n)) (he : rtab.getD a [] = []) (hi : i < n) (d : decode cc pc = .ok (.laload, 1)) (e0 : pc + 1 = pc') (kk : AT g κ K z cells slots pc' l (mL v :: st) (ov E)) : AT g κ K z cells slots pc l (mI x :: mR a :: st) (ov E) := by
  subst hx
  exact m_laload pc' X hK he (by omega) (by omega) d e0 (by rw [Int.toNat_natCast, hv]; exact kk)
theorem m_iastoreV (pc' : Nat) (X : CX g κ cc own nL) {a n : Nat} {x v : Int} (i : Nat) (hx : x = (i : Int)) (hK : K[a]? = some (0, n)) (he : rtab.getD a [] = []) (hi : i < n) (d : decode cc pc = .ok (.iastore, 1)) (e0 : pc + 1 = pc') (kk : AT g κ K z cells slots pc' l st (ov (wr E a i v))) : AT g κ K z cells slots pc l (mI v :: mI x :: mR a :: st) (ov E) := by
  subst hx
  exact m_iastore pc' X hK he (by omega) (by omega) d e0 (by rw [Int.toNat_natCast]; exact kk)
theorem m_bastoreV (pc' : Nat) (X : CX g κ cc own nL) {a n : Nat} {x v : Int} (i : Nat) (hx : x = (i : Int)) (hK : K[a]? = some (1, n)) (he : rtab.getD a [] = []) (hi : i < n) (hv : -128 ≤ v ∧ v < 128) (d : decode cc pc = .ok (.bastore, 1)) (e0 : pc + 1 = pc') (kk : AT g κ K z cells slots pc' l st (ov (wr E a i v))) : AT g κ K z cells slots pc l (mI v :: mI x :: mR a :: st) (ov E) := by
  subst hx
  exact m_bastore pc' X hK he (by omega) (by omega) hv d e0 (by rw [Int.toNat_natCast]; exact kk)
theorem m_zastoreV (pc' : Nat) (X : CX g κ cc own nL) {a n : Nat} {x v : Int} (i : Nat) (hx : x = (i : Int)) (hK : K[a]? = some (2, n)) (he : rtab.getD a [] = []) (hi : i < n) (hv : v = 0 ∨ v = 1) (d : decode cc pc = .ok (.bastore, 1)) (e0 : pc + 1 = pc') (kk : AT g κ K z cells slots pc' l st (ov (wr E a i v))) : AT g κ K z cells slots pc l (mI v :: mI x :: mR a :: st) (ov E) := by
  subst hx
  exact m_zastore pc' X hK he (by omega) (by omega) hv d e0 (by rw [Int.toNat_natCast]; exact kk)
theorem m_lastoreV (pc' : Nat) (X : CX g κ cc own nL) {a n : Nat} {x v : Int} (i : Nat) (hx : x = (i : Int)) (hK : K[a]? = some (3, n)) (he : rtab.getD a [] = []) (hi : i < n) (d : decode cc pc = .ok (.lastore, 1)) (e0 : pc + 1 = pc') (kk : AT g κ K z cells slots pc' l st (ov (wr E a i v))) : AT g κ K z cells slots pc l (mL v :: mI x :: mR a :: st) (ov E) := by
  subst hx
  exact m_lastore pc' X hK he (by omega) (by omega) d e0 (by rw [Int.toNat_natCast]; exact kk)
theorem m_aaloadV (pc' : Nat) (X : CX g κ cc own nL) {a t n b : Nat} {x : Int} (i : Nat) (hx : x = (i : Int)) (hK : K[a]? = some (t, n)) (ht : t = 4 ∨ t = 5 ∨ t = 6) (hi : i < n) (hb : rtv a i = some b) (d : decode cc pc = .ok (.aaload, 1)) (e0 : pc + 1 = pc') (kk : AT g κ K z cells slots pc' l (mR b :: st) (ov E)) : AT g κ K z cells slots pc l (mI x :: mR a :: st) (ov E) := by
  subst hx
  exact m_aaload pc' X hK ht (by omega) (by omega) (by rw [Int.toNat_natCast]; exact hb) d e0 kk
end VROWS
/-- a loop's value: f goes over it with 0, 1 and on -/
def itr {α : Type} (f : Nat → α → α) (x : α) : Nat → α
  | 0 => x
  | n + 1 => f n (itr f x n)
theorem itr_0 {α : Type} (f : Nat → α → α) (x : α) : itr f x 0 = x := rfl
theorem itr_s {α : Type} (f : Nat → α → α) (x : α) (n : Nat) : itr f x (n + 1) = f n (itr f x n) := rfl
theorem itr_congr {α : Type} {f h : Nat → α → α} {x : α} : ∀ {n : Nat}, (∀ i, i < n → ∀ v, f i v = h i v) → itr f x n = itr h x n
  | 0, _ => rfl
  | n + 1, hh => by rw [itr_s, itr_s, itr_congr (fun i hi => hh i (by omega)), hh n (by omega)]
