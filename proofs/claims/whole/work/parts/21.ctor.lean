section CTOR
theorem cellAt_ext {g : Gw} {kd : Nat × Nat} {f f' : Nat → Int} {ad : Nat} {H : Heap} (h : ∀ j, j < slen kd → f j = f' j) (hc : cellAt g kd f ad H) : cellAt g kd f' ad H := by
  unfold cellAt at hc ⊢
  by_cases c : kd.1 < 7
  · rw [if_pos c] at hc ⊢
    rw [hc]
    refine congrArg some ?_
    unfold arrV
    have e : (Array.ofFn (n := kd.2) fun j => rvv (gB g) (etag kd.1, f j)) = Array.ofFn (n := kd.2) fun j => rvv (gB g) (etag kd.1, f' j) := by
      refine congrArg Array.ofFn (funext fun j => ?_)
      rw [h j.1 (by unfold slen; rw [if_pos c]; exact j.2)]
    exact congrArg (fun s => ({ cls := g.2.2.1 kd.1, slots := s } : Cell)) e
  · rw [if_neg c] at hc ⊢
    obtain ⟨cell, h1, h2, h3, h4⟩ := hc
    refine ⟨cell, h1, h2, h3, fun k hk => ?_⟩
    rw [h4 k hk]
    show some (rvv (gB g) (stag kd k, f k)) = some (rvv (gB g) (stag kd k, f' k))
    rw [h k (by unfold slen; rw [if_neg c]; exact hk)]
/-- the two agree on every place that there is -/
def Agr (K : Shp) (D D' : Mm) : Prop := ∀ a kd, K[a]? = some kd → ∀ j, j < slen kd → D a j = D' a j
theorem hd_agree {g : Gw} {K : Shp} {z : Bool} {D D' : Mm} {H : Heap} (h : Agr K D D') (hD : HD g K z D H) : HD g K z D' H :=
  ⟨fun a kd hk => ⟨cellAt_ext (h a kd hk) (hD.1 a kd hk).1, fun j hj => by rw [← h a kd hk j hj]; exact (hD.1 a kd hk).2 j hj⟩, hD.2⟩
variable {g : Gw} {κ : Kp} {cc : ByteArray} {own : String} {nL : Nat} {K : Shp} {cells slots pc : Nat} {l : List (Nat × MV)} {st : List MV} {D : Mm}
theorem at_agree {z : Bool} {D' : Mm} (h : Agr K D D') (kk : AT g κ K z cells slots pc l st D') : AT g κ K z cells slots pc l st D := fun H ls locs hl o1 o2 hD hS => kk H ls locs hl o1 o2 (hd_agree h hD) hS
theorem hd_shut {z : Bool} {H : Heap} (h : HD g K z D H) : HD g K false D H := ⟨h.1, (fun q => by cases q), h.2.2⟩
theorem at_shut {z : Bool} (kk : AT g κ K false cells slots pc l st D) : AT g κ K z cells slots pc l st D := fun H ls locs hl o1 o2 hD hS => kk H ls locs hl o1 o2 (hd_shut hD) hS
/-- the first i cells -/
def KT (i : Nat) : Shp := K2.take i
theorem K2_len : K2.length = 814 := by decide +kernel
theorem KT_len {i : Nat} (h : i ≤ 814) : (KT i).length = i := by unfold KT; rw [List.length_take, K2_len]; omega
theorem KT_get {i a : Nat} {kd : Nat × Nat} (h : a < i) (hk : K2[a]? = some kd) : (KT i)[a]? = some kd := by unfold KT; rw [List.getElem?_take, if_pos h]; exact hk
theorem KT_lt {i a : Nat} {kd : Nat × Nat} (h : (KT i)[a]? = some kd) : a < i ∧ K2[a]? = some kd := by
  unfold KT at h
  rw [List.getElem?_take] at h
  by_cases c : a < i
  · rw [if_pos c] at h; exact ⟨c, h⟩
  · rw [if_neg c] at h; cases h
theorem KT_snoc {i : Nat} {kd : Nat × Nat} (hk : K2[i]? = some kd) : KT i ++ [kd] = KT (i + 1) := by
  unfold KT
  rw [List.take_add_one, hk]
  rfl
theorem KT_all : KT 814 = K2 := by unfold KT; rw [← K2_len]; exact List.take_length
/-- a list of written places over what was there -/
def lk : List (Nat × Int) → (Nat → Int) → Nat → Int
  | [], f, j => f j
  | (k, x) :: t, f, j => if j = k then x else lk t f j
/-- what stands in a fresh cell -/
def fz (kd : Nat × Nat) : Nat → Int := fun j => if stag kd j = 2 then -1 else 0
/-- below a as D, from a on as B -/
def mg (a : Nat) (B D : Mm) : Mm := fun q j => if q < a then D q j else B q j
/-- .. with the cell a begun -/
def ob (B : Mm) (a : Nat) (f0 : Nat → Int) (L : List (Nat × Int)) (D : Mm) : Mm := fun q j => if q = a then lk L f0 j else if q < a then D q j else B q j
theorem ob_wr {B D : Mm} {a k : Nat} {f0 : Nat → Int} {L : List (Nat × Int)} {x : Int} : wr (ob B a f0 L D) a k x = ob B a f0 ((k, x) :: L) D := by
  funext q j
  unfold wr ob
  by_cases c : q = a
  · subst c
    by_cases c2 : j = k
    · subst c2; simp [lk]
    · simp [lk, c2]
  · simp [c]
theorem ob_at {B D : Mm} {a j : Nat} {f0 : Nat → Int} {L : List (Nat × Int)} : ob B a f0 L D a j = lk L f0 j := if_pos rfl
theorem ob_lt {B D : Mm} {a q j : Nat} {f0 : Nat → Int} {L : List (Nat × Int)} (h : q < a) : ob B a f0 L D q j = D q j := by unfold ob; rw [if_neg (by omega), if_pos h]
theorem ob_gt {B D : Mm} {a q j : Nat} {f0 : Nat → Int} {L : List (Nat × Int)} (h : a < q) : ob B a f0 L D q j = B q j := by unfold ob; rw [if_neg (by omega), if_neg (by omega)]
/-- a constructor begins -/
theorem c_open {z : Bool} {a : Nat} (B : Mm) {kd : Nat × Nat} (ha : ∀ j, D a j = fz kd j) (kk : AT g κ (KT (a + 1)) z cells slots pc l st (ob B a (fz kd) [] D)) : AT g κ (KT (a + 1)) z cells slots pc l st D := at_agree (fun q kq hq j hj => by
  have h := (KT_lt hq).1
  by_cases c : q = a
  · subst c; rw [ob_at]; exact ha j
  · rw [ob_lt (by omega)]) kk
/-- .. an int[] for it -/
theorem c_newaI (pc' i : Nat) (X : CX g κ cc own nL) {B : Mm} {a n : Nat} {f0 : Nat → Int} {L : List (Nat × Int)} {x : Int} (hxn : x = (n : Int)) (hn : n ≤ 60000) (hk : K2[i]? = some (0, n)) (hi : i ≤ 814) (ha : a < i) (hB : ∀ j, j < n → B i j = 0) (hrc : cells + 1 ≤ (kR κ).cells) (hrs : slots + n ≤ (kR κ).slots) (d : decode cc pc = .ok (.newarray .int, 2)) (e0 : pc + 2 = pc') (kk : AT g κ (KT (i + 1)) true (cells + 1) (slots + n) pc' l (mR i :: st) (ob B a f0 L D)) : AT g κ (KT i) true cells slots pc l (mI x :: st) (ob B a f0 L D) := by
  refine at_newaI pc' X hxn hn w_216 hrc hrs d e0 ?_
  rw [KT_snoc hk, KT_len hi]
  refine at_agree (fun q kq hq j hj => ?_) kk
  obtain ⟨h1, h2⟩ := KT_lt hq
  unfold nz
  by_cases c : q = i
  · subst c
    rw [hk] at h2
    cases h2
    rw [if_pos rfl, ob_gt ha, hB j hj]
    rfl
  · rw [if_neg c]
theorem c_newaB (pc' i : Nat) (X : CX g κ cc own nL) {B : Mm} {a n : Nat} {f0 : Nat → Int} {L : List (Nat × Int)} {x : Int} (hxn : x = (n : Int)) (hn : n ≤ 60000) (hk : K2[i]? = some (1, n)) (hi : i ≤ 814) (ha : a < i) (hB : ∀ j, j < n → B i j = 0) (hrc : cells + 1 ≤ (kR κ).cells) (hrs : slots + n ≤ (kR κ).slots) (d : decode cc pc = .ok (.newarray .byte, 2)) (e0 : pc + 2 = pc') (kk : AT g κ (KT (i + 1)) true (cells + 1) (slots + n) pc' l (mR i :: st) (ob B a f0 L D)) : AT g κ (KT i) true cells slots pc l (mI x :: st) (ob B a f0 L D) := by
  refine at_newaB pc' X hxn hn w_188 hrc hrs d e0 ?_
  rw [KT_snoc hk, KT_len hi]
  refine at_agree (fun q kq hq j hj => ?_) kk
  obtain ⟨h1, h2⟩ := KT_lt hq
  unfold nz
  by_cases c : q = i
  · subst c
    rw [hk] at h2
    cases h2
    rw [if_pos rfl, ob_gt ha, hB j hj]
    rfl
  · rw [if_neg c]
theorem c_newaJ (pc' i : Nat) (X : CX g κ cc own nL) {B : Mm} {a n : Nat} {f0 : Nat → Int} {L : List (Nat × Int)} {x : Int} (hxn : x = (n : Int)) (hn : n ≤ 60000) (hk : K2[i]? = some (3, n)) (hi : i ≤ 814) (ha : a < i) (hB : ∀ j, j < n → B i j = 0) (hrc : cells + 1 ≤ (kR κ).cells) (hrs : slots + n ≤ (kR κ).slots) (d : decode cc pc = .ok (.newarray .long, 2)) (e0 : pc + 2 = pc') (kk : AT g κ (KT (i + 1)) true (cells + 1) (slots + n) pc' l (mR i :: st) (ob B a f0 L D)) : AT g κ (KT i) true cells slots pc l (mI x :: st) (ob B a f0 L D) := by
  refine at_newaJ pc' X hxn hn w_328 hrc hrs d e0 ?_
  rw [KT_snoc hk, KT_len hi]
  refine at_agree (fun q kq hq j hj => ?_) kk
  obtain ⟨h1, h2⟩ := KT_lt hq
  unfold nz
  by_cases c : q = i
  · subst c
    rw [hk] at h2
    cases h2
    rw [if_pos rfl, ob_gt ha, hB j hj]
    rfl
  · rw [if_neg c]
theorem c_newaZ (pc' i : Nat) (X : CX g κ cc own nL) {B : Mm} {a n : Nat} {f0 : Nat → Int} {L : List (Nat × Int)} {x : Int} (hxn : x = (n : Int)) (hn : n ≤ 60000) (hk : K2[i]? = some (2, n)) (hi : i ≤ 814) (ha : a < i) (hB : ∀ j, j < n → B i j = 0) (hrc : cells + 1 ≤ (kR κ).cells) (hrs : slots + n ≤ (kR κ).slots) (d : decode cc pc = .ok (.newarray .boolean, 2)) (e0 : pc + 2 = pc') (kk : AT g κ (KT (i + 1)) true (cells + 1) (slots + n) pc' l (mR i :: st) (ob B a f0 L D)) : AT g κ (KT i) true cells slots pc l (mI x :: st) (ob B a f0 L D) := by
  refine at_newaZ pc' X hxn hn w_1944 hrc hrs d e0 ?_
  rw [KT_snoc hk, KT_len hi]
  refine at_agree (fun q kq hq j hj => ?_) kk
  obtain ⟨h1, h2⟩ := KT_lt hq
  unfold nz
  by_cases c : q = i
  · subst c
    rw [hk] at h2
    cases h2
    rw [if_pos rfl, ob_gt ha, hB j hj]
    rfl
  · rw [if_neg c]
/-- .. a row of rows for it -/
theorem c_mna (pc' i : Nat) (X : CX g κ cc own nL) {B : Mm} {a gk rk n k ix e : Nat} {ty : FieldType} {f0 : Nat → Int} {L : List (Nat × Int)} {x y : Int} (hk : (gk = 5 ∧ rk = 0 ∧ ty = .int) ∨ (gk = 6 ∧ rk = 3 ∧ ty = .long)) (hxn : x = (n : Int)) (hyk : y = (k : Int)) (hn : n ≤ 1000) (hkk : k ≤ 60000) (hcl : Cond.classLink own ix ("[" ++ (FieldType.array ty).toString) ∈ ALLW) (hac : Cond.arrayClass ty ∈ ALLW) (hi : i ≤ 814) (hKT : KT i ++ (gk, n) :: List.replicate n (rk, k) = KT e) (ha : a < i) (hB0 : ∀ j, j < n → B i j = ((i + 1 + j : Nat) : Int)) (hB : ∀ q, i < q → q < e → ∀ j, j < k → B q j = 0) (hrc : cells + (1 + n) ≤ (kR κ).cells) (hrs : slots + (n + n * k) ≤ (kR κ).slots) (d : decode cc pc = .ok (.multianewarray ix 2, 4)) (e0 : pc + 4 = pc') (kk : AT g κ (KT e) true (cells + (1 + n)) (slots + (n + n * k)) pc' l (mR i :: st) (ob B a f0 L D)) : AT g κ (KT i) true cells slots pc l (mI y :: mI x :: st) (ob B a f0 L D) := by
  refine at_mna pc' X hk hxn hyk hn hkk hcl hac hrc hrs d e0 ?_
  rw [hKT, KT_len hi]
  have hr : rk < 7 ∧ etag rk ≠ 2 ∧ gk < 7 := by rcases hk with ⟨rfl, rfl, -⟩ | ⟨rfl, rfl, -⟩ <;> exact ⟨by decide, by decide, by decide⟩
  refine at_agree (fun q kq hq j hj => ?_) kk
  have h1 := (KT_lt hq).1
  rw [← hKT] at hq
  unfold nzR
  by_cases c : q = i
  · subst c
    rw [List.getElem?_append_right (by rw [KT_len hi]; exact Nat.le_refl _), KT_len hi, Nat.sub_self] at hq
    cases hq
    rw [slen_arr hr.2.2] at hj
    rw [if_pos rfl, if_pos hj, ob_gt ha, hB0 j hj]
  · by_cases c2 : i < q
    · rw [List.getElem?_append_right (by rw [KT_len hi]; omega), KT_len hi] at hq
      obtain ⟨d', hd'⟩ : ∃ d', q - i = d' + 1 := ⟨q - i - 1, by omega⟩
      rw [hd', List.getElem?_cons_succ, List.getElem?_replicate] at hq
      by_cases c3 : d' < n
      · rw [if_pos c3] at hq
        cases hq
        rw [slen_arr hr.1] at hj
        rw [if_neg c, if_pos ⟨c2, by omega⟩, stag_arr hr.1, if_neg hr.2.1, ob_gt (by omega), hB q c2 h1 j hj]
      · rw [if_neg c3] at hq; cases hq
    · rw [if_neg c, if_neg (by omega)]
/-- .. a part for it: made here, its constructor called next -/
theorem c_new (pc' i : Nat) (X : CX g κ cc own nL) {ci ix : Nat} {C : String} {T : u_T} {N : Nat} {ty : Nat → FieldType} (hc : ClsOk ci C T N ty) (hl : Cond.classLink own ix C ∈ ALLW) (hi : Cond.instantiable C N ∈ ALLW) (hn : Cond.initialized C ∈ ALLW) (hk : K2[i]? = some (ci + 7, 0)) (hi8 : i ≤ 814) (hrc : cells + 1 ≤ (kR κ).cells) (hrs : slots + N ≤ (kR κ).slots) (d : decode cc pc = .ok (.new ix, 3)) (e0 : pc + 3 = pc') (kk : AT g κ (KT (i + 1)) true (cells + 1) (slots + N) pc' l (mR i :: st) (nz D i (ci + 7, 0))) : AT g κ (KT i) true cells slots pc l st D := by
  refine at_new pc' X hc hl hi hn hrc hrs d e0 ?_
  rw [KT_snoc hk, KT_len hi8]
  exact kk
theorem nz_fz {a : Nat} {kd : Nat × Nat} : ∀ j, nz D a kd a j = fz kd j := fun j => if_pos rfl
/-- .. behind its constructor -/
theorem c_part {z : Bool} {B BI : Mm} {a i e : Nat} {kd : Nat × Nat} {f0 : Nat → Int} {L : List (Nat × Int)} (ha : a < i) (hB : ∀ q, i ≤ q → q < e → ∀ j, BI q j = B q j) (kk : AT g κ (KT e) z cells slots pc l st (ob B a f0 L D)) : AT g κ (KT e) z cells slots pc l st (mg i BI (nz (ob B a f0 L D) i kd)) := at_agree (fun q kq hq j hj => by
  have h1 := (KT_lt hq).1
  unfold mg
  by_cases c : q < i
  · rw [if_pos c]; unfold nz; rw [if_neg (by omega)]
  · rw [if_neg c, hB q (by omega) h1, ob_gt (by omega)]) kk
end CTOR
