section CALLS
/-- the world at a call -/
def WD (g : Gw) (K : Shp) (z : Bool) (D : Mm) (U : State) : Prop := HD g K z D U.heap ∧ (gS g).vm.Alike U.vm ∧ PWS g U
def QR (g : Gw) (K : Shp) (z : Bool) (Post : Option MV → Mm → Prop) : Array Value → State → Outcome → State → Prop := fun _ st oc t =>
  (∃ (r : Option MV) (D' : Mm), oc = .returned (r.map (rvv (gB g))) ∧ (∀ v ∈ r.toList, okv v) ∧ Post r D' ∧ HD g K z D' t.heap) ∧ va_F (gA g) st t
/-- a method's contract: from these arguments over these cells it returns, and Post holds of its answer and of the cells behind it -/
def CT (g : Gw) (y : MethodName) (cc : ByteArray) (maxL : Nat) (ret : Option FieldType) (fr lo mc ms : Nat) (K : Shp) (z : Bool) (avs : List MV) (D : Mm) (K' : Shp) (z' : Bool) (Post : Option MV → Mm → Prop) : Prop :=
  (∀ v ∈ avs, okv v) → Met (gL g) y (Cond.code y cc maxL ret :: ALLW) { frames := fr, cells := mc, slots := ms, locals := lo } (va_Pc (avs.map (rvv (gB g))) (WD g K z D)) (QR g K' z' Post) mc ms (gA g)
def margs : Nat → List MV → List (Nat × MV)
  | _, [] => []
  | i, v :: t => (i, v) :: margs (bif Nat.beq v.1 1 then i + 2 else i + 1) t
def mwid : List MV → Nat
  | [] => 0
  | v :: t => (bif Nat.beq v.1 1 then 2 else 1) + mwid t
theorem margs_eq (B : Nat) : ∀ (i : Nat) (avs : List MV), rvl B (margs i avs) = lv_args i (avs.map (rvv B))
  | _, [] => rfl
  | i, v :: t => by
    show (i, rvv B v) :: rvl B (margs _ t) = (i, rvv B v) :: lv_args _ _
    rw [margs_eq B _ t, rvv_cat]
    by_cases c : v.1 = 1
    · rw [show Nat.beq v.1 1 = true from Nat.beq_eq ▸ c, if_pos c]; rfl
    · rw [show Nat.beq v.1 1 = false from Bool.eq_false_iff.mpr (fun q => c (Nat.eq_of_beq_eq_true q)), if_neg c]; rfl
theorem mwid_eq (B : Nat) : ∀ avs : List MV, (lg_sl (avs.map (rvv B))).length = mwid avs
  | [] => rfl
  | v :: t => by
    have ih := mwid_eq B t
    unfold lg_sl at ih ⊢
    rw [List.map_cons, List.flatMap_cons, List.length_append, ih, rvv_cat]
    show _ = (bif Nat.beq v.1 1 then 2 else 1) + mwid t
    by_cases c : v.1 = 1
    · rw [show Nat.beq v.1 1 = true from Nat.beq_eq ▸ c, if_pos c]; rfl
    · rw [show Nat.beq v.1 1 = false from Bool.eq_false_iff.mpr (fun q => c (Nat.eq_of_beq_eq_true q)), if_neg c]; rfl
theorem mwid_sum (B : Nat) : ∀ st : List MV, ((st.map (rvv B)).map fun v => v.category).sum = mwid st
  | [] => rfl
  | v :: t => by
    rw [List.map_cons, List.map_cons, List.sum_cons, mwid_sum B t, rvv_cat]
    show _ = (bif Nat.beq v.1 1 then 2 else 1) + mwid t
    by_cases c : v.1 = 1
    · rw [show Nat.beq v.1 1 = true from Nat.beq_eq ▸ c, if_pos c]; rfl
    · rw [show Nat.beq v.1 1 = false from Bool.eq_false_iff.mpr (fun q => c (Nat.eq_of_beq_eq_true q)), if_neg c]; rfl
/-- what a method must come to: its room, its end, the type of its answer -/
def RT (g : Gw) (κ : Kp) (ret : Option FieldType) (fr lo mc ms : Nat) (K : Shp) (z : Bool) (Post : Option MV → Mm → Prop) : Prop :=
  kR κ = { frames := fr, cells := mc, slots := ms, locals := lo } ∧ (∀ t, MQ (kB κ) (QR g K z Post) (kA κ) (kS κ) mc ms (gA g) t → kQ κ t) ∧ (kH κ).sig.returnType = ret
theorem CT.mk {g : Gw} {y : MethodName} {cc : ByteArray} {maxL : Nat} {ret : Option FieldType} {fr lo mc ms : Nat} {K : Shp} {z : Bool} {avs : List MV} {D : Mm} {K' : Shp} {z' : Bool} {Post : Option MV → Mm → Prop} (hG : GF g) (hy : plainName y.cls = true) (hw : mwid avs ≤ maxL)
    (body : ∀ κ : Kp, CX g κ cc y.cls maxL → RT g κ ret fr lo mc ms K' z' Post → (y.name = "<init>" → (kH κ).name = "<init>") → (∀ v ∈ avs, okv v) → AT g κ K z 0 0 0 (margs 0 avs) [] D) : CT g y cc maxL ret fr lo mc ms K z avs D K' z' Post := by
  intro ok
  refine Met.ofW (cc := cc) (maxL := maxL) (ret := ret) hy rfl ?_
  intro p e s m args below meth c s₁ B hml hv
  obtain ⟨rfl, hD, hal, hnw⟩ := hv
  have hts := atoms_spec (ws := Cond.code y cc maxL ret :: ALLW) B.pre
  have h := body (p, e, { frames := fr, cells := mc, slots := ms, locals := lo }, s, m, (avs.map (rvv (gB g))).toArray, below, meth, c, MQ below (QR g K' z' Post) (avs.map (rvv (gB g))).toArray s mc ms (gA g))
    ⟨B.exec, B.bytes, hml, findClass_of_methodNamed B.named, fun w hw => hts w (List.mem_cons_of_mem _ hw), B.notSynchronized, hal, hG, hD.2.2.1, hD.2.2.2, hnw⟩ ⟨rfl, fun t ht => ht, B.returns⟩ (fun q => (name_of_methodNamed B.named B.method).1.trans q) ok
  have hl := lv_entry (avs.map (rvv (gB g))) (n := maxL) (by rw [mwid_eq]; exact hw)
  rw [lg_entry_eq]
  refine h s.heap _ [] ?_ ?_ (fun v hv => by cases hv) hD va_S.rf
  · rw [margs_eq]
    show lv_has _ c.maxLocals _
    rw [hml]
    exact hl
  · have key : ∀ (i : Nat) (avs : List MV), (∀ v ∈ avs, okv v) → ∀ q ∈ margs i avs, okv q.2 := by
      intro i avs
      induction avs generalizing i with
      | nil => intro _ q hq; cases hq
      | cons v t ih =>
        intro h q hq
        rcases List.mem_cons.mp hq with rfl | hq
        · exact h v List.mem_cons_self
        · exact ih _ (fun w hw => h w (List.mem_cons_of_mem _ hw)) q hq
    exact key 0 avs ok
variable {g : Gw} {κ : Kp} {cc : ByteArray} {own : String} {nL : Nat} {K : Shp} {z : Bool} {cells slots pc : Nat} {l : List (Nat × MV)} {st : List MV} {D : Mm} {fr lo mc ms : Nat} {Post : Option MV → Mm → Prop}
theorem w_mono {p : Program} {l : Launch} {e : Env} {R : Room} {s : State} {m : MethodId} {args : Array Value} {below : List Frame} {meth : Method} {c : Code} {H : Heap} {locs : List Loc} {cells slots : Nat} {Q Q' : State → Prop} {f : JFrame} (h : ∀ t, Q t → Q' t) (k : W p l e R s m args below meth c H locs cells slots Q f) : W p l e R s m args below meth c H locs cells slots Q' f := fun T hT X => by
  obtain ⟨t, a, b⟩ := k T hT X
  exact ⟨t, a, h t b⟩
theorem qr_end {κ : Kp} {r : Option MV} {H : Heap} {locs : List Loc} (hr : ∀ v ∈ r.toList, okv v) (hp : Post r D) (hD : HD g K z D H) (hS : va_S (gA g) (kS κ).heap H locs) : ∀ t : State, t.heap = H → (kS κ).WarmedH t.vm → QR g K z Post (kA κ) (kS κ) (.returned (r.map (rvv (gB g)))) t := fun t ht _ =>
  ⟨⟨r, D, rfl, hr, hp, by rw [ht]; exact hD⟩, hS.F ht⟩
theorem at_iret (X : CX g κ cc own nL) (Rt : RT g κ (some .int) fr lo mc ms K z Post) {x : Int} (hp : Post (some (mI x)) D) (h1 : cells ≤ mc) (h2 : slots ≤ ms) (d : decode cc pc = .ok (.ireturn, 1)) : AT g κ K z cells slots pc l [mI x] D := by
  intro H ls locs hl o1 o2 hD hS
  obtain ⟨hR, hq, hr⟩ := Rt
  refine w_mono hq (W.widen h1 h2 ?_)
  exact W.iret X.1 X.2.1 hr (qr_end (r := some (mI x)) (fun v hv => by rw [List.mem_singleton.mp hv]; exact ok_hd o2) hp hD hS) hS.2.2 d X.2.2.2.2.2.1
theorem at_zret (X : CX g κ cc own nL) (Rt : RT g κ (some .boolean) fr lo mc ms K z Post) {x : Int} (hp : Post (some (mI x)) D) (hx : x = 0 ∨ x = 1) (h1 : cells ≤ mc) (h2 : slots ≤ ms) (d : decode cc pc = .ok (.ireturn, 1)) : AT g κ K z cells slots pc l [mI x] D := by
  intro H ls locs hl o1 o2 hD hS
  obtain ⟨hR, hq, hr⟩ := Rt
  refine w_mono hq (W.widen h1 h2 ?_)
  exact W.zret X.1 X.2.1 hr (by rcases hx with rfl | rfl <;> rfl) (qr_end (r := some (mI x)) (fun v hv => by rw [List.mem_singleton.mp hv]; exact ok_hd o2) hp hD hS) hS.2.2 d X.2.2.2.2.2.1
theorem at_lret (X : CX g κ cc own nL) (Rt : RT g κ (some .long) fr lo mc ms K z Post) {x : Int} (hp : Post (some (mL x)) D) (h1 : cells ≤ mc) (h2 : slots ≤ ms) (d : decode cc pc = .ok (.lreturn, 1)) : AT g κ K z cells slots pc l [mL x] D := by
  intro H ls locs hl o1 o2 hD hS
  obtain ⟨hR, hq, hr⟩ := Rt
  refine w_mono hq (W.widen h1 h2 ?_)
  exact W.lret X.1 X.2.1 hr (qr_end (r := some (mL x)) (fun v hv => by rw [List.mem_singleton.mp hv]; exact ok_hd o2) hp hD hS) hS.2.2 d X.2.2.2.2.2.1
theorem at_vret (X : CX g κ cc own nL) (Rt : RT g κ none fr lo mc ms K z Post) (hp : Post none D) (h1 : cells ≤ mc) (h2 : slots ≤ ms) (d : decode cc pc = .ok (.return_, 1)) : AT g κ K z cells slots pc l [] D := by
  intro H ls locs hl o1 o2 hD hS
  obtain ⟨hR, hq, hr⟩ := Rt
  refine w_mono hq (W.widen h1 h2 ?_)
  exact W.vret X.1 X.2.1 hr (qr_end (r := none) (fun v hv => by cases hv) hp hD hS) hS.2.2 d X.2.2.2.2.2.1
/-- what the tables say of a method -/
def MOk (y : MethodName) (cc : ByteArray) (maxL : Nat) (ret : Option FieldType) (n : Nat) : Prop :=
  Cond.code y cc maxL ret ∈ ALLW ∧ Cond.initialized y.cls ∈ ALLW ∧ (y.cls ≠ "java/lang/invoke/MethodHandle" ∧ y.cls ≠ "java/lang/invoke/VarHandle" ∧ (parseMethodDescriptor y.desc).map (fun d => d.parameters.length) = some n)
/-- there is room for the call -/
def CRm (κ : Kp) (maxL fr lo mc ms cells slots : Nat) : Prop := fr + 1 ≤ (kR κ).frames ∧ 8 + (maxL + 11) + lo ≤ (kR κ).locals ∧ cells + mc ≤ (kR κ).cells ∧ slots + ms ≤ (kR κ).slots
theorem crm {ret : Option FieldType} (Rt : RT g κ ret fr lo mc ms K z Post) {maxL fr' lo' mc' ms' : Nat} (h : fr' + 1 ≤ fr ∧ 8 + (maxL + 11) + lo' ≤ lo ∧ cells + mc' ≤ mc ∧ slots + ms' ≤ ms) : CRm κ maxL fr' lo' mc' ms' cells slots := by
  unfold CRm
  rw [Rt.1]
  exact h
variable {y : MethodName} {cc' : ByteArray} {maxL fr' lo' mc' ms' n ix : Nat} {ret' : Option FieldType} {avs stk : List MV} {K' : Shp} {z' : Bool} {Post' : Option MV → Mm → Prop}
/-- behind a call -/
theorem call_go {p : Program} {e : Env} {R : Room} {s : State} {m : MethodId} {args a : Array Value} {below : List Frame} {meth : Method} {c : Code} {Q : State → Prop} {H : Heap} {locs : List Loc} {ls : Array Slot} {st0 rest : List Value}
    (hr : va_Run p (gL g) e R s m args below meth c H locs cells slots mc ms (F0 m pc ls st0) rest (QR g K' z' Post' a) (gA g)) (hS : va_S (gA g) s.heap H locs)
    (kk : ∀ (r : Option MV) (D' : Mm) (H1 : Heap) (locs1 : List Loc), (∀ v ∈ r.toList, okv v) → Post' r D' → HD g K' z' D' H1 → va_S (gA g) s.heap H1 locs1 → W p (gL g) e R s m args below meth c H1 locs1 (cells + mc) (slots + ms) Q (F0 m (pc + 3) ls ((r.map (rvv (gB g))).toList ++ rest))) : W p (gL g) e R s m args below meth c H locs cells slots Q (F0 m pc ls st0) := by
  intro T hT X
  obtain ⟨v, st₀, t, T', L, h0, X', hL, e1, e2, ⟨⟨r, D', hv, hok, hp, hD'⟩, hz, hk⟩, stp⟩ := hr T hT X
  cases hv
  rw [h0] at hz hk
  obtain ⟨t2, a1, b1⟩ := kk r D' T'.heap (locs ++ L) hok hp (by rw [e1]; exact hD')
    ⟨Nat.le_trans hS.1 (by rw [e1]; exact hz), fun q h1 h2 => by rw [e1, hk q (Nat.lt_of_lt_of_le h1 hS.1) h2]; exact hS.2.1 q h1 h2, fun q hq => by
      rcases List.mem_append.mp hq with h | h
      · exact hS.2.2 q h
      · exact hL q h⟩ T' rfl X'
  exact ⟨t2, stp t2 a1, b1⟩
theorem map_opt (B : Nat) (r : Option MV) (st : List MV) : (r.map (rvv B)).toList ++ st.map (rvv B) = (r.toList ++ st).map (rvv B) := by cases r <;> rfl
theorem ok_opt {r : Option MV} {st : List MV} (h : ∀ v ∈ r.toList, okv v) (hs : ∀ v ∈ st, okv v) : ∀ v ∈ r.toList ++ st, okv v := fun v hv => by
  rcases List.mem_append.mp hv with h1 | h1
  · exact h v h1
  · exact hs v h1
theorem wd_at {H : Heap} (X : CX g κ cc own nL) (hD : HD g K z D H) {U : State} (hU : U.heap = H) (hW : (kS κ).WarmedH U.vm) : WD g K z D U :=
  ⟨by rw [hU]; exact hD, X.2.2.2.2.2.2.1.trans hW.alike, fun w hw => anw_warm hw hW (X.2.2.2.2.2.2.2.2.2.2.1 w hw), fun i q hq => vk_R.warm hW (X.2.2.2.2.2.2.2.2.2.2.2 i q hq)⟩
theorem wd_blind {vs : List Value} : FrameBlind (va_Pc vs (WD g K z D)) := fun a U f mk q => ⟨q.1, q.2.1, q.2.2.1, fun w hw => va_Nw.same (anw_on hw) (u := U) rfl (q.2.2.2.1 w hw), fun i x hx => vk_R.same (u := U) rfl (q.2.2.2.2 i x hx)⟩
theorem recv_at {a ci : Nat} {C : String} {T : u_T} {N n : Nat} {ty : Nat → FieldType} {H : Heap} {s : State} (hc : ClsOk ci C T N ty) (hG : GF g) (hal : (gS g).vm.Alike s.vm) (hD : HD g K z D H) (hK : K[a]? = some (ci + 7, n)) : ∃ cellB : Cell, H[gB g + a]? = some cellB ∧ cellB.vm.isStatics = false ∧ s.vm.findClass C = some cellB.cls := by
  obtain ⟨cell, q1, q2, q3, -⟩ := obj_at hD hK
  obtain ⟨-, hfc, -⟩ := (hK_of hG hal).1 ci _ hc.1
  exact ⟨cell, q1, by rw [q3]; rfl, by rw [hfc, q2]⟩
/-- invokevirtual of a method of the receiver's own class -/
theorem at_callV (pc1 : Nat) (X : CX g κ cc own nL) (b ci : Nat) {C : String} {T : u_T} {N nn : Nat} {ty : Nat → FieldType} (hC : CT g y cc' maxL ret' fr' lo' mc' ms' K z (mR b :: avs) D K' z' Post') (hcl : ClsOk ci C T N ty) (hyC : y.cls = C) (hK : K[b]? = some (ci + 7, nn)) (hm : MOk y cc' maxL ret' n) (hl : Cond.methodLink own ix y ∈ ALLW) (hi : Cond.instanceMethod y ∈ ALLW) (hs : Cond.selects y.cls y y ∈ ALLW) (hn : avs.length = n) (hst : stk = avs.reverse ++ mR b :: st) (hr : CRm κ maxL fr' lo' mc' ms' cells slots) (hwd : mwid st ≤ 8) (d : decode cc pc = .ok (.invokevirtual ix, 3)) (e0 : pc + 3 = pc1)
    (kk : ∀ (r : Option MV) (D' : Mm), Post' r D' → AT g κ K' z' (cells + mc') (slots + ms') pc1 l (r.toList ++ st) D') : AT g κ K z cells slots pc l stk D := by
  subst hst
  subst e0
  subst hyC
  intro H ls locs hl' o1 o2 hD hS
  have X2 := X
  obtain ⟨p, e, R, s, m, args, below, meth, c, Q⟩ := κ
  obtain ⟨hx, hb, hnl, hown, hts, hlk, hal, hG, hold, hsz, hnw⟩ := X
  have oka : ∀ v ∈ mR b :: avs, okv v := fun v hv => by
    rcases List.mem_cons.mp hv with rfl | hv
    · trivial
    · exact o2 v (List.mem_append_left _ (List.mem_reverse.mpr hv))
  obtain ⟨hm1, hm2, hm3⟩ := hm
  have hW : GoodIn (ALLW) (wsV own ix y.cls y (Cond.code y cc' maxL ret' :: ALLW)) := fun w hw => by
    have : w ∈ ALLW := by
      unfold wsV at hw
      rcases List.mem_append.mp hw with h | h
      · simp only [List.mem_cons, List.not_mem_nil, or_false] at h
        rcases h with rfl | rfl | rfl | rfl <;> assumption
      · rcases List.mem_cons.mp h with rfl | h
        · exact hm1
        · exact h
    exact ⟨this, good_of_word (aw_good this)⟩
  have hMet := hC oka
  rw [List.map_cons, rvv_ref] at hMet
  refine call_go (va_runV (As := avs.map (rvv (gB g))) (rest := st.map (rvv (gB g))) (b := gB g + b) ⟨hx, hb, hnl, hown, hts⟩ hMet (cwV n hts hW rfl rfl rfl ⟨rfl, hm3⟩ ⟨hr.1, hr.2.1⟩) ⟨wd_blind, recv_at hcl hG hal hD hK, fun U hU hW2 => ⟨rfl, wd_at X2 hD hU hW2⟩⟩ rfl (by rw [List.length_map]; exact hn) (hl'.1.trans hnl) ?_ (lv_room (by rw [mwid_sum]; exact hwd)) d ⟨hr.2.2.1, hr.2.2.2⟩) hS fun r D' H1 locs1 h1 h2 h3 h4 => ?_
  · show List.map _ _ = _
    rw [List.map_append, List.map_cons, rvv_ref, List.map_reverse]
  · rw [map_opt]
    exact kk r D' h2 H1 ls locs1 hl' o1 (ok_opt h1 (fun v hv => o2 v (List.mem_append_right _ (List.mem_cons_of_mem _ hv)))) h3 h4
/-- invokestatic -/
theorem at_callS (pc1 : Nat) (X : CX g κ cc own nL) (hC : CT g y cc' maxL ret' fr' lo' mc' ms' K z avs D K' z' Post') (hm : MOk y cc' maxL ret' n) (hl : Cond.methodLink own ix y ∈ ALLW) (hi : Cond.static y ∈ ALLW) (hn : avs.length = n) (hst : stk = avs.reverse ++ st) (hr : CRm κ maxL fr' lo' mc' ms' cells slots) (hwd : mwid st ≤ 8) (d : decode cc pc = .ok (.invokestatic ix, 3)) (e0 : pc + 3 = pc1)
    (kk : ∀ (r : Option MV) (D' : Mm), Post' r D' → AT g κ K' z' (cells + mc') (slots + ms') pc1 l (r.toList ++ st) D') : AT g κ K z cells slots pc l stk D := by
  subst hst
  subst e0
  intro H ls locs hl' o1 o2 hD hS
  have X2 := X
  obtain ⟨p, e, R, s, m, args, below, meth, c, Q⟩ := κ
  obtain ⟨hx, hb, hnl, hown, hts, hlk, hal, hG, hold, hsz, hnw⟩ := X
  have oka : ∀ v ∈ avs, okv v := fun v hv => o2 v (List.mem_append_left _ (List.mem_reverse.mpr hv))
  obtain ⟨hm1, hm2, hm3⟩ := hm
  have hW : GoodIn (ALLW) (va_wsS own ix y (Cond.code y cc' maxL ret' :: ALLW)) := fun w hw => by
    have : w ∈ ALLW := by
      unfold va_wsS at hw
      rcases List.mem_append.mp hw with h | h
      · simp only [List.mem_cons, List.not_mem_nil, or_false] at h
        rcases h with rfl | rfl | rfl <;> assumption
      · rcases List.mem_cons.mp h with rfl | h
        · exact hm1
        · exact h
    exact ⟨this, good_of_word (aw_good this)⟩
  refine call_go (va_runS (As := avs.map (rvv (gB g))) (rest := st.map (rvv (gB g))) ⟨hx, hb, hnl, hown, hts⟩ (hC oka) (va_cwS n hts hW rfl rfl rfl hm3 ⟨hr.1, hr.2.1⟩) ⟨wd_blind, fun U hU hW2 => ⟨rfl, wd_at X2 hD hU hW2⟩⟩ rfl (by rw [List.length_map]; exact hn) (hl'.1.trans hnl) ?_ (lv_room (by rw [mwid_sum]; exact hwd)) d ⟨hr.2.2.1, hr.2.2.2⟩) hS fun r D' H1 locs1 h1 h2 h3 h4 => ?_
  · show List.map _ _ = _
    rw [List.map_append, List.map_reverse]
  · rw [map_opt]
    exact kk r D' h2 H1 ls locs1 hl' o1 (ok_opt h1 (fun v hv => o2 v (List.mem_append_right _ hv))) h3 h4
/-- invokestatic of a nest mate's private method -/
theorem at_callSN (pc1 : Nat) (X : CX g κ cc own nL) {host : String} (hC : CT g y cc' maxL ret' fr' lo' mc' ms' K z avs D K' z' Post') (hm : MOk y cc' maxL ret' n) (hl : Cond.methodLinkNest own ix y host ∈ NESTW) (hi : Cond.static y ∈ ALLW) (hn : avs.length = n) (hst : stk = avs.reverse ++ st) (hr : CRm κ maxL fr' lo' mc' ms' cells slots) (hwd : mwid st ≤ 8) (d : decode cc pc = .ok (.invokestatic ix, 3)) (e0 : pc + 3 = pc1)
    (kk : ∀ (r : Option MV) (D' : Mm), Post' r D' → AT g κ K' z' (cells + mc') (slots + ms') pc1 l (r.toList ++ st) D') : AT g κ K z cells slots pc l stk D := by
  subst hst
  subst e0
  intro H ls locs hl' o1 o2 hD hS
  have X2 := X
  obtain ⟨p, e, R, s, m, args, below, meth, c, Q⟩ := κ
  obtain ⟨hx, hb, hnl, hown, hts, hlk, hal, hG, hold, hsz, hnw⟩ := X
  have oka : ∀ v ∈ avs, okv v := fun v hv => o2 v (List.mem_append_left _ (List.mem_reverse.mpr hv))
  obtain ⟨hm1, hm2, hm3⟩ := hm
  have hW : GoodIn (ALLW) (Cond.code y cc' maxL ret' :: ALLW) := fun w hw => by
    rcases List.mem_cons.mp hw with rfl | h
    · exact ⟨hm1, good_of_word (aw_good hm1)⟩
    · exact ⟨h, good_of_word (aw_good h)⟩
  refine call_go (va_runSN (As := avs.map (rvv (gB g))) (rest := st.map (rvv (gB g))) (host := host) ⟨hx, hb, hnl, hown, hts⟩ (hC oka) ⟨va_cnB n hts hW rfl rfl rfl (hnw.1 _ hl) (hts _ hm2) hm3 ⟨hr.1, hr.2.1⟩, hts _ hi, trivial⟩ ⟨wd_blind, fun U hU hW2 => ⟨rfl, wd_at X2 hD hU hW2⟩⟩ rfl (by rw [List.length_map]; exact hn) (hl'.1.trans hnl) ?_ (lv_room (by rw [mwid_sum]; exact hwd)) d ⟨hr.2.2.1, hr.2.2.2⟩) hS fun r D' H1 locs1 h1 h2 h3 h4 => ?_
  · show List.map _ _ = _
    rw [List.map_append, List.map_reverse]
  · rw [map_opt]
    exact kk r D' h2 H1 ls locs1 hl' o1 (ok_opt h1 (fun v hv => o2 v (List.mem_append_right _ hv))) h3 h4
/-- invokespecial of a constructor -/
theorem at_callI (pc1 : Nat) (X : CX g κ cc own nL) (b : Nat) (hC : CT g y cc' maxL none fr' lo' mc' ms' K z (mR b :: avs) D K' z' Post') (hyn : y.name = "<init>") (hm : MOk y cc' maxL none n) (hl : Cond.methodLink own ix y ∈ ALLW) (hi : Cond.instanceMethod y ∈ ALLW) (hn : avs.length = n) (hst : stk = avs.reverse ++ mR b :: st) (hr : CRm κ maxL fr' lo' mc' ms' cells slots) (hwd : mwid st ≤ 8) (d : decode cc pc = .ok (.invokespecial ix, 3)) (e0 : pc + 3 = pc1)
    (kk : ∀ (r : Option MV) (D' : Mm), Post' r D' → AT g κ K' z' (cells + mc') (slots + ms') pc1 l (r.toList ++ st) D') : AT g κ K z cells slots pc l stk D := by
  subst hst
  subst e0
  intro H ls locs hl' o1 o2 hD hS
  have X2 := X
  obtain ⟨p, e, R, s, m, args, below, meth, c, Q⟩ := κ
  obtain ⟨hx, hb, hnl, hown, hts, hlk, hal, hG, hold, hsz, hnw⟩ := X
  have oka : ∀ v ∈ mR b :: avs, okv v := fun v hv => by
    rcases List.mem_cons.mp hv with rfl | hv
    · trivial
    · exact o2 v (List.mem_append_left _ (List.mem_reverse.mpr hv))
  obtain ⟨hm1, hm2, hm3⟩ := hm
  have hW : GoodIn (ALLW) (Cond.code y cc' maxL none :: ALLW) := fun w hw => by
    rcases List.mem_cons.mp hw with rfl | h
    · exact ⟨hm1, good_of_word (aw_good hm1)⟩
    · exact ⟨h, good_of_word (aw_good h)⟩
  have hMet := hC oka
  rw [List.map_cons, rvv_ref] at hMet
  refine call_go (va_runI (As := avs.map (rvv (gB g))) (rest := st.map (rvv (gB g))) (b := gB g + b) ⟨hx, hb, hnl, hown, hts⟩ hMet (cwI n hts hW rfl rfl rfl (hts _ hm2) (hts _ hl) (hts _ hi) hyn hm3 ⟨hr.1, hr.2.1⟩) ⟨wd_blind, fun U hU hW2 => ⟨rfl, wd_at X2 hD hU hW2⟩⟩ rfl (by rw [List.length_map]; exact hn) (hl'.1.trans hnl) ?_ (lv_room (by rw [mwid_sum]; exact hwd)) d ⟨hr.2.2.1, hr.2.2.2⟩) hS fun r D' H1 locs1 h1 h2 h3 h4 => ?_
  · show List.map _ _ = _
    rw [List.map_append, List.map_cons, rvv_ref, List.map_reverse]
  · rw [map_opt]
    exact kk r D' h2 H1 ls locs1 hl' o1 (ok_opt h1 (fun v hv => o2 v (List.mem_append_right _ (List.mem_cons_of_mem _ hv)))) h3 h4
theorem at_callIN (pc1 : Nat) (X : CX g κ cc own nL) (b : Nat) {host : String} (hC : CT g y cc' maxL none fr' lo' mc' ms' K z (mR b :: avs) D K' z' Post') (hyn : y.name = "<init>") (hm : MOk y cc' maxL none n) (hl : Cond.methodLinkNest own ix y host ∈ NESTW) (hi : Cond.instanceMethod y ∈ ALLW) (hn : avs.length = n) (hst : stk = avs.reverse ++ mR b :: st) (hr : CRm κ maxL fr' lo' mc' ms' cells slots) (hwd : mwid st ≤ 8) (d : decode cc pc = .ok (.invokespecial ix, 3)) (e0 : pc + 3 = pc1)
    (kk : ∀ (r : Option MV) (D' : Mm), Post' r D' → AT g κ K' z' (cells + mc') (slots + ms') pc1 l (r.toList ++ st) D') : AT g κ K z cells slots pc l stk D := by
  subst hst
  subst e0
  intro H ls locs hl' o1 o2 hD hS
  have X2 := X
  obtain ⟨p, e, R, s, m, args, below, meth, c, Q⟩ := κ
  obtain ⟨hx, hb, hnl, hown, hts, hlk, hal, hG, hold, hsz, hnw⟩ := X
  have oka : ∀ v ∈ mR b :: avs, okv v := fun v hv => by
    rcases List.mem_cons.mp hv with rfl | hv
    · trivial
    · exact o2 v (List.mem_append_left _ (List.mem_reverse.mpr hv))
  obtain ⟨hm1, hm2, hm3⟩ := hm
  have hW : GoodIn (ALLW) (Cond.code y cc' maxL none :: ALLW) := fun w hw => by
    rcases List.mem_cons.mp hw with rfl | h
    · exact ⟨hm1, good_of_word (aw_good hm1)⟩
    · exact ⟨h, good_of_word (aw_good h)⟩
  have hMet := hC oka
  rw [List.map_cons, rvv_ref] at hMet
  refine call_go (va_runIN (As := avs.map (rvv (gB g))) (rest := st.map (rvv (gB g))) (b := gB g + b) (host := host) ⟨hx, hb, hnl, hown, hts⟩ hMet ⟨va_cnB n hts hW rfl rfl rfl (hnw.1 _ hl) (hts _ hm2) hm3 ⟨hr.1, hr.2.1⟩, hyn, hts _ hi⟩ ⟨wd_blind, fun U hU hW2 => ⟨rfl, wd_at X2 hD hU hW2⟩⟩ rfl (by rw [List.length_map]; exact hn) (hl'.1.trans hnl) ?_ (lv_room (by rw [mwid_sum]; exact hwd)) d ⟨hr.2.2.1, hr.2.2.2⟩) hS fun r D' H1 locs1 h1 h2 h3 h4 => ?_
  · show List.map _ _ = _
    rw [List.map_append, List.map_cons, rvv_ref, List.map_reverse]
  · rw [map_opt]
    exact kk r D' h2 H1 ls locs1 hl' o1 (ok_opt h1 (fun v hv => o2 v (List.mem_append_right _ (List.mem_cons_of_mem _ hv)))) h3 h4
end CALLS
