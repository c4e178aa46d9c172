section XCALLS
variable {g : Gw} {κ : Kp} {cc : ByteArray} {own : String} {nL : Nat} {K : Shp} {z : Bool} {cells slots pc : Nat} {l : List (Nat × MV)} {st : List MV} {D : Mm} {fr lo mc ms : Nat} {Post : Option MV → Mm → Prop} {PX : String → Mm → Prop} {ret : Option FieldType}
variable {y : MethodName} {cc' : ByteArray} {maxL fr' lo' mc' ms' n ix : Nat} {ret' : Option FieldType} {avs stk : List MV} {K' : Shp} {z' : Bool} {Post' : Option MV → Mm → Prop} {PX' : String → Mm → Prop}
theorem call_goX {p : Program} {e : Env} {R : Room} {s : State} {m : MethodId} {args a : Array Value} {below : List Frame} {meth : Method} {c : Code} {Q : State → Prop} {H : Heap} {locs : List Loc} {ls : Array Slot} {st0 rest : List Value}
    (hr : vx_Run p (gL g) e R s m args below meth c H locs cells slots mc ms (F0 m pc ls st0) rest (QR g K' z' Post' a) (XR g K' PX') (gA g)) (hS : va_S (gA g) s.heap H locs)
    (kx : ∀ (E : String) (D' : Mm) (ce : Cell) (q : Addr) (H1 : Heap) (locs1 : List Loc), PX' E D' → HD g K' false D' H1 → va_S (gA g) s.heap H1 locs1 → H1[q]? = some ce → ce.vm = .none → s.vm.findClass E = some ce.cls → vx_W p (gL g) e R s m args below meth c H1 locs1 (cells + mc) (slots + ms) Q (F0 m pc ls rest) q)
    (kk : ∀ (r : Option MV) (D' : Mm) (H1 : Heap) (locs1 : List Loc), (∀ v ∈ r.toList, okv v) → Post' r D' → HD g K' z' D' H1 → va_S (gA g) s.heap H1 locs1 → W p (gL g) e R s m args below meth c H1 locs1 (cells + mc) (slots + ms) Q (F0 m (pc + 3) ls ((r.map (rvv (gB g))).toList ++ rest))) : W p (gL g) e R s m args below meth c H locs cells slots Q (F0 m pc ls st0) := by
  intro T hT X
  have hA : ∀ q : Nat, q < H.size → gA g q → gA g q := fun _ _ h => h
  rcases hr T hT X with ⟨v, st₀, t, T', L, h0, X', hL, e1, e2, ⟨⟨r, D', hv, hok, hp, hD'⟩, hF⟩, stp⟩ | ⟨q, st₀, t, T', L, E, ce, h0, X', hL, e1, e2, ⟨⟨D', hp, hD'⟩, hF⟩, hce, hcv, hcl, stp⟩
  · cases hv
    obtain ⟨k1, k2, k3⟩ := vx_keep h0 e1 hS hA (fun _ h => h) hL hF
    obtain ⟨t2, a1, b1⟩ := kk r D' T'.heap (locs ++ L) hok hp (by rw [e1]; exact hD') k3 T' rfl X'
    exact ⟨t2, stp t2 a1, b1⟩
  · obtain ⟨k1, k2, k3⟩ := vx_keep h0 e1 hS hA (fun _ h => h) hL hF
    obtain ⟨t2, a1, b1⟩ := kx E D' ce q T'.heap (locs ++ L) hp (by rw [e1]; exact hD') k3 (by rw [e1]; exact hce) hcv hcl T' rfl X'
    exact ⟨t2, stp.trans a1, b1⟩
theorem hd_false {H : Heap} (h : HD g K z D H) : HD g K false D H := ⟨h.1, fun q => (by cases q), h.2.2⟩
/-- a call that may throw; what is thrown there leaves this method too -/
theorem at_callVX (pc1 : Nat) (X : CX g κ cc own nL) (Rt : RT g κ ret fr lo mc ms K z Post) (Rx : RTX g κ mc ms K z Post PX) (b ci : Nat) {C : String} {T : u_T} {N nn : Nat} {ty : Nat → FieldType} (hC : CTX g y cc' maxL ret' fr' lo' mc' ms' K z (mR b :: avs) D K z' Post' PX') (hcl : ClsOk ci C T N ty) (hyC : y.cls = C) (hK : K[b]? = some (ci + 7, nn)) (hm : MOk y cc' maxL ret' n) (hl : Cond.methodLink own ix y ∈ ALLW) (hi : Cond.instanceMethod y ∈ ALLW) (hs : Cond.selects y.cls y y ∈ ALLW) (hn : avs.length = n) (hst : stk = avs.reverse ++ mR b :: st) (hrm : fr' + 1 ≤ fr ∧ 8 + (maxL + 11) + lo' ≤ lo ∧ cells + mc' ≤ mc ∧ slots + ms' ≤ ms) (hwd : mwid st ≤ 8) (d : decode cc pc = .ok (.invokevirtual ix, 3)) (e0 : pc + 3 = pc1)
    (kx : ∀ (E : String) (D' : Mm), PX' E D' → PX E D')
    (kk : ∀ (r : Option MV) (D' : Mm), Post' r D' → AT g κ K z' (cells + mc') (slots + ms') pc1 l (r.toList ++ st) D') : AT g κ K z cells slots pc l stk D := by
  have hr : CRm κ maxL fr' lo' mc' ms' cells slots := crm Rt hrm
  subst hst
  subst e0
  subst hyC
  intro H ls locs hl' o1 o2 hD hS
  have X2 := X
  obtain ⟨p, e, R, s, m, args, below, meth, c, Q⟩ := κ
  obtain ⟨hx, hb, hnl, hown, hts, hlk, hal, hG, hold, hsz, hnw⟩ := X
  obtain ⟨hQ, hno⟩ := Rx
  have oka : ∀ v ∈ mR b :: avs, okv v := fun v hv => by
    rcases List.mem_cons.mp hv with rfl | hv
    · trivial
    · exact o2 v (List.mem_append_left _ (List.mem_reverse.mpr hv))
  obtain ⟨hm1, hm2, hm3⟩ := hm
  have hW : GoodIn (ALLW) (wsV own ix y.cls y (Cond.code y cc' maxL ret' :: ALLW)) := fun w hw => by
    have : w ∈ ALLW := by
      unfold wsV at hw
      rcases List.mem_append.mp hw with h | h
      · simp only [List.mem_cons, List.not_mem_nil, or_false] at h
        rcases h with rfl | rfl | rfl | rfl <;> assumption
      · rcases List.mem_cons.mp h with rfl | h
        · exact hm1
        · exact h
    exact ⟨this, good_of_word (aw_good this)⟩
  have hMet := hC oka
  rw [List.map_cons, rvv_ref] at hMet
  refine call_goX (vx_runV (As := avs.map (rvv (gB g))) (rest := st.map (rvv (gB g))) (b := gB g + b) ⟨hx, hb, hnl, hown, hts⟩ hMet (cwV n hts hW rfl rfl rfl ⟨rfl, hm3⟩ ⟨hr.1, hr.2.1⟩) ⟨wd_blind, recv_at hcl hG hal hD hK, fun U hU hW2 => ⟨rfl, wd_at X2 hD hU hW2⟩⟩ rfl (by rw [List.length_map]; exact hn) (hl'.1.trans hnl) ?_ (lv_room (by rw [mwid_sum]; exact hwd)) d ⟨hr.2.2.1, hr.2.2.2⟩) hS (fun E D' ce q H1 locs1 h1 h2 h3 h4 h5 h6 => ?_) fun r D' H1 locs1 h1 h2 h3 h4 => ?_
  · show List.map _ _ = _
    rw [List.map_append, List.map_cons, rvv_ref, List.map_reverse]
  · intro T hT X'
    obtain ⟨t, a1, b1⟩ := vx_out (pc := pc) (ls := ls) (rest := st.map (rvv (gB g))) (mc := mc) (ms := ms) (Qc := QR g K z Post) (XC := XR g K PX) (free := gA g) (fun x hx => (hno x hx).elim) hlk h4 h5 h6 (fun t ht _ => ⟨⟨D', kx E D' h1, by rw [ht]; exact h2⟩, h3.F ht⟩) h3.2.2 hrm.2.2.1 hrm.2.2.2 T hT X'
    exact ⟨t, a1, hQ t b1⟩
  · rw [map_opt]
    exact kk r D' h2 H1 ls locs1 hl' o1 (ok_opt h1 (fun v hv => o2 v (List.mem_append_right _ (List.mem_cons_of_mem _ hv)))) h3 h4
/-- a static method with handlers of its own, that lets nothing out -/
def CTH (g : Gw) (y : MethodName) (cc : ByteArray) (maxL : Nat) (ret : Option FieldType) (hh : List (Nat × Nat × Nat × Nat)) (fr lo mc ms : Nat) (K : Shp) (z : Bool) (avs : List MV) (D : Mm) (K' : Shp) (z' : Bool) (Post : Option MV → Mm → Prop) : Prop :=
  (∀ v ∈ avs, okv v) → Met (gL g) y (Cond.codeWith y cc maxL ret hh :: ALLW) { frames := fr, cells := mc, slots := ms, locals := lo } (va_Pc (avs.map (rvv (gB g))) (WD g K z D)) (QR g K' z' Post) mc ms (gA g)
/-- a call of a method that may throw, in a method with handlers -/
theorem at_callVH (pc1 : Nat) (X : CX g κ cc own nL) {hh : List (Nat × Nat × Nat × Nat)} (htab : (kC κ).exceptionTable.toList = tableOf hh) (b ci : Nat) {C : String} {T : u_T} {N nn : Nat} {ty : Nat → FieldType} (hC : CTX g y cc' maxL ret' fr' lo' mc' ms' K z (mR b :: avs) D K z' Post' PX') (hcl : ClsOk ci C T N ty) (hyC : y.cls = C) (hK : K[b]? = some (ci + 7, nn)) (hm : MOk y cc' maxL ret' n) (hl : Cond.methodLink own ix y ∈ ALLW) (hi : Cond.instanceMethod y ∈ ALLW) (hs : Cond.selects y.cls y y ∈ ALLW) (hn : avs.length = n) (hst : stk = avs.reverse ++ mR b :: st) (hr : CRm κ maxL fr' lo' mc' ms' cells slots) (hwd : mwid st ≤ 8) (d : decode cc pc = .ok (.invokevirtual ix, 3)) (e0 : pc + 3 = pc1)
    (kx : ∀ (E : String) (D' : Mm), PX' E D' → ∃ (pre : List ExceptionTableEntry) (x : ExceptionTableEntry) (suf : List ExceptionTableEntry) (nm : String), tableOf hh = pre ++ x :: suf ∧ (∀ w ∈ pre, covers w pc = false ∨ (w.catchType ≠ 0 ∧ ∃ nm' : String, Cond.classLink own w.catchType nm' ∈ ALLW ∧ nm' ∈ exN ∧ E ∈ exN ∧ E ≠ nm')) ∧ covers x pc = true ∧ x.catchType ≠ 0 ∧ Cond.classLink own x.catchType nm ∈ ALLW ∧ Cond.castable E nm ∈ NESTW ∧ ∀ q : Nat, AT g κ K false (cells + mc') (slots + ms') x.handlerPc l [mX q] D')
    (kk : ∀ (r : Option MV) (D' : Mm), Post' r D' → AT g κ K z' (cells + mc') (slots + ms') pc1 l (r.toList ++ st) D') : AT g κ K z cells slots pc l stk D := by
  subst hst
  subst e0
  subst hyC
  intro H ls locs hl' o1 o2 hD hS
  have X2 := X
  obtain ⟨p, e, R, s, m, args, below, meth, c, Q⟩ := κ
  obtain ⟨hx, hb, hnl, hown, hts, hlk, hal, hG, hold, hsz, hnw⟩ := X
  have oka : ∀ v ∈ mR b :: avs, okv v := fun v hv => by
    rcases List.mem_cons.mp hv with rfl | hv
    · trivial
    · exact o2 v (List.mem_append_left _ (List.mem_reverse.mpr hv))
  obtain ⟨hm1, hm2, hm3⟩ := hm
  have hW : GoodIn (ALLW) (wsV own ix y.cls y (Cond.code y cc' maxL ret' :: ALLW)) := fun w hw => by
    have : w ∈ ALLW := by
      unfold wsV at hw
      rcases List.mem_append.mp hw with h | h
      · simp only [List.mem_cons, List.not_mem_nil, or_false] at h
        rcases h with rfl | rfl | rfl | rfl <;> assumption
      · rcases List.mem_cons.mp h with rfl | h
        · exact hm1
        · exact h
    exact ⟨this, good_of_word (aw_good this)⟩
  have hMet := hC oka
  rw [List.map_cons, rvv_ref] at hMet
  refine call_goX (vx_runV (As := avs.map (rvv (gB g))) (rest := st.map (rvv (gB g))) (b := gB g + b) ⟨hx, hb, hnl, hown, hts⟩ hMet (cwV n hts hW rfl rfl rfl ⟨rfl, hm3⟩ ⟨hr.1, hr.2.1⟩) ⟨wd_blind, recv_at hcl hG hal hD hK, fun U hU hW2 => ⟨rfl, wd_at X2 hD hU hW2⟩⟩ rfl (by rw [List.length_map]; exact hn) (hl'.1.trans hnl) ?_ (lv_room (by rw [mwid_sum]; exact hwd)) d ⟨hr.2.2.1, hr.2.2.2⟩) hS (fun E D' ce q H1 locs1 h1 h2 h3 h4 h5 h6 => ?_) fun r D' H1 locs1 h1 h2 h3 h4 => ?_
  · show List.map _ _ = _
    rw [List.map_append, List.map_cons, rvv_ref, List.map_reverse]
  · obtain ⟨pre, x, suf, nm, g1, g2, g3, g4, g5, g6, g7⟩ := kx E D' h1
    refine vx_catch hown pre x suf (htab.trans g1) (fun w hw => ?_) g3 g4 (hts _ g5) ((hnw.1 _ g6).use (anw_on g6)) h4 h5 h6 ?_
    · rcases g2 w hw with h | ⟨h, nm', f1, f2, f3, f4⟩
      · exact Or.inl h
      · refine Or.inr ⟨h, nm', hts _ f1, ?_⟩
        obtain ⟨c9, t9, k1, k2, k3⟩ := hG.2.2.2.1 E f3 nm' f2 f4
        exact ⟨c9, t9, by rw [hal.findClass]; exact k1, by rw [hal.findClass]; exact k2, by rw [hal.assignable]; exact k3⟩
    · exact g7 q H1 ls locs1 hl' o1 (ok_cons (v := mX q) trivial (fun v hv => by cases hv)) h2 h3
  · rw [map_opt]
    exact kk r D' h2 H1 ls locs1 hl' o1 (ok_opt h1 (fun v hv => o2 v (List.mem_append_right _ (List.mem_cons_of_mem _ hv)))) h3 h4
theorem CTH.mk {avs : List MV} {hh : List (Nat × Nat × Nat × Nat)} (hG : GF g) (hy : plainName y.cls = true) (hw : mwid avs ≤ maxL)
    (body : ∀ κ : Kp, CX g κ cc y.cls maxL → RT g κ ret fr lo mc ms K' z' Post → (kC κ).exceptionTable.toList = tableOf hh → (∀ v ∈ avs, okv v) → AT g κ K z 0 0 0 (margs 0 avs) [] D) : CTH g y cc maxL ret hh fr lo mc ms K z avs D K' z' Post := by
  intro ok
  have h0 : vx_Met (gL g) y (Cond.codeWith y cc maxL ret hh :: ALLW) { frames := fr, cells := mc, slots := ms, locals := lo } (va_Pc (avs.map (rvv (gB g))) (WD g K z D)) (QR g K' z' Post) (fun _ _ _ => False) mc ms (gA g) := by
    refine vx_ofWH (cc := cc) (maxL := maxL) (ret := ret) (hh := hh) hy rfl ?_
    intro p e s m args below meth c s₁ B hml hv
    obtain ⟨rfl, hD, hal, hnw⟩ := hv
    have hts := atoms_spec (ws := Cond.codeWith y cc maxL ret hh :: ALLW) B.pre
    have htab := vx_table (x := y) B (hts _ List.mem_cons_self)
    have h := body (p, e, { frames := fr, cells := mc, slots := ms, locals := lo }, s, m, (avs.map (rvv (gB g))).toArray, below, meth, c, vx_MQ below (QR g K' z' Post) (fun _ _ _ => False) (avs.map (rvv (gB g))).toArray s mc ms (gA g))
      ⟨B.exec, B.bytes, hml, findClass_of_methodNamed B.named, fun w hw => hts w (List.mem_cons_of_mem _ hw), B.notSynchronized, hal, hG, hD.2.2.1, hD.2.2.2, hnw⟩ ⟨rfl, fun t ht => ?_, B.returns⟩ htab ok
    · have hl := lv_entry (avs.map (rvv (gB g))) (n := maxL) (by rw [mwid_eq]; exact hw)
      rw [lg_entry_eq]
      refine h s.heap _ [] ?_ ?_ (fun v hv => by cases hv) hD va_S.rf
      · rw [margs_eq]
        show lv_has _ c.maxLocals _
        rw [hml]
        exact hl
      · have key : ∀ (i : Nat) (avs : List MV), (∀ v ∈ avs, okv v) → ∀ q ∈ margs i avs, okv q.2 := by
          intro i avs
          induction avs generalizing i with
          | nil => intro _ q hq; cases hq
          | cons v t ih =>
            intro h q hq
            rcases List.mem_cons.mp hq with rfl | hq
            · exact h v List.mem_cons_self
            · exact ih _ (fun w hw => h w (List.mem_cons_of_mem _ hw)) q hq
        exact key 0 avs ok
    · obtain ⟨o, a1, a2, a3, a4⟩ := ht
      exact ⟨o, a1, a2, Or.inl ⟨a3, a4⟩⟩
  intro p e ha hc hk s m args below hf happ hP hK
  obtain ⟨n, o, h1, h2, h3, h4⟩ := h0 p e ha hc hk s m args below hf happ hP hK
  refine ⟨n, o, h1, h2, h3, ?_⟩
  rcases h4 with h | ⟨q, -, E, ce, L, hx, -⟩
  · exact h
  · exact hx.elim
/-- the law's call of such a method -/
theorem at_callSH (pc1 : Nat) (X : CX g κ cc own nL) {hh : List (Nat × Nat × Nat × Nat)} (hC : CTH g y cc' maxL ret' hh fr' lo' mc' ms' K z avs D K' z' Post') (hm1 : Cond.codeWith y cc' maxL ret' hh ∈ ALLW) (hm2 : Cond.initialized own ∈ ALLW) (hyo : y.cls = own) (hm3 : y.cls ≠ "java/lang/invoke/MethodHandle" ∧ y.cls ≠ "java/lang/invoke/VarHandle" ∧ (parseMethodDescriptor y.desc).map (fun d => d.parameters.length) = some n) (hl : Cond.methodLink own ix y ∈ ALLW) (hi : Cond.static y ∈ ALLW) (hn : avs.length = n) (hst : stk = avs.reverse ++ st) (hr : CRm κ maxL fr' lo' mc' ms' cells slots) (hwd : mwid st ≤ 8) (d : decode cc pc = .ok (.invokestatic ix, 3)) (e0 : pc + 3 = pc1)
    (kk : ∀ (r : Option MV) (D' : Mm), Post' r D' → AT g κ K' z' (cells + mc') (slots + ms') pc1 l (r.toList ++ st) D') : AT g κ K z cells slots pc l stk D := by
  subst hst
  subst e0
  subst hyo
  intro H ls locs hl' o1 o2 hD hS
  have X2 := X
  obtain ⟨p, e, R, s, m, args, below, meth, c, Q⟩ := κ
  obtain ⟨hx, hb, hnl, hown, hts, hlk, hal, hG, hold, hsz, hnw⟩ := X
  have oka : ∀ v ∈ avs, okv v := fun v hv => o2 v (List.mem_append_left _ (List.mem_reverse.mpr hv))
  have hW : GoodIn (ALLW) (va_wsS y.cls ix y (Cond.codeWith y cc' maxL ret' hh :: ALLW)) := fun w hw => by
    have : w ∈ ALLW := by
      unfold va_wsS at hw
      rcases List.mem_append.mp hw with h | h
      · simp only [List.mem_cons, List.not_mem_nil, or_false] at h
        rcases h with rfl | rfl | rfl <;> assumption
      · rcases List.mem_cons.mp h with rfl | h
        · exact hm1
        · exact h
    exact ⟨this, good_of_word (aw_good this)⟩
  refine call_go (vx_runSW (As := avs.map (rvv (gB g))) (rest := st.map (rvv (gB g))) ⟨hx, hb, hnl, hown, hts⟩ (hC oka) (vx_cwSW n hts hW rfl rfl rfl hm3 ⟨hr.1, hr.2.1⟩) ⟨wd_blind, fun U hU hW2 => ⟨rfl, wd_at X2 hD hU hW2⟩⟩ rfl (by rw [List.length_map]; exact hn) (hl'.1.trans hnl) ?_ (lv_room (by rw [mwid_sum]; exact hwd)) d ⟨hr.2.2.1, hr.2.2.2⟩) hS fun r D' H1 locs1 h1 h2 h3 h4 => ?_
  · show List.map _ _ = _
    rw [List.map_append, List.map_reverse]
  · rw [map_opt]
    exact kk r D' h2 H1 ls locs1 hl' o1 (ok_opt h1 (fun v hv => o2 v (List.mem_append_right _ hv))) h3 h4
/-- a reference of the law's own (a thrown one, the script) -/
theorem at_xstore_n (pc' : Nat) (X : CX g κ cc own nL) {kk : Fin 4} {i a : Nat} (hi : (kk : Nat) = i) (d : decode cc pc = .ok (.astore_n kk, 1)) (e0 : pc + 1 = pc') (hn : i < nL) (k : AT g κ K z cells slots pc' (lset i (mX a) l) st D) : AT g κ K z cells slots pc l (mX a :: st) D := by
  obtain ⟨p, e, R, s, m, args, below, meth, c, Q⟩ := κ
  obtain ⟨hx, hb, hnl, hown, hts, hlk, hal, hG, hold, hsz, hnw⟩ := X
  subst e0
  intro H ls locs hl o1 o2 hD hS
  subst hnl
  exact lv_astore_n hx hb d hi hl hn rfl (fun ls' hl' => k H ls' locs (lset_has hl') (lset_ok o1 (ok_hd o2)) (ok_tl o2) hD hS)
theorem at_xstore (pc' : Nat) (X : CX g κ cc own nL) {i a : Nat} (d : decode cc pc = .ok (.astore i, 2)) (e0 : pc + 2 = pc') (hn : i < nL) (k : AT g κ K z cells slots pc' (lset i (mX a) l) st D) : AT g κ K z cells slots pc l (mX a :: st) D := by
  obtain ⟨p, e, R, s, m, args, below, meth, c, Q⟩ := κ
  obtain ⟨hx, hb, hnl, hown, hts, hlk, hal, hG, hold, hsz, hnw⟩ := X
  subst e0
  intro H ls locs hl o1 o2 hD hS
  subst hnl
  exact lv_astore hx hb d hl hn rfl (fun ls' hl' => k H ls' locs (lset_has hl') (lset_ok o1 (ok_hd o2)) (ok_tl o2) hD hS)
theorem at_xload (pc' : Nat) (X : CX g κ cc own nL) {i a : Nat} (h : lget l i = some (mX a)) (d : decode cc pc = .ok (.aload i, 2)) (e0 : pc + 2 = pc') (k : AT g κ K z cells slots pc' l (mX a :: st) D) : AT g κ K z cells slots pc l st D := by
  obtain ⟨p, e, R, s, m, args, below, meth, c, Q⟩ := κ
  obtain ⟨hx, hb, hnl, hown, hts, hlk, hal, hG, hold, hsz, hnw⟩ := X
  subst e0
  intro H ls locs hl o1 o2 hD hS
  exact lv_aload hx hb d (lget_at hl h) (k H ls locs hl o1 (ok_cons (lget_ok h o1) o2) hD hS)
end XCALLS
