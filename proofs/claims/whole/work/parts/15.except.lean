/-! contracts of methods that return or throw -/
def XR (g : Gw) (K : Shp) (PX : String → Mm → Prop) : String → State → State → Prop := fun E st t => (∃ D' : Mm, PX E D' ∧ HD g K false D' t.heap) ∧ va_F (gA g) st t
def CTX (g : Gw) (y : MethodName) (cc : ByteArray) (maxL : Nat) (ret : Option FieldType) (fr lo mc ms : Nat) (K : Shp) (z : Bool) (avs : List MV) (D : Mm) (K' : Shp) (z' : Bool) (Post : Option MV → Mm → Prop) (PX : String → Mm → Prop) : Prop :=
  (∀ v ∈ avs, okv v) → vx_Met (gL g) y (Cond.code y cc maxL ret :: ALLW) { frames := fr, cells := mc, slots := ms, locals := lo } (va_Pc (avs.map (rvv (gB g))) (WD g K z D)) (QR g K' z' Post) (XR g K' PX) mc ms (gA g)
/-- a method that may throw comes to its end -/
def RTX (g : Gw) (κ : Kp) (mc ms : Nat) (K : Shp) (z : Bool) (Post : Option MV → Mm → Prop) (PX : String → Mm → Prop) : Prop :=
  (∀ t, vx_MQ (kB κ) (QR g K z Post) (XR g K PX) (kA κ) (kS κ) mc ms (gA g) t → kQ κ t) ∧ (∀ x ∈ (kC κ).exceptionTable.toList, False)
theorem CTX.mk {g : Gw} {y : MethodName} {cc : ByteArray} {maxL : Nat} {ret : Option FieldType} {fr lo mc ms : Nat} {K : Shp} {z : Bool} {avs : List MV} {D : Mm} {K' : Shp} {z' : Bool} {Post : Option MV → Mm → Prop} {PX : String → Mm → Prop} (hG : GF g) (hy : plainName y.cls = true) (hw : mwid avs ≤ maxL)
    (body : ∀ κ : Kp, CX g κ cc y.cls maxL → RT g κ ret fr lo mc ms K' z' Post → RTX g κ mc ms K' z' Post PX → (∀ v ∈ avs, okv v) → AT g κ K z 0 0 0 (margs 0 avs) [] D) : CTX g y cc maxL ret fr lo mc ms K z avs D K' z' Post PX := by
  intro ok
  refine vx_ofW (cc := cc) (maxL := maxL) (ret := ret) hy rfl ?_
  intro p e s m args below meth c s₁ B hml hno hv
  obtain ⟨rfl, hD, hal, hnw⟩ := hv
  have hts := atoms_spec (ws := Cond.code y cc maxL ret :: ALLW) B.pre
  have h := body (p, e, { frames := fr, cells := mc, slots := ms, locals := lo }, s, m, (avs.map (rvv (gB g))).toArray, below, meth, c, vx_MQ below (QR g K' z' Post) (XR g K' PX) (avs.map (rvv (gB g))).toArray s mc ms (gA g))
    ⟨B.exec, B.bytes, hml, findClass_of_methodNamed B.named, fun w hw => hts w (List.mem_cons_of_mem _ hw), B.notSynchronized, hal, hG, hD.2.2.1, hD.2.2.2, hnw⟩ ⟨rfl, fun t ht => ?_, B.returns⟩ ⟨fun t ht => ht, hno⟩ ok
  · have hl := lv_entry (avs.map (rvv (gB g))) (n := maxL) (by rw [mwid_eq]; exact hw)
    rw [lg_entry_eq]
    refine h s.heap _ [] ?_ ?_ (fun v hv => by cases hv) hD va_S.rf
    · rw [margs_eq]
      show lv_has _ c.maxLocals _
      rw [hml]
      exact hl
    · have key : ∀ (i : Nat) (avs : List MV), (∀ v ∈ avs, okv v) → ∀ q ∈ margs i avs, okv q.2 := by
        intro i avs
        induction avs generalizing i with
        | nil => intro _ q hq; cases hq
        | cons v t ih =>
          intro h q hq
          rcases List.mem_cons.mp hq with rfl | hq
          · exact h v List.mem_cons_self
          · exact ih _ (fun w hw => h w (List.mem_cons_of_mem _ hw)) q hq
      exact key 0 avs ok
  · obtain ⟨o, a1, a2, a3, a4⟩ := ht
    exact ⟨o, a1, a2, Or.inl ⟨a3, a4⟩⟩
section XROWS
variable {g : Gw} {κ : Kp} {cc : ByteArray} {own : String} {nL : Nat} {K : Shp} {z : Bool} {cells slots pc : Nat} {l : List (Nat × MV)} {st : List MV} {D : Mm} {fr lo mc ms : Nat} {Post : Option MV → Mm → Prop} {PX : String → Mm → Prop} {ret : Option FieldType}
theorem ot_of {w : Cond} (h : w ∈ ALLW ∨ w ∈ NESTW) : vx_ot w = true := by
  unfold vx_ot
  rcases h with h | h
  · rw [aw_good h, Bool.or_true]
  · rw [anw_on h, Bool.true_or]
/-- new X(text), thrown, and it leaves the method -/
theorem at_throw (X : CX g κ cc own nL) (Rt : RT g κ ret fr lo mc ms K z Post) (Rx : RTX g κ mc ms K z Post PX) (si : Nat) {cls Y1 text : String} {names : List String} {ik is ic ix : Nat} {bytes : ByteArray}
    (hsi : STRL[si]? = some (own, is, text)) (hcls : Bundle.fit cls = true) (hY1 : Bundle.fit Y1 = true) (hnames : ∀ n ∈ names, Bundle.fit n = true)
    (b0 : decode bytes 0 = .ok (.aload_n 0, 1)) (b1 : decode bytes 1 = .ok (.aload_n 1, 1)) (b2 : decode bytes 2 = .ok (.invokespecial ix, 3)) (b5 : decode bytes 5 = .ok (.return_, 1))
    (hk : Cond.classLink own ik cls ∈ ALLW) (hini : Cond.initialized cls ∈ ALLW) (hat : ∀ w ∈ (thA own ic cls Y1 names ix bytes).filter vx_no, w ∈ ALLW ∨ w ∈ NESTW) (hins : Cond.instantiable cls 6 ∈ ALLW)
    (d0 : decode cc pc = .ok (.new ik, 3)) (d3 : decode cc (pc + 3) = .ok (.dup, 1)) (d4 : decode cc (pc + 4) = .ok (.ldc_w is, 3)) (d7 : decode cc (pc + 7) = .ok (.invokespecial ic, 3)) (d10 : decode cc (pc + 10) = .ok (.athrow, 1))
    (hRm : names.length + 4 < fr ∧ mwid st + (13 * (names.length + 2) + 43) ≤ lo ∧ cells + 1 ≤ mc ∧ slots + 6 ≤ ms) (hx : PX cls D) : AT g κ K z cells slots pc l st D := by
  obtain ⟨p, e, R, s, m, args, below, meth, c, Q⟩ := κ
  obtain ⟨hexec, hb, hnl, hown, hts, hlocks, hal, hG, hold, hsz, hnw⟩ := X
  obtain ⟨hR, -, -⟩ := Rt
  obtain ⟨hQ, hno⟩ := Rx
  intro H ls locs hl' o1 o2 hD hS
  refine w_mono hQ ?_
  have hR' : R = { frames := fr, cells := mc, slots := ms, locals := lo } := hR
  have hA0 : ∀ q, q < gB g → ¬ gA g q := fun q h => Nat.not_le.mpr h
  have hold2 : ∀ q : Nat, q < (gS g).heap.size → ¬ gA g q → s.heap[q]? = (gS g).heap[q]? := fun q h _ => hold q h
  have hU : vx_Zq Bundle.tN "UNASSIGNED_STACK" Bundle.steD (gA g) s s.heap := (vx_Zq.moved hal hG.2.2.1.2.2.2.1).kept hold2
  have hN : vx_Zq Bundle.tN "SUPPRESSED_SENTINEL" Bundle.listD (gA g) s s.heap := (vx_Zq.moved hal hG.2.2.1.2.2.2.2).kept hold2
  have hstr : vk_R own is text (gT g si) s := hnw.2 si _ hsi
  intro T hT X
  have htr : e.platform.stackTraces = false := (show e.platform.stackTraces = (gL g).stackTraces by rw [X.admits.platform]).trans hG.2.1
  have Y := vx_rebase X (R' := { frames := R.frames, locals := R.locals, cells := 1, slots := 6 }) (Nat.le_refl _) (Nat.le_refl _) (by rw [hR']; exact hRm.2.2.1) (by rw [hR']; exact hRm.2.2.2)
  obtain ⟨s', hA⟩ : ∃ z, z = (T.setVm s.vm).setFrames (.invoking m args :: below) := ⟨_, rfl⟩
  rw [← hA] at Y
  have hvm : s'.vm = s.vm := by rw [hA]; rfl
  have hhp : s'.heap = H := by rw [hA]; exact hT
  have hW0 : s.WarmedH s'.vm := by rw [hvm]; exact State.WarmedH.refl s
  have hbef : ∀ w, (w ∈ ALLW ∨ w ∈ NESTW) → w.before args s' = true := fun w hw => vx_ot_at hW0 hvm.symm (ot_of hw) (hw.elim (fun h => hts w h) (fun h => (hnw.1 w h).use (anw_on h)))
  have hU' : vx_Zq Bundle.tN "UNASSIGNED_STACK" Bundle.steD (gA g) s' s'.heap := by rw [hhp]; exact vx_Zq.moved hW0.alike (hU.kept hS.2.1)
  have hN' : vx_Zq Bundle.tN "SUPPRESSED_SENTINEL" Bundle.listD (gA g) s' s'.heap := by rw [hhp]; exact vx_Zq.moved hW0.alike (hN.kept hS.2.1)
  have h : ∀ w ∈ thA own ic cls Y1 names ix bytes, w.before args s' = true := vx_own (fun w hw => hbef w (hat w hw)) (vx_isRefq hU'.1) (vx_isRefq hN'.1) hU'.2.word hN'.2.word
  have hown' : s'.vm.findClass own = some m.cls := by rw [hvm]; exact hown
  obtain ⟨vm₁, cX, kX, hfX, hkX, -, -, X₁, st1⟩ := Y.newCold hexec (own := own) (C := cls) (index := ik) (n := 6) hown' (hbef _ (Or.inl hk)) (hbef _ (Or.inl hins)) (hbef _ (Or.inl hini))
    (g := F0 m pc ls (st.map (rvv (gB g)))) rfl (by rw [show c.code = cc from hb]; exact d0) (Nat.le_refl _) (Nat.le_refl _)
  generalize hT1 : (T.setVm vm₁).pushCell { cls := cX, slots := kX.instanceTypes.map defaultValue, vm := .none } = T1 at X₁ st1
  have hcat : (Value.ref T.heap.size).category = 1 := rfl
  have hcellA : T1.heap[T.heap.size]? = some (freshCell cX kX) := by rw [← hT1]; exact State.heap_pushCell_size _ _
  have d3' : decode c.code (pc + 3) = .ok (.dup, 1) := by rw [show c.code = cc from hb]; exact d3
  have d4' : decode c.code (pc + 4) = .ok (.ldc_w is, 3) := by rw [show c.code = cc from hb]; exact d4
  have hstr' : vk_R own is text (gT g si) s' := vk_R.warm hW0 hstr
  obtain ⟨U, hsteps, hrun, hend, hW, hsame, ce, hce, hO1, hO2⟩ := th_ctor X₁ hexec htr (own := own) (cls := cls) (names := names) (ic := ic) hown' hcls hY1 hnames b0 b1 b2 b5 h (fun x hx => nomatch hx) hfX hkX hcellA (by rw [hhp, hT]; exact Nat.le_refl _) (msg := .ref (gT g si)) rfl
    (g := { method := m, pc := pc + 7, locals := ls, stack := .ref (gT g si) :: .ref T.heap.size :: .ref T.heap.size :: st.map (rvv (gB g)), locked := none }) rfl hl'.1 rfl rfl (rest := st.map (rvv (gB g))) rfl
    (by rw [show c.code = cc from hb]; exact d7) (by rw [show c.code = cc from hb]; exact d10) (fun x hx => (hno x hx).elim) (by rw [hR']; exact hRm.1) (by
      rw [hR']
      show 2 * 0 + _ + _ ≤ lo
      rw [List.map_cons, List.sum_cons, mwid_sum, hcat]
      have := hRm.2.1
      omega) hlocks
  obtain ⟨f1, f2⟩ := vx_frame hsame
  rw [hhp] at f1 f2
  have hWs : s.WarmedH U.vm := State.WarmedH.trans hW0 hW
  have hcl : s.vm.findClass cls = some ce.cls := by
    rw [hvm] at hO1
    exact hO1
  have hall : s.sameButNew ({ U with vm := s.vm } : State) locs mc ms := by
    subst hA
    obtain ⟨e1, e2⟩ := hsame
    rw [State.setFrames_setFrames] at e1
    have h2 : (T.setVm s.vm).sameButNew ({ U with vm := s.vm } : State) [] (0 + 1) (0 + 6) := ⟨e1, e2⟩
    have h3 := X.same.trans h2
    rw [List.append_nil] at h3
    exact h3.mono hRm.2.2.1 hRm.2.2.2
  have hkp : ∀ q : Nat, q < H.size → U.heap[q]? = H[q]? := fun q hq => f2 q hq (fun z hz => nomatch hz)
  have hx2 : XR g K PX cls s U := by
    refine ⟨⟨D, hx, fun a kd hK => ⟨hd_kept (hD.1 a kd hK).1 (hkp _ ?_), (hD.1 a kd hK).2⟩, fun h => (by cases h), fun q hq => by rw [hkp q (Nat.lt_of_lt_of_le hq hD.2.2.2)]; exact hD.2.2.1 q hq, Nat.le_trans hD.2.2.2 f1⟩, Nat.le_trans hS.1 f1, fun q hq hq2 => by rw [hkp q (Nat.lt_of_lt_of_le hq hS.1)]; exact hS.2.1 q hq hq2⟩
    have hc := (hD.1 a kd hK).1
    unfold cellAt at hc
    split at hc
    · exact (Array.getElem?_eq_some_iff.mp hc).1
    · obtain ⟨cell, q1, -⟩ := hc
      exact (Array.getElem?_eq_some_iff.mp q1).1
  refine ⟨U, ?_, .threw T.heap.size, hrun, hend, Or.inr ⟨T.heap.size, rfl, cls, ce, locs, hx2, hce, hO2, hcl, hWs, hall, hS.2.2⟩⟩
  refine st1 _ ?_
  show Steps p.tables e below (T1.setTop { method := m, pc := pc + 3, locals := ls, stack := .ref T.heap.size :: st.map (rvv (gB g)), locked := none }) _
  jvm_step X₁.here [X₁.here.top, hexec, d3', Value.category]
  exact X₁.ldcStringW hexec (own := own) (text := text) (index := is) (a := gT g si) hown' hstr'.1 hstr'.2
    (g := { method := m, pc := pc + 4, locals := ls, stack := .ref T.heap.size :: .ref T.heap.size :: st.map (rvv (gB g)), locked := none }) rfl d4' _ hsteps
end XROWS
