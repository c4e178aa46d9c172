/-! THE CLAIM OUT OF ONE WALK OF THE LAW'S BODY. Your part is whole_start (and what it stands on); all else here is the same for every law, but numbers. -/
def R_law : String := "ShadeBeamsLaw"
def lw_P (b : Addr) (xs : List Int32) (args : Array Value) (s : State) : Prop := args = #[.ref b] ∧ s.IntsAt b xs ∧ xs.length ≤ 3072 ∧ (Jvm.Cond.and given_1 narrow_1).before args s = true
def lw_Q (_ : Array Value) (s : State) (o : Outcome) (t : State) : Prop := o = .returned (some (.int 1)) ∧ Framed s o t [] 601024 7293034
def lw_Z (below : List Frame) (a : Array Value) (s : State) : State → Prop := fun t => ∃ o, t.status = .running ∧ Ended t below o ∧ lw_Q a s o t
/-- the law's own end, with 1 on the stack, nothing written that was there before, its room as the claim has it -/
theorem lw_ret {p : Program} {l : Launch} {e : Env} {s : State} {m : MethodId} {below : List Frame} {meth : Method} {c : Code} {b : Nat} (hx : p.tables.exec = Jvm.exec) (hb : c.code = code) (hr : meth.sig.returnType = ret) (hlocks : meth.locks = false) {pc : Nat} {H : Heap} {ls : Array Slot} (hdg : decode code pc = .ok (.ireturn, 1)) : W p l e room_1 s m #[Value.ref b] below meth c H [] 601024 7293034 (lw_Z below #[Value.ref b] s) (F0 m pc ls [.int 1]) := by
  intro T hT X
  obtain ⟨fs, hret, hrun, hended, hW, hframe⟩ := X.leave (v := some (.int 1)) (hlocks := hlocks) (fun h => by rw [hr] at h; cases h)
  have hmeth' : T.vm.method? m = some meth := X.method'
  refine ⟨T.setFrames fs, ?_, .returned (some (.int 1)), hrun, hended, rfl, ⟨_, rfl⟩, hW, hframe⟩
  jvm_step X.here [X.here.top, hx, hb, hdg, hmeth', hr, ret, narrow_b1]
  (try refine ⟨rfl, ?_⟩); (try refine ⟨rfl, ?_⟩)
  first | (intro acts; rw [hret _ acts rfl rfl rfl]) | rw [hret _ _ rfl rfl rfl]
  exact Steps.refl _
/-- what holds at the law's entry: the machine, the code, the tables' words (any of lw_tbl by 'hts w (by decide +kernel)'), the script of L ints xs at the cell b, what the Statement gives of the start (any of its parts by flat_of_before) -/
def lw_At (p : Program) (s : State) (m : MethodId) (meth : Method) (c : Code) (b L : Nat) (xs : Nat → Int32) : Prop :=
  p.tables.exec = Jvm.exec ∧ c.code = code ∧ meth.sig.returnType = ret ∧ c.maxLocals = 8 ∧ s.vm.findClass R_law = some m.cls ∧ (∀ w ∈ lw_tbl, w.before #[Value.ref b] s = true) ∧ va_X b L xs s s.heap ∧ b < s.heap.size ∧ meth.locks = false ∧ (Jvm.Cond.and given_1 narrow_1).before #[Value.ref b] s = true
section ENTRY
/-- the law's one invocation -/
abbrev KL (p : Program) (e : Env) (s : State) (m : MethodId) (below : List Frame) (meth : Method) (c : Code) (b : Nat) : Kp := (p, e, room_1, s, m, #[Value.ref b], below, meth, c, lw_Z below #[Value.ref b] s)
/-- the script: L ints xs in the old cell b -/
def SCR (g : Gw) (κ : Kp) (b L : Nat) (xs : Nat → Int32) : Prop := va_X b L xs (kS κ) (kS κ).heap ∧ b < gB g ∧ b < (kS κ).heap.size
variable {g : Gw} {κ : Kp} {cc : ByteArray} {own : String} {nL : Nat} {K : Shp} {cells slots pc : Nat} {l : List (Nat × MV)} {st : List MV} {D : Mm}
theorem rvv_X (B b : Nat) : rvv B (mX b) = .ref b := by show Value.ref ((b : Int).toNat) = _; rw [Int.toNat_natCast]
theorem at_xlen (pc' : Nat) (X : CX g κ cc own nL) {z : Bool} {b L : Nat} {xs : Nat → Int32} (S : SCR g κ b L xs) (d : decode cc pc = .ok (.arraylength, 1)) (e0 : pc + 1 = pc') (hL : L ≤ 3072) (kk : AT g κ K z cells slots pc' l (mI (L : Int) :: st) D) : AT g κ K z cells slots pc l (mX b :: st) D := by
  obtain ⟨p, e, R, s, m, args, below, meth, c, Q⟩ := κ
  obtain ⟨hx, hb, hnl, hown, hts, hlk, hal, hG, hold, hsz, hnw⟩ := X
  subst e0
  intro H ls locs hl o1 o2 hD hS
  rw [List.map_cons, rvv_X]
  have h := kk H ls locs hl o1 (ok_cons (v := mI (L : Int)) (show -2147483648 ≤ (L : Int) ∧ (L : Int) < 2147483648 by omega) (ok_tl o2)) hD hS
  refine va_slen hx hb S.1 S.2.2 (Nat.not_le.mpr S.2.1) hS d ?_
  rw [List.map_cons, show rvv (gB g) (mI (L : Int)) = .int (Int32.ofNat L) from congrArg Value.int Int32.ofInt_eq_ofNat] at h
  exact h
theorem at_xint (pc' : Nat) (X : CX g κ cc own nL) {z : Bool} {b L : Nat} {xs : Nat → Int32} (S : SCR g κ b L xs) {x : Int} (h0 : 0 ≤ x) (h1 : x < L) (d : decode cc pc = .ok (.iaload, 1)) (e0 : pc + 1 = pc') (kk : AT g κ K z cells slots pc' l (mI (xs x.toNat).toInt :: st) D) : AT g κ K z cells slots pc l (mI x :: mX b :: st) D := by
  obtain ⟨p, e, R, s, m, args, below, meth, c, Q⟩ := κ
  obtain ⟨hx, hb, hnl, hown, hts, hlk, hal, hG, hold, hsz, hnw⟩ := X
  subst e0
  intro H ls locs hl o1 o2 hD hS
  obtain ⟨i1, i2⟩ := idx_in h0 h1 (ok_hd o2)
  rw [List.map_cons, List.map_cons, rvv_X]
  have h := kk H ls locs hl o1 (ok_cons (v := mI (xs x.toNat).toInt) (show -2147483648 ≤ (xs x.toNat).toInt ∧ (xs x.toNat).toInt < 2147483648 from ⟨Int32.le_toInt _, Int32.toInt_lt _⟩) (ok_tl (ok_tl o2))) hD hS
  refine va_sld hx hb S.1 S.2.2 (Nat.not_le.mpr S.2.1) hS i1 d ?_
  rw [List.map_cons, show rvv (gB g) (mI (xs x.toNat).toInt) = .int (xs x.toNat) from congrArg Value.int (Int32.ofInt_toInt _)] at h
  rw [i2]
  exact h
/-- the law's end -/
theorem at_lawEnd {p : Program} {e : Env} {s : State} {m : MethodId} {below : List Frame} {meth : Method} {c : Code} {b : Nat} (hs : gS g = s) (X : CX g (KL p e s m below meth c b) code own nL) {z : Bool} (hr : meth.sig.returnType = ret) (h1 : cells ≤ 601024) (h2 : slots ≤ 7293034) (d : decode code pc = .ok (.ireturn, 1)) : AT g (KL p e s m below meth c b) K z cells slots pc l [mI 1] D := by
  obtain ⟨hx, hb, hnl, hown, hts, hlk, hal, hG, hold, hsz, hnw⟩ := X
  intro H ls locs hl o1 o2 hD hS
  refine W.widen h1 h2 (va_forget (fun q hq => ?_) (lw_ret hx hb hr hlk d))
  have := hS.2.2 q hq
  show s.heap.size ≤ q.base
  rw [← hs]
  exact this
/-- the law from its entry, once its body is walked -/
theorem law_from (hB : ∀ (g : Gw) (p : Program) (e : Env) (s : State) (m : MethodId) (below : List Frame) (meth : Method) (c : Code) (b L : Nat) (xs : Nat → Int32), L ≤ 3072 → gS g = s → CX g (KL p e s m below meth c b) code R_law 8 → meth.sig.returnType = ret → SCR g (KL p e s m below meth c b) b L xs → AT g (KL p e s m below meth c b) [] true 0 0 0 [(0, mX b)] [] (fun _ _ => 0))
    {p : Program} {e : Env} {s : State} {m : MethodId} {below : List Frame} {meth : Method} {c : Code} (l : Launch) (hflags : l.flags = flags0) {b L : Nat} {xs : Nat → Int32} (hL : L ≤ 3072) (C0 : lw_At p s m meth c b L xs) : W p l e room_1 s m #[Value.ref b] below meth c s.heap [] 0 0 (lw_Z below #[Value.ref b] s) (entryFrame m ([Value.ref b] : List Value).toArray 8) := by
  obtain ⟨hx, hb, hr, hml, hown, hts, hX, hbl, hlocks, hgv⟩ := id C0
  obtain ⟨g, rfl, rfl, hG, hP⟩ := law_world l (by unfold Launch.stackTraces; rw [hflags]; decide) hts (flat_of_before _ hgv)
  have h := hB g p e (gS g) m below meth c b L xs hL rfl ⟨hx, hb, hml, hown, fun w hw => hts w (aw_in hw), hlocks, Vm.Alike.refl _, hG, fun _ _ => rfl, Nat.le_refl _, hP⟩ hr ⟨hX, hbl, hbl⟩
  have hl := lv_entry ([.ref b]) (n := 8) (Nat.le_of_ble_eq_true rfl)
  rw [lg_entry_eq]
  refine h (gS g).heap _ [] ?_ ?_ (fun v hv => by cases hv) ⟨(fun a kd h => by simp at h), fun _ => rfl, fun _ _ => rfl, Nat.le_refl _⟩ va_S.rf
  · show lv_has _ c.maxLocals _
    rw [hml]
    have e0 : rvl (gB g) [(0, mX b)] = [(0, .ref b)] := by show [(0, rvv (gB g) (mX b))] = _; rw [rvv_X]
    rw [e0]
    exact hl
  · intro q hq
    rw [List.mem_singleton.mp hq]
    trivial
end ENTRY
