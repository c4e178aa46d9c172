/-! changes that can be undone: how many, what each was of (0 height, 1 place, 2 load), whose, where, what it was -/
abbrev CHt : Type := Nat × (Nat → Nat) × (Nat → Nat) × (Nat → Nat) × (Nat → Nat)
abbrev cK (C : CHt) : Nat → Nat := C.2.1
abbrev cW (C : CHt) : Nat → Nat := C.2.2.1
abbrev cA (C : CHt) : Nat → Nat := C.2.2.2.1
abbrev cS (C : CHt) : Nat → Nat := C.2.2.2.2
def setH (P : SP) (p v : Nat) : SP := ((sW P, sN P, sX P, pt1 (sH P) p v), P.2)
def setXb (B : BM) (b x : Nat) : BM := (bN B, pt1 (bX B) b x, bL B, bH B, bD B)
def setXP (P : SP) (b x : Nat) : SP := setB P (setXb (sB P) b x)
def setDP (P : SP) (b p m : Nat) : SP := setB P (setD (sB P) b p m)
/-- a change taken back -/
def unP (C : CHt) (k : Nat) (P : SP) : SP := if cK C k = 0 then setH P (cW C k) (cS C k) else if cK C k = 1 then setXP P (cW C k) (cS C k) else setDP P (cW C k) (cA C k) (cS C k)
/-- so many taken back -/
def dnP (C : CHt) (P : SP) : Nat → SP
  | 0 => P
  | m + 1 => unP C (C.1 - 1 - m) (dnP C P m)
def chW (C : CHt) (k w a v : Nat) : CHt := (C.1 + 1, pt1 (cK C) C.1 k, pt1 (cW C) C.1 w, pt1 (cA C) C.1 a, pt1 (cS C) C.1 v)
/-- all of a street that stays -/
abbrev FRt : Type := (Nat × Nat × (Nat → Nat)) × (Nat × (Nat → Int) × (Nat → Bool)) × (Nat × (Nat → Nat) × (Nat → Nat) × (Nat → Nat)) × (Nat × (Nat → Bool)) × (Nat × (Nat → Bool)) × (Nat × (Nat → Nat) × (Nat → Nat))
def frm (P : SP) : FRt := ((sW P, sN P, sX P), P.2.1, P.2.2.1, P.2.2.2.1, P.2.2.2.2.1, (bN (sB P), bL (sB P), bH (sB P)))
theorem frm_H (P : SP) (p v : Nat) : frm (setH P p v) = frm P := rfl
theorem frm_X (P : SP) (b x : Nat) : frm (setXP P b x) = frm P := rfl
theorem frm_D (P : SP) (b p m : Nat) : frm (setDP P b p m) = frm P := rfl
theorem frm_un (C : CHt) (k : Nat) (P : SP) : frm (unP C k P) = frm P := by
  unfold unP
  split
  · rfl
  · split <;> rfl
theorem frm_dn (C : CHt) (P : SP) : ∀ m, frm (dnP C P m) = frm P
  | 0 => rfl
  | m + 1 => (frm_un C _ _).trans (frm_dn C P m)
theorem frm_is {P P' : SP} (h : frm P = frm P') : sW P = sW P' ∧ sN P = sN P' ∧ sX P = sX P' ∧ P.2.1 = P'.2.1 ∧ P.2.2.1 = P'.2.2.1 ∧ P.2.2.2.1 = P'.2.2.2.1 ∧ P.2.2.2.2.1 = P'.2.2.2.2.1 ∧ bN (sB P) = bN (sB P') ∧ bL (sB P) = bL (sB P') ∧ bH (sB P) = bH (sB P') :=
  ⟨congrArg (fun q : FRt => q.1.1) h, congrArg (fun q : FRt => q.1.2.1) h, congrArg (fun q : FRt => q.1.2.2) h, congrArg (fun q : FRt => q.2.1) h, congrArg (fun q : FRt => q.2.2.1) h, congrArg (fun q : FRt => q.2.2.2.1) h, congrArg (fun q : FRt => q.2.2.2.2.1) h, congrArg (fun q : FRt => q.2.2.2.2.2.1) h, congrArg (fun q : FRt => q.2.2.2.2.2.2.1) h, congrArg (fun q : FRt => q.2.2.2.2.2.2.2) h⟩
/-- changes that can be taken back on this street -/
def WCh (P : SP) (C : CHt) : Prop := C.1 ≤ 20 ∧ ∀ k, k < C.1 → cK C k ≤ 2 ∧ (cK C k = 0 → cW C k < sN P ∧ 1 ≤ cS C k ∧ cS C k ≤ 99) ∧ (cK C k = 1 → cW C k < bN (sB P) ∧ cS C k + bL (sB P) (cW C k) ≤ sW P) ∧ (cK C k = 2 → cW C k < bN (sB P) ∧ cA C k < bL (sB P) (cW C k) ∧ cS C k ≤ 99)
theorem WCh.of {P P' : SP} {C : CHt} (h : WCh P C) (e : frm P' = frm P) : WCh P' C := by
  obtain ⟨e1, e2, e3, e4, e5, e6, e7, e8, e9, e10⟩ := frm_is e
  unfold WCh at h ⊢
  rw [e1, e2, e8, e9]
  exact h
theorem setH_WS {P : SP} {p v : Nat} (hP : WS P) (hv : 1 ≤ v ∧ v ≤ 99) : WS (setH P p v) := by
  obtain ⟨h1, h2, h3, h4⟩ := hP
  refine ⟨h1, h2, fun q hq => ?_, h4⟩
  show sX P q < sW P ∧ 1 ≤ pt1 (sH P) p v q ∧ pt1 (sH P) p v q ≤ 99
  by_cases c : q = p
  · rw [c, pt1_s]; exact ⟨by rw [← c]; exact (h3 q hq).1, hv⟩
  · rw [pt1_o c]; exact h3 q hq
theorem setXb_WB {W : Nat} {B : BM} {b x : Nat} (h : WB W B) (hx : x + bL B b ≤ W) : WB W (setXb B b x) := by
  refine ⟨h.1, fun c hc => ?_⟩
  obtain ⟨q1, q2, q3⟩ := h.2 c hc
  refine ⟨⟨q1.1, q1.2.1, ?_⟩, q2, q3⟩
  show pt1 (bX B) b x c + bL B c ≤ W
  by_cases k : c = b
  · rw [k, pt1_s]; exact hx
  · rw [pt1_o k]; exact q1.2.2
theorem un_WS {P : SP} {C : CHt} {k : Nat} (hP : WS P) (hD : DX P) (hC : WCh P C) (hk : k < C.1) : WS (unP C k P) ∧ DX (unP C k P) := by
  obtain ⟨h1, h2, h3, h4⟩ := hC.2 k hk
  unfold unP
  by_cases c0 : cK C k = 0
  · rw [if_pos c0]
    have q := h2 c0
    exact ⟨setH_WS hP q.2, hD⟩
  · rw [if_neg c0]
    by_cases c1 : cK C k = 1
    · rw [if_pos c1]
      have q := h3 c1
      exact ⟨setB_WS hP (setXb_WB hP.B q.2), hD⟩
    · rw [if_neg c1]
      have q := h4 (by omega)
      exact ⟨setB_WS hP (setD_WB hP.B q.2.2), hD⟩
theorem dn_WS {P : SP} {C : CHt} (hP : WS P) (hD : DX P) (hC : WCh P C) : ∀ m, m ≤ C.1 → WS (dnP C P m) ∧ DX (dnP C P m)
  | 0, _ => ⟨hP, hD⟩
  | m + 1, h => by
    obtain ⟨i1, i2⟩ := dn_WS hP hD hC m (by omega)
    exact un_WS i1 i2 (hC.of (frm_dn C P m)) (by omega)
theorem pt1_back {f : Nat → Nat} {k x : Nat} : pt1 (pt1 f k x) k (f k) = f := by
  funext j
  by_cases c : j = k
  · rw [c, pt1_s]
  · rw [pt1_o c, pt1_o c]
theorem setH_back (P : SP) (p v : Nat) : setH (setH P p v) p (sH P p) = P := by
  show ((sW P, sN P, sX P, pt1 (pt1 (sH P) p v) p (sH P p)), P.2) = P
  rw [pt1_back]
theorem setX_back (P : SP) (b x : Nat) : setXP (setXP P b x) b (bX (sB P) b) = P := by
  show setB P (bN (sB P), pt1 (pt1 (bX (sB P)) b x) b (bX (sB P) b), bL (sB P), bH (sB P), bD (sB P)) = P
  rw [pt1_back]
  rfl
theorem setDP_back (P : SP) (b p m : Nat) : setDP (setDP P b p m) b p (bD (sB P) b p) = P := by
  show setB P (setD (setD (sB P) b p m) b p (bD (sB P) b p)) = P
  rw [setD_back]
  rfl
theorem un_old {C : CHt} {k w a v j : Nat} (hj : j < C.1) (P : SP) : unP (chW C k w a v) j P = unP C j P := by
  have e1 : cK (chW C k w a v) j = cK C j := pt1_o (by omega)
  have e2 : cW (chW C k w a v) j = cW C j := pt1_o (by omega)
  have e3 : cA (chW C k w a v) j = cA C j := pt1_o (by omega)
  have e4 : cS (chW C k w a v) j = cS C j := pt1_o (by omega)
  unfold unP
  rw [e1, e2, e3, e4]
theorem dn_new {C : CHt} {k w a v : Nat} {P P' : SP} (hb : unP (chW C k w a v) C.1 P' = P) : ∀ m, m ≤ C.1 → dnP (chW C k w a v) P' (m + 1) = dnP C P m
  | 0, _ => by
    show unP (chW C k w a v) (C.1 + 1 - 1 - 0) P' = P
    rw [show C.1 + 1 - 1 - 0 = C.1 by omega]; exact hb
  | m + 1, h => by
    show unP (chW C k w a v) (C.1 + 1 - 1 - (m + 1)) (dnP (chW C k w a v) P' (m + 1)) = unP C (C.1 - 1 - m) (dnP C P m)
    rw [dn_new hb m (by omega), show C.1 + 1 - 1 - (m + 1) = C.1 - 1 - m by omega, un_old (by omega)]
theorem un_new (C : CHt) (k w a v : Nat) (P : SP) : unP (chW C k w a v) C.1 P = if k = 0 then setH P w v else if k = 1 then setXP P w v else setDP P w a v := by
  have e1 : cK (chW C k w a v) C.1 = k := pt1_s _ _ _
  have e2 : cW (chW C k w a v) C.1 = w := pt1_s _ _ _
  have e3 : cA (chW C k w a v) C.1 = a := pt1_s _ _ _
  have e4 : cS (chW C k w a v) C.1 = v := pt1_s _ _ _
  unfold unP
  rw [e1, e2, e3, e4]
theorem dn_less {C : CHt} {P : SP} : ∀ m, dnP (C.1 - 1, C.2) (dnP C P 1) m = dnP C P (m + 1)
  | 0 => rfl
  | m + 1 => by
    show unP (C.1 - 1, C.2) (C.1 - 1 - 1 - m) (dnP (C.1 - 1, C.2) (dnP C P 1) m) = unP C (C.1 - 1 - (m + 1)) (dnP C P (m + 1))
    rw [dn_less m, show C.1 - 1 - 1 - m = C.1 - 1 - (m + 1) by omega]
    rfl
theorem WCh.new {P P' : SP} {C : CHt} {k w a v : Nat} (h : WCh P C) (hc : C.1 < 20) (e : frm P' = frm P) (hk : k ≤ 2) (h0 : k = 0 → w < sN P ∧ 1 ≤ v ∧ v ≤ 99) (h1 : k = 1 → w < bN (sB P) ∧ v + bL (sB P) w ≤ sW P) (h2 : k = 2 → w < bN (sB P) ∧ a < bL (sB P) w ∧ v ≤ 99) : WCh P' (chW C k w a v) := by
  refine WCh.of (P := P) ⟨hc, fun j hj => ?_⟩ e
  have hj' : j < C.1 + 1 := hj
  show pt1 (cK C) C.1 k j ≤ 2 ∧ (pt1 (cK C) C.1 k j = 0 → pt1 (cW C) C.1 w j < sN P ∧ 1 ≤ pt1 (cS C) C.1 v j ∧ pt1 (cS C) C.1 v j ≤ 99) ∧ (pt1 (cK C) C.1 k j = 1 → pt1 (cW C) C.1 w j < bN (sB P) ∧ pt1 (cS C) C.1 v j + bL (sB P) (pt1 (cW C) C.1 w j) ≤ sW P) ∧ (pt1 (cK C) C.1 k j = 2 → pt1 (cW C) C.1 w j < bN (sB P) ∧ pt1 (cA C) C.1 a j < bL (sB P) (pt1 (cW C) C.1 w j) ∧ pt1 (cS C) C.1 v j ≤ 99)
  by_cases c : j = C.1
  · rw [c, pt1_s, pt1_s, pt1_s, pt1_s]; exact ⟨hk, h0, h1, h2⟩
  · rw [pt1_o c, pt1_o c, pt1_o c, pt1_o c]; exact h.2 j (by omega)
theorem WCh.less {P P' : SP} {C : CHt} (h : WCh P C) (e : frm P' = frm P) : WCh P' (C.1 - 1, C.2) := by
  refine WCh.of (P := P) ⟨by have := h.1; show C.1 - 1 ≤ 20; omega, fun j hj => ?_⟩ e
  have hj' : j < C.1 - 1 := hj
  exact h.2 j (by omega)
/-- how the class holds them at a -/
def CCh (E : Mm) (a : Nat) (C : CHt) : Prop := E a 4 = (C.1 : Int) ∧ ∀ k, k < C.1 → E (a + 1) k = (cK C k : Int) ∧ E (a + 2) k = (cW C k : Int) ∧ E (a + 3) k = (cA C k : Int) ∧ E (a + 4) k = (cS C k : Int)
theorem CCh.fr {E E1 : Mm} {a : Nat} {C : CHt} (h : CCh E a C) (hf : ∀ q, a ≤ q → q ≤ a + 4 → E1 q = E q) : CCh E1 a C := by
  unfold CCh at h ⊢
  rw [hf a (by omega) (by omega), hf (a + 1) (by omega) (by omega), hf (a + 2) (by omega) (by omega), hf (a + 3) (by omega) (by omega), hf (a + 4) (by omega) (by omega)]
  exact h
/-- a change noted -/
def noteE (E : Mm) (c : Nat) (k w a v : Int) : Mm := wr (wr (wr (wr (wr E 25 c k) 26 c w) 27 c a) 28 c v) 24 4 ((c + 1 : Nat) : Int)
theorem note_CCh {E : Mm} {C : CHt} {k w a v : Nat} (h : CCh E 24 C) : CCh (noteE E C.1 (k : Int) (w : Int) (a : Int) (v : Int)) 24 (chW C k w a v) := by
  unfold noteE
  refine ⟨by rw [wr_s]; rfl, fun j hj => ?_⟩
  have hj' : j < C.1 + 1 := hj
  show _ = ((pt1 (cK C) C.1 k j : Nat) : Int) ∧ _ = ((pt1 (cW C) C.1 w j : Nat) : Int) ∧ _ = ((pt1 (cA C) C.1 a j : Nat) : Int) ∧ _ = ((pt1 (cS C) C.1 v j : Nat) : Int)
  by_cases c : j = C.1
  · rw [c, pt1_s, pt1_s, pt1_s, pt1_s]
    refine ⟨?_, ?_, ?_, ?_⟩ <;> simp (disch := omega) only [wr_o, wr_s]
  · rw [pt1_o c, pt1_o c, pt1_o c, pt1_o c]
    have := h.2 j (by omega)
    refine ⟨?_, ?_, ?_, ?_⟩
    · simp (disch := omega) only [wr_o]; exact this.1
    · simp (disch := omega) only [wr_o]; exact this.2.1
    · simp (disch := omega) only [wr_o]; exact this.2.2.1
    · simp (disch := omega) only [wr_o]; exact this.2.2.2
theorem note_row {E : Mm} {c q : Nat} {k w a v : Int} (h : ¬ (24 ≤ q ∧ q ≤ 28)) : noteE E c k w a v q = E q := by
  unfold noteE
  rw [wr_row (by omega), wr_row (by omega), wr_row (by omega), wr_row (by omega), wr_row (by omega)]
/-- how the class holds an image at a: of a street, a day, changes -/
def CIm (E : Mm) (a : Nat) (P : SP) (d : Nat) (C : CHt) : Prop := (∀ p, p < sN P → E (a + 1) p = (sH P p : Int)) ∧ (∀ b, b < bN (sB P) → E (a + 2) b = (bX (sB P) b : Int) ∧ ∀ p, p < bL (sB P) b → E (a + 3) (b * 20 + p) = (bD (sB P) b p : Int)) ∧ E a 4 = (d : Int) ∧ CCh E (a + 4) C
theorem CIm.fr {E E1 : Mm} {a d : Nat} {P : SP} {C : CHt} (h : CIm E a P d C) (hf : ∀ q, a ≤ q → q ≤ a + 8 → E1 q = E q) : CIm E1 a P d C := by
  obtain ⟨h1, h2, h3, h4⟩ := h
  refine ⟨fun p hp => ?_, fun b hb => ?_, ?_, h4.fr (fun q k1 k2 => hf q (by omega) (by omega))⟩
  · rw [hf (a + 1) (by omega) (by omega)]; exact h1 p hp
  · rw [hf (a + 2) (by omega) (by omega), hf (a + 3) (by omega) (by omega)]; exact h2 b hb
  · rw [hf a (by omega) (by omega)]; exact h3
theorem CS.setH {E : Mm} {s p v : Nat} {P : SP} (h : CS E s P) (hp : p < sN P) : CS (wr E (s + 2) p (v : Int)) s (setH P p v) := by
  obtain ⟨h1, h2, h3, h4, h5, h6, h7, h8, h9, h10, h11, h12⟩ := h
  refine ⟨?_, ?_, fun q hq => ?_, ?_, ?_, ?_, ?_, ?_, ?_, ?_, ?_, h12.fr (fun q a b => wr_row (by omega))⟩
  · rw [wr_o (by omega)]; exact h1
  · rw [wr_o (by omega)]; exact h2
  · show _ = (sX P q : Int) ∧ _ = ((pt1 (sH P) p v q : Nat) : Int)
    refine ⟨by rw [wr_o (by omega)]; exact (h3 q hq).1, ?_⟩
    by_cases c : q = p
    · rw [c, wr_s, pt1_s]
    · rw [wr_o (Or.inr c), pt1_o c]; exact (h3 q hq).2
  · rw [wr_o (by omega)]; exact h4
  · intro t ht; rw [wr_o (by omega), wr_o (by omega)]; exact h5 t ht
  · rw [wr_o (by omega)]; exact h6
  · intro m hm; rw [wr_o (by omega), wr_o (by omega), wr_o (by omega)]; exact h7 m hm
  · rw [wr_o (by omega)]; exact h8
  · rw [wr_o (by omega)]; exact h9
  · rw [wr_o (by omega)]; exact h10
  · rw [wr_o (by omega)]; exact h11
theorem CB.setX {E : Mm} {a b x : Nat} {B : BM} (h : CB E a B) : CB (wr E (a + 1) b (x : Int)) a (setXb B b x) := by
  refine ⟨by rw [wr_o (by omega)]; exact h.1, fun c hc => ?_⟩
  obtain ⟨q1, q2, q3, q4, q5, q6⟩ := h.2 c hc
  refine ⟨?_, ?_, ?_, fun p hp => ?_, ?_, ?_⟩
  · show _ = ((pt1 (bX B) b x c : Nat) : Int)
    by_cases k : c = b
    · rw [k, wr_s, pt1_s]
    · rw [wr_o (Or.inr k), pt1_o k]; exact q1
  · rw [wr_o (by omega)]; exact q2
  · rw [wr_o (by omega)]; exact q3
  · rw [wr_o (by omega)]; exact q4 p hp
  · rw [wr_o (by omega)]; exact q5
  · rw [wr_o (by omega)]; exact q6
/-- a street whose beams alone are other ones -/
theorem CS.newB {E E1 : Mm} {s : Nat} {P : SP} {B : BM} (h : CS E s P) (hq : ∀ q, s ≤ q → q ≤ s + 7 → E1 q = E q) (hb : CB E1 (s + 8) B) : CS E1 s (setB P B) :=
  ⟨by rw [hq s (by omega) (by omega)]; exact h.1, by rw [hq s (by omega) (by omega)]; exact h.2.1, by rw [hq (s + 1) (by omega) (by omega), hq (s + 2) (by omega) (by omega)]; exact h.2.2.1, by rw [hq s (by omega) (by omega)]; exact h.2.2.2.1, by rw [hq (s + 3) (by omega) (by omega), hq (s + 4) (by omega) (by omega)]; exact h.2.2.2.2.1, by rw [hq s (by omega) (by omega)]; exact h.2.2.2.2.2.1, by rw [hq (s + 5) (by omega) (by omega), hq (s + 6) (by omega) (by omega), hq (s + 7) (by omega) (by omega)]; exact h.2.2.2.2.2.2.1, by rw [hq s (by omega) (by omega)]; exact h.2.2.2.2.2.2.2.1, by rw [hq s (by omega) (by omega)]; exact h.2.2.2.2.2.2.2.2.1, by rw [hq s (by omega) (by omega)]; exact h.2.2.2.2.2.2.2.2.2.1, by rw [hq s (by omega) (by omega)]; exact h.2.2.2.2.2.2.2.2.2.2.1, hb⟩
theorem CS.setX {E : Mm} {s b x : Nat} {P : SP} (h : CS E s P) : CS (wr E (s + 9) b (x : Int)) s (setXP P b x) := h.newB (fun q k1 k2 => wr_row (by omega)) (show CB (wr E (s + 8 + 1) b (x : Int)) (s + 8) (setXb (sB P) b x) from h.B.setX)
