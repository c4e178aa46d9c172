/-! how the class holds a street, beams, a law, rows of numbers -/
abbrev SP : Type := (Nat × Nat × (Nat → Nat) × (Nat → Nat)) × (Nat × (Nat → Int) × (Nat → Bool)) × (Nat × (Nat → Nat) × (Nat → Nat) × (Nat → Nat)) × (Nat × (Nat → Bool)) × (Nat × (Nat → Bool)) × BM
abbrev sW (P : SP) : Nat := P.1.1
abbrev sN (P : SP) : Nat := P.1.2.1
abbrev sX (P : SP) : Nat → Nat := P.1.2.2.1
abbrev sH (P : SP) : Nat → Nat := P.1.2.2.2
abbrev sDk (P : SP) : Nat := P.2.1.1
abbrev sSl (P : SP) : Nat → Int := P.2.1.2.1
abbrev sSw (P : SP) : Nat → Bool := P.2.1.2.2
abbrev sM (P : SP) : Nat := P.2.2.1.1
abbrev sMb (P : SP) : Nat → Nat := P.2.2.1.2.1
abbrev sMl (P : SP) : Nat → Nat := P.2.2.1.2.2.1
abbrev sMn (P : SP) : Nat → Nat := P.2.2.1.2.2.2
abbrev sCn (P : SP) : Nat := P.2.2.2.1.1
abbrev sC (P : SP) : Nat → Bool := P.2.2.2.1.2
abbrev sLn (P : SP) : Nat := P.2.2.2.2.1.1
abbrev sLc (P : SP) : Nat → Bool := P.2.2.2.2.1.2
abbrev sB (P : SP) : BM := P.2.2.2.2.2
def WS (P : SP) : Prop := (4 ≤ sW P ∧ sW P ≤ 40) ∧ sN P ≤ 10 ∧ (∀ p, p < sN P → sX P p < sW P ∧ 1 ≤ sH P p ∧ sH P p ≤ 99) ∧ (1 ≤ sDk P ∧ sDk P ≤ 24) ∧ (∀ h, h < 24 → -1 ≤ sSl P h ∧ sSl P h ≤ 99) ∧ sM P ≤ 3 ∧ (∀ m, m < sM P → (1 ≤ sMb P m ∧ sMb P m ≤ 60) ∧ sMl P m < sMb P m ∧ 1 ≤ sMn P m ∧ sMn P m ≤ 99) ∧ sCn P ≤ 6 ∧ sLn P ≤ 6 ∧ WB (sW P) (sB P)
/-- beams at a -/
def CB (E : Mm) (a : Nat) (B : BM) : Prop := E a 6 = (bN B : Int) ∧ (∀ b, b < bN B → E (a + 1) b = (bX B b : Int) ∧ E (a + 2) b = (bL B b : Int) ∧ E (a + 3) b = (bH B b : Int) ∧ (∀ p, p < bL B b → E (a + 4) (b * 20 + p) = (bD B b p : Int)) ∧ E (a + 5) b = (onL B b : Int) ∧ E (a + 6) b = (onR B b : Int))
/-- the street at s -/
def CS (E : Mm) (s : Nat) (P : SP) : Prop := E s 8 = (sW P : Int) ∧ E s 10 = (sN P : Int) ∧ (∀ p, p < sN P → E (s + 1) p = (sX P p : Int) ∧ E (s + 2) p = (sH P p : Int)) ∧ E s 9 = (sDk P : Int) ∧ (∀ h, h < 24 → E (s + 3) h = sSl P h ∧ (¬ sSl P h = -1 → E (s + 4) h = if sSw P h then 1 else 0)) ∧ E s 12 = (sM P : Int) ∧ (∀ m, m < sM P → E (s + 5) m = (sMb P m : Int) ∧ E (s + 6) m = (sMl P m : Int) ∧ E (s + 7) m = (sMn P m : Int)) ∧ E s 13 = (sCn P : Int) ∧ E s 15 = (mk (sC P) 24 : Int) ∧ E s 14 = (sLn P : Int) ∧ E s 16 = (mk (sLc P) 50 : Int) ∧ CB E (s + 8) (sB P)
/-- the law at a -/
def CL (E : Mm) (a : Nat) (L : LW) : Prop := E a 3 = (L.1 : Int) ∧ ∀ i, i < L.1 → E (a + 1) i = L.2.1 i ∧ E (a + 2) i = L.2.2 i
/-- rows of three numbers: how many, first, second, third -/
abbrev LN : Type := Nat × (Nat → Nat) × (Nat → Nat) × (Nat → Nat)
def CN (E : Mm) (a : Nat) (T : LN) : Prop := E a 3 = (T.1 : Int) ∧ ∀ i, i < T.1 → E (a + 1) i = (T.2.1 i : Int) ∧ E (a + 2) i = (T.2.2.1 i : Int) ∧ E (a + 3) i = (T.2.2.2 i : Int)
theorem CB.fr {E E1 : Mm} {a : Nat} {B : BM} (h : CB E a B) (hf : ∀ q, a ≤ q → q ≤ a + 6 → E1 q = E q) : CB E1 a B := by
  unfold CB at h ⊢
  rw [hf a (by omega) (by omega), hf (a + 1) (by omega) (by omega), hf (a + 2) (by omega) (by omega), hf (a + 3) (by omega) (by omega), hf (a + 4) (by omega) (by omega), hf (a + 5) (by omega) (by omega), hf (a + 6) (by omega) (by omega)]
  exact h
theorem CS.fr {E E1 : Mm} {s : Nat} {P : SP} (h : CS E s P) (hf : ∀ q, s ≤ q → q ≤ s + 14 → E1 q = E q) : CS E1 s P := by
  unfold CS at h ⊢
  rw [hf s (by omega) (by omega), hf (s + 1) (by omega) (by omega), hf (s + 2) (by omega) (by omega), hf (s + 3) (by omega) (by omega), hf (s + 4) (by omega) (by omega), hf (s + 5) (by omega) (by omega), hf (s + 6) (by omega) (by omega), hf (s + 7) (by omega) (by omega)]
  obtain ⟨h1, h2, h3, h4, h5, h6, h7, h8, h9, h10, h11, h12⟩ := h
  exact ⟨h1, h2, h3, h4, h5, h6, h7, h8, h9, h10, h11, h12.fr (fun q a b => hf q (by omega) (by omega))⟩
theorem CL.fr {E E1 : Mm} {a : Nat} {L : LW} (h : CL E a L) (hf : ∀ q, a ≤ q → q ≤ a + 2 → E1 q = E q) : CL E1 a L := by
  unfold CL at h ⊢
  rw [hf a (by omega) (by omega), hf (a + 1) (by omega) (by omega), hf (a + 2) (by omega) (by omega)]
  exact h
theorem CN.fr {E E1 : Mm} {a : Nat} {T : LN} (h : CN E a T) (hf : ∀ q, a ≤ q → q ≤ a + 3 → E1 q = E q) : CN E1 a T := by
  unfold CN at h ⊢
  rw [hf a (by omega) (by omega), hf (a + 1) (by omega) (by omega), hf (a + 2) (by omega) (by omega), hf (a + 3) (by omega) (by omega)]
  exact h
section
variable {E : Mm} {sa ad : Nat} {P : SP} {Bm : BM} {Lw : LW} {T : LN}
theorem CS.W (h : CS E sa P) : E sa 8 = (sW P : Int) := h.1
theorem CS.N (h : CS E sa P) : E sa 10 = (sN P : Int) := h.2.1
theorem CS.X (h : CS E sa P) {p : Nat} (hp : p < sN P) : E (sa + 1) p = (sX P p : Int) := (h.2.2.1 p hp).1
theorem CS.H (h : CS E sa P) {p : Nat} (hp : p < sN P) : E (sa + 2) p = (sH P p : Int) := (h.2.2.1 p hp).2
theorem CS.Dk (h : CS E sa P) : E sa 9 = (sDk P : Int) := h.2.2.2.1
theorem CS.Sl (h : CS E sa P) {t : Nat} (ht : t < 24) : E (sa + 3) t = sSl P t := (h.2.2.2.2.1 t ht).1
theorem CS.Sw (h : CS E sa P) {t : Nat} (ht : t < 24) (hn : ¬ sSl P t = -1) : E (sa + 4) t = if sSw P t then 1 else 0 := (h.2.2.2.2.1 t ht).2 hn
theorem CS.M (h : CS E sa P) : E sa 12 = (sM P : Int) := h.2.2.2.2.2.1
theorem CS.Mb (h : CS E sa P) {m : Nat} (hm : m < sM P) : E (sa + 5) m = (sMb P m : Int) := (h.2.2.2.2.2.2.1 m hm).1
theorem CS.Ml (h : CS E sa P) {m : Nat} (hm : m < sM P) : E (sa + 6) m = (sMl P m : Int) := (h.2.2.2.2.2.2.1 m hm).2.1
theorem CS.Mn (h : CS E sa P) {m : Nat} (hm : m < sM P) : E (sa + 7) m = (sMn P m : Int) := (h.2.2.2.2.2.2.1 m hm).2.2
theorem CS.Cn (h : CS E sa P) : E sa 13 = (sCn P : Int) := h.2.2.2.2.2.2.2.1
theorem CS.C (h : CS E sa P) : E sa 15 = (mk (sC P) 24 : Int) := h.2.2.2.2.2.2.2.2.1
theorem CS.Ln (h : CS E sa P) : E sa 14 = (sLn P : Int) := h.2.2.2.2.2.2.2.2.2.1
theorem CS.Lc (h : CS E sa P) : E sa 16 = (mk (sLc P) 50 : Int) := h.2.2.2.2.2.2.2.2.2.2.1
theorem CS.B (h : CS E sa P) : CB E (sa + 8) (sB P) := h.2.2.2.2.2.2.2.2.2.2.2
theorem CB.N (h : CB E ad Bm) : E ad 6 = (bN Bm : Int) := h.1
theorem CB.X (h : CB E ad Bm) {b : Nat} (hb : b < bN Bm) : E (ad + 1) b = (bX Bm b : Int) := (h.2 b hb).1
theorem CB.L (h : CB E ad Bm) {b : Nat} (hb : b < bN Bm) : E (ad + 2) b = (bL Bm b : Int) := (h.2 b hb).2.1
theorem CB.H (h : CB E ad Bm) {b : Nat} (hb : b < bN Bm) : E (ad + 3) b = (bH Bm b : Int) := (h.2 b hb).2.2.1
theorem CB.D (h : CB E ad Bm) {b p : Nat} (hb : b < bN Bm) (hp : p < bL Bm b) : E (ad + 4) (b * 20 + p) = (bD Bm b p : Int) := (h.2 b hb).2.2.2.1 p hp
theorem CB.l (h : CB E ad Bm) {b : Nat} (hb : b < bN Bm) : E (ad + 5) b = (onL Bm b : Int) := (h.2 b hb).2.2.2.2.1
theorem CB.r (h : CB E ad Bm) {b : Nat} (hb : b < bN Bm) : E (ad + 6) b = (onR Bm b : Int) := (h.2 b hb).2.2.2.2.2
theorem CL.n (h : CL E ad Lw) : E ad 3 = (Lw.1 : Int) := h.1
theorem CL.s (h : CL E ad Lw) {i : Nat} (hi : i < Lw.1) : E (ad + 1) i = Lw.2.1 i := (h.2 i hi).1
theorem CL.v (h : CL E ad Lw) {i : Nat} (hi : i < Lw.1) : E (ad + 2) i = Lw.2.2 i := (h.2 i hi).2
theorem CN.n (h : CN E ad T) : E ad 3 = (T.1 : Int) := h.1
theorem CN.a (h : CN E ad T) {i : Nat} (hi : i < T.1) : E (ad + 1) i = (T.2.1 i : Int) := (h.2 i hi).1
theorem CN.b (h : CN E ad T) {i : Nat} (hi : i < T.1) : E (ad + 2) i = (T.2.2.1 i : Int) := (h.2 i hi).2.1
theorem CN.c (h : CN E ad T) {i : Nat} (hi : i < T.1) : E (ad + 3) i = (T.2.2.2 i : Int) := (h.2 i hi).2.2
theorem WS.W (h : WS P) : 4 ≤ sW P ∧ sW P ≤ 40 := h.1
theorem WS.N (h : WS P) : sN P ≤ 10 := h.2.1
theorem WS.X (h : WS P) {p : Nat} (hp : p < sN P) : sX P p < sW P := (h.2.2.1 p hp).1
theorem WS.H (h : WS P) {p : Nat} (hp : p < sN P) : 1 ≤ sH P p ∧ sH P p ≤ 99 := (h.2.2.1 p hp).2
theorem WS.Dk (h : WS P) : 1 ≤ sDk P ∧ sDk P ≤ 24 := h.2.2.2.1
theorem WS.Sl (h : WS P) {t : Nat} (ht : t < 24) : -1 ≤ sSl P t ∧ sSl P t ≤ 99 := h.2.2.2.2.1 t ht
theorem WS.M (h : WS P) : sM P ≤ 3 := h.2.2.2.2.2.1
theorem WS.Mb (h : WS P) {m : Nat} (hm : m < sM P) : 1 ≤ sMb P m ∧ sMb P m ≤ 60 := (h.2.2.2.2.2.2.1 m hm).1
theorem WS.Ml (h : WS P) {m : Nat} (hm : m < sM P) : sMl P m < sMb P m := (h.2.2.2.2.2.2.1 m hm).2.1
theorem WS.Mn (h : WS P) {m : Nat} (hm : m < sM P) : 1 ≤ sMn P m ∧ sMn P m ≤ 99 := (h.2.2.2.2.2.2.1 m hm).2.2
theorem WS.Cn (h : WS P) : sCn P ≤ 6 := h.2.2.2.2.2.2.2.1
theorem WS.Ln (h : WS P) : sLn P ≤ 6 := h.2.2.2.2.2.2.2.2.1
theorem WS.B (h : WS P) : WB (sW P) (sB P) := h.2.2.2.2.2.2.2.2.2
theorem WB.N {W : Nat} (h : WB W Bm) : bN Bm ≤ 8 := h.1
theorem WB.L {W b : Nat} (h : WB W Bm) (hb : b < bN Bm) : 2 ≤ bL Bm b ∧ bL Bm b ≤ 20 := ⟨(h.2 b hb).1.1, (h.2 b hb).1.2.1⟩
theorem WB.X {W b : Nat} (h : WB W Bm) (hb : b < bN Bm) : bX Bm b + bL Bm b ≤ W := (h.2 b hb).1.2.2
theorem WB.H {W b : Nat} (h : WB W Bm) (hb : b < bN Bm) : 1 ≤ bH Bm b ∧ bH Bm b ≤ 9 := (h.2 b hb).2.1
theorem WB.D {W b p : Nat} (h : WB W Bm) (hb : b < bN Bm) (hp : p < bL Bm b) : bD Bm b p ≤ 99 := (h.2 b hb).2.2 p hp
end
/-- the moon of a day: the first that fits, else -1 -/
def moonP (P : SP) (d : Nat) : Int := itr (fun m v => if v = -1 ∧ d % sMb P m = sMl P m then (m : Int) else v) (-1) (sM P)
/-- the hour whose sun counts, so far; -1 without one -/
def sunA (P : SP) (h : Nat) : Int := itr (fun t v => if sSl P t = -1 then v else (t : Int)) (-1) (h + 1)
def sunP (P : SP) (h : Nat) : Int := if h < sDk P then sunA P h else -1
def hasP (P : SP) (c : Nat) : Bool := itr (fun p v => v || decide (sX P p = c)) false (sN P)
