/-! how the reference holds a street, light and shade -/
/-- what the reference's lists hold: suns (how many, their hours), clouds (from, to), lamps (cells, reach) -/
abbrev RX : Type := (Nat × (Nat → Nat)) × ((Nat → Nat) × (Nat → Nat)) × ((Nat → Nat) × (Nat → Nat))
abbrev xNs (Q : RX) : Nat := Q.1.1
abbrev xTk (Q : RX) : Nat → Nat := Q.1.2
abbrev xCf (Q : RX) : Nat → Nat := Q.2.1.1
abbrev xCt (Q : RX) : Nat → Nat := Q.2.1.2
abbrev xLx (Q : RX) : Nat → Nat := Q.2.2.1
abbrev xLr (Q : RX) : Nat → Nat := Q.2.2.2
def clB (Q : RX) (h : Nat) : Nat → Bool := itr (fun j b => b || (decide (xCf Q j ≤ h) && decide (h ≤ xCt Q j))) false
def laB (lx lr : Nat → Nat) (c : Nat) : Nat → Bool := itr (fun j b => b || (decide (c ≤ lx j + lr j) && decide (lx j ≤ c + lr j))) false
/-- told: counts, posts, suns, moons, clouds, lamps, beams -/
def RTo (E : Mm) (P : SP) (Q : RX) : Prop := E 129 0 = (sW P : Int) ∧ E 129 1 = (sN P : Int) ∧ E 129 2 = (xNs Q : Int) ∧ E 129 3 = (sM P : Int) ∧ E 129 4 = (sCn P : Int) ∧ E 129 5 = (sLn P : Int) ∧ E 129 6 = (bN (sB P) : Int) ∧ E 129 7 = (sDk P : Int)
def RPo (E : Mm) (P : SP) : Prop := ∀ p, p < sN P → E (142 + p) 0 = (sX P p : Int) ∧ E (142 + p) 1 = (sH P p : Int)
def RSu (E : Mm) (P : SP) (Q : RX) : Prop := xNs Q ≤ 12 ∧ (∀ k, k < xNs Q → xTk Q k < 24 ∧ ¬ sSl P (xTk Q k) = -1 ∧ E (167 + k) 0 = (xTk Q k : Int) ∧ E (167 + k) 1 = (if sSw P (xTk Q k) then 1 else 0) ∧ E (167 + k) 2 = sSl P (xTk Q k)) ∧ ∀ t, t < 24 → ¬ sSl P t = -1 → ∃ k, k < xNs Q ∧ xTk Q k = t
def RMo (E : Mm) (P : SP) : Prop := ∀ m, m < sM P → E (184 + m) 0 = (sMb P m : Int) ∧ E (184 + m) 1 = (sMl P m : Int) ∧ E (184 + m) 2 = (sMn P m : Int)
def RCl (E : Mm) (P : SP) (Q : RX) : Prop := (∀ k, k < sCn P → E (195 + k) 0 = (xCf Q k : Int) ∧ E (195 + k) 1 = (xCt Q k : Int) ∧ xCf Q k ≤ xCt Q k ∧ xCt Q k < 24) ∧ ∀ h, h < 24 → sC P h = clB Q h (sCn P)
def RLa (E : Mm) (P : SP) (Q : RX) : Prop := (∀ k, k < sLn P → E (209 + k) 0 = (xLx Q k : Int) ∧ E (209 + k) 1 = (xLr Q k : Int) ∧ xLx Q k < 40 ∧ xLr Q k ≤ 9) ∧ ∀ c, c < 50 → sLc P c = laB (xLx Q) (xLr Q) c (sLn P)
def RBe (E : Mm) (B : BM) : Prop := ∀ b, b < bN B → E (228 + b) 0 = (bX B b : Int) ∧ E (228 + b) 1 = (bL B b : Int) ∧ E (228 + b) 2 = (bH B b : Int) ∧ ∀ p, p < bL B b → E (246 + b) p = (bD B b p : Int)
def RTS (E : Mm) (P : SP) (Q : RX) : Prop := RTo E P Q ∧ RPo E P ∧ RSu E P Q ∧ RMo E P ∧ RCl E P Q ∧ RLa E P Q ∧ RBe E (sB P)
theorem RTS.fr {E E1 : Mm} {P : SP} {Q : RX} (h : RTS E P Q) (hf : ∀ q, q = 129 ∨ (142 ≤ q ∧ q ≤ 151) ∨ (167 ≤ q ∧ q ≤ 178) ∨ (184 ≤ q ∧ q ≤ 186) ∨ (195 ≤ q ∧ q ≤ 200) ∨ (209 ≤ q ∧ q ≤ 214) ∨ (228 ≤ q ∧ q ≤ 235) ∨ (246 ≤ q ∧ q ≤ 253) → E1 q = E q) (hP : WS P) : RTS E1 P Q := by
  obtain ⟨h1, h2, h3, h4, h5, h6, h7⟩ := h
  have hN := hP.N
  have hM := hP.M
  have hC := hP.Cn
  have hL := hP.Ln
  have hB := hP.B.N
  refine ⟨?_, fun p hp => ?_, ⟨h3.1, fun k hk => ?_, h3.2.2⟩, fun m hm => ?_, ⟨fun k hk => ?_, h5.2⟩, ⟨fun k hk => ?_, h6.2⟩, fun b hb => ?_⟩
  · unfold RTo at h1 ⊢
    rw [hf 129 (by omega)]
    exact h1
  · rw [hf (142 + p) (by omega)]; exact h2 p hp
  · have := h3.1
    rw [hf (167 + k) (by omega)]; exact h3.2.1 k hk
  · rw [hf (184 + m) (by omega)]; exact h4 m hm
  · rw [hf (195 + k) (by omega)]; exact h5.1 k hk
  · rw [hf (209 + k) (by omega)]; exact h6.1 k hk
  · rw [hf (228 + b) (by omega), hf (246 + b) (by omega)]; exact h7 b hb
