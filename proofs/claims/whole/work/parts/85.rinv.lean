/-! the reference between calls -/
def RBk (E : Mm) (K : LN) : Prop := E 125 44 = (K.1 : Int) ∧ ∀ i, i < K.1 → E (615 + i) 0 = (K.2.1 i : Int) ∧ E (615 + i) 1 = (K.2.2.1 i : Int)
def RXI (E : Mm) (Q : RX) (P : SP) (L : LW) (T K : LN) (d st : Nat) : Prop := RTS E P Q ∧ RLw E L ∧ RKn E L st ∧ RMv E T ∧ RBk E K ∧ E 125 45 = (d : Int)
/-- what a street, a law, moves, a book are at all -/
def WF (P : SP) (L : LW) (T K : LN) (d st : Nat) : Prop := WS P ∧ DX P ∧ WL L ∧ WT (sW P) (sB P) T ∧ WK P K ∧ d < 400 ∧ st < 1000000
/-- told as before, where what is told is as before -/
theorem RTS.frN {E E1 : Mm} {P : SP} {Q : RX} (h : RTS E P Q) (hf : ∀ q, q = 129 ∨ (142 ≤ q ∧ q < 142 + sN P ∧ sN P ≤ 10) ∨ (167 ≤ q ∧ q ≤ 178) ∨ (184 ≤ q ∧ q ≤ 186) ∨ (195 ≤ q ∧ q ≤ 200) ∨ (209 ≤ q ∧ q < 209 + sLn P ∧ sLn P ≤ 6) ∨ (228 ≤ q ∧ q ≤ 235) ∨ (246 ≤ q ∧ q ≤ 253) → E1 q = E q) (hP : WS P) : RTS E1 P Q := by
  obtain ⟨h1, h2, h3, h4, h5, h6, h7⟩ := h
  have hN := hP.N
  have hM := hP.M
  have hC := hP.Cn
  have hL := hP.Ln
  have hB := hP.B.N
  refine ⟨?_, fun p hp => ?_, ⟨h3.1, fun k hk => ?_, h3.2.2⟩, fun m hm => ?_, ⟨fun k hk => ?_, h5.2⟩, ⟨fun k hk => ?_, h6.2⟩, fun b hb => ?_⟩
  · unfold RTo at h1 ⊢
    rw [hf 129 (by omega)]
    exact h1
  · rw [hf (142 + p) (by omega)]; exact h2 p hp
  · have := h3.1
    rw [hf (167 + k) (by omega)]; exact h3.2.1 k hk
  · rw [hf (184 + m) (by omega)]; exact h4 m hm
  · rw [hf (195 + k) (by omega)]; exact h5.1 k hk
  · rw [hf (209 + k) (by omega)]; exact h6.1 k hk
  · rw [hf (228 + b) (by omega), hf (246 + b) (by omega)]; exact h7 b hb
/-- only what the reference works out anew has changed -/
def RXF (P : SP) (E E1 : Mm) : Prop := (∀ q, ¬ (q = 125 ∨ q = 127 ∨ (142 + sN P ≤ q ∧ q ≤ 152) ∨ (209 + sLn P ≤ q ∧ q ≤ 217) ∨ (576 ≤ q ∧ q ≤ 579) ∨ (658 ≤ q ∧ q ≤ 812)) → E1 q = E q) ∧ ∀ k, ¬ (k = 0 ∨ (52 ≤ k ∧ k ≤ 54) ∨ k = 60 ∨ k = 62 ∨ k = 63) → E1 125 k = E 125 k
theorem RXF.rf {P : SP} {E : Mm} : RXF P E E := ⟨fun _ _ => rfl, fun _ _ => rfl⟩
theorem RXF.tr {P : SP} {E E1 E2 : Mm} (h : RXF P E E1) (h2 : RXF P E1 E2) : RXF P E E2 := ⟨fun q hq => (h2.1 q hq).trans (h.1 q hq), fun k hk => (h2.2 k hk).trans (h.2 k hk)⟩
section
variable {E E1 : Mm} {Q : RX} {P : SP} {L : LW} {T K : LN} {d st : Nat}
theorem RXI.fr (h : RXI E Q P L T K d st) (hW : WF P L T K d st) (hf : RXF P E E1) (hK : RKn E1 L st) : RXI E1 Q P L T K d st := by
  obtain ⟨h1, h2, h3, h4, h5, h6⟩ := h
  obtain ⟨f1, f2⟩ := hf
  have hL := hW.2.2.1.2.1
  have hT := hW.2.2.2.1.1
  have hKb := hW.2.2.2.2.1.1
  refine ⟨h1.frN (fun q hq => f1 q (by omega)) hW.1, h2.fr hL (f2 28 (by omega)) (fun q a b => f1 q (by omega)), hK, ⟨(f2 43 (by omega)).trans h4.1, fun i hi => ?_⟩, ⟨(f2 44 (by omega)).trans h5.1, fun i hi => ?_⟩, (f2 45 (by omega)).trans h6⟩
  · rw [f1 (581 + i) (by omega)]; exact h4.2 i hi
  · rw [f1 (615 + i) (by omega)]; exact h5.2 i hi
/-- said as before, where nothing is said -/
theorem RKn.fr (h : RKn E L st) (h0 : E1 125 30 = E 125 30) (h1 : E1 578 = E 578) (h2 : E1 579 = E 579) : RKn E1 L st := by
  unfold RKn at h ⊢
  rw [h0, h1, h2]
  exact h
end
def gDay (P : SP) (L : LW) (dy : Nat) : GP := gOf P (moonP P dy) L
/-- as told: posts, lamps, clouds -/
theorem told_G {E E1 : Mm} {P : SP} {Q : RX} {mo : Int} {L : LW} (h : RTS E P Q) (hP : WS P) (h52 : E1 125 52 = (sN P : Int)) (h53 : E1 125 53 = (sLn P : Int)) (h54 : E1 125 54 = (mk (sC P) 24 : Nat)) (hf : ∀ q, (142 ≤ q ∧ q ≤ 151) ∨ (209 ≤ q ∧ q ≤ 214) → E1 q = E q) : RPg E1 (gOf P mo L) ∧ RLg E1 (gOf P mo L) (sLn P) (xLx Q) (xLr Q) ∧ E1 125 54 = (mk (gC (gOf P mo L)) 24 : Nat) := by
  have hN := hP.N
  have hL := hP.Ln
  refine ⟨⟨h52, fun p hp => ?_⟩, ⟨h53, by omega, fun k hk => ?_, fun c hc => ?_⟩, h54⟩
  · have hp' : p < sN P := hp
    rw [hf (142 + p) (by omega)]
    exact ⟨(h.2.1 p hp').2, Or.inl (h.2.1 p hp').1⟩
  · rw [hf (209 + k) (by omega)]
    exact h.2.2.2.2.2.1.1 k hk
  · have hc' : c < sW P := hc
    have := hP.W
    exact h.2.2.2.2.2.1.2 c (by omega)
