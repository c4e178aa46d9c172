/-! the class between calls -/
def DX (P : SP) : Prop := ∀ p q, p < sN P → q < sN P → sX P p = sX P q → p = q
def WK (P : SP) (K : LN) : Prop := K.1 ≤ 8 ∧ ∀ i, i < K.1 → K.2.1 i < bN (sB P) ∧ K.2.2.1 i ≤ 24
/-- light and shade of the day that is -/
def gNow (P : SP) (L : LW) (d : Nat) : GP := gOf P (moonP P d) L
/-- the day that is, gone through -/
def FRS (E : Mm) (P : SP) (L : LW) (T : LN) (d : Nat) : Prop := CG E 30 (gNow P L d) ∧ CKd E 30 P (moonP P d) ∧ CDn E 48 (gNow P L d) (sB P) T 24
def CXI (E : Mm) (s : Nat) (P : SP) (L : LW) (T K : LN) (d : Nat) : Prop :=
  (s = 68 ∨ s = 83) ∧ E 0 15 = (s : Int) ∧ E 0 16 = ((151 - s : Nat) : Int) ∧ CS E s P ∧ WS P ∧ DX P ∧ CL E 4 L ∧ WL L ∧ CN E 12 T ∧ WT (sW P) (sB P) T ∧ CN E 16 K ∧ WK P K ∧ E 0 17 = (d : Int) ∧ d < 400 ∧ (E 0 19 = 1 ∨ (E 0 19 = 0 ∧ FRS E P L T d))
/-- only what is worked out anew has changed -/
def CXF (E E1 : Mm) : Prop := (∀ q, ¬ (q = 0 ∨ q = 7 ∨ (30 ≤ q ∧ q ≤ 67)) → E1 q = E q) ∧ ∀ k, k ≠ 19 → E1 0 k = E 0 k
theorem CXF.rf {E : Mm} : CXF E E := ⟨fun _ _ => rfl, fun _ _ => rfl⟩
theorem CXF.tr {E E1 E2 : Mm} (h : CXF E E1) (h2 : CXF E1 E2) : CXF E E2 := ⟨fun q hq => (h2.1 q hq).trans (h.1 q hq), fun k hk => (h2.2 k hk).trans (h.2 k hk)⟩
theorem CXF.of {E E1 : Mm} (h : ∀ q, ¬ (q = 7 ∨ (30 ≤ q ∧ q ≤ 67)) → E1 q = E q) : CXF E E1 := ⟨fun q hq => h q (by omega), fun k _ => by rw [h 0 (by omega)]⟩
theorem FRS.fr {E E1 : Mm} {P : SP} {L : LW} {T : LN} {d : Nat} (h : FRS E P L T d) (hf : ∀ q, 30 ≤ q → q ≤ 38 ∨ 48 ≤ q → q ≤ 52 → E1 q = E q) : FRS E1 P L T d :=
  ⟨h.1.fr (fun q h1 h2 _ => hf q h1 (Or.inl h2) (by omega)), by have := h.2.1; unfold CKd at this ⊢; rw [hf 33 (by decide) (by decide) (by decide)]; exact this, h.2.2.fr (fun q h1 h2 => hf q (by omega) (Or.inr h1) h2)⟩
section
variable {E E1 : Mm} {s d : Nat} {P : SP} {L : LW} {T K : LN}
theorem CXI.sa (h : CXI E s P L T K d) : s = 68 ∨ s = 83 := h.1
theorem CXI.now (h : CXI E s P L T K d) : E 0 15 = (s : Int) := h.2.1
theorem CXI.S (h : CXI E s P L T K d) : CS E s P := h.2.2.2.1
theorem CXI.WS (h : CXI E s P L T K d) : WS P := h.2.2.2.2.1
theorem CXI.DX (h : CXI E s P L T K d) : DX P := h.2.2.2.2.2.1
theorem CXI.Lw (h : CXI E s P L T K d) : CL E 4 L := h.2.2.2.2.2.2.1
theorem CXI.WL (h : CXI E s P L T K d) : WL L := h.2.2.2.2.2.2.2.1
theorem CXI.Tn (h : CXI E s P L T K d) : CN E 12 T := h.2.2.2.2.2.2.2.2.1
theorem CXI.WT (h : CXI E s P L T K d) : WT (sW P) (sB P) T := h.2.2.2.2.2.2.2.2.2.1
theorem CXI.Kn (h : CXI E s P L T K d) : CN E 16 K := h.2.2.2.2.2.2.2.2.2.2.1
theorem CXI.WK (h : CXI E s P L T K d) : WK P K := h.2.2.2.2.2.2.2.2.2.2.2.1
theorem CXI.dy (h : CXI E s P L T K d) : E 0 17 = (d : Int) := h.2.2.2.2.2.2.2.2.2.2.2.2.1
theorem CXI.dl (h : CXI E s P L T K d) : d < 400 := h.2.2.2.2.2.2.2.2.2.2.2.2.2.1
theorem CXI.st (h : CXI E s P L T K d) : E 0 19 = 1 ∨ (E 0 19 = 0 ∧ FRS E P L T d) := h.2.2.2.2.2.2.2.2.2.2.2.2.2.2
theorem CXI.B (h : CXI E s P L T K d) : CB E (s + 8) (sB P) := h.S.B
theorem CXI.fr (h : CXI E s P L T K d) (hf : CXF E E1) (hs : E1 0 19 = 1 ∨ (E1 0 19 = 0 ∧ FRS E1 P L T d)) : CXI E1 s P L T K d := by
  obtain ⟨f1, f2⟩ := hf
  have hs0 := h.sa
  exact ⟨h.sa, (f2 15 (by decide)).trans h.now, (f2 16 (by decide)).trans h.2.2.1, h.S.fr (fun q h1 h2 => f1 q (by omega)), h.WS, h.DX, h.Lw.fr (fun q h1 h2 => f1 q (by omega)), h.WL, h.Tn.fr (fun q h1 h2 => f1 q (by omega)), h.WT, h.Kn.fr (fun q h1 h2 => f1 q (by omega)), h.WK, (f2 17 (by decide)).trans h.dy, h.dl, hs⟩
/-- a call that fills what the ground of the day knows -/
theorem CXI.known (h : CXI E s P L T K d) (hF : FRS E P L T d) (hg : CG E1 30 (gNow P L d)) (hq : ∀ q, q ≠ 30 + 8 → q ≠ 7 → E1 q = E q) : CXI E1 s P L T K d ∧ FRS E1 P L T d ∧ CXF E E1 := by
  have hF1 : FRS E1 P L T d := ⟨hg, by have := hF.2.1; unfold CKd at this ⊢; rw [hq (30 + 3) (by decide) (by decide)]; exact this, hF.2.2.fr (fun q h1 h2 => hq q (by omega) (by omega))⟩
  have hX : CXF E E1 := CXF.of (fun q h1 => hq q (by omega) (by omega))
  refine ⟨h.fr hX ?_, hF1, hX⟩
  rw [hq 0 (by decide) (by decide)]
  rcases h.st with h1 | h1
  · exact Or.inl h1
  · exact Or.inr ⟨h1.1, hF1⟩
/-- a call on what is tried for a while -/
theorem CXI.tried (h : CXI E s P L T K d) (hq : ∀ q, ¬ (39 ≤ q ∧ q ≤ 47) → ¬ (54 ≤ q ∧ q ≤ 67) → q ≠ 7 → E1 q = E q) : CXI E1 s P L T K d ∧ (FRS E P L T d → FRS E1 P L T d) ∧ CXF E E1 := by
  have hF1 : FRS E P L T d → FRS E1 P L T d := fun hF => hF.fr (fun q h1 h2 h3 => hq q (by omega) (by omega) (by omega))
  have hX : CXF E E1 := CXF.of (fun q h1 => hq q (by omega) (by omega) (by omega))
  refine ⟨h.fr hX ?_, hF1, hX⟩
  rw [hq 0 (by decide) (by decide) (by decide)]
  rcases h.st with h1 | h1
  · exact Or.inl h1
  · exact Or.inr ⟨h1.1, hF1 h1.2⟩
theorem gNow_WG (h : CXI E s P L T K d) : WG (gNow P L d) := gOf_WG h.WS h.WL (moonP_in P d).2
end
theorem addP_CG0 {E : Mm} {a x hi : Nat} {G : GP} (hg : CG0 E a G) (hN : gN G < 11) (hx : x < 40) : CG0 (wr (wr (wr (wr E (a + 1) (gN G) (x : Int)) (a + 2) (gN G) (hi : Int)) a 12 ((mk (isP G) 40 ||| 2 ^ x : Nat) : Int)) a 10 ((gN G + 1 : Nat) : Int)) a (addP G x hi) := by
  obtain ⟨q1, q2, q3, q4, q5, q6, q7⟩ := hg
  refine ⟨?_, ?_, ?_, ?_, ?_, fun p hp => ?_, fun t ht => ?_⟩
  · simp (disch := omega) only [wr_o]; exact q1
  · simp (disch := omega) only [wr_o]; exact q2
  · rw [wr_s]; rfl
  · rw [wr_o (by omega), wr_s, or_mk (p' := isP (addP G x hi)) hx (fun j _ => ?_)]
    show itr (fun p v => v || decide ((if p = gN G then x else gX G p) = j)) false (gN G + 1) = _
    rw [itr_s, if_pos rfl, itr_congr (f := fun p v => v || decide ((if p = gN G then x else gX G p) = j)) (h := fun p v => v || decide (gX G p = j)) (fun i hi v => by rw [if_neg (by omega)])]
    show (isP G j || decide (x = j)) = _
    congr 1
    exact decide_eq_decide.mpr ⟨fun q => q.symm, fun q => q.symm⟩
  · simp (disch := omega) only [wr_o]; exact q5
  · have hp' : p < gN G + 1 := hp
    constructor
    · show _ = (((if p = gN G then x else gX G p) : Nat) : Int)
      rw [wr_o (by omega), wr_o (by omega), wr_o (by omega)]
      by_cases c : p = gN G
      · subst c; rw [wr_s, if_pos rfl]
      · rw [wr_o (Or.inr c), if_neg c]; exact (q6 p (by omega)).1
    · show _ = (((if p = gN G then hi else gH G p) : Nat) : Int)
      rw [wr_o (by omega), wr_o (by omega)]
      by_cases c : p = gN G
      · subst c; rw [wr_s, if_pos rfl]
      · rw [wr_o (Or.inr c), wr_o (by omega), if_neg c]; exact (q6 p (by omega)).2
  · simp (disch := omega) only [wr_row]; exact q7 t ht
theorem addP_WG {G : GP} {x hi : Nat} (h : WG G) (hN : gN G < 11) (hx : x < gW G) (hh : hi ≤ 99) : WG (addP G x hi) := by
  refine ⟨h.W, hN, fun p hp => ?_, fun t ht => h.T ht, h.Lw⟩
  have hp' : p < gN G + 1 := hp
  show (if p = gN G then x else gX G p) < gW G ∧ (if p = gN G then hi else gH G p) ≤ 99
  by_cases c : p = gN G
  · rw [if_pos c, if_pos c]; exact ⟨hx, hh⟩
  · rw [if_neg c, if_neg c]; exact ⟨h.X (by omega), h.H (by omega)⟩
