/-! both sides show one state -/
/-- a street's heights, places and loads, as the reference copies them -/
def SNR (w : Nat → Int) (P : SP) : Prop := (∀ p, p < sN P → w p = (sH P p : Int)) ∧ ∀ b, b < bN (sB P) → w (10 + 21 * b) = (bX (sB P) b : Int) ∧ ∀ p, p < bL (sB P) b → w (10 + 21 * b + 1 + p) = (bD (sB P) b p : Int)
/-- the reference's changes: the streets ahead of each -/
def RCh (E : Mm) (P : SP) (C : CHt) : Prop := E 125 46 = (C.1 : Int) ∧ ∀ k, k < C.1 → SNR (E (633 + k)) (dnP C P (C.1 - k))
/-- an image of the reference -/
def RIm (E : Mm) (i : Nat) (P : SP) (d : Nat) (C : CHt) : Prop := SNR (E (654 + i)) P ∧ E (654 + i) 178 = (d : Int) ∧ E (654 + i) 179 = (C.1 : Int) ∧ ∀ k, k < C.1 → SNR (fun j => E (654 + i) (180 + 178 * k + j)) (dnP C P (C.1 - k))
def IMb (E : Mm) (P : SP) (i : Nat) (Pi : SP) (di : Nat) (Ci : CHt) : Prop := CIm E (98 + 9 * i) Pi di Ci ∧ RIm E i Pi di Ci ∧ frm Pi = frm P ∧ WS Pi ∧ DX Pi ∧ di < 400 ∧ WCh Pi Ci
def INVg (n : Nat) (s : Nat) (Q : RX) (P : SP) (L : LW) (T K : LN) (d st sz : Nat) (C : CHt) (m : Nat) (Pi : Nat → SP) (di : Nat → Nat) (Ci : Nat → CHt) (E : Mm) : Prop :=
  CXI E s P L T K d ∧ RXI E Q P L T K d st ∧ TAPE E sz ∧ E 1 6 = E 125 3 ∧ (∀ k, k < 3 → E 3 k = E 127 k) ∧ st ≤ n + 2 ∧ (CCh E 24 C ∧ WCh P C ∧ RCh E P C) ∧ (E 0 18 = (m : Int) ∧ E 125 47 = (m : Int) ∧ m ≤ 3) ∧ ∀ i, i < m → IMb E P i (Pi i) (di i) (Ci i)
def INV (n : Nat) (E : Mm) : Prop := ∃ (s : Nat) (Q : RX) (P : SP) (L : LW) (T K : LN) (d st sz : Nat) (C : CHt) (m : Nat) (Pi : Nat → SP) (di : Nat → Nat) (Ci : Nat → CHt), INVg n s Q P L T K d st sz C m Pi di Ci E
section
variable {n s d st sz m : Nat} {Q : RX} {P : SP} {L : LW} {T K : LN} {C : CHt} {Pi : Nat → SP} {di : Nat → Nat} {Ci : Nat → CHt} {E E1 : Mm}
theorem INVg.wf (h : INVg n s Q P L T K d st sz C m Pi di Ci E) (hn : n ≤ 4000) : WF P L T K d st := ⟨h.1.WS, h.1.DX, h.1.WL, h.1.WT, h.1.WK, h.1.dl, by have := h.2.2.2.2.2.1; omega⟩
theorem RCh.fr (h : RCh E P C) (hc : C.1 ≤ 20) (hf : ∀ q, 633 ≤ q → q ≤ 652 → E1 q = E q) (h6 : E1 125 46 = E 125 46) : RCh E1 P C := ⟨h6.trans h.1, fun k hk => by rw [hf (633 + k) (by omega) (by omega)]; exact h.2 k hk⟩
theorem IMb.fr {i d' : Nat} {P' : SP} {C' : CHt} (h : IMb E P i P' d' C') (hf : ∀ q, (98 + 9 * i ≤ q ∧ q ≤ 98 + 9 * i + 8) ∨ q = 654 + i → E1 q = E q) : IMb E1 P i P' d' C' := by
  obtain ⟨h1, h2, h3⟩ := h
  refine ⟨h1.fr (fun q a b => hf q (Or.inl ⟨a, b⟩)), ?_, h3⟩
  unfold RIm at h2 ⊢
  rw [hf (654 + i) (Or.inr rfl)]
  exact h2
/-- another state with the same changes, images, tape, refusals -/
theorem INVg.fr {n' : Nat} (h : INVg n s Q P L T K d st sz C m Pi di Ci E) (hn : n ≤ n') (hC : CXI E1 s P L T K d) (hR : RXI E1 Q P L T K d st) (hf : ∀ q, (1 ≤ q ∧ q ≤ 3) ∨ (24 ≤ q ∧ q ≤ 28) ∨ (98 ≤ q ∧ q ≤ 124) ∨ q = 126 ∨ q = 127 ∨ (633 ≤ q ∧ q ≤ 652) ∨ (654 ≤ q ∧ q ≤ 656) → E1 q = E q) (h0 : E1 0 18 = E 0 18) (h5 : ∀ k, k = 1 ∨ k = 3 ∨ k = 46 ∨ k = 47 → E1 125 k = E 125 k) : INVg n' s Q P L T K d st sz C m Pi di Ci E1 := by
  obtain ⟨_, _, ⟨t1, t2, t3, t4⟩, f1, f2, f3, ⟨c1, c2, c3⟩, ⟨m1, m2, m3⟩, im⟩ := h
  refine ⟨hC, hR, ⟨t1, by rw [hf 1 (by omega)]; exact t2, (h5 1 (by omega)).trans t3, by rw [hf 126 (by omega), hf 2 (by omega)]; exact t4⟩, by rw [hf 1 (by omega), h5 3 (by omega)]; exact f1, by rw [hf 3 (by omega), hf 127 (by omega)]; exact f2, by omega, ⟨c1.fr (fun q a b => hf q (by omega)), c2, c3.fr c2.1 (fun q a b => hf q (by omega)) (h5 46 (by omega))⟩, ⟨h0.trans m1, (h5 47 (by omega)).trans m2, m3⟩, fun i hi => (im i hi).fr (fun q a => hf q (by omega))⟩
theorem INVg.mono {n' : Nat} (h : INVg n s Q P L T K d st sz C m Pi di Ci E) (hn : n ≤ n') : INVg n' s Q P L T K d st sz C m Pi di Ci E := h.fr hn h.1 h.2.1 (fun _ _ => rfl) rfl (fun _ _ => rfl)
/-- the class has answered: the reference is as it was -/
theorem INVg.ask {v : Int} (h : INVg n s Q P L T K d st sz C m Pi di Ci E) (hn : n ≤ 4000) (hX : CXF E E1) : RXI (wr E1 813 0 v) Q P L T K d st :=
  h.2.1.fr2 (h.wf hn) (fun q hq => (wr_row (by omega)).trans (hX.1 q (by omega))) (fun k _ => (wr_o (by omega)).trans (by rw [hX.1 125 (by omega)]))
/-- both have answered -/
theorem INVg.told {v : Int} {E2 : Mm} (h : INVg n s Q P L T K d st sz C m Pi di Ci E) (hI : CXI E1 s P L T K d) (hX : CXF E E1) (hO : RXO (wr E1 813 0 v) E2 Q P L T K d st) : INVg (n + 6) s Q P L T K d st sz C m Pi di Ci E2 ∧ E2 125 0 = 0 ∧ E2 813 0 = v := by
  obtain ⟨o1, ⟨o2, o3⟩, o4, o5⟩ := hO
  have hq : ∀ q, ¬ (q = 0 ∨ q = 7 ∨ (30 ≤ q ∧ q ≤ 67) ∨ q = 125 ∨ (142 ≤ q ∧ q ≤ 152) ∨ (209 ≤ q ∧ q ≤ 217) ∨ (576 ≤ q ∧ q ≤ 579) ∨ (658 ≤ q ∧ q ≤ 813)) → E2 q = E q := fun q hq => by
    by_cases e : q = 127
    · rw [e, o5, wr_row (by omega), hX.1 127 (by omega)]
    · rw [o2 q (by omega), wr_row (by omega), hX.1 q (by omega)]
  have hc : ∀ q, q < 125 → E2 q = E1 q := fun q hq => (o2 q (by omega)).trans (wr_row (by omega))
  refine ⟨h.fr (by omega) (hI.fr2 (fun q a => hc q (by rcases hI.sa with e | e <;> omega))) o1 (fun q a => hq q (by omega)) (by rw [hc 0 (by omega)]; exact hX.2 18 (by decide)) (fun k hk => (o3 k (by omega)).trans ((wr_o (by omega)).trans (by rw [hX.1 125 (by omega)]))), o4, by rw [o2 813 (by omega), wr_s]⟩
theorem INVg.no (h : INVg n s Q P L T K d st sz C m Pi di Ci E) (hn : n ≤ 4000) (j : Nat) : RXI (bumpE E j) Q P L T K d st :=
  h.2.1.fr2 (h.wf hn) (fun q hq => wr_row (by omega)) (fun k _ => wr_o (by omega))
/-- both have refused -/
theorem INVg.refused {j : Nat} (h : INVg n s Q P L T K d st sz C m Pi di Ci E) (hn : n ≤ 4000) (hj : j < 3) (wh : Int) : INVg (n + 6) s Q P L T K d st sz C m Pi di Ci (badR (bumpE E j) wh j) ∧ badR (bumpE E j) wh j 125 0 = wh := by
  have hr := h.2.2.2.2.1
  have e3 : ∀ k, badR (bumpE E j) wh j 3 k = if k = j then w32 (E 3 j + 1) else E 3 k := fun k => by
    unfold badR bumpE
    rw [wr_o (by omega), wr_o (by omega)]
    by_cases c : k = j
    · rw [if_pos c, c, wr_s]
    · rw [if_neg c, wr_o (Or.inr c)]
  have e7 : ∀ k, badR (bumpE E j) wh j 127 k = if k = j then w32 (E 127 j + 1) else E 127 k := fun k => by
    unfold badR bumpE
    by_cases c : k = j
    · rw [if_pos c, c, wr_s, wr_o (show (127 : Nat) ≠ 3 ∨ j ≠ j by omega)]
    · rw [if_neg c, wr_o (Or.inr c), wr_o (by omega), wr_o (by omega)]
  have hq : ∀ q, q ≠ 3 → q ≠ 125 → q ≠ 127 → badR (bumpE E j) wh j q = E q := fun q a b c => by
    unfold badR bumpE
    rw [wr_row c, wr_row b, wr_row a]
  have h5 : ∀ k, k ≠ 0 → badR (bumpE E j) wh j 125 k = E 125 k := fun k hk => by
    unfold badR bumpE
    rw [wr_o (by omega), wr_o (by omega), wr_o (by omega)]
  obtain ⟨i1, i2, ⟨t1, t2, t3, t4⟩, f1, f2, f3, ⟨c1, c2, c3⟩, ⟨m1, m2, m3⟩, im⟩ := h
  refine ⟨⟨i1.fr2 (fun q a => hq q (by rcases i1.sa with e | e <;> omega) (by rcases i1.sa with e | e <;> omega) (by rcases i1.sa with e | e <;> omega)), i2.fr2 ⟨i1.WS, i1.DX, i1.WL, i1.WT, i1.WK, i1.dl, by omega⟩ (fun q a => hq q (by omega) (by omega) (by omega)) (fun k hk => h5 k (by omega)), ⟨t1, by rw [hq 1 (by omega) (by omega) (by omega)]; exact t2, (h5 1 (by omega)).trans t3, by rw [hq 126 (by omega) (by omega) (by omega), hq 2 (by omega) (by omega) (by omega)]; exact t4⟩, by rw [hq 1 (by omega) (by omega) (by omega), h5 3 (by omega)]; exact f1, fun k hk => ?_, by omega, ⟨c1.fr (fun q a b => hq q (by omega) (by omega) (by omega)), c2, c3.fr c2.1 (fun q a b => hq q (by omega) (by omega) (by omega)) (h5 46 (by omega))⟩, ⟨by rw [hq 0 (by omega) (by omega) (by omega)]; exact m1, (h5 47 (by omega)).trans m2, m3⟩, fun i hi => (im i hi).fr (fun q a => hq q (by omega) (by omega) (by omega))⟩, ?_⟩
  · rw [e3, e7]
    by_cases c : k = j
    · rw [if_pos c, if_pos c, f2 j hj]
    · rw [if_neg c, if_neg c]; exact f2 k hk
  · unfold badR
    rw [wr_o (by omega), wr_s]
end
theorem INV.mono {n : Nat} {E : Mm} (h : INV n E) : INV (n + 6) E := by
  obtain ⟨s, Q, P, L, T, K, d, st, sz, C, m, Pi, di, Ci, h⟩ := h
  exact ⟨s, Q, P, L, T, K, d, st, sz, C, m, Pi, di, Ci, h.mono (by omega)⟩
