section
variable {n s d st sz m : Nat} {Q : RX} {P : SP} {L : LW} {T K : LN} {C : CHt} {Pi : Nat → SP} {di : Nat → Nat} {Ci : Nat → CHt} {E E1 E2 : Mm} {t : TS} {v : Int}
/-- the reference ahead of a text -/
theorem INVg.tape (h : INVg n s Q P L T K d st sz C m Pi di Ci E) (hn : n ≤ 4000) (hX : TXO E E1 t) : RXI (wr E1 813 0 v) Q P L T K d st ∧ TAPM (wr E1 813 0 v) sz ∧ wr E1 813 0 v 126 = E 126 ∧ ∀ k, wr E1 813 0 v 125 k = E 125 k := by
  have e : ∀ q, 125 ≤ q → q ≠ 813 → wr E1 813 0 v q = E q := fun q a b => (wr_row b).trans (hX.2.2 q (by omega))
  refine ⟨h.2.1.fr2 (h.wf hn) (fun q hq => e q (by omega) (by omega)) (fun k _ => by rw [e 125 (by omega) (by omega)]), ⟨h.2.2.1.1, trivial, by rw [e 125 (by omega) (by omega)]; exact h.2.2.1.2.2.1, fun k hk => ⟨by rw [e 126 (by omega) (by omega)]; exact (h.2.2.1.2.2.2 k hk).1, trivial⟩⟩, e 126 (by omega) (by omega), fun k => by rw [e 125 (by omega) (by omega)]⟩
theorem INVg.read {Q' : RX} {L' : LW} {T' K' : LN} {st' : Nat} (h : INVg n s Q P L T K d st sz C m Pi di Ci E) (hI : CXI E1 s P L' T' K' d) (hX : TXO E E1 t) (h4 : E1 24 4 = E 24 4) (h18 : E1 0 18 = E 0 18) (hR : RXI E2 Q' P L' T' K' d st') (h46 : E2 125 46 = wr E1 813 0 v 125 46) (h47 : E2 125 47 = wr E1 813 0 v 125 47) (hO : RTXO (wr E1 813 0 v) E2 t) (hst : st' ≤ st + 1) : INVg (n + 6) s Q' P L' T' K' d st' 0 C m Pi di Ci E2 ∧ E2 125 0 = 0 ∧ E2 813 0 = v := by
  obtain ⟨i1, i2, ⟨t1, t2, t3, t4⟩, f1, f2, f3, ⟨c1, c2, c3⟩, ⟨m1, m2, m3⟩, im⟩ := h
  obtain ⟨o1, o2, o3, o4⟩ := hO
  have hc : ∀ q, q < 125 → E2 q = E1 q := fun q hq => (o4 q (by omega)).trans (wr_row (by omega))
  have hq : ∀ q, (2 ≤ q ∧ q ≤ 3) ∨ (25 ≤ q ∧ q ≤ 28) ∨ (98 ≤ q ∧ q ≤ 124) ∨ q = 127 ∨ (633 ≤ q ∧ q ≤ 652) ∨ (654 ≤ q ∧ q ≤ 656) → E2 q = E q := fun q a => (o4 q (by omega)).trans ((wr_row (by omega)).trans (hX.2.2 q (by omega)))
  have h5 : ∀ k, wr E1 813 0 v 125 k = E 125 k := fun k => (wr_o (by omega)).trans (by rw [hX.2.2 125 (by omega)])
  refine ⟨⟨hI.fr2 (fun q a => hc q (by rcases hI.sa with e | e <;> omega)), hR, ⟨Nat.zero_le _, by rw [hc 1 (by omega)]; exact hX.1, o2, fun k hk => absurd hk (Nat.not_lt_zero k)⟩, by rw [hc 1 (by omega), hX.2.1]; exact o3.symm, fun k hk => by rw [hq 3 (by omega), hq 127 (by omega)]; exact f2 k hk, by omega, ⟨⟨by rw [hc 24 (by omega), h4]; exact c1.1, fun k hk => by rw [hq (24 + 1) (by omega), hq (24 + 2) (by omega), hq (24 + 3) (by omega), hq (24 + 4) (by omega)]; exact c1.2 k hk⟩, c2, c3.fr c2.1 (fun q a b => hq q (by omega)) (h46.trans (h5 46))⟩, ⟨by rw [hc 0 (by omega), h18]; exact m1, (h47.trans (h5 47)).trans m2, m3⟩, fun i hi => (im i hi).fr (fun q a => hq q (by omega))⟩, o1, by rw [o4 813 (by omega), wr_s]⟩
theorem INVg.fresh {Q' : RX} {P' : SP} {st' : Nat} (h : INVg n s Q P L T K d st sz C m Pi di Ci E) (hI : CXI E1 (151 - s) P' plL ln00 ln00 0) (hX : TXO E E1 t) (h4 : E1 24 4 = 0) (h18 : E1 0 18 = 0) (hR : RXI E2 Q' P' plL ln00 ln00 0 st') (h46 : E2 125 46 = 0) (h47 : E2 125 47 = 0) (hO : RTXO (wr E1 813 0 v) E2 t) (hst : st' ≤ st + 1) : INVg (n + 6) (151 - s) Q' P' plL ln00 ln00 0 st' 0 (0, C.2) 0 Pi di Ci E2 ∧ E2 125 0 = 0 ∧ E2 813 0 = v := by
  obtain ⟨i1, i2, ⟨t1, t2, t3, t4⟩, f1, f2, f3, ⟨c1, c2, c3⟩, ⟨m1, m2, m3⟩, im⟩ := h
  obtain ⟨o1, o2, o3, o4⟩ := hO
  have hc : ∀ q, q < 125 → E2 q = E1 q := fun q hq => (o4 q (by omega)).trans (wr_row (by omega))
  have hq : ∀ q, (2 ≤ q ∧ q ≤ 3) ∨ q = 127 → E2 q = E q := fun q a => (o4 q (by omega)).trans ((wr_row (by omega)).trans (hX.2.2 q (by omega)))
  refine ⟨⟨hI.fr2 (fun q a => hc q (by rcases hI.sa with e | e <;> omega)), hR, ⟨Nat.zero_le _, by rw [hc 1 (by omega)]; exact hX.1, o2, fun k hk => absurd hk (Nat.not_lt_zero k)⟩, by rw [hc 1 (by omega), hX.2.1]; exact o3.symm, fun k hk => by rw [hq 3 (by omega), hq 127 (by omega)]; exact f2 k hk, by omega, ⟨⟨by rw [hc 24 (by omega), h4]; rfl, fun k hk => absurd hk (Nat.not_lt_zero k)⟩, ⟨Nat.zero_le _, fun k hk => absurd hk (Nat.not_lt_zero k)⟩, ⟨h46, fun k hk => absurd hk (Nat.not_lt_zero k)⟩⟩, ⟨by rw [hc 0 (by omega), h18]; rfl, h47, Nat.zero_le _⟩, fun i hi => absurd hi (Nat.not_lt_zero i)⟩, o1, by rw [o4 813 (by omega), wr_s]⟩
end
def MK_1 (n : Nat) (E : Mm) (x0 : Int) (c : Nat) (v : Int) (E1 : Mm) : Prop := ∃ (s : Nat) (Q : RX) (P : SP) (L : LW) (T K : LN) (d st sz : Nat) (C : CHt) (m : Nat) (Pi : Nat → SP) (di : Nat → Nat) (Ci : Nat → CHt), INVg n s Q P L T K d st sz C m Pi di Ci E ∧ ((c = 0 ∧ (0 ≤ x0 ∧ x0 ≤ (sz : Int)) ∧ ((¬ (rdS (E 126) x0.toNat 61).1.2.2.1 = 0 ∧ v = (rdS (E 126) x0.toNat 61).1.2.2.1 - 10 ∧ CXI E1 s P L T K d ∧ E1 24 4 = E 24 4 ∧ E1 0 18 = E 0 18 ∧ TXO E E1 (rdS (E 126) x0.toNat 61).1) ∨ ((rdS (E 126) x0.toNat 61).1.2.2.1 = 0 ∧ v = ((bN (sB (rdS (E 126) x0.toNat 61).2.1) : Nat) : Int) ∧ CXI E1 (151 - s) (rdS (E 126) x0.toNat 61).2.1 plL ln00 ln00 0 ∧ E1 24 4 = 0 ∧ E1 0 18 = 0 ∧ TXO E E1 (rdS (E 126) x0.toNat 61).1))) ∨ (c = 1 ∧ ¬ (0 ≤ x0 ∧ x0 ≤ (sz : Int)) ∧ E1 = bumpE E 2))
theorem XK_1 {g : Gw} (hG : GF g) (n : Nat) (E : Mm) (x0 : Int) (hE : INV n E) : CTX g yX11_street cX11_street 3 (some .int) 8 172 1 6 K2 false [mR 0, mI x0] (ov E) K2 false (fun r D' => ∃ (v : Int) (E1 : Mm), r = some (mI v) ∧ D' = ov E1 ∧ MK_1 n E x0 0 v E1) (fun X D' => ∃ (c : Nat) (E1 : Mm), ((c = 1 ∧ X = "java/lang/IllegalArgumentException")) ∧ D' = ov E1 ∧ MK_1 n E x0 c 0 E1) := by
  obtain ⟨s, Q, P, L, T, K, d, st, sz, C, m, Pi, di, Ci, h⟩ := hE
  have e1 : E 1 1 = (sz : Int) := h.2.2.1.2.1
  have e2 := h.2.2.1.1
  refine (ct_X11_street hG E s P L T K d h.1 sz h.2.2.1 x0).imp (fun r D' q => ?_) (fun X D' q => ?_)
  · obtain ⟨c0, q⟩ := q
    rcases q with ⟨q1, rfl, E1, rfl, q2, q3, q4, q5⟩ | ⟨q1, rfl, E1, rfl, q2, q3, q4, q5⟩
    · exact ⟨_, E1, rfl, rfl, s, Q, P, L, T, K, d, st, sz, C, m, Pi, di, Ci, h, Or.inl ⟨rfl, by omega, Or.inl ⟨q1, rfl, q2, q3, q4, q5⟩⟩⟩
    · exact ⟨_, E1, rfl, rfl, s, Q, P, L, T, K, d, st, sz, C, m, Pi, di, Ci, h, Or.inl ⟨rfl, by omega, Or.inr ⟨q1, rfl, q2, q3, q4, q5⟩⟩⟩
  · obtain ⟨c0, rfl, rfl⟩ := q
    exact ⟨1, _, ⟨rfl, rfl⟩, rfl, s, Q, P, L, T, K, d, st, sz, C, m, Pi, di, Ci, h, Or.inr ⟨rfl, by omega, rfl⟩⟩
theorem RK_1 {g : Gw} (hG : GF g) (n : Nat) (hn : n ≤ 4000) (E : Mm) (x0 : Int) (c : Nat) (v : Int) (E1 : Mm) (hM : MK_1 n E x0 c v E1) : CT g yX12_street cX12_street 2 (some .int) 6 133 0 0 K2 false [mR 125, mI x0] (ov (if c = 0 then wr E1 813 0 v else E1)) K2 false (fun r D' => ∃ (bb : Int) (E2 : Mm), r = some (mI bb) ∧ D' = ov E2 ∧ INV (n + 6) E2 ∧ E2 125 0 = (c : Int) ∧ (c = 0 → E2 813 0 = bb)) := by
  obtain ⟨s, Q, P, L, T, K, d, st, sz, C, m, Pi, di, Ci, h, q⟩ := hM
  have hWf := h.wf hn
  rcases q with ⟨rfl, d0, q⟩ | ⟨rfl, d0, rfl⟩
  · rw [if_pos rfl]
    have hX : TXO E E1 (rdS (E 126) x0.toNat 61).1 := by rcases q with q | q <;> exact q.2.2.2.2.2
    obtain ⟨hR, hTp, e126, _⟩ := h.tape (v := v) hn hX
    refine (ct_X12_street hG _ Q P L T K d st hWf hR x0 sz hTp).imp (fun r D' p => ?_)
    rw [e126] at p
    rcases p with ⟨e0, p⟩ | ⟨e0, -, -⟩
    · rcases q with ⟨q1, hv, q2, q3, q4, q5⟩ | ⟨q1, hv, q2, q3, q4, q5⟩
      · rcases p with ⟨g1, rfl, E2, rfl, g2, g3, g4, g5⟩ | ⟨g1, -⟩
        · obtain ⟨k1, k2, k3⟩ := h.read q2 q5 q3 q4 g2 g3 g4 g5 (by omega)
          exact ⟨_, E2, rfl, rfl, ⟨s, Q, P, L, T, K, d, st, 0, C, m, Pi, di, Ci, k1⟩, k2, fun _ => k3.trans hv⟩
        · exact absurd g1 q1
      · rcases p with ⟨g1, -⟩ | ⟨g1, rfl, E2, Q1, rfl, g2, g3, g4, g5⟩
        · exact absurd q1 g1
        · obtain ⟨k1, k2, k3⟩ := h.fresh q2 q5 q3 q4 g2 g3 g4 g5 (Nat.le_refl _)
          exact ⟨_, E2, rfl, rfl, ⟨151 - s, Q1, _, plL, ln00, ln00, 0, st + 1, 0, (0, C.2), 0, Pi, di, Ci, k1⟩, k2, fun _ => k3.trans hv⟩
    · exact absurd d0 e0
  · rw [if_neg (by decide)]
    have hTp : TAPM (bumpE E 2) sz := ⟨h.2.2.1.1, trivial, (wr_o (by decide)).trans h.2.2.1.2.2.1, fun k hk => ⟨by rw [show bumpE E 2 126 = E 126 from wr_row (by decide)]; exact (h.2.2.1.2.2.2 k hk).1, trivial⟩⟩
    refine (ct_X12_street hG _ Q P L T K d st hWf (h.no hn 2) x0 sz hTp).imp (fun r D' p => ?_)
    rcases p with ⟨e0, -⟩ | ⟨e0, rfl, rfl⟩
    · exact absurd e0 d0
    · obtain ⟨k1, k2⟩ := h.refused hn (show 2 < 3 by decide) 1
      exact ⟨_, _, rfl, rfl, ⟨s, Q, P, L, T, K, d, st, sz, C, m, Pi, di, Ci, k1⟩, k2, fun q => absurd q (by decide)⟩
def MK_2 (n : Nat) (E : Mm) (x0 : Int) (c : Nat) (v : Int) (E1 : Mm) : Prop := ∃ (s : Nat) (Q : RX) (P : SP) (L : LW) (T K : LN) (d st sz : Nat) (C : CHt) (m : Nat) (Pi : Nat → SP) (di : Nat → Nat) (Ci : Nat → CHt), INVg n s Q P L T K d st sz C m Pi di Ci E ∧ ((c = 0 ∧ (0 ≤ x0 ∧ x0 ≤ 150 ∧ x0 ≤ (sz : Int)) ∧ ((¬ (lawT (E 126) x0.toNat).2.2.1 = 0 ∧ v = (lawT (E 126) x0.toNat).2.2.1 - 10 ∧ CXI E1 s P L T K d ∧ E1 24 4 = E 24 4 ∧ E1 0 18 = E 0 18 ∧ TXO E E1 (lawT (E 126) x0.toNat)) ∨ ((lawT (E 126) x0.toNat).2.2.1 = 0 ∧ v = 1 ∧ CXI E1 s P (lawS (E 126) x0.toNat).2 T K d ∧ E1 24 4 = E 24 4 ∧ E1 0 18 = E 0 18 ∧ TXO E E1 (lawT (E 126) x0.toNat)))) ∨ (c = 1 ∧ ¬ (0 ≤ x0 ∧ x0 ≤ 150 ∧ x0 ≤ (sz : Int)) ∧ E1 = bumpE E 2))
theorem XK_2 {g : Gw} (hG : GF g) (n : Nat) (E : Mm) (x0 : Int) (hE : INV n E) : CTX g yX11_law cX11_law 2 (some .int) 28 652 1 6 K2 false [mR 0, mI x0] (ov E) K2 false (fun r D' => ∃ (v : Int) (E1 : Mm), r = some (mI v) ∧ D' = ov E1 ∧ MK_2 n E x0 0 v E1) (fun X D' => ∃ (c : Nat) (E1 : Mm), ((c = 1 ∧ X = "java/lang/IllegalArgumentException")) ∧ D' = ov E1 ∧ MK_2 n E x0 c 0 E1) := by
  obtain ⟨s, Q, P, L, T, K, d, st, sz, C, m, Pi, di, Ci, h⟩ := hE
  have e1 : E 1 1 = (sz : Int) := h.2.2.1.2.1
  have e2 := h.2.2.1.1
  refine (ct_X11_law hG E s P L T K d h.1 sz h.2.2.1 x0).imp (fun r D' q => ?_) (fun X D' q => ?_)
  · obtain ⟨c0, q⟩ := q
    rcases q with ⟨q1, rfl, E1, rfl, q2, q3, q4, q5⟩ | ⟨q1, rfl, E1, rfl, q2, q3, q4, q5⟩
    · exact ⟨_, E1, rfl, rfl, s, Q, P, L, T, K, d, st, sz, C, m, Pi, di, Ci, h, Or.inl ⟨rfl, by omega, Or.inl ⟨q1, rfl, q2, q3, q4, q5⟩⟩⟩
    · exact ⟨_, E1, rfl, rfl, s, Q, P, L, T, K, d, st, sz, C, m, Pi, di, Ci, h, Or.inl ⟨rfl, by omega, Or.inr ⟨q1, rfl, q2, q3, q4, q5⟩⟩⟩
  · obtain ⟨c0, rfl, rfl⟩ := q
    exact ⟨1, _, ⟨rfl, rfl⟩, rfl, s, Q, P, L, T, K, d, st, sz, C, m, Pi, di, Ci, h, Or.inr ⟨rfl, by omega, rfl⟩⟩
theorem RK_2 {g : Gw} (hG : GF g) (n : Nat) (hn : n ≤ 4000) (E : Mm) (x0 : Int) (c : Nat) (v : Int) (E1 : Mm) (hM : MK_2 n E x0 c v E1) : CT g yX12_law cX12_law 4 (some .int) 26 564 0 0 K2 false [mR 125, mI x0] (ov (if c = 0 then wr E1 813 0 v else E1)) K2 false (fun r D' => ∃ (bb : Int) (E2 : Mm), r = some (mI bb) ∧ D' = ov E2 ∧ INV (n + 6) E2 ∧ E2 125 0 = (c : Int) ∧ (c = 0 → E2 813 0 = bb)) := by
  obtain ⟨s, Q, P, L, T, K, d, st, sz, C, m, Pi, di, Ci, h, q⟩ := hM
  have hWf := h.wf hn
  rcases q with ⟨rfl, d0, q⟩ | ⟨rfl, d0, rfl⟩
  · rw [if_pos rfl]
    have hX : TXO E E1 (lawT (E 126) x0.toNat) := by rcases q with q | q <;> exact q.2.2.2.2.2
    obtain ⟨hR, hTp, e126, _⟩ := h.tape (v := v) hn hX
    refine (ct_X12_law hG _ Q P L T K d st hWf hR x0 sz hTp).imp (fun r D' p => ?_)
    rw [e126] at p
    rcases p with ⟨e0, p⟩ | ⟨e0, -, -⟩
    · rcases q with ⟨q1, hv, q2, q3, q4, q5⟩ | ⟨q1, hv, q2, q3, q4, q5⟩
      · rcases p with ⟨g1, rfl, E2, rfl, g2, g3, g4, g5⟩ | ⟨g1, -⟩
        · obtain ⟨k1, k2, k3⟩ := h.read q2 q5 q3 q4 g2 g3 g4 g5 (by omega)
          exact ⟨_, E2, rfl, rfl, ⟨s, Q, P, L, T, K, d, st, 0, C, m, Pi, di, Ci, k1⟩, k2, fun _ => k3.trans hv⟩
        · exact absurd g1 q1
      · rcases p with ⟨g1, -⟩ | ⟨g1, rfl, E2, rfl, g2, g3, g4, g5⟩
        · exact absurd q1 g1
        · obtain ⟨k1, k2, k3⟩ := h.read q2 q5 q3 q4 g2 g3 g4 g5 (by omega)
          exact ⟨_, E2, rfl, rfl, ⟨s, Q, P, _, T, K, d, st + 1, 0, C, m, Pi, di, Ci, k1⟩, k2, fun _ => k3.trans hv⟩
    · exact absurd d0 e0
  · rw [if_neg (by decide)]
    have hTp : TAPM (bumpE E 2) sz := ⟨h.2.2.1.1, trivial, (wr_o (by decide)).trans h.2.2.1.2.2.1, fun k hk => ⟨by rw [show bumpE E 2 126 = E 126 from wr_row (by decide)]; exact (h.2.2.1.2.2.2 k hk).1, trivial⟩⟩
    refine (ct_X12_law hG _ Q P L T K d st hWf (h.no hn 2) x0 sz hTp).imp (fun r D' p => ?_)
    rcases p with ⟨e0, -⟩ | ⟨e0, rfl, rfl⟩
    · exact absurd e0 d0
    · obtain ⟨k1, k2⟩ := h.refused hn (show 2 < 3 by decide) 1
      exact ⟨_, _, rfl, rfl, ⟨s, Q, P, L, T, K, d, st, sz, C, m, Pi, di, Ci, k1⟩, k2, fun q => absurd q (by decide)⟩
def MK_3 (n : Nat) (E : Mm) (x0 : Int) (c : Nat) (v : Int) (E1 : Mm) : Prop := ∃ (s : Nat) (Q : RX) (P : SP) (L : LW) (T K : LN) (d st sz : Nat) (C : CHt) (m : Nat) (Pi : Nat → SP) (di : Nat → Nat) (Ci : Nat → CHt), INVg n s Q P L T K d st sz C m Pi di Ci E ∧ ((c = 0 ∧ (0 ≤ x0 ∧ x0 ≤ 150 ∧ x0 ≤ (sz : Int)) ∧ ((¬ (rdM (E 126) x0.toNat P 17).1.2.2.1 = 0 ∧ v = (rdM (E 126) x0.toNat P 17).1.2.2.1 - 10 ∧ CXI E1 s P L T K d ∧ E1 24 4 = E 24 4 ∧ E1 0 18 = E 0 18 ∧ TXO E E1 (rdM (E 126) x0.toNat P 17).1) ∨ ((rdM (E 126) x0.toNat P 17).1.2.2.1 = 0 ∧ v = (((rdM (E 126) x0.toNat P 17).2.1 : Nat) : Int) ∧ CXI E1 s P L (rdM (E 126) x0.toNat P 17).2 K d ∧ E1 24 4 = E 24 4 ∧ E1 0 18 = E 0 18 ∧ TXO E E1 (rdM (E 126) x0.toNat P 17).1))) ∨ (c = 1 ∧ ¬ (0 ≤ x0 ∧ x0 ≤ 150 ∧ x0 ≤ (sz : Int)) ∧ E1 = bumpE E 2))
theorem XK_3 {g : Gw} (hG : GF g) (n : Nat) (E : Mm) (x0 : Int) (hE : INV n E) : CTX g yX11_moves cX11_moves 2 (some .int) 8 133 1 6 K2 false [mR 0, mI x0] (ov E) K2 false (fun r D' => ∃ (v : Int) (E1 : Mm), r = some (mI v) ∧ D' = ov E1 ∧ MK_3 n E x0 0 v E1) (fun X D' => ∃ (c : Nat) (E1 : Mm), ((c = 1 ∧ X = "java/lang/IllegalArgumentException")) ∧ D' = ov E1 ∧ MK_3 n E x0 c 0 E1) := by
  obtain ⟨s, Q, P, L, T, K, d, st, sz, C, m, Pi, di, Ci, h⟩ := hE
  have e1 : E 1 1 = (sz : Int) := h.2.2.1.2.1
  have e2 := h.2.2.1.1
  refine (ct_X11_moves hG E s P L T K d h.1 sz h.2.2.1 x0).imp (fun r D' q => ?_) (fun X D' q => ?_)
  · obtain ⟨c0, q⟩ := q
    rcases q with ⟨q1, rfl, E1, rfl, q2, q3, q4, q5⟩ | ⟨q1, rfl, E1, rfl, q2, q3, q4, q5⟩
    · exact ⟨_, E1, rfl, rfl, s, Q, P, L, T, K, d, st, sz, C, m, Pi, di, Ci, h, Or.inl ⟨rfl, by omega, Or.inl ⟨q1, rfl, q2, q3, q4, q5⟩⟩⟩
    · exact ⟨_, E1, rfl, rfl, s, Q, P, L, T, K, d, st, sz, C, m, Pi, di, Ci, h, Or.inl ⟨rfl, by omega, Or.inr ⟨q1, rfl, q2, q3, q4, q5⟩⟩⟩
  · obtain ⟨c0, rfl, rfl⟩ := q
    exact ⟨1, _, ⟨rfl, rfl⟩, rfl, s, Q, P, L, T, K, d, st, sz, C, m, Pi, di, Ci, h, Or.inr ⟨rfl, by omega, rfl⟩⟩
theorem RK_3 {g : Gw} (hG : GF g) (n : Nat) (hn : n ≤ 4000) (E : Mm) (x0 : Int) (c : Nat) (v : Int) (E1 : Mm) (hM : MK_3 n E x0 c v E1) : CT g yX12_moves cX12_moves 7 (some .int) 3 65 0 0 K2 false [mR 125, mI x0] (ov (if c = 0 then wr E1 813 0 v else E1)) K2 false (fun r D' => ∃ (bb : Int) (E2 : Mm), r = some (mI bb) ∧ D' = ov E2 ∧ INV (n + 6) E2 ∧ E2 125 0 = (c : Int) ∧ (c = 0 → E2 813 0 = bb)) := by
  obtain ⟨s, Q, P, L, T, K, d, st, sz, C, m, Pi, di, Ci, h, q⟩ := hM
  have hWf := h.wf hn
  rcases q with ⟨rfl, d0, q⟩ | ⟨rfl, d0, rfl⟩
  · rw [if_pos rfl]
    have hX : TXO E E1 (rdM (E 126) x0.toNat P 17).1 := by rcases q with q | q <;> exact q.2.2.2.2.2
    obtain ⟨hR, hTp, e126, _⟩ := h.tape (v := v) hn hX
    refine (ct_X12_moves hG _ Q P L T K d st hWf hR x0 sz hTp).imp (fun r D' p => ?_)
    rw [e126] at p
    rcases p with ⟨e0, p⟩ | ⟨e0, -, -⟩
    · rcases q with ⟨q1, hv, q2, q3, q4, q5⟩ | ⟨q1, hv, q2, q3, q4, q5⟩
      · rcases p with ⟨g1, rfl, E2, rfl, g2, g3, g4, g5⟩ | ⟨g1, -⟩
        · obtain ⟨k1, k2, k3⟩ := h.read q2 q5 q3 q4 g2 g3 g4 g5 (by omega)
          exact ⟨_, E2, rfl, rfl, ⟨s, Q, P, L, T, K, d, st, 0, C, m, Pi, di, Ci, k1⟩, k2, fun _ => k3.trans hv⟩
        · exact absurd g1 q1
      · rcases p with ⟨g1, -⟩ | ⟨g1, rfl, E2, rfl, g2, g3, g4, g5⟩
        · exact absurd q1 g1
        · obtain ⟨k1, k2, k3⟩ := h.read q2 q5 q3 q4 g2 g3 g4 g5 (by omega)
          exact ⟨_, E2, rfl, rfl, ⟨s, Q, P, L, _, K, d, st, 0, C, m, Pi, di, Ci, k1⟩, k2, fun _ => k3.trans hv⟩
    · exact absurd d0 e0
  · rw [if_neg (by decide)]
    have hTp : TAPM (bumpE E 2) sz := ⟨h.2.2.1.1, trivial, (wr_o (by decide)).trans h.2.2.1.2.2.1, fun k hk => ⟨by rw [show bumpE E 2 126 = E 126 from wr_row (by decide)]; exact (h.2.2.1.2.2.2 k hk).1, trivial⟩⟩
    refine (ct_X12_moves hG _ Q P L T K d st hWf (h.no hn 2) x0 sz hTp).imp (fun r D' p => ?_)
    rcases p with ⟨e0, -⟩ | ⟨e0, rfl, rfl⟩
    · exact absurd e0 d0
    · obtain ⟨k1, k2⟩ := h.refused hn (show 2 < 3 by decide) 1
      exact ⟨_, _, rfl, rfl, ⟨s, Q, P, L, T, K, d, st, sz, C, m, Pi, di, Ci, k1⟩, k2, fun q => absurd q (by decide)⟩
def MK_4 (n : Nat) (E : Mm) (x0 : Int) (c : Nat) (v : Int) (E1 : Mm) : Prop := ∃ (s : Nat) (Q : RX) (P : SP) (L : LW) (T K : LN) (d st sz : Nat) (C : CHt) (m : Nat) (Pi : Nat → SP) (di : Nat → Nat) (Ci : Nat → CHt), INVg n s Q P L T K d st sz C m Pi di Ci E ∧ ((c = 0 ∧ (0 ≤ x0 ∧ x0 ≤ 100 ∧ x0 ≤ (sz : Int)) ∧ ((¬ (rdB (E 126) x0.toNat P 9).1.2.2.1 = 0 ∧ v = (rdB (E 126) x0.toNat P 9).1.2.2.1 - 10 ∧ CXI E1 s P L T K d ∧ E1 24 4 = E 24 4 ∧ E1 0 18 = E 0 18 ∧ TXO E E1 (rdB (E 126) x0.toNat P 9).1) ∨ ((rdB (E 126) x0.toNat P 9).1.2.2.1 = 0 ∧ v = (((rdB (E 126) x0.toNat P 9).2.1 : Nat) : Int) ∧ CXI E1 s P L T (rdB (E 126) x0.toNat P 9).2 d ∧ E1 24 4 = E 24 4 ∧ E1 0 18 = E 0 18 ∧ TXO E E1 (rdB (E 126) x0.toNat P 9).1))) ∨ (c = 1 ∧ ¬ (0 ≤ x0 ∧ x0 ≤ 100 ∧ x0 ≤ (sz : Int)) ∧ E1 = bumpE E 2))
theorem XK_4 {g : Gw} (hG : GF g) (n : Nat) (E : Mm) (x0 : Int) (hE : INV n E) : CTX g yX11_book cX11_book 2 (some .int) 8 133 1 6 K2 false [mR 0, mI x0] (ov E) K2 false (fun r D' => ∃ (v : Int) (E1 : Mm), r = some (mI v) ∧ D' = ov E1 ∧ MK_4 n E x0 0 v E1) (fun X D' => ∃ (c : Nat) (E1 : Mm), ((c = 1 ∧ X = "java/lang/IllegalArgumentException")) ∧ D' = ov E1 ∧ MK_4 n E x0 c 0 E1) := by
  obtain ⟨s, Q, P, L, T, K, d, st, sz, C, m, Pi, di, Ci, h⟩ := hE
  have e1 : E 1 1 = (sz : Int) := h.2.2.1.2.1
  have e2 := h.2.2.1.1
  refine (ct_X11_book hG E s P L T K d h.1 sz h.2.2.1 x0).imp (fun r D' q => ?_) (fun X D' q => ?_)
  · obtain ⟨c0, q⟩ := q
    rcases q with ⟨q1, rfl, E1, rfl, q2, q3, q4, q5⟩ | ⟨q1, rfl, E1, rfl, q2, q3, q4, q5⟩
    · exact ⟨_, E1, rfl, rfl, s, Q, P, L, T, K, d, st, sz, C, m, Pi, di, Ci, h, Or.inl ⟨rfl, by omega, Or.inl ⟨q1, rfl, q2, q3, q4, q5⟩⟩⟩
    · exact ⟨_, E1, rfl, rfl, s, Q, P, L, T, K, d, st, sz, C, m, Pi, di, Ci, h, Or.inl ⟨rfl, by omega, Or.inr ⟨q1, rfl, q2, q3, q4, q5⟩⟩⟩
  · obtain ⟨c0, rfl, rfl⟩ := q
    exact ⟨1, _, ⟨rfl, rfl⟩, rfl, s, Q, P, L, T, K, d, st, sz, C, m, Pi, di, Ci, h, Or.inr ⟨rfl, by omega, rfl⟩⟩
theorem RK_4 {g : Gw} (hG : GF g) (n : Nat) (hn : n ≤ 4000) (E : Mm) (x0 : Int) (c : Nat) (v : Int) (E1 : Mm) (hM : MK_4 n E x0 c v E1) : CT g yX12_book cX12_book 6 (some .int) 3 65 0 0 K2 false [mR 125, mI x0] (ov (if c = 0 then wr E1 813 0 v else E1)) K2 false (fun r D' => ∃ (bb : Int) (E2 : Mm), r = some (mI bb) ∧ D' = ov E2 ∧ INV (n + 6) E2 ∧ E2 125 0 = (c : Int) ∧ (c = 0 → E2 813 0 = bb)) := by
  obtain ⟨s, Q, P, L, T, K, d, st, sz, C, m, Pi, di, Ci, h, q⟩ := hM
  have hWf := h.wf hn
  rcases q with ⟨rfl, d0, q⟩ | ⟨rfl, d0, rfl⟩
  · rw [if_pos rfl]
    have hX : TXO E E1 (rdB (E 126) x0.toNat P 9).1 := by rcases q with q | q <;> exact q.2.2.2.2.2
    obtain ⟨hR, hTp, e126, _⟩ := h.tape (v := v) hn hX
    refine (ct_X12_book hG _ Q P L T K d st hWf hR x0 sz hTp).imp (fun r D' p => ?_)
    rw [e126] at p
    rcases p with ⟨e0, p⟩ | ⟨e0, -, -⟩
    · rcases q with ⟨q1, hv, q2, q3, q4, q5⟩ | ⟨q1, hv, q2, q3, q4, q5⟩
      · rcases p with ⟨g1, rfl, E2, rfl, g2, g3, g4, g5⟩ | ⟨g1, -⟩
        · obtain ⟨k1, k2, k3⟩ := h.read q2 q5 q3 q4 g2 g3 g4 g5 (by omega)
          exact ⟨_, E2, rfl, rfl, ⟨s, Q, P, L, T, K, d, st, 0, C, m, Pi, di, Ci, k1⟩, k2, fun _ => k3.trans hv⟩
        · exact absurd g1 q1
      · rcases p with ⟨g1, -⟩ | ⟨g1, rfl, E2, rfl, g2, g3, g4, g5⟩
        · exact absurd q1 g1
        · obtain ⟨k1, k2, k3⟩ := h.read q2 q5 q3 q4 g2 g3 g4 g5 (by omega)
          exact ⟨_, E2, rfl, rfl, ⟨s, Q, P, L, T, _, d, st, 0, C, m, Pi, di, Ci, k1⟩, k2, fun _ => k3.trans hv⟩
    · exact absurd d0 e0
  · rw [if_neg (by decide)]
    have hTp : TAPM (bumpE E 2) sz := ⟨h.2.2.1.1, trivial, (wr_o (by decide)).trans h.2.2.1.2.2.1, fun k hk => ⟨by rw [show bumpE E 2 126 = E 126 from wr_row (by decide)]; exact (h.2.2.1.2.2.2 k hk).1, trivial⟩⟩
    refine (ct_X12_book hG _ Q P L T K d st hWf (h.no hn 2) x0 sz hTp).imp (fun r D' p => ?_)
    rcases p with ⟨e0, -⟩ | ⟨e0, rfl, rfl⟩
    · exact absurd e0 d0
    · obtain ⟨k1, k2⟩ := h.refused hn (show 2 < 3 by decide) 1
      exact ⟨_, _, rfl, rfl, ⟨s, Q, P, L, T, K, d, st, sz, C, m, Pi, di, Ci, k1⟩, k2, fun q => absurd q (by decide)⟩
