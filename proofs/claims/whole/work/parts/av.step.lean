def MK_24 (n : Nat) (E : Mm) (x0 : Int) (c : Nat) (v : Int) (E1 : Mm) : Prop := ∃ (s : Nat) (Q : RX) (P : SP) (L : LW) (T K : LN) (d st sz : Nat) (C : CHt) (m : Nat) (Pi : Nat → SP) (di : Nat → Nat) (Ci : Nat → CHt), INVg n s Q P L T K d st sz C m Pi di Ci E ∧ ((c = 0 ∧ (0 ≤ x0 ∧ x0 ≤ (sN P : Int) - 1) ∧ v = ((((dN (dyP (dropP (gNow P L d) x0.toNat) (sB P) T 24) : Nat) : Int) - ((dN (dyP (gNow P L d) (sB P) T 24) : Nat) : Int)) : Int) ∧ CXI E1 s P L T K d ∧ CXF E E1) ∨ (c = 1 ∧ (¬ (0 ≤ x0 ∧ x0 ≤ (sN P : Int) - 1)) ∧ E1 = bumpE E 1))
theorem XK_24 {g : Gw} (hG : GF g) (n : Nat) (E : Mm) (x0 : Int) (hE : INV n E) : CTX g yX11_worth cX11_worth 2 (some .int) 7 146 1 6 K2 false [mR 0, mI x0] (ov E) K2 false (fun r D' => ∃ (v : Int) (E1 : Mm), r = some (mI v) ∧ D' = ov E1 ∧ MK_24 n E x0 0 v E1) (fun X D' => ∃ (c : Nat) (E1 : Mm), ((c = 1 ∧ X = "java/util/NoSuchElementException")) ∧ D' = ov E1 ∧ MK_24 n E x0 c 0 E1) := by
  obtain ⟨s, Q, P, L, T, K, d, st, sz, C, m, Pi, di, Ci, h⟩ := hE
  refine (ct_X11_worth hG E s P L T K d h.1 x0).imp (fun r D' q => ?_) (fun X D' q => ?_)
  · obtain ⟨c0, rfl, E1, rfl, hI, hX⟩ := q
    exact ⟨_, E1, rfl, rfl, s, Q, P, L, T, K, d, st, sz, C, m, Pi, di, Ci, h, Or.inl ⟨rfl, by omega, rfl, hI, hX⟩⟩
  · rcases q with ⟨c0, rfl, rfl⟩
    · exact ⟨1, _, ⟨rfl, rfl⟩, rfl, s, Q, P, L, T, K, d, st, sz, C, m, Pi, di, Ci, h, Or.inr (⟨rfl, by omega, rfl⟩)⟩
theorem RK_24 {g : Gw} (hG : GF g) (n : Nat) (hn : n ≤ 4000) (E : Mm) (x0 : Int) (c : Nat) (v : Int) (E1 : Mm) (hM : MK_24 n E x0 c v E1) : CT g yX12_worth cX12_worth 6 (some .int) 8 176 0 0 K2 false [mR 125, mI x0] (ov (if c = 0 then wr E1 813 0 v else E1)) K2 false (fun r D' => ∃ (bb : Int) (E2 : Mm), r = some (mI bb) ∧ D' = ov E2 ∧ INV (n + 6) E2 ∧ E2 125 0 = (c : Int) ∧ (c = 0 → E2 813 0 = bb)) := by
  obtain ⟨s, Q, P, L, T, K, d, st, sz, C, m, Pi, di, Ci, h, q⟩ := hM
  have hWf := h.wf hn
  rcases q with ⟨rfl, d0, hv, hI, hX⟩ | ⟨rfl, d0, rfl⟩
  · rw [if_pos rfl]
    refine (ct_X12_worth hG _ Q P L T K d st hWf (h.ask hn hX) x0).imp (fun r D' q => ?_)
    rcases q with ⟨e0, rfl, E2, rfl, hO⟩ | ⟨e0, -, -⟩
    · obtain ⟨k1, k2, k3⟩ := h.told hI hX hO
      exact ⟨_, E2, rfl, rfl, ⟨s, Q, P, L, T, K, d, st, sz, C, m, Pi, di, Ci, k1⟩, k2, fun _ => k3.trans (hv.trans (by rw [hid_dyP (G := gNow P L d) (gOf_WG hWf.1 hWf.2.2.1 (moonP_in P d).2) hWf.1.B hWf.2.2.2.1 (show x0.toNat < sN P by omega) (fun q h1 h2 => hWf.2.1 q x0.toNat h1 (by omega) h2)]; rfl))⟩
    · exfalso; omega
  · rw [if_neg (by decide)]
    refine (ct_X12_worth hG _ Q P L T K d st hWf (h.no hn 1) x0).imp (fun r D' q => ?_)
    rcases q with ⟨e0, -⟩ | ⟨e0, rfl, rfl⟩
    · exfalso; omega
    · obtain ⟨k1, k2⟩ := h.refused hn (show 1 < 3 by decide) 1
      exact ⟨_, _, rfl, rfl, ⟨s, Q, P, L, T, K, d, st, sz, C, m, Pi, di, Ci, k1⟩, k2, fun q => absurd q (by decide)⟩
def MK_22 (n : Nat) (E : Mm) (x0 x1 x2 : Int) (c : Nat) (v : Int) (E1 : Mm) : Prop := ∃ (s : Nat) (Q : RX) (P : SP) (L : LW) (T K : LN) (d st sz : Nat) (C : CHt) (m : Nat) (Pi : Nat → SP) (di : Nat → Nat) (Ci : Nat → CHt), INVg n s Q P L T K d st sz C m Pi di Ci E ∧ ((c = 0 ∧ ((0 ≤ x0 ∧ x0 ≤ ((2 ^ bN (sB P) : Nat) : Int) - 1) ∧ (0 ≤ x1 ∧ x1 ≤ 9) ∧ (0 ≤ x2 ∧ x2 ≤ 1)) ∧ (∃ v' r0, LITr (sW P) (sLc P) (gnP (gNow P L d) (sB P) T x1.toNat) (GDl P L T d x0.toNat) v' r0 ∧ v = (if v' = -1 ∨ x2 = 0 then v' else r0)) ∧ CXI E1 s P L T K d ∧ CXF E E1) ∨ (c = 1 ∧ ¬ ((0 ≤ x0 ∧ x0 ≤ ((2 ^ bN (sB P) : Nat) : Int) - 1) ∧ (0 ≤ x1 ∧ x1 ≤ 9) ∧ (0 ≤ x2 ∧ x2 ≤ 1)) ∧ E1 = bumpE E 2))
theorem XK_22 {g : Gw} (hG : GF g) (n : Nat) (E : Mm) (x0 x1 x2 : Int) (hE : INV n E) : CTX g yX11_lit cX11_lit 5 (some .int) 9 234 3 18 K2 false [mR 0, mI x0, mI x1, mI x2] (ov E) K2 false (fun r D' => ∃ (v : Int) (E1 : Mm), r = some (mI v) ∧ D' = ov E1 ∧ MK_22 n E x0 x1 x2 0 v E1) (fun X D' => ∃ (c : Nat) (E1 : Mm), ((c = 1 ∧ X = "java/lang/IllegalArgumentException")) ∧ D' = ov E1 ∧ MK_22 n E x0 x1 x2 c 0 E1) := by
  obtain ⟨s, Q, P, L, T, K, d, st, sz, C, m, Pi, di, Ci, h⟩ := hE
  refine (ct_X11_lit hG E s P L T K d h.1 x0 x1 x2).imp (fun r D' q => ?_) (fun X D' q => ?_)
  · obtain ⟨c0, c1, c2, v', r0, hl, rfl, E1, rfl, hI, hX⟩ := q
    exact ⟨_, E1, rfl, rfl, s, Q, P, L, T, K, d, st, sz, C, m, Pi, di, Ci, h, Or.inl ⟨rfl, ⟨c0, c1, c2⟩, ⟨v', r0, hl, rfl⟩, hI, hX⟩⟩
  · rcases q with ⟨c0, rfl, rfl⟩ | ⟨c0, c1, rfl, rfl⟩ | ⟨c0, c1, c2, rfl, rfl⟩
    · exact ⟨1, _, ⟨rfl, rfl⟩, rfl, s, Q, P, L, T, K, d, st, sz, C, m, Pi, di, Ci, h, Or.inr ⟨rfl, fun q => c0 q.1, rfl⟩⟩
    · exact ⟨1, _, ⟨rfl, rfl⟩, rfl, s, Q, P, L, T, K, d, st, sz, C, m, Pi, di, Ci, h, Or.inr ⟨rfl, fun q => c1 q.2.1, rfl⟩⟩
    · exact ⟨1, _, ⟨rfl, rfl⟩, rfl, s, Q, P, L, T, K, d, st, sz, C, m, Pi, di, Ci, h, Or.inr ⟨rfl, fun q => c2 q.2.2, rfl⟩⟩
theorem RK_22 {g : Gw} (hG : GF g) (n : Nat) (hn : n ≤ 4000) (E : Mm) (x0 x1 x2 : Int) (c : Nat) (v : Int) (E1 : Mm) (hM : MK_22 n E x0 x1 x2 c v E1) : CT g yX12_lit cX12_lit 5 (some .int) 9 223 0 0 K2 false [mR 125, mI x0, mI x1, mI x2] (ov (if c = 0 then wr E1 813 0 v else E1)) K2 false (fun r D' => ∃ (bb : Int) (E2 : Mm), r = some (mI bb) ∧ D' = ov E2 ∧ INV (n + 6) E2 ∧ E2 125 0 = (c : Int) ∧ (c = 0 → E2 813 0 = bb)) := by
  obtain ⟨s, Q, P, L, T, K, d, st, sz, C, m, Pi, di, Ci, h, q⟩ := hM
  have hWf := h.wf hn
  rcases q with ⟨rfl, d0, ⟨v1, r1, hl, hv⟩, hI, hX⟩ | ⟨rfl, d0, rfl⟩
  · rw [if_pos rfl]
    refine (ct_X12_lit hG _ Q P L T K d st hWf (h.ask hn hX) x0 x1 x2).imp (fun r D' q => ?_)
    rcases q with ⟨e0, v2, r2, hl2, rfl, E2, rfl, hO⟩ | ⟨e0, -, -⟩
    · obtain ⟨k1, k2, k3⟩ := h.told hI hX hO
      exact ⟨_, E2, rfl, rfl, ⟨s, Q, P, L, T, K, d, st, sz, C, m, Pi, di, Ci, k1⟩, k2, fun _ => k3.trans (hv.trans (lit_both hWf.1 hWf.2.2.2.1 hl hl2))⟩
    · exact absurd d0 e0
  · rw [if_neg (by decide)]
    refine (ct_X12_lit hG _ Q P L T K d st hWf (h.no hn 2) x0 x1 x2).imp (fun r D' q => ?_)
    rcases q with ⟨e0, -⟩ | ⟨e0, rfl, rfl⟩
    · exact absurd e0 d0
    · obtain ⟨k1, k2⟩ := h.refused hn (show 2 < 3 by decide) 1
      exact ⟨_, _, rfl, rfl, ⟨s, Q, P, L, T, K, d, st, sz, C, m, Pi, di, Ci, k1⟩, k2, fun q => absurd q (by decide)⟩
section
variable {n s d st sz m : Nat} {Q : RX} {P : SP} {L : LW} {T K : LN} {C : CHt} {Pi : Nat → SP} {di : Nat → Nat} {Ci : Nat → CHt} {E E1 : Mm}
theorem RXI.day {x0 : Int} (h : RXI E1 Q P L T K d st) (hx : 0 ≤ x0) : RXI (wr E1 125 45 x0) Q P L T K x0.toNat st := by
  obtain ⟨h1, h2, h3, h4, h5, h6⟩ := h
  refine ⟨?_, ?_, ?_, ?_, ?_, ?_⟩
  · obtain ⟨q1, q2, ⟨q3, q4, q5⟩, q6, ⟨q7, q8⟩, ⟨q9, q10⟩, q11⟩ := h1
    refine ⟨by unfold RTo at q1 ⊢; rw [wr_row (by omega)]; exact q1, fun p hp => ?_, ⟨q3, fun k hk => ?_, q5⟩, fun k hk => ?_, ⟨fun k hk => ?_, q8⟩, ⟨fun k hk => ?_, q10⟩, fun b hb => ?_⟩
    · rw [wr_row (by omega)]; exact q2 p hp
    · rw [wr_row (by omega)]; exact q4 k hk
    · rw [wr_row (by omega)]; exact q6 k hk
    · rw [wr_row (by omega)]; exact q7 k hk
    · rw [wr_row (by omega)]; exact q9 k hk
    · rw [wr_row (by omega), wr_row (by omega)]; exact q11 b hb
  · unfold RLw at h2 ⊢
    rw [wr_o (by omega)]
    rcases h2 with q | ⟨q1, q2⟩
    · exact Or.inl q
    · exact Or.inr ⟨q1, fun i hi => by rw [wr_row (by omega)]; exact q2 i hi⟩
  · exact h3.fr (wr_o (by omega)) (wr_row (by omega)) (wr_row (by omega))
  · exact ⟨(wr_o (by omega)).trans h4.1, fun i hi => by rw [wr_row (by omega)]; exact h4.2 i hi⟩
  · exact ⟨(wr_o (by omega)).trans h5.1, fun i hi => by rw [wr_row (by omega)]; exact h5.2 i hi⟩
  · rw [wr_s]; omega
/-- the day is another -/
theorem INVg.day {v x0 : Int} {E2 : Mm} (h : INVg n s Q P L T K d st sz C m Pi di Ci E) (hn : n ≤ 4000) (hx : 0 ≤ x0 ∧ x0 ≤ 399) (hI : CXI E1 s P L T K x0.toNat) (hX : ∀ q, q ≠ 0 → E1 q = E q) (h18 : E1 0 18 = E 0 18) (hO : RXO (wr E1 813 0 v) E2 Q P L T K d st) : INVg (n + 6) s Q P L T K x0.toNat st sz C m Pi di Ci (wr E2 125 45 x0) ∧ wr E2 125 45 x0 125 0 = 0 ∧ wr E2 125 45 x0 813 0 = v := by
  obtain ⟨o1, ⟨o2, o3⟩, o4, o5⟩ := hO
  have hR := o1.day hx.1
  have hq : ∀ q, ¬ (q = 0 ∨ q = 125 ∨ (142 ≤ q ∧ q ≤ 152) ∨ (209 ≤ q ∧ q ≤ 217) ∨ (576 ≤ q ∧ q ≤ 579) ∨ (658 ≤ q ∧ q ≤ 813)) → wr E2 125 45 x0 q = E q := fun q hq => by
    rw [wr_row (by omega)]
    by_cases e : q = 127
    · rw [e, o5, wr_row (by omega), hX 127 (by omega)]
    · rw [o2 q (by omega), wr_row (by omega), hX q (by omega)]
  have hc : ∀ q, q < 125 → wr E2 125 45 x0 q = E1 q := fun q hq => (wr_row (by omega)).trans ((o2 q (by omega)).trans (wr_row (by omega)))
  have h5 : ∀ k, k = 1 ∨ k = 3 ∨ k = 46 ∨ k = 47 → wr E2 125 45 x0 125 k = E 125 k := fun k hk => (wr_o (by omega)).trans ((o3 k (by omega)).trans ((wr_o (by omega)).trans (by rw [hX 125 (by omega)])))
  obtain ⟨i1, i2, ⟨t1, t2, t3, t4⟩, f1, f2, f3, ⟨c1, c2, c3⟩, ⟨m1, m2, m3⟩, im⟩ := h
  refine ⟨⟨hI.fr2 (fun q a => hc q (by rcases hI.sa with e | e <;> omega)), hR, ⟨t1, by rw [hq 1 (by omega)]; exact t2, (h5 1 (by omega)).trans t3, by rw [hq 126 (by omega), hq 2 (by omega)]; exact t4⟩, by rw [hq 1 (by omega), h5 3 (by omega)]; exact f1, by rw [hq 3 (by omega), hq 127 (by omega)]; exact f2, by omega, ⟨c1.fr (fun q a b => hq q (by omega)), c2, c3.fr c2.1 (fun q a b => hq q (by omega)) (h5 46 (by omega))⟩, ⟨by rw [hc 0 (by omega), h18]; exact m1, (h5 47 (by omega)).trans m2, m3⟩, fun i hi => (im i hi).fr (fun q a => hq q (by omega))⟩, (wr_o (by omega)).trans o4, by rw [wr_o (by omega), o2 813 (by omega), wr_s]⟩
/-- nothing but the reference's thrown is written -/
theorem INVg.z (h : INVg n s Q P L T K d st sz C m Pi di Ci E) (hn : n ≤ 4000) : INVg (n + 6) s Q P L T K d st sz C m Pi di Ci (wr E 125 0 0) :=
  h.fr (by omega) (h.1.fr2 (fun q a => wr_row (by rcases h.1.sa with e | e <;> omega))) (h.2.1.fr2 (h.wf hn) (fun q a => wr_row (by omega)) (fun k a => wr_o (by omega))) (fun q a => wr_row (by omega)) (wr_o (by omega)) (fun k a => wr_o (by omega))
theorem INVg.z8 {v : Int} (h : INVg n s Q P L T K d st sz C m Pi di Ci E) (hn : n ≤ 4000) : INVg (n + 6) s Q P L T K d st sz C m Pi di Ci (wr (wr E 813 0 v) 125 0 0) :=
  h.fr (by omega) (h.1.fr2 (fun q a => (wr_row (by rcases h.1.sa with e | e <;> omega)).trans (wr_row (by rcases h.1.sa with e | e <;> omega)))) (h.2.1.fr2 (h.wf hn) (fun q a => (wr_row (by omega)).trans (wr_row (by omega))) (fun k a => (wr_o (by omega)).trans (wr_o (by omega)))) (fun q a => (wr_row (by omega)).trans (wr_row (by omega))) ((wr_o (by omega)).trans (wr_o (by omega))) (fun k a => (wr_o (by omega)).trans (wr_o (by omega)))
theorem told_both {x v : Int} (h : INVg n s Q P L T K d st sz C m Pi di Ci E) (hx : 0 ≤ x ∧ x ≤ 8) : toldX E s x = toldM (wr E 813 0 v) x := by
  obtain ⟨hC, hR, _⟩ := h
  have hS := hC.S
  obtain ⟨r0, r1, r2, r3, r4, r5, r6, r7⟩ := hR.1.1
  unfold toldX toldM
  rcases (show x = 0 ∨ x = 1 ∨ x = 2 ∨ x = 3 ∨ x = 4 ∨ x = 5 ∨ x = 6 ∨ x = 7 ∨ x = 8 by omega) with rfl | rfl | rfl | rfl | rfl | rfl | rfl | rfl | rfl
  · rw [if_pos rfl, if_pos (by decide), wr_row (by decide)]; exact hS.W.trans r0.symm
  · rw [if_neg (by decide), if_pos rfl, if_pos (by decide), wr_row (by decide)]; exact hS.N.trans r1.symm
  · simp only [show ¬ (2 : Int) = 0 by decide, show ¬ (2 : Int) = 1 by decide, show ¬ (2 : Int) ≤ 1 by decide, if_false, if_true]; rw [wr_o (by decide)]; exact hS.B.N.trans r6.symm
  · simp only [show ¬ (3 : Int) = 0 by decide, show ¬ (3 : Int) = 1 by decide, show ¬ (3 : Int) = 2 by decide, show ¬ (3 : Int) ≤ 1 by decide, if_false, if_true]; rw [wr_o (by decide)]; exact hS.Ln.trans r5.symm
  · simp only [show ¬ (4 : Int) = 0 by decide, show ¬ (4 : Int) = 1 by decide, show ¬ (4 : Int) = 2 by decide, show ¬ (4 : Int) = 3 by decide, show ¬ (4 : Int) ≤ 1 by decide, if_false, if_true]; rw [wr_o (by decide)]; exact hS.Cn.trans r4.symm
  · simp only [show ¬ (5 : Int) = 0 by decide, show ¬ (5 : Int) = 1 by decide, show ¬ (5 : Int) = 2 by decide, show ¬ (5 : Int) = 3 by decide, show ¬ (5 : Int) = 4 by decide, show ¬ (5 : Int) ≤ 1 by decide, if_false, if_true]; rw [wr_o (by decide)]; exact hS.M.trans r3.symm
  · simp only [show ¬ (6 : Int) = 0 by decide, show ¬ (6 : Int) = 1 by decide, show ¬ (6 : Int) = 2 by decide, show ¬ (6 : Int) = 3 by decide, show ¬ (6 : Int) = 4 by decide, show ¬ (6 : Int) = 5 by decide, show ¬ (6 : Int) ≤ 1 by decide, if_false, if_true]; rw [wr_o (by decide)]; exact hC.Tn.n.trans hR.2.2.2.1.1.symm
  · simp only [show ¬ (7 : Int) = 0 by decide, show ¬ (7 : Int) = 1 by decide, show ¬ (7 : Int) = 2 by decide, show ¬ (7 : Int) = 3 by decide, show ¬ (7 : Int) = 4 by decide, show ¬ (7 : Int) = 5 by decide, show ¬ (7 : Int) = 6 by decide, show ¬ (7 : Int) ≤ 1 by decide, if_false, if_true]; rw [wr_o (by decide)]; exact hC.Kn.n.trans hR.2.2.2.2.1.1.symm
  · simp only [show ¬ (8 : Int) = 0 by decide, show ¬ (8 : Int) = 1 by decide, show ¬ (8 : Int) = 2 by decide, show ¬ (8 : Int) = 3 by decide, show ¬ (8 : Int) = 4 by decide, show ¬ (8 : Int) = 5 by decide, show ¬ (8 : Int) = 6 by decide, show ¬ (8 : Int) = 7 by decide, show ¬ (8 : Int) ≤ 1 by decide, if_false]; rw [wr_o (by decide)]; exact hC.dy.trans hR.2.2.2.2.2.symm
end
def MK_19 (n : Nat) (E : Mm) (x0 : Int) (c : Nat) (v : Int) (E1 : Mm) : Prop := ∃ (s : Nat) (Q : RX) (P : SP) (L : LW) (T K : LN) (d st sz : Nat) (C : CHt) (m : Nat) (Pi : Nat → SP) (di : Nat → Nat) (Ci : Nat → CHt), INVg n s Q P L T K d st sz C m Pi di Ci E ∧ ((c = 0 ∧ (0 ≤ x0 ∧ x0 ≤ 399) ∧ v = (d : Int) ∧ CXI E1 s P L T K x0.toNat ∧ (∀ q, q ≠ 0 → E1 q = E q) ∧ E1 0 18 = E 0 18) ∨ (c = 1 ∧ ¬ (0 ≤ x0 ∧ x0 ≤ 399) ∧ E1 = bumpE E 2))
theorem XK_19 {g : Gw} (hG : GF g) (n : Nat) (E : Mm) (x0 : Int) (hE : INV n E) : CTX g yX11_day cX11_day 3 (some .int) 8 132 1 6 K2 false [mR 0, mI x0] (ov E) K2 false (fun r D' => ∃ (v : Int) (E1 : Mm), r = some (mI v) ∧ D' = ov E1 ∧ MK_19 n E x0 0 v E1) (fun X D' => ∃ (c : Nat) (E1 : Mm), ((c = 1 ∧ X = "java/lang/IllegalArgumentException")) ∧ D' = ov E1 ∧ MK_19 n E x0 c 0 E1) := by
  obtain ⟨s, Q, P, L, T, K, d, st, sz, C, m, Pi, di, Ci, h⟩ := hE
  refine (ct_X11_day hG E s P L T K d h.1 x0).imp (fun r D' q => ?_) (fun X D' q => ?_)
  · obtain ⟨c0, rfl, E1, rfl, hI, hX, h18⟩ := q
    exact ⟨_, E1, rfl, rfl, s, Q, P, L, T, K, d, st, sz, C, m, Pi, di, Ci, h, Or.inl ⟨rfl, c0, rfl, hI, hX, h18⟩⟩
  · obtain ⟨c0, rfl, rfl⟩ := q
    exact ⟨1, _, ⟨rfl, rfl⟩, rfl, s, Q, P, L, T, K, d, st, sz, C, m, Pi, di, Ci, h, Or.inr ⟨rfl, c0, rfl⟩⟩
theorem RK_19 {g : Gw} (hG : GF g) (n : Nat) (hn : n ≤ 4000) (E : Mm) (x0 : Int) (c : Nat) (v : Int) (E1 : Mm) (hM : MK_19 n E x0 c v E1) : CT g yX12_day cX12_day 3 (some .int) 1 23 0 0 K2 false [mR 125, mI x0] (ov (if c = 0 then wr E1 813 0 v else E1)) K2 false (fun r D' => ∃ (bb : Int) (E2 : Mm), r = some (mI bb) ∧ D' = ov E2 ∧ INV (n + 6) E2 ∧ E2 125 0 = (c : Int) ∧ (c = 0 → E2 813 0 = bb)) := by
  obtain ⟨s, Q, P, L, T, K, d, st, sz, C, m, Pi, di, Ci, h, q⟩ := hM
  have hWf := h.wf hn
  rcases q with ⟨rfl, d0, rfl, hI, hX, h18⟩ | ⟨rfl, d0, rfl⟩
  · rw [if_pos rfl]
    have hR : RXI (wr E1 813 0 ((d : Nat) : Int)) Q P L T K d st := h.2.1.fr2 hWf (fun q hq => (wr_row (by omega)).trans (hX q (by omega))) (fun k _ => (wr_o (by omega)).trans (by rw [hX 125 (by omega)]))
    refine (ct_X12_day hG _ Q P L T K d st hWf hR x0).imp (fun r D' q => ?_)
    rcases q with ⟨e0, rfl, E2, rfl, hO⟩ | ⟨e0, -, -⟩
    · obtain ⟨k1, k2, k3⟩ := h.day hn d0 hI hX h18 hO
      exact ⟨_, _, rfl, rfl, ⟨s, Q, P, L, T, K, x0.toNat, st, sz, C, m, Pi, di, Ci, k1⟩, k2, fun _ => k3⟩
    · exact absurd d0 e0
  · rw [if_neg (by decide)]
    refine (ct_X12_day hG _ Q P L T K d st hWf (h.no hn 2) x0).imp (fun r D' q => ?_)
    rcases q with ⟨e0, -⟩ | ⟨e0, rfl, rfl⟩
    · exact absurd e0 d0
    · obtain ⟨k1, k2⟩ := h.refused hn (show 2 < 3 by decide) 1
      exact ⟨_, _, rfl, rfl, ⟨s, Q, P, L, T, K, d, st, sz, C, m, Pi, di, Ci, k1⟩, k2, fun q => absurd q (by decide)⟩
def MK_6 (n : Nat) (E : Mm) (x0 : Int) (c : Nat) (v : Int) (E1 : Mm) : Prop := ∃ (s : Nat) (Q : RX) (P : SP) (L : LW) (T K : LN) (d st sz : Nat) (C : CHt) (m : Nat) (Pi : Nat → SP) (di : Nat → Nat) (Ci : Nat → CHt), INVg n s Q P L T K d st sz C m Pi di Ci E ∧ ((c = 0 ∧ (0 ≤ x0 ∧ x0 ≤ 8) ∧ v = toldX E s x0 ∧ E1 = E) ∨ (c = 1 ∧ ¬ (0 ≤ x0 ∧ x0 ≤ 8) ∧ E1 = bumpE E 2))
theorem XK_6 {g : Gw} (hG : GF g) (n : Nat) (E : Mm) (x0 : Int) (hE : INV n E) : CTX g yX11_told cX11_told 2 (some .int) 7 111 1 6 K2 false [mR 0, mI x0] (ov E) K2 false (fun r D' => ∃ (v : Int) (E1 : Mm), r = some (mI v) ∧ D' = ov E1 ∧ MK_6 n E x0 0 v E1) (fun X D' => ∃ (c : Nat) (E1 : Mm), ((c = 1 ∧ X = "java/lang/IllegalArgumentException")) ∧ D' = ov E1 ∧ MK_6 n E x0 c 0 E1) := by
  obtain ⟨s, Q, P, L, T, K, d, st, sz, C, m, Pi, di, Ci, h⟩ := hE
  refine (ct_X11_told hG E x0 s h.1.sa h.1.now).imp (fun r D' q => ?_) (fun X D' q => ?_)
  · obtain ⟨c0, rfl, rfl⟩ := q
    exact ⟨_, E, rfl, rfl, s, Q, P, L, T, K, d, st, sz, C, m, Pi, di, Ci, h, Or.inl ⟨rfl, c0, rfl, rfl⟩⟩
  · obtain ⟨c0, rfl, rfl⟩ := q
    exact ⟨1, _, ⟨rfl, rfl⟩, rfl, s, Q, P, L, T, K, d, st, sz, C, m, Pi, di, Ci, h, Or.inr ⟨rfl, c0, rfl⟩⟩
theorem RK_6 {g : Gw} (hG : GF g) (n : Nat) (hn : n ≤ 4000) (E : Mm) (x0 : Int) (c : Nat) (v : Int) (E1 : Mm) (hM : MK_6 n E x0 c v E1) : CT g yX12_told cX12_told 2 (some .int) 1 23 0 0 K2 false [mR 125, mI x0] (ov (if c = 0 then wr E1 813 0 v else E1)) K2 false (fun r D' => ∃ (bb : Int) (E2 : Mm), r = some (mI bb) ∧ D' = ov E2 ∧ INV (n + 6) E2 ∧ E2 125 0 = (c : Int) ∧ (c = 0 → E2 813 0 = bb)) := by
  obtain ⟨s, Q, P, L, T, K, d, st, sz, C, m, Pi, di, Ci, h, q⟩ := hM
  rcases q with ⟨rfl, d0, rfl, rfl⟩ | ⟨rfl, d0, rfl⟩
  · rw [if_pos rfl]
    refine (ct_X12_told hG _ x0).imp (fun r D' q => ?_)
    obtain ⟨rfl, rfl⟩ := q
    rw [if_pos d0, if_pos d0]
    exact ⟨_, _, rfl, rfl, ⟨s, Q, P, L, T, K, d, st, sz, C, m, Pi, di, Ci, h.z8 hn⟩, wr_s _ _ _ _, fun _ => by rw [wr_o (by decide), wr_s]; exact told_both h d0⟩
  · rw [if_neg (by decide)]
    refine (ct_X12_told hG _ x0).imp (fun r D' q => ?_)
    obtain ⟨rfl, rfl⟩ := q
    rw [if_neg d0, if_neg d0]
    have e : badE (wr (bumpE E 2) 125 0 0) 1 1 2 = badR (bumpE E 2) 1 2 := by
      unfold badE
      rw [if_pos ⟨by decide, wr_s _ _ _ _⟩]
      exact badR_of rfl
    rw [e]
    obtain ⟨k1, k2⟩ := h.refused hn (show 2 < 3 by decide) 1
    exact ⟨_, _, rfl, rfl, ⟨s, Q, P, L, T, K, d, st, sz, C, m, Pi, di, Ci, k1⟩, k2, fun q => absurd q (by decide)⟩
def MK_5 (n : Nat) (E : Mm) (v : Int) (E1 : Mm) : Prop := ∃ (s : Nat) (Q : RX) (P : SP) (L : LW) (T K : LN) (d st sz : Nat) (C : CHt) (m : Nat) (Pi : Nat → SP) (di : Nat → Nat) (Ci : Nat → CHt), INVg n s Q P L T K d st sz C m Pi di Ci E ∧ v = E 1 6 ∧ E1 = E
theorem XK_5 {g : Gw} (hG : GF g) (n : Nat) (E : Mm) (hE : INV n E) : CT g yX11_fault cX11_fault 1 (some .int) 0 0 0 0 K2 false [mR 0] (ov E) K2 false (fun r D' => ∃ (v : Int) (E1 : Mm), r = some (mI v) ∧ D' = ov E1 ∧ MK_5 n E  v E1) := by
  obtain ⟨s, Q, P, L, T, K, d, st, sz, C, m, Pi, di, Ci, h⟩ := hE
  refine (ct_X11_fault hG E).imp (fun r D' q => ?_)
  obtain ⟨rfl, rfl⟩ := q
  exact ⟨_, E, rfl, rfl, s, Q, P, L, T, K, d, st, sz, C, m, Pi, di, Ci, h, rfl, rfl⟩
theorem RK_5 {g : Gw} (hG : GF g) (n : Nat) (hn : n ≤ 4000) (E : Mm) (v : Int) (E1 : Mm) (hM : MK_5 n E  v E1) : CT g yX12_fault cX12_fault 1 (some .int) 0 0 0 0 K2 false [mR 125] (ov E1) K2 false (fun r D' => ∃ E2 : Mm, r = some (mI v) ∧ D' = ov E2 ∧ INV (n + 6) E2) := by
  obtain ⟨s, Q, P, L, T, K, d, st, sz, C, m, Pi, di, Ci, h, rfl, rfl⟩ := hM
  refine (ct_X12_fault hG _).imp (fun r D' q => ?_)
  obtain ⟨rfl, rfl⟩ := q
  exact ⟨_, by rw [h.2.2.2.1], rfl, s, Q, P, L, T, K, d, st, sz, C, m, Pi, di, Ci, h.z hn⟩
def MK_50 (n : Nat) (E : Mm) (x0 : Int) (v : Int) (E1 : Mm) : Prop := ∃ (s : Nat) (Q : RX) (P : SP) (L : LW) (T K : LN) (d st sz : Nat) (C : CHt) (m : Nat) (Pi : Nat → SP) (di : Nat → Nat) (Ci : Nat → CHt), INVg n s Q P L T K d st sz C m Pi di Ci E ∧ v = (if 0 ≤ x0 ∧ x0 ≤ 2 then E 3 x0.toNat else -1) ∧ E1 = E
theorem XK_50 {g : Gw} (hG : GF g) (n : Nat) (E : Mm) (x0 : Int) (hE : INV n E) : CT g yX11_status cX11_status 2 (some .int) 0 0 0 0 K2 false [mR 0, mI x0] (ov E) K2 false (fun r D' => ∃ (v : Int) (E1 : Mm), r = some (mI v) ∧ D' = ov E1 ∧ MK_50 n E x0 v E1) := by
  obtain ⟨s, Q, P, L, T, K, d, st, sz, C, m, Pi, di, Ci, h⟩ := hE
  refine (ct_X11_status hG E x0).imp (fun r D' q => ?_)
  obtain ⟨rfl, rfl⟩ := q
  exact ⟨_, E, rfl, rfl, s, Q, P, L, T, K, d, st, sz, C, m, Pi, di, Ci, h, rfl, rfl⟩
theorem RK_50 {g : Gw} (hG : GF g) (n : Nat) (hn : n ≤ 4000) (E : Mm) (x0 : Int) (v : Int) (E1 : Mm) (hM : MK_50 n E x0 v E1) : CT g yX12_status cX12_status 2 (some .int) 1 22 0 0 K2 false [mR 125, mI x0] (ov E1) K2 false (fun r D' => ∃ E2 : Mm, r = some (mI v) ∧ D' = ov E2 ∧ INV (n + 6) E2) := by
  obtain ⟨s, Q, P, L, T, K, d, st, sz, C, m, Pi, di, Ci, h, rfl, rfl⟩ := hM
  refine (ct_X12_status hG _ x0).imp (fun r D' q => ?_)
  obtain ⟨rfl, rfl⟩ := q
  refine ⟨_, ?_, rfl, s, Q, P, L, T, K, d, st, sz, C, m, Pi, di, Ci, h.z hn⟩
  by_cases c : 0 ≤ x0 ∧ x0 ≤ 2
  · rw [if_pos c, if_pos c, h.2.2.2.2.1 x0.toNat (by omega)]
  · rw [if_neg c, if_neg c]
def MK_51 (n : Nat) (E : Mm) (x0 : Int) (v : Int) (E1 : Mm) : Prop := ∃ (s : Nat) (Q : RX) (P : SP) (L : LW) (T K : LN) (d st sz : Nat) (C : CHt) (m : Nat) (Pi : Nat → SP) (di : Nat → Nat) (Ci : Nat → CHt), INVg n s Q P L T K d st sz C m Pi di Ci E ∧ v = (if x0 = 0 then E 0 18 else if x0 = 1 then E 1 1 else if x0 = 2 then E 24 4 else -1) ∧ E1 = E
theorem XK_51 {g : Gw} (hG : GF g) (n : Nat) (E : Mm) (x0 : Int) (hE : INV n E) : CT g yX11_count cX11_count 2 (some .int) 0 0 0 0 K2 false [mR 0, mI x0] (ov E) K2 false (fun r D' => ∃ (v : Int) (E1 : Mm), r = some (mI v) ∧ D' = ov E1 ∧ MK_51 n E x0 v E1) := by
  obtain ⟨s, Q, P, L, T, K, d, st, sz, C, m, Pi, di, Ci, h⟩ := hE
  refine (ct_X11_count hG E x0).imp (fun r D' q => ?_)
  obtain ⟨rfl, rfl⟩ := q
  exact ⟨_, E, rfl, rfl, s, Q, P, L, T, K, d, st, sz, C, m, Pi, di, Ci, h, rfl, rfl⟩
theorem RK_51 {g : Gw} (hG : GF g) (n : Nat) (hn : n ≤ 4000) (E : Mm) (x0 : Int) (v : Int) (E1 : Mm) (hM : MK_51 n E x0 v E1) : CT g yX12_count cX12_count 2 (some .int) 0 0 0 0 K2 false [mR 125, mI x0] (ov E1) K2 false (fun r D' => ∃ E2 : Mm, r = some (mI v) ∧ D' = ov E2 ∧ INV (n + 6) E2) := by
  obtain ⟨s, Q, P, L, T, K, d, st, sz, C, m, Pi, di, Ci, h, rfl, rfl⟩ := hM
  refine (ct_X12_count hG _ x0).imp (fun r D' q => ?_)
  obtain ⟨rfl, rfl⟩ := q
  refine ⟨_, ?_, rfl, s, Q, P, L, T, K, d, st, sz, C, m, Pi, di, Ci, h.z hn⟩
  have e1 : E1 0 18 = E1 125 47 := h.2.2.2.2.2.2.2.1.1.trans h.2.2.2.2.2.2.2.1.2.1.symm
  have e2 : E1 1 1 = E1 125 1 := h.2.2.1.2.1.trans h.2.2.1.2.2.1.symm
  have e3 : E1 24 4 = E1 125 46 := h.2.2.2.2.2.2.1.1.1.trans h.2.2.2.2.2.2.1.2.2.1.symm
  rw [e1, e2, e3]
def MK_0 (n : Nat) (E : Mm) (x0 x1 x2 x3 x4 : Int) (v : Int) (E1 : Mm) : Prop := ∃ (s : Nat) (Q : RX) (P : SP) (L : LW) (T K : LN) (d st sz : Nat) (C : CHt) (m : Nat) (Pi : Nat → SP) (di : Nat → Nat) (Ci : Nat → CHt), INVg n s Q P L T K d st sz C m Pi di Ci E ∧ v = (if sz + 20 ≤ 600 then ((sz + 20 : Nat) : Int) else -1) ∧ E1 = feedX E sz x0 x1 x2 x3 x4
theorem XK_0 {g : Gw} (hG : GF g) (n : Nat) (E : Mm) (x0 x1 x2 x3 x4 : Int) (hE : INV n E) : CT g yX11_feed cX11_feed 6 (some .int) 1 22 0 0 K2 false [mR 0, mI x0, mI x1, mI x2, mI x3, mI x4] (ov E) K2 false (fun r D' => ∃ (v : Int) (E1 : Mm), r = some (mI v) ∧ D' = ov E1 ∧ MK_0 n E x0 x1 x2 x3 x4 v E1) := by
  obtain ⟨s, Q, P, L, T, K, d, st, sz, C, m, Pi, di, Ci, h⟩ := hE
  refine (ct_X11_feed hG E sz x0 x1 x2 x3 x4 h.2.2.1.2.1 h.2.2.1.1).imp (fun r D' q => ?_)
  obtain ⟨rfl, rfl⟩ := q
  exact ⟨_, _, rfl, rfl, s, Q, P, L, T, K, d, st, sz, C, m, Pi, di, Ci, h, rfl, rfl⟩
theorem RK_0 {g : Gw} (hG : GF g) (n : Nat) (hn : n ≤ 4000) (E : Mm) (x0 x1 x2 x3 x4 : Int) (v : Int) (E1 : Mm) (hM : MK_0 n E x0 x1 x2 x3 x4 v E1) : CT g yX12_feed cX12_feed 8 (some .int) 0 0 0 0 K2 false [mR 125, mI x0, mI x1, mI x2, mI x3, mI x4] (ov E1) K2 false (fun r D' => ∃ E2 : Mm, r = some (mI v) ∧ D' = ov E2 ∧ INV (n + 6) E2) := by
  intro ok
  have b : ∀ x : Int, (mI x) ∈ [mR 125, mI x0, mI x1, mI x2, mI x3, mI x4] → -2147483648 ≤ x ∧ x < 2147483648 := fun x hx => ok _ hx
  have b0 := b x0 (by simp)
  have b1 := b x1 (by simp)
  have b2 := b x2 (by simp)
  have b3 := b x3 (by simp)
  have b4 := b x4 (by simp)
  have hw : ∀ k, -2147483648 ≤ w5 x0 x1 x2 x3 x4 k ∧ w5 x0 x1 x2 x3 x4 k < 2147483648 := fun k => by
    unfold w5
    split
    · exact b0
    · split
      · exact b1
      · split
        · exact b2
        · split
          · exact b3
          · exact b4
  revert ok
  obtain ⟨s, Q, P, L, T, K, d, st, sz, C, m, Pi, di, Ci, h, rfl, rfl⟩ := hM
  have hT := tape_feed (x0 := x0) (x1 := x1) (x2 := x2) (x3 := x3) (x4 := x4) h.2.2.1 hw
  have hX : ∀ q, q ≠ 1 → q ≠ 2 → feedX E sz x0 x1 x2 x3 x4 q = E q := fun q a b => funext fun j => feedX_o ⟨Or.inl a, Or.inl b⟩
  have hM : ∀ q, q ≠ 125 → q ≠ 126 → fedM (feedX E sz x0 x1 x2 x3 x4) sz x0 x1 x2 x3 x4 q = feedX E sz x0 x1 x2 x3 x4 q := fun q a b => funext fun j => fedM_o ⟨Or.inl a, Or.inl b⟩
  have hq : ∀ q, q ≠ 1 → q ≠ 2 → q ≠ 125 → q ≠ 126 → fedM (feedX E sz x0 x1 x2 x3 x4) sz x0 x1 x2 x3 x4 q = E q := fun q a b c e => (hM q c e).trans (hX q a b)
  have h5 : ∀ k, k ≠ 0 → k ≠ 1 → fedM (feedX E sz x0 x1 x2 x3 x4) sz x0 x1 x2 x3 x4 125 k = E 125 k := fun k a b => (fedM_o ⟨Or.inr ⟨b, a⟩, Or.inl (by decide)⟩).trans (feedX_o ⟨Or.inl (by decide), Or.inl (by decide)⟩)
  have h1 : ∀ k, k ≠ 1 → fedM (feedX E sz x0 x1 x2 x3 x4) sz x0 x1 x2 x3 x4 1 k = E 1 k := fun k a => (fedM_o ⟨Or.inl (by decide), Or.inl (by decide)⟩).trans (feedX_o ⟨Or.inr a, Or.inl (by decide)⟩)
  have hWf := h.wf hn
  have hsz : feedX E sz x0 x1 x2 x3 x4 125 1 = (sz : Int) := (feedX_o ⟨Or.inl (by decide), Or.inl (by decide)⟩).trans h.2.2.1.2.2.1
  have hz6 := h.2.2.1.1
  obtain ⟨i1, i2, t, f1, f2, f3, ⟨c1, c2, c3⟩, ⟨m1, m2, m3⟩, im⟩ := h
  refine (ct_X12_feed hG _ sz x0 x1 x2 x3 x4 hsz hz6).imp (fun r D' q => ?_)
  obtain ⟨rfl, rfl⟩ := q
  refine ⟨_, rfl, rfl, s, Q, P, L, T, K, d, st, (if sz + 20 ≤ 600 then sz + 20 else sz), C, m, Pi, di, Ci, i1.fr2 (fun q a => hq q (by rcases i1.sa with e | e <;> omega) (by rcases i1.sa with e | e <;> omega) (by rcases i1.sa with e | e <;> omega) (by rcases i1.sa with e | e <;> omega)), i2.fr2 hWf (fun q a => hq q (by omega) (by omega) (by omega) (by omega)) (fun k a => h5 k (by omega) (by omega)), hT, by rw [h1 6 (by decide), h5 3 (by decide) (by decide)]; exact f1, by rw [hq 3 (by decide) (by decide) (by decide) (by decide), hq 127 (by decide) (by decide) (by decide) (by decide)]; exact f2, by omega, ⟨c1.fr (fun q a b => hq q (by omega) (by omega) (by omega) (by omega)), c2, c3.fr c2.1 (fun q a b => hq q (by omega) (by omega) (by omega) (by omega)) (h5 46 (by decide) (by decide))⟩, ⟨by rw [hq 0 (by decide) (by decide) (by decide) (by decide)]; exact m1, (h5 47 (by decide) (by decide)).trans m2, m3⟩, fun i hi => (im i hi).fr (fun q a => hq q (by omega) (by omega) (by omega) (by omega))⟩
