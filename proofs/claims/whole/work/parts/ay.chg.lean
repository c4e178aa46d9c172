def MK_44 (n : Nat) (E : Mm) (x0 x1 : Int) (c : Nat) (v : Int) (E1 : Mm) : Prop := ∃ (s : Nat) (Q : RX) (P : SP) (L : LW) (T K : LN) (d st sz : Nat) (C : CHt) (m : Nat) (Pi : Nat → SP) (di : Nat → Nat) (Ci : Nat → CHt), INVg n s Q P L T K d st sz C m Pi di Ci E ∧ ((c = 0 ∧ (0 ≤ x0 ∧ x0 ≤ (sN P : Int) - 1) ∧ (1 ≤ x1 ∧ x1 ≤ 99) ∧ ((C.1 = 20 ∧ v = -1 ∧ E1 = E) ∨ (C.1 < 20 ∧ v = ((sH P x0.toNat : Nat) : Int) ∧ CXI E1 s (setH P x0.toNat x1.toNat) L T K d ∧ CCh E1 24 (chW C 0 x0.toNat 0 (sH P x0.toNat)) ∧ CHX E E1 s ∧ E1 0 18 = E 0 18))) ∨ (c = 1 ∧ ¬ (0 ≤ x0 ∧ x0 ≤ (sN P : Int) - 1) ∧ E1 = bumpE E 1) ∨ (c = 2 ∧ ((0 ≤ x0 ∧ x0 ≤ (sN P : Int) - 1) ∧ ¬ (1 ≤ x1 ∧ x1 ≤ 99)) ∧ E1 = bumpE E 2))
theorem XK_44 {g : Gw} (hG : GF g) (n : Nat) (E : Mm) (x0 x1 : Int) (hE : INV n E) : CTX g yX11_build cX11_build 4 (some .int) 7 116 2 12 K2 false [mR 0, mI x0, mI x1] (ov E) K2 false (fun r D' => ∃ (v : Int) (E1 : Mm), r = some (mI v) ∧ D' = ov E1 ∧ MK_44 n E x0 x1 0 v E1) (fun X D' => ∃ (c : Nat) (E1 : Mm), ((c = 1 ∧ X = "java/util/NoSuchElementException") ∨ (c = 2 ∧ X = "java/lang/IllegalArgumentException")) ∧ D' = ov E1 ∧ MK_44 n E x0 x1 c 0 E1) := by
  obtain ⟨s, Q, P, L, T, K, d, st, sz, C, m, Pi, di, Ci, h⟩ := hE
  refine (ct_X11_build hG E s P L T K d h.1 x0 x1 C h.2.2.2.2.2.2.1.1 h.2.2.2.2.2.2.1.2.1).imp (fun r D' q => ?_) (fun X D' q => ?_)
  · obtain ⟨c0, c1, q⟩ := q
    rcases q with ⟨q1, rfl, rfl⟩ | ⟨q1, rfl, E1, rfl, q2, q3, q4, q5⟩
    · exact ⟨_, E, rfl, rfl, s, Q, P, L, T, K, d, st, sz, C, m, Pi, di, Ci, h, Or.inl ⟨rfl, c0, c1, Or.inl ⟨q1, rfl, rfl⟩⟩⟩
    · exact ⟨_, E1, rfl, rfl, s, Q, P, L, T, K, d, st, sz, C, m, Pi, di, Ci, h, Or.inl ⟨rfl, c0, c1, Or.inr ⟨q1, rfl, q2, q3, q4, q5⟩⟩⟩
  · rcases q with ⟨c0, rfl, rfl⟩ | ⟨c0, c1, rfl, rfl⟩
    · exact ⟨1, _, Or.inl ⟨rfl, rfl⟩, rfl, s, Q, P, L, T, K, d, st, sz, C, m, Pi, di, Ci, h, Or.inr (Or.inl ⟨rfl, c0, rfl⟩)⟩
    · exact ⟨2, _, Or.inr ⟨rfl, rfl⟩, rfl, s, Q, P, L, T, K, d, st, sz, C, m, Pi, di, Ci, h, Or.inr (Or.inr ⟨rfl, ⟨c0, c1⟩, rfl⟩)⟩
theorem RK_44 {g : Gw} (hG : GF g) (n : Nat) (hn : n ≤ 4000) (E : Mm) (x0 x1 : Int) (c : Nat) (v : Int) (E1 : Mm) (hM : MK_44 n E x0 x1 c v E1) : CT g yX12_build cX12_build 4 (some .int) 3 67 0 0 K2 false [mR 125, mI x0, mI x1] (ov (if c = 0 then wr E1 813 0 v else E1)) K2 false (fun r D' => ∃ (bb : Int) (E2 : Mm), r = some (mI bb) ∧ D' = ov E2 ∧ INV (n + 6) E2 ∧ E2 125 0 = (c : Int) ∧ (c = 0 → E2 813 0 = bb)) := by
  obtain ⟨s, Q, P, L, T, K, d, st, sz, C, m, Pi, di, Ci, h, q⟩ := hM
  have hWf := h.wf hn
  have hN := hWf.1.N
  have h8 := hWf.1.B.N
  have hcE : E 125 46 = (C.1 : Int) := h.2.2.2.2.2.2.1.2.2.1
  have hc20 := h.2.2.2.2.2.2.1.2.1.1
  rcases q with ⟨rfl, d0, d1, q⟩ | ⟨rfl, d0, rfl⟩ | ⟨rfl, d0, rfl⟩
  · rw [if_pos rfl]
    rcases q with ⟨q1, hv, rfl⟩ | ⟨q1, hv, q2, q3, q4, q5⟩
    · refine (ct_X12_build hG _ Q P L T K d st hWf (h.ask hn CXF.rf) x0 x1 C.1 hc20 ((wr_o (by decide)).trans hcE)).imp (fun r D' p => ?_)
      rcases p with ⟨e0, e1, p⟩ | ⟨e0, -, -⟩ | ⟨e0, e1, -, -⟩
      · rcases p with ⟨p1, rfl, E2, rfl, hO⟩ | ⟨p1, -⟩
        · obtain ⟨k1, k2, k3⟩ := h.told h.1 CXF.rf hO
          exact ⟨_, E2, rfl, rfl, ⟨s, Q, P, L, T, K, d, st, sz, C, m, Pi, di, Ci, k1⟩, k2, fun _ => k3.trans hv⟩
        · exact absurd q1 (by omega)
      · exact absurd d0 e0
      · exact absurd d1 e1
    · have hS : ∀ q, 98 ≤ q → q ≠ 813 → wr E1 813 0 v q = E q := fun q a b => (wr_row b).trans (q4.1 q (by have := h.1.sa; omega))
      have hR : RXI (wr E1 813 0 v) Q P L T K d st := h.2.1.fr2 hWf (fun q hq => hS q (by omega) (by omega)) (fun k _ => by rw [hS 125 (by omega) (by omega)])
      refine (ct_X12_build hG _ Q P L T K d st hWf hR x0 x1 C.1 hc20 (by rw [hS 125 (by omega) (by omega)]; exact hcE)).imp (fun r D' p => ?_)
      rcases p with ⟨e0, e1, p⟩ | ⟨e0, -, -⟩ | ⟨e0, e1, -, -⟩
      · rcases p with ⟨p1, -⟩ | ⟨p1, rfl, E2, rfl, hO⟩
        · exact absurd p1 (by omega)
        · have hR2 : RTS E2 P Q := h.2.1.1.fr (fun q hq => (hO.2.2.1 q (by omega) (by omega)).trans (hS q (by omega) (by omega))) hWf.1
          have hl20 := trivial
          have hs := SNR_H (p := x0.toNat) (x := x1.toNat) hR2 hWf.1 (by omega)
          rw [show ((x1.toNat : Nat) : Int) = x1 by omega] at hs
          obtain ⟨k1, k2, k3⟩ := h.change hn q1 q2 q3 q4 q5 (frm_H _ _ _) (WCh.new h.2.2.2.2.2.2.1.2.1 q1 (frm_H _ _ _) (by decide) (fun _ => ⟨by omega, (hWf.1.2.2.1 x0.toNat (by omega)).2⟩) (fun q => absurd q (by decide)) (fun q => absurd q (by decide))) (by rw [un_new, if_pos rfl]; exact setH_back _ _ _) hO (fun q k a b c => wr_o (by omega)) hs
          exact ⟨_, wr E2 (142 + x0.toNat) 1 x1, rfl, rfl, ⟨s, Q, _, L, T, K, d, st, sz, _, m, Pi, di, Ci, k1⟩, k2, fun _ => k3.trans hv⟩
      · exact absurd d0 e0
      · exact absurd d1 e1
  · rw [if_neg (by decide)]
    refine (ct_X12_build hG _ Q P L T K d st hWf (h.no hn 1) x0 x1 C.1 hc20 ((wr_o (by decide)).trans hcE)).imp (fun r D' p => ?_)
    rcases p with ⟨e0, -⟩ | ⟨e0, rfl, rfl⟩ | ⟨e0, e1, -, -⟩
    · exact absurd e0 d0
    · obtain ⟨k1, k2⟩ := h.refused hn (show 1 < 3 by decide) 1
      exact ⟨_, _, rfl, rfl, ⟨s, Q, P, L, T, K, d, st, sz, C, m, Pi, di, Ci, k1⟩, k2, fun q => absurd q (by decide)⟩
    · exact absurd e0 d0
  · rw [if_neg (by decide)]
    refine (ct_X12_build hG _ Q P L T K d st hWf (h.no hn 2) x0 x1 C.1 hc20 ((wr_o (by decide)).trans hcE)).imp (fun r D' p => ?_)
    rcases p with ⟨e0, e1, -⟩ | ⟨e0, -, -⟩ | ⟨e0, e1, rfl, rfl⟩
    · exact absurd e1 d0.2
    · exact absurd d0.1 e0
    · obtain ⟨k1, k2⟩ := h.refused hn (show 2 < 3 by decide) 2
      exact ⟨_, _, rfl, rfl, ⟨s, Q, P, L, T, K, d, st, sz, C, m, Pi, di, Ci, k1⟩, k2, fun q => absurd q (by decide)⟩
def MK_45 (n : Nat) (E : Mm) (x0 x1 : Int) (c : Nat) (v : Int) (E1 : Mm) : Prop := ∃ (s : Nat) (Q : RX) (P : SP) (L : LW) (T K : LN) (d st sz : Nat) (C : CHt) (m : Nat) (Pi : Nat → SP) (di : Nat → Nat) (Ci : Nat → CHt), INVg n s Q P L T K d st sz C m Pi di Ci E ∧ ((c = 0 ∧ (0 ≤ x0 ∧ x0 ≤ (bN (sB P) : Int) - 1) ∧ (0 ≤ x1 ∧ x1 ≤ (sW P : Int) - (bL (sB P) x0.toNat : Int)) ∧ ((C.1 = 20 ∧ v = -1 ∧ E1 = E) ∨ (C.1 < 20 ∧ v = ((bX (sB P) x0.toNat : Nat) : Int) ∧ CXI E1 s (setXP P x0.toNat x1.toNat) L T K d ∧ CCh E1 24 (chW C 1 x0.toNat 0 (bX (sB P) x0.toNat)) ∧ CHX E E1 s ∧ E1 0 18 = E 0 18))) ∨ (c = 1 ∧ ¬ (0 ≤ x0 ∧ x0 ≤ (bN (sB P) : Int) - 1) ∧ E1 = bumpE E 1) ∨ (c = 2 ∧ ((0 ≤ x0 ∧ x0 ≤ (bN (sB P) : Int) - 1) ∧ ¬ (0 ≤ x1 ∧ x1 ≤ (sW P : Int) - (bL (sB P) x0.toNat : Int))) ∧ E1 = bumpE E 2))
theorem XK_45 {g : Gw} (hG : GF g) (n : Nat) (E : Mm) (x0 x1 : Int) (hE : INV n E) : CTX g yX11_lay cX11_lay 4 (some .int) 7 116 2 12 K2 false [mR 0, mI x0, mI x1] (ov E) K2 false (fun r D' => ∃ (v : Int) (E1 : Mm), r = some (mI v) ∧ D' = ov E1 ∧ MK_45 n E x0 x1 0 v E1) (fun X D' => ∃ (c : Nat) (E1 : Mm), ((c = 1 ∧ X = "java/util/NoSuchElementException") ∨ (c = 2 ∧ X = "java/lang/IllegalArgumentException")) ∧ D' = ov E1 ∧ MK_45 n E x0 x1 c 0 E1) := by
  obtain ⟨s, Q, P, L, T, K, d, st, sz, C, m, Pi, di, Ci, h⟩ := hE
  refine (ct_X11_lay hG E s P L T K d h.1 x0 x1 C h.2.2.2.2.2.2.1.1 h.2.2.2.2.2.2.1.2.1).imp (fun r D' q => ?_) (fun X D' q => ?_)
  · obtain ⟨c0, c1, q⟩ := q
    rcases q with ⟨q1, rfl, rfl⟩ | ⟨q1, rfl, E1, rfl, q2, q3, q4, q5⟩
    · exact ⟨_, E, rfl, rfl, s, Q, P, L, T, K, d, st, sz, C, m, Pi, di, Ci, h, Or.inl ⟨rfl, c0, c1, Or.inl ⟨q1, rfl, rfl⟩⟩⟩
    · exact ⟨_, E1, rfl, rfl, s, Q, P, L, T, K, d, st, sz, C, m, Pi, di, Ci, h, Or.inl ⟨rfl, c0, c1, Or.inr ⟨q1, rfl, q2, q3, q4, q5⟩⟩⟩
  · rcases q with ⟨c0, rfl, rfl⟩ | ⟨c0, c1, rfl, rfl⟩
    · exact ⟨1, _, Or.inl ⟨rfl, rfl⟩, rfl, s, Q, P, L, T, K, d, st, sz, C, m, Pi, di, Ci, h, Or.inr (Or.inl ⟨rfl, c0, rfl⟩)⟩
    · exact ⟨2, _, Or.inr ⟨rfl, rfl⟩, rfl, s, Q, P, L, T, K, d, st, sz, C, m, Pi, di, Ci, h, Or.inr (Or.inr ⟨rfl, ⟨c0, c1⟩, rfl⟩)⟩
theorem RK_45 {g : Gw} (hG : GF g) (n : Nat) (hn : n ≤ 4000) (E : Mm) (x0 x1 : Int) (c : Nat) (v : Int) (E1 : Mm) (hM : MK_45 n E x0 x1 c v E1) : CT g yX12_lay cX12_lay 4 (some .int) 3 67 0 0 K2 false [mR 125, mI x0, mI x1] (ov (if c = 0 then wr E1 813 0 v else E1)) K2 false (fun r D' => ∃ (bb : Int) (E2 : Mm), r = some (mI bb) ∧ D' = ov E2 ∧ INV (n + 6) E2 ∧ E2 125 0 = (c : Int) ∧ (c = 0 → E2 813 0 = bb)) := by
  obtain ⟨s, Q, P, L, T, K, d, st, sz, C, m, Pi, di, Ci, h, q⟩ := hM
  have hWf := h.wf hn
  have hN := hWf.1.N
  have h8 := hWf.1.B.N
  have hcE : E 125 46 = (C.1 : Int) := h.2.2.2.2.2.2.1.2.2.1
  have hc20 := h.2.2.2.2.2.2.1.2.1.1
  rcases q with ⟨rfl, d0, d1, q⟩ | ⟨rfl, d0, rfl⟩ | ⟨rfl, d0, rfl⟩
  · rw [if_pos rfl]
    rcases q with ⟨q1, hv, rfl⟩ | ⟨q1, hv, q2, q3, q4, q5⟩
    · refine (ct_X12_lay hG _ Q P L T K d st hWf (h.ask hn CXF.rf) x0 x1 C.1 hc20 ((wr_o (by decide)).trans hcE)).imp (fun r D' p => ?_)
      rcases p with ⟨e0, e1, p⟩ | ⟨e0, -, -⟩ | ⟨e0, e1, -, -⟩
      · rcases p with ⟨p1, rfl, E2, rfl, hO⟩ | ⟨p1, -⟩
        · obtain ⟨k1, k2, k3⟩ := h.told h.1 CXF.rf hO
          exact ⟨_, E2, rfl, rfl, ⟨s, Q, P, L, T, K, d, st, sz, C, m, Pi, di, Ci, k1⟩, k2, fun _ => k3.trans hv⟩
        · exact absurd q1 (by omega)
      · exact absurd d0 e0
      · exact absurd d1 e1
    · have hS : ∀ q, 98 ≤ q → q ≠ 813 → wr E1 813 0 v q = E q := fun q a b => (wr_row b).trans (q4.1 q (by have := h.1.sa; omega))
      have hR : RXI (wr E1 813 0 v) Q P L T K d st := h.2.1.fr2 hWf (fun q hq => hS q (by omega) (by omega)) (fun k _ => by rw [hS 125 (by omega) (by omega)])
      refine (ct_X12_lay hG _ Q P L T K d st hWf hR x0 x1 C.1 hc20 (by rw [hS 125 (by omega) (by omega)]; exact hcE)).imp (fun r D' p => ?_)
      rcases p with ⟨e0, e1, p⟩ | ⟨e0, -, -⟩ | ⟨e0, e1, -, -⟩
      · rcases p with ⟨p1, -⟩ | ⟨p1, rfl, E2, rfl, hO⟩
        · exact absurd p1 (by omega)
        · have hR2 : RTS E2 P Q := h.2.1.1.fr (fun q hq => (hO.2.2.1 q (by omega) (by omega)).trans (hS q (by omega) (by omega))) hWf.1
          have hl20 := hWf.1.B.L (b := x0.toNat) (by omega)
          have hs := SNR_X (p := x0.toNat) (x := x1.toNat) hR2 hWf.1 (by omega)
          rw [show ((x1.toNat : Nat) : Int) = x1 by omega] at hs
          obtain ⟨k1, k2, k3⟩ := h.change hn q1 q2 q3 q4 q5 (frm_X _ _ _) (WCh.new h.2.2.2.2.2.2.1.2.1 q1 (frm_X _ _ _) (by decide) (fun q => absurd q (by decide)) (fun _ => ⟨by omega, (hWf.1.B.2 x0.toNat (by omega)).1.2.2⟩) (fun q => absurd q (by decide))) (by rw [un_new, if_neg (by decide), if_pos rfl]; exact setX_back _ _ _) hO (fun q k a b c => wr_o (by omega)) hs
          exact ⟨_, wr E2 (228 + x0.toNat) 0 x1, rfl, rfl, ⟨s, Q, _, L, T, K, d, st, sz, _, m, Pi, di, Ci, k1⟩, k2, fun _ => k3.trans hv⟩
      · exact absurd d0 e0
      · exact absurd d1 e1
  · rw [if_neg (by decide)]
    refine (ct_X12_lay hG _ Q P L T K d st hWf (h.no hn 1) x0 x1 C.1 hc20 ((wr_o (by decide)).trans hcE)).imp (fun r D' p => ?_)
    rcases p with ⟨e0, -⟩ | ⟨e0, rfl, rfl⟩ | ⟨e0, e1, -, -⟩
    · exact absurd e0 d0
    · obtain ⟨k1, k2⟩ := h.refused hn (show 1 < 3 by decide) 1
      exact ⟨_, _, rfl, rfl, ⟨s, Q, P, L, T, K, d, st, sz, C, m, Pi, di, Ci, k1⟩, k2, fun q => absurd q (by decide)⟩
    · exact absurd e0 d0
  · rw [if_neg (by decide)]
    refine (ct_X12_lay hG _ Q P L T K d st hWf (h.no hn 2) x0 x1 C.1 hc20 ((wr_o (by decide)).trans hcE)).imp (fun r D' p => ?_)
    rcases p with ⟨e0, e1, -⟩ | ⟨e0, -, -⟩ | ⟨e0, e1, rfl, rfl⟩
    · exact absurd e1 d0.2
    · exact absurd d0.1 e0
    · obtain ⟨k1, k2⟩ := h.refused hn (show 2 < 3 by decide) 2
      exact ⟨_, _, rfl, rfl, ⟨s, Q, P, L, T, K, d, st, sz, C, m, Pi, di, Ci, k1⟩, k2, fun q => absurd q (by decide)⟩
def MK_46 (n : Nat) (E : Mm) (x0 x1 x2 : Int) (c : Nat) (v : Int) (E1 : Mm) : Prop := ∃ (s : Nat) (Q : RX) (P : SP) (L : LW) (T K : LN) (d st sz : Nat) (C : CHt) (m : Nat) (Pi : Nat → SP) (di : Nat → Nat) (Ci : Nat → CHt), INVg n s Q P L T K d st sz C m Pi di Ci E ∧ ((c = 0 ∧ (0 ≤ x0 ∧ x0 ≤ (bN (sB P) : Int) - 1) ∧ ((0 ≤ x1 ∧ x1 ≤ (bL (sB P) x0.toNat : Int) - 1) ∧ (0 ≤ x2 ∧ x2 ≤ 99)) ∧ ((C.1 = 20 ∧ v = -1 ∧ E1 = E) ∨ (C.1 < 20 ∧ v = ((bD (sB P) x0.toNat x1.toNat : Nat) : Int) ∧ CXI E1 s (setDP P x0.toNat x1.toNat x2.toNat) L T K d ∧ CCh E1 24 (chW C 2 x0.toNat x1.toNat (bD (sB P) x0.toNat x1.toNat)) ∧ CHX E E1 s ∧ E1 0 18 = E 0 18))) ∨ (c = 1 ∧ ¬ (0 ≤ x0 ∧ x0 ≤ (bN (sB P) : Int) - 1) ∧ E1 = bumpE E 1) ∨ (c = 2 ∧ ((0 ≤ x0 ∧ x0 ≤ (bN (sB P) : Int) - 1) ∧ ¬ ((0 ≤ x1 ∧ x1 ≤ (bL (sB P) x0.toNat : Int) - 1) ∧ (0 ≤ x2 ∧ x2 ≤ 99))) ∧ E1 = bumpE E 2))
theorem XK_46 {g : Gw} (hG : GF g) (n : Nat) (E : Mm) (x0 x1 x2 : Int) (hE : INV n E) : CTX g yX11_put cX11_put 5 (some .int) 7 116 2 12 K2 false [mR 0, mI x0, mI x1, mI x2] (ov E) K2 false (fun r D' => ∃ (v : Int) (E1 : Mm), r = some (mI v) ∧ D' = ov E1 ∧ MK_46 n E x0 x1 x2 0 v E1) (fun X D' => ∃ (c : Nat) (E1 : Mm), ((c = 1 ∧ X = "java/util/NoSuchElementException") ∨ (c = 2 ∧ X = "java/lang/IllegalArgumentException")) ∧ D' = ov E1 ∧ MK_46 n E x0 x1 x2 c 0 E1) := by
  obtain ⟨s, Q, P, L, T, K, d, st, sz, C, m, Pi, di, Ci, h⟩ := hE
  refine (ct_X11_put hG E s P L T K d h.1 x0 x1 x2 C h.2.2.2.2.2.2.1.1 h.2.2.2.2.2.2.1.2.1).imp (fun r D' q => ?_) (fun X D' q => ?_)
  · obtain ⟨c0, c1, q⟩ := q
    rcases q with ⟨q1, rfl, rfl⟩ | ⟨q1, rfl, E1, rfl, q2, q3, q4, q5⟩
    · exact ⟨_, E, rfl, rfl, s, Q, P, L, T, K, d, st, sz, C, m, Pi, di, Ci, h, Or.inl ⟨rfl, c0, c1, Or.inl ⟨q1, rfl, rfl⟩⟩⟩
    · exact ⟨_, E1, rfl, rfl, s, Q, P, L, T, K, d, st, sz, C, m, Pi, di, Ci, h, Or.inl ⟨rfl, c0, c1, Or.inr ⟨q1, rfl, q2, q3, q4, q5⟩⟩⟩
  · rcases q with ⟨c0, rfl, rfl⟩ | ⟨c0, c1, rfl, rfl⟩
    · exact ⟨1, _, Or.inl ⟨rfl, rfl⟩, rfl, s, Q, P, L, T, K, d, st, sz, C, m, Pi, di, Ci, h, Or.inr (Or.inl ⟨rfl, c0, rfl⟩)⟩
    · exact ⟨2, _, Or.inr ⟨rfl, rfl⟩, rfl, s, Q, P, L, T, K, d, st, sz, C, m, Pi, di, Ci, h, Or.inr (Or.inr ⟨rfl, ⟨c0, c1⟩, rfl⟩)⟩
theorem RK_46 {g : Gw} (hG : GF g) (n : Nat) (hn : n ≤ 4000) (E : Mm) (x0 x1 x2 : Int) (c : Nat) (v : Int) (E1 : Mm) (hM : MK_46 n E x0 x1 x2 c v E1) : CT g yX12_put cX12_put 5 (some .int) 3 67 0 0 K2 false [mR 125, mI x0, mI x1, mI x2] (ov (if c = 0 then wr E1 813 0 v else E1)) K2 false (fun r D' => ∃ (bb : Int) (E2 : Mm), r = some (mI bb) ∧ D' = ov E2 ∧ INV (n + 6) E2 ∧ E2 125 0 = (c : Int) ∧ (c = 0 → E2 813 0 = bb)) := by
  obtain ⟨s, Q, P, L, T, K, d, st, sz, C, m, Pi, di, Ci, h, q⟩ := hM
  have hWf := h.wf hn
  have hN := hWf.1.N
  have h8 := hWf.1.B.N
  have hcE : E 125 46 = (C.1 : Int) := h.2.2.2.2.2.2.1.2.2.1
  have hc20 := h.2.2.2.2.2.2.1.2.1.1
  rcases q with ⟨rfl, d0, d1, q⟩ | ⟨rfl, d0, rfl⟩ | ⟨rfl, d0, rfl⟩
  · rw [if_pos rfl]
    rcases q with ⟨q1, hv, rfl⟩ | ⟨q1, hv, q2, q3, q4, q5⟩
    · refine (ct_X12_put hG _ Q P L T K d st hWf (h.ask hn CXF.rf) x0 x1 x2 C.1 hc20 ((wr_o (by decide)).trans hcE)).imp (fun r D' p => ?_)
      rcases p with ⟨e0, e1, p⟩ | ⟨e0, -, -⟩ | ⟨e0, e1, -, -⟩
      · rcases p with ⟨p1, rfl, E2, rfl, hO⟩ | ⟨p1, -⟩
        · obtain ⟨k1, k2, k3⟩ := h.told h.1 CXF.rf hO
          exact ⟨_, E2, rfl, rfl, ⟨s, Q, P, L, T, K, d, st, sz, C, m, Pi, di, Ci, k1⟩, k2, fun _ => k3.trans hv⟩
        · exact absurd q1 (by omega)
      · exact absurd d0 e0
      · exact absurd d1 e1
    · have hS : ∀ q, 98 ≤ q → q ≠ 813 → wr E1 813 0 v q = E q := fun q a b => (wr_row b).trans (q4.1 q (by have := h.1.sa; omega))
      have hR : RXI (wr E1 813 0 v) Q P L T K d st := h.2.1.fr2 hWf (fun q hq => hS q (by omega) (by omega)) (fun k _ => by rw [hS 125 (by omega) (by omega)])
      refine (ct_X12_put hG _ Q P L T K d st hWf hR x0 x1 x2 C.1 hc20 (by rw [hS 125 (by omega) (by omega)]; exact hcE)).imp (fun r D' p => ?_)
      rcases p with ⟨e0, e1, p⟩ | ⟨e0, -, -⟩ | ⟨e0, e1, -, -⟩
      · rcases p with ⟨p1, -⟩ | ⟨p1, rfl, E2, rfl, hO⟩
        · exact absurd p1 (by omega)
        · have hR2 : RTS E2 P Q := h.2.1.1.fr (fun q hq => (hO.2.2.1 q (by omega) (by omega)).trans (hS q (by omega) (by omega))) hWf.1
          have hl20 := hWf.1.B.L (b := x0.toNat) (by omega)
          have hs := SNR_D (p := x0.toNat) (a := x1.toNat) (x := x2.toNat) hR2 hWf.1 (by omega)
          rw [show ((x2.toNat : Nat) : Int) = x2 by omega] at hs
          obtain ⟨k1, k2, k3⟩ := h.change hn q1 q2 q3 q4 q5 (frm_D _ _ _ _) (WCh.new h.2.2.2.2.2.2.1.2.1 q1 (frm_D _ _ _ _) (by decide) (fun q => absurd q (by decide)) (fun q => absurd q (by decide)) (fun _ => ⟨by omega, by omega, hWf.1.B.D (b := x0.toNat) (p := x1.toNat) (by omega) (by omega)⟩)) (by rw [un_new, if_neg (by decide), if_neg (by decide)]; exact setDP_back _ _ _ _) hO (fun q k a b c => wr_o (by omega)) hs
          exact ⟨_, wr E2 (246 + x0.toNat) x1.toNat x2, rfl, rfl, ⟨s, Q, _, L, T, K, d, st, sz, _, m, Pi, di, Ci, k1⟩, k2, fun _ => k3.trans hv⟩
      · exact absurd d0 e0
      · exact absurd d1 e1
  · rw [if_neg (by decide)]
    refine (ct_X12_put hG _ Q P L T K d st hWf (h.no hn 1) x0 x1 x2 C.1 hc20 ((wr_o (by decide)).trans hcE)).imp (fun r D' p => ?_)
    rcases p with ⟨e0, -⟩ | ⟨e0, rfl, rfl⟩ | ⟨e0, e1, -, -⟩
    · exact absurd e0 d0
    · obtain ⟨k1, k2⟩ := h.refused hn (show 1 < 3 by decide) 1
      exact ⟨_, _, rfl, rfl, ⟨s, Q, P, L, T, K, d, st, sz, C, m, Pi, di, Ci, k1⟩, k2, fun q => absurd q (by decide)⟩
    · exact absurd e0 d0
  · rw [if_neg (by decide)]
    refine (ct_X12_put hG _ Q P L T K d st hWf (h.no hn 2) x0 x1 x2 C.1 hc20 ((wr_o (by decide)).trans hcE)).imp (fun r D' p => ?_)
    rcases p with ⟨e0, e1, -⟩ | ⟨e0, -, -⟩ | ⟨e0, e1, rfl, rfl⟩
    · exact absurd e1 d0.2
    · exact absurd d0.1 e0
    · obtain ⟨k1, k2⟩ := h.refused hn (show 2 < 3 by decide) 2
      exact ⟨_, _, rfl, rfl, ⟨s, Q, P, L, T, K, d, st, sz, C, m, Pi, di, Ci, k1⟩, k2, fun q => absurd q (by decide)⟩
section
variable {n s d st sz m : Nat} {Q : RX} {P : SP} {L : LW} {T K : LN} {C : CHt} {Pi : Nat → SP} {di : Nat → Nat} {Ci : Nat → CHt} {E E1 E2 : Mm}
theorem CHX.hi (h : CHX E E1 s) (hs : s = 68 ∨ s = 83) : ∀ q, 98 ≤ q → E1 q = E q := fun q a => h.1 q (by omega)
theorem CHX.lo (h : CHX E E1 s) (hs : s = 68 ∨ s = 83) : ∀ q, 1 ≤ q → q ≤ 3 → E1 q = E q := fun q a b => h.1 q (by omega)
/-- a change is taken back on both sides -/
theorem INVg.undo (h : INVg n s Q P L T K d st sz C m Pi di Ci E) (hn : n ≤ 4000) (h0 : 0 < C.1) (hI : CXI E1 s (dnP C P 1) L T K d) (hC : CCh E1 24 (C.1 - 1, C.2)) (hCX : CHX E E1 s) (h18 : E1 0 18 = E 0 18) (hO : UNO E1 E2 (C.1 - 1)) : INVg (n + 6) s Q (dnP C P 1) L T K d st sz (C.1 - 1, C.2) m Pi di Ci E2 := by
  have hWf := h.wf hn
  have hsa := h.1.sa
  have hhi := hCX.hi hsa
  have hlo := hCX.lo hsa
  obtain ⟨i1, i2, ⟨t1, t2, t3, t4⟩, f1, f2, f3, ⟨c1, c2, c3⟩, ⟨m1, m2, m3⟩, im⟩ := h
  obtain ⟨o1, o2, o3, o4, o5, o6, o7⟩ := hO
  have hc20 := c2.1
  have hfr : frm (dnP C P 1) = frm P := frm_dn C P 1
  have hr : ∀ q, q < 125 ∨ q = 126 ∨ q = 127 ∨ (633 ≤ q ∧ q ≤ 657) → E2 q = E1 q := fun q a => funext fun k => o4 q k (by omega) (by omega) (by omega) (by omega)
  have hw : SNR (E1 (633 + (C.1 - 1))) (dnP C P 1) := by
    have := c3.2 (C.1 - 1) (by omega)
    rw [show C.1 - (C.1 - 1) = 1 by omega] at this
    rw [hhi _ (by omega)]; exact this
  have i1' : RXI E1 Q P L T K d st := i2.fr2 hWf (fun q hq => hhi q (by omega)) (fun k _ => by rw [hhi 125 (by omega)])
  have hR : RXI E2 Q (dnP C P 1) L T K d st := i1'.copy hWf hfr hw o1 o2 o3 (fun q k l1 l2 a b c => o4 q k a b c (by omega)) (fun k a => o5 k (by omega) (by omega) (by omega)) ((o5 45 (by omega) (by omega) (by omega)).trans i1'.2.2.2.2.2)
  have h5 : ∀ k, k ≠ 0 → k ≠ 46 → k ≠ 48 → E2 125 k = E 125 k := fun k a b c => (o5 k a b c).trans (by rw [hhi 125 (by omega)])
  refine ⟨hI.fr2 (fun q a => hr q (by rcases hsa with e | e <;> omega)), hR, ⟨t1, by rw [hr 1 (by omega), hlo 1 (by omega) (by omega)]; exact t2, (h5 1 (by omega) (by omega) (by omega)).trans t3, by rw [hr 126 (by omega), hhi 126 (by omega), hr 2 (by omega), hlo 2 (by omega) (by omega)]; exact t4⟩, by rw [hr 1 (by omega), hlo 1 (by omega) (by omega), h5 3 (by omega) (by omega) (by omega)]; exact f1, by rw [hr 3 (by omega), hlo 3 (by omega) (by omega), hr 127 (by omega), hhi 127 (by omega)]; exact f2, by omega, ⟨hC.fr (fun q a b => hr q (by omega)), c2.less hfr, ⟨o7, fun k hk => ?_⟩⟩, ⟨by rw [hr 0 (by omega), h18]; exact m1, (h5 47 (by omega) (by omega) (by omega)).trans m2, m3⟩, fun i hi => ((im i hi).fr (fun q a => (hr q (by omega)).trans (hhi q (by omega)))).of hfr⟩
  have hk' : k < C.1 - 1 := hk
  have e : dnP (C.1 - 1, C.2) (dnP C P 1) ((C.1 - 1, C.2).1 - k) = dnP C P (C.1 - k) := by
    rw [dn_less]
    congr 1
    show C.1 - 1 - k + 1 = C.1 - k
    omega
  rw [e, hr (633 + k) (by omega), hhi (633 + k) (by omega)]
  exact c3.2 k (by omega)
/-- an image on both sides -/
theorem INVg.image (h : INVg n s Q P L T K d st sz C m Pi di Ci E) (hn : n ≤ 4000) (h3 : m < 3) (hI : CXI E1 s P L T K d) (hM : CIm E1 (98 + 9 * m) P d C) (h18 : E1 0 18 = ((m + 1 : Nat) : Int)) (hq : ∀ q, ¬ (q = 0 ∨ (98 + 9 * m ≤ q ∧ q ≤ 98 + 9 * m + 8)) → E1 q = E q) (hO : IMO E1 E2 m) : INVg (n + 6) s Q P L T K d st sz C (m + 1) (fun i => if i = m then P else Pi i) (fun i => if i = m then d else di i) (fun i => if i = m then C else Ci i) E2 := by
  have hWf := h.wf hn
  obtain ⟨i1, i2, ⟨t1, t2, t3, t4⟩, f1, f2, f3, ⟨c1, c2, c3⟩, ⟨m1, m2, m3⟩, im⟩ := h
  obtain ⟨o1, o2, o3, o4, o5, o6, o7, o8⟩ := hO
  have hc20 := c2.1
  have h125 : ∀ k, E1 125 k = E 125 k := fun k => by rw [hq 125 (by omega)]
  have h5 : ∀ k, k ≠ 0 → k ≠ 47 → k ≠ 48 → E2 125 k = E 125 k := fun k a b c => (o6 k a b c).trans (h125 k)
  have hr : ∀ q, q ≠ 654 + m → q ≠ 125 → ¬ (q = 0 ∨ (98 + 9 * m ≤ q ∧ q ≤ 98 + 9 * m + 8)) → E2 q = E q := fun q a b c => (o5 q a b).trans (hq q c)
  have i2' : RXI E1 Q P L T K d st := i2.fr2 hWf (fun q a => hq q (by omega)) (fun k _ => h125 k)
  have hsa := i1.sa
  refine ⟨hI.fr2 (fun q a => o5 q (by rcases hsa with e | e <;> omega) (by rcases hsa with e | e <;> omega)), i2.fr2 hWf (fun q a => hr q (by omega) (by omega) (by omega)) (fun k a => h5 k (by omega) (by omega) (by omega)), ⟨t1, by rw [hr 1 (by omega) (by omega) (by omega)]; exact t2, (h5 1 (by omega) (by omega) (by omega)).trans t3, by rw [hr 126 (by omega) (by omega) (by omega), hr 2 (by omega) (by omega) (by omega)]; exact t4⟩, by rw [hr 1 (by omega) (by omega) (by omega), h5 3 (by omega) (by omega) (by omega)]; exact f1, by rw [hr 3 (by omega) (by omega) (by omega), hr 127 (by omega) (by omega) (by omega)]; exact f2, by omega, ⟨c1.fr (fun q a b => hr q (by omega) (by omega) (by omega)), c2, c3.fr c2.1 (fun q a b => hr q (by omega) (by omega) (by omega)) (h5 46 (by omega) (by omega) (by omega))⟩, ⟨by rw [o5 0 (by omega) (by omega)]; exact h18, o8, by omega⟩, fun i hi => ?_⟩
  show IMb E2 P i (if i = m then P else Pi i) (if i = m then d else di i) (if i = m then C else Ci i)
  by_cases e : i = m
  · subst e
    rw [if_pos rfl, if_pos rfl, if_pos rfl]
    refine ⟨hM.fr (fun q a b => o5 q (by omega) (by omega)), ⟨?_, o2.trans ((h125 45).trans i2.2.2.2.2.2), o3.trans ((h125 46).trans c3.1), fun k hk => ?_⟩, rfl, i1.WS, i1.DX, i1.dl, c2⟩
    · exact (SNR_sn i2'.1 i1.WS).fr i1.WS o1
    · have hd := dn_WS i1.WS i1.DX c2 (C.1 - k) (by omega)
      exact (c3.2 k hk).fr hd.1 (fun i hi => (o4 k i (by omega) hi).trans (by rw [hq (633 + k) (by omega)]))
  · rw [if_neg e, if_neg e, if_neg e]
    exact (im i (by omega)).fr (fun q a => hr q (by omega) (by omega) (by omega))
/-- an image is restored on both sides -/
theorem INVg.restore (h : INVg n s Q P L T K d st sz C m Pi di Ci E) (hn : n ≤ 4000) (h0 : 0 < m) (hI : CXI E1 s (Pi (m - 1)) L T K (di (m - 1))) (hC : CCh E1 24 (Ci (m - 1))) (h18 : E1 0 18 = ((m - 1 : Nat) : Int)) (hCX : CHX E E1 s) (hO : RSO E1 E2 (m - 1)) : INVg (n + 6) s Q (Pi (m - 1)) L T K (di (m - 1)) st sz (Ci (m - 1)) (m - 1) Pi di Ci E2 := by
  have hWf := h.wf hn
  have hsa := h.1.sa
  have hhi := hCX.hi hsa
  have hlo := hCX.lo hsa
  obtain ⟨i1, i2, ⟨t1, t2, t3, t4⟩, f1, f2, f3, ⟨c1, c2, c3⟩, ⟨m1, m2, m3⟩, im⟩ := h
  obtain ⟨⟨o1, o2, o3⟩, ⟨o4, o5⟩, o6, o7, o8, o9, oa⟩ := hO
  obtain ⟨g1, ⟨r1, r2, r3, r4⟩, g3, g4, g5, g6, g7⟩ := im (m - 1) (by omega)
  have hr : ∀ q, q < 125 ∨ q = 126 ∨ q = 127 ∨ (653 ≤ q ∧ q ≤ 657) → E2 q = E1 q := fun q a => funext fun k => o7 q k (by omega) (by omega) (by omega) (by omega) (by omega)
  have e54 := hhi (654 + (m - 1)) (by omega)
  have i1' : RXI E1 Q P L T K d st := i2.fr2 hWf (fun q hq => hhi q (by omega)) (fun k _ => by rw [hhi 125 (by omega)])
  have hR : RXI E2 Q (Pi (m - 1)) L T K (di (m - 1)) st := i1'.copy hWf g3 (w := E1 (654 + (m - 1))) (by rw [e54]; exact r1) o1 o2 o3 (fun q k l1 l2 a b c => o7 q k a b c (by omega) (by omega)) (fun k a => o8 k (by omega) (by omega) (by omega) (by omega) (by omega)) (o4.trans (by rw [e54]; exact r2))
  have h5 : ∀ k, k ≠ 0 → k ≠ 45 → k ≠ 46 → k ≠ 47 → k ≠ 48 → E2 125 k = E 125 k := fun k a b c e f => (o8 k a b c e f).trans (by rw [hhi 125 (by omega)])
  have h20 := g7.1
  refine ⟨hI.fr2 (fun q a => hr q (by rcases hsa with e | e <;> omega)), hR, ⟨t1, by rw [hr 1 (by omega), hlo 1 (by omega) (by omega)]; exact t2, (h5 1 (by omega) (by omega) (by omega) (by omega) (by omega)).trans t3, by rw [hr 126 (by omega), hhi 126 (by omega), hr 2 (by omega), hlo 2 (by omega) (by omega)]; exact t4⟩, by rw [hr 1 (by omega), hlo 1 (by omega) (by omega), h5 3 (by omega) (by omega) (by omega) (by omega) (by omega)]; exact f1, by rw [hr 3 (by omega), hlo 3 (by omega) (by omega), hr 127 (by omega), hhi 127 (by omega)]; exact f2, by omega, ⟨hC.fr (fun q a b => hr q (by omega)), g7, ⟨o5.trans (by rw [e54]; exact r3), fun k hk => ?_⟩⟩, ⟨by rw [hr 0 (by omega)]; exact h18, oa, by omega⟩, fun i hi => ?_⟩
  · have hd := dn_WS g4 g5 g7 ((Ci (m - 1)).1 - k) (by omega)
    exact (r4 k hk).fr hd.1 (fun i hi => (o6 k i (by omega) hi).trans (by rw [e54]))
  · have q := im i (by omega)
    exact (q.fr (fun q a => (hr q (by omega)).trans (hhi q (by omega)))).of g3
end
def MK_47 (n : Nat) (E : Mm) (v : Int) (E1 : Mm) : Prop := ∃ (s : Nat) (Q : RX) (P : SP) (L : LW) (T K : LN) (d st sz : Nat) (C : CHt) (m : Nat) (Pi : Nat → SP) (di : Nat → Nat) (Ci : Nat → CHt), INVg n s Q P L T K d st sz C m Pi di Ci E ∧ ((C.1 = 0 ∧ v = -1 ∧ E1 = E) ∨ (0 < C.1 ∧ v = ((C.1 - 1 : Nat) : Int) ∧ CXI E1 s (dnP C P 1) L T K d ∧ CCh E1 24 (C.1 - 1, C.2) ∧ CHX E E1 s ∧ E1 0 18 = E 0 18))
theorem XK_47 {g : Gw} (hG : GF g) (n : Nat) (E : Mm) (hE : INV n E) : CT g yX11_undo cX11_undo 1 (some .int) 3 76 0 0 K2 false [mR 0] (ov E) K2 false (fun r D' => ∃ (v : Int) (E1 : Mm), r = some (mI v) ∧ D' = ov E1 ∧ MK_47 n E  v E1) := by
  obtain ⟨s, Q, P, L, T, K, d, st, sz, C, m, Pi, di, Ci, h⟩ := hE
  refine (ct_X11_undo hG E s P L T K d h.1 C h.2.2.2.2.2.2.1.1 h.2.2.2.2.2.2.1.2.1).imp (fun r D' q => ?_)
  rcases q with ⟨q1, rfl, rfl⟩ | ⟨q1, rfl, E1, rfl, q2, q3, q4, q5⟩
  · exact ⟨_, E, rfl, rfl, s, Q, P, L, T, K, d, st, sz, C, m, Pi, di, Ci, h, Or.inl ⟨q1, rfl, rfl⟩⟩
  · exact ⟨_, E1, rfl, rfl, s, Q, P, L, T, K, d, st, sz, C, m, Pi, di, Ci, h, Or.inr ⟨q1, rfl, q2, q3, q4, q5⟩⟩
theorem RK_47 {g : Gw} (hG : GF g) (n : Nat) (hn : n ≤ 4000) (E : Mm) (v : Int) (E1 : Mm) (hM : MK_47 n E  v E1) : CT g yX12_undo cX12_undo 1 (some .int) 2 47 0 0 K2 false [mR 125] (ov E1) K2 false (fun r D' => ∃ E2 : Mm, r = some (mI v) ∧ D' = ov E2 ∧ INV (n + 6) E2) := by
  obtain ⟨s, Q, P, L, T, K, d, st, sz, C, m, Pi, di, Ci, h, q⟩ := hM
  have hWf := h.wf hn
  have hcE : E 125 46 = (C.1 : Int) := h.2.2.2.2.2.2.1.2.2.1
  have hc20 := h.2.2.2.2.2.2.1.2.1.1
  rcases q with ⟨q1, hv, rfl⟩ | ⟨q1, hv, q2, q3, q4, q5⟩
  · refine (ct_X12_undo hG _ Q P L T K d st hWf h.2.1 C.1 hc20 hcE).imp (fun r D' p => ?_)
    rcases p with ⟨p1, rfl, E2, rfl, hO⟩ | ⟨p1, -⟩
    · exact ⟨E2, by rw [hv], rfl, s, Q, P, L, T, K, d, st, sz, C, m, Pi, di, Ci, h.told2 h.1 CXF.rf hO⟩
    · exact absurd q1 (by omega)
  · have hhi := q4.hi h.1.sa
    have hR : RXI E1 Q P L T K d st := h.2.1.fr2 hWf (fun q hq => hhi q (by omega)) (fun k _ => by rw [hhi 125 (by omega)])
    refine (ct_X12_undo hG _ Q P L T K d st hWf hR C.1 hc20 (by rw [hhi 125 (by omega)]; exact hcE)).imp (fun r D' p => ?_)
    rcases p with ⟨p1, -⟩ | ⟨p1, rfl, E2, rfl, hO⟩
    · exact absurd p1 (by omega)
    · exact ⟨E2, by rw [hv], rfl, s, Q, _, L, T, K, d, st, sz, _, m, Pi, di, Ci, h.undo hn q1 q2 q3 q4 q5 hO⟩
def MK_48 (n : Nat) (E : Mm) (v : Int) (E1 : Mm) : Prop := ∃ (s : Nat) (Q : RX) (P : SP) (L : LW) (T K : LN) (d st sz : Nat) (C : CHt) (m : Nat) (Pi : Nat → SP) (di : Nat → Nat) (Ci : Nat → CHt), INVg n s Q P L T K d st sz C m Pi di Ci E ∧ ((m = 3 ∧ v = -1 ∧ E1 = E) ∨ (m < 3 ∧ v = ((m + 1 : Nat) : Int) ∧ CXI E1 s P L T K d ∧ CIm E1 (98 + 9 * m) P d C ∧ E1 0 18 = ((m + 1 : Nat) : Int) ∧ ∀ q, ¬ (q = 0 ∨ (98 + 9 * m ≤ q ∧ q ≤ 98 + 9 * m + 8)) → E1 q = E q))
theorem XK_48 {g : Gw} (hG : GF g) (n : Nat) (E : Mm) (hE : INV n E) : CT g yX11_image cX11_image 1 (some .int) 3 68 0 0 K2 false [mR 0] (ov E) K2 false (fun r D' => ∃ (v : Int) (E1 : Mm), r = some (mI v) ∧ D' = ov E1 ∧ MK_48 n E  v E1) := by
  obtain ⟨s, Q, P, L, T, K, d, st, sz, C, m, Pi, di, Ci, h⟩ := hE
  refine (ct_X11_image hG E s P L T K d h.1 C h.2.2.2.2.2.2.1.1 h.2.2.2.2.2.2.1.2.1 m h.2.2.2.2.2.2.2.1.2.2 h.2.2.2.2.2.2.2.1.1).imp (fun r D' q => ?_)
  rcases q with ⟨q1, rfl, rfl⟩ | ⟨q1, rfl, E1, rfl, q2, q3, q4, q5, q6⟩
  · exact ⟨_, E, rfl, rfl, s, Q, P, L, T, K, d, st, sz, C, m, Pi, di, Ci, h, Or.inl ⟨q1, rfl, rfl⟩⟩
  · exact ⟨_, E1, rfl, rfl, s, Q, P, L, T, K, d, st, sz, C, m, Pi, di, Ci, h, Or.inr ⟨q1, rfl, q2, q3, q4, q5⟩⟩
theorem RK_48 {g : Gw} (hG : GF g) (n : Nat) (hn : n ≤ 4000) (E : Mm) (v : Int) (E1 : Mm) (hM : MK_48 n E  v E1) : CT g yX12_image cX12_image 1 (some .int) 3 71 0 0 K2 false [mR 125] (ov E1) K2 false (fun r D' => ∃ E2 : Mm, r = some (mI v) ∧ D' = ov E2 ∧ INV (n + 6) E2) := by
  obtain ⟨s, Q, P, L, T, K, d, st, sz, C, m, Pi, di, Ci, h, q⟩ := hM
  have hWf := h.wf hn
  have hmE : E 125 47 = (m : Int) := h.2.2.2.2.2.2.2.1.2.1
  have hm3 := h.2.2.2.2.2.2.2.1.2.2
  rcases q with ⟨q1, hv, rfl⟩ | ⟨q1, hv, q2, q3, q4, q5⟩
  · refine (ct_X12_image hG _ Q P L T K d st hWf h.2.1 m hm3 hmE).imp (fun r D' p => ?_)
    rcases p with ⟨p1, rfl, E2, rfl, hO⟩ | ⟨p1, -⟩
    · exact ⟨E2, by rw [hv], rfl, s, Q, P, L, T, K, d, st, sz, C, m, Pi, di, Ci, h.told2 h.1 CXF.rf hO⟩
    · exact absurd q1 (by omega)
  · have hR : RXI E1 Q P L T K d st := h.2.1.fr2 hWf (fun q hq => q5 q (by omega)) (fun k _ => by rw [q5 125 (by omega)])
    refine (ct_X12_image hG _ Q P L T K d st hWf hR m hm3 (by rw [q5 125 (by omega)]; exact hmE)).imp (fun r D' p => ?_)
    rcases p with ⟨p1, -⟩ | ⟨p1, rfl, E2, rfl, hO⟩
    · exact absurd p1 (by omega)
    · exact ⟨E2, by rw [hv], rfl, s, Q, P, L, T, K, d, st, sz, C, m + 1, _, _, _, h.image hn q1 q2 q3 q4 q5 hO⟩
def MK_49 (n : Nat) (E : Mm) (v : Int) (E1 : Mm) : Prop := ∃ (s : Nat) (Q : RX) (P : SP) (L : LW) (T K : LN) (d st sz : Nat) (C : CHt) (m : Nat) (Pi : Nat → SP) (di : Nat → Nat) (Ci : Nat → CHt), INVg n s Q P L T K d st sz C m Pi di Ci E ∧ ((m = 0 ∧ v = -1 ∧ E1 = E) ∨ (0 < m ∧ v = ((m - 1 : Nat) : Int) ∧ CXI E1 s (Pi (m - 1)) L T K (di (m - 1)) ∧ CCh E1 24 (Ci (m - 1)) ∧ E1 0 18 = ((m - 1 : Nat) : Int) ∧ CHX E E1 s))
theorem XK_49 {g : Gw} (hG : GF g) (n : Nat) (E : Mm) (hE : INV n E) : CT g yX11_restore cX11_restore 1 (some .int) 3 68 0 0 K2 false [mR 0] (ov E) K2 false (fun r D' => ∃ (v : Int) (E1 : Mm), r = some (mI v) ∧ D' = ov E1 ∧ MK_49 n E  v E1) := by
  obtain ⟨s, Q, P, L, T, K, d, st, sz, C, m, Pi, di, Ci, h⟩ := hE
  refine (ct_X11_restore hG E s P L T K d h.1 m h.2.2.2.2.2.2.2.1.2.2 h.2.2.2.2.2.2.2.1.1 (Pi (m - 1)) (di (m - 1)) (Ci (m - 1)) (fun h0 => by have q := h.2.2.2.2.2.2.2.2 (m - 1) (by omega); exact ⟨q.1, q.2.2.1, q.2.2.2.1, q.2.2.2.2.1, q.2.2.2.2.2.1, q.2.2.2.2.2.2.1⟩)).imp (fun r D' q => ?_)
  rcases q with ⟨q1, rfl, rfl⟩ | ⟨q1, rfl, E1, rfl, q2, q3, q4, q5⟩
  · exact ⟨_, E, rfl, rfl, s, Q, P, L, T, K, d, st, sz, C, m, Pi, di, Ci, h, Or.inl ⟨q1, rfl, rfl⟩⟩
  · exact ⟨_, E1, rfl, rfl, s, Q, P, L, T, K, d, st, sz, C, m, Pi, di, Ci, h, Or.inr ⟨q1, rfl, q2, q3, q4, q5⟩⟩
theorem RK_49 {g : Gw} (hG : GF g) (n : Nat) (hn : n ≤ 4000) (E : Mm) (v : Int) (E1 : Mm) (hM : MK_49 n E  v E1) : CT g yX12_restore cX12_restore 1 (some .int) 3 71 0 0 K2 false [mR 125] (ov E1) K2 false (fun r D' => ∃ E2 : Mm, r = some (mI v) ∧ D' = ov E2 ∧ INV (n + 6) E2) := by
  obtain ⟨s, Q, P, L, T, K, d, st, sz, C, m, Pi, di, Ci, h, q⟩ := hM
  have hWf := h.wf hn
  have hmE : E 125 47 = (m : Int) := h.2.2.2.2.2.2.2.1.2.1
  have hm3 := h.2.2.2.2.2.2.2.1.2.2
  rcases q with ⟨q1, hv, rfl⟩ | ⟨q1, hv, q2, q3, q4, q5⟩
  · refine (ct_X12_restore hG _ Q P L T K d st hWf h.2.1 m hm3 hmE).imp (fun r D' p => ?_)
    rcases p with ⟨p1, rfl, E2, rfl, hO⟩ | ⟨p1, -⟩
    · exact ⟨E2, by rw [hv], rfl, s, Q, P, L, T, K, d, st, sz, C, m, Pi, di, Ci, h.told2 h.1 CXF.rf hO⟩
    · exact absurd q1 (by omega)
  · have hhi := q5.hi h.1.sa
    have hR : RXI E1 Q P L T K d st := h.2.1.fr2 hWf (fun q hq => hhi q (by omega)) (fun k _ => by rw [hhi 125 (by omega)])
    refine (ct_X12_restore hG _ Q P L T K d st hWf hR m hm3 (by rw [hhi 125 (by omega)]; exact hmE)).imp (fun r D' p => ?_)
    rcases p with ⟨p1, -⟩ | ⟨p1, rfl, E2, rfl, hO⟩
    · exact absurd p1 (by omega)
    · exact ⟨E2, by rw [hv], rfl, s, Q, _, L, T, K, _, st, sz, _, m - 1, Pi, di, Ci, h.restore hn q1 q2 q3 q4 q5 hO⟩
