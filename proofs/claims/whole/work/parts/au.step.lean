def MK_27 (n : Nat) (E : Mm) (v : Int) (E1 : Mm) : Prop := ∃ (s : Nat) (Q : RX) (P : SP) (L : LW) (T K : LN) (d st sz : Nat) (C : CHt) (m : Nat) (Pi : Nat → SP) (di : Nat → Nat) (Ci : Nat → CHt), INVg n s Q P L T K d st sz C m Pi di Ci E ∧ v = ((rlP K (dF (dyP (gNow P L d) (sB P) T 24)) K.1 : Nat) : Int) ∧ CXI E1 s P L T K d ∧ CXF E E1
theorem XK_27 {g : Gw} (hG : GF g) (n : Nat) (E : Mm) (hE : INV n E) : CT g yX11_right cX11_right 1 (some .int) 6 146 0 0 K2 false [mR 0] (ov E) K2 false (fun r D' => ∃ (v : Int) (E1 : Mm), r = some (mI v) ∧ D' = ov E1 ∧ MK_27 n E  v E1) := by
  obtain ⟨s, Q, P, L, T, K, d, st, sz, C, m, Pi, di, Ci, h⟩ := hE
  refine (ct_X11_right hG E s P L T K d h.1 ).imp (fun r D' q => ?_)
  obtain ⟨rfl, E1, rfl, hI, hX⟩ := q
  exact ⟨_, E1, rfl, rfl, s, Q, P, L, T, K, d, st, sz, C, m, Pi, di, Ci, h, rfl, hI, hX⟩
theorem RK_27 {g : Gw} (hG : GF g) (n : Nat) (hn : n ≤ 4000) (E : Mm) (v : Int) (E1 : Mm) (hM : MK_27 n E  v E1) : CT g yX12_right cX12_right 1 (some .int) 8 176 0 0 K2 false [mR 125] (ov E1) K2 false (fun r D' => ∃ E2 : Mm, r = some (mI v) ∧ D' = ov E2 ∧ INV (n + 6) E2) := by
  obtain ⟨s, Q, P, L, T, K, d, st, sz, C, m, Pi, di, Ci, h, rfl, hI, hX⟩ := hM
  refine (ct_X12_right hG E1 Q P L T K d st (h.wf hn) (h.ask2 hn hX) ).imp (fun r D' q => ?_)
  obtain ⟨rfl, E2, rfl, hO⟩ := q
  exact ⟨E2, rfl, rfl, ⟨s, Q, P, L, T, K, d, st, sz, C, m, Pi, di, Ci, h.told2 hI hX hO⟩⟩
def MK_28 (n : Nat) (E : Mm) (x0 x1 : Int) (c : Nat) (v : Int) (E1 : Mm) : Prop := ∃ (s : Nat) (Q : RX) (P : SP) (L : LW) (T K : LN) (d st sz : Nat) (C : CHt) (m : Nat) (Pi : Nat → SP) (di : Nat → Nat) (Ci : Nat → CHt), INVg n s Q P L T K d st sz C m Pi di Ci E ∧ ((c = 0 ∧ ((0 ≤ x0 ∧ x0 ≤ 399) ∧ (0 ≤ x1 ∧ x1 ≤ 399) ∧ x0 ≤ x1) ∧ v = ((cntp (fun i => whD P L T (x0.toNat + i)) (x1.toNat + 1 - x0.toNat) : Nat) : Int) ∧ CXI E1 s P L T K d ∧ CXF E E1) ∨ (c = 1 ∧ (¬ ((0 ≤ x0 ∧ x0 ≤ 399) ∧ (0 ≤ x1 ∧ x1 ≤ 399) ∧ x0 ≤ x1)) ∧ E1 = bumpE E 2))
theorem XK_28 {g : Gw} (hG : GF g) (n : Nat) (E : Mm) (x0 x1 : Int) (hE : INV n E) : CTX g yX11_whole cX11_whole 6 (some .int) 8 148 3 18 K2 false [mR 0, mI x0, mI x1] (ov E) K2 false (fun r D' => ∃ (v : Int) (E1 : Mm), r = some (mI v) ∧ D' = ov E1 ∧ MK_28 n E x0 x1 0 v E1) (fun X D' => ∃ (c : Nat) (E1 : Mm), ((c = 1 ∧ X = "java/lang/IllegalArgumentException")) ∧ D' = ov E1 ∧ MK_28 n E x0 x1 c 0 E1) := by
  obtain ⟨s, Q, P, L, T, K, d, st, sz, C, m, Pi, di, Ci, h⟩ := hE
  refine (ct_X11_whole hG E s P L T K d h.1 x0 x1).imp (fun r D' q => ?_) (fun X D' q => ?_)
  · obtain ⟨c0, c1, c2, rfl, E1, rfl, hI, hX⟩ := q
    exact ⟨_, E1, rfl, rfl, s, Q, P, L, T, K, d, st, sz, C, m, Pi, di, Ci, h, Or.inl ⟨rfl, by omega, rfl, hI, hX⟩⟩
  · rcases q with ⟨c0, rfl, rfl⟩ | ⟨c0, c1, rfl, rfl⟩ | ⟨c0, c1, c2, rfl, rfl⟩
    · exact ⟨1, _, ⟨rfl, rfl⟩, rfl, s, Q, P, L, T, K, d, st, sz, C, m, Pi, di, Ci, h, Or.inr (⟨rfl, by omega, rfl⟩)⟩
    · exact ⟨1, _, ⟨rfl, rfl⟩, rfl, s, Q, P, L, T, K, d, st, sz, C, m, Pi, di, Ci, h, Or.inr (⟨rfl, by omega, rfl⟩)⟩
    · exact ⟨1, _, ⟨rfl, rfl⟩, rfl, s, Q, P, L, T, K, d, st, sz, C, m, Pi, di, Ci, h, Or.inr (⟨rfl, by omega, rfl⟩)⟩
theorem RK_28 {g : Gw} (hG : GF g) (n : Nat) (hn : n ≤ 4000) (E : Mm) (x0 x1 : Int) (c : Nat) (v : Int) (E1 : Mm) (hM : MK_28 n E x0 x1 c v E1) : CT g yX12_whole cX12_whole 5 (some .int) 7 157 0 0 K2 false [mR 125, mI x0, mI x1] (ov (if c = 0 then wr E1 813 0 v else E1)) K2 false (fun r D' => ∃ (bb : Int) (E2 : Mm), r = some (mI bb) ∧ D' = ov E2 ∧ INV (n + 6) E2 ∧ E2 125 0 = (c : Int) ∧ (c = 0 → E2 813 0 = bb)) := by
  obtain ⟨s, Q, P, L, T, K, d, st, sz, C, m, Pi, di, Ci, h, q⟩ := hM
  have hWf := h.wf hn
  rcases q with ⟨rfl, d0, hv, hI, hX⟩ | ⟨rfl, d0, rfl⟩
  · rw [if_pos rfl]
    refine (ct_X12_whole hG _ Q P L T K d st hWf (h.ask hn hX) x0 x1).imp (fun r D' q => ?_)
    rcases q with ⟨e0, rfl, E2, rfl, hO⟩ | ⟨e0, -, -⟩
    · obtain ⟨k1, k2, k3⟩ := h.told hI hX hO
      exact ⟨_, E2, rfl, rfl, ⟨s, Q, P, L, T, K, d, st, sz, C, m, Pi, di, Ci, k1⟩, k2, fun _ => k3.trans hv⟩
    · exfalso; omega
  · rw [if_neg (by decide)]
    refine (ct_X12_whole hG _ Q P L T K d st hWf (h.no hn 2) x0 x1).imp (fun r D' q => ?_)
    rcases q with ⟨e0, -⟩ | ⟨e0, rfl, rfl⟩
    · exfalso; omega
    · obtain ⟨k1, k2⟩ := h.refused hn (show 2 < 3 by decide) 1
      exact ⟨_, _, rfl, rfl, ⟨s, Q, P, L, T, K, d, st, sz, C, m, Pi, di, Ci, k1⟩, k2, fun q => absurd q (by decide)⟩
def MK_29 (n : Nat) (E : Mm) (x0 : Int) (c : Nat) (v : Int) (E1 : Mm) : Prop := ∃ (s : Nat) (Q : RX) (P : SP) (L : LW) (T K : LN) (d st sz : Nat) (C : CHt) (m : Nat) (Pi : Nat → SP) (di : Nat → Nat) (Ci : Nat → CHt), INVg n s Q P L T K d st sz C m Pi di Ci E ∧ ((c = 0 ∧ (0 ≤ x0 ∧ x0 ≤ 399) ∧ v = ((whF P L T x0.toNat) : Int) ∧ CXI E1 s P L T K d ∧ CXF E E1) ∨ (c = 1 ∧ (¬ (0 ≤ x0 ∧ x0 ≤ 399)) ∧ E1 = bumpE E 2))
theorem XK_29 {g : Gw} (hG : GF g) (n : Nat) (E : Mm) (x0 : Int) (hE : INV n E) : CTX g yX11_next cX11_next 4 (some .int) 8 148 1 6 K2 false [mR 0, mI x0] (ov E) K2 false (fun r D' => ∃ (v : Int) (E1 : Mm), r = some (mI v) ∧ D' = ov E1 ∧ MK_29 n E x0 0 v E1) (fun X D' => ∃ (c : Nat) (E1 : Mm), ((c = 1 ∧ X = "java/lang/IllegalArgumentException")) ∧ D' = ov E1 ∧ MK_29 n E x0 c 0 E1) := by
  obtain ⟨s, Q, P, L, T, K, d, st, sz, C, m, Pi, di, Ci, h⟩ := hE
  refine (ct_X11_next hG E s P L T K d h.1 x0).imp (fun r D' q => ?_) (fun X D' q => ?_)
  · obtain ⟨c0, rfl, E1, rfl, hI, hX⟩ := q
    exact ⟨_, E1, rfl, rfl, s, Q, P, L, T, K, d, st, sz, C, m, Pi, di, Ci, h, Or.inl ⟨rfl, by omega, rfl, hI, hX⟩⟩
  · rcases q with ⟨c0, rfl, rfl⟩
    · exact ⟨1, _, ⟨rfl, rfl⟩, rfl, s, Q, P, L, T, K, d, st, sz, C, m, Pi, di, Ci, h, Or.inr (⟨rfl, by omega, rfl⟩)⟩
theorem RK_29 {g : Gw} (hG : GF g) (n : Nat) (hn : n ≤ 4000) (E : Mm) (x0 : Int) (c : Nat) (v : Int) (E1 : Mm) (hM : MK_29 n E x0 c v E1) : CT g yX12_next cX12_next 3 (some .int) 7 157 0 0 K2 false [mR 125, mI x0] (ov (if c = 0 then wr E1 813 0 v else E1)) K2 false (fun r D' => ∃ (bb : Int) (E2 : Mm), r = some (mI bb) ∧ D' = ov E2 ∧ INV (n + 6) E2 ∧ E2 125 0 = (c : Int) ∧ (c = 0 → E2 813 0 = bb)) := by
  obtain ⟨s, Q, P, L, T, K, d, st, sz, C, m, Pi, di, Ci, h, q⟩ := hM
  have hWf := h.wf hn
  rcases q with ⟨rfl, d0, hv, hI, hX⟩ | ⟨rfl, d0, rfl⟩
  · rw [if_pos rfl]
    refine (ct_X12_next hG _ Q P L T K d st hWf (h.ask hn hX) x0).imp (fun r D' q => ?_)
    rcases q with ⟨e0, rfl, E2, rfl, hO⟩ | ⟨e0, -, -⟩
    · obtain ⟨k1, k2, k3⟩ := h.told hI hX hO
      exact ⟨_, E2, rfl, rfl, ⟨s, Q, P, L, T, K, d, st, sz, C, m, Pi, di, Ci, k1⟩, k2, fun _ => k3.trans hv⟩
    · exfalso; omega
  · rw [if_neg (by decide)]
    refine (ct_X12_next hG _ Q P L T K d st hWf (h.no hn 2) x0).imp (fun r D' q => ?_)
    rcases q with ⟨e0, -⟩ | ⟨e0, rfl, rfl⟩
    · exfalso; omega
    · obtain ⟨k1, k2⟩ := h.refused hn (show 2 < 3 by decide) 1
      exact ⟨_, _, rfl, rfl, ⟨s, Q, P, L, T, K, d, st, sz, C, m, Pi, di, Ci, k1⟩, k2, fun q => absurd q (by decide)⟩
def MK_30 (n : Nat) (E : Mm) (x0 x1 x2 x3 x4 : Int) (c : Nat) (v : Int) (E1 : Mm) : Prop := ∃ (s : Nat) (Q : RX) (P : SP) (L : LW) (T K : LN) (d st sz : Nat) (C : CHt) (m : Nat) (Pi : Nat → SP) (di : Nat → Nat) (Ci : Nat → CHt), INVg n s Q P L T K d st sz C m Pi di Ci E ∧ ((c = 0 ∧ (0 ≤ x0 ∧ x0 ≤ (bN (sB P) : Int) - 1) ∧ ((0 ≤ x1 ∧ x1 ≤ 23) ∧ (0 ≤ x2 ∧ x2 ≤ 23) ∧ x1 ≤ x2 ∧ x2 - x1 ≤ 11 ∧ (0 ≤ x3 ∧ x3 ≤ 16) ∧ (0 ≤ x4 ∧ x4 ≤ 1)) ∧ v = ((odA (gNow P L d) (sB P) x0.toNat x1.toNat x2.toNat x3.toNat x4) : Int) ∧ CXI E1 s P L T K d ∧ CXF E E1) ∨ (c = 1 ∧ (¬ (0 ≤ x0 ∧ x0 ≤ (bN (sB P) : Int) - 1)) ∧ E1 = bumpE E 1) ∨ (c = 2 ∧ ((0 ≤ x0 ∧ x0 ≤ (bN (sB P) : Int) - 1) ∧ ¬ ((0 ≤ x1 ∧ x1 ≤ 23) ∧ (0 ≤ x2 ∧ x2 ≤ 23) ∧ x1 ≤ x2 ∧ x2 - x1 ≤ 11 ∧ (0 ≤ x3 ∧ x3 ≤ 16) ∧ (0 ≤ x4 ∧ x4 ≤ 1))) ∧ E1 = bumpE E 2))
theorem XK_30 {g : Gw} (hG : GF g) (n : Nat) (E : Mm) (x0 x1 x2 x3 x4 : Int) (hE : INV n E) : CTX g yX11_odds cX11_odds 12 (some .long) 8 133 4 24 K2 false [mR 0, mI x0, mI x1, mI x2, mI x3, mI x4] (ov E) K2 false (fun r D' => ∃ (v : Int) (E1 : Mm), r = some (mL v) ∧ D' = ov E1 ∧ MK_30 n E x0 x1 x2 x3 x4 0 v E1) (fun X D' => ∃ (c : Nat) (E1 : Mm), ((c = 1 ∧ X = "java/util/NoSuchElementException") ∨ (c = 2 ∧ X = "java/lang/IllegalArgumentException")) ∧ D' = ov E1 ∧ MK_30 n E x0 x1 x2 x3 x4 c 0 E1) := by
  obtain ⟨s, Q, P, L, T, K, d, st, sz, C, m, Pi, di, Ci, h⟩ := hE
  refine (ct_X11_odds hG E s P L T K d h.1 x0 x1 x2 x3 x4).imp (fun r D' q => ?_) (fun X D' q => ?_)
  · obtain ⟨c0, c1, c2, c3, rfl, E1, rfl, hI, hX⟩ := q
    exact ⟨_, E1, rfl, rfl, s, Q, P, L, T, K, d, st, sz, C, m, Pi, di, Ci, h, Or.inl ⟨rfl, by omega, by omega, rfl, hI, hX⟩⟩
  · rcases q with ⟨c0, rfl, rfl⟩ | ⟨c0, c1, rfl, rfl⟩ | ⟨c0, c1, c2, rfl, rfl⟩ | ⟨c0, c1, c2, c3, rfl, rfl⟩
    · exact ⟨1, _, Or.inl ⟨rfl, rfl⟩, rfl, s, Q, P, L, T, K, d, st, sz, C, m, Pi, di, Ci, h, Or.inr (Or.inl ⟨rfl, by omega, rfl⟩)⟩
    · exact ⟨2, _, Or.inr (⟨rfl, rfl⟩), rfl, s, Q, P, L, T, K, d, st, sz, C, m, Pi, di, Ci, h, Or.inr (Or.inr (⟨rfl, by omega, rfl⟩))⟩
    · exact ⟨2, _, Or.inr (⟨rfl, rfl⟩), rfl, s, Q, P, L, T, K, d, st, sz, C, m, Pi, di, Ci, h, Or.inr (Or.inr (⟨rfl, by omega, rfl⟩))⟩
    · exact ⟨2, _, Or.inr (⟨rfl, rfl⟩), rfl, s, Q, P, L, T, K, d, st, sz, C, m, Pi, di, Ci, h, Or.inr (Or.inr (⟨rfl, by omega, rfl⟩))⟩
theorem RK_30 {g : Gw} (hG : GF g) (n : Nat) (hn : n ≤ 4000) (E : Mm) (x0 x1 x2 x3 x4 : Int) (c : Nat) (v : Int) (E1 : Mm) (hM : MK_30 n E x0 x1 x2 x3 x4 c v E1) : CT g yX12_odds cX12_odds 11 (some .long) 6 138 0 0 K2 false [mR 125, mI x0, mI x1, mI x2, mI x3, mI x4] (ov (if c = 0 then wr E1 813 0 v else E1)) K2 false (fun r D' => ∃ (bb : Int) (E2 : Mm), r = some (mL bb) ∧ D' = ov E2 ∧ INV (n + 6) E2 ∧ E2 125 0 = (c : Int) ∧ (c = 0 → E2 813 0 = bb)) := by
  obtain ⟨s, Q, P, L, T, K, d, st, sz, C, m, Pi, di, Ci, h, q⟩ := hM
  have hWf := h.wf hn
  rcases q with ⟨rfl, d0, d1, hv, hI, hX⟩ | ⟨rfl, d0, rfl⟩ | ⟨rfl, d0, rfl⟩
  · rw [if_pos rfl]
    refine (ct_X12_odds hG _ Q P L T K d st hWf (h.ask hn hX) x0 x1 x2 x3 x4).imp (fun r D' q => ?_)
    rcases q with ⟨e0, e1, rfl, E2, rfl, hO⟩ | ⟨e0, -, -⟩ | ⟨e0, e1, -, -⟩
    · obtain ⟨k1, k2, k3⟩ := h.told hI hX hO
      exact ⟨_, E2, rfl, rfl, ⟨s, Q, P, L, T, K, d, st, sz, C, m, Pi, di, Ci, k1⟩, k2, fun _ => k3.trans hv⟩
    · exfalso; omega
    · exfalso; omega
  · rw [if_neg (by decide)]
    refine (ct_X12_odds hG _ Q P L T K d st hWf (h.no hn 1) x0 x1 x2 x3 x4).imp (fun r D' q => ?_)
    rcases q with ⟨e0, e1, -⟩ | ⟨e0, rfl, rfl⟩ | ⟨e0, e1, -, -⟩
    · exfalso; omega
    · obtain ⟨k1, k2⟩ := h.refused hn (show 1 < 3 by decide) 1
      exact ⟨_, _, rfl, rfl, ⟨s, Q, P, L, T, K, d, st, sz, C, m, Pi, di, Ci, k1⟩, k2, fun q => absurd q (by decide)⟩
    · exfalso; omega
  · rw [if_neg (by decide)]
    refine (ct_X12_odds hG _ Q P L T K d st hWf (h.no hn 2) x0 x1 x2 x3 x4).imp (fun r D' q => ?_)
    rcases q with ⟨e0, e1, -⟩ | ⟨e0, -, -⟩ | ⟨e0, e1, rfl, rfl⟩
    · exfalso; omega
    · exfalso; omega
    · obtain ⟨k1, k2⟩ := h.refused hn (show 2 < 3 by decide) 2
      exact ⟨_, _, rfl, rfl, ⟨s, Q, P, L, T, K, d, st, sz, C, m, Pi, di, Ci, k1⟩, k2, fun q => absurd q (by decide)⟩
def MK_31 (n : Nat) (E : Mm) (x0 x1 : Int) (c : Nat) (v : Int) (E1 : Mm) : Prop := ∃ (s : Nat) (Q : RX) (P : SP) (L : LW) (T K : LN) (d st sz : Nat) (C : CHt) (m : Nat) (Pi : Nat → SP) (di : Nat → Nat) (Ci : Nat → CHt), INVg n s Q P L T K d st sz C m Pi di Ci E ∧ ((c = 0 ∧ (0 ≤ x1 ∧ x1 ≤ 16) ∧ v = ((mk (fun k => decide (¬ dF (dyP (setC (gNow P L d) (drC P x0 x1.toNat)) (sB P) T 24) k = -1)) 8 : Nat) : Int) ∧ CXI E1 s P L T K d ∧ CXF E E1) ∨ (c = 1 ∧ (¬ (0 ≤ x1 ∧ x1 ≤ 16)) ∧ E1 = bumpE E 2))
theorem XK_31 {g : Gw} (hG : GF g) (n : Nat) (E : Mm) (x0 x1 : Int) (hE : INV n E) : CTX g yX11_drawn cX11_drawn 3 (some .int) 7 151 1 6 K2 false [mR 0, mI x0, mI x1] (ov E) K2 false (fun r D' => ∃ (v : Int) (E1 : Mm), r = some (mI v) ∧ D' = ov E1 ∧ MK_31 n E x0 x1 0 v E1) (fun X D' => ∃ (c : Nat) (E1 : Mm), ((c = 1 ∧ X = "java/lang/IllegalArgumentException")) ∧ D' = ov E1 ∧ MK_31 n E x0 x1 c 0 E1) := by
  obtain ⟨s, Q, P, L, T, K, d, st, sz, C, m, Pi, di, Ci, h⟩ := hE
  refine (ct_X11_drawn hG E s P L T K d h.1 x0 x1).imp (fun r D' q => ?_) (fun X D' q => ?_)
  · obtain ⟨c0, rfl, E1, rfl, hI, hX⟩ := q
    exact ⟨_, E1, rfl, rfl, s, Q, P, L, T, K, d, st, sz, C, m, Pi, di, Ci, h, Or.inl ⟨rfl, by omega, rfl, hI, hX⟩⟩
  · rcases q with ⟨c0, rfl, rfl⟩
    · exact ⟨1, _, ⟨rfl, rfl⟩, rfl, s, Q, P, L, T, K, d, st, sz, C, m, Pi, di, Ci, h, Or.inr (⟨rfl, by omega, rfl⟩)⟩
theorem RK_31 {g : Gw} (hG : GF g) (n : Nat) (hn : n ≤ 4000) (E : Mm) (x0 x1 : Int) (c : Nat) (v : Int) (E1 : Mm) (hM : MK_31 n E x0 x1 c v E1) : CT g yX12_drawn cX12_drawn 3 (some .int) 7 160 0 0 K2 false [mR 125, mI x0, mI x1] (ov (if c = 0 then wr E1 813 0 v else E1)) K2 false (fun r D' => ∃ (bb : Int) (E2 : Mm), r = some (mI bb) ∧ D' = ov E2 ∧ INV (n + 6) E2 ∧ E2 125 0 = (c : Int) ∧ (c = 0 → E2 813 0 = bb)) := by
  obtain ⟨s, Q, P, L, T, K, d, st, sz, C, m, Pi, di, Ci, h, q⟩ := hM
  have hWf := h.wf hn
  rcases q with ⟨rfl, d0, hv, hI, hX⟩ | ⟨rfl, d0, rfl⟩
  · rw [if_pos rfl]
    refine (ct_X12_drawn hG _ Q P L T K d st hWf (h.ask hn hX) x0 x1).imp (fun r D' q => ?_)
    rcases q with ⟨e0, rfl, E2, rfl, hO⟩ | ⟨e0, -, -⟩
    · obtain ⟨k1, k2, k3⟩ := h.told hI hX hO
      exact ⟨_, E2, rfl, rfl, ⟨s, Q, P, L, T, K, d, st, sz, C, m, Pi, di, Ci, k1⟩, k2, fun _ => k3.trans hv⟩
    · exfalso; omega
  · rw [if_neg (by decide)]
    refine (ct_X12_drawn hG _ Q P L T K d st hWf (h.no hn 2) x0 x1).imp (fun r D' q => ?_)
    rcases q with ⟨e0, -⟩ | ⟨e0, rfl, rfl⟩
    · exfalso; omega
    · obtain ⟨k1, k2⟩ := h.refused hn (show 2 < 3 by decide) 1
      exact ⟨_, _, rfl, rfl, ⟨s, Q, P, L, T, K, d, st, sz, C, m, Pi, di, Ci, k1⟩, k2, fun q => absurd q (by decide)⟩
def MK_32 (n : Nat) (E : Mm) (x0 x1 x2 x3 x4 : Int) (c : Nat) (v : Int) (E1 : Mm) : Prop := ∃ (s : Nat) (Q : RX) (P : SP) (L : LW) (T K : LN) (d st sz : Nat) (C : CHt) (m : Nat) (Pi : Nat → SP) (di : Nat → Nat) (Ci : Nat → CHt), INVg n s Q P L T K d st sz C m Pi di Ci E ∧ ((c = 0 ∧ ((1 ≤ x1 ∧ x1 ≤ 40) ∧ (0 ≤ x2 ∧ x2 ≤ 16) ∧ (0 ≤ x3 ∧ x3 ≤ 2) ∧ 0 ≤ x4 ∧ x4 ≤ (bN (sB P) : Int) - 1) ∧ v = ((if x3 = 0 then spL P L T d x0 x2.toNat x1.toNat else if x3 = 1 then spM P L T d x0 x2.toNat x1.toNat else (spB P L T d x0 x2.toNat x4.toNat x1.toNat : Nat)) : Int) ∧ CXI E1 s P L T K d ∧ CXF E E1) ∨ (c = 1 ∧ (¬ ((1 ≤ x1 ∧ x1 ≤ 40) ∧ (0 ≤ x2 ∧ x2 ≤ 16) ∧ (0 ≤ x3 ∧ x3 ≤ 2) ∧ 0 ≤ x4 ∧ x4 ≤ (bN (sB P) : Int) - 1)) ∧ E1 = bumpE E 2))
theorem XK_32 {g : Gw} (hG : GF g) (n : Nat) (E : Mm) (x0 x1 x2 x3 x4 : Int) (hE : INV n E) : CTX g yX11_span cX11_span 10 (some .int) 8 151 3 18 K2 false [mR 0, mI x0, mI x1, mI x2, mI x3, mI x4] (ov E) K2 false (fun r D' => ∃ (v : Int) (E1 : Mm), r = some (mI v) ∧ D' = ov E1 ∧ MK_32 n E x0 x1 x2 x3 x4 0 v E1) (fun X D' => ∃ (c : Nat) (E1 : Mm), ((c = 1 ∧ X = "java/lang/IllegalArgumentException")) ∧ D' = ov E1 ∧ MK_32 n E x0 x1 x2 x3 x4 c 0 E1) := by
  obtain ⟨s, Q, P, L, T, K, d, st, sz, C, m, Pi, di, Ci, h⟩ := hE
  refine (ct_X11_span hG E s P L T K d h.1 x0 x1 x2 x3 x4).imp (fun r D' q => ?_) (fun X D' q => ?_)
  · obtain ⟨c0, c1, c2, rfl, E1, rfl, hI, hX⟩ := q
    exact ⟨_, E1, rfl, rfl, s, Q, P, L, T, K, d, st, sz, C, m, Pi, di, Ci, h, Or.inl ⟨rfl, by omega, rfl, hI, hX⟩⟩
  · rcases q with ⟨c0, rfl, rfl⟩ | ⟨c0, c1, rfl, rfl⟩ | ⟨c0, c1, c2, rfl, rfl⟩
    · exact ⟨1, _, ⟨rfl, rfl⟩, rfl, s, Q, P, L, T, K, d, st, sz, C, m, Pi, di, Ci, h, Or.inr (⟨rfl, by omega, rfl⟩)⟩
    · exact ⟨1, _, ⟨rfl, rfl⟩, rfl, s, Q, P, L, T, K, d, st, sz, C, m, Pi, di, Ci, h, Or.inr (⟨rfl, by omega, rfl⟩)⟩
    · exact ⟨1, _, ⟨rfl, rfl⟩, rfl, s, Q, P, L, T, K, d, st, sz, C, m, Pi, di, Ci, h, Or.inr (⟨rfl, by omega, rfl⟩)⟩
theorem RK_32 {g : Gw} (hG : GF g) (n : Nat) (hn : n ≤ 4000) (E : Mm) (x0 x1 x2 x3 x4 : Int) (c : Nat) (v : Int) (E1 : Mm) (hM : MK_32 n E x0 x1 x2 x3 x4 c v E1) : CT g yX12_span cX12_span 12 (some .int) 7 160 0 0 K2 false [mR 125, mI x0, mI x1, mI x2, mI x3, mI x4] (ov (if c = 0 then wr E1 813 0 v else E1)) K2 false (fun r D' => ∃ (bb : Int) (E2 : Mm), r = some (mI bb) ∧ D' = ov E2 ∧ INV (n + 6) E2 ∧ E2 125 0 = (c : Int) ∧ (c = 0 → E2 813 0 = bb)) := by
  obtain ⟨s, Q, P, L, T, K, d, st, sz, C, m, Pi, di, Ci, h, q⟩ := hM
  have hWf := h.wf hn
  rcases q with ⟨rfl, d0, hv, hI, hX⟩ | ⟨rfl, d0, rfl⟩
  · rw [if_pos rfl]
    refine (ct_X12_span hG _ Q P L T K d st hWf (h.ask hn hX) x0 x1 x2 x3 x4).imp (fun r D' q => ?_)
    rcases q with ⟨e0, rfl, E2, rfl, hO⟩ | ⟨e0, -, -⟩
    · obtain ⟨k1, k2, k3⟩ := h.told hI hX hO
      exact ⟨_, E2, rfl, rfl, ⟨s, Q, P, L, T, K, d, st, sz, C, m, Pi, di, Ci, k1⟩, k2, fun _ => k3.trans hv⟩
    · exfalso; omega
  · rw [if_neg (by decide)]
    refine (ct_X12_span hG _ Q P L T K d st hWf (h.no hn 2) x0 x1 x2 x3 x4).imp (fun r D' q => ?_)
    rcases q with ⟨e0, -⟩ | ⟨e0, rfl, rfl⟩
    · exfalso; omega
    · obtain ⟨k1, k2⟩ := h.refused hn (show 2 < 3 by decide) 1
      exact ⟨_, _, rfl, rfl, ⟨s, Q, P, L, T, K, d, st, sz, C, m, Pi, di, Ci, k1⟩, k2, fun q => absurd q (by decide)⟩
def MK_33 (n : Nat) (E : Mm) (x0 x1 x2 : Int) (c : Nat) (v : Int) (E1 : Mm) : Prop := ∃ (s : Nat) (Q : RX) (P : SP) (L : LW) (T K : LN) (d st sz : Nat) (C : CHt) (m : Nat) (Pi : Nat → SP) (di : Nat → Nat) (Ci : Nat → CHt), INVg n s Q P L T K d st sz C m Pi di Ci E ∧ ((c = 0 ∧ (0 ≤ x0 ∧ x0 ≤ (bN (sB P) : Int) - 1) ∧ ((0 ≤ x1 ∧ x1 ≤ 23) ∧ (0 ≤ x2 ∧ x2 ≤ 2)) ∧ v = ((plA (gNow P L d) (sB P) x0.toNat x1.toNat x2) : Int) ∧ CXI E1 s P L T K d ∧ CXF E E1) ∨ (c = 1 ∧ (¬ (0 ≤ x0 ∧ x0 ≤ (bN (sB P) : Int) - 1)) ∧ E1 = bumpE E 1) ∨ (c = 2 ∧ ((0 ≤ x0 ∧ x0 ≤ (bN (sB P) : Int) - 1) ∧ ¬ ((0 ≤ x1 ∧ x1 ≤ 23) ∧ (0 ≤ x2 ∧ x2 ≤ 2))) ∧ E1 = bumpE E 2))
theorem XK_33 {g : Gw} (hG : GF g) (n : Nat) (E : Mm) (x0 x1 x2 : Int) (hE : INV n E) : CTX g yX11_places cX11_places 6 (some .int) 8 146 3 18 K2 false [mR 0, mI x0, mI x1, mI x2] (ov E) K2 false (fun r D' => ∃ (v : Int) (E1 : Mm), r = some (mI v) ∧ D' = ov E1 ∧ MK_33 n E x0 x1 x2 0 v E1) (fun X D' => ∃ (c : Nat) (E1 : Mm), ((c = 1 ∧ X = "java/util/NoSuchElementException") ∨ (c = 2 ∧ X = "java/lang/IllegalArgumentException")) ∧ D' = ov E1 ∧ MK_33 n E x0 x1 x2 c 0 E1) := by
  obtain ⟨s, Q, P, L, T, K, d, st, sz, C, m, Pi, di, Ci, h⟩ := hE
  refine (ct_X11_places hG E s P L T K d h.1 x0 x1 x2).imp (fun r D' q => ?_) (fun X D' q => ?_)
  · obtain ⟨c0, c1, c2, rfl, E1, rfl, hI, hX⟩ := q
    exact ⟨_, E1, rfl, rfl, s, Q, P, L, T, K, d, st, sz, C, m, Pi, di, Ci, h, Or.inl ⟨rfl, by omega, by omega, rfl, hI, hX⟩⟩
  · rcases q with ⟨c0, rfl, rfl⟩ | ⟨c0, c1, rfl, rfl⟩ | ⟨c0, c1, c2, rfl, rfl⟩
    · exact ⟨1, _, Or.inl ⟨rfl, rfl⟩, rfl, s, Q, P, L, T, K, d, st, sz, C, m, Pi, di, Ci, h, Or.inr (Or.inl ⟨rfl, by omega, rfl⟩)⟩
    · exact ⟨2, _, Or.inr (⟨rfl, rfl⟩), rfl, s, Q, P, L, T, K, d, st, sz, C, m, Pi, di, Ci, h, Or.inr (Or.inr (⟨rfl, by omega, rfl⟩))⟩
    · exact ⟨2, _, Or.inr (⟨rfl, rfl⟩), rfl, s, Q, P, L, T, K, d, st, sz, C, m, Pi, di, Ci, h, Or.inr (Or.inr (⟨rfl, by omega, rfl⟩))⟩
theorem RK_33 {g : Gw} (hG : GF g) (n : Nat) (hn : n ≤ 4000) (E : Mm) (x0 x1 x2 : Int) (c : Nat) (v : Int) (E1 : Mm) (hM : MK_33 n E x0 x1 x2 c v E1) : CT g yX12_places cX12_places 7 (some .int) 7 156 0 0 K2 false [mR 125, mI x0, mI x1, mI x2] (ov (if c = 0 then wr E1 813 0 v else E1)) K2 false (fun r D' => ∃ (bb : Int) (E2 : Mm), r = some (mI bb) ∧ D' = ov E2 ∧ INV (n + 6) E2 ∧ E2 125 0 = (c : Int) ∧ (c = 0 → E2 813 0 = bb)) := by
  obtain ⟨s, Q, P, L, T, K, d, st, sz, C, m, Pi, di, Ci, h, q⟩ := hM
  have hWf := h.wf hn
  rcases q with ⟨rfl, d0, d1, hv, hI, hX⟩ | ⟨rfl, d0, rfl⟩ | ⟨rfl, d0, rfl⟩
  · rw [if_pos rfl]
    refine (ct_X12_places hG _ Q P L T K d st hWf (h.ask hn hX) x0 x1 x2).imp (fun r D' q => ?_)
    rcases q with ⟨e0, e1, rfl, E2, rfl, hO⟩ | ⟨e0, -, -⟩ | ⟨e0, e1, -, -⟩
    · obtain ⟨k1, k2, k3⟩ := h.told hI hX hO
      exact ⟨_, E2, rfl, rfl, ⟨s, Q, P, L, T, K, d, st, sz, C, m, Pi, di, Ci, k1⟩, k2, fun _ => k3.trans hv⟩
    · exfalso; omega
    · exfalso; omega
  · rw [if_neg (by decide)]
    refine (ct_X12_places hG _ Q P L T K d st hWf (h.no hn 1) x0 x1 x2).imp (fun r D' q => ?_)
    rcases q with ⟨e0, e1, -⟩ | ⟨e0, rfl, rfl⟩ | ⟨e0, e1, -, -⟩
    · exfalso; omega
    · obtain ⟨k1, k2⟩ := h.refused hn (show 1 < 3 by decide) 1
      exact ⟨_, _, rfl, rfl, ⟨s, Q, P, L, T, K, d, st, sz, C, m, Pi, di, Ci, k1⟩, k2, fun q => absurd q (by decide)⟩
    · exfalso; omega
  · rw [if_neg (by decide)]
    refine (ct_X12_places hG _ Q P L T K d st hWf (h.no hn 2) x0 x1 x2).imp (fun r D' q => ?_)
    rcases q with ⟨e0, e1, -⟩ | ⟨e0, -, -⟩ | ⟨e0, e1, rfl, rfl⟩
    · exfalso; omega
    · exfalso; omega
    · obtain ⟨k1, k2⟩ := h.refused hn (show 2 < 3 by decide) 2
      exact ⟨_, _, rfl, rfl, ⟨s, Q, P, L, T, K, d, st, sz, C, m, Pi, di, Ci, k1⟩, k2, fun q => absurd q (by decide)⟩
def MK_34 (n : Nat) (E : Mm) (x0 x1 : Int) (c : Nat) (v : Int) (E1 : Mm) : Prop := ∃ (s : Nat) (Q : RX) (P : SP) (L : LW) (T K : LN) (d st sz : Nat) (C : CHt) (m : Nat) (Pi : Nat → SP) (di : Nat → Nat) (Ci : Nat → CHt), INVg n s Q P L T K d st sz C m Pi di Ci E ∧ ((c = 0 ∧ ((0 ≤ x0 ∧ x0 ≤ 23) ∧ (0 ≤ x1 ∧ x1 ≤ 1)) ∧ v = ((if x1 = 0 then ((rwP (fun c => decide (0 < bOn (gNow P L d) x0.toNat c)) (sW P)).1 : Int) else (rwP (fun c => decide (0 < bOn (gNow P L d) x0.toNat c)) (sW P)).2.1) : Int) ∧ CXI E1 s P L T K d ∧ CXF E E1) ∨ (c = 1 ∧ (¬ ((0 ≤ x0 ∧ x0 ≤ 23) ∧ (0 ≤ x1 ∧ x1 ≤ 1))) ∧ E1 = bumpE E 2))
theorem XK_34 {g : Gw} (hG : GF g) (n : Nat) (E : Mm) (x0 x1 : Int) (hE : INV n E) : CTX g yX11_row cX11_row 9 (some .int) 8 146 2 12 K2 false [mR 0, mI x0, mI x1] (ov E) K2 false (fun r D' => ∃ (v : Int) (E1 : Mm), r = some (mI v) ∧ D' = ov E1 ∧ MK_34 n E x0 x1 0 v E1) (fun X D' => ∃ (c : Nat) (E1 : Mm), ((c = 1 ∧ X = "java/lang/IllegalArgumentException")) ∧ D' = ov E1 ∧ MK_34 n E x0 x1 c 0 E1) := by
  obtain ⟨s, Q, P, L, T, K, d, st, sz, C, m, Pi, di, Ci, h⟩ := hE
  refine (ct_X11_row hG E s P L T K d h.1 x0 x1).imp (fun r D' q => ?_) (fun X D' q => ?_)
  · obtain ⟨c0, c1, rfl, E1, rfl, hI, hX⟩ := q
    exact ⟨_, E1, rfl, rfl, s, Q, P, L, T, K, d, st, sz, C, m, Pi, di, Ci, h, Or.inl ⟨rfl, by omega, rfl, hI, hX⟩⟩
  · rcases q with ⟨c0, rfl, rfl⟩ | ⟨c0, c1, rfl, rfl⟩
    · exact ⟨1, _, ⟨rfl, rfl⟩, rfl, s, Q, P, L, T, K, d, st, sz, C, m, Pi, di, Ci, h, Or.inr (⟨rfl, by omega, rfl⟩)⟩
    · exact ⟨1, _, ⟨rfl, rfl⟩, rfl, s, Q, P, L, T, K, d, st, sz, C, m, Pi, di, Ci, h, Or.inr (⟨rfl, by omega, rfl⟩)⟩
theorem RK_34 {g : Gw} (hG : GF g) (n : Nat) (hn : n ≤ 4000) (E : Mm) (x0 x1 : Int) (c : Nat) (v : Int) (E1 : Mm) (hM : MK_34 n E x0 x1 c v E1) : CT g yX12_row cX12_row 7 (some .int) 7 156 0 0 K2 false [mR 125, mI x0, mI x1] (ov (if c = 0 then wr E1 813 0 v else E1)) K2 false (fun r D' => ∃ (bb : Int) (E2 : Mm), r = some (mI bb) ∧ D' = ov E2 ∧ INV (n + 6) E2 ∧ E2 125 0 = (c : Int) ∧ (c = 0 → E2 813 0 = bb)) := by
  obtain ⟨s, Q, P, L, T, K, d, st, sz, C, m, Pi, di, Ci, h, q⟩ := hM
  have hWf := h.wf hn
  rcases q with ⟨rfl, d0, hv, hI, hX⟩ | ⟨rfl, d0, rfl⟩
  · rw [if_pos rfl]
    refine (ct_X12_row hG _ Q P L T K d st hWf (h.ask hn hX) x0 x1).imp (fun r D' q => ?_)
    rcases q with ⟨e0, rfl, E2, rfl, hO⟩ | ⟨e0, -, -⟩
    · obtain ⟨k1, k2, k3⟩ := h.told hI hX hO
      exact ⟨_, E2, rfl, rfl, ⟨s, Q, P, L, T, K, d, st, sz, C, m, Pi, di, Ci, k1⟩, k2, fun _ => k3.trans hv⟩
    · exfalso; omega
  · rw [if_neg (by decide)]
    refine (ct_X12_row hG _ Q P L T K d st hWf (h.no hn 2) x0 x1).imp (fun r D' q => ?_)
    rcases q with ⟨e0, -⟩ | ⟨e0, rfl, rfl⟩
    · exfalso; omega
    · obtain ⟨k1, k2⟩ := h.refused hn (show 2 < 3 by decide) 1
      exact ⟨_, _, rfl, rfl, ⟨s, Q, P, L, T, K, d, st, sz, C, m, Pi, di, Ci, k1⟩, k2, fun q => absurd q (by decide)⟩
def MK_35 (n : Nat) (E : Mm) (x0 : Int) (c : Nat) (v : Int) (E1 : Mm) : Prop := ∃ (s : Nat) (Q : RX) (P : SP) (L : LW) (T K : LN) (d st sz : Nat) (C : CHt) (m : Nat) (Pi : Nat → SP) (di : Nat → Nat) (Ci : Nat → CHt), INVg n s Q P L T K d st sz C m Pi di Ci E ∧ ((c = 0 ∧ (0 ≤ x0 ∧ x0 ≤ (bN (sB P) : Int) - 1) ∧ v = (((bsP (gNow P L d) (sB P) x0.toNat 24).1) : Int) ∧ CXI E1 s P L T K d ∧ CXF E E1) ∨ (c = 1 ∧ (¬ (0 ≤ x0 ∧ x0 ≤ (bN (sB P) : Int) - 1)) ∧ E1 = bumpE E 1))
theorem XK_35 {g : Gw} (hG : GF g) (n : Nat) (E : Mm) (x0 : Int) (hE : INV n E) : CTX g yX11_best cX11_best 6 (some .int) 7 146 1 6 K2 false [mR 0, mI x0] (ov E) K2 false (fun r D' => ∃ (v : Int) (E1 : Mm), r = some (mI v) ∧ D' = ov E1 ∧ MK_35 n E x0 0 v E1) (fun X D' => ∃ (c : Nat) (E1 : Mm), ((c = 1 ∧ X = "java/util/NoSuchElementException")) ∧ D' = ov E1 ∧ MK_35 n E x0 c 0 E1) := by
  obtain ⟨s, Q, P, L, T, K, d, st, sz, C, m, Pi, di, Ci, h⟩ := hE
  refine (ct_X11_best hG E s P L T K d h.1 x0).imp (fun r D' q => ?_) (fun X D' q => ?_)
  · obtain ⟨c0, rfl, E1, rfl, hI, hX⟩ := q
    exact ⟨_, E1, rfl, rfl, s, Q, P, L, T, K, d, st, sz, C, m, Pi, di, Ci, h, Or.inl ⟨rfl, by omega, rfl, hI, hX⟩⟩
  · rcases q with ⟨c0, rfl, rfl⟩
    · exact ⟨1, _, ⟨rfl, rfl⟩, rfl, s, Q, P, L, T, K, d, st, sz, C, m, Pi, di, Ci, h, Or.inr (⟨rfl, by omega, rfl⟩)⟩
theorem RK_35 {g : Gw} (hG : GF g) (n : Nat) (hn : n ≤ 4000) (E : Mm) (x0 : Int) (c : Nat) (v : Int) (E1 : Mm) (hM : MK_35 n E x0 c v E1) : CT g yX12_best cX12_best 4 (some .int) 7 156 0 0 K2 false [mR 125, mI x0] (ov (if c = 0 then wr E1 813 0 v else E1)) K2 false (fun r D' => ∃ (bb : Int) (E2 : Mm), r = some (mI bb) ∧ D' = ov E2 ∧ INV (n + 6) E2 ∧ E2 125 0 = (c : Int) ∧ (c = 0 → E2 813 0 = bb)) := by
  obtain ⟨s, Q, P, L, T, K, d, st, sz, C, m, Pi, di, Ci, h, q⟩ := hM
  have hWf := h.wf hn
  rcases q with ⟨rfl, d0, hv, hI, hX⟩ | ⟨rfl, d0, rfl⟩
  · rw [if_pos rfl]
    refine (ct_X12_best hG _ Q P L T K d st hWf (h.ask hn hX) x0).imp (fun r D' q => ?_)
    rcases q with ⟨e0, rfl, E2, rfl, hO⟩ | ⟨e0, -, -⟩
    · obtain ⟨k1, k2, k3⟩ := h.told hI hX hO
      exact ⟨_, E2, rfl, rfl, ⟨s, Q, P, L, T, K, d, st, sz, C, m, Pi, di, Ci, k1⟩, k2, fun _ => k3.trans hv⟩
    · exfalso; omega
  · rw [if_neg (by decide)]
    refine (ct_X12_best hG _ Q P L T K d st hWf (h.no hn 1) x0).imp (fun r D' q => ?_)
    rcases q with ⟨e0, -⟩ | ⟨e0, rfl, rfl⟩
    · exfalso; omega
    · obtain ⟨k1, k2⟩ := h.refused hn (show 1 < 3 by decide) 1
      exact ⟨_, _, rfl, rfl, ⟨s, Q, P, L, T, K, d, st, sz, C, m, Pi, di, Ci, k1⟩, k2, fun q => absurd q (by decide)⟩
def MK_36 (n : Nat) (E : Mm) (x0 : Int) (c : Nat) (v : Int) (E1 : Mm) : Prop := ∃ (s : Nat) (Q : RX) (P : SP) (L : LW) (T K : LN) (d st sz : Nat) (C : CHt) (m : Nat) (Pi : Nat → SP) (di : Nat → Nat) (Ci : Nat → CHt), INVg n s Q P L T K d st sz C m Pi di Ci E ∧ ((c = 0 ∧ (0 ≤ x0 ∧ x0 ≤ (bN (sB P) : Int) - 1) ∧ v = ((mk (fun h => stP (gNow P L d) (sB P) x0.toNat (bX (sB P) x0.toNat) h) 24 : Nat) : Int) ∧ CXI E1 s P L T K d ∧ CXF E E1) ∨ (c = 1 ∧ (¬ (0 ≤ x0 ∧ x0 ≤ (bN (sB P) : Int) - 1)) ∧ E1 = bumpE E 1))
theorem XK_36 {g : Gw} (hG : GF g) (n : Nat) (E : Mm) (x0 : Int) (hE : INV n E) : CTX g yX11_held cX11_held 4 (some .int) 7 146 1 6 K2 false [mR 0, mI x0] (ov E) K2 false (fun r D' => ∃ (v : Int) (E1 : Mm), r = some (mI v) ∧ D' = ov E1 ∧ MK_36 n E x0 0 v E1) (fun X D' => ∃ (c : Nat) (E1 : Mm), ((c = 1 ∧ X = "java/util/NoSuchElementException")) ∧ D' = ov E1 ∧ MK_36 n E x0 c 0 E1) := by
  obtain ⟨s, Q, P, L, T, K, d, st, sz, C, m, Pi, di, Ci, h⟩ := hE
  refine (ct_X11_held hG E s P L T K d h.1 x0).imp (fun r D' q => ?_) (fun X D' q => ?_)
  · obtain ⟨c0, rfl, E1, rfl, hI, hX⟩ := q
    exact ⟨_, E1, rfl, rfl, s, Q, P, L, T, K, d, st, sz, C, m, Pi, di, Ci, h, Or.inl ⟨rfl, by omega, rfl, hI, hX⟩⟩
  · rcases q with ⟨c0, rfl, rfl⟩
    · exact ⟨1, _, ⟨rfl, rfl⟩, rfl, s, Q, P, L, T, K, d, st, sz, C, m, Pi, di, Ci, h, Or.inr (⟨rfl, by omega, rfl⟩)⟩
theorem RK_36 {g : Gw} (hG : GF g) (n : Nat) (hn : n ≤ 4000) (E : Mm) (x0 : Int) (c : Nat) (v : Int) (E1 : Mm) (hM : MK_36 n E x0 c v E1) : CT g yX12_held cX12_held 4 (some .int) 7 156 0 0 K2 false [mR 125, mI x0] (ov (if c = 0 then wr E1 813 0 v else E1)) K2 false (fun r D' => ∃ (bb : Int) (E2 : Mm), r = some (mI bb) ∧ D' = ov E2 ∧ INV (n + 6) E2 ∧ E2 125 0 = (c : Int) ∧ (c = 0 → E2 813 0 = bb)) := by
  obtain ⟨s, Q, P, L, T, K, d, st, sz, C, m, Pi, di, Ci, h, q⟩ := hM
  have hWf := h.wf hn
  rcases q with ⟨rfl, d0, hv, hI, hX⟩ | ⟨rfl, d0, rfl⟩
  · rw [if_pos rfl]
    refine (ct_X12_held hG _ Q P L T K d st hWf (h.ask hn hX) x0).imp (fun r D' q => ?_)
    rcases q with ⟨e0, rfl, E2, rfl, hO⟩ | ⟨e0, -, -⟩
    · obtain ⟨k1, k2, k3⟩ := h.told hI hX hO
      exact ⟨_, E2, rfl, rfl, ⟨s, Q, P, L, T, K, d, st, sz, C, m, Pi, di, Ci, k1⟩, k2, fun _ => k3.trans hv⟩
    · exfalso; omega
  · rw [if_neg (by decide)]
    refine (ct_X12_held hG _ Q P L T K d st hWf (h.no hn 1) x0).imp (fun r D' q => ?_)
    rcases q with ⟨e0, -⟩ | ⟨e0, rfl, rfl⟩
    · exfalso; omega
    · obtain ⟨k1, k2⟩ := h.refused hn (show 1 < 3 by decide) 1
      exact ⟨_, _, rfl, rfl, ⟨s, Q, P, L, T, K, d, st, sz, C, m, Pi, di, Ci, k1⟩, k2, fun q => absurd q (by decide)⟩
def MK_37 (n : Nat) (E : Mm) (x0 : Int) (c : Nat) (v : Int) (E1 : Mm) : Prop := ∃ (s : Nat) (Q : RX) (P : SP) (L : LW) (T K : LN) (d st sz : Nat) (C : CHt) (m : Nat) (Pi : Nat → SP) (di : Nat → Nat) (Ci : Nat → CHt), INVg n s Q P L T K d st sz C m Pi di Ci E ∧ ((c = 0 ∧ (0 ≤ x0 ∧ x0 ≤ (sN P : Int) - 1) ∧ v = ((shrP (gNow P L d) x0.toNat 24 : Nat) : Int) ∧ CXI E1 s P L T K d ∧ CXF E E1) ∨ (c = 1 ∧ (¬ (0 ≤ x0 ∧ x0 ≤ (sN P : Int) - 1)) ∧ E1 = bumpE E 1))
theorem XK_37 {g : Gw} (hG : GF g) (n : Nat) (E : Mm) (x0 : Int) (hE : INV n E) : CTX g yX11_share cX11_share 5 (some .int) 7 146 1 6 K2 false [mR 0, mI x0] (ov E) K2 false (fun r D' => ∃ (v : Int) (E1 : Mm), r = some (mI v) ∧ D' = ov E1 ∧ MK_37 n E x0 0 v E1) (fun X D' => ∃ (c : Nat) (E1 : Mm), ((c = 1 ∧ X = "java/util/NoSuchElementException")) ∧ D' = ov E1 ∧ MK_37 n E x0 c 0 E1) := by
  obtain ⟨s, Q, P, L, T, K, d, st, sz, C, m, Pi, di, Ci, h⟩ := hE
  refine (ct_X11_share hG E s P L T K d h.1 x0).imp (fun r D' q => ?_) (fun X D' q => ?_)
  · obtain ⟨c0, rfl, E1, rfl, hI, hX⟩ := q
    exact ⟨_, E1, rfl, rfl, s, Q, P, L, T, K, d, st, sz, C, m, Pi, di, Ci, h, Or.inl ⟨rfl, by omega, rfl, hI, hX⟩⟩
  · rcases q with ⟨c0, rfl, rfl⟩
    · exact ⟨1, _, ⟨rfl, rfl⟩, rfl, s, Q, P, L, T, K, d, st, sz, C, m, Pi, di, Ci, h, Or.inr (⟨rfl, by omega, rfl⟩)⟩
theorem RK_37 {g : Gw} (hG : GF g) (n : Nat) (hn : n ≤ 4000) (E : Mm) (x0 : Int) (c : Nat) (v : Int) (E1 : Mm) (hM : MK_37 n E x0 c v E1) : CT g yX12_share cX12_share 5 (some .int) 7 156 0 0 K2 false [mR 125, mI x0] (ov (if c = 0 then wr E1 813 0 v else E1)) K2 false (fun r D' => ∃ (bb : Int) (E2 : Mm), r = some (mI bb) ∧ D' = ov E2 ∧ INV (n + 6) E2 ∧ E2 125 0 = (c : Int) ∧ (c = 0 → E2 813 0 = bb)) := by
  obtain ⟨s, Q, P, L, T, K, d, st, sz, C, m, Pi, di, Ci, h, q⟩ := hM
  have hWf := h.wf hn
  rcases q with ⟨rfl, d0, hv, hI, hX⟩ | ⟨rfl, d0, rfl⟩
  · rw [if_pos rfl]
    refine (ct_X12_share hG _ Q P L T K d st hWf (h.ask hn hX) x0).imp (fun r D' q => ?_)
    rcases q with ⟨e0, rfl, E2, rfl, hO⟩ | ⟨e0, -, -⟩
    · obtain ⟨k1, k2, k3⟩ := h.told hI hX hO
      exact ⟨_, E2, rfl, rfl, ⟨s, Q, P, L, T, K, d, st, sz, C, m, Pi, di, Ci, k1⟩, k2, fun _ => k3.trans hv⟩
    · exfalso; omega
  · rw [if_neg (by decide)]
    refine (ct_X12_share hG _ Q P L T K d st hWf (h.no hn 1) x0).imp (fun r D' q => ?_)
    rcases q with ⟨e0, -⟩ | ⟨e0, rfl, rfl⟩
    · exfalso; omega
    · obtain ⟨k1, k2⟩ := h.refused hn (show 1 < 3 by decide) 1
      exact ⟨_, _, rfl, rfl, ⟨s, Q, P, L, T, K, d, st, sz, C, m, Pi, di, Ci, k1⟩, k2, fun q => absurd q (by decide)⟩
def MK_38 (n : Nat) (E : Mm) (x0 x1 : Int) (c : Nat) (v : Int) (E1 : Mm) : Prop := ∃ (s : Nat) (Q : RX) (P : SP) (L : LW) (T K : LN) (d st sz : Nat) (C : CHt) (m : Nat) (Pi : Nat → SP) (di : Nat → Nat) (Ci : Nat → CHt), INVg n s Q P L T K d st sz C m Pi di Ci E ∧ ((c = 0 ∧ ((0 ≤ x0 ∧ x0 ≤ 23) ∧ (0 ≤ x1 ∧ x1 ≤ 1)) ∧ v = ((if x1 = 0 then sumP (gNow P L d) x0.toNat (sW P) else (crsP (gNow P L d) x0.toNat (sW P) : Nat)) : Int) ∧ CXI E1 s P L T K d ∧ CXF E E1) ∨ (c = 1 ∧ (¬ ((0 ≤ x0 ∧ x0 ≤ 23) ∧ (0 ≤ x1 ∧ x1 ≤ 1))) ∧ E1 = bumpE E 2))
theorem XK_38 {g : Gw} (hG : GF g) (n : Nat) (E : Mm) (x0 x1 : Int) (hE : INV n E) : CTX g yX11_summed cX11_summed 6 (some .int) 8 146 2 12 K2 false [mR 0, mI x0, mI x1] (ov E) K2 false (fun r D' => ∃ (v : Int) (E1 : Mm), r = some (mI v) ∧ D' = ov E1 ∧ MK_38 n E x0 x1 0 v E1) (fun X D' => ∃ (c : Nat) (E1 : Mm), ((c = 1 ∧ X = "java/lang/IllegalArgumentException")) ∧ D' = ov E1 ∧ MK_38 n E x0 x1 c 0 E1) := by
  obtain ⟨s, Q, P, L, T, K, d, st, sz, C, m, Pi, di, Ci, h⟩ := hE
  refine (ct_X11_summed hG E s P L T K d h.1 x0 x1).imp (fun r D' q => ?_) (fun X D' q => ?_)
  · obtain ⟨c0, c1, rfl, E1, rfl, hI, hX⟩ := q
    exact ⟨_, E1, rfl, rfl, s, Q, P, L, T, K, d, st, sz, C, m, Pi, di, Ci, h, Or.inl ⟨rfl, by omega, rfl, hI, hX⟩⟩
  · rcases q with ⟨c0, rfl, rfl⟩ | ⟨c0, c1, rfl, rfl⟩
    · exact ⟨1, _, ⟨rfl, rfl⟩, rfl, s, Q, P, L, T, K, d, st, sz, C, m, Pi, di, Ci, h, Or.inr (⟨rfl, by omega, rfl⟩)⟩
    · exact ⟨1, _, ⟨rfl, rfl⟩, rfl, s, Q, P, L, T, K, d, st, sz, C, m, Pi, di, Ci, h, Or.inr (⟨rfl, by omega, rfl⟩)⟩
theorem RK_38 {g : Gw} (hG : GF g) (n : Nat) (hn : n ≤ 4000) (E : Mm) (x0 x1 : Int) (c : Nat) (v : Int) (E1 : Mm) (hM : MK_38 n E x0 x1 c v E1) : CT g yX12_summed cX12_summed 6 (some .int) 7 156 0 0 K2 false [mR 125, mI x0, mI x1] (ov (if c = 0 then wr E1 813 0 v else E1)) K2 false (fun r D' => ∃ (bb : Int) (E2 : Mm), r = some (mI bb) ∧ D' = ov E2 ∧ INV (n + 6) E2 ∧ E2 125 0 = (c : Int) ∧ (c = 0 → E2 813 0 = bb)) := by
  obtain ⟨s, Q, P, L, T, K, d, st, sz, C, m, Pi, di, Ci, h, q⟩ := hM
  have hWf := h.wf hn
  rcases q with ⟨rfl, d0, hv, hI, hX⟩ | ⟨rfl, d0, rfl⟩
  · rw [if_pos rfl]
    refine (ct_X12_summed hG _ Q P L T K d st hWf (h.ask hn hX) x0 x1).imp (fun r D' q => ?_)
    rcases q with ⟨e0, rfl, E2, rfl, hO⟩ | ⟨e0, -, -⟩
    · obtain ⟨k1, k2, k3⟩ := h.told hI hX hO
      exact ⟨_, E2, rfl, rfl, ⟨s, Q, P, L, T, K, d, st, sz, C, m, Pi, di, Ci, k1⟩, k2, fun _ => k3.trans hv⟩
    · exfalso; omega
  · rw [if_neg (by decide)]
    refine (ct_X12_summed hG _ Q P L T K d st hWf (h.no hn 2) x0 x1).imp (fun r D' q => ?_)
    rcases q with ⟨e0, -⟩ | ⟨e0, rfl, rfl⟩
    · exfalso; omega
    · obtain ⟨k1, k2⟩ := h.refused hn (show 2 < 3 by decide) 1
      exact ⟨_, _, rfl, rfl, ⟨s, Q, P, L, T, K, d, st, sz, C, m, Pi, di, Ci, k1⟩, k2, fun q => absurd q (by decide)⟩
def MK_39 (n : Nat) (E : Mm) (x0 x1 x2 : Int) (c : Nat) (v : Int) (E1 : Mm) : Prop := ∃ (s : Nat) (Q : RX) (P : SP) (L : LW) (T K : LN) (d st sz : Nat) (C : CHt) (m : Nat) (Pi : Nat → SP) (di : Nat → Nat) (Ci : Nat → CHt), INVg n s Q P L T K d st sz C m Pi di Ci E ∧ ((c = 0 ∧ (0 ≤ x0 ∧ x0 ≤ (sW P : Int) - 1) ∧ ((0 ≤ x1 ∧ x1 ≤ 23) ∧ (0 ≤ x2 ∧ x2 ≤ 1)) ∧ v = ((ltmP (bOn (gNow P L d) x1.toNat x0.toNat * 232792560 - wtN (sB P) (dP (dyP (gNow P L d) (sB P) T (x1.toNat + 1))) x0.toNat (bN (sB P))) 232792560 x2) : Int) ∧ CXI E1 s P L T K d ∧ CXF E E1) ∨ (c = 1 ∧ (¬ (0 ≤ x0 ∧ x0 ≤ (sW P : Int) - 1)) ∧ E1 = bumpE E 0) ∨ (c = 2 ∧ ((0 ≤ x0 ∧ x0 ≤ (sW P : Int) - 1) ∧ ¬ ((0 ≤ x1 ∧ x1 ≤ 23) ∧ (0 ≤ x2 ∧ x2 ≤ 1))) ∧ E1 = bumpE E 2))
theorem XK_39 {g : Gw} (hG : GF g) (n : Nat) (E : Mm) (x0 x1 x2 : Int) (hE : INV n E) : CTX g yX11_slack cX11_slack 4 (some .long) 8 146 3 18 K2 false [mR 0, mI x0, mI x1, mI x2] (ov E) K2 false (fun r D' => ∃ (v : Int) (E1 : Mm), r = some (mL v) ∧ D' = ov E1 ∧ MK_39 n E x0 x1 x2 0 v E1) (fun X D' => ∃ (c : Nat) (E1 : Mm), ((c = 1 ∧ X = "java/lang/IndexOutOfBoundsException") ∨ (c = 2 ∧ X = "java/lang/IllegalArgumentException")) ∧ D' = ov E1 ∧ MK_39 n E x0 x1 x2 c 0 E1) := by
  obtain ⟨s, Q, P, L, T, K, d, st, sz, C, m, Pi, di, Ci, h⟩ := hE
  refine (ct_X11_slack hG E s P L T K d h.1 x0 x1 x2).imp (fun r D' q => ?_) (fun X D' q => ?_)
  · obtain ⟨c0, c1, c2, rfl, E1, rfl, hI, hX⟩ := q
    exact ⟨_, E1, rfl, rfl, s, Q, P, L, T, K, d, st, sz, C, m, Pi, di, Ci, h, Or.inl ⟨rfl, by omega, by omega, rfl, hI, hX⟩⟩
  · rcases q with ⟨c0, rfl, rfl⟩ | ⟨c0, c1, rfl, rfl⟩ | ⟨c0, c1, c2, rfl, rfl⟩
    · exact ⟨1, _, Or.inl ⟨rfl, rfl⟩, rfl, s, Q, P, L, T, K, d, st, sz, C, m, Pi, di, Ci, h, Or.inr (Or.inl ⟨rfl, by omega, rfl⟩)⟩
    · exact ⟨2, _, Or.inr (⟨rfl, rfl⟩), rfl, s, Q, P, L, T, K, d, st, sz, C, m, Pi, di, Ci, h, Or.inr (Or.inr (⟨rfl, by omega, rfl⟩))⟩
    · exact ⟨2, _, Or.inr (⟨rfl, rfl⟩), rfl, s, Q, P, L, T, K, d, st, sz, C, m, Pi, di, Ci, h, Or.inr (Or.inr (⟨rfl, by omega, rfl⟩))⟩
theorem RK_39 {g : Gw} (hG : GF g) (n : Nat) (hn : n ≤ 4000) (E : Mm) (x0 x1 x2 : Int) (c : Nat) (v : Int) (E1 : Mm) (hM : MK_39 n E x0 x1 x2 c v E1) : CT g yX12_slack cX12_slack 4 (some .long) 8 176 0 0 K2 false [mR 125, mI x0, mI x1, mI x2] (ov (if c = 0 then wr E1 813 0 v else E1)) K2 false (fun r D' => ∃ (bb : Int) (E2 : Mm), r = some (mL bb) ∧ D' = ov E2 ∧ INV (n + 6) E2 ∧ E2 125 0 = (c : Int) ∧ (c = 0 → E2 813 0 = bb)) := by
  obtain ⟨s, Q, P, L, T, K, d, st, sz, C, m, Pi, di, Ci, h, q⟩ := hM
  have hWf := h.wf hn
  rcases q with ⟨rfl, d0, d1, hv, hI, hX⟩ | ⟨rfl, d0, rfl⟩ | ⟨rfl, d0, rfl⟩
  · rw [if_pos rfl]
    refine (ct_X12_slack hG _ Q P L T K d st hWf (h.ask hn hX) x0 x1 x2).imp (fun r D' q => ?_)
    rcases q with ⟨e0, e1, rfl, E2, rfl, hO⟩ | ⟨e0, -, -⟩ | ⟨e0, e1, -, -⟩
    · obtain ⟨k1, k2, k3⟩ := h.told hI hX hO
      exact ⟨_, E2, rfl, rfl, ⟨s, Q, P, L, T, K, d, st, sz, C, m, Pi, di, Ci, k1⟩, k2, fun _ => k3.trans hv⟩
    · exfalso; omega
    · exfalso; omega
  · rw [if_neg (by decide)]
    refine (ct_X12_slack hG _ Q P L T K d st hWf (h.no hn 0) x0 x1 x2).imp (fun r D' q => ?_)
    rcases q with ⟨e0, e1, -⟩ | ⟨e0, rfl, rfl⟩ | ⟨e0, e1, -, -⟩
    · exfalso; omega
    · obtain ⟨k1, k2⟩ := h.refused hn (show 0 < 3 by decide) 1
      exact ⟨_, _, rfl, rfl, ⟨s, Q, P, L, T, K, d, st, sz, C, m, Pi, di, Ci, k1⟩, k2, fun q => absurd q (by decide)⟩
    · exfalso; omega
  · rw [if_neg (by decide)]
    refine (ct_X12_slack hG _ Q P L T K d st hWf (h.no hn 2) x0 x1 x2).imp (fun r D' q => ?_)
    rcases q with ⟨e0, e1, -⟩ | ⟨e0, -, -⟩ | ⟨e0, e1, rfl, rfl⟩
    · exfalso; omega
    · exfalso; omega
    · obtain ⟨k1, k2⟩ := h.refused hn (show 2 < 3 by decide) 2
      exact ⟨_, _, rfl, rfl, ⟨s, Q, P, L, T, K, d, st, sz, C, m, Pi, di, Ci, k1⟩, k2, fun q => absurd q (by decide)⟩
def MK_40 (n : Nat) (E : Mm) (x0 : Int) (c : Nat) (v : Int) (E1 : Mm) : Prop := ∃ (s : Nat) (Q : RX) (P : SP) (L : LW) (T K : LN) (d st sz : Nat) (C : CHt) (m : Nat) (Pi : Nat → SP) (di : Nat → Nat) (Ci : Nat → CHt), INVg n s Q P L T K d st sz C m Pi di Ci E ∧ ((c = 0 ∧ (0 ≤ x0 ∧ x0 ≤ (bN (sB P) : Int) - 1) ∧ v = (((lgP (gNow P L d) (sB P) T x0.toNat (bL (sB P) x0.toNat)).1) : Int) ∧ CXI E1 s P L T K d ∧ CXF E E1) ∨ (c = 1 ∧ (¬ (0 ≤ x0 ∧ x0 ≤ (bN (sB P) : Int) - 1)) ∧ E1 = bumpE E 1))
theorem XK_40 {g : Gw} (hG : GF g) (n : Nat) (E : Mm) (x0 : Int) (hE : INV n E) : CTX g yX11_lighter cX11_lighter 6 (some .int) 7 146 1 6 K2 false [mR 0, mI x0] (ov E) K2 false (fun r D' => ∃ (v : Int) (E1 : Mm), r = some (mI v) ∧ D' = ov E1 ∧ MK_40 n E x0 0 v E1) (fun X D' => ∃ (c : Nat) (E1 : Mm), ((c = 1 ∧ X = "java/util/NoSuchElementException")) ∧ D' = ov E1 ∧ MK_40 n E x0 c 0 E1) := by
  obtain ⟨s, Q, P, L, T, K, d, st, sz, C, m, Pi, di, Ci, h⟩ := hE
  refine (ct_X11_lighter hG E s P L T K d h.1 x0).imp (fun r D' q => ?_) (fun X D' q => ?_)
  · obtain ⟨c0, rfl, E1, rfl, hI, hX⟩ := q
    exact ⟨_, E1, rfl, rfl, s, Q, P, L, T, K, d, st, sz, C, m, Pi, di, Ci, h, Or.inl ⟨rfl, by omega, rfl, hI, hX⟩⟩
  · rcases q with ⟨c0, rfl, rfl⟩
    · exact ⟨1, _, ⟨rfl, rfl⟩, rfl, s, Q, P, L, T, K, d, st, sz, C, m, Pi, di, Ci, h, Or.inr (⟨rfl, by omega, rfl⟩)⟩
theorem RK_40 {g : Gw} (hG : GF g) (n : Nat) (hn : n ≤ 4000) (E : Mm) (x0 : Int) (c : Nat) (v : Int) (E1 : Mm) (hM : MK_40 n E x0 c v E1) : CT g yX12_lighter cX12_lighter 7 (some .int) 7 156 0 0 K2 false [mR 125, mI x0] (ov (if c = 0 then wr E1 813 0 v else E1)) K2 false (fun r D' => ∃ (bb : Int) (E2 : Mm), r = some (mI bb) ∧ D' = ov E2 ∧ INV (n + 6) E2 ∧ E2 125 0 = (c : Int) ∧ (c = 0 → E2 813 0 = bb)) := by
  obtain ⟨s, Q, P, L, T, K, d, st, sz, C, m, Pi, di, Ci, h, q⟩ := hM
  have hWf := h.wf hn
  rcases q with ⟨rfl, d0, hv, hI, hX⟩ | ⟨rfl, d0, rfl⟩
  · rw [if_pos rfl]
    refine (ct_X12_lighter hG _ Q P L T K d st hWf (h.ask hn hX) x0).imp (fun r D' q => ?_)
    rcases q with ⟨e0, rfl, E2, rfl, hO⟩ | ⟨e0, -, -⟩
    · obtain ⟨k1, k2, k3⟩ := h.told hI hX hO
      exact ⟨_, E2, rfl, rfl, ⟨s, Q, P, L, T, K, d, st, sz, C, m, Pi, di, Ci, k1⟩, k2, fun _ => k3.trans hv⟩
    · exfalso; omega
  · rw [if_neg (by decide)]
    refine (ct_X12_lighter hG _ Q P L T K d st hWf (h.no hn 1) x0).imp (fun r D' q => ?_)
    rcases q with ⟨e0, -⟩ | ⟨e0, rfl, rfl⟩
    · exfalso; omega
    · obtain ⟨k1, k2⟩ := h.refused hn (show 1 < 3 by decide) 1
      exact ⟨_, _, rfl, rfl, ⟨s, Q, P, L, T, K, d, st, sz, C, m, Pi, di, Ci, k1⟩, k2, fun q => absurd q (by decide)⟩
def MK_41 (n : Nat) (E : Mm) (x0 : Int) (c : Nat) (v : Int) (E1 : Mm) : Prop := ∃ (s : Nat) (Q : RX) (P : SP) (L : LW) (T K : LN) (d st sz : Nat) (C : CHt) (m : Nat) (Pi : Nat → SP) (di : Nat → Nat) (Ci : Nat → CHt), INVg n s Q P L T K d st sz C m Pi di Ci E ∧ ((c = 0 ∧ (0 ≤ x0 ∧ x0 ≤ (bN (sB P) : Int) - 1) ∧ v = ((if dF (dyP (gNow P L d) (sB P) T 24) x0.toNat = -1 then 24 else dF (dyP (gNow P L d) (sB P) T 24) x0.toNat) : Int) ∧ CXI E1 s P L T K d ∧ CXF E E1) ∨ (c = 1 ∧ (¬ (0 ≤ x0 ∧ x0 ≤ (bN (sB P) : Int) - 1)) ∧ E1 = bumpE E 1))
theorem XK_41 {g : Gw} (hG : GF g) (n : Nat) (E : Mm) (x0 : Int) (hE : INV n E) : CTX g yX11_lasts cX11_lasts 2 (some .int) 7 146 1 6 K2 false [mR 0, mI x0] (ov E) K2 false (fun r D' => ∃ (v : Int) (E1 : Mm), r = some (mI v) ∧ D' = ov E1 ∧ MK_41 n E x0 0 v E1) (fun X D' => ∃ (c : Nat) (E1 : Mm), ((c = 1 ∧ X = "java/util/NoSuchElementException")) ∧ D' = ov E1 ∧ MK_41 n E x0 c 0 E1) := by
  obtain ⟨s, Q, P, L, T, K, d, st, sz, C, m, Pi, di, Ci, h⟩ := hE
  refine (ct_X11_lasts hG E s P L T K d h.1 x0).imp (fun r D' q => ?_) (fun X D' q => ?_)
  · obtain ⟨c0, rfl, E1, rfl, hI, hX⟩ := q
    exact ⟨_, E1, rfl, rfl, s, Q, P, L, T, K, d, st, sz, C, m, Pi, di, Ci, h, Or.inl ⟨rfl, by omega, rfl, hI, hX⟩⟩
  · rcases q with ⟨c0, rfl, rfl⟩
    · exact ⟨1, _, ⟨rfl, rfl⟩, rfl, s, Q, P, L, T, K, d, st, sz, C, m, Pi, di, Ci, h, Or.inr (⟨rfl, by omega, rfl⟩)⟩
theorem RK_41 {g : Gw} (hG : GF g) (n : Nat) (hn : n ≤ 4000) (E : Mm) (x0 : Int) (c : Nat) (v : Int) (E1 : Mm) (hM : MK_41 n E x0 c v E1) : CT g yX12_lasts cX12_lasts 2 (some .int) 8 176 0 0 K2 false [mR 125, mI x0] (ov (if c = 0 then wr E1 813 0 v else E1)) K2 false (fun r D' => ∃ (bb : Int) (E2 : Mm), r = some (mI bb) ∧ D' = ov E2 ∧ INV (n + 6) E2 ∧ E2 125 0 = (c : Int) ∧ (c = 0 → E2 813 0 = bb)) := by
  obtain ⟨s, Q, P, L, T, K, d, st, sz, C, m, Pi, di, Ci, h, q⟩ := hM
  have hWf := h.wf hn
  rcases q with ⟨rfl, d0, hv, hI, hX⟩ | ⟨rfl, d0, rfl⟩
  · rw [if_pos rfl]
    refine (ct_X12_lasts hG _ Q P L T K d st hWf (h.ask hn hX) x0).imp (fun r D' q => ?_)
    rcases q with ⟨e0, rfl, E2, rfl, hO⟩ | ⟨e0, -, -⟩
    · obtain ⟨k1, k2, k3⟩ := h.told hI hX hO
      exact ⟨_, E2, rfl, rfl, ⟨s, Q, P, L, T, K, d, st, sz, C, m, Pi, di, Ci, k1⟩, k2, fun _ => k3.trans hv⟩
    · exfalso; omega
  · rw [if_neg (by decide)]
    refine (ct_X12_lasts hG _ Q P L T K d st hWf (h.no hn 1) x0).imp (fun r D' q => ?_)
    rcases q with ⟨e0, -⟩ | ⟨e0, rfl, rfl⟩
    · exfalso; omega
    · obtain ⟨k1, k2⟩ := h.refused hn (show 1 < 3 by decide) 1
      exact ⟨_, _, rfl, rfl, ⟨s, Q, P, L, T, K, d, st, sz, C, m, Pi, di, Ci, k1⟩, k2, fun q => absurd q (by decide)⟩
def MK_42 (n : Nat) (E : Mm) (v : Int) (E1 : Mm) : Prop := ∃ (s : Nat) (Q : RX) (P : SP) (L : LW) (T K : LN) (d st sz : Nat) (C : CHt) (m : Nat) (Pi : Nat → SP) (di : Nat → Nat) (Ci : Nat → CHt), INVg n s Q P L T K d st sz C m Pi di Ci E ∧ v = (((hvP (sB P) (bN (sB P))).1) : Int) ∧ CXI E1 s P L T K d ∧ CXF E E1
theorem XK_42 {g : Gw} (hG : GF g) (n : Nat) (E : Mm) (hE : INV n E) : CT g yX11_heaviest cX11_heaviest 7 (some .int) 1 23 0 0 K2 false [mR 0] (ov E) K2 false (fun r D' => ∃ (v : Int) (E1 : Mm), r = some (mI v) ∧ D' = ov E1 ∧ MK_42 n E  v E1) := by
  obtain ⟨s, Q, P, L, T, K, d, st, sz, C, m, Pi, di, Ci, h⟩ := hE
  refine (ct_X11_heaviest hG E s P L T K d h.1 ).imp (fun r D' q => ?_)
  obtain ⟨rfl, E1, rfl, hI, hX⟩ := q
  exact ⟨_, E1, rfl, rfl, s, Q, P, L, T, K, d, st, sz, C, m, Pi, di, Ci, h, rfl, hI, hX⟩
theorem RK_42 {g : Gw} (hG : GF g) (n : Nat) (hn : n ≤ 4000) (E : Mm) (v : Int) (E1 : Mm) (hM : MK_42 n E  v E1) : CT g yX12_heaviest cX12_heaviest 7 (some .int) 1 25 0 0 K2 false [mR 125] (ov E1) K2 false (fun r D' => ∃ E2 : Mm, r = some (mI v) ∧ D' = ov E2 ∧ INV (n + 6) E2) := by
  obtain ⟨s, Q, P, L, T, K, d, st, sz, C, m, Pi, di, Ci, h, rfl, hI, hX⟩ := hM
  refine (ct_X12_heaviest hG E1 Q P L T K d st (h.wf hn) (h.ask2 hn hX) ).imp (fun r D' q => ?_)
  obtain ⟨rfl, E2, rfl, hO⟩ := q
  exact ⟨E2, rfl, rfl, ⟨s, Q, P, L, T, K, d, st, sz, C, m, Pi, di, Ci, h.told2 hI hX hO⟩⟩
def MK_43 (n : Nat) (E : Mm) (x0 x1 : Int) (c : Nat) (v : Int) (E1 : Mm) : Prop := ∃ (s : Nat) (Q : RX) (P : SP) (L : LW) (T K : LN) (d st sz : Nat) (C : CHt) (m : Nat) (Pi : Nat → SP) (di : Nat → Nat) (Ci : Nat → CHt), INVg n s Q P L T K d st sz C m Pi di Ci E ∧ ((c = 0 ∧ ((0 ≤ x0 ∧ x0 ≤ 23) ∧ (0 ≤ x1 ∧ x1 ≤ 23) ∧ x0 ≤ x1) ∧ v = (((sW P : Int) - (cntp (fun c => brC (gNow P L d) x0.toNat c (x1.toNat + 1 - x0.toNat)) (sW P) : Nat)) : Int) ∧ CXI E1 s P L T K d ∧ CXF E E1) ∨ (c = 1 ∧ (¬ ((0 ≤ x0 ∧ x0 ≤ 23) ∧ (0 ≤ x1 ∧ x1 ≤ 23) ∧ x0 ≤ x1)) ∧ E1 = bumpE E 2))
theorem XK_43 {g : Gw} (hG : GF g) (n : Nat) (E : Mm) (x0 x1 : Int) (hE : INV n E) : CTX g yX11_bare cX11_bare 6 (some .int) 8 146 1 6 K2 false [mR 0, mI x0, mI x1] (ov E) K2 false (fun r D' => ∃ (v : Int) (E1 : Mm), r = some (mI v) ∧ D' = ov E1 ∧ MK_43 n E x0 x1 0 v E1) (fun X D' => ∃ (c : Nat) (E1 : Mm), ((c = 1 ∧ X = "java/lang/IllegalArgumentException")) ∧ D' = ov E1 ∧ MK_43 n E x0 x1 c 0 E1) := by
  obtain ⟨s, Q, P, L, T, K, d, st, sz, C, m, Pi, di, Ci, h⟩ := hE
  refine (ct_X11_bare hG E s P L T K d h.1 x0 x1).imp (fun r D' q => ?_) (fun X D' q => ?_)
  · obtain ⟨c0, rfl, E1, rfl, hI, hX⟩ := q
    exact ⟨_, E1, rfl, rfl, s, Q, P, L, T, K, d, st, sz, C, m, Pi, di, Ci, h, Or.inl ⟨rfl, by omega, rfl, hI, hX⟩⟩
  · rcases q with ⟨c0, rfl, rfl⟩
    · exact ⟨1, _, ⟨rfl, rfl⟩, rfl, s, Q, P, L, T, K, d, st, sz, C, m, Pi, di, Ci, h, Or.inr (⟨rfl, by omega, rfl⟩)⟩
theorem RK_43 {g : Gw} (hG : GF g) (n : Nat) (hn : n ≤ 4000) (E : Mm) (x0 x1 : Int) (c : Nat) (v : Int) (E1 : Mm) (hM : MK_43 n E x0 x1 c v E1) : CT g yX12_bare cX12_bare 7 (some .int) 7 156 0 0 K2 false [mR 125, mI x0, mI x1] (ov (if c = 0 then wr E1 813 0 v else E1)) K2 false (fun r D' => ∃ (bb : Int) (E2 : Mm), r = some (mI bb) ∧ D' = ov E2 ∧ INV (n + 6) E2 ∧ E2 125 0 = (c : Int) ∧ (c = 0 → E2 813 0 = bb)) := by
  obtain ⟨s, Q, P, L, T, K, d, st, sz, C, m, Pi, di, Ci, h, q⟩ := hM
  have hWf := h.wf hn
  rcases q with ⟨rfl, d0, hv, hI, hX⟩ | ⟨rfl, d0, rfl⟩
  · rw [if_pos rfl]
    refine (ct_X12_bare hG _ Q P L T K d st hWf (h.ask hn hX) x0 x1).imp (fun r D' q => ?_)
    rcases q with ⟨e0, rfl, E2, rfl, hO⟩ | ⟨e0, -, -⟩
    · obtain ⟨k1, k2, k3⟩ := h.told hI hX hO
      exact ⟨_, E2, rfl, rfl, ⟨s, Q, P, L, T, K, d, st, sz, C, m, Pi, di, Ci, k1⟩, k2, fun _ => k3.trans hv⟩
    · exfalso; omega
  · rw [if_neg (by decide)]
    refine (ct_X12_bare hG _ Q P L T K d st hWf (h.no hn 2) x0 x1).imp (fun r D' q => ?_)
    rcases q with ⟨e0, -⟩ | ⟨e0, rfl, rfl⟩
    · exfalso; omega
    · obtain ⟨k1, k2⟩ := h.refused hn (show 2 < 3 by decide) 1
      exact ⟨_, _, rfl, rfl, ⟨s, Q, P, L, T, K, d, st, sz, C, m, Pi, di, Ci, k1⟩, k2, fun q => absurd q (by decide)⟩
