section
variable {n s d st sz m : Nat} {Q : RX} {P : SP} {L : LW} {T K : LN} {C : CHt} {Pi : Nat → SP} {di : Nat → Nat} {Ci : Nat → CHt} {E E1 : Mm}
/-- the class has answered: the reference is as it was -/
theorem INVg.ask2 (h : INVg n s Q P L T K d st sz C m Pi di Ci E) (hn : n ≤ 4000) (hX : CXF E E1) : RXI E1 Q P L T K d st :=
  h.2.1.fr2 (h.wf hn) (fun q hq => hX.1 q (by omega)) (fun k _ => by rw [hX.1 125 (by omega)])
theorem INVg.told2 {E2 : Mm} (h : INVg n s Q P L T K d st sz C m Pi di Ci E) (hI : CXI E1 s P L T K d) (hX : CXF E E1) (hO : RXO E1 E2 Q P L T K d st) : INVg (n + 6) s Q P L T K d st sz C m Pi di Ci E2 := by
  obtain ⟨o1, ⟨o2, o3⟩, o4, o5⟩ := hO
  have hq : ∀ q, ¬ (q = 0 ∨ q = 7 ∨ (30 ≤ q ∧ q ≤ 67) ∨ q = 125 ∨ (142 ≤ q ∧ q ≤ 152) ∨ (209 ≤ q ∧ q ≤ 217) ∨ (576 ≤ q ∧ q ≤ 579) ∨ (658 ≤ q ∧ q ≤ 813)) → E2 q = E q := fun q hq => by
    by_cases e : q = 127
    · rw [e, o5, hX.1 127 (by omega)]
    · rw [o2 q (by omega), hX.1 q (by omega)]
  have hc : ∀ q, q < 125 → E2 q = E1 q := fun q hq => o2 q (by omega)
  exact h.fr (by omega) (hI.fr2 (fun q a => hc q (by rcases hI.sa with e | e <;> omega))) o1 (fun q a => hq q (by omega)) (by rw [hc 0 (by omega)]; exact hX.2 18 (by decide)) (fun k hk => (o3 k (by omega)).trans (by rw [hX.1 125 (by omega)]))
end
def MK_7 (n : Nat) (E : Mm) (x0 x1 : Int) (c : Nat) (v : Int) (E1 : Mm) : Prop := ∃ (s : Nat) (Q : RX) (P : SP) (L : LW) (T K : LN) (d st sz : Nat) (C : CHt) (m : Nat) (Pi : Nat → SP) (di : Nat → Nat) (Ci : Nat → CHt), INVg n s Q P L T K d st sz C m Pi di Ci E ∧ ((c = 0 ∧ (0 ≤ x0 ∧ x0 ≤ (sN P : Int) - 1) ∧ (0 ≤ x1 ∧ x1 ≤ 1) ∧ v = ((if x1 = 0 then (sX P x0.toNat : Int) else (sH P x0.toNat : Int)) : Int) ∧ CXI E1 s P L T K d ∧ CXF E E1) ∨ (c = 1 ∧ (¬ (0 ≤ x0 ∧ x0 ≤ (sN P : Int) - 1)) ∧ E1 = bumpE E 1) ∨ (c = 2 ∧ ((0 ≤ x0 ∧ x0 ≤ (sN P : Int) - 1) ∧ ¬ (0 ≤ x1 ∧ x1 ≤ 1)) ∧ E1 = bumpE E 2))
theorem XK_7 {g : Gw} (hG : GF g) (n : Nat) (E : Mm) (x0 x1 : Int) (hE : INV n E) : CTX g yX11_post cX11_post 3 (some .int) 8 133 2 12 K2 false [mR 0, mI x0, mI x1] (ov E) K2 false (fun r D' => ∃ (v : Int) (E1 : Mm), r = some (mI v) ∧ D' = ov E1 ∧ MK_7 n E x0 x1 0 v E1) (fun X D' => ∃ (c : Nat) (E1 : Mm), ((c = 1 ∧ X = "java/util/NoSuchElementException") ∨ (c = 2 ∧ X = "java/lang/IllegalArgumentException")) ∧ D' = ov E1 ∧ MK_7 n E x0 x1 c 0 E1) := by
  obtain ⟨s, Q, P, L, T, K, d, st, sz, C, m, Pi, di, Ci, h⟩ := hE
  refine (ct_X11_post hG E s P L T K d h.1 x0 x1).imp (fun r D' q => ?_) (fun X D' q => ?_)
  · obtain ⟨c0, c1, rfl, E1, rfl, hI, hX⟩ := q
    exact ⟨_, E1, rfl, rfl, s, Q, P, L, T, K, d, st, sz, C, m, Pi, di, Ci, h, Or.inl ⟨rfl, by omega, by omega, rfl, hI, hX⟩⟩
  · rcases q with ⟨c0, rfl, rfl⟩ | ⟨c0, c1, rfl, rfl⟩
    · exact ⟨1, _, Or.inl ⟨rfl, rfl⟩, rfl, s, Q, P, L, T, K, d, st, sz, C, m, Pi, di, Ci, h, Or.inr (Or.inl ⟨rfl, by omega, rfl⟩)⟩
    · exact ⟨2, _, Or.inr (⟨rfl, rfl⟩), rfl, s, Q, P, L, T, K, d, st, sz, C, m, Pi, di, Ci, h, Or.inr (Or.inr (⟨rfl, by omega, rfl⟩))⟩
theorem RK_7 {g : Gw} (hG : GF g) (n : Nat) (hn : n ≤ 4000) (E : Mm) (x0 x1 : Int) (c : Nat) (v : Int) (E1 : Mm) (hM : MK_7 n E x0 x1 c v E1) : CT g yX12_post cX12_post 3 (some .int) 2 43 0 0 K2 false [mR 125, mI x0, mI x1] (ov (if c = 0 then wr E1 813 0 v else E1)) K2 false (fun r D' => ∃ (bb : Int) (E2 : Mm), r = some (mI bb) ∧ D' = ov E2 ∧ INV (n + 6) E2 ∧ E2 125 0 = (c : Int) ∧ (c = 0 → E2 813 0 = bb)) := by
  obtain ⟨s, Q, P, L, T, K, d, st, sz, C, m, Pi, di, Ci, h, q⟩ := hM
  have hWf := h.wf hn
  rcases q with ⟨rfl, d0, d1, hv, hI, hX⟩ | ⟨rfl, d0, rfl⟩ | ⟨rfl, d0, rfl⟩
  · rw [if_pos rfl]
    refine (ct_X12_post hG _ Q P L T K d st hWf (h.ask hn hX) x0 x1).imp (fun r D' q => ?_)
    rcases q with ⟨e0, e1, rfl, E2, rfl, hO⟩ | ⟨e0, -, -⟩ | ⟨e0, e1, -, -⟩
    · obtain ⟨k1, k2, k3⟩ := h.told hI hX hO
      exact ⟨_, E2, rfl, rfl, ⟨s, Q, P, L, T, K, d, st, sz, C, m, Pi, di, Ci, k1⟩, k2, fun _ => k3.trans hv⟩
    · exfalso; omega
    · exfalso; omega
  · rw [if_neg (by decide)]
    refine (ct_X12_post hG _ Q P L T K d st hWf (h.no hn 1) x0 x1).imp (fun r D' q => ?_)
    rcases q with ⟨e0, e1, -⟩ | ⟨e0, rfl, rfl⟩ | ⟨e0, e1, -, -⟩
    · exfalso; omega
    · obtain ⟨k1, k2⟩ := h.refused hn (show 1 < 3 by decide) 1
      exact ⟨_, _, rfl, rfl, ⟨s, Q, P, L, T, K, d, st, sz, C, m, Pi, di, Ci, k1⟩, k2, fun q => absurd q (by decide)⟩
    · exfalso; omega
  · rw [if_neg (by decide)]
    refine (ct_X12_post hG _ Q P L T K d st hWf (h.no hn 2) x0 x1).imp (fun r D' q => ?_)
    rcases q with ⟨e0, e1, -⟩ | ⟨e0, -, -⟩ | ⟨e0, e1, rfl, rfl⟩
    · exfalso; omega
    · exfalso; omega
    · obtain ⟨k1, k2⟩ := h.refused hn (show 2 < 3 by decide) 2
      exact ⟨_, _, rfl, rfl, ⟨s, Q, P, L, T, K, d, st, sz, C, m, Pi, di, Ci, k1⟩, k2, fun q => absurd q (by decide)⟩
def MK_8 (n : Nat) (E : Mm) (x0 x1 : Int) (c : Nat) (v : Int) (E1 : Mm) : Prop := ∃ (s : Nat) (Q : RX) (P : SP) (L : LW) (T K : LN) (d st sz : Nat) (C : CHt) (m : Nat) (Pi : Nat → SP) (di : Nat → Nat) (Ci : Nat → CHt), INVg n s Q P L T K d st sz C m Pi di Ci E ∧ ((c = 0 ∧ (0 ≤ x0 ∧ x0 ≤ (bN (sB P) : Int) - 1) ∧ (0 ≤ x1 ∧ x1 ≤ 3) ∧ v = ((if x1 = 0 then (bX (sB P) x0.toNat : Int) else if x1 = 1 then (bL (sB P) x0.toNat : Int) else if x1 = 2 then (bH (sB P) x0.toNat : Int) else (allB (sB P) x0.toNat (bL (sB P) x0.toNat) : Int)) : Int) ∧ CXI E1 s P L T K d ∧ CXF E E1) ∨ (c = 1 ∧ (¬ (0 ≤ x0 ∧ x0 ≤ (bN (sB P) : Int) - 1)) ∧ E1 = bumpE E 1) ∨ (c = 2 ∧ ((0 ≤ x0 ∧ x0 ≤ (bN (sB P) : Int) - 1) ∧ ¬ (0 ≤ x1 ∧ x1 ≤ 3)) ∧ E1 = bumpE E 2))
theorem XK_8 {g : Gw} (hG : GF g) (n : Nat) (E : Mm) (x0 x1 : Int) (hE : INV n E) : CTX g yX11_beam cX11_beam 3 (some .int) 8 133 2 12 K2 false [mR 0, mI x0, mI x1] (ov E) K2 false (fun r D' => ∃ (v : Int) (E1 : Mm), r = some (mI v) ∧ D' = ov E1 ∧ MK_8 n E x0 x1 0 v E1) (fun X D' => ∃ (c : Nat) (E1 : Mm), ((c = 1 ∧ X = "java/util/NoSuchElementException") ∨ (c = 2 ∧ X = "java/lang/IllegalArgumentException")) ∧ D' = ov E1 ∧ MK_8 n E x0 x1 c 0 E1) := by
  obtain ⟨s, Q, P, L, T, K, d, st, sz, C, m, Pi, di, Ci, h⟩ := hE
  refine (ct_X11_beam hG E s P L T K d h.1 x0 x1).imp (fun r D' q => ?_) (fun X D' q => ?_)
  · obtain ⟨c0, c1, rfl, E1, rfl, hI, hX⟩ := q
    exact ⟨_, E1, rfl, rfl, s, Q, P, L, T, K, d, st, sz, C, m, Pi, di, Ci, h, Or.inl ⟨rfl, by omega, by omega, rfl, hI, hX⟩⟩
  · rcases q with ⟨c0, rfl, rfl⟩ | ⟨c0, c1, rfl, rfl⟩
    · exact ⟨1, _, Or.inl ⟨rfl, rfl⟩, rfl, s, Q, P, L, T, K, d, st, sz, C, m, Pi, di, Ci, h, Or.inr (Or.inl ⟨rfl, by omega, rfl⟩)⟩
    · exact ⟨2, _, Or.inr (⟨rfl, rfl⟩), rfl, s, Q, P, L, T, K, d, st, sz, C, m, Pi, di, Ci, h, Or.inr (Or.inr (⟨rfl, by omega, rfl⟩))⟩
theorem RK_8 {g : Gw} (hG : GF g) (n : Nat) (hn : n ≤ 4000) (E : Mm) (x0 x1 : Int) (c : Nat) (v : Int) (E1 : Mm) (hM : MK_8 n E x0 x1 c v E1) : CT g yX12_beam cX12_beam 3 (some .int) 2 43 0 0 K2 false [mR 125, mI x0, mI x1] (ov (if c = 0 then wr E1 813 0 v else E1)) K2 false (fun r D' => ∃ (bb : Int) (E2 : Mm), r = some (mI bb) ∧ D' = ov E2 ∧ INV (n + 6) E2 ∧ E2 125 0 = (c : Int) ∧ (c = 0 → E2 813 0 = bb)) := by
  obtain ⟨s, Q, P, L, T, K, d, st, sz, C, m, Pi, di, Ci, h, q⟩ := hM
  have hWf := h.wf hn
  rcases q with ⟨rfl, d0, d1, hv, hI, hX⟩ | ⟨rfl, d0, rfl⟩ | ⟨rfl, d0, rfl⟩
  · rw [if_pos rfl]
    refine (ct_X12_beam hG _ Q P L T K d st hWf (h.ask hn hX) x0 x1).imp (fun r D' q => ?_)
    rcases q with ⟨e0, e1, rfl, E2, rfl, hO⟩ | ⟨e0, -, -⟩ | ⟨e0, e1, -, -⟩
    · obtain ⟨k1, k2, k3⟩ := h.told hI hX hO
      exact ⟨_, E2, rfl, rfl, ⟨s, Q, P, L, T, K, d, st, sz, C, m, Pi, di, Ci, k1⟩, k2, fun _ => k3.trans hv⟩
    · exfalso; omega
    · exfalso; omega
  · rw [if_neg (by decide)]
    refine (ct_X12_beam hG _ Q P L T K d st hWf (h.no hn 1) x0 x1).imp (fun r D' q => ?_)
    rcases q with ⟨e0, e1, -⟩ | ⟨e0, rfl, rfl⟩ | ⟨e0, e1, -, -⟩
    · exfalso; omega
    · obtain ⟨k1, k2⟩ := h.refused hn (show 1 < 3 by decide) 1
      exact ⟨_, _, rfl, rfl, ⟨s, Q, P, L, T, K, d, st, sz, C, m, Pi, di, Ci, k1⟩, k2, fun q => absurd q (by decide)⟩
    · exfalso; omega
  · rw [if_neg (by decide)]
    refine (ct_X12_beam hG _ Q P L T K d st hWf (h.no hn 2) x0 x1).imp (fun r D' q => ?_)
    rcases q with ⟨e0, e1, -⟩ | ⟨e0, -, -⟩ | ⟨e0, e1, rfl, rfl⟩
    · exfalso; omega
    · exfalso; omega
    · obtain ⟨k1, k2⟩ := h.refused hn (show 2 < 3 by decide) 2
      exact ⟨_, _, rfl, rfl, ⟨s, Q, P, L, T, K, d, st, sz, C, m, Pi, di, Ci, k1⟩, k2, fun q => absurd q (by decide)⟩
def MK_9 (n : Nat) (E : Mm) (x0 x1 : Int) (c : Nat) (v : Int) (E1 : Mm) : Prop := ∃ (s : Nat) (Q : RX) (P : SP) (L : LW) (T K : LN) (d st sz : Nat) (C : CHt) (m : Nat) (Pi : Nat → SP) (di : Nat → Nat) (Ci : Nat → CHt), INVg n s Q P L T K d st sz C m Pi di Ci E ∧ ((c = 0 ∧ ((0 ≤ x0 ∧ x0 ≤ 23) ∧ (0 ≤ x1 ∧ x1 ≤ 2)) ∧ v = ((if sC P x0.toNat then 0 else if x1 = 0 then (lkP P (moonP P d) x0.toNat : Int) else if x1 = 1 then (ltP P (moonP P d) x0.toNat : Int) else if lrP P (moonP P d) x0.toNat then 1 else 0) : Int) ∧ CXI E1 s P L T K d ∧ CXF E E1) ∨ (c = 1 ∧ (¬ ((0 ≤ x0 ∧ x0 ≤ 23) ∧ (0 ≤ x1 ∧ x1 ≤ 2))) ∧ E1 = bumpE E 2))
theorem XK_9 {g : Gw} (hG : GF g) (n : Nat) (E : Mm) (x0 x1 : Int) (hE : INV n E) : CTX g yX11_light cX11_light 3 (some .int) 8 146 2 12 K2 false [mR 0, mI x0, mI x1] (ov E) K2 false (fun r D' => ∃ (v : Int) (E1 : Mm), r = some (mI v) ∧ D' = ov E1 ∧ MK_9 n E x0 x1 0 v E1) (fun X D' => ∃ (c : Nat) (E1 : Mm), ((c = 1 ∧ X = "java/lang/IllegalArgumentException")) ∧ D' = ov E1 ∧ MK_9 n E x0 x1 c 0 E1) := by
  obtain ⟨s, Q, P, L, T, K, d, st, sz, C, m, Pi, di, Ci, h⟩ := hE
  refine (ct_X11_light hG E s P L T K d h.1 x0 x1).imp (fun r D' q => ?_) (fun X D' q => ?_)
  · obtain ⟨c0, c1, rfl, E1, rfl, hI, hX⟩ := q
    exact ⟨_, E1, rfl, rfl, s, Q, P, L, T, K, d, st, sz, C, m, Pi, di, Ci, h, Or.inl ⟨rfl, by omega, rfl, hI, hX⟩⟩
  · rcases q with ⟨c0, rfl, rfl⟩ | ⟨c0, c1, rfl, rfl⟩
    · exact ⟨1, _, ⟨rfl, rfl⟩, rfl, s, Q, P, L, T, K, d, st, sz, C, m, Pi, di, Ci, h, Or.inr (⟨rfl, by omega, rfl⟩)⟩
    · exact ⟨1, _, ⟨rfl, rfl⟩, rfl, s, Q, P, L, T, K, d, st, sz, C, m, Pi, di, Ci, h, Or.inr (⟨rfl, by omega, rfl⟩)⟩
theorem RK_9 {g : Gw} (hG : GF g) (n : Nat) (hn : n ≤ 4000) (E : Mm) (x0 x1 : Int) (c : Nat) (v : Int) (E1 : Mm) (hM : MK_9 n E x0 x1 c v E1) : CT g yX12_light cX12_light 3 (some .int) 2 48 0 0 K2 false [mR 125, mI x0, mI x1] (ov (if c = 0 then wr E1 813 0 v else E1)) K2 false (fun r D' => ∃ (bb : Int) (E2 : Mm), r = some (mI bb) ∧ D' = ov E2 ∧ INV (n + 6) E2 ∧ E2 125 0 = (c : Int) ∧ (c = 0 → E2 813 0 = bb)) := by
  obtain ⟨s, Q, P, L, T, K, d, st, sz, C, m, Pi, di, Ci, h, q⟩ := hM
  have hWf := h.wf hn
  rcases q with ⟨rfl, d0, hv, hI, hX⟩ | ⟨rfl, d0, rfl⟩
  · rw [if_pos rfl]
    refine (ct_X12_light hG _ Q P L T K d st hWf (h.ask hn hX) x0 x1).imp (fun r D' q => ?_)
    rcases q with ⟨e0, rfl, E2, rfl, hO⟩ | ⟨e0, -, -⟩
    · obtain ⟨k1, k2, k3⟩ := h.told hI hX hO
      exact ⟨_, E2, rfl, rfl, ⟨s, Q, P, L, T, K, d, st, sz, C, m, Pi, di, Ci, k1⟩, k2, fun _ => k3.trans hv⟩
    · exfalso; omega
  · rw [if_neg (by decide)]
    refine (ct_X12_light hG _ Q P L T K d st hWf (h.no hn 2) x0 x1).imp (fun r D' q => ?_)
    rcases q with ⟨e0, -⟩ | ⟨e0, rfl, rfl⟩
    · exfalso; omega
    · obtain ⟨k1, k2⟩ := h.refused hn (show 2 < 3 by decide) 1
      exact ⟨_, _, rfl, rfl, ⟨s, Q, P, L, T, K, d, st, sz, C, m, Pi, di, Ci, k1⟩, k2, fun q => absurd q (by decide)⟩
def MK_10 (n : Nat) (E : Mm) (x0 x1 x2 : Int) (c : Nat) (v : Int) (E1 : Mm) : Prop := ∃ (s : Nat) (Q : RX) (P : SP) (L : LW) (T K : LN) (d st sz : Nat) (C : CHt) (m : Nat) (Pi : Nat → SP) (di : Nat → Nat) (Ci : Nat → CHt), INVg n s Q P L T K d st sz C m Pi di Ci E ∧ ((c = 0 ∧ (0 ≤ x0 ∧ x0 ≤ (sW P : Int) - 1) ∧ (0 ≤ x1 ∧ x1 ≤ (sN P : Int) - 1) ∧ (0 ≤ x2 ∧ x2 ≤ 23) ∧ v = ((if (shd (gNow P L d) (gLm (gNow P L d) x0.toNat) x2.toNat x0.toNat).testBit x1.toNat then 1 else 0) : Int) ∧ CXI E1 s P L T K d ∧ CXF E E1) ∨ (c = 1 ∧ (¬ (0 ≤ x0 ∧ x0 ≤ (sW P : Int) - 1)) ∧ E1 = bumpE E 0) ∨ (c = 2 ∧ ((0 ≤ x0 ∧ x0 ≤ (sW P : Int) - 1) ∧ ¬ (0 ≤ x1 ∧ x1 ≤ (sN P : Int) - 1)) ∧ E1 = bumpE E 1) ∨ (c = 3 ∧ ((0 ≤ x0 ∧ x0 ≤ (sW P : Int) - 1) ∧ (0 ≤ x1 ∧ x1 ≤ (sN P : Int) - 1) ∧ ¬ (0 ≤ x2 ∧ x2 ≤ 23)) ∧ E1 = bumpE E 2))
theorem XK_10 {g : Gw} (hG : GF g) (n : Nat) (E : Mm) (x0 x1 x2 : Int) (hE : INV n E) : CTX g yX11_shade cX11_shade 4 (some .boolean) 8 146 3 18 K2 false [mR 0, mI x0, mI x1, mI x2] (ov E) K2 false (fun r D' => ∃ (v : Int) (E1 : Mm), r = some (mI v) ∧ (v = 0 ∨ v = 1) ∧ D' = ov E1 ∧ MK_10 n E x0 x1 x2 0 v E1) (fun X D' => ∃ (c : Nat) (E1 : Mm), ((c = 1 ∧ X = "java/lang/IndexOutOfBoundsException") ∨ (c = 2 ∧ X = "java/util/NoSuchElementException") ∨ (c = 3 ∧ X = "java/lang/IllegalArgumentException")) ∧ D' = ov E1 ∧ MK_10 n E x0 x1 x2 c 0 E1) := by
  obtain ⟨s, Q, P, L, T, K, d, st, sz, C, m, Pi, di, Ci, h⟩ := hE
  refine (ct_X11_shade hG E s P L T K d h.1 x0 x1 x2).imp (fun r D' q => ?_) (fun X D' q => ?_)
  · obtain ⟨c0, c1, c2, rfl, E1, rfl, hI, hX⟩ := q
    exact ⟨_, E1, rfl, (by split <;> decide), rfl, s, Q, P, L, T, K, d, st, sz, C, m, Pi, di, Ci, h, Or.inl ⟨rfl, by omega, by omega, by omega, rfl, hI, hX⟩⟩
  · rcases q with ⟨c0, rfl, rfl⟩ | ⟨c0, c1, rfl, rfl⟩ | ⟨c0, c1, c2, rfl, rfl⟩
    · exact ⟨1, _, Or.inl ⟨rfl, rfl⟩, rfl, s, Q, P, L, T, K, d, st, sz, C, m, Pi, di, Ci, h, Or.inr (Or.inl ⟨rfl, by omega, rfl⟩)⟩
    · exact ⟨2, _, Or.inr (Or.inl ⟨rfl, rfl⟩), rfl, s, Q, P, L, T, K, d, st, sz, C, m, Pi, di, Ci, h, Or.inr (Or.inr (Or.inl ⟨rfl, by omega, rfl⟩))⟩
    · exact ⟨3, _, Or.inr (Or.inr (⟨rfl, rfl⟩)), rfl, s, Q, P, L, T, K, d, st, sz, C, m, Pi, di, Ci, h, Or.inr (Or.inr (Or.inr (⟨rfl, by omega, rfl⟩)))⟩
theorem RK_10 {g : Gw} (hG : GF g) (n : Nat) (hn : n ≤ 4000) (E : Mm) (x0 x1 x2 : Int) (c : Nat) (v : Int) (E1 : Mm) (hM : MK_10 n E x0 x1 x2 c v E1) : CT g yX12_shade cX12_shade 4 (some .boolean) 7 156 0 0 K2 false [mR 125, mI x0, mI x1, mI x2] (ov (if c = 0 then wr E1 813 0 v else E1)) K2 false (fun r D' => ∃ (bb : Int) (E2 : Mm), r = some (mI bb) ∧ (bb = 0 ∨ bb = 1) ∧ D' = ov E2 ∧ INV (n + 6) E2 ∧ E2 125 0 = (c : Int) ∧ (c = 0 → E2 813 0 = bb)) := by
  obtain ⟨s, Q, P, L, T, K, d, st, sz, C, m, Pi, di, Ci, h, q⟩ := hM
  have hWf := h.wf hn
  rcases q with ⟨rfl, d0, d1, d2, hv, hI, hX⟩ | ⟨rfl, d0, rfl⟩ | ⟨rfl, d0, rfl⟩ | ⟨rfl, d0, rfl⟩
  · rw [if_pos rfl]
    refine (ct_X12_shade hG _ Q P L T K d st hWf (h.ask hn hX) x0 x1 x2).imp (fun r D' q => ?_)
    rcases q with ⟨e0, e1, e2, rfl, E2, rfl, hO⟩ | ⟨e0, -, -⟩ | ⟨e0, e1, -, -⟩ | ⟨e0, e1, e2, -, -⟩
    · obtain ⟨k1, k2, k3⟩ := h.told hI hX hO
      exact ⟨_, E2, rfl, (by split <;> decide), rfl, ⟨s, Q, P, L, T, K, d, st, sz, C, m, Pi, di, Ci, k1⟩, k2, fun _ => k3.trans hv⟩
    · exfalso; omega
    · exfalso; omega
    · exfalso; omega
  · rw [if_neg (by decide)]
    refine (ct_X12_shade hG _ Q P L T K d st hWf (h.no hn 0) x0 x1 x2).imp (fun r D' q => ?_)
    rcases q with ⟨e0, e1, e2, -⟩ | ⟨e0, rfl, rfl⟩ | ⟨e0, e1, -, -⟩ | ⟨e0, e1, e2, -, -⟩
    · exfalso; omega
    · obtain ⟨k1, k2⟩ := h.refused hn (show 0 < 3 by decide) 1
      exact ⟨_, _, rfl, Or.inl rfl, rfl, ⟨s, Q, P, L, T, K, d, st, sz, C, m, Pi, di, Ci, k1⟩, k2, fun q => absurd q (by decide)⟩
    · exfalso; omega
    · exfalso; omega
  · rw [if_neg (by decide)]
    refine (ct_X12_shade hG _ Q P L T K d st hWf (h.no hn 1) x0 x1 x2).imp (fun r D' q => ?_)
    rcases q with ⟨e0, e1, e2, -⟩ | ⟨e0, -, -⟩ | ⟨e0, e1, rfl, rfl⟩ | ⟨e0, e1, e2, -, -⟩
    · exfalso; omega
    · exfalso; omega
    · obtain ⟨k1, k2⟩ := h.refused hn (show 1 < 3 by decide) 2
      exact ⟨_, _, rfl, Or.inl rfl, rfl, ⟨s, Q, P, L, T, K, d, st, sz, C, m, Pi, di, Ci, k1⟩, k2, fun q => absurd q (by decide)⟩
    · exfalso; omega
  · rw [if_neg (by decide)]
    refine (ct_X12_shade hG _ Q P L T K d st hWf (h.no hn 2) x0 x1 x2).imp (fun r D' q => ?_)
    rcases q with ⟨e0, e1, e2, -⟩ | ⟨e0, -, -⟩ | ⟨e0, e1, -, -⟩ | ⟨e0, e1, e2, rfl, rfl⟩
    · exfalso; omega
    · exfalso; omega
    · exfalso; omega
    · obtain ⟨k1, k2⟩ := h.refused hn (show 2 < 3 by decide) 3
      exact ⟨_, _, rfl, Or.inl rfl, rfl, ⟨s, Q, P, L, T, K, d, st, sz, C, m, Pi, di, Ci, k1⟩, k2, fun q => absurd q (by decide)⟩
def MK_11 (n : Nat) (E : Mm) (x0 x1 : Int) (c : Nat) (v : Int) (E1 : Mm) : Prop := ∃ (s : Nat) (Q : RX) (P : SP) (L : LW) (T K : LN) (d st sz : Nat) (C : CHt) (m : Nat) (Pi : Nat → SP) (di : Nat → Nat) (Ci : Nat → CHt), INVg n s Q P L T K d st sz C m Pi di Ci E ∧ ((c = 0 ∧ (0 ≤ x0 ∧ x0 ≤ (sW P : Int) - 1) ∧ (0 ≤ x1 ∧ x1 ≤ 23) ∧ v = ((bOn (gNow P L d) x1.toNat x0.toNat) : Int) ∧ CXI E1 s P L T K d ∧ CXF E E1) ∨ (c = 1 ∧ (¬ (0 ≤ x0 ∧ x0 ≤ (sW P : Int) - 1)) ∧ E1 = bumpE E 0) ∨ (c = 2 ∧ ((0 ≤ x0 ∧ x0 ≤ (sW P : Int) - 1) ∧ ¬ (0 ≤ x1 ∧ x1 ≤ 23)) ∧ E1 = bumpE E 2))
theorem XK_11 {g : Gw} (hG : GF g) (n : Nat) (E : Mm) (x0 x1 : Int) (hE : INV n E) : CTX g yX11_bears cX11_bears 3 (some .int) 8 146 2 12 K2 false [mR 0, mI x0, mI x1] (ov E) K2 false (fun r D' => ∃ (v : Int) (E1 : Mm), r = some (mI v) ∧ D' = ov E1 ∧ MK_11 n E x0 x1 0 v E1) (fun X D' => ∃ (c : Nat) (E1 : Mm), ((c = 1 ∧ X = "java/lang/IndexOutOfBoundsException") ∨ (c = 2 ∧ X = "java/lang/IllegalArgumentException")) ∧ D' = ov E1 ∧ MK_11 n E x0 x1 c 0 E1) := by
  obtain ⟨s, Q, P, L, T, K, d, st, sz, C, m, Pi, di, Ci, h⟩ := hE
  refine (ct_X11_bears hG E s P L T K d h.1 x0 x1).imp (fun r D' q => ?_) (fun X D' q => ?_)
  · obtain ⟨c0, c1, rfl, E1, rfl, hI, hX⟩ := q
    exact ⟨_, E1, rfl, rfl, s, Q, P, L, T, K, d, st, sz, C, m, Pi, di, Ci, h, Or.inl ⟨rfl, by omega, by omega, rfl, hI, hX⟩⟩
  · rcases q with ⟨c0, rfl, rfl⟩ | ⟨c0, c1, rfl, rfl⟩
    · exact ⟨1, _, Or.inl ⟨rfl, rfl⟩, rfl, s, Q, P, L, T, K, d, st, sz, C, m, Pi, di, Ci, h, Or.inr (Or.inl ⟨rfl, by omega, rfl⟩)⟩
    · exact ⟨2, _, Or.inr (⟨rfl, rfl⟩), rfl, s, Q, P, L, T, K, d, st, sz, C, m, Pi, di, Ci, h, Or.inr (Or.inr (⟨rfl, by omega, rfl⟩))⟩
theorem RK_11 {g : Gw} (hG : GF g) (n : Nat) (hn : n ≤ 4000) (E : Mm) (x0 x1 : Int) (c : Nat) (v : Int) (E1 : Mm) (hM : MK_11 n E x0 x1 c v E1) : CT g yX12_bears cX12_bears 3 (some .int) 7 156 0 0 K2 false [mR 125, mI x0, mI x1] (ov (if c = 0 then wr E1 813 0 v else E1)) K2 false (fun r D' => ∃ (bb : Int) (E2 : Mm), r = some (mI bb) ∧ D' = ov E2 ∧ INV (n + 6) E2 ∧ E2 125 0 = (c : Int) ∧ (c = 0 → E2 813 0 = bb)) := by
  obtain ⟨s, Q, P, L, T, K, d, st, sz, C, m, Pi, di, Ci, h, q⟩ := hM
  have hWf := h.wf hn
  rcases q with ⟨rfl, d0, d1, hv, hI, hX⟩ | ⟨rfl, d0, rfl⟩ | ⟨rfl, d0, rfl⟩
  · rw [if_pos rfl]
    refine (ct_X12_bears hG _ Q P L T K d st hWf (h.ask hn hX) x0 x1).imp (fun r D' q => ?_)
    rcases q with ⟨e0, e1, rfl, E2, rfl, hO⟩ | ⟨e0, -, -⟩ | ⟨e0, e1, -, -⟩
    · obtain ⟨k1, k2, k3⟩ := h.told hI hX hO
      exact ⟨_, E2, rfl, rfl, ⟨s, Q, P, L, T, K, d, st, sz, C, m, Pi, di, Ci, k1⟩, k2, fun _ => k3.trans hv⟩
    · exfalso; omega
    · exfalso; omega
  · rw [if_neg (by decide)]
    refine (ct_X12_bears hG _ Q P L T K d st hWf (h.no hn 0) x0 x1).imp (fun r D' q => ?_)
    rcases q with ⟨e0, e1, -⟩ | ⟨e0, rfl, rfl⟩ | ⟨e0, e1, -, -⟩
    · exfalso; omega
    · obtain ⟨k1, k2⟩ := h.refused hn (show 0 < 3 by decide) 1
      exact ⟨_, _, rfl, rfl, ⟨s, Q, P, L, T, K, d, st, sz, C, m, Pi, di, Ci, k1⟩, k2, fun q => absurd q (by decide)⟩
    · exfalso; omega
  · rw [if_neg (by decide)]
    refine (ct_X12_bears hG _ Q P L T K d st hWf (h.no hn 2) x0 x1).imp (fun r D' q => ?_)
    rcases q with ⟨e0, e1, -⟩ | ⟨e0, -, -⟩ | ⟨e0, e1, rfl, rfl⟩
    · exfalso; omega
    · exfalso; omega
    · obtain ⟨k1, k2⟩ := h.refused hn (show 2 < 3 by decide) 2
      exact ⟨_, _, rfl, rfl, ⟨s, Q, P, L, T, K, d, st, sz, C, m, Pi, di, Ci, k1⟩, k2, fun q => absurd q (by decide)⟩
def MK_12 (n : Nat) (E : Mm) (x0 x1 x2 x3 : Int) (c : Nat) (v : Int) (E1 : Mm) : Prop := ∃ (s : Nat) (Q : RX) (P : SP) (L : LW) (T K : LN) (d st sz : Nat) (C : CHt) (m : Nat) (Pi : Nat → SP) (di : Nat → Nat) (Ci : Nat → CHt), INVg n s Q P L T K d st sz C m Pi di Ci E ∧ ((c = 0 ∧ ((0 ≤ x0 ∧ x0 ≤ 10) ∧ (0 ≤ x1 ∧ x1 ≤ 99) ∧ (0 ≤ x2 ∧ x2 ≤ 23) ∧ (0 ≤ x3 ∧ x3 ≤ 1)) ∧ v = ((borP L x0 x1 x2 x3) : Int) ∧ CXI E1 s P L T K d ∧ CXF E E1) ∨ (c = 1 ∧ (¬ ((0 ≤ x0 ∧ x0 ≤ 10) ∧ (0 ≤ x1 ∧ x1 ≤ 99) ∧ (0 ≤ x2 ∧ x2 ≤ 23) ∧ (0 ≤ x3 ∧ x3 ≤ 1))) ∧ E1 = bumpE E 2))
theorem XK_12 {g : Gw} (hG : GF g) (n : Nat) (E : Mm) (x0 x1 x2 x3 : Int) (hE : INV n E) : CTX g yX11_bearing cX11_bearing 5 (some .int) 8 132 3 18 K2 false [mR 0, mI x0, mI x1, mI x2, mI x3] (ov E) K2 false (fun r D' => ∃ (v : Int) (E1 : Mm), r = some (mI v) ∧ D' = ov E1 ∧ MK_12 n E x0 x1 x2 x3 0 v E1) (fun X D' => ∃ (c : Nat) (E1 : Mm), ((c = 1 ∧ X = "java/lang/IllegalArgumentException")) ∧ D' = ov E1 ∧ MK_12 n E x0 x1 x2 x3 c 0 E1) := by
  obtain ⟨s, Q, P, L, T, K, d, st, sz, C, m, Pi, di, Ci, h⟩ := hE
  refine (ct_X11_bearing hG E s P L T K d h.1 x0 x1 x2 x3).imp (fun r D' q => ?_) (fun X D' q => ?_)
  · obtain ⟨c0, c1, c2, rfl, E1, rfl, hI, hX⟩ := q
    exact ⟨_, E1, rfl, rfl, s, Q, P, L, T, K, d, st, sz, C, m, Pi, di, Ci, h, Or.inl ⟨rfl, by omega, rfl, hI, hX⟩⟩
  · rcases q with ⟨c0, rfl, rfl⟩ | ⟨c0, c1, rfl, rfl⟩ | ⟨c0, c1, c2, rfl, rfl⟩
    · exact ⟨1, _, ⟨rfl, rfl⟩, rfl, s, Q, P, L, T, K, d, st, sz, C, m, Pi, di, Ci, h, Or.inr (⟨rfl, by omega, rfl⟩)⟩
    · exact ⟨1, _, ⟨rfl, rfl⟩, rfl, s, Q, P, L, T, K, d, st, sz, C, m, Pi, di, Ci, h, Or.inr (⟨rfl, by omega, rfl⟩)⟩
    · exact ⟨1, _, ⟨rfl, rfl⟩, rfl, s, Q, P, L, T, K, d, st, sz, C, m, Pi, di, Ci, h, Or.inr (⟨rfl, by omega, rfl⟩)⟩
theorem RK_12 {g : Gw} (hG : GF g) (n : Nat) (hn : n ≤ 4000) (E : Mm) (x0 x1 x2 x3 : Int) (c : Nat) (v : Int) (E1 : Mm) (hM : MK_12 n E x0 x1 x2 x3 c v E1) : CT g yX12_bearing cX12_bearing 5 (some .int) 4 90 0 0 K2 false [mR 125, mI x0, mI x1, mI x2, mI x3] (ov (if c = 0 then wr E1 813 0 v else E1)) K2 false (fun r D' => ∃ (bb : Int) (E2 : Mm), r = some (mI bb) ∧ D' = ov E2 ∧ INV (n + 6) E2 ∧ E2 125 0 = (c : Int) ∧ (c = 0 → E2 813 0 = bb)) := by
  obtain ⟨s, Q, P, L, T, K, d, st, sz, C, m, Pi, di, Ci, h, q⟩ := hM
  have hWf := h.wf hn
  rcases q with ⟨rfl, d0, hv, hI, hX⟩ | ⟨rfl, d0, rfl⟩
  · rw [if_pos rfl]
    refine (ct_X12_bearing hG _ Q P L T K d st hWf (h.ask hn hX) x0 x1 x2 x3).imp (fun r D' q => ?_)
    rcases q with ⟨e0, rfl, E2, rfl, hO⟩ | ⟨e0, -, -⟩
    · obtain ⟨k1, k2, k3⟩ := h.told hI hX hO
      exact ⟨_, E2, rfl, rfl, ⟨s, Q, P, L, T, K, d, st, sz, C, m, Pi, di, Ci, k1⟩, k2, fun _ => k3.trans hv⟩
    · exfalso; omega
  · rw [if_neg (by decide)]
    refine (ct_X12_bearing hG _ Q P L T K d st hWf (h.no hn 2) x0 x1 x2 x3).imp (fun r D' q => ?_)
    rcases q with ⟨e0, -⟩ | ⟨e0, rfl, rfl⟩
    · exfalso; omega
    · obtain ⟨k1, k2⟩ := h.refused hn (show 2 < 3 by decide) 1
      exact ⟨_, _, rfl, rfl, ⟨s, Q, P, L, T, K, d, st, sz, C, m, Pi, di, Ci, k1⟩, k2, fun q => absurd q (by decide)⟩
def MK_13 (n : Nat) (E : Mm) (x0 x1 x2 : Int) (c : Nat) (v : Int) (E1 : Mm) : Prop := ∃ (s : Nat) (Q : RX) (P : SP) (L : LW) (T K : LN) (d st sz : Nat) (C : CHt) (m : Nat) (Pi : Nat → SP) (di : Nat → Nat) (Ci : Nat → CHt), INVg n s Q P L T K d st sz C m Pi di Ci E ∧ ((c = 0 ∧ (0 ≤ x0 ∧ x0 ≤ (sW P : Int) - 1) ∧ ((0 ≤ x1 ∧ x1 ≤ 23) ∧ (0 ≤ x2 ∧ x2 ≤ 1)) ∧ v = ((ltmP (wtN (sB P) (dP (dyP (gNow P L d) (sB P) T (x1.toNat + 1))) x0.toNat (bN (sB P))) 232792560 x2) : Int) ∧ CXI E1 s P L T K d ∧ CXF E E1) ∨ (c = 1 ∧ (¬ (0 ≤ x0 ∧ x0 ≤ (sW P : Int) - 1)) ∧ E1 = bumpE E 0) ∨ (c = 2 ∧ ((0 ≤ x0 ∧ x0 ≤ (sW P : Int) - 1) ∧ ¬ ((0 ≤ x1 ∧ x1 ≤ 23) ∧ (0 ≤ x2 ∧ x2 ≤ 1))) ∧ E1 = bumpE E 2))
theorem XK_13 {g : Gw} (hG : GF g) (n : Nat) (E : Mm) (x0 x1 x2 : Int) (hE : INV n E) : CTX g yX11_rests cX11_rests 4 (some .long) 8 146 3 18 K2 false [mR 0, mI x0, mI x1, mI x2] (ov E) K2 false (fun r D' => ∃ (v : Int) (E1 : Mm), r = some (mL v) ∧ D' = ov E1 ∧ MK_13 n E x0 x1 x2 0 v E1) (fun X D' => ∃ (c : Nat) (E1 : Mm), ((c = 1 ∧ X = "java/lang/IndexOutOfBoundsException") ∨ (c = 2 ∧ X = "java/lang/IllegalArgumentException")) ∧ D' = ov E1 ∧ MK_13 n E x0 x1 x2 c 0 E1) := by
  obtain ⟨s, Q, P, L, T, K, d, st, sz, C, m, Pi, di, Ci, h⟩ := hE
  refine (ct_X11_rests hG E s P L T K d h.1 x0 x1 x2).imp (fun r D' q => ?_) (fun X D' q => ?_)
  · obtain ⟨c0, c1, c2, rfl, E1, rfl, hI, hX⟩ := q
    exact ⟨_, E1, rfl, rfl, s, Q, P, L, T, K, d, st, sz, C, m, Pi, di, Ci, h, Or.inl ⟨rfl, by omega, by omega, rfl, hI, hX⟩⟩
  · rcases q with ⟨c0, rfl, rfl⟩ | ⟨c0, c1, rfl, rfl⟩ | ⟨c0, c1, c2, rfl, rfl⟩
    · exact ⟨1, _, Or.inl ⟨rfl, rfl⟩, rfl, s, Q, P, L, T, K, d, st, sz, C, m, Pi, di, Ci, h, Or.inr (Or.inl ⟨rfl, by omega, rfl⟩)⟩
    · exact ⟨2, _, Or.inr (⟨rfl, rfl⟩), rfl, s, Q, P, L, T, K, d, st, sz, C, m, Pi, di, Ci, h, Or.inr (Or.inr (⟨rfl, by omega, rfl⟩))⟩
    · exact ⟨2, _, Or.inr (⟨rfl, rfl⟩), rfl, s, Q, P, L, T, K, d, st, sz, C, m, Pi, di, Ci, h, Or.inr (Or.inr (⟨rfl, by omega, rfl⟩))⟩
theorem RK_13 {g : Gw} (hG : GF g) (n : Nat) (hn : n ≤ 4000) (E : Mm) (x0 x1 x2 : Int) (c : Nat) (v : Int) (E1 : Mm) (hM : MK_13 n E x0 x1 x2 c v E1) : CT g yX12_rests cX12_rests 4 (some .long) 8 176 0 0 K2 false [mR 125, mI x0, mI x1, mI x2] (ov (if c = 0 then wr E1 813 0 v else E1)) K2 false (fun r D' => ∃ (bb : Int) (E2 : Mm), r = some (mL bb) ∧ D' = ov E2 ∧ INV (n + 6) E2 ∧ E2 125 0 = (c : Int) ∧ (c = 0 → E2 813 0 = bb)) := by
  obtain ⟨s, Q, P, L, T, K, d, st, sz, C, m, Pi, di, Ci, h, q⟩ := hM
  have hWf := h.wf hn
  rcases q with ⟨rfl, d0, d1, hv, hI, hX⟩ | ⟨rfl, d0, rfl⟩ | ⟨rfl, d0, rfl⟩
  · rw [if_pos rfl]
    refine (ct_X12_rests hG _ Q P L T K d st hWf (h.ask hn hX) x0 x1 x2).imp (fun r D' q => ?_)
    rcases q with ⟨e0, e1, rfl, E2, rfl, hO⟩ | ⟨e0, -, -⟩ | ⟨e0, e1, -, -⟩
    · obtain ⟨k1, k2, k3⟩ := h.told hI hX hO
      exact ⟨_, E2, rfl, rfl, ⟨s, Q, P, L, T, K, d, st, sz, C, m, Pi, di, Ci, k1⟩, k2, fun _ => k3.trans hv⟩
    · exfalso; omega
    · exfalso; omega
  · rw [if_neg (by decide)]
    refine (ct_X12_rests hG _ Q P L T K d st hWf (h.no hn 0) x0 x1 x2).imp (fun r D' q => ?_)
    rcases q with ⟨e0, e1, -⟩ | ⟨e0, rfl, rfl⟩ | ⟨e0, e1, -, -⟩
    · exfalso; omega
    · obtain ⟨k1, k2⟩ := h.refused hn (show 0 < 3 by decide) 1
      exact ⟨_, _, rfl, rfl, ⟨s, Q, P, L, T, K, d, st, sz, C, m, Pi, di, Ci, k1⟩, k2, fun q => absurd q (by decide)⟩
    · exfalso; omega
  · rw [if_neg (by decide)]
    refine (ct_X12_rests hG _ Q P L T K d st hWf (h.no hn 2) x0 x1 x2).imp (fun r D' q => ?_)
    rcases q with ⟨e0, e1, -⟩ | ⟨e0, -, -⟩ | ⟨e0, e1, rfl, rfl⟩
    · exfalso; omega
    · exfalso; omega
    · obtain ⟨k1, k2⟩ := h.refused hn (show 2 < 3 by decide) 2
      exact ⟨_, _, rfl, rfl, ⟨s, Q, P, L, T, K, d, st, sz, C, m, Pi, di, Ci, k1⟩, k2, fun q => absurd q (by decide)⟩
def MK_14 (n : Nat) (E : Mm) (x0 x1 x2 : Int) (c : Nat) (v : Int) (E1 : Mm) : Prop := ∃ (s : Nat) (Q : RX) (P : SP) (L : LW) (T K : LN) (d st sz : Nat) (C : CHt) (m : Nat) (Pi : Nat → SP) (di : Nat → Nat) (Ci : Nat → CHt), INVg n s Q P L T K d st sz C m Pi di Ci E ∧ ((c = 0 ∧ (0 ≤ x0 ∧ x0 ≤ (bN (sB P) : Int) - 1) ∧ ((0 ≤ x1 ∧ x1 ≤ 1) ∧ (0 ≤ x2 ∧ x2 ≤ 1)) ∧ v = ((ltmP (if x1 = 0 then (onL (sB P) x0.toNat : Int) else (onR (sB P) x0.toNat : Int)) 232792560 x2) : Int) ∧ CXI E1 s P L T K d ∧ CXF E E1) ∨ (c = 1 ∧ (¬ (0 ≤ x0 ∧ x0 ≤ (bN (sB P) : Int) - 1)) ∧ E1 = bumpE E 1) ∨ (c = 2 ∧ ((0 ≤ x0 ∧ x0 ≤ (bN (sB P) : Int) - 1) ∧ ¬ ((0 ≤ x1 ∧ x1 ≤ 1) ∧ (0 ≤ x2 ∧ x2 ≤ 1))) ∧ E1 = bumpE E 2))
theorem XK_14 {g : Gw} (hG : GF g) (n : Nat) (E : Mm) (x0 x1 x2 : Int) (hE : INV n E) : CTX g yX11_puts cX11_puts 4 (some .long) 8 133 3 18 K2 false [mR 0, mI x0, mI x1, mI x2] (ov E) K2 false (fun r D' => ∃ (v : Int) (E1 : Mm), r = some (mL v) ∧ D' = ov E1 ∧ MK_14 n E x0 x1 x2 0 v E1) (fun X D' => ∃ (c : Nat) (E1 : Mm), ((c = 1 ∧ X = "java/util/NoSuchElementException") ∨ (c = 2 ∧ X = "java/lang/IllegalArgumentException")) ∧ D' = ov E1 ∧ MK_14 n E x0 x1 x2 c 0 E1) := by
  obtain ⟨s, Q, P, L, T, K, d, st, sz, C, m, Pi, di, Ci, h⟩ := hE
  refine (ct_X11_puts hG E s P L T K d h.1 x0 x1 x2).imp (fun r D' q => ?_) (fun X D' q => ?_)
  · obtain ⟨c0, c1, c2, rfl, E1, rfl, hI, hX⟩ := q
    exact ⟨_, E1, rfl, rfl, s, Q, P, L, T, K, d, st, sz, C, m, Pi, di, Ci, h, Or.inl ⟨rfl, by omega, by omega, rfl, hI, hX⟩⟩
  · rcases q with ⟨c0, rfl, rfl⟩ | ⟨c0, c1, rfl, rfl⟩ | ⟨c0, c1, c2, rfl, rfl⟩
    · exact ⟨1, _, Or.inl ⟨rfl, rfl⟩, rfl, s, Q, P, L, T, K, d, st, sz, C, m, Pi, di, Ci, h, Or.inr (Or.inl ⟨rfl, by omega, rfl⟩)⟩
    · exact ⟨2, _, Or.inr (⟨rfl, rfl⟩), rfl, s, Q, P, L, T, K, d, st, sz, C, m, Pi, di, Ci, h, Or.inr (Or.inr (⟨rfl, by omega, rfl⟩))⟩
    · exact ⟨2, _, Or.inr (⟨rfl, rfl⟩), rfl, s, Q, P, L, T, K, d, st, sz, C, m, Pi, di, Ci, h, Or.inr (Or.inr (⟨rfl, by omega, rfl⟩))⟩
theorem RK_14 {g : Gw} (hG : GF g) (n : Nat) (hn : n ≤ 4000) (E : Mm) (x0 x1 x2 : Int) (c : Nat) (v : Int) (E1 : Mm) (hM : MK_14 n E x0 x1 x2 c v E1) : CT g yX12_puts cX12_puts 4 (some .long) 2 43 0 0 K2 false [mR 125, mI x0, mI x1, mI x2] (ov (if c = 0 then wr E1 813 0 v else E1)) K2 false (fun r D' => ∃ (bb : Int) (E2 : Mm), r = some (mL bb) ∧ D' = ov E2 ∧ INV (n + 6) E2 ∧ E2 125 0 = (c : Int) ∧ (c = 0 → E2 813 0 = bb)) := by
  obtain ⟨s, Q, P, L, T, K, d, st, sz, C, m, Pi, di, Ci, h, q⟩ := hM
  have hWf := h.wf hn
  rcases q with ⟨rfl, d0, d1, hv, hI, hX⟩ | ⟨rfl, d0, rfl⟩ | ⟨rfl, d0, rfl⟩
  · rw [if_pos rfl]
    refine (ct_X12_puts hG _ Q P L T K d st hWf (h.ask hn hX) x0 x1 x2).imp (fun r D' q => ?_)
    rcases q with ⟨e0, e1, rfl, E2, rfl, hO⟩ | ⟨e0, -, -⟩ | ⟨e0, e1, -, -⟩
    · obtain ⟨k1, k2, k3⟩ := h.told hI hX hO
      exact ⟨_, E2, rfl, rfl, ⟨s, Q, P, L, T, K, d, st, sz, C, m, Pi, di, Ci, k1⟩, k2, fun _ => k3.trans hv⟩
    · exfalso; omega
    · exfalso; omega
  · rw [if_neg (by decide)]
    refine (ct_X12_puts hG _ Q P L T K d st hWf (h.no hn 1) x0 x1 x2).imp (fun r D' q => ?_)
    rcases q with ⟨e0, e1, -⟩ | ⟨e0, rfl, rfl⟩ | ⟨e0, e1, -, -⟩
    · exfalso; omega
    · obtain ⟨k1, k2⟩ := h.refused hn (show 1 < 3 by decide) 1
      exact ⟨_, _, rfl, rfl, ⟨s, Q, P, L, T, K, d, st, sz, C, m, Pi, di, Ci, k1⟩, k2, fun q => absurd q (by decide)⟩
    · exfalso; omega
  · rw [if_neg (by decide)]
    refine (ct_X12_puts hG _ Q P L T K d st hWf (h.no hn 2) x0 x1 x2).imp (fun r D' q => ?_)
    rcases q with ⟨e0, e1, -⟩ | ⟨e0, -, -⟩ | ⟨e0, e1, rfl, rfl⟩
    · exfalso; omega
    · exfalso; omega
    · obtain ⟨k1, k2⟩ := h.refused hn (show 2 < 3 by decide) 2
      exact ⟨_, _, rfl, rfl, ⟨s, Q, P, L, T, K, d, st, sz, C, m, Pi, di, Ci, k1⟩, k2, fun q => absurd q (by decide)⟩
def MK_15 (n : Nat) (E : Mm) (x0 : Int) (c : Nat) (v : Int) (E1 : Mm) : Prop := ∃ (s : Nat) (Q : RX) (P : SP) (L : LW) (T K : LN) (d st sz : Nat) (C : CHt) (m : Nat) (Pi : Nat → SP) (di : Nat → Nat) (Ci : Nat → CHt), INVg n s Q P L T K d st sz C m Pi di Ci E ∧ ((c = 0 ∧ (0 ≤ x0 ∧ x0 ≤ (bN (sB P) : Int) - 1) ∧ v = ((dF (dyP (gNow P L d) (sB P) T 24) x0.toNat) : Int) ∧ CXI E1 s P L T K d ∧ CXF E E1) ∨ (c = 1 ∧ (¬ (0 ≤ x0 ∧ x0 ≤ (bN (sB P) : Int) - 1)) ∧ E1 = bumpE E 1))
theorem XK_15 {g : Gw} (hG : GF g) (n : Nat) (E : Mm) (x0 : Int) (hE : INV n E) : CTX g yX11_falls cX11_falls 2 (some .int) 7 146 1 6 K2 false [mR 0, mI x0] (ov E) K2 false (fun r D' => ∃ (v : Int) (E1 : Mm), r = some (mI v) ∧ D' = ov E1 ∧ MK_15 n E x0 0 v E1) (fun X D' => ∃ (c : Nat) (E1 : Mm), ((c = 1 ∧ X = "java/util/NoSuchElementException")) ∧ D' = ov E1 ∧ MK_15 n E x0 c 0 E1) := by
  obtain ⟨s, Q, P, L, T, K, d, st, sz, C, m, Pi, di, Ci, h⟩ := hE
  refine (ct_X11_falls hG E s P L T K d h.1 x0).imp (fun r D' q => ?_) (fun X D' q => ?_)
  · obtain ⟨c0, rfl, E1, rfl, hI, hX⟩ := q
    exact ⟨_, E1, rfl, rfl, s, Q, P, L, T, K, d, st, sz, C, m, Pi, di, Ci, h, Or.inl ⟨rfl, by omega, rfl, hI, hX⟩⟩
  · rcases q with ⟨c0, rfl, rfl⟩
    · exact ⟨1, _, ⟨rfl, rfl⟩, rfl, s, Q, P, L, T, K, d, st, sz, C, m, Pi, di, Ci, h, Or.inr (⟨rfl, by omega, rfl⟩)⟩
theorem RK_15 {g : Gw} (hG : GF g) (n : Nat) (hn : n ≤ 4000) (E : Mm) (x0 : Int) (c : Nat) (v : Int) (E1 : Mm) (hM : MK_15 n E x0 c v E1) : CT g yX12_falls cX12_falls 2 (some .int) 8 176 0 0 K2 false [mR 125, mI x0] (ov (if c = 0 then wr E1 813 0 v else E1)) K2 false (fun r D' => ∃ (bb : Int) (E2 : Mm), r = some (mI bb) ∧ D' = ov E2 ∧ INV (n + 6) E2 ∧ E2 125 0 = (c : Int) ∧ (c = 0 → E2 813 0 = bb)) := by
  obtain ⟨s, Q, P, L, T, K, d, st, sz, C, m, Pi, di, Ci, h, q⟩ := hM
  have hWf := h.wf hn
  rcases q with ⟨rfl, d0, hv, hI, hX⟩ | ⟨rfl, d0, rfl⟩
  · rw [if_pos rfl]
    refine (ct_X12_falls hG _ Q P L T K d st hWf (h.ask hn hX) x0).imp (fun r D' q => ?_)
    rcases q with ⟨e0, rfl, E2, rfl, hO⟩ | ⟨e0, -, -⟩
    · obtain ⟨k1, k2, k3⟩ := h.told hI hX hO
      exact ⟨_, E2, rfl, rfl, ⟨s, Q, P, L, T, K, d, st, sz, C, m, Pi, di, Ci, k1⟩, k2, fun _ => k3.trans hv⟩
    · exfalso; omega
  · rw [if_neg (by decide)]
    refine (ct_X12_falls hG _ Q P L T K d st hWf (h.no hn 1) x0).imp (fun r D' q => ?_)
    rcases q with ⟨e0, -⟩ | ⟨e0, rfl, rfl⟩
    · exfalso; omega
    · obtain ⟨k1, k2⟩ := h.refused hn (show 1 < 3 by decide) 1
      exact ⟨_, _, rfl, rfl, ⟨s, Q, P, L, T, K, d, st, sz, C, m, Pi, di, Ci, k1⟩, k2, fun q => absurd q (by decide)⟩
def MK_16 (n : Nat) (E : Mm) (x0 x1 : Int) (c : Nat) (v : Int) (E1 : Mm) : Prop := ∃ (s : Nat) (Q : RX) (P : SP) (L : LW) (T K : LN) (d st sz : Nat) (C : CHt) (m : Nat) (Pi : Nat → SP) (di : Nat → Nat) (Ci : Nat → CHt), INVg n s Q P L T K d st sz C m Pi di Ci E ∧ ((c = 0 ∧ (0 ≤ x0 ∧ x0 ≤ (bN (sB P) : Int) - 1) ∧ (0 ≤ x1 ∧ x1 ≤ 23) ∧ v = ((dP (dyP (gNow P L d) (sB P) T (x1.toNat + 1)) x0.toNat) : Int) ∧ CXI E1 s P L T K d ∧ CXF E E1) ∨ (c = 1 ∧ (¬ (0 ≤ x0 ∧ x0 ≤ (bN (sB P) : Int) - 1)) ∧ E1 = bumpE E 1) ∨ (c = 2 ∧ ((0 ≤ x0 ∧ x0 ≤ (bN (sB P) : Int) - 1) ∧ ¬ (0 ≤ x1 ∧ x1 ≤ 23)) ∧ E1 = bumpE E 2))
theorem XK_16 {g : Gw} (hG : GF g) (n : Nat) (E : Mm) (x0 x1 : Int) (hE : INV n E) : CTX g yX11_lies cX11_lies 3 (some .int) 8 146 2 12 K2 false [mR 0, mI x0, mI x1] (ov E) K2 false (fun r D' => ∃ (v : Int) (E1 : Mm), r = some (mI v) ∧ D' = ov E1 ∧ MK_16 n E x0 x1 0 v E1) (fun X D' => ∃ (c : Nat) (E1 : Mm), ((c = 1 ∧ X = "java/util/NoSuchElementException") ∨ (c = 2 ∧ X = "java/lang/IllegalArgumentException")) ∧ D' = ov E1 ∧ MK_16 n E x0 x1 c 0 E1) := by
  obtain ⟨s, Q, P, L, T, K, d, st, sz, C, m, Pi, di, Ci, h⟩ := hE
  refine (ct_X11_lies hG E s P L T K d h.1 x0 x1).imp (fun r D' q => ?_) (fun X D' q => ?_)
  · obtain ⟨c0, c1, rfl, E1, rfl, hI, hX⟩ := q
    exact ⟨_, E1, rfl, rfl, s, Q, P, L, T, K, d, st, sz, C, m, Pi, di, Ci, h, Or.inl ⟨rfl, by omega, by omega, rfl, hI, hX⟩⟩
  · rcases q with ⟨c0, rfl, rfl⟩ | ⟨c0, c1, rfl, rfl⟩
    · exact ⟨1, _, Or.inl ⟨rfl, rfl⟩, rfl, s, Q, P, L, T, K, d, st, sz, C, m, Pi, di, Ci, h, Or.inr (Or.inl ⟨rfl, by omega, rfl⟩)⟩
    · exact ⟨2, _, Or.inr (⟨rfl, rfl⟩), rfl, s, Q, P, L, T, K, d, st, sz, C, m, Pi, di, Ci, h, Or.inr (Or.inr (⟨rfl, by omega, rfl⟩))⟩
theorem RK_16 {g : Gw} (hG : GF g) (n : Nat) (hn : n ≤ 4000) (E : Mm) (x0 x1 : Int) (c : Nat) (v : Int) (E1 : Mm) (hM : MK_16 n E x0 x1 c v E1) : CT g yX12_lies cX12_lies 3 (some .int) 8 176 0 0 K2 false [mR 125, mI x0, mI x1] (ov (if c = 0 then wr E1 813 0 v else E1)) K2 false (fun r D' => ∃ (bb : Int) (E2 : Mm), r = some (mI bb) ∧ D' = ov E2 ∧ INV (n + 6) E2 ∧ E2 125 0 = (c : Int) ∧ (c = 0 → E2 813 0 = bb)) := by
  obtain ⟨s, Q, P, L, T, K, d, st, sz, C, m, Pi, di, Ci, h, q⟩ := hM
  have hWf := h.wf hn
  rcases q with ⟨rfl, d0, d1, hv, hI, hX⟩ | ⟨rfl, d0, rfl⟩ | ⟨rfl, d0, rfl⟩
  · rw [if_pos rfl]
    refine (ct_X12_lies hG _ Q P L T K d st hWf (h.ask hn hX) x0 x1).imp (fun r D' q => ?_)
    rcases q with ⟨e0, e1, rfl, E2, rfl, hO⟩ | ⟨e0, -, -⟩ | ⟨e0, e1, -, -⟩
    · obtain ⟨k1, k2, k3⟩ := h.told hI hX hO
      exact ⟨_, E2, rfl, rfl, ⟨s, Q, P, L, T, K, d, st, sz, C, m, Pi, di, Ci, k1⟩, k2, fun _ => k3.trans hv⟩
    · exfalso; omega
    · exfalso; omega
  · rw [if_neg (by decide)]
    refine (ct_X12_lies hG _ Q P L T K d st hWf (h.no hn 1) x0 x1).imp (fun r D' q => ?_)
    rcases q with ⟨e0, e1, -⟩ | ⟨e0, rfl, rfl⟩ | ⟨e0, e1, -, -⟩
    · exfalso; omega
    · obtain ⟨k1, k2⟩ := h.refused hn (show 1 < 3 by decide) 1
      exact ⟨_, _, rfl, rfl, ⟨s, Q, P, L, T, K, d, st, sz, C, m, Pi, di, Ci, k1⟩, k2, fun q => absurd q (by decide)⟩
    · exfalso; omega
  · rw [if_neg (by decide)]
    refine (ct_X12_lies hG _ Q P L T K d st hWf (h.no hn 2) x0 x1).imp (fun r D' q => ?_)
    rcases q with ⟨e0, e1, -⟩ | ⟨e0, -, -⟩ | ⟨e0, e1, rfl, rfl⟩
    · exfalso; omega
    · exfalso; omega
    · obtain ⟨k1, k2⟩ := h.refused hn (show 2 < 3 by decide) 2
      exact ⟨_, _, rfl, rfl, ⟨s, Q, P, L, T, K, d, st, sz, C, m, Pi, di, Ci, k1⟩, k2, fun q => absurd q (by decide)⟩
def MK_17 (n : Nat) (E : Mm) (v : Int) (E1 : Mm) : Prop := ∃ (s : Nat) (Q : RX) (P : SP) (L : LW) (T K : LN) (d st sz : Nat) (C : CHt) (m : Nat) (Pi : Nat → SP) (di : Nat → Nat) (Ci : Nat → CHt), INVg n s Q P L T K d st sz C m Pi di Ci E ∧ v = ((mk (fun k => decide (¬ dF (dyP (gNow P L d) (sB P) T 24) k = -1)) 8 : Nat) : Int) ∧ CXI E1 s P L T K d ∧ CXF E E1
theorem XK_17 {g : Gw} (hG : GF g) (n : Nat) (E : Mm) (hE : INV n E) : CT g yX11_fallen cX11_fallen 1 (some .int) 6 146 0 0 K2 false [mR 0] (ov E) K2 false (fun r D' => ∃ (v : Int) (E1 : Mm), r = some (mI v) ∧ D' = ov E1 ∧ MK_17 n E  v E1) := by
  obtain ⟨s, Q, P, L, T, K, d, st, sz, C, m, Pi, di, Ci, h⟩ := hE
  refine (ct_X11_fallen hG E s P L T K d h.1 ).imp (fun r D' q => ?_)
  obtain ⟨rfl, E1, rfl, hI, hX⟩ := q
  exact ⟨_, E1, rfl, rfl, s, Q, P, L, T, K, d, st, sz, C, m, Pi, di, Ci, h, rfl, hI, hX⟩
theorem RK_17 {g : Gw} (hG : GF g) (n : Nat) (hn : n ≤ 4000) (E : Mm) (v : Int) (E1 : Mm) (hM : MK_17 n E  v E1) : CT g yX12_fallen cX12_fallen 1 (some .int) 8 176 0 0 K2 false [mR 125] (ov E1) K2 false (fun r D' => ∃ E2 : Mm, r = some (mI v) ∧ D' = ov E2 ∧ INV (n + 6) E2) := by
  obtain ⟨s, Q, P, L, T, K, d, st, sz, C, m, Pi, di, Ci, h, rfl, hI, hX⟩ := hM
  refine (ct_X12_fallen hG E1 Q P L T K d st (h.wf hn) (h.ask2 hn hX) ).imp (fun r D' q => ?_)
  obtain ⟨rfl, E2, rfl, hO⟩ := q
  exact ⟨E2, rfl, rfl, ⟨s, Q, P, L, T, K, d, st, sz, C, m, Pi, di, Ci, h.told2 hI hX hO⟩⟩
def MK_18 (n : Nat) (E : Mm) (x0 : Int) (v : Int) (E1 : Mm) : Prop := ∃ (s : Nat) (Q : RX) (P : SP) (L : LW) (T K : LN) (d st sz : Nat) (C : CHt) (m : Nat) (Pi : Nat → SP) (di : Nat → Nat) (Ci : Nat → CHt), INVg n s Q P L T K d st sz C m Pi di Ci E ∧ v = ((if 0 ≤ x0 ∧ x0 < (dN (dyP (gNow P L d) (sB P) T 24) : Int) then (dO (dyP (gNow P L d) (sB P) T 24) x0.toNat : Int) else -1) : Int) ∧ CXI E1 s P L T K d ∧ CXF E E1
theorem XK_18 {g : Gw} (hG : GF g) (n : Nat) (E : Mm) (x0 : Int) (hE : INV n E) : CT g yX11_order cX11_order 2 (some .int) 6 146 0 0 K2 false [mR 0, mI x0] (ov E) K2 false (fun r D' => ∃ (v : Int) (E1 : Mm), r = some (mI v) ∧ D' = ov E1 ∧ MK_18 n E x0 v E1) := by
  obtain ⟨s, Q, P, L, T, K, d, st, sz, C, m, Pi, di, Ci, h⟩ := hE
  refine (ct_X11_order hG E s P L T K d h.1 x0).imp (fun r D' q => ?_)
  obtain ⟨rfl, E1, rfl, hI, hX⟩ := q
  exact ⟨_, E1, rfl, rfl, s, Q, P, L, T, K, d, st, sz, C, m, Pi, di, Ci, h, rfl, hI, hX⟩
theorem RK_18 {g : Gw} (hG : GF g) (n : Nat) (hn : n ≤ 4000) (E : Mm) (x0 : Int) (v : Int) (E1 : Mm) (hM : MK_18 n E x0 v E1) : CT g yX12_order cX12_order 2 (some .int) 8 176 0 0 K2 false [mR 125, mI x0] (ov E1) K2 false (fun r D' => ∃ E2 : Mm, r = some (mI v) ∧ D' = ov E2 ∧ INV (n + 6) E2) := by
  obtain ⟨s, Q, P, L, T, K, d, st, sz, C, m, Pi, di, Ci, h, rfl, hI, hX⟩ := hM
  refine (ct_X12_order hG E1 Q P L T K d st (h.wf hn) (h.ask2 hn hX) x0).imp (fun r D' q => ?_)
  obtain ⟨rfl, E2, rfl, hO⟩ := q
  exact ⟨E2, rfl, rfl, ⟨s, Q, P, L, T, K, d, st, sz, C, m, Pi, di, Ci, h.told2 hI hX hO⟩⟩
def MK_20 (n : Nat) (E : Mm) (x0 x1 x2 : Int) (c : Nat) (v : Int) (E1 : Mm) : Prop := ∃ (s : Nat) (Q : RX) (P : SP) (L : LW) (T K : LN) (d st sz : Nat) (C : CHt) (m : Nat) (Pi : Nat → SP) (di : Nat → Nat) (Ci : Nat → CHt), INVg n s Q P L T K d st sz C m Pi di Ci E ∧ ((c = 0 ∧ (0 ≤ x0 ∧ x0 ≤ (bN (sB P) : Int) - 1) ∧ ((0 ≤ x1 ∧ x1 ≤ 23) ∧ (0 ≤ x2 ∧ x2 ≤ 23) ∧ x1 ≤ x2) ∧ v = ((keA (gNow P L d) (sB P) x0.toNat x1.toNat x2.toNat) : Int) ∧ CXI E1 s P L T K d ∧ CXF E E1) ∨ (c = 1 ∧ (¬ (0 ≤ x0 ∧ x0 ≤ (bN (sB P) : Int) - 1)) ∧ E1 = bumpE E 1) ∨ (c = 2 ∧ ((0 ≤ x0 ∧ x0 ≤ (bN (sB P) : Int) - 1) ∧ ¬ ((0 ≤ x1 ∧ x1 ≤ 23) ∧ (0 ≤ x2 ∧ x2 ≤ 23) ∧ x1 ≤ x2)) ∧ E1 = bumpE E 2))
theorem XK_20 {g : Gw} (hG : GF g) (n : Nat) (E : Mm) (x0 x1 x2 : Int) (hE : INV n E) : CTX g yX11_kept cX11_kept 4 (some .int) 8 146 2 12 K2 false [mR 0, mI x0, mI x1, mI x2] (ov E) K2 false (fun r D' => ∃ (v : Int) (E1 : Mm), r = some (mI v) ∧ D' = ov E1 ∧ MK_20 n E x0 x1 x2 0 v E1) (fun X D' => ∃ (c : Nat) (E1 : Mm), ((c = 1 ∧ X = "java/util/NoSuchElementException") ∨ (c = 2 ∧ X = "java/lang/IllegalArgumentException")) ∧ D' = ov E1 ∧ MK_20 n E x0 x1 x2 c 0 E1) := by
  obtain ⟨s, Q, P, L, T, K, d, st, sz, C, m, Pi, di, Ci, h⟩ := hE
  refine (ct_X11_kept hG E s P L T K d h.1 x0 x1 x2).imp (fun r D' q => ?_) (fun X D' q => ?_)
  · obtain ⟨c0, c1, rfl, E1, rfl, hI, hX⟩ := q
    exact ⟨_, E1, rfl, rfl, s, Q, P, L, T, K, d, st, sz, C, m, Pi, di, Ci, h, Or.inl ⟨rfl, by omega, by omega, rfl, hI, hX⟩⟩
  · rcases q with ⟨c0, rfl, rfl⟩ | ⟨c0, c1, rfl, rfl⟩
    · exact ⟨1, _, Or.inl ⟨rfl, rfl⟩, rfl, s, Q, P, L, T, K, d, st, sz, C, m, Pi, di, Ci, h, Or.inr (Or.inl ⟨rfl, by omega, rfl⟩)⟩
    · exact ⟨2, _, Or.inr (⟨rfl, rfl⟩), rfl, s, Q, P, L, T, K, d, st, sz, C, m, Pi, di, Ci, h, Or.inr (Or.inr (⟨rfl, by omega, rfl⟩))⟩
theorem RK_20 {g : Gw} (hG : GF g) (n : Nat) (hn : n ≤ 4000) (E : Mm) (x0 x1 x2 : Int) (c : Nat) (v : Int) (E1 : Mm) (hM : MK_20 n E x0 x1 x2 c v E1) : CT g yX12_kept cX12_kept 5 (some .int) 7 156 0 0 K2 false [mR 125, mI x0, mI x1, mI x2] (ov (if c = 0 then wr E1 813 0 v else E1)) K2 false (fun r D' => ∃ (bb : Int) (E2 : Mm), r = some (mI bb) ∧ D' = ov E2 ∧ INV (n + 6) E2 ∧ E2 125 0 = (c : Int) ∧ (c = 0 → E2 813 0 = bb)) := by
  obtain ⟨s, Q, P, L, T, K, d, st, sz, C, m, Pi, di, Ci, h, q⟩ := hM
  have hWf := h.wf hn
  rcases q with ⟨rfl, d0, d1, hv, hI, hX⟩ | ⟨rfl, d0, rfl⟩ | ⟨rfl, d0, rfl⟩
  · rw [if_pos rfl]
    refine (ct_X12_kept hG _ Q P L T K d st hWf (h.ask hn hX) x0 x1 x2).imp (fun r D' q => ?_)
    rcases q with ⟨e0, e1, rfl, E2, rfl, hO⟩ | ⟨e0, -, -⟩ | ⟨e0, e1, -, -⟩
    · obtain ⟨k1, k2, k3⟩ := h.told hI hX hO
      exact ⟨_, E2, rfl, rfl, ⟨s, Q, P, L, T, K, d, st, sz, C, m, Pi, di, Ci, k1⟩, k2, fun _ => k3.trans hv⟩
    · exfalso; omega
    · exfalso; omega
  · rw [if_neg (by decide)]
    refine (ct_X12_kept hG _ Q P L T K d st hWf (h.no hn 1) x0 x1 x2).imp (fun r D' q => ?_)
    rcases q with ⟨e0, e1, -⟩ | ⟨e0, rfl, rfl⟩ | ⟨e0, e1, -, -⟩
    · exfalso; omega
    · obtain ⟨k1, k2⟩ := h.refused hn (show 1 < 3 by decide) 1
      exact ⟨_, _, rfl, rfl, ⟨s, Q, P, L, T, K, d, st, sz, C, m, Pi, di, Ci, k1⟩, k2, fun q => absurd q (by decide)⟩
    · exfalso; omega
  · rw [if_neg (by decide)]
    refine (ct_X12_kept hG _ Q P L T K d st hWf (h.no hn 2) x0 x1 x2).imp (fun r D' q => ?_)
    rcases q with ⟨e0, e1, -⟩ | ⟨e0, -, -⟩ | ⟨e0, e1, rfl, rfl⟩
    · exfalso; omega
    · exfalso; omega
    · obtain ⟨k1, k2⟩ := h.refused hn (show 2 < 3 by decide) 2
      exact ⟨_, _, rfl, rfl, ⟨s, Q, P, L, T, K, d, st, sz, C, m, Pi, di, Ci, k1⟩, k2, fun q => absurd q (by decide)⟩
def MK_21 (n : Nat) (E : Mm) (x0 x1 x2 x3 : Int) (c : Nat) (v : Int) (E1 : Mm) : Prop := ∃ (s : Nat) (Q : RX) (P : SP) (L : LW) (T K : LN) (d st sz : Nat) (C : CHt) (m : Nat) (Pi : Nat → SP) (di : Nat → Nat) (Ci : Nat → CHt), INVg n s Q P L T K d st sz C m Pi di Ci E ∧ ((c = 0 ∧ (0 ≤ x0 ∧ x0 ≤ (bN (sB P) : Int) - 1) ∧ ((0 ≤ x1 ∧ x1 ≤ 23) ∧ (0 ≤ x2 ∧ x2 ≤ 23) ∧ x1 ≤ x2 ∧ x1 ≤ x3 ∧ x3 ≤ x2) ∧ v = ((caA (gNow P L d) (sB P) x0.toNat x1.toNat x2.toNat x3.toNat) : Int) ∧ CXI E1 s P L T K d ∧ CXF E E1) ∨ (c = 1 ∧ (¬ (0 ≤ x0 ∧ x0 ≤ (bN (sB P) : Int) - 1)) ∧ E1 = bumpE E 1) ∨ (c = 2 ∧ ((0 ≤ x0 ∧ x0 ≤ (bN (sB P) : Int) - 1) ∧ ¬ ((0 ≤ x1 ∧ x1 ≤ 23) ∧ (0 ≤ x2 ∧ x2 ≤ 23) ∧ x1 ≤ x2 ∧ x1 ≤ x3 ∧ x3 ≤ x2)) ∧ E1 = bumpE E 2))
theorem XK_21 {g : Gw} (hG : GF g) (n : Nat) (E : Mm) (x0 x1 x2 x3 : Int) (hE : INV n E) : CTX g yX11_carry cX11_carry 5 (some .int) 8 146 3 18 K2 false [mR 0, mI x0, mI x1, mI x2, mI x3] (ov E) K2 false (fun r D' => ∃ (v : Int) (E1 : Mm), r = some (mI v) ∧ D' = ov E1 ∧ MK_21 n E x0 x1 x2 x3 0 v E1) (fun X D' => ∃ (c : Nat) (E1 : Mm), ((c = 1 ∧ X = "java/util/NoSuchElementException") ∨ (c = 2 ∧ X = "java/lang/IllegalArgumentException")) ∧ D' = ov E1 ∧ MK_21 n E x0 x1 x2 x3 c 0 E1) := by
  obtain ⟨s, Q, P, L, T, K, d, st, sz, C, m, Pi, di, Ci, h⟩ := hE
  refine (ct_X11_carry hG E s P L T K d h.1 x0 x1 x2 x3).imp (fun r D' q => ?_) (fun X D' q => ?_)
  · obtain ⟨c0, c1, c2, rfl, E1, rfl, hI, hX⟩ := q
    exact ⟨_, E1, rfl, rfl, s, Q, P, L, T, K, d, st, sz, C, m, Pi, di, Ci, h, Or.inl ⟨rfl, by omega, by omega, rfl, hI, hX⟩⟩
  · rcases q with ⟨c0, rfl, rfl⟩ | ⟨c0, c1, rfl, rfl⟩ | ⟨c0, c1, c2, rfl, rfl⟩
    · exact ⟨1, _, Or.inl ⟨rfl, rfl⟩, rfl, s, Q, P, L, T, K, d, st, sz, C, m, Pi, di, Ci, h, Or.inr (Or.inl ⟨rfl, by omega, rfl⟩)⟩
    · exact ⟨2, _, Or.inr (⟨rfl, rfl⟩), rfl, s, Q, P, L, T, K, d, st, sz, C, m, Pi, di, Ci, h, Or.inr (Or.inr (⟨rfl, by omega, rfl⟩))⟩
    · exact ⟨2, _, Or.inr (⟨rfl, rfl⟩), rfl, s, Q, P, L, T, K, d, st, sz, C, m, Pi, di, Ci, h, Or.inr (Or.inr (⟨rfl, by omega, rfl⟩))⟩
theorem RK_21 {g : Gw} (hG : GF g) (n : Nat) (hn : n ≤ 4000) (E : Mm) (x0 x1 x2 x3 : Int) (c : Nat) (v : Int) (E1 : Mm) (hM : MK_21 n E x0 x1 x2 x3 c v E1) : CT g yX12_carry cX12_carry 7 (some .int) 7 156 0 0 K2 false [mR 125, mI x0, mI x1, mI x2, mI x3] (ov (if c = 0 then wr E1 813 0 v else E1)) K2 false (fun r D' => ∃ (bb : Int) (E2 : Mm), r = some (mI bb) ∧ D' = ov E2 ∧ INV (n + 6) E2 ∧ E2 125 0 = (c : Int) ∧ (c = 0 → E2 813 0 = bb)) := by
  obtain ⟨s, Q, P, L, T, K, d, st, sz, C, m, Pi, di, Ci, h, q⟩ := hM
  have hWf := h.wf hn
  rcases q with ⟨rfl, d0, d1, hv, hI, hX⟩ | ⟨rfl, d0, rfl⟩ | ⟨rfl, d0, rfl⟩
  · rw [if_pos rfl]
    refine (ct_X12_carry hG _ Q P L T K d st hWf (h.ask hn hX) x0 x1 x2 x3).imp (fun r D' q => ?_)
    rcases q with ⟨e0, e1, rfl, E2, rfl, hO⟩ | ⟨e0, -, -⟩ | ⟨e0, e1, -, -⟩
    · obtain ⟨k1, k2, k3⟩ := h.told hI hX hO
      exact ⟨_, E2, rfl, rfl, ⟨s, Q, P, L, T, K, d, st, sz, C, m, Pi, di, Ci, k1⟩, k2, fun _ => k3.trans hv⟩
    · exfalso; omega
    · exfalso; omega
  · rw [if_neg (by decide)]
    refine (ct_X12_carry hG _ Q P L T K d st hWf (h.no hn 1) x0 x1 x2 x3).imp (fun r D' q => ?_)
    rcases q with ⟨e0, e1, -⟩ | ⟨e0, rfl, rfl⟩ | ⟨e0, e1, -, -⟩
    · exfalso; omega
    · obtain ⟨k1, k2⟩ := h.refused hn (show 1 < 3 by decide) 1
      exact ⟨_, _, rfl, rfl, ⟨s, Q, P, L, T, K, d, st, sz, C, m, Pi, di, Ci, k1⟩, k2, fun q => absurd q (by decide)⟩
    · exfalso; omega
  · rw [if_neg (by decide)]
    refine (ct_X12_carry hG _ Q P L T K d st hWf (h.no hn 2) x0 x1 x2 x3).imp (fun r D' q => ?_)
    rcases q with ⟨e0, e1, -⟩ | ⟨e0, -, -⟩ | ⟨e0, e1, rfl, rfl⟩
    · exfalso; omega
    · exfalso; omega
    · obtain ⟨k1, k2⟩ := h.refused hn (show 2 < 3 by decide) 2
      exact ⟨_, _, rfl, rfl, ⟨s, Q, P, L, T, K, d, st, sz, C, m, Pi, di, Ci, k1⟩, k2, fun q => absurd q (by decide)⟩
def MK_23 (n : Nat) (E : Mm) (x0 x1 : Int) (c : Nat) (v : Int) (E1 : Mm) : Prop := ∃ (s : Nat) (Q : RX) (P : SP) (L : LW) (T K : LN) (d st sz : Nat) (C : CHt) (m : Nat) (Pi : Nat → SP) (di : Nat → Nat) (Ci : Nat → CHt), INVg n s Q P L T K d st sz C m Pi di Ci E ∧ ((c = 0 ∧ ((1 ≤ x0 ∧ x0 ≤ 99) ∧ (0 ≤ x1 ∧ x1 ≤ 1)) ∧ v = ((if (twA P (gNow P L d) (sB P) T x0.toNat).1 = -1 ∨ x1 = 0 then (twA P (gNow P L d) (sB P) T x0.toNat).1 else (twA P (gNow P L d) (sB P) T x0.toNat).2) : Int) ∧ CXI E1 s P L T K d ∧ CXF E E1) ∨ (c = 1 ∧ (¬ ((1 ≤ x0 ∧ x0 ≤ 99) ∧ (0 ≤ x1 ∧ x1 ≤ 1))) ∧ E1 = bumpE E 2))
theorem XK_23 {g : Gw} (hG : GF g) (n : Nat) (E : Mm) (x0 x1 : Int) (hE : INV n E) : CTX g yX11_tower cX11_tower 6 (some .int) 8 148 2 12 K2 false [mR 0, mI x0, mI x1] (ov E) K2 false (fun r D' => ∃ (v : Int) (E1 : Mm), r = some (mI v) ∧ D' = ov E1 ∧ MK_23 n E x0 x1 0 v E1) (fun X D' => ∃ (c : Nat) (E1 : Mm), ((c = 1 ∧ X = "java/lang/IllegalArgumentException")) ∧ D' = ov E1 ∧ MK_23 n E x0 x1 c 0 E1) := by
  obtain ⟨s, Q, P, L, T, K, d, st, sz, C, m, Pi, di, Ci, h⟩ := hE
  refine (ct_X11_tower hG E s P L T K d h.1 x0 x1).imp (fun r D' q => ?_) (fun X D' q => ?_)
  · obtain ⟨c0, c1, rfl, E1, rfl, hI, hX⟩ := q
    exact ⟨_, E1, rfl, rfl, s, Q, P, L, T, K, d, st, sz, C, m, Pi, di, Ci, h, Or.inl ⟨rfl, by omega, rfl, hI, hX⟩⟩
  · rcases q with ⟨c0, rfl, rfl⟩ | ⟨c0, c1, rfl, rfl⟩
    · exact ⟨1, _, ⟨rfl, rfl⟩, rfl, s, Q, P, L, T, K, d, st, sz, C, m, Pi, di, Ci, h, Or.inr (⟨rfl, by omega, rfl⟩)⟩
    · exact ⟨1, _, ⟨rfl, rfl⟩, rfl, s, Q, P, L, T, K, d, st, sz, C, m, Pi, di, Ci, h, Or.inr (⟨rfl, by omega, rfl⟩)⟩
theorem RK_23 {g : Gw} (hG : GF g) (n : Nat) (hn : n ≤ 4000) (E : Mm) (x0 x1 : Int) (c : Nat) (v : Int) (E1 : Mm) (hM : MK_23 n E x0 x1 c v E1) : CT g yX12_tower cX12_tower 7 (some .int) 7 158 0 0 K2 false [mR 125, mI x0, mI x1] (ov (if c = 0 then wr E1 813 0 v else E1)) K2 false (fun r D' => ∃ (bb : Int) (E2 : Mm), r = some (mI bb) ∧ D' = ov E2 ∧ INV (n + 6) E2 ∧ E2 125 0 = (c : Int) ∧ (c = 0 → E2 813 0 = bb)) := by
  obtain ⟨s, Q, P, L, T, K, d, st, sz, C, m, Pi, di, Ci, h, q⟩ := hM
  have hWf := h.wf hn
  rcases q with ⟨rfl, d0, hv, hI, hX⟩ | ⟨rfl, d0, rfl⟩
  · rw [if_pos rfl]
    refine (ct_X12_tower hG _ Q P L T K d st hWf (h.ask hn hX) x0 x1).imp (fun r D' q => ?_)
    rcases q with ⟨e0, rfl, E2, rfl, hO⟩ | ⟨e0, -, -⟩
    · obtain ⟨k1, k2, k3⟩ := h.told hI hX hO
      exact ⟨_, E2, rfl, rfl, ⟨s, Q, P, L, T, K, d, st, sz, C, m, Pi, di, Ci, k1⟩, k2, fun _ => k3.trans hv⟩
    · exfalso; omega
  · rw [if_neg (by decide)]
    refine (ct_X12_tower hG _ Q P L T K d st hWf (h.no hn 2) x0 x1).imp (fun r D' q => ?_)
    rcases q with ⟨e0, -⟩ | ⟨e0, rfl, rfl⟩
    · exfalso; omega
    · obtain ⟨k1, k2⟩ := h.refused hn (show 2 < 3 by decide) 1
      exact ⟨_, _, rfl, rfl, ⟨s, Q, P, L, T, K, d, st, sz, C, m, Pi, di, Ci, k1⟩, k2, fun q => absurd q (by decide)⟩
def MK_25 (n : Nat) (E : Mm) (x0 x1 x2 x3 : Int) (c : Nat) (v : Int) (E1 : Mm) : Prop := ∃ (s : Nat) (Q : RX) (P : SP) (L : LW) (T K : LN) (d st sz : Nat) (C : CHt) (m : Nat) (Pi : Nat → SP) (di : Nat → Nat) (Ci : Nat → CHt), INVg n s Q P L T K d st sz C m Pi di Ci E ∧ ((c = 0 ∧ ((0 ≤ x0 ∧ x0 ≤ (sW P : Int) - 1) ∧ (0 ≤ x1 ∧ x1 ≤ (sW P : Int) - 1)) ∧ ((0 ≤ x2 ∧ x2 ≤ 23) ∧ (1 ≤ x3 ∧ x3 ≤ 9)) ∧ v = ((wkA (gNow P L d) x3.toNat x2.toNat x0.toNat x1.toNat) : Int) ∧ CXI E1 s P L T K d ∧ CXF E E1) ∨ (c = 1 ∧ (¬ ((0 ≤ x0 ∧ x0 ≤ (sW P : Int) - 1) ∧ (0 ≤ x1 ∧ x1 ≤ (sW P : Int) - 1))) ∧ E1 = bumpE E 0) ∨ (c = 2 ∧ (((0 ≤ x0 ∧ x0 ≤ (sW P : Int) - 1) ∧ (0 ≤ x1 ∧ x1 ≤ (sW P : Int) - 1)) ∧ ¬ ((0 ≤ x2 ∧ x2 ≤ 23) ∧ (1 ≤ x3 ∧ x3 ≤ 9))) ∧ E1 = bumpE E 2))
theorem XK_25 {g : Gw} (hG : GF g) (n : Nat) (E : Mm) (x0 x1 x2 x3 : Int) (hE : INV n E) : CTX g yX11_walk cX11_walk 8 (some .int) 8 146 4 24 K2 false [mR 0, mI x0, mI x1, mI x2, mI x3] (ov E) K2 false (fun r D' => ∃ (v : Int) (E1 : Mm), r = some (mI v) ∧ D' = ov E1 ∧ MK_25 n E x0 x1 x2 x3 0 v E1) (fun X D' => ∃ (c : Nat) (E1 : Mm), ((c = 1 ∧ X = "java/lang/IndexOutOfBoundsException") ∨ (c = 2 ∧ X = "java/lang/IllegalArgumentException")) ∧ D' = ov E1 ∧ MK_25 n E x0 x1 x2 x3 c 0 E1) := by
  obtain ⟨s, Q, P, L, T, K, d, st, sz, C, m, Pi, di, Ci, h⟩ := hE
  refine (ct_X11_walk hG E s P L T K d h.1 x0 x1 x2 x3).imp (fun r D' q => ?_) (fun X D' q => ?_)
  · obtain ⟨c0, c1, c2, c3, rfl, E1, rfl, hI, hX⟩ := q
    exact ⟨_, E1, rfl, rfl, s, Q, P, L, T, K, d, st, sz, C, m, Pi, di, Ci, h, Or.inl ⟨rfl, by omega, by omega, rfl, hI, hX⟩⟩
  · rcases q with ⟨c0, rfl, rfl⟩ | ⟨c0, c1, rfl, rfl⟩ | ⟨c0, c1, c2, rfl, rfl⟩ | ⟨c0, c1, c2, c3, rfl, rfl⟩
    · exact ⟨1, _, Or.inl ⟨rfl, rfl⟩, rfl, s, Q, P, L, T, K, d, st, sz, C, m, Pi, di, Ci, h, Or.inr (Or.inl ⟨rfl, by omega, rfl⟩)⟩
    · exact ⟨1, _, Or.inl ⟨rfl, rfl⟩, rfl, s, Q, P, L, T, K, d, st, sz, C, m, Pi, di, Ci, h, Or.inr (Or.inl ⟨rfl, by omega, rfl⟩)⟩
    · exact ⟨2, _, Or.inr (⟨rfl, rfl⟩), rfl, s, Q, P, L, T, K, d, st, sz, C, m, Pi, di, Ci, h, Or.inr (Or.inr (⟨rfl, by omega, rfl⟩))⟩
    · exact ⟨2, _, Or.inr (⟨rfl, rfl⟩), rfl, s, Q, P, L, T, K, d, st, sz, C, m, Pi, di, Ci, h, Or.inr (Or.inr (⟨rfl, by omega, rfl⟩))⟩
theorem RK_25 {g : Gw} (hG : GF g) (n : Nat) (hn : n ≤ 4000) (E : Mm) (x0 x1 x2 x3 : Int) (c : Nat) (v : Int) (E1 : Mm) (hM : MK_25 n E x0 x1 x2 x3 c v E1) : CT g yX12_walk cX12_walk 8 (some .int) 7 156 0 0 K2 false [mR 125, mI x0, mI x1, mI x2, mI x3] (ov (if c = 0 then wr E1 813 0 v else E1)) K2 false (fun r D' => ∃ (bb : Int) (E2 : Mm), r = some (mI bb) ∧ D' = ov E2 ∧ INV (n + 6) E2 ∧ E2 125 0 = (c : Int) ∧ (c = 0 → E2 813 0 = bb)) := by
  obtain ⟨s, Q, P, L, T, K, d, st, sz, C, m, Pi, di, Ci, h, q⟩ := hM
  have hWf := h.wf hn
  rcases q with ⟨rfl, d0, d1, hv, hI, hX⟩ | ⟨rfl, d0, rfl⟩ | ⟨rfl, d0, rfl⟩
  · rw [if_pos rfl]
    refine (ct_X12_walk hG _ Q P L T K d st hWf (h.ask hn hX) x0 x1 x2 x3).imp (fun r D' q => ?_)
    rcases q with ⟨e0, e1, rfl, E2, rfl, hO⟩ | ⟨e0, -, -⟩ | ⟨e0, e1, -, -⟩
    · obtain ⟨k1, k2, k3⟩ := h.told hI hX hO
      exact ⟨_, E2, rfl, rfl, ⟨s, Q, P, L, T, K, d, st, sz, C, m, Pi, di, Ci, k1⟩, k2, fun _ => k3.trans hv⟩
    · exfalso; omega
    · exfalso; omega
  · rw [if_neg (by decide)]
    refine (ct_X12_walk hG _ Q P L T K d st hWf (h.no hn 0) x0 x1 x2 x3).imp (fun r D' q => ?_)
    rcases q with ⟨e0, e1, -⟩ | ⟨e0, rfl, rfl⟩ | ⟨e0, e1, -, -⟩
    · exfalso; omega
    · obtain ⟨k1, k2⟩ := h.refused hn (show 0 < 3 by decide) 1
      exact ⟨_, _, rfl, rfl, ⟨s, Q, P, L, T, K, d, st, sz, C, m, Pi, di, Ci, k1⟩, k2, fun q => absurd q (by decide)⟩
    · exfalso; omega
  · rw [if_neg (by decide)]
    refine (ct_X12_walk hG _ Q P L T K d st hWf (h.no hn 2) x0 x1 x2 x3).imp (fun r D' q => ?_)
    rcases q with ⟨e0, e1, -⟩ | ⟨e0, -, -⟩ | ⟨e0, e1, rfl, rfl⟩
    · exfalso; omega
    · exfalso; omega
    · obtain ⟨k1, k2⟩ := h.refused hn (show 2 < 3 by decide) 2
      exact ⟨_, _, rfl, rfl, ⟨s, Q, P, L, T, K, d, st, sz, C, m, Pi, di, Ci, k1⟩, k2, fun q => absurd q (by decide)⟩
def MK_26 (n : Nat) (E : Mm) (x0 x1 : Int) (c : Nat) (v : Int) (E1 : Mm) : Prop := ∃ (s : Nat) (Q : RX) (P : SP) (L : LW) (T K : LN) (d st sz : Nat) (C : CHt) (m : Nat) (Pi : Nat → SP) (di : Nat → Nat) (Ci : Nat → CHt), INVg n s Q P L T K d st sz C m Pi di Ci E ∧ ((c = 0 ∧ ((1 ≤ x0 ∧ x0 ≤ 99) ∧ (0 ≤ x1 ∧ x1 ≤ 1)) ∧ v = ((if x1 = 0 then (cntp (msB P (gNow P L d) (sB P) T K x0.toNat) (sW P) : Nat) else fstP (msB P (gNow P L d) (sB P) T K x0.toNat) (sW P)) : Int) ∧ CXI E1 s P L T K d ∧ CXF E E1) ∨ (c = 1 ∧ (¬ ((1 ≤ x0 ∧ x0 ≤ 99) ∧ (0 ≤ x1 ∧ x1 ≤ 1))) ∧ E1 = bumpE E 2))
theorem XK_26 {g : Gw} (hG : GF g) (n : Nat) (E : Mm) (x0 x1 : Int) (hE : INV n E) : CTX g yX11_missing cX11_missing 6 (some .int) 8 148 2 12 K2 false [mR 0, mI x0, mI x1] (ov E) K2 false (fun r D' => ∃ (v : Int) (E1 : Mm), r = some (mI v) ∧ D' = ov E1 ∧ MK_26 n E x0 x1 0 v E1) (fun X D' => ∃ (c : Nat) (E1 : Mm), ((c = 1 ∧ X = "java/lang/IllegalArgumentException")) ∧ D' = ov E1 ∧ MK_26 n E x0 x1 c 0 E1) := by
  obtain ⟨s, Q, P, L, T, K, d, st, sz, C, m, Pi, di, Ci, h⟩ := hE
  refine (ct_X11_missing hG E s P L T K d h.1 x0 x1).imp (fun r D' q => ?_) (fun X D' q => ?_)
  · obtain ⟨c0, c1, rfl, E1, rfl, hI, hX⟩ := q
    exact ⟨_, E1, rfl, rfl, s, Q, P, L, T, K, d, st, sz, C, m, Pi, di, Ci, h, Or.inl ⟨rfl, by omega, rfl, hI, hX⟩⟩
  · rcases q with ⟨c0, rfl, rfl⟩ | ⟨c0, c1, rfl, rfl⟩
    · exact ⟨1, _, ⟨rfl, rfl⟩, rfl, s, Q, P, L, T, K, d, st, sz, C, m, Pi, di, Ci, h, Or.inr (⟨rfl, by omega, rfl⟩)⟩
    · exact ⟨1, _, ⟨rfl, rfl⟩, rfl, s, Q, P, L, T, K, d, st, sz, C, m, Pi, di, Ci, h, Or.inr (⟨rfl, by omega, rfl⟩)⟩
theorem RK_26 {g : Gw} (hG : GF g) (n : Nat) (hn : n ≤ 4000) (E : Mm) (x0 x1 : Int) (c : Nat) (v : Int) (E1 : Mm) (hM : MK_26 n E x0 x1 c v E1) : CT g yX12_missing cX12_missing 6 (some .int) 7 158 0 0 K2 false [mR 125, mI x0, mI x1] (ov (if c = 0 then wr E1 813 0 v else E1)) K2 false (fun r D' => ∃ (bb : Int) (E2 : Mm), r = some (mI bb) ∧ D' = ov E2 ∧ INV (n + 6) E2 ∧ E2 125 0 = (c : Int) ∧ (c = 0 → E2 813 0 = bb)) := by
  obtain ⟨s, Q, P, L, T, K, d, st, sz, C, m, Pi, di, Ci, h, q⟩ := hM
  have hWf := h.wf hn
  rcases q with ⟨rfl, d0, hv, hI, hX⟩ | ⟨rfl, d0, rfl⟩
  · rw [if_pos rfl]
    refine (ct_X12_missing hG _ Q P L T K d st hWf (h.ask hn hX) x0 x1).imp (fun r D' q => ?_)
    rcases q with ⟨e0, rfl, E2, rfl, hO⟩ | ⟨e0, -, -⟩
    · obtain ⟨k1, k2, k3⟩ := h.told hI hX hO
      exact ⟨_, E2, rfl, rfl, ⟨s, Q, P, L, T, K, d, st, sz, C, m, Pi, di, Ci, k1⟩, k2, fun _ => k3.trans hv⟩
    · exfalso; omega
  · rw [if_neg (by decide)]
    refine (ct_X12_missing hG _ Q P L T K d st hWf (h.no hn 2) x0 x1).imp (fun r D' q => ?_)
    rcases q with ⟨e0, -⟩ | ⟨e0, rfl, rfl⟩
    · exfalso; omega
    · obtain ⟨k1, k2⟩ := h.refused hn (show 2 < 3 by decide) 1
      exact ⟨_, _, rfl, rfl, ⟨s, Q, P, L, T, K, d, st, sz, C, m, Pi, di, Ci, k1⟩, k2, fun q => absurd q (by decide)⟩
