/-! lamps: the search of the class -/
def setL (G : GP) (lm : Nat → Bool) : GP := (gW G, gN G, gX G, gH G, gT' G, gR G, gC G, lm, gLw G)
theorem setL_WG {G : GP} (h : WG G) (lm : Nat → Bool) : WG (setL G lm) := h
theorem CG.setL {E : Mm} {a : Nat} {G : GP} {l0 : Nat → Bool} (h : CG E a (setL G l0)) (lm : Nat → Bool) : CG (wr E a 13 (mk lm 50 : Nat)) a (setL G lm) := by
  obtain ⟨⟨q1, q2, q3, q4, q5, q6, q7⟩, h2, h3, h4⟩ := h
  refine ⟨⟨?_, ?_, ?_, ?_, wr_s _ _ _ _, ?_, ?_⟩, ⟨?_, ?_⟩, ?_, ?_⟩
  · rw [wr_o (by omega)]; exact q1
  · rw [wr_o (by omega)]; exact q2
  · rw [wr_o (by omega)]; exact q3
  · rw [wr_o (by omega)]; exact q4
  · rw [wr_row (by omega), wr_row (by omega)]; exact q6
  · rw [wr_row (by omega), wr_row (by omega)]; exact q7
  · rw [wr_o (by omega)]; exact h2.1
  · rw [wr_row (by omega)]; exact h2.2
  · unfold CGs at h3 ⊢; rw [wr_row (by omega)]; exact h3
  · unfold CK at h4 ⊢; rw [wr_row (by omega)]; exact h4
/-- none of the watched beams has fallen -/
theorem fell_iff {G : GP} {B : BM} {T : LN} {w n : Nat} (hN : bN B ≤ 8) (hw : w < 2 ^ bN B) (hn : n ≤ 24) (h : n = 24 ∨ ¬ (mk (fun k => decide (¬ dF (dyP G B T n) k = -1)) 8 &&& w) = 0) : (mk (fun k => decide (¬ dF (dyP G B T n) k = -1)) 8 &&& w) = 0 ↔ GDp G B T w := by
  constructor
  · intro e b hb hwb
    have hn24 : n = 24 := h.resolve_right (fun q => q e)
    subst hn24
    apply Decidable.byContradiction
    intro c
    have := congrArg (fun x => x.testBit b) e
    simp only [Nat.testBit_and, Nat.zero_testBit, hwb, Bool.and_true] at this
    rw [mk_in (show b < 8 by omega), decide_eq_true c] at this
    cases this
  · intro g
    refine Nat.eq_of_testBit_eq fun b => ?_
    rw [Nat.testBit_and, Nat.zero_testBit]
    by_cases hb : b < bN B
    · by_cases hwb : w.testBit b = true
      · have g1 := g b hb hwb
        have : dF (dyP G B T n) b = -1 := Decidable.byContradiction (fun c => by
          have q := dyP_fell c (24 - n)
          rw [show n + (24 - n) = 24 by omega] at q
          exact q g1)
        rw [mk_in (show b < 8 by omega), decide_eq_false (fun q => q this), Bool.false_and]
      · rw [Bool.eq_false_iff.mpr hwb, Bool.and_false]
    · rw [Nat.testBit_lt_two_pow (Nat.lt_of_lt_of_le hw (Nat.pow_le_pow_right (by decide) (show bN B ≤ b by omega))), Bool.and_false]
/-- what is demanded holds wherever none of the watched beams falls -/
theorem good_allows {G : GP} {B : BM} {T : LN} {w nl nd : Nat} {lm : Nat → Bool} (hW40 : gW G ≤ 40) (hW : WB (gW G) B) (hT : WT (gW G) B T) (hnl : NB G B T w false 24 nl) (hnd : NB G B T w true 24 nd) (hg : GDp (setL G lm) B T w) : mk lm 50 &&& nl = nl ∧ mk lm 50 &&& nd = 0 := by
  have key : ∀ t c, t < 24 → 0 < wtW B w (plW B T (t + 1)) c (bN B) → wtW B w (plW B T (t + 1)) c (bN B) ≤ bIf G (lm c) t c * 232792560 := fun t c ht h0 => good_bears (G := setL G lm) hW hT hg ht h0
  refine ⟨Nat.eq_of_testBit_eq fun c => ?_, Nat.eq_of_testBit_eq fun c => ?_⟩
  · rw [Nat.testBit_and]
    by_cases q : nl.testBit c = true
    · obtain ⟨hc, t, h1, h2, h3⟩ := hnl.2 c q
      have k := key t c h1 h2
      rw [mk_in (show c < 50 by omega), q, Bool.and_true]
      cases e : lm c
      · rw [e] at k; omega
      · rfl
    · rw [Bool.eq_false_iff.mpr q, Bool.and_false]
  · rw [Nat.testBit_and, Nat.zero_testBit]
    by_cases q : nd.testBit c = true
    · obtain ⟨hc, t, h1, h2, h3⟩ := hnd.2 c q
      have k := key t c h1 h2
      rw [mk_in (show c < 50 by omega), q, Bool.and_true]
      cases e : lm c
      · rfl
      · rw [e] at k; omega
    · rw [Bool.eq_false_iff.mpr q, Bool.and_false]
/-- what a lamp gains, cell by cell -/
def gnP (G : GP) (B : BM) (T : LN) (r x c : Nat) : Bool := (gdP G B T r x).testBit c
theorem LM_or {base : Nat → Bool} {G : GP} {B : BM} {T : LN} {r : Nat} (hW : gW G ≤ 40) (l : List Nat) (x : Nat) : mk (LM base (gnP G B T r) l) 50 ||| gdP G B T r x = mk (LM base (gnP G B T r) (l ++ [x])) 50 := by
  refine mk_eq (Nat.or_lt_two_pow (mk_lt _ _) (Nat.lt_trans (gd_lt hW r x) (by decide))) (fun j hj => ?_)
  rw [Nat.testBit_or, mk_in hj, LM_snoc]
  rfl
def FGd (P : SP) (L : LW) (T : LN) (d w r : Nat) (l : List Nat) : Prop := GDp (setL (gNow P L d) (LM (sLc P) (gnP (gNow P L d) (sB P) T r) l)) (sB P) T w
def FLI (E : Mm) (s : Nat) (P : SP) (L : LW) (T K : LN) (d w r m : Nat) (cl : Nat → Nat) (nl nd : Nat) : Prop := CXI E s P L T K d ∧ (∃ lm, CG E 39 (setL (gNow P L d) lm)) ∧ GI E (gdP (gNow P L d) (sB P) T r) m cl (sW P) ∧ E 62 6 = (nl : Int) ∧ E 62 7 = (nd : Int) ∧ NB (gNow P L d) (sB P) T w false 24 nl ∧ NB (gNow P L d) (sB P) T w true 24 nd
def FLf (E E1 : Mm) : Prop := ∀ q, ¬ (39 ≤ q ∧ q ≤ 47) → ¬ (54 ≤ q ∧ q ≤ 59) → q ≠ 7 → q ≠ 65 → E1 q = E q
theorem FLI.fr {E E1 : Mm} {s d w r m nl nd : Nat} {P : SP} {L : LW} {T K : LN} {cl : Nat → Nat} (h : FLI E s P L T K d w r m cl nl nd) (hf : FLf E E1) (hg : ∃ lm, CG E1 39 (setL (gNow P L d) lm)) : FLI E1 s P L T K d w r m cl nl nd ∧ CXF E E1 := by
  have ht := h.1.tried (E1 := E1) (fun q h1 h2 h3 => hf q h1 (by omega) h3 (by omega))
  have e62 := hf 62 (by omega) (by omega) (by omega) (by omega)
  exact ⟨⟨ht.1, hg, h.2.2.1.fr (by rw [e62]) (hf 63 (by omega) (by omega) (by omega) (by omega)) (hf 64 (by omega) (by omega) (by omega) (by omega)), by rw [e62]; exact h.2.2.2.1, by rw [e62]; exact h.2.2.2.2.1, h.2.2.2.2.2.1, h.2.2.2.2.2.2⟩, ht.2.2⟩
theorem FLI.f65 {E E1 : Mm} {s d w r m nl nd : Nat} {P : SP} {L : LW} {T K : LN} {cl : Nat → Nat} (h : FLI E s P L T K d w r m cl nl nd) (hf : ∀ q, q ≠ 65 → E1 q = E q) : FLI E1 s P L T K d w r m cl nl nd ∧ CXF E E1 := by
  obtain ⟨l0, hg0⟩ := h.2.1
  exact h.fr (fun q _ _ _ h4 => hf q h4) ⟨l0, hg0.fr (fun q _ _ _ => hf q (by omega))⟩
/-! picks: rising places in the row of candidates, three at most -/
def pkl (q : Nat → Nat) (n : Nat) : List Nat := (List.range n).map q
def nxq (q : Nat → Nat) (v i : Nat) : Nat := if i < v then q i else q v + 1 + (i - v)
theorem pkl_len (q : Nat → Nat) (n : Nat) : (pkl q n).length = n := by unfold pkl; rw [List.length_map, List.length_range]
theorem pkl_ex {t : List Nat} {n : Nat} (hn : n ≤ 3) (hl : t.length = n) : ∃ u, t = pkl u n := by
  subst hl
  match t, hn with
  | [], _ => exact ⟨fun _ => 0, rfl⟩
  | [a], _ => exact ⟨fun _ => a, rfl⟩
  | [a, b], _ => exact ⟨fun i => if i = 0 then a else b, rfl⟩
  | [a, b, c], _ => exact ⟨fun i => if i = 0 then a else if i = 1 then b else c, rfl⟩
  | _ :: _ :: _ :: _ :: r, h => exact absurd h (by show ¬ r.length + 1 + 1 + 1 + 1 ≤ 3; omega)
theorem pkl_getD {q : Nat → Nat} {n i : Nat} (h : i < n) : (pkl q n).getD i 0 = q i := by
  unfold pkl
  rw [List.getD_eq_getElem?_getD, List.getElem?_map, List.getElem?_range h]
  rfl
theorem pkl_lt {m n : Nat} {q : Nat → Nat} (hq : incL m 0 (pkl q n)) {i : Nat} (hi : i < n) : q i < m :=
  incL_mem hq _ (List.mem_map.mpr ⟨i, List.mem_range.mpr hi, rfl⟩)
theorem three {n : Nat} (h : n ≤ 3) : n = 0 ∨ n = 1 ∨ n = 2 ∨ n = 3 := by omega
theorem d1 (u : Nat → Nat) : dgt (pkl u 1) = u 0 := by show 64 * 0 + u 0 = u 0; omega
theorem d2 (u : Nat → Nat) : dgt (pkl u 2) = 64 * u 0 + u 1 := by show 64 * (64 * 0 + u 0) + u 1 = _; omega
theorem d3 (u : Nat → Nat) : dgt (pkl u 3) = 4096 * u 0 + 64 * u 1 + u 2 := by show 64 * (64 * (64 * 0 + u 0) + u 1) + u 2 = _; omega
theorem i1 {m : Nat} {u : Nat → Nat} : incL m 0 (pkl u 1) ↔ u 0 < m := ⟨fun h => h.1.2, fun h => ⟨⟨Nat.zero_le _, h⟩, trivial⟩⟩
theorem i2 {m : Nat} {u : Nat → Nat} : incL m 0 (pkl u 2) ↔ u 0 < u 1 ∧ u 1 < m := ⟨fun h => ⟨h.2.1.1, h.2.1.2⟩, fun h => ⟨⟨Nat.zero_le _, Nat.lt_trans h.1 h.2⟩, ⟨h.1, h.2⟩, trivial⟩⟩
theorem i3 {m : Nat} {u : Nat → Nat} : incL m 0 (pkl u 3) ↔ u 0 < u 1 ∧ u 1 < u 2 ∧ u 2 < m := ⟨fun h => ⟨h.2.1.1, h.2.2.1.1, h.2.2.1.2⟩, fun h => ⟨⟨Nat.zero_le _, Nat.lt_trans h.1 (Nat.lt_trans h.2.1 h.2.2)⟩, ⟨h.1, Nat.lt_trans h.2.1 h.2.2⟩, ⟨h.2.1, h.2.2⟩, trivial⟩⟩
theorem eqp1 {u q : Nat → Nat} (h : u 0 = q 0) : pkl u 1 = pkl q 1 := by show [u 0] = [q 0]; rw [h]
theorem eqp2 {u q : Nat → Nat} (h : u 0 = q 0) (h1 : u 1 = q 1) : pkl u 2 = pkl q 2 := by show [u 0, u 1] = [q 0, q 1]; rw [h, h1]
theorem eqp3 {u q : Nat → Nat} (h : u 0 = q 0) (h1 : u 1 = q 1) (h2 : u 2 = q 2) : pkl u 3 = pkl q 3 := by show [u 0, u 1, u 2] = [q 0, q 1, q 2]; rw [h, h1, h2]
theorem dgt_pk {m n : Nat} {q : Nat → Nat} (hn : n ≤ 3) (hm : m ≤ 40) (hq : incL m 0 (pkl q n)) : dgt (pkl q n) < 262144 := by
  rcases three hn with rfl | rfl | rfl | rfl
  · show (0 : Nat) < 262144; decide
  · rw [d1]; rw [i1] at hq; omega
  · rw [d2]; rw [i2] at hq; omega
  · rw [d3]; rw [i3] at hq; omega
theorem pk_first {m n : Nat} {q : Nat → Nat} (hn : n ≤ 3) (hq : ∀ i, i < n → q i = i) : (n ≤ m → incL m 0 (pkl q n)) ∧ ∀ u, incL m 0 (pkl u n) → n ≤ m ∧ dgt (pkl q n) ≤ dgt (pkl u n) := by
  rcases three hn with rfl | rfl | rfl | rfl
  · exact ⟨fun _ => trivial, fun u _ => ⟨Nat.zero_le _, Nat.le_refl _⟩⟩
  · have h0 := hq 0 (by decide)
    refine ⟨fun h => i1.mpr (by omega), fun u hu => ?_⟩
    rw [i1] at hu
    rw [d1, d1]
    omega
  · have h0 := hq 0 (by decide)
    have h1 := hq 1 (by decide)
    refine ⟨fun h => i2.mpr (by omega), fun u hu => ?_⟩
    rw [i2] at hu
    rw [d2, d2]
    omega
  · have h0 := hq 0 (by decide)
    have h1 := hq 1 (by decide)
    have h2 := hq 2 (by decide)
    refine ⟨fun h => i3.mpr (by omega), fun u hu => ?_⟩
    rw [i3] at hu
    rw [d3, d3]
    omega
theorem pk_last {m n : Nat} {q : Nat → Nat} (hn : n ≤ 3) (hm : m ≤ 40) (hq : incL m 0 (pkl q n)) (hx : ∀ k, k < n → m + k ≤ q k + n) {u : Nat → Nat} (hu : incL m 0 (pkl u n)) : dgt (pkl u n) < dgt (pkl q n) ∨ pkl u n = pkl q n := by
  rcases three hn with rfl | rfl | rfl | rfl
  · exact Or.inr rfl
  · have h0 := hx 0 (by decide)
    rw [i1] at hu hq
    by_cases c : u 0 = q 0
    · exact Or.inr (eqp1 c)
    · left; rw [d1, d1]; omega
  · have h0 := hx 0 (by decide)
    have h1 := hx 1 (by decide)
    rw [i2] at hu hq
    by_cases c : u 0 = q 0 ∧ u 1 = q 1
    · exact Or.inr (eqp2 c.1 c.2)
    · left; rw [d2, d2]; rcases Nat.lt_trichotomy (u 0) (q 0) with a | a | a <;> omega
  · have h0 := hx 0 (by decide)
    have h1 := hx 1 (by decide)
    have h2 := hx 2 (by decide)
    rw [i3] at hu hq
    by_cases c : u 0 = q 0 ∧ u 1 = q 1 ∧ u 2 = q 2
    · exact Or.inr (eqp3 c.1 c.2.1 c.2.2)
    · left; rw [d3, d3]; rcases Nat.lt_trichotomy (u 0) (q 0) with a | a | a <;> rcases Nat.lt_trichotomy (u 1) (q 1) with b | b | b <;> omega
theorem nxq_lo {q : Nat → Nat} {v i : Nat} (h : i < v) : nxq q v i = q i := if_pos h
theorem nxq_hi {q : Nat → Nat} {v i : Nat} (h : ¬ i < v) : nxq q v i = q v + 1 + (i - v) := if_neg h
theorem pk_next {m n v : Nat} {q : Nat → Nat} (hn : n ≤ 3) (hm : m ≤ 40) (hq : incL m 0 (pkl q n)) (hv : v < n) (hlo : q v + n < m + v) (hx : ∀ k, v < k → k < n → m + k ≤ q k + n) : incL m 0 (pkl (nxq q v) n) ∧ dgt (pkl q n) < dgt (pkl (nxq q v) n) ∧ ∀ u, incL m 0 (pkl u n) → dgt (pkl u n) < dgt (pkl (nxq q v) n) → dgt (pkl u n) < dgt (pkl q n) ∨ pkl u n = pkl q n := by
  rcases three hn with rfl | rfl | rfl | rfl
  · exact absurd hv (Nat.not_lt_zero _)
  · obtain rfl : v = 0 := by omega
    have e0 := nxq_hi (q := q) (v := 0) (i := 0) (by decide)
    rw [i1] at hq
    refine ⟨i1.mpr (by omega), by rw [d1, d1]; omega, fun u hu h => ?_⟩
    rw [i1] at hu
    rw [d1, d1] at h
    by_cases c : u 0 = q 0
    · exact Or.inr (eqp1 c)
    · left; rw [d1, d1]; omega
  · rw [i2] at hq
    rcases (show v = 0 ∨ v = 1 by omega) with rfl | rfl
    · have e0 := nxq_hi (q := q) (v := 0) (i := 0) (by decide)
      have e1 := nxq_hi (q := q) (v := 0) (i := 1) (by decide)
      have h1 := hx 1 (by decide) (by decide)
      refine ⟨i2.mpr (by omega), by rw [d2, d2]; omega, fun u hu h => ?_⟩
      rw [i2] at hu
      rw [d2, d2] at h
      by_cases c : u 0 = q 0 ∧ u 1 = q 1
      · exact Or.inr (eqp2 c.1 c.2)
      · left; rw [d2, d2]; rcases Nat.lt_trichotomy (u 0) (q 0) with a | a | a <;> omega
    · have e0 := nxq_lo (q := q) (v := 1) (i := 0) (by decide)
      have e1 := nxq_hi (q := q) (v := 1) (i := 1) (by decide)
      refine ⟨i2.mpr (by omega), by rw [d2, d2]; omega, fun u hu h => ?_⟩
      rw [i2] at hu
      rw [d2, d2] at h
      by_cases c : u 0 = q 0 ∧ u 1 = q 1
      · exact Or.inr (eqp2 c.1 c.2)
      · left; rw [d2, d2]; rcases Nat.lt_trichotomy (u 0) (q 0) with a | a | a <;> omega
  · rw [i3] at hq
    rcases (show v = 0 ∨ v = 1 ∨ v = 2 by omega) with rfl | rfl | rfl
    · have e0 := nxq_hi (q := q) (v := 0) (i := 0) (by decide)
      have e1 := nxq_hi (q := q) (v := 0) (i := 1) (by decide)
      have e2 := nxq_hi (q := q) (v := 0) (i := 2) (by decide)
      have h1 := hx 1 (by decide) (by decide)
      have h2 := hx 2 (by decide) (by decide)
      refine ⟨i3.mpr (by omega), by rw [d3, d3]; omega, fun u hu h => ?_⟩
      rw [i3] at hu
      rw [d3, d3] at h
      by_cases c : u 0 = q 0 ∧ u 1 = q 1 ∧ u 2 = q 2
      · exact Or.inr (eqp3 c.1 c.2.1 c.2.2)
      · left; rw [d3, d3]; rcases Nat.lt_trichotomy (u 0) (q 0) with a | a | a <;> rcases Nat.lt_trichotomy (u 1) (q 1) with b | b | b <;> omega
    · have e0 := nxq_lo (q := q) (v := 1) (i := 0) (by decide)
      have e1 := nxq_hi (q := q) (v := 1) (i := 1) (by decide)
      have e2 := nxq_hi (q := q) (v := 1) (i := 2) (by decide)
      have h2 := hx 2 (by decide) (by decide)
      refine ⟨i3.mpr (by omega), by rw [d3, d3]; omega, fun u hu h => ?_⟩
      rw [i3] at hu
      rw [d3, d3] at h
      by_cases c : u 0 = q 0 ∧ u 1 = q 1 ∧ u 2 = q 2
      · exact Or.inr (eqp3 c.1 c.2.1 c.2.2)
      · left; rw [d3, d3]; rcases Nat.lt_trichotomy (u 0) (q 0) with a | a | a <;> rcases Nat.lt_trichotomy (u 1) (q 1) with b | b | b <;> omega
    · have e0 := nxq_lo (q := q) (v := 2) (i := 0) (by decide)
      have e1 := nxq_lo (q := q) (v := 2) (i := 1) (by decide)
      have e2 := nxq_hi (q := q) (v := 2) (i := 2) (by decide)
      refine ⟨i3.mpr (by omega), by rw [d3, d3]; omega, fun u hu h => ?_⟩
      rw [i3] at hu
      rw [d3, d3] at h
      by_cases c : u 0 = q 0 ∧ u 1 = q 1 ∧ u 2 = q 2
      · exact Or.inr (eqp3 c.1 c.2.1 c.2.2)
      · left; rw [d3, d3]; rcases Nat.lt_trichotomy (u 0) (q 0) with a | a | a <;> rcases Nat.lt_trichotomy (u 1) (q 1) with b | b | b <;> omega
/-- rows of places in their order are rows of cells in theirs -/
theorem dgt_cl {m n : Nat} {cl : Nat → Nat} (hn : n ≤ 3) (hm : m ≤ 40) (hcl : ∀ i j, i < j → j < m → cl i < cl j) (h64 : ∀ i, i < m → cl i < 64) {t u : Nat → Nat} (ht : incL m 0 (pkl t n)) (hu : incL m 0 (pkl u n)) (h : dgt (pkl t n) ≤ dgt (pkl u n)) : dgt ((pkl t n).map cl) ≤ dgt ((pkl u n).map cl) := by
  have mp : ∀ (a : Nat → Nat) (k : Nat), (pkl a k).map cl = pkl (fun i => cl (a i)) k := fun a k => by unfold pkl; rw [List.map_map]; rfl
  have cs : ∀ a b, a < m → b < m → (a = b ∧ cl a = cl b) ∨ (a < b ∧ cl a < cl b) ∨ (b < a ∧ cl b < cl a) := by
    intro a b ha hb
    by_cases e : a = b
    · exact Or.inl ⟨e, by rw [e]⟩
    · by_cases c : a < b
      · exact Or.inr (Or.inl ⟨c, hcl a b c hb⟩)
      · exact Or.inr (Or.inr ⟨by omega, hcl b a (by omega) ha⟩)
  rw [mp, mp]
  rcases three hn with rfl | rfl | rfl | rfl
  · exact Nat.le_refl _
  · rw [i1] at ht hu
    rw [d1, d1] at h ⊢
    have c0 := cs (t 0) (u 0) ht hu
    show cl (t 0) ≤ cl (u 0)
    omega
  · rw [i2] at ht hu
    rw [d2, d2] at h ⊢
    have c0 := cs (t 0) (u 0) (by omega) (by omega)
    have c1 := cs (t 1) (u 1) (by omega) (by omega)
    have b0 := h64 (t 1) (by omega)
    show 64 * cl (t 0) + cl (t 1) ≤ 64 * cl (u 0) + cl (u 1)
    omega
  · rw [i3] at ht hu
    rw [d3, d3] at h ⊢
    have c0 := cs (t 0) (u 0) (by omega) (by omega)
    have c1 := cs (t 1) (u 1) (by omega) (by omega)
    have c2 := cs (t 2) (u 2) (by omega) (by omega)
    have b1 := h64 (t 1) (by omega)
    have b2 := h64 (t 2) (by omega)
    show 4096 * cl (t 0) + 64 * cl (t 1) + cl (t 2) ≤ 4096 * cl (u 0) + 64 * cl (u 1) + cl (u 2)
    omega
/-- the places picked, in their row -/
def PKS (E : Mm) (m n : Nat) (q : Nat → Nat) : Prop := (∀ i, i < n → E 65 i = (q i : Int)) ∧ incL m 0 (pkl q n)
/-- no row ahead of this one keeps the beams up -/
def FLN (P : SP) (L : LW) (T : LN) (d w r m : Nat) (cl : Nat → Nat) (n c : Nat) : Prop := ∀ u, incL m 0 (pkl u n) → dgt (pkl u n) < c → ¬ FGd P L T d w r ((pkl u n).map cl)
def FLS (E : Mm) (P : SP) (L : LW) (T : LN) (d w r m : Nat) (cl : Nat → Nat) (n : Nat) (b : Int) (tr : Nat) : Prop :=
  (b = 1 ∧ ∃ q, PKS E m n q ∧ tr ≤ dgt (pkl q n) ∧ FLN P L T d w r m cl n (dgt (pkl q n))) ∨ (b = 0 ∧ ∀ u, incL m 0 (pkl u n) → ¬ FGd P L T d w r ((pkl u n).map cl))
/-- what pickFirst leaves -/
theorem FLS.first {E : Mm} {P : SP} {L : LW} {T : LN} {d w r m : Nat} {cl : Nat → Nat} {n : Nat} (hn : n ≤ 3) (h : ∀ i, i < n → E 65 i = (i : Int)) : FLS E P L T d w r m cl n (if n ≤ m then 1 else 0) 0 := by
  have k := pk_first (m := m) (q := fun i => i) hn (fun _ _ => rfl)
  by_cases c : n ≤ m
  · rw [if_pos c]
    exact Or.inl ⟨rfl, fun i => i, ⟨h, k.1 c⟩, Nat.zero_le _, fun u hu hd => absurd (k.2 u hu).2 (by omega)⟩
  · rw [if_neg c]
    exact Or.inr ⟨rfl, fun u hu => absurd (k.2 u hu).1 c⟩
/-- what pickNext answers and leaves -/
def PKN (E E1 : Mm) (m n : Nat) (q : Nat → Nat) (b : Int) : Prop := (∀ a, a ≠ 65 → E1 a = E a) ∧ ((b = 0 ∧ ∀ k, k < n → m + k ≤ q k + n) ∨ (b = 1 ∧ ∃ v, v < n ∧ q v + n < m + v ∧ (∀ k, v < k → k < n → m + k ≤ q k + n) ∧ ∀ i, i < n → E1 65 i = (nxq q v i : Int)))
theorem FLS.next {E E1 : Mm} {P : SP} {L : LW} {T : LN} {d w r m : Nat} {cl : Nat → Nat} {n tr : Nat} {q : Nat → Nat} {b : Int} (hn : n ≤ 3) (hm : m ≤ 40) (hp : PKS E m n q) (ht : tr ≤ dgt (pkl q n)) (hno : FLN P L T d w r m cl n (dgt (pkl q n))) (hg : ¬ FGd P L T d w r ((pkl q n).map cl)) (h : PKN E E1 m n q b) : FLS E1 P L T d w r m cl n b (tr + 1) := by
  rcases h.2 with ⟨e, hx⟩ | ⟨e, v, h1, h2, h3, h4⟩
  · refine Or.inr ⟨e, fun u hu => ?_⟩
    rcases pk_last hn hm hp.2 hx hu with c | c
    · exact hno u hu c
    · rw [c]; exact hg
  · have k := pk_next hn hm hp.2 h1 h2 h3
    refine Or.inl ⟨e, nxq q v, ⟨h4, k.1⟩, by have := k.2.1; omega, fun u hu hd => ?_⟩
    rcases k.2.2 u hu hd with c | c
    · exact hno u hu c
    · rw [c]; exact hg
/-- what the search answers -/
def FLQ (P : SP) (L : LW) (T : LN) (d w r m : Nat) (cl : Nat → Nat) (n : Nat) (E1 : Mm) (v : Int) : Prop :=
  (v = 1 ∧ ∃ t, incL m 0 t ∧ t.length = n ∧ FGd P L T d w r (t.map cl) ∧ (∀ t', incL m 0 t' → t'.length = n → FGd P L T d w r (t'.map cl) → dgt (t.map cl) ≤ dgt (t'.map cl)) ∧ ∀ i, i < n → E1 65 i = (t.getD i 0 : Int)) ∨ (v = 0 ∧ ∀ t, incL m 0 t → t.length = n → ¬ FGd P L T d w r (t.map cl))
theorem FLQ.found {E E1 : Mm} {P : SP} {L : LW} {T : LN} {d w r m : Nat} {cl : Nat → Nat} {n : Nat} {q : Nat → Nat} (hn : n ≤ 3) (hm : m ≤ 40) (hcl : ∀ i j, i < j → j < m → cl i < cl j) (h64 : ∀ i, i < m → cl i < 64) (hp : PKS E m n q) (hno : FLN P L T d w r m cl n (dgt (pkl q n))) (hg : FGd P L T d w r ((pkl q n).map cl)) (he : E1 65 = E 65) : FLQ P L T d w r m cl n E1 1 :=
  Or.inl ⟨rfl, pkl q n, hp.2, pkl_len q n, hg, fun t' h1 h2 h3 => by
    obtain ⟨u, rfl⟩ := pkl_ex hn h2
    by_cases c : dgt (pkl u n) < dgt (pkl q n)
    · exact absurd h3 (hno u h1 c)
    · exact dgt_cl hn hm hcl h64 hp.2 h1 (by omega), fun i hi => by rw [he, hp.1 i hi, pkl_getD hi]⟩
theorem FLQ.none {E1 : Mm} {P : SP} {L : LW} {T : LN} {d w r m : Nat} {cl : Nat → Nat} {n : Nat} (hn : n ≤ 3) (h : ∀ u, incL m 0 (pkl u n) → ¬ FGd P L T d w r ((pkl u n).map cl)) : FLQ P L T d w r m cl n E1 0 :=
  Or.inr ⟨rfl, fun t h1 h2 => by
    obtain ⟨u, rfl⟩ := pkl_ex hn h2
    exact h u h1⟩
/-- the lamps told and those picked, put together -/
def ltN (v0 : Nat) (gr q : Nat → Nat) : Nat → Nat := itr (fun i v => v ||| gr (q i)) v0
theorem or50 {x y : Nat} (h : x < 1125899906842624) (h2 : y < 1099511627776) : x ||| y < 1125899906842624 := Nat.or_lt_two_pow (n := 50) h (Nat.lt_trans h2 (by decide))
theorem ltN_LM {base : Nat → Bool} {G : GP} {B : BM} {T : LN} {r n : Nat} {q cl : Nat → Nat} (hW : gW G ≤ 40) (hn : n ≤ 3) : ltN (mk base 50) (fun i => gdP G B T r (cl i)) q n = mk (LM base (gnP G B T r) ((pkl q n).map cl)) 50 := by
  rcases three hn with rfl | rfl | rfl | rfl
  · rfl
  · show mk (LM base (gnP G B T r) []) 50 ||| gdP G B T r (cl (q 0)) = _
    rw [LM_or hW]
    rfl
  · show (mk (LM base (gnP G B T r) []) 50 ||| gdP G B T r (cl (q 0))) ||| gdP G B T r (cl (q 1)) = _
    rw [LM_or hW, LM_or hW]
    rfl
  · show ((mk (LM base (gnP G B T r) []) 50 ||| gdP G B T r (cl (q 0))) ||| gdP G B T r (cl (q 1))) ||| gdP G B T r (cl (q 2)) = _
    rw [LM_or hW, LM_or hW, LM_or hW]
    rfl
theorem dgN_dgt {cl : Nat → Nat} : ∀ (t : List Nat), t.length ≤ 3 → dgN (fun i => cl (t.getD i 0)) t.length = dgt (t.map cl)
  | [], _ => rfl
  | [a], _ => by show 0 * 64 + cl a = 64 * 0 + cl a; omega
  | [a, b], _ => by show (0 * 64 + cl a) * 64 + cl b = 64 * (64 * 0 + cl a) + cl b; omega
  | [a, b, c], _ => by show ((0 * 64 + cl a) * 64 + cl b) * 64 + cl c = 64 * (64 * (64 * 0 + cl a) + cl b) + cl c; omega
  | a :: b :: c :: e :: r, h => absurd h (by show ¬ r.length + 1 + 1 + 1 + 1 ≤ 3; omega)
theorem getD_mem {t : List Nat} {i : Nat} (h : i < t.length) : t.getD i 0 ∈ t := by
  rw [List.getD_eq_getElem?_getD, List.getElem?_eq_getElem h]
  exact List.getElem_mem h
def GDl (P : SP) (L : LW) (T : LN) (d w : Nat) (lm : Nat → Bool) : Prop := GDp (setL (gNow P L d) lm) (sB P) T w
theorem LITr_of {E : Mm} {P : SP} {L : LW} {T : LN} {d w r m : Nat} {cl : Nat → Nat} {v v' : Int} (h : GI E (gdP (gNow P L d) (sB P) T r) m cl (sW P)) (hc : LITc m cl (sLc P) (gnP (gNow P L d) (sB P) T r) (GDl P L T d w) v v') : LITr (sW P) (sLc P) (gnP (gNow P L d) (sB P) T r) (GDl P L T d w) v v' := by
  refine LITc_r (fun i hi => (h.2.2.1 i hi).2.2.1) h.2.2.2.1 (fun x hx => ?_) hc
  rcases h.2.2.2.2 x hx with q | ⟨i, h1, h2, h3⟩
  · exact Or.inl (fun c => by unfold gnP; rw [q, Nat.zero_testBit])
  · exact Or.inr ⟨i, h1, h2, fun c => by unfold gnP; rw [h3]⟩
