/-! the law's text: a unit, products, sums -/
abbrev Lws : Type := TS × LW
def addW (L : LW) (w v : Int) : LW := if L.1 < 150 then (L.1 + 1, updf L.2.1 L.1 w, updf L.2.2 L.1 v) else L
abbrev tst (B : Nat → Int) (n : Nat) (t : TS) (c : Int) : Prop := t.2.2.1 = 0 ∧ isA B n (sk B n t.1) c c
/-- signs and what stands behind them, m of them at most -/
def lpW (B : Nat → Int) (n : Nat) (u : Lws → Lws) (c1 w1 c2 w2 : Int) : Nat → Lws → Lws
  | 0, s => s
  | m + 1, s => if tst B n s.1 c1 then lpW B n u c1 w1 c2 w2 m ((u (tsT B n s.1 c1, s.2)).1, addW (u (tsT B n s.1 c1, s.2)).2 w1 0) else if tst B n s.1 c2 then lpW B n u c1 w1 c2 w2 m ((u (tsT B n s.1 c2, s.2)).1, addW (u (tsT B n s.1 c2, s.2)).2 w2 0) else (goT B n s.1, s.2)
def prF (B : Nat → Int) (n : Nat) (u : Lws → Lws) (s : Lws) : Lws := lpW B n u 42 7 47 8 150 (u s)
def suF (B : Nat → Int) (n : Nat) (u : Lws → Lws) (s : Lws) : Lws := lpW B n (prF B n u) 43 5 45 6 150 (prF B n u s)
/-- in brackets; behind a word -/
def brF (B : Nat → Int) (n : Nat) (f : Lws → Lws) (s : Lws) : Lws := (tsT B n (f (tsT B n s.1 40, s.2)).1 41, (f (tsT B n s.1 40, s.2)).2)
def w1F (B : Nat → Int) (n : Nat) (f : Lws → Lws) (s : Lws) : Lws := f (tsT B n s.1 91, s.2)
def w2F (B : Nat → Int) (n : Nat) (f : Lws → Lws) (s : Lws) : Lws := f (tsT B n (w1F B n f s).1 44, (w1F B n f s).2)
def w3F (B : Nat → Int) (n : Nat) (f : Lws → Lws) (w : Int) (s : Lws) : Lws := (tsT B n (w2F B n f s).1 93, addW (w2F B n f s).2 w 0)
/-- a unit: z, where no bracket may be opened any more; f, what stands within one -/
noncomputable def unF (B : Nat → Int) (n : Nat) (z : Bool) (f : Lws → Lws) (s : Lws) : Lws :=
  if ¬ s.1.2.2.1 = 0 then s
  else if isA B n (sk B n s.1.1) 48 57 then (nuT B n s.1 0 999, addW s.2 0 ((nuV B n s.1 0 999 : Nat) : Int))
  else if isA B n (sk B n s.1.1) 40 40 then (if z = true then (flT (goT B n s.1) 3, s.2) else brF B n f s)
  else if woW B (twT B n s.1) = 11 then (flT (twT B n s.1) 1, addW s.2 11 0)
  else if 9 ≤ woW B (twT B n s.1) then (if z = true then (flT (twT B n s.1) 3, s.2) else w3F B n f (woW B (twT B n s.1)) (twT B n s.1, s.2))
  else (twT B n s.1, addW s.2 (woW B (twT B n s.1)) 0)
noncomputable def unW (B : Nat → Int) (n : Nat) : Nat → Lws → Lws
  | 0 => unF B n true id
  | k + 1 => unF B n false (suF B n (unW B n k))
/-- the whole text of a law -/
noncomputable def lawS (B : Nat → Int) (n : Nat) : Lws := suF B n (unW B n 6) ((0, 0, 0, -1), (0, fun _ => 0, fun _ => 0))
noncomputable def lawT (B : Nat → Int) (n : Nat) : TS := if goB B n (lawS B n).1 then flT (goT B n (lawS B n).1) 1 else goT B n (lawS B n).1
theorem lpW_y1 {B : Nat → Int} {n m : Nat} {u : Lws → Lws} {c1 w1 c2 w2 : Int} {s : Lws} (h : tst B n s.1 c1) : lpW B n u c1 w1 c2 w2 (m + 1) s = lpW B n u c1 w1 c2 w2 m ((u (tsT B n s.1 c1, s.2)).1, addW (u (tsT B n s.1 c1, s.2)).2 w1 0) := if_pos h
theorem lpW_y2 {B : Nat → Int} {n m : Nat} {u : Lws → Lws} {c1 w1 c2 w2 : Int} {s : Lws} (h : ¬ tst B n s.1 c1) (h2 : tst B n s.1 c2) : lpW B n u c1 w1 c2 w2 (m + 1) s = lpW B n u c1 w1 c2 w2 m ((u (tsT B n s.1 c2, s.2)).1, addW (u (tsT B n s.1 c2, s.2)).2 w2 0) := (if_neg h).trans (if_pos h2)
theorem lpW_no {B : Nat → Int} {n m : Nat} {u : Lws → Lws} {c1 w1 c2 w2 : Int} {s : Lws} (h : ¬ tst B n s.1 c1) (h2 : ¬ tst B n s.1 c2) : lpW B n u c1 w1 c2 w2 (m + 1) s = (goT B n s.1, s.2) := (if_neg h).trans (if_neg h2)
section
variable {B : Nat → Int} {n : Nat} {t : TS}
theorem skT_sk : skT B n (skT B n t) = skT B n t := by unfold skT; rw [sk_sk]
theorem goT_go : goT B n (goT B n t) = goT B n t := by
  unfold goT
  by_cases h : t.2.2.1 = 0
  · rw [if_pos h, if_pos (show (skT B n t).2.2.1 = 0 from h), skT_sk]
  · rw [if_neg h, if_neg h]
theorem goT_1 (h : t.2.2.1 = 0) : sk B n (goT B n t).1 = sk B n t.1 := by
  unfold goT
  rw [if_pos h]
  exact sk_sk B n t.1
theorem tst_go {c : Int} : tst B n (goT B n t) c ↔ tst B n t c := by
  unfold tst
  rw [go_fk]
  constructor
  · rintro ⟨h1, h2⟩; rw [goT_1 h1] at h2; exact ⟨h1, h2⟩
  · rintro ⟨h1, h2⟩; rw [goT_1 h1]; exact ⟨h1, h2⟩
theorem tsT_go {c : Int} : tsT B n (goT B n t) c = tsT B n t c := by
  unfold tsT
  rw [go_fk]
  by_cases h : t.2.2.1 = 0
  · rw [if_pos h, if_pos h, goT_1 h]
    have e : skT B n (goT B n t) = skT B n t := by unfold goT; rw [if_pos h, skT_sk]
    rw [e]
  · rw [if_neg h, if_neg h]
    unfold goT
    rw [if_neg h]
theorem twT_go : twT B n (goT B n t) = twT B n t := by
  unfold twT
  rw [go_fk]
  by_cases h : t.2.2.1 = 0
  · rw [if_pos h, if_pos h, goT_1 h]
  · rw [if_neg h, if_neg h]
    unfold goT
    rw [if_neg h]
theorem takeT_go {lo hi : Int} (h : t.2.2.1 = 0) : takeT B n (goT B n t) lo hi = takeT B n t lo hi := by
  unfold takeT
  rw [go_fk, if_pos h, if_pos h, goT_1 h]
theorem nuT_go {lo hi : Int} (h : t.2.2.1 = 0) : nuT B n (goT B n t) lo hi = nuT B n t lo hi ∧ nuV B n (goT B n t) lo hi = nuV B n t lo hi := by
  unfold nuT nuV
  rw [takeT_go h]
  exact ⟨rfl, rfl⟩
end
theorem addW_le {L : LW} {w v : Int} (h : L.1 ≤ 150) : (addW L w v).1 ≤ 150 := by
  unfold addW
  split
  · show L.1 + 1 ≤ 150; omega
  · exact h
/-- a law that has grown: the same at first, behind it steps that can be worked out, d numbers more in the end -/
def EX (L L' : LW) (d : Nat) : Prop := L.1 ≤ L'.1 ∧ (∀ i, i < L.1 → L'.2.1 i = L.2.1 i) ∧ (∀ i, L.1 ≤ i → i < L'.1 → (0 ≤ L'.2.1 i ∧ L'.2.1 i ≤ 10) ∧ (5 ≤ L'.2.1 i → 2 ≤ hgt L' i)) ∧ hgt L' L'.1 = hgt L L.1 + d
theorem hgt_congr {L L' : LW} : ∀ {i : Nat}, (∀ j, j < i → L'.2.1 j = L.2.1 j) → hgt L' i = hgt L i
  | 0, _ => rfl
  | i + 1, h => by rw [hgt_s, hgt_s, hgt_congr (i := i) (fun j hj => h j (by omega)), h i (by omega)]
theorem EX.rf {L : LW} : EX L L 0 := ⟨Nat.le_refl _, fun _ _ => rfl, fun i h1 h2 => by omega, rfl⟩
theorem EX.tr {L L1 L2 : LW} {a b : Nat} (h : EX L L1 a) (h2 : EX L1 L2 b) : EX L L2 (a + b) := by
  obtain ⟨p1, p2, p3, p4⟩ := h
  obtain ⟨q1, q2, q3, q4⟩ := h2
  refine ⟨Nat.le_trans p1 q1, fun i hi => (q2 i (by omega)).trans (p2 i hi), fun i h1 h2 => ?_, by rw [q4, p4]; omega⟩
  by_cases c : i < L1.1
  · have := p3 i h1 c
    rw [q2 i c, hgt_congr (fun j hj => q2 j (by omega))]
    exact this
  · exact q3 i (by omega) h2
theorem EX.num {L : LW} {w v : Int} (hL : L.1 < 150) (hw : 0 ≤ w ∧ w < 5) : EX L (addW L w v) 1 := by
  have e : addW L w v = (L.1 + 1, updf L.2.1 L.1 w, updf L.2.2 L.1 v) := if_pos hL
  have ho : ∀ i, i < L.1 → (addW L w v).2.1 i = L.2.1 i := fun i hi => by rw [e]; exact updf_o (by omega)
  have hs : (addW L w v).2.1 L.1 = w := by rw [e]; exact updf_s _ _ _
  have h1 : (addW L w v).1 = L.1 + 1 := by rw [e]
  have hh : hgt (addW L w v) L.1 = hgt L L.1 := hgt_congr ho
  refine ⟨by omega, ho, fun i a b => ?_, ?_⟩
  · have : i = L.1 := by omega
    subst this
    rw [hs]
    exact ⟨by omega, fun q => by omega⟩
  · rw [h1, hgt_s, hs, if_neg (by omega), hh]
theorem EX.op {L : LW} {w v : Int} (hL : L.1 < 150) (hw : 5 ≤ w ∧ w ≤ 10) (h2 : 2 ≤ hgt L L.1) : (addW L w v).1 = L.1 + 1 ∧ (∀ i, i < L.1 → (addW L w v).2.1 i = L.2.1 i) ∧ (∀ i, L.1 ≤ i → i < (addW L w v).1 → (0 ≤ (addW L w v).2.1 i ∧ (addW L w v).2.1 i ≤ 10) ∧ (5 ≤ (addW L w v).2.1 i → 2 ≤ hgt (addW L w v) i)) ∧ hgt (addW L w v) (addW L w v).1 = hgt L L.1 - 1 := by
  have e : addW L w v = (L.1 + 1, updf L.2.1 L.1 w, updf L.2.2 L.1 v) := if_pos hL
  have ho : ∀ i, i < L.1 → (addW L w v).2.1 i = L.2.1 i := fun i hi => by rw [e]; exact updf_o (by omega)
  have hs : (addW L w v).2.1 L.1 = w := by rw [e]; exact updf_s _ _ _
  have h1 : (addW L w v).1 = L.1 + 1 := by rw [e]
  have hh : hgt (addW L w v) L.1 = hgt L L.1 := hgt_congr ho
  refine ⟨h1, ho, fun i a b => ?_, ?_⟩
  · have : i = L.1 := by omega
    subst this
    rw [hs, hh]
    exact ⟨by omega, fun _ => h2⟩
  · rw [h1, hgt_s, hs, if_pos (by omega), hh]
/-- two numbers and a sign behind them make one -/
theorem EX.bin {L L1 : LW} {w v : Int} {d : Nat} (h : EX L L1 (d + 2)) (hL : L1.1 < 150) (hw : 5 ≤ w ∧ w ≤ 10) : EX L (addW L1 w v) (d + 1) := by
  obtain ⟨p1, p2, p3, p4⟩ := h
  obtain ⟨q1, q2, q3, q4⟩ := EX.op (v := v) hL hw (by omega)
  refine ⟨by omega, fun i hi => (q2 i (by omega)).trans (p2 i hi), fun i a b => ?_, by rw [q4, p4]; omega⟩
  by_cases c : i < L1.1
  · have := p3 i a c
    rw [q2 i c, hgt_congr (fun j hj => q2 j (by omega))]
    exact this
  · exact q3 i (by omega) b
abbrev OKt (n : Nat) (t : TS) : Prop := t.2.1 ≤ t.1 ∧ t.1 ≤ n
/-- what a reader of one number promises: without a fault it has gone on, said no more steps than it took bytes, one number more -/
def GW (n : Nat) (f : Lws → Lws) : Prop := ∀ s : Lws, OKt n s.1 → (OKt n (f s).1) ∧ ((f s).1.2.2.1 = 0 → s.1.2.2.1 = 0) ∧ (s.2.1 ≤ s.1.1 → (f s).1.2.2.1 = 0 → s.1.1 < (f s).1.1 ∧ (f s).2.1 + s.1.1 ≤ s.2.1 + (f s).1.1 ∧ EX s.2 (f s).2 1)
def FKs (f : Lws → Lws) : Prop := ∀ s : Lws, FK s.1 → FK (f s).1
theorem lpW_GW {B : Nat → Int} {n : Nat} (hn : n ≤ 150) {u : Lws → Lws} (hu : GW n u) {c1 w1 c2 w2 : Int} (hw1 : 5 ≤ w1 ∧ w1 ≤ 10) (hw2 : 5 ≤ w2 ∧ w2 ≤ 10) : ∀ (m : Nat) (s : Lws), OKt n s.1 → OKt n (lpW B n u c1 w1 c2 w2 m s).1 ∧ ((lpW B n u c1 w1 c2 w2 m s).1.2.2.1 = 0 → s.1.2.2.1 = 0) ∧ (∀ L : LW, ∀ d : Nat, EX L s.2 (d + 1) → s.2.1 ≤ s.1.1 → (lpW B n u c1 w1 c2 w2 m s).1.2.2.1 = 0 → s.1.1 ≤ (lpW B n u c1 w1 c2 w2 m s).1.1 ∧ (lpW B n u c1 w1 c2 w2 m s).2.1 + s.1.1 ≤ s.2.1 + (lpW B n u c1 w1 c2 w2 m s).1.1 ∧ EX L (lpW B n u c1 w1 c2 w2 m s).2 (d + 1))
  | 0, s, h => ⟨h, fun q => q, fun L d e hl _ => ⟨Nat.le_refl _, by show s.2.1 + s.1.1 ≤ s.2.1 + s.1.1; omega, e⟩⟩
  | m + 1, s, h => by
    have key : ∀ (c w : Int), 5 ≤ w ∧ w ≤ 10 → tst B n s.1 c → OKt n (lpW B n u c1 w1 c2 w2 m ((u (tsT B n s.1 c, s.2)).1, addW (u (tsT B n s.1 c, s.2)).2 w 0)).1 ∧ ((lpW B n u c1 w1 c2 w2 m ((u (tsT B n s.1 c, s.2)).1, addW (u (tsT B n s.1 c, s.2)).2 w 0)).1.2.2.1 = 0 → s.1.2.2.1 = 0) ∧ (∀ L : LW, ∀ d : Nat, EX L s.2 (d + 1) → s.2.1 ≤ s.1.1 → (lpW B n u c1 w1 c2 w2 m ((u (tsT B n s.1 c, s.2)).1, addW (u (tsT B n s.1 c, s.2)).2 w 0)).1.2.2.1 = 0 → s.1.1 ≤ (lpW B n u c1 w1 c2 w2 m ((u (tsT B n s.1 c, s.2)).1, addW (u (tsT B n s.1 c, s.2)).2 w 0)).1.1 ∧ (lpW B n u c1 w1 c2 w2 m ((u (tsT B n s.1 c, s.2)).1, addW (u (tsT B n s.1 c, s.2)).2 w 0)).2.1 + s.1.1 ≤ s.2.1 + (lpW B n u c1 w1 c2 w2 m ((u (tsT B n s.1 c, s.2)).1, addW (u (tsT B n s.1 c, s.2)).2 w 0)).1.1 ∧ EX L (lpW B n u c1 w1 c2 w2 m ((u (tsT B n s.1 c, s.2)).1, addW (u (tsT B n s.1 c, s.2)).2 w 0)).2 (d + 1)) := by
      intro c w hw hc
      have hts : OKt n (tsT B n s.1 c) := tsT_ok h
      obtain ⟨u1, u2, u3⟩ := hu (tsT B n s.1 c, s.2) hts
      obtain ⟨l1, l2, l3⟩ := lpW_GW hn hu (c1 := c1) (c2 := c2) hw1 hw2 m ((u (tsT B n s.1 c, s.2)).1, addW (u (tsT B n s.1 c, s.2)).2 w 0) u1
      refine ⟨l1, fun q => (ts_ok (u2 (l2 q))).1, fun L d e hl q => ?_⟩
      have q1 := l2 q
      have q2 := u2 q1
      have q3 := ts_ok q2
      have hsk := sk_in B h.2
      obtain ⟨g1, g2, g3⟩ := u3 (by show s.2.1 ≤ (tsT B n s.1 c).1; omega) q1
      have g1' : (tsT B n s.1 c).1 < (u (tsT B n s.1 c, s.2)).1.1 := g1
      have g2' : (u (tsT B n s.1 c, s.2)).2.1 + (tsT B n s.1 c).1 ≤ s.2.1 + (u (tsT B n s.1 c, s.2)).1.1 := g2
      have u12 := u1.2
      have hlt : (u (tsT B n s.1 c, s.2)).2.1 < 150 := by omega
      have e2 : EX L (addW (u (tsT B n s.1 c, s.2)).2 w 0) (d + 1) := EX.bin (d := d) (by have := e.tr g3; exact this) hlt hw
      have e3 : (addW (u (tsT B n s.1 c, s.2)).2 w 0).1 = (u (tsT B n s.1 c, s.2)).2.1 + 1 := by unfold addW; rw [if_pos hlt]
      obtain ⟨r1, r2, r3⟩ := l3 L d e2 (by show (addW (u (tsT B n s.1 c, s.2)).2 w 0).1 ≤ (u (tsT B n s.1 c, s.2)).1.1; omega) q
      have r1' : (u (tsT B n s.1 c, s.2)).1.1 ≤ _ := r1
      have r2' : _ + (u (tsT B n s.1 c, s.2)).1.1 ≤ (addW (u (tsT B n s.1 c, s.2)).2 w 0).1 + _ := r2
      exact ⟨by omega, by omega, r3⟩
    by_cases h1 : tst B n s.1 c1
    · rw [lpW_y1 h1]; exact key c1 w1 hw1 h1
    · by_cases h2 : tst B n s.1 c2
      · rw [lpW_y2 h1 h2]; exact key c2 w2 hw2 h2
      · rw [lpW_no h1 h2]
        have hg : OKt n (goT B n s.1) := goT_ok h
        have hle : s.1.2.2.1 = 0 → s.1.1 ≤ (goT B n s.1).1 := fun q => by unfold goT; rw [if_pos q]; exact (sk_in B h.2).1
        refine ⟨hg, fun q => by rw [go_fk] at q; exact q, fun L d e hl q => ?_⟩
        rw [go_fk] at q
        have := hle q
        exact ⟨this, by show s.2.1 + s.1.1 ≤ s.2.1 + (goT B n s.1).1; omega, e⟩
theorem lp_GW {B : Nat → Int} {n : Nat} (hn : n ≤ 150) {u : Lws → Lws} (hu : GW n u) {c1 w1 c2 w2 : Int} (hw1 : 5 ≤ w1 ∧ w1 ≤ 10) (hw2 : 5 ≤ w2 ∧ w2 ≤ 10) (m : Nat) : GW n (fun s => lpW B n u c1 w1 c2 w2 m (u s)) := by
  intro s h
  obtain ⟨u1, u2, u3⟩ := hu s h
  obtain ⟨l1, l2, l3⟩ := lpW_GW (B := B) hn hu (c1 := c1) (c2 := c2) hw1 hw2 m (u s) u1
  refine ⟨l1, fun q => u2 (l2 q), fun hl q => ?_⟩
  obtain ⟨g1, g2, g3⟩ := u3 hl (l2 q)
  obtain ⟨r1, r2, r3⟩ := l3 s.2 0 g3 (by omega) q
  exact ⟨Nat.lt_of_lt_of_le g1 r1, by show (lpW B n u c1 w1 c2 w2 m (u s)).2.1 + s.1.1 ≤ s.2.1 + (lpW B n u c1 w1 c2 w2 m (u s)).1.1; omega, r3⟩
theorem prF_GW {B : Nat → Int} {n : Nat} (hn : n ≤ 150) {u : Lws → Lws} (hu : GW n u) : GW n (prF B n u) := lp_GW hn hu (by decide) (by decide) 150
theorem suF_GW {B : Nat → Int} {n : Nat} (hn : n ≤ 150) {u : Lws → Lws} (hu : GW n u) : GW n (suF B n u) := lp_GW hn (prF_GW hn hu) (by decide) (by decide) 150
theorem woW_in (B : Nat → Int) (t : TS) : (1 ≤ woW B t ∧ woW B t ≤ 4) ∨ (9 ≤ woW B t ∧ woW B t ≤ 10) ∨ woW B t = 11 := by
  unfold woW
  repeat' split
  all_goals decide
/-- a word that is none is not known -/
theorem woW_len {B : Nat → Int} {t : TS} (h : ¬ woW B t = 11) : t.2.1 < t.1 := by
  by_cases c : t.1 = t.2.1
  · exfalso
    apply h
    have no : ∀ b : List Int, 0 < b.length → ¬ wdB B t b = true := fun b hb q => by
      have := (wdB_iff.mp q).1
      omega
    unfold woW
    rw [if_neg (no _ (by decide)), if_neg (no _ (by decide)), if_neg (no _ (by decide)), if_neg (no _ (by decide)), if_neg (no _ (by decide)), if_neg (no _ (by decide))]
  · by_cases d : t.2.1 < t.1
    · exact d
    · exfalso
      apply h
      have no : ∀ b : List Int, 0 < b.length → ¬ wdB B t b = true := fun b hb q => by
        have := (wdB_iff.mp q).1
        omega
      unfold woW
      rw [if_neg (no _ (by decide)), if_neg (no _ (by decide)), if_neg (no _ (by decide)), if_neg (no _ (by decide)), if_neg (no _ (by decide)), if_neg (no _ (by decide))]
theorem nuT_ok {B : Nat → Int} {n : Nat} {t : TS} {lo hi : Int} (h : OKt n t) : OKt n (nuT B n t lo hi) := takeT_ok h
theorem unF_GW {B : Nat → Int} {n : Nat} (hn : n ≤ 150) {z : Bool} {f : Lws → Lws} (hf : z = true ∨ GW n f) : GW n (unF B n z f) := by
  intro s h
  have hsk := sk_in B h.2
  have htw : OKt n (twT B n s.1) := twT_ok h
  unfold unF
  by_cases h0 : ¬ s.1.2.2.1 = 0
  · rw [if_pos h0]
    exact ⟨h, fun q => q, fun _ q => absurd q h0⟩
  rw [if_neg h0]
  have h0 : s.1.2.2.1 = 0 := Decidable.byContradiction h0
  have htw1 : (twT B n s.1).2.1 = sk B n s.1.1 := by unfold twT; rw [if_pos h0]
  by_cases h1 : isA B n (sk B n s.1.1) 48 57
  · rw [if_pos h1]
    refine ⟨nuT_ok h, fun _ => h0, fun hl q => ?_⟩
    have q1 := (nu_ok q).2.2
    have hk : (nuT B n s.1 0 999).1 ≤ n := (nuT_ok h).2
    have hlt : s.2.1 < 150 := by omega
    refine ⟨by show s.1.1 < (nuT B n s.1 0 999).1; omega, ?_, EX.num hlt (by decide)⟩
    show (addW s.2 0 ((nuV B n s.1 0 999 : Nat) : Int)).1 + s.1.1 ≤ s.2.1 + (nuT B n s.1 0 999).1
    unfold addW
    rw [if_pos hlt]
    show s.2.1 + 1 + s.1.1 ≤ s.2.1 + (nuT B n s.1 0 999).1
    omega
  rw [if_neg h1]
  by_cases h2 : isA B n (sk B n s.1.1) 40 40
  · rw [if_pos h2]
    by_cases hz : z = true
    · rw [if_pos hz]
      exact ⟨flT_ok (goT_ok h), fun q => absurd q (flT_fk (by decide)), fun _ q => absurd q (flT_fk (by decide))⟩
    · rw [if_neg hz]
      have hf := hf.resolve_left hz
      have ht1 : OKt n (tsT B n s.1 40) := tsT_ok h
      obtain ⟨u1, u2, u3⟩ := hf (tsT B n s.1 40, s.2) ht1
      refine ⟨tsT_ok u1, fun _ => h0, fun hl q => ?_⟩
      have q1 := ts_ok (show (tsT B n (f (tsT B n s.1 40, s.2)).1 41).2.2.1 = 0 from q)
      have q2 := ts_ok (u2 q1.1)
      have hk := sk_in B u1.2
      obtain ⟨g1, g2, g3⟩ := u3 (by show s.2.1 ≤ (tsT B n s.1 40).1; omega) q1.1
      have g1' : (tsT B n s.1 40).1 < (f (tsT B n s.1 40, s.2)).1.1 := g1
      have g2' : (f (tsT B n s.1 40, s.2)).2.1 + (tsT B n s.1 40).1 ≤ s.2.1 + (f (tsT B n s.1 40, s.2)).1.1 := g2
      refine ⟨?_, ?_, g3⟩
      · show s.1.1 < (tsT B n (f (tsT B n s.1 40, s.2)).1 41).1; omega
      · show (f (tsT B n s.1 40, s.2)).2.1 + s.1.1 ≤ s.2.1 + (tsT B n (f (tsT B n s.1 40, s.2)).1 41).1; omega
  rw [if_neg h2]
  by_cases h3 : woW B (twT B n s.1) = 11
  · rw [if_pos h3]
    exact ⟨flT_ok htw, fun q => absurd q (flT_fk (by decide)), fun _ q => absurd q (flT_fk (by decide))⟩
  rw [if_neg h3]
  have hlen := woW_len h3
  have hwi := woW_in B (twT B n s.1)
  have htn := htw.2
  by_cases h4 : 9 ≤ woW B (twT B n s.1)
  · rw [if_pos h4]
    by_cases hz : z = true
    · rw [if_pos hz]
      exact ⟨flT_ok htw, fun q => absurd q (flT_fk (by decide)), fun _ q => absurd q (flT_fk (by decide))⟩
    · rw [if_neg hz]
      have hf := hf.resolve_left hz
      have ht1 : OKt n (tsT B n (twT B n s.1) 91) := tsT_ok htw
      obtain ⟨u1, u2, u3⟩ := hf (tsT B n (twT B n s.1) 91, s.2) ht1
      have ht2 : OKt n (tsT B n (w1F B n f (twT B n s.1, s.2)).1 44) := tsT_ok u1
      obtain ⟨v1, v2, v3⟩ := hf (tsT B n (w1F B n f (twT B n s.1, s.2)).1 44, (w1F B n f (twT B n s.1, s.2)).2) ht2
      refine ⟨tsT_ok v1, fun _ => h0, fun hl q => ?_⟩
      have q1 := ts_ok (show (tsT B n (w2F B n f (twT B n s.1, s.2)).1 93).2.2.1 = 0 from q)
      have q2 := ts_ok (v2 q1.1)
      have q3 := ts_ok (u2 q2.1)
      have k1 := sk_in B v1.2
      have k2 := sk_in B u1.2
      have k3 := sk_in B htw.2
      obtain ⟨g1, g2, g3⟩ := u3 (by show s.2.1 ≤ (tsT B n (twT B n s.1) 91).1; omega) q2.1
      have g1' : (tsT B n (twT B n s.1) 91).1 < (w1F B n f (twT B n s.1, s.2)).1.1 := g1
      have g2' : (w1F B n f (twT B n s.1, s.2)).2.1 + (tsT B n (twT B n s.1) 91).1 ≤ s.2.1 + (w1F B n f (twT B n s.1, s.2)).1.1 := g2
      have k2' : (w1F B n f (twT B n s.1, s.2)).1.1 ≤ sk B n (w1F B n f (twT B n s.1, s.2)).1.1 := k2.1
      obtain ⟨e1, e2, e3⟩ := v3 (by show (w1F B n f (twT B n s.1, s.2)).2.1 ≤ (tsT B n (w1F B n f (twT B n s.1, s.2)).1 44).1; omega) q1.1
      have e1' : (tsT B n (w1F B n f (twT B n s.1, s.2)).1 44).1 < (w2F B n f (twT B n s.1, s.2)).1.1 := e1
      have e2' : (w2F B n f (twT B n s.1, s.2)).2.1 + (tsT B n (w1F B n f (twT B n s.1, s.2)).1 44).1 ≤ (w1F B n f (twT B n s.1, s.2)).2.1 + (w2F B n f (twT B n s.1, s.2)).1.1 := e2
      have k1' : (w2F B n f (twT B n s.1, s.2)).1.1 ≤ sk B n (w2F B n f (twT B n s.1, s.2)).1.1 ∧ sk B n (w2F B n f (twT B n s.1, s.2)).1.1 ≤ n := k1
      have hlt : (w2F B n f (twT B n s.1, s.2)).2.1 < 150 := by omega
      have hb : EX s.2 (addW (w2F B n f (twT B n s.1, s.2)).2 (woW B (twT B n s.1)) 0) (0 + 1) := EX.bin (d := 0) (by have := g3.tr e3; exact this) hlt (by omega)
      refine ⟨?_, ?_, hb⟩
      · show s.1.1 < (tsT B n (w2F B n f (twT B n s.1, s.2)).1 93).1; omega
      · show (addW (w2F B n f (twT B n s.1, s.2)).2 (woW B (twT B n s.1)) 0).1 + s.1.1 ≤ s.2.1 + (tsT B n (w2F B n f (twT B n s.1, s.2)).1 93).1
        unfold addW
        rw [if_pos hlt]
        show (w2F B n f (twT B n s.1, s.2)).2.1 + 1 + s.1.1 ≤ _
        omega
  rw [if_neg h4]
  refine ⟨htw, fun _ => h0, fun hl q => ?_⟩
  have hlt : s.2.1 < 150 := by omega
  refine ⟨by show s.1.1 < (twT B n s.1).1; omega, ?_, EX.num hlt (by omega)⟩
  show (addW s.2 (woW B (twT B n s.1)) 0).1 + s.1.1 ≤ s.2.1 + (twT B n s.1).1
  unfold addW
  rw [if_pos hlt]
  show s.2.1 + 1 + s.1.1 ≤ _
  omega
theorem unW_GW (B : Nat → Int) {n : Nat} (hn : n ≤ 150) : ∀ k, GW n (unW B n k)
  | 0 => unF_GW hn (Or.inl rfl)
  | k + 1 => unF_GW hn (Or.inr (suF_GW hn (unW_GW B hn k)))
theorem lpW_FK {B : Nat → Int} {n : Nat} {u : Lws → Lws} (hu : FKs u) {c1 w1 c2 w2 : Int} : ∀ (m : Nat) (s : Lws), FK s.1 → FK (lpW B n u c1 w1 c2 w2 m s).1
  | 0, s, h => h
  | m + 1, s, h => by
    by_cases h1 : tst B n s.1 c1
    · rw [lpW_y1 h1]; exact lpW_FK hu m _ (hu _ h.ts)
    · by_cases h2 : tst B n s.1 c2
      · rw [lpW_y2 h1 h2]; exact lpW_FK hu m _ (hu _ h.ts)
      · rw [lpW_no h1 h2]; exact h.go
theorem prF_FK {B : Nat → Int} {n : Nat} {u : Lws → Lws} (hu : FKs u) : FKs (prF B n u) := fun s h => lpW_FK hu 150 _ (hu s h)
theorem suF_FK {B : Nat → Int} {n : Nat} {u : Lws → Lws} (hu : FKs u) : FKs (suF B n u) := fun s h => lpW_FK (prF_FK hu) 150 _ (prF_FK hu s h)
theorem unF_FK {B : Nat → Int} {n : Nat} {z : Bool} {f : Lws → Lws} (hf : z = true ∨ FKs f) : FKs (unF B n z f) := by
  intro s h
  unfold unF
  split
  · exact h
  split
  · exact h.nu
  split
  · split
    · exact h.go.fl (by decide)
    · rename_i hz
      exact (hf.resolve_left hz _ h.ts).ts
  split
  · exact h.tw.fl (by decide)
  split
  · split
    · exact h.tw.fl (by decide)
    · rename_i hz
      exact ((hf.resolve_left hz) _ ((hf.resolve_left hz) _ h.tw.ts).ts).ts
  · exact h.tw
theorem unW_FK (B : Nat → Int) (n : Nat) : ∀ k, FKs (unW B n k)
  | 0 => unF_FK (Or.inl rfl)
  | k + 1 => unF_FK (Or.inr (suF_FK (unW_FK B n k)))
theorem lawT_FK (B : Nat → Int) (n : Nat) : FK (lawT B n) := by
  have h : FK (lawS B n).1 := suF_FK (unW_FK B n 6) _ (by decide : (0 : Int) ≤ 0 ∧ (0 : Int) ≤ 4)
  unfold lawT
  split
  · exact h.go.fl (by decide)
  · exact h.go
/-- a law without a fault can be worked out -/
theorem lawS_WL (B : Nat → Int) {n : Nat} (hn : n ≤ 150) (h : (lawT B n).2.2.1 = 0) : WL (lawS B n).2 ∧ (lawS B n).1.2.2.1 = 0 := by
  have hs : (lawS B n).1.2.2.1 = 0 := by
    unfold lawT at h
    split at h
    · exact absurd h (flT_fk (by decide))
    · rw [go_fk] at h; exact h
  obtain ⟨u1, u2, u3⟩ := suF_GW hn (unW_GW B hn 6) ((0, 0, 0, -1), (0, fun _ => 0, fun _ => 0)) ⟨Nat.le_refl _, Nat.zero_le _⟩
  obtain ⟨g1, g2, g3⟩ := u3 (Nat.le_refl _) hs
  have g2' : (lawS B n).2.1 + 0 ≤ 0 + (lawS B n).1.1 := g2
  have u12 : (lawS B n).1.1 ≤ n := u1.2
  obtain ⟨p1, p2, p3, p4⟩ := g3
  have p4' : hgt (lawS B n).2 (lawS B n).2.1 = 0 + 1 := p4
  refine ⟨⟨?_, by omega, fun i hi => p3 i (Nat.zero_le _) hi, by omega⟩, hs⟩
  by_cases c : (lawS B n).2.1 = 0
  · rw [c] at p4'
    exact absurd p4' (by show ¬ (0 : Nat) = 0 + 1; decide)
  · omega
