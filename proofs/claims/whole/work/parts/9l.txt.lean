/-! the texts, as both sides read them -/
def pt1 {α : Type} (f : Nat → α) (k : Nat) (x : α) : Nat → α := fun j => if j = k then x else f j
theorem pt1_s {α : Type} (f : Nat → α) (k : Nat) (x : α) : pt1 f k x k = x := if_pos rfl
theorem pt1_o {α : Type} {f : Nat → α} {k j : Nat} {x : α} (h : j ≠ k) : pt1 f k x j = f j := if_neg h
def setW (P : SP) (w : Nat) : SP := ((w, P.1.2), P.2)
def addPo (P : SP) (x h : Nat) : SP := ((sW P, sN P + 1, pt1 (sX P) (sN P) x, pt1 (sH P) (sN P) h), P.2)
def setSu (P : SP) (f w l : Nat) : SP := (P.1, (sDk P, pt1 (sSl P) f (l : Int), pt1 (sSw P) f (decide (w = 1))), P.2.2)
def setDk (P : SP) (d : Nat) : SP := (P.1, (d, P.2.1.2), P.2.2)
def addMo (P : SP) (b l n : Nat) : SP := (P.1, P.2.1, (sM P + 1, pt1 (sMb P) (sM P) b, pt1 (sMl P) (sM P) l, pt1 (sMn P) (sM P) n), P.2.2.2)
def addCl (P : SP) (f t : Nat) : SP := (P.1, P.2.1, P.2.2.1, (sCn P + 1, fun h => sC P h || (decide (f ≤ h) && decide (h ≤ t))), P.2.2.2.2)
def addLa (P : SP) (x r : Nat) : SP := (P.1, P.2.1, P.2.2.1, P.2.2.2.1, (sLn P + 1, fun c => sLc P c || (decide (c ≤ x + r) && decide (x ≤ c + r))), sB P)
def addB (B : BM) (x l m : Nat) : BM := (bN B + 1, pt1 (bX B) (bN B) x, pt1 (bL B) (bN B) l, pt1 (bH B) (bN B) m, pt1 (bD B) (bN B) (fun _ => 0))
def setB (P : SP) (B : BM) : SP := (P.1, P.2.1, P.2.2.1, P.2.2.2.1, P.2.2.2.2.1, B)
/-- an empty street -/
def P00 : SP := ((20, 0, fun _ => 0, fun _ => 0), (24, fun _ => -1, fun _ => false), (0, fun _ => 0, fun _ => 0, fun _ => 0), (0, fun _ => false), (0, fun _ => false), (0, fun _ => 0, fun _ => 0, fun _ => 0, fun _ _ => 0))
/-- a number that is read, and the tape behind it -/
def nuV (B : Nat → Int) (n : Nat) (t : TS) (lo hi : Int) : Nat := (takeT B n t lo hi).1.toNat
def nuT (B : Nat → Int) (n : Nat) (t : TS) (lo hi : Int) : TS := (takeT B n t lo hi).2
section
variable {B : Nat → Int} {n : Nat} {t : TS} {lo hi : Int}
theorem take_in (h0 : 0 ≤ lo) : lo ≤ (takeT B n t lo hi).1 ∧ ((takeT B n t lo hi).1 ≤ hi ∨ (takeT B n t lo hi).1 = lo) := by
  unfold takeT
  split
  · split
    · exact ⟨Int.le_refl _, Or.inr rfl⟩
    · split
      · rename_i h; exact ⟨h.1, Or.inl h.2⟩
      · exact ⟨Int.le_refl _, Or.inr rfl⟩
  · exact ⟨Int.le_refl _, Or.inr rfl⟩
theorem nu_cast (h0 : 0 ≤ lo) : (takeT B n t lo hi).1 = ((nuV B n t lo hi : Nat) : Int) := by
  have := (take_in (B := B) (n := n) (t := t) (hi := hi) h0).1
  unfold nuV
  omega
theorem nu_in (h0 : 0 ≤ lo) : lo ≤ ((nuV B n t lo hi : Nat) : Int) ∧ (((nuV B n t lo hi : Nat) : Int) ≤ hi ∨ ((nuV B n t lo hi : Nat) : Int) = lo) := by
  rw [← nu_cast h0]
  exact take_in h0
theorem flT_fk {k : Int} (hk : ¬ k = 0) : ¬ (flT t k).2.2.1 = 0 := by
  unfold flT
  split
  · exact hk
  · assumption
theorem flT_id {k : Int} (h : ¬ t.2.2.1 = 0) : flT t k = t := if_neg h
theorem nu_ok (h : (nuT B n t lo hi).2.2.1 = 0) : t.2.2.1 = 0 ∧ (0 ≤ lo → lo ≤ ((nuV B n t lo hi : Nat) : Int) ∧ ((nuV B n t lo hi : Nat) : Int) ≤ hi) ∧ sk B n t.1 < (nuT B n t lo hi).1 := by
  unfold nuT nuV takeT at *
  by_cases h0 : t.2.2.1 = 0
  · rw [if_pos h0] at *
    by_cases h1 : (nmE B n (sk B n t.1) 0).1 = sk B n t.1
    · rw [if_pos h1] at h
      exact absurd h (flT_fk (by decide))
    · rw [if_neg h1] at *
      by_cases h2 : lo ≤ (nmE B n (sk B n t.1) 0).2 ∧ (nmE B n (sk B n t.1) 0).2 ≤ hi
      · rw [if_pos h2] at *
        refine ⟨h0, fun hl => ?_, ?_⟩
        · show lo ≤ (((nmE B n (sk B n t.1) 0).2.toNat : Nat) : Int) ∧ (((nmE B n (sk B n t.1) 0).2.toNat : Nat) : Int) ≤ hi
          omega
        · show sk B n t.1 < (nmE B n (sk B n t.1) 0).1
          have key : ∀ (f a : Nat) (v : Int), n - a < f → a ≤ (nmE B n a v).1 := by
            intro f
            induction f with
            | zero => intro a v q; omega
            | succ f ih =>
              intro a v q
              by_cases c : isA B n a 48 57
              · rw [nm_y c]
                have := c.1
                have := ih (a + 1) (if v * 10 + B a - 48 ≤ 1000000 then v * 10 + B a - 48 else 1000000) (by omega)
                omega
              · rw [nm_n c]; exact Nat.le_refl _
          have := key (n - sk B n t.1 + 1) (sk B n t.1) 0 (by omega)
          omega
      · rw [if_neg h2] at h
        exact absurd h (flT_fk (by decide))
  · rw [if_neg h0] at h
    exact absurd h h0
theorem nu_bad (h : ¬ t.2.2.1 = 0) : nuT B n t lo hi = t := by
  unfold nuT takeT
  rw [if_neg h]
theorem nu_badV (h : ¬ t.2.2.1 = 0) : nuV B n t lo hi = lo.toNat := by
  unfold nuV takeT
  rw [if_neg h]
theorem ts_ok {x : Int} (h : (tsT B n t x).2.2.1 = 0) : t.2.2.1 = 0 ∧ isA B n (sk B n t.1) x x ∧ (tsT B n t x).1 = sk B n t.1 + 1 := by
  unfold tsT at *
  by_cases h0 : t.2.2.1 = 0
  · rw [if_pos h0] at *
    by_cases h1 : isA B n (sk B n t.1) x x
    · rw [if_pos h1] at *; exact ⟨h0, h1, rfl⟩
    · rw [if_neg h1] at h
      exact absurd h (flT_fk (by decide))
  · rw [if_neg h0] at h; exact absurd h h0
theorem ts_bad {x : Int} (h : ¬ t.2.2.1 = 0) : tsT B n t x = t := if_neg h
theorem tw_fk : (twT B n t).2.2 = t.2.2 := by
  unfold twT
  split <;> rfl
theorem go_fk : (goT B n t).2.2 = t.2.2 := by
  unfold goT
  split <;> rfl
theorem fl_ok {k : Int} (hk : ¬ k = 0) (h : (flT t k).2.2.1 = 0) : False := flT_fk hk h
/-- the fault's number is none or 1 to 4 -/
def FK (t : TS) : Prop := 0 ≤ t.2.2.1 ∧ t.2.2.1 ≤ 4
theorem FK.fl {k : Int} (h : FK t) (hk : 0 ≤ k ∧ k ≤ 4) : FK (flT t k) := by
  unfold flT
  split
  · exact hk
  · exact h
theorem FK.nu (h : FK t) : FK (nuT B n t lo hi) := by
  unfold nuT takeT
  split
  · split
    · exact FK.fl (t := ((nmE B n (sk B n t.1) 0).1, sk B n t.1, t.2.2)) h (by decide)
    · split
      · exact h
      · exact FK.fl (t := ((nmE B n (sk B n t.1) 0).1, sk B n t.1, t.2.2)) h (by decide)
  · exact h
theorem FK.ts {x : Int} (h : FK t) : FK (tsT B n t x) := by
  unfold tsT
  split
  · split
    · exact h
    · exact FK.fl (t := skT B n t) h (by decide)
  · exact h
theorem FK.tw (h : FK t) : FK (twT B n t) := by unfold FK; rw [tw_fk]; exact h
theorem FK.go (h : FK t) : FK (goT B n t) := by unfold FK; rw [go_fk]; exact h
end
/-- a clause's numbers -/
abbrev CLs : Type := TS × SP × Nat
noncomputable def poU (B : Nat → Int) (n : Nat) (t : TS) (P : SP) : TS := if hasP P (nuV B n t 0 (((sW P : Nat) : Int) - 1)) = true then flT (nuT B n t 0 (((sW P : Nat) : Int) - 1)) 2 else nuT B n t 0 (((sW P : Nat) : Int) - 1)
noncomputable def poC (B : Nat → Int) (n : Nat) (t : TS) (P : SP) : TS × SP := (nuT B n (poU B n t P) 1 99, addPo P (nuV B n t 0 (((sW P : Nat) : Int) - 1)) (nuV B n (poU B n t P) 1 99))
def suT1 (B : Nat → Int) (n : Nat) (t : TS) : TS := nuT B n t 0 23
def suC (B : Nat → Int) (n : Nat) (t : TS) (P : SP) : TS × SP := (nuT B n (nuT B n (nuT B n t 0 23) 0 1) 0 99, setSu P (nuV B n t 0 23) (nuV B n (nuT B n t 0 23) 0 1) (nuV B n (nuT B n (nuT B n t 0 23) 0 1) 0 99))
def moU (B : Nat → Int) (n : Nat) (t : TS) : TS := nuT B n (nuT B n t 1 60) 0 (((nuV B n t 1 60 : Nat) : Int) - 1)
def moC (B : Nat → Int) (n : Nat) (t : TS) (P : SP) : TS × SP := (nuT B n (moU B n t) 1 99, addMo P (nuV B n t 1 60) (nuV B n (nuT B n t 1 60) 0 (((nuV B n t 1 60 : Nat) : Int) - 1)) (nuV B n (moU B n t) 1 99))
def clC (B : Nat → Int) (n : Nat) (t : TS) (P : SP) : TS × SP := (nuT B n (nuT B n t 0 23) ((nuV B n t 0 23 : Nat) : Int) 23, addCl P (nuV B n t 0 23) (nuV B n (nuT B n t 0 23) ((nuV B n t 0 23 : Nat) : Int) 23))
def laC (B : Nat → Int) (n : Nat) (t : TS) (P : SP) : TS × SP := (nuT B n (nuT B n t 0 (((sW P : Nat) : Int) - 1)) 0 9, addLa P (nuV B n t 0 (((sW P : Nat) : Int) - 1)) (nuV B n (nuT B n t 0 (((sW P : Nat) : Int) - 1)) 0 9))
def beH (B : Nat → Int) (n : Nat) (t : TS) (P : SP) : Int := if 20 ≤ ((sW P : Nat) : Int) - ((nuV B n t 0 (((sW P : Nat) : Int) - 1) : Nat) : Int) then 20 else ((sW P : Nat) : Int) - ((nuV B n t 0 (((sW P : Nat) : Int) - 1) : Nat) : Int)
def beU (B : Nat → Int) (n : Nat) (t : TS) (P : SP) : TS := nuT B n (nuT B n t 0 (((sW P : Nat) : Int) - 1)) 2 (beH B n t P)
def beV (B : Nat → Int) (n : Nat) (t : TS) (P : SP) : Nat := nuV B n (nuT B n t 0 (((sW P : Nat) : Int) - 1)) 2 (beH B n t P)
def beC (B : Nat → Int) (n : Nat) (t : TS) (P : SP) : TS × SP := (nuT B n (beU B n t P) 1 9, setB P (addB (sB P) (nuV B n t 0 (((sW P : Nat) : Int) - 1)) (beV B n t P) (nuV B n (beU B n t P) 1 9)))
/-- loads: of which beam; behind it; the place, the load -/
def loV (B : Nat → Int) (n : Nat) (t : TS) (P : SP) : Nat := nuV B n t 0 (((bN (sB P) : Nat) : Int) - 1)
def loT (B : Nat → Int) (n : Nat) (t : TS) (P : SP) : TS := nuT B n t 0 (((bN (sB P) : Nat) : Int) - 1)
def loC (B : Nat → Int) (n : Nat) (t : TS) (P : SP) : TS × SP :=
  if (loT B n t P).2.2.1 = 0 then (nuT B n (nuT B n (loT B n t P) 0 (((bL (sB P) (loV B n t P) : Nat) : Int) - 1)) 0 99, setB P (setD (sB P) (loV B n t P) (nuV B n (loT B n t P) 0 (((bL (sB P) (loV B n t P) : Nat) : Int) - 1)) (nuV B n (nuT B n (loT B n t P) 0 (((bL (sB P) (loV B n t P) : Nat) : Int) - 1)) 0 99)))
  else (loT B n t P, P)
noncomputable def nbT (B : Nat → Int) (n : Nat) (kd : Int) (t : TS) (P : SP) (ns : Nat) : CLs :=
  if kd = 1 then (nuT B n t 4 40, setW P (nuV B n t 4 40), ns)
  else if kd = 2 then ((poC B n t P).1, (poC B n t P).2, ns)
  else if kd = 3 then ((suC B n t P).1, (suC B n t P).2, ns + 1)
  else if kd = 4 then (nuT B n t 1 24, setDk P (nuV B n t 1 24), ns)
  else if kd = 5 then ((moC B n t P).1, (moC B n t P).2, ns)
  else if kd = 6 then ((clC B n t P).1, (clC B n t P).2, ns)
  else if kd = 7 then ((laC B n t P).1, (laC B n t P).2, ns)
  else if kd = 8 then ((beC B n t P).1, (beC B n t P).2, ns)
  else ((loC B n t P).1, (loC B n t P).2, ns)
noncomputable def fuW (P : SP) (ns : Nat) (k : Int) : Bool := if k = 2 then decide (10 ≤ sN P) else if k = 3 then decide (12 ≤ ns) else if k = 5 then decide (3 ≤ sM P) else if k = 6 then decide (6 ≤ sCn P) else if k = 7 then decide (6 ≤ sLn P) else if k = 8 then decide (8 ≤ bN (sB P)) else false
/-- a clause's head -/
noncomputable def hdT (B : Nat → Int) (n k : Nat) (t : TS) (P : SP) (ns : Nat) : TS :=
  if kdW B (twT B n t) = 0 then flT (twT B n t) 1 else if 60 ≤ k ∨ fuW P ns (kdW B (twT B n t)) = true then flT (twT B n t) 3 else if kdW B (twT B n t) = 1 ∧ 0 < k then flT (twT B n t) 4 else twT B n t
/-- a clause, k of them ahead of it -/
noncomputable def clN (B : Nat → Int) (n k : Nat) (s : CLs) : CLs :=
  if (hdT B n k s.1 s.2.1 s.2.2).2.2.1 = 0 then (tsT B n (nbT B n (kdW B (twT B n s.1)) (hdT B n k s.1 s.2.1 s.2.2) s.2.1 s.2.2).1 59, (nbT B n (kdW B (twT B n s.1)) (hdT B n k s.1 s.2.1 s.2.2) s.2.1 s.2.2).2)
  else (hdT B n k s.1 s.2.1 s.2.2, s.2)
/-- whether the text goes on -/
abbrev goB (B : Nat → Int) (n : Nat) (t : TS) : Prop := t.2.2.1 = 0 ∧ sk B n t.1 < n
noncomputable def clS (B : Nat → Int) (n k : Nat) (s : CLs) : CLs := if goB B n s.1 then clN B n k (goT B n s.1, s.2) else s
/-- so many clauses -/
noncomputable def rdS (B : Nat → Int) (n : Nat) : Nat → CLs := itr (fun k s => clS B n k s) ((0, 0, 0, -1), P00, 0)
theorem rdS_s (B : Nat → Int) (n k : Nat) : rdS B n (k + 1) = clS B n k (rdS B n k) := rfl
theorem kdW_in (B : Nat → Int) (t : TS) : 0 ≤ kdW B t ∧ kdW B t ≤ 9 := by
  unfold kdW
  repeat' split
  all_goals decide
theorem hasP_no {P : SP} {c p : Nat} (h : ¬ hasP P c = true) (hp : p < sN P) : ¬ sX P p = c := fun q => h ((hasP_iff P c).mpr ⟨p, hp, q⟩)
theorem addPo_WS {P : SP} {x h : Nat} (hP : WS P) (hD : DX P) (hN : sN P < 10) (hx : x < sW P) (hh : 1 ≤ h ∧ h ≤ 99) (hn : ¬ hasP P x = true) : WS (addPo P x h) ∧ DX (addPo P x h) := by
  obtain ⟨h1, h2, h3, h4⟩ := hP
  refine ⟨⟨h1, hN, fun p hp => ?_, h4⟩, fun p q hp hq e => ?_⟩
  · have hp' : p < sN P + 1 := hp
    show pt1 (sX P) (sN P) x p < sW P ∧ 1 ≤ pt1 (sH P) (sN P) h p ∧ pt1 (sH P) (sN P) h p ≤ 99
    by_cases c : p = sN P
    · rw [c, pt1_s, pt1_s]; exact ⟨hx, hh⟩
    · rw [pt1_o c, pt1_o c]; exact h3 p (by omega)
  · have hp' : p < sN P + 1 := hp
    have hq' : q < sN P + 1 := hq
    have e' : pt1 (sX P) (sN P) x p = pt1 (sX P) (sN P) x q := e
    by_cases c : p = sN P
    · by_cases c2 : q = sN P
      · rw [c, c2]
      · rw [c, pt1_s, pt1_o c2] at e'
        exact absurd e'.symm (hasP_no hn (by omega))
    · by_cases c2 : q = sN P
      · rw [c2, pt1_s, pt1_o c] at e'
        exact absurd e' (hasP_no hn (by omega))
      · rw [pt1_o c, pt1_o c2] at e'
        exact hD p q (by omega) (by omega) e'
theorem setSu_WS {P : SP} {f w l : Nat} (hP : WS P) (hl : l ≤ 99) : WS (setSu P f w l) := by
  obtain ⟨h1, h2, h3, h4, h5, h6⟩ := hP
  refine ⟨h1, h2, h3, h4, fun t ht => ?_, h6⟩
  show -1 ≤ pt1 (sSl P) f (l : Int) t ∧ pt1 (sSl P) f (l : Int) t ≤ 99
  by_cases c : t = f
  · rw [c, pt1_s]; omega
  · rw [pt1_o c]; exact h5 t ht
theorem addMo_WS {P : SP} {b l m : Nat} (hP : WS P) (hM : sM P < 3) (hb : 1 ≤ b ∧ b ≤ 60) (hl : l < b) (hm : 1 ≤ m ∧ m ≤ 99) : WS (addMo P b l m) := by
  obtain ⟨h1, h2, h3, h4, h5, h6, h7, h8⟩ := hP
  refine ⟨h1, h2, h3, h4, h5, hM, fun k hk => ?_, h8⟩
  have hk' : k < sM P + 1 := hk
  show (1 ≤ pt1 (sMb P) (sM P) b k ∧ pt1 (sMb P) (sM P) b k ≤ 60) ∧ pt1 (sMl P) (sM P) l k < pt1 (sMb P) (sM P) b k ∧ 1 ≤ pt1 (sMn P) (sM P) m k ∧ pt1 (sMn P) (sM P) m k ≤ 99
  by_cases c : k = sM P
  · rw [c, pt1_s, pt1_s, pt1_s]; exact ⟨hb, hl, hm⟩
  · rw [pt1_o c, pt1_o c, pt1_o c]; exact h7 k (by omega)
theorem addB_WB {W : Nat} {B : BM} {x l m : Nat} (h : WB W B) (hN : bN B < 8) (hl : 2 ≤ l ∧ l ≤ 20) (hx : x + l ≤ W) (hm : 1 ≤ m ∧ m ≤ 9) : WB W (addB B x l m) := by
  refine ⟨hN, fun b hb => ?_⟩
  have hb' : b < bN B + 1 := hb
  show (2 ≤ pt1 (bL B) (bN B) l b ∧ pt1 (bL B) (bN B) l b ≤ 20 ∧ pt1 (bX B) (bN B) x b + pt1 (bL B) (bN B) l b ≤ W) ∧ (1 ≤ pt1 (bH B) (bN B) m b ∧ pt1 (bH B) (bN B) m b ≤ 9) ∧ ∀ p, p < pt1 (bL B) (bN B) l b → pt1 (bD B) (bN B) (fun _ => 0) b p ≤ 99
  by_cases c : b = bN B
  · rw [c, pt1_s, pt1_s, pt1_s, pt1_s]; exact ⟨⟨hl.1, hl.2, hx⟩, hm, fun p _ => by omega⟩
  · rw [pt1_o c, pt1_o c, pt1_o c, pt1_o c]; exact h.2 b (by omega)
theorem setB_WS {P : SP} {B : BM} (hP : WS P) (hB : WB (sW P) B) : WS (setB P B) := ⟨hP.1, hP.2.1, hP.2.2.1, hP.2.2.2.1, hP.2.2.2.2.1, hP.2.2.2.2.2.1, hP.2.2.2.2.2.2.1, hP.2.2.2.2.2.2.2.1, hP.2.2.2.2.2.2.2.2.1, hB⟩
theorem P00_WS : WS P00 ∧ DX P00 := ⟨⟨by decide, by decide, fun p hp => absurd hp (Nat.not_lt_zero p), by decide, fun _ _ => (by decide : (-1 : Int) ≤ -1 ∧ (-1 : Int) ≤ 99), by decide, fun m hm => absurd hm (Nat.not_lt_zero m), by decide, by decide, ⟨by decide, fun b hb => absurd hb (Nat.not_lt_zero b)⟩⟩, fun p q hp _ _ => absurd hp (Nat.not_lt_zero p)⟩
/-- a good street, whose first clause may yet be its width -/
def GS (k : Nat) (s : CLs) : Prop := WS s.2.1 ∧ DX s.2.1 ∧ s.2.2 ≤ 12 ∧ (k = 0 → s.2 = (P00, 0))
theorem hdT_ok {B : Nat → Int} {n k : Nat} {t : TS} {P : SP} {ns : Nat} (h : (hdT B n k t P ns).2.2.1 = 0) : hdT B n k t P ns = twT B n t ∧ t.2.2.1 = 0 ∧ 1 ≤ kdW B (twT B n t) ∧ k < 60 ∧ ¬ fuW P ns (kdW B (twT B n t)) = true ∧ (kdW B (twT B n t) = 1 → k = 0) := by
  have hk := kdW_in B (twT B n t)
  unfold hdT at *
  by_cases h1 : kdW B (twT B n t) = 0
  · rw [if_pos h1] at h; exact absurd h (flT_fk (by decide))
  · rw [if_neg h1] at *
    by_cases h2 : 60 ≤ k ∨ fuW P ns (kdW B (twT B n t)) = true
    · rw [if_pos h2] at h; exact absurd h (flT_fk (by decide))
    · rw [if_neg h2] at *
      by_cases h3 : kdW B (twT B n t) = 1 ∧ 0 < k
      · rw [if_pos h3] at h; exact absurd h (flT_fk (by decide))
      · rw [if_neg h3] at *
        rw [tw_fk] at h
        exact ⟨rfl, h, by omega, by omega, fun q => h2 (Or.inr q), fun q => by omega⟩
theorem fuW_no {P : SP} {ns : Nat} {k : Int} (h : ¬ fuW P ns k = true) : (k = 2 → sN P < 10) ∧ (k = 3 → ns < 12) ∧ (k = 5 → sM P < 3) ∧ (k = 6 → sCn P < 6) ∧ (k = 7 → sLn P < 6) ∧ (k = 8 → bN (sB P) < 8) := by
  unfold fuW at h
  refine ⟨fun e => ?_, fun e => ?_, fun e => ?_, fun e => ?_, fun e => ?_, fun e => ?_⟩ <;> (subst e; simp only [decide_eq_true_eq, if_true, if_false, reduceCtorEq, Int.reduceEq] at h; omega)
theorem nb_ok {B : Nat → Int} {n k : Nat} {kd : Int} {t : TS} {P : SP} {ns : Nat} (hG : GS k (t, P, ns)) (hkd : 1 ≤ kd ∧ kd ≤ 9) (hf : ¬ fuW P ns kd = true) (hw : kd = 1 → k = 0) (h : (nbT B n kd t P ns).1.2.2.1 = 0) : GS (k + 1) (nbT B n kd t P ns) := by
  obtain ⟨hP, hD, hns, h0⟩ := hG
  have hP : WS P := hP
  have hD : DX P := hD
  have hns : ns ≤ 12 := hns
  obtain ⟨f2, f3, f5, f6, f7, f8⟩ := fuW_no hf
  have hW := hP.W
  unfold nbT at *
  by_cases c1 : kd = 1
  · rw [if_pos c1] at *
    have e := h0 (hw c1)
    have e1 : P = P00 := congrArg Prod.fst e
    have := (nu_ok h).2.1 (by decide)
    refine ⟨?_, ?_, hns, fun q => by omega⟩
    · subst e1
      exact ⟨⟨by show 4 ≤ nuV B n t 4 40; omega, by show nuV B n t 4 40 ≤ 40; omega⟩, hP.2.1, fun p hp => absurd hp (Nat.not_lt_zero p), hP.2.2.2.1, hP.2.2.2.2.1, hP.2.2.2.2.2.1, hP.2.2.2.2.2.2.1, hP.2.2.2.2.2.2.2.1, hP.2.2.2.2.2.2.2.2.1, ⟨Nat.zero_le 8, fun b hb => absurd hb (Nat.not_lt_zero b)⟩⟩
    · exact hD
  rw [if_neg c1] at *
  by_cases c2 : kd = 2
  · rw [if_pos c2] at *
    have h1 : (nuT B n (poU B n t P) 1 99).2.2.1 = 0 := h
    have q1 := nu_ok h1
    have hh : ¬ hasP P (nuV B n t 0 (((sW P : Nat) : Int) - 1)) = true := by
      intro q
      have := q1.1
      unfold poU at this
      rw [if_pos q] at this
      exact flT_fk (by decide) this
    have q2 := q1.1
    unfold poU at q2
    rw [if_neg hh] at q2
    have q3 := (nu_ok q2).2.1 (by decide)
    have q4 := q1.2.1 (by decide)
    have r := addPo_WS (x := nuV B n t 0 (((sW P : Nat) : Int) - 1)) (h := nuV B n (poU B n t P) 1 99) hP hD (f2 c2) (by omega) (by omega) hh
    exact ⟨r.1, r.2, hns, fun q => by omega⟩
  rw [if_neg c2] at *
  by_cases c3 : kd = 3
  · rw [if_pos c3] at *
    have q1 := (nu_ok (show (nuT B n (nuT B n (nuT B n t 0 23) 0 1) 0 99).2.2.1 = 0 from h)).2.1 (by decide)
    exact ⟨setSu_WS hP (by omega), hD, by show ns + 1 ≤ 12; have := f3 c3; omega, fun q => by omega⟩
  rw [if_neg c3] at *
  by_cases c4 : kd = 4
  · rw [if_pos c4] at *
    have q1 := (nu_ok h).2.1 (by decide)
    exact ⟨⟨hP.1, hP.2.1, hP.2.2.1, ⟨by show 1 ≤ nuV B n t 1 24; omega, by show nuV B n t 1 24 ≤ 24; omega⟩, hP.2.2.2.2⟩, hD, hns, fun q => by omega⟩
  rw [if_neg c4] at *
  by_cases c5 : kd = 5
  · rw [if_pos c5] at *
    have q1 := nu_ok (show (nuT B n (moU B n t) 1 99).2.2.1 = 0 from h)
    have q2 := nu_ok (show (nuT B n (nuT B n t 1 60) 0 (((nuV B n t 1 60 : Nat) : Int) - 1)).2.2.1 = 0 from q1.1)
    have q3 := (nu_ok q2.1).2.1 (by decide)
    have q4 := q2.2.1 (by decide)
    have q5 := q1.2.1 (by decide)
    exact ⟨addMo_WS hP (f5 c5) (by omega) (by omega) (by omega), hD, hns, fun q => by omega⟩
  rw [if_neg c5] at *
  by_cases c6 : kd = 6
  · rw [if_pos c6] at *
    exact ⟨⟨hP.1, hP.2.1, hP.2.2.1, hP.2.2.2.1, hP.2.2.2.2.1, hP.2.2.2.2.2.1, hP.2.2.2.2.2.2.1, f6 c6, hP.2.2.2.2.2.2.2.2⟩, hD, hns, fun q => by omega⟩
  rw [if_neg c6] at *
  by_cases c7 : kd = 7
  · rw [if_pos c7] at *
    exact ⟨⟨hP.1, hP.2.1, hP.2.2.1, hP.2.2.2.1, hP.2.2.2.2.1, hP.2.2.2.2.2.1, hP.2.2.2.2.2.2.1, hP.2.2.2.2.2.2.2.1, f7 c7, hP.2.2.2.2.2.2.2.2.2⟩, hD, hns, fun q => by omega⟩
  rw [if_neg c7] at *
  by_cases c8 : kd = 8
  · rw [if_pos c8] at *
    have q1 := nu_ok (show (nuT B n (beU B n t P) 1 9).2.2.1 = 0 from h)
    have q2 := nu_ok (show (nuT B n (nuT B n t 0 (((sW P : Nat) : Int) - 1)) 2 (beH B n t P)).2.2.1 = 0 from q1.1)
    have q3 := (nu_ok q2.1).2.1 (by decide)
    have q4 := q2.2.1 (by decide)
    have q5 := q1.2.1 (by decide)
    have q6 : beH B n t P ≤ 20 ∧ beH B n t P ≤ ((sW P : Nat) : Int) - ((nuV B n t 0 (((sW P : Nat) : Int) - 1) : Nat) : Int) := by
      unfold beH
      split <;> omega
    have q7 : ((beV B n t P : Nat) : Int) = ((nuV B n (nuT B n t 0 (((sW P : Nat) : Int) - 1)) 2 (beH B n t P) : Nat) : Int) := rfl
    exact ⟨setB_WS hP (addB_WB hP.B (f8 c8) (by omega) (by omega) (by omega)), hD, hns, fun q => by omega⟩
  rw [if_neg c8] at *
  unfold loC at *
  by_cases c9 : (loT B n t P).2.2.1 = 0
  · rw [if_pos c9] at *
    have q1 := nu_ok (show (nuT B n (nuT B n (loT B n t P) 0 (((bL (sB P) (loV B n t P) : Nat) : Int) - 1)) 0 99).2.2.1 = 0 from h)
    have q5 := q1.2.1 (by decide)
    exact ⟨setB_WS hP (setD_WB hP.B (by omega)), hD, hns, fun q => by omega⟩
  · rw [if_neg c9] at *
    exact absurd h c9
theorem cl_ok {B : Nat → Int} {n k : Nat} {s : CLs} (hG : GS k s) (h : (clN B n k s).1.2.2.1 = 0) : GS (k + 1) (clN B n k s) ∧ (hdT B n k s.1 s.2.1 s.2.2).2.2.1 = 0 := by
  unfold clN at *
  by_cases c : (hdT B n k s.1 s.2.1 s.2.2).2.2.1 = 0
  · rw [if_pos c] at *
    obtain ⟨q1, q2, q3, q4, q5, q6⟩ := hdT_ok c
    have h2 := (ts_ok h).1
    have r := nb_ok (t := hdT B n k s.1 s.2.1 s.2.2) (P := s.2.1) (ns := s.2.2) hG ⟨q3, (kdW_in _ _).2⟩ q5 q6 h2
    exact ⟨r, c⟩
  · rw [if_neg c] at h
    exact absurd h c
theorem GS.up {k : Nat} {s : CLs} (h : GS k s) (hk : 0 < k) : GS (k + 1) s := ⟨h.1, h.2.1, h.2.2.1, fun q => by omega⟩
theorem rd_ok (B : Nat → Int) (n : Nat) : ∀ k, (rdS B n k).1.2.2.1 = 0 → GS k (rdS B n k) ∨ (0 < k ∧ ¬ goB B n (rdS B n k).1 ∧ (rdS B n k).2 = (P00, 0))
  | 0, _ => Or.inl ⟨P00_WS.1, P00_WS.2, Nat.zero_le 12, fun _ => rfl⟩
  | k + 1, h => by
    rw [rdS_s] at *
    unfold clS at *
    by_cases c : goB B n (rdS B n k).1
    · rw [if_pos c] at *
      rcases rd_ok B n k c.1 with q | q
      · exact Or.inl (cl_ok (s := (goT B n (rdS B n k).1, (rdS B n k).2)) q h).1
      · exact absurd c q.2.1
    · rw [if_neg c] at *
      rcases rd_ok B n k h with q | q
      · by_cases k0 : k = 0
        · exact Or.inr ⟨by omega, c, q.2.2.2 k0⟩
        · exact Or.inl (q.up (by omega))
      · exact Or.inr ⟨by omega, q.2⟩
theorem rd_WS (B : Nat → Int) (n k : Nat) (h : (rdS B n k).1.2.2.1 = 0) : WS (rdS B n k).2.1 ∧ DX (rdS B n k).2.1 := by
  rcases rd_ok B n k h with q | q
  · exact ⟨q.1, q.2.1⟩
  · rw [q.2.2]; exact P00_WS
theorem FK_nb {B : Nat → Int} {n : Nat} {kd : Int} {t : TS} {P : SP} {ns : Nat} (h : FK t) : FK (nbT B n kd t P ns).1 := by
  unfold nbT
  split
  · exact h.nu
  split
  · refine FK.nu ?_
    unfold poU
    split
    · exact h.nu.fl (by decide)
    · exact h.nu
  split
  · exact h.nu.nu.nu
  split
  · exact h.nu
  split
  · exact h.nu.nu.nu
  split
  · exact h.nu.nu
  split
  · exact h.nu.nu
  split
  · exact h.nu.nu.nu
  · show FK (loC B n t P).1
    unfold loC
    split
    · exact h.nu.nu.nu
    · exact h.nu
theorem FK_hd {B : Nat → Int} {n k : Nat} {t : TS} {P : SP} {ns : Nat} (h : FK t) : FK (hdT B n k t P ns) := by
  unfold hdT
  split
  · exact h.tw.fl (by decide)
  split
  · exact h.tw.fl (by decide)
  split
  · exact h.tw.fl (by decide)
  · exact h.tw
theorem FK_cl {B : Nat → Int} {n k : Nat} {s : CLs} (h : FK s.1) : FK (clS B n k s).1 := by
  unfold clS clN
  split
  · split
    · exact (FK_nb (FK_hd h.go)).ts
    · exact FK_hd h.go
  · exact h
theorem FK_rd (B : Nat → Int) (n : Nat) : ∀ k, FK (rdS B n k).1
  | 0 => (by decide : (0 : Int) ≤ 0 ∧ (0 : Int) ≤ 4)
  | k + 1 => FK_cl (FK_rd B n k)
/-- behind sixty clauses nothing goes on without a fault -/
theorem cl60 (B : Nat → Int) (n : Nat) (s : CLs) : ¬ goB B n (clS B n 60 s).1 := by
  unfold clS
  by_cases c : goB B n s.1
  · rw [if_pos c]
    intro q
    unfold clN at q
    by_cases d : (hdT B n 60 (goT B n s.1) s.2.1 s.2.2).2.2.1 = 0
    · have := (hdT_ok d).2.2.2.1
      omega
    · rw [if_neg d] at q
      exact d q.1
  · rw [if_neg c]; exact c
theorem rd_end (B : Nat → Int) (n m : Nat) (hm : m = 61) : ¬ goB B n (rdS B n m).1 := by
  obtain ⟨k, rfl⟩ : ∃ k, m = k + 1 := ⟨60, hm⟩
  have hk : k = 60 := by omega
  rw [rdS_s, hk]
  exact cl60 B n _
theorem rd_stay {B : Nat → Int} {n k : Nat} (h : ¬ goB B n (rdS B n k).1) : ∀ m, rdS B n (k + m) = rdS B n k
  | 0 => rfl
  | m + 1 => by
    have e := rd_stay h m
    show clS B n (k + m) (rdS B n (k + m)) = _
    rw [e]
    unfold clS
    rw [if_neg h]
