/-! what both sides work out, as functions of numbers -/
/-- a law: how many steps, what each is (0 number, 1 shades, 2 tall, 3 hour, 4 lamp, 5 plus, 6 minus, 7 times, 8 by, 9 least, 10 most), its number -/
abbrev LW : Type := Nat × (Nat → Int) × (Nat → Int)
def lop (w x y : Int) : Int := if w = 5 then w32 (x + y) else if w = 6 then w32 (x - y) else if w = 7 then w32 (x * y) else if w = 8 then (if y = 0 then 0 else w32 (x.tdiv y)) else if w = 9 then (if x < y then x else y) else (if y < x then x else y)
def lvl (w v : Int) (s t h m : Int) : Int := if w = 1 then s else if w = 2 then t else if w = 3 then h else if w = 4 then m else v
/-- the height of the stack ahead of step i -/
def hgt (L : LW) : Nat → Nat := itr (fun i n => if 5 ≤ L.2.1 i then n - 1 else n + 1) 0
def updf (f : Nat → Int) (k : Nat) (x : Int) : Nat → Int := fun j => if j = k then x else f j
theorem updf_s (f : Nat → Int) (k : Nat) (x : Int) : updf f k x k = x := if_pos rfl
theorem updf_o {f : Nat → Int} {k j : Nat} {x : Int} (h : j ≠ k) : updf f k x j = f j := if_neg h
/-- the stack ahead of step i -/
def stk (L : LW) (s t h m : Int) : Nat → (Nat → Int) := itr (fun i q => if 5 ≤ L.2.1 i then updf q (hgt L i - 2) (lop (L.2.1 i) (q (hgt L i - 2)) (q (hgt L i - 1))) else updf q (hgt L i) (lvl (L.2.1 i) (L.2.2 i) s t h m)) (fun _ => 0)
/-- a law that can be worked out: each sign finds two numbers, one is left -/
def WL (L : LW) : Prop := 1 ≤ L.1 ∧ L.1 ≤ 150 ∧ (∀ i, i < L.1 → (0 ≤ L.2.1 i ∧ L.2.1 i ≤ 10) ∧ (5 ≤ L.2.1 i → 2 ≤ hgt L i)) ∧ 1 ≤ hgt L L.1
theorem hgt_s (L : LW) (i : Nat) : hgt L (i + 1) = if 5 ≤ L.2.1 i then hgt L i - 1 else hgt L i + 1 := rfl
theorem hgt_le (L : LW) : ∀ i, hgt L i ≤ i
  | 0 => Nat.le_refl _
  | i + 1 => by
    have := hgt_le L i
    rw [hgt_s]
    split <;> omega
theorem stk_s (L : LW) (s t h m : Int) (i : Nat) : stk L s t h m (i + 1) = if 5 ≤ L.2.1 i then updf (stk L s t h m i) (hgt L i - 2) (lop (L.2.1 i) (stk L s t h m i (hgt L i - 2)) (stk L s t h m i (hgt L i - 1))) else updf (stk L s t h m i) (hgt L i) (lvl (L.2.1 i) (L.2.2 i) s t h m) := rfl
def clampB (v : Int) : Int := if v < 0 then 0 else if 999 < v then 999 else v
/-- what so many shades bear -/
def borP (L : LW) (s t h m : Int) : Int := if s = 0 then 0 else clampB (stk L s t h m L.1 0)
theorem borP_in (L : LW) (s t h m : Int) : 0 ≤ borP L s t h m ∧ borP L s t h m ≤ 999 := by
  unfold borP clampB
  split
  · omega
  · split
    · omega
    · split <;> omega
/-- light and shade on a day: cells, posts, their cells, their heights, tenths by hour, whether to the right by hour, clouds by hour, lamps by cell, the law -/
abbrev GP : Type := Nat × Nat × (Nat → Nat) × (Nat → Nat) × (Nat → Nat) × (Nat → Bool) × (Nat → Bool) × (Nat → Bool) × LW
abbrev gW (G : GP) : Nat := G.1
abbrev gN (G : GP) : Nat := G.2.1
abbrev gX (G : GP) : Nat → Nat := G.2.2.1
abbrev gH (G : GP) : Nat → Nat := G.2.2.2.1
abbrev gT' (G : GP) : Nat → Nat := G.2.2.2.2.1
abbrev gR (G : GP) : Nat → Bool := G.2.2.2.2.2.1
abbrev gC (G : GP) : Nat → Bool := G.2.2.2.2.2.2.1
abbrev gLm (G : GP) : Nat → Bool := G.2.2.2.2.2.2.2.1
abbrev gLw (G : GP) : LW := G.2.2.2.2.2.2.2.2
/-- numbers within their bounds -/
def WG (G : GP) : Prop := gW G ≤ 40 ∧ gN G ≤ 11 ∧ (∀ p, p < gN G → gX G p < gW G ∧ gH G p ≤ 99) ∧ (∀ h, h < 24 → gT' G h ≤ 99) ∧ WL (gLw G)
/-- whether a post's shadow lies on a cell, without clouds -/
def shB (W x l : Nat) (r : Bool) (c : Nat) : Bool := if r then decide (x < c) && decide (c ≤ x + l) && decide (c < W) else decide (c < x) && decide (x ≤ c + l)
def shG (G : GP) (h p c : Nat) : Bool := shB (gW G) (gX G p) (gH G p * gT' G h / 10) (gR G h) c
/-- the last hour without a cloud, so far -/
def lcl (C : Nat → Bool) (h : Nat) : Int := itr (fun i v => if C i then v else (i : Int)) (-1) (h + 1)
theorem lcl_in (C : Nat → Bool) : ∀ h : Nat, -1 ≤ lcl C h ∧ lcl C h ≤ h := by
  have key : ∀ n : Nat, -1 ≤ itr (fun i v => if C i then v else (i : Int)) (-1) n ∧ itr (fun i v => if C i then v else (i : Int)) (-1) n < n := by
    intro n
    induction n with
    | zero => exact ⟨Int.le_refl _, show (-1 : Int) < 0 by decide⟩
    | succ n ih =>
      rw [itr_s]
      split <;> omega
  intro h
  have := key (h + 1)
  exact ⟨this.1, by have := this.2; unfold lcl; omega⟩
theorem lcl_now {C : Nat → Bool} {h : Nat} (c : ¬ C h = true) : lcl C h = h := by
  unfold lcl
  rw [itr_s, if_neg c]
/-- the shadows on a cell as bits of posts -/
def shd (G : GP) (m : Bool) (h c : Nat) : Nat := if lcl (gC G) h < 0 ∨ (gC G h = true ∧ ¬ m = true) then 0 else mk (fun p => shG G (lcl (gC G) h).toNat p c) (gN G)
theorem shd_lt (G : GP) (hN : gN G ≤ 11) (m : Bool) (h c : Nat) : shd G m h c < 2048 := by
  unfold shd
  split
  · omega
  · exact mk11 hN
/-- the greatest height among these -/
def talG (G : GP) (b : Nat) : Nat := itr (fun p v => if b.testBit p = true ∧ v < gH G p then gH G p else v) 0 (gN G)
def isP (G : GP) (c : Nat) : Bool := itr (fun p v => v || decide (gX G p = c)) false (gN G)
/-- what a cell bears in an hour, with a lamp or not -/
def bIf (G : GP) (m : Bool) (h c : Nat) : Int := if isP G c then 999 else borP (gLw G) (cntp (fun p => (shd G m h c).testBit p) 11 : Nat) (talG G (shd G m h c) : Nat) (h : Nat) (if m then 1 else 0)
def bOn (G : GP) (h c : Nat) : Int := bIf G (gLm G c) h c
theorem bIf_in (G : GP) (m : Bool) (h c : Nat) : 0 ≤ bIf G m h c ∧ bIf G m h c ≤ 999 := by
  unfold bIf
  split
  · omega
  · exact borP_in _ _ _ _ _
theorem isP_iff (G : GP) (c : Nat) : isP G c = true ↔ ∃ p, p < gN G ∧ gX G p = c := by
  unfold isP
  induction gN G with
  | zero => simp [itr_0]
  | succ n ih =>
    rw [itr_s, Bool.or_eq_true, ih, decide_eq_true_iff]
    constructor
    · rintro (⟨p, h1, h2⟩ | h)
      · exact ⟨p, by omega, h2⟩
      · exact ⟨n, by omega, h⟩
    · rintro ⟨p, h1, h2⟩
      by_cases c : p = n
      · subst c; exact Or.inr h2
      · exact Or.inl ⟨p, by omega, h2⟩
theorem talG_le (G : GP) (hH : ∀ p, p < gN G → gH G p ≤ 99) (b : Nat) : talG G b ≤ 99 := by
  unfold talG
  have key : ∀ n, n ≤ gN G → itr (fun p v => if b.testBit p = true ∧ v < gH G p then gH G p else v) 0 n ≤ 99 := by
    intro n
    induction n with
    | zero => intro _; exact Nat.zero_le _
    | succ n ih =>
      intro hn
      rw [itr_s]
      split
      · exact hH n (by omega)
      · exact ih (by omega)
  exact key _ (Nat.le_refl _)
/-- beams: how many, left end, length, weight of each cell, load by cell -/
abbrev BM : Type := Nat × (Nat → Nat) × (Nat → Nat) × (Nat → Nat) × (Nat → Nat → Nat)
abbrev bN (B : BM) : Nat := B.1
abbrev bX (B : BM) : Nat → Nat := B.2.1
abbrev bL (B : BM) : Nat → Nat := B.2.2.1
abbrev bH (B : BM) : Nat → Nat := B.2.2.2.1
abbrev bD (B : BM) : Nat → Nat → Nat := B.2.2.2.2
def WB (W : Nat) (B : BM) : Prop := bN B ≤ 8 ∧ ∀ b, b < bN B → (2 ≤ bL B b ∧ bL B b ≤ 20 ∧ bX B b + bL B b ≤ W) ∧ (1 ≤ bH B b ∧ bH B b ≤ 9) ∧ ∀ p, p < bL B b → bD B b p ≤ 99
abbrev UN : Nat := 232792560
/-- the sums by which a beam rests on its ends -/
def sumL (B : BM) (b : Nat) : Nat → Nat := itr (fun p v => v + (bH B b + bD B b p) * (bL B b - 1 - p)) 0
def sumR (B : BM) (b : Nat) : Nat → Nat := itr (fun p v => v + (bH B b + bD B b p) * p) 0
def onL (B : BM) (b : Nat) : Nat := sumL B b (bL B b) * (UN / (bL B b - 1))
def onR (B : BM) (b : Nat) : Nat := sumR B b (bL B b) * (UN / (bL B b - 1))
