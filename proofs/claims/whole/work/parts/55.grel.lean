/-! how the class holds light and shade of a day -/
theorem wr_row {E : Mm} {a k q : Nat} {x : Int} (h : q ≠ a) : wr E a k x q = E q := funext fun _ => wr_o (Or.inl h)
theorem row_ext {E1 : Mm} {q i : Nat} {F : Nat → Int} {v : Int} (h : ∀ p, p < i → E1 q p = F p) (hv : v = F i) : ∀ p, p < i + 1 → wr E1 q i v q p = F p := by
  intro p hp
  by_cases c : p = i
  · subst c; rw [wr_s, hv]
  · rw [wr_o (Or.inr c)]; exact h p (by omega)
theorem ov_fil {E : Mm} {a n : Nat} {v : Int} (he : rtab.getD a [] = []) : fil (ov E) a n v = ov (fil E a n v) := by
  funext q j
  unfold fil
  by_cases c : q = a ∧ j < n
  · rw [if_pos c, c.1, ov_n (rtv_e he _), if_pos ⟨rfl, c.2⟩]
  · rw [if_neg c]
    unfold ov
    cases rtv q j with
    | some b => rfl
    | none => exact (if_neg c).symm
theorem fil_s {E : Mm} {a n j : Nat} {v : Int} (h : j < n) : fil E a n v a j = v := if_pos ⟨rfl, h⟩
theorem fil_row {E : Mm} {a n q : Nat} {v : Int} (h : q ≠ a) : fil E a n v q = E q := funext fun _ => if_neg (fun c => h c.1)
theorem p2_40 {x : Nat} (h : x < 40) : 2 ^ x < 1099511627776 := p2_lt (n := 40) h
theorem p2_31 {x : Nat} (h : x < 31) : 2 ^ x < 2147483648 := p2_lt (n := 31) h
theorem or40 {x y : Nat} (h : x < 1099511627776) (h2 : y < 1099511627776) : x ||| y < 1099511627776 := Nat.or_lt_two_pow (n := 40) h h2
theorem or31 {x y : Nat} (h : x < 2147483648) (h2 : y < 2147483648) : x ||| y < 2147483648 := Nat.or_lt_two_pow (n := 31) h h2
theorem mk_none {p : Nat → Bool} {n : Nat} (h : ∀ j, j < n → p j = false) : mk p n = 0 := by
  refine (mk_eq (Nat.two_pow_pos n) (fun j hj => ?_)).symm
  rw [Nat.zero_testBit, h j hj]
theorem run_lt {n f : Nat} (h : n + f ≤ 40) : (2 ^ n - 1) * 2 ^ f < 1099511627776 := by
  have h1 : (2 ^ n - 1) * 2 ^ f < 2 ^ n * 2 ^ f := Nat.mul_lt_mul_of_pos_right (by have := Nat.two_pow_pos n; omega) (Nat.two_pow_pos f)
  rw [← Nat.pow_add] at h1
  have h2 : 2 ^ (n + f) ≤ 2 ^ 40 := Nat.pow_le_pow_right (by decide) h
  have h3 : (2 : Nat) ^ 40 = 1099511627776 := by decide
  omega
theorem or_mk {p p' : Nat → Bool} {n k : Nat} (hk : k < n) (h : ∀ j, j < n → p' j = (p j || decide (j = k))) : mk p n ||| 2 ^ k = mk p' n := by
  refine mk_eq (Nat.or_lt_two_pow (mk_lt p n) (p2_lt hk)) (fun j hj => ?_)
  rw [Nat.testBit_or, mk_in hj, Nat.testBit_two_pow, h j hj]
  congr 1
  exact decide_eq_decide.mpr ⟨fun q => q.symm, fun q => q.symm⟩
/-- without shadows, clouds, what is known -/
def CG0 (E : Mm) (a : Nat) (G : GP) : Prop := E a 8 = 4 ∧ E a 9 = (gW G : Int) ∧ E a 10 = (gN G : Int) ∧ E a 12 = (mk (isP G) 40 : Int) ∧ E a 13 = (mk (gLm G) 50 : Int) ∧ (∀ p, p < gN G → E (a + 1) p = (gX G p : Int) ∧ E (a + 2) p = (gH G p : Int)) ∧ (∀ h, h < 24 → E (a + 4) h = (gT' G h : Int) ∧ E (a + 5) h = if gR G h then 1 else 0)
def kix (m : Bool) (h c : Nat) : Nat := (if m then 24 + h else h) * 40 + c
/-- what is known is so -/
def CK (E : Mm) (a : Nat) (G : GP) : Prop := ∀ (m : Bool) (h c : Nat), h < 24 → c < 40 → E (a + 8) (kix m h c) = -1 ∨ E (a + 8) (kix m h c) = bIf G m h c
def CGc (E : Mm) (a : Nat) (G : GP) : Prop := E a 11 = (mk (gC G) 24 : Int) ∧ (∀ h, h < 24 → E (a + 7) h = lcl (gC G) h)
def CGs (E : Mm) (a : Nat) (G : GP) : Prop := ∀ h p, h < 24 → p < gN G → E (a + 6) (h * 11 + p) = (mk (shG G h p) 40 : Int)
def CG (E : Mm) (a : Nat) (G : GP) : Prop := CG0 E a G ∧ CGc E a G ∧ CGs E a G ∧ CK E a G
theorem CG0.fr {E E1 : Mm} {a : Nat} {G : GP} (h : CG0 E a G) (hf : ∀ q, q = a ∨ q = a + 1 ∨ q = a + 2 ∨ q = a + 4 ∨ q = a + 5 → E1 q = E q) : CG0 E1 a G := by
  unfold CG0 at h ⊢
  rw [hf a (by omega), hf (a + 1) (by omega), hf (a + 2) (by omega), hf (a + 4) (by omega), hf (a + 5) (by omega)]
  exact h
theorem CG.fr {E E1 : Mm} {a : Nat} {G : GP} (h : CG E a G) (hf : ∀ q, a ≤ q → q ≤ a + 8 → q ≠ a + 3 → E1 q = E q) : CG E1 a G := by
  refine ⟨h.1.fr (fun q hq => hf q (by omega) (by omega) (by omega)), ?_, ?_, ?_⟩
  · have := h.2.1
    unfold CGc at this ⊢
    rw [hf a (by omega) (by omega) (by omega), hf (a + 7) (by omega) (by omega) (by omega)]
    exact this
  · have := h.2.2.1
    unfold CGs at this ⊢
    rw [hf (a + 6) (by omega) (by omega) (by omega)]
    exact this
  · have := h.2.2.2
    unfold CK at this ⊢
    rw [hf (a + 8) (by omega) (by omega) (by omega)]
    exact this
theorem kix_inj {m m' : Bool} {h h' c c' : Nat} (hh : h < 24) (hh' : h' < 24) (hc : c < 40) (hc' : c' < 40) (e : kix m h c = kix m' h' c') : m = m' ∧ h = h' ∧ c = c' := by
  unfold kix at e
  cases m <;> cases m' <;> simp only [Bool.false_eq_true, if_false, if_true] at e <;> refine ⟨?_, ?_, ?_⟩ <;> first | rfl | omega
theorem kix_lt {m : Bool} {h c : Nat} (hh : h < 24) (hc : c < 40) : kix m h c < 1920 := by
  unfold kix
  cases m <;> simp only [Bool.false_eq_true, if_false, if_true] <;> omega
theorem CK.wr {E : Mm} {a : Nat} {G : GP} {m : Bool} {h c : Nat} (hk : CK E a G) (hh : h < 24) (hc : c < 40) : CK (wr E (a + 8) (kix m h c) (bIf G m h c)) a G := by
  intro m' h' c' hh' hc'
  by_cases e : kix m' h' c' = kix m h c
  · obtain ⟨rfl, rfl, rfl⟩ := kix_inj hh' hh hc' hc e
    rw [wr_s]; exact Or.inr rfl
  · rw [wr_o (Or.inr e)]; exact hk m' h' c' hh' hc'
section
variable {E : Mm} {ad : Nat} {G : GP}
theorem CG0.W (h : CG0 E ad G) : E ad 9 = (gW G : Int) := h.2.1
theorem CG0.N (h : CG0 E ad G) : E ad 10 = (gN G : Int) := h.2.2.1
theorem CG0.P (h : CG0 E ad G) : E ad 12 = (mk (isP G) 40 : Int) := h.2.2.2.1
theorem CG0.Lm (h : CG0 E ad G) : E ad 13 = (mk (gLm G) 50 : Int) := h.2.2.2.2.1
theorem CG0.X (h : CG0 E ad G) {p : Nat} (hp : p < gN G) : E (ad + 1) p = (gX G p : Int) := (h.2.2.2.2.2.1 p hp).1
theorem CG0.H (h : CG0 E ad G) {p : Nat} (hp : p < gN G) : E (ad + 2) p = (gH G p : Int) := (h.2.2.2.2.2.1 p hp).2
theorem CG0.T (h : CG0 E ad G) {t : Nat} (ht : t < 24) : E (ad + 4) t = (gT' G t : Int) := (h.2.2.2.2.2.2 t ht).1
theorem CG0.R (h : CG0 E ad G) {t : Nat} (ht : t < 24) : E (ad + 5) t = if gR G t then 1 else 0 := (h.2.2.2.2.2.2 t ht).2
theorem WG.W (h : WG G) : gW G ≤ 40 := h.1
theorem WG.N (h : WG G) : gN G ≤ 11 := h.2.1
theorem WG.X (h : WG G) {p : Nat} (hp : p < gN G) : gX G p < gW G := (h.2.2.1 p hp).1
theorem WG.H (h : WG G) {p : Nat} (hp : p < gN G) : gH G p ≤ 99 := (h.2.2.1 p hp).2
theorem WG.T (h : WG G) {t : Nat} (ht : t < 24) : gT' G t ≤ 99 := h.2.2.2.1 t ht
theorem WG.Lw (h : WG G) : WL (gLw G) := h.2.2.2.2
end
/-- the light of a street's hours, by the moon of the day -/
def lkP (P : SP) (mo : Int) (h : Nat) : Nat := if 0 ≤ sunP P h then 1 else if 0 ≤ mo then 2 else 0
def ltP (P : SP) (mo : Int) (h : Nat) : Nat := if 0 ≤ sunP P h then (sSl P (sunP P h).toNat).toNat else if 0 ≤ mo then sMn P mo.toNat else 0
def lrP (P : SP) (mo : Int) (h : Nat) : Bool := if 0 ≤ sunP P h then sSw P (sunP P h).toNat else decide (0 ≤ mo)
def gOf (P : SP) (mo : Int) (L : LW) : GP := (sW P, sN P, sX P, sH P, ltP P mo, lrP P mo, sC P, sLc P, L)
def setC (G : GP) (C : Nat → Bool) : GP := (gW G, gN G, gX G, gH G, gT' G, gR G, C, gLm G, gLw G)
def addP (G : GP) (x h : Nat) : GP := (gW G, gN G + 1, (fun p => if p = gN G then x else gX G p), (fun p => if p = gN G then h else gH G p), gT' G, gR G, gC G, gLm G, gLw G)
/-- the sun that counts is one -/
theorem sunP_ok {P : SP} {h : Nat} (c : 0 ≤ sunP P h) : ¬ sSl P (sunP P h).toNat = -1 := by
  have key : ∀ n : Nat, 0 ≤ itr (fun t v => if sSl P t = -1 then v else (t : Int)) (-1) n → ¬ sSl P (itr (fun t v => if sSl P t = -1 then v else (t : Int)) (-1) n).toNat = -1 := by
    intro n
    induction n with
    | zero => intro h; exact absurd h (show ¬ (0 : Int) ≤ -1 by decide)
    | succ n ih =>
      rw [itr_s]
      by_cases c : sSl P n = -1
      · rw [if_pos c]; exact ih
      · rw [if_neg c, Int.toNat_natCast]; exact fun _ => c
  unfold sunP at c ⊢
  by_cases k : h < sDk P
  · rw [if_pos k] at c ⊢; exact key (h + 1) c
  · rw [if_neg k] at c; exact absurd c (by decide)
theorem gOf_WG {P : SP} {mo : Int} {L : LW} (h : WS P) (hL : WL L) (hm : mo < sM P) : WG (gOf P mo L) := by
  refine ⟨h.W.2, Nat.le_trans h.N (by decide), fun p hp => ⟨h.X hp, (h.H hp).2⟩, fun t ht => ?_, hL⟩
  show ltP P mo t ≤ 99
  unfold ltP
  split
  · have := sunP_in P t
    have := h.Sl (t := (sunP P t).toNat) (by omega)
    omega
  · split
    · exact (h.Mn (m := mo.toNat) (by omega)).2
    · omega
