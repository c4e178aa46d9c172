/-! a day gone through, as both sides work it out -/
/-- whether a beam stands alone with its left end at x -/
def stP (G : GP) (B : BM) (b x h : Nat) : Bool := decide (x + bL B b ≤ gW G) && decide ((onL B b : Int) ≤ bOn G h x * 232792560) && decide ((onR B b : Int) ≤ bOn G h (x + bL B b - 1) * 232792560)
/-- where beams lie (-1: fallen), the hours of their falls (-1: none), the order of falls, how many fell -/
abbrev DS : Type := (Nat → Int) × (Nat → Int) × (Nat → Nat) × Nat
abbrev dP (d : DS) : Nat → Int := d.1
abbrev dF (d : DS) : Nat → Int := d.2.1
abbrev dO (d : DS) : Nat → Nat := d.2.2.1
abbrev dN (d : DS) : Nat := d.2.2.2
/-- the moves of an hour, so far -/
def mvN (T : LN) (h : Nat) (pl : Nat → Int) : Nat → (Nat → Int) := itr (fun i q => if T.2.1 i = h ∧ ¬ q (T.2.2.1 i) = -1 then updf q (T.2.2.1 i) (T.2.2.2 i : Int) else q) pl
def mvP (T : LN) (h : Nat) (pl : Nat → Int) : Nat → Int := mvN T h pl T.1
/-- what a beam puts on a cell -/
def wt1 (B : BM) (pl : Nat → Int) (b c : Nat) : Int := if pl b = -1 then 0 else (if pl b = (c : Int) then (onL B b : Int) else 0) + (if pl b + (bL B b : Int) - 1 = (c : Int) then (onR B b : Int) else 0)
def wtN (B : BM) (pl : Nat → Int) (c : Nat) : Nat → Int := itr (fun b v => v + wt1 B pl b c) 0
/-- whether a beam is too heavy -/
def ovr (G : GP) (B : BM) (h : Nat) (pl : Nat → Int) (b : Nat) : Prop := ¬ pl b = -1 ∧ (bOn G h (pl b).toNat * 232792560 < wtN B pl (pl b).toNat (bN B) ∨ bOn G h ((pl b).toNat + bL B b - 1) * 232792560 < wtN B pl ((pl b).toNat + bL B b - 1) (bN B))
noncomputable def drS (G : GP) (B : BM) (h b : Nat) (d : DS) : DS := @ite DS (ovr G B h (dP d) b) (Classical.propDecidable _) (updf (dP d) b (-1), updf (dF d) b (h : Int), (fun i => if i = dN d then b else dO d i), dN d + 1) d
noncomputable def drN (G : GP) (B : BM) (h : Nat) (d : DS) : Nat → DS := itr (fun b d => drS G B h b d) d
def mvD (T : LN) (h : Nat) (d : DS) : DS := (mvP T h (dP d), dF d, dO d, dN d)
noncomputable def hrP (G : GP) (B : BM) (T : LN) (h : Nat) (d : DS) : DS := drN G B h (mvD T h d) (bN B)
def d0 (B : BM) : DS := (fun b => if b < bN B then (bX B b : Int) else -1, fun _ => -1, fun _ => 0, 0)
noncomputable def dyP (G : GP) (B : BM) (T : LN) : Nat → DS := itr (fun h d => hrP G B T h d) (d0 B)
/-- moves that can be -/
def WT (W : Nat) (B : BM) (T : LN) : Prop := T.1 ≤ 16 ∧ ∀ i, i < T.1 → T.2.1 i < 24 ∧ T.2.2.1 i < bN B ∧ T.2.2.2 i + bL B (T.2.2.1 i) ≤ W
/-- beams lie on cells -/
def PLo (W : Nat) (B : BM) (pl : Nat → Int) : Prop := ∀ b, b < bN B → -1 ≤ pl b ∧ pl b + (bL B b : Int) ≤ W
/-- falls and places fit -/
def DI (W : Nat) (B : BM) (d : DS) : Prop := PLo W B (dP d) ∧ dN d = cntp (fun b => decide (dP d b = -1)) (bN B) ∧ (∀ b, b < bN B → (dF d b = -1 ↔ ¬ dP d b = -1)) ∧ (∀ b, bN B ≤ b → dP d b = -1 ∧ dF d b = -1) ∧ (∀ b, b < bN B → -1 ≤ dF d b ∧ dF d b < 24) ∧ (∀ i, i < dN d → dO d i < bN B)
theorem cntp_lt {p : Nat → Bool} {b : Nat} : ∀ {n : Nat}, b < n → ¬ p b = true → cntp p n < n
  | 0, h, _ => by omega
  | n + 1, h, hp => by
    rw [cntp_s]
    by_cases c : b = n
    · subst c
      rw [if_neg hp]
      have := cntp_le p b
      omega
    · have := cntp_lt (n := n) (by omega) hp
      split <;> omega
theorem cntp_up {p q : Nat → Bool} {b : Nat} (hp : ¬ p b = true) (hq : q b = true) (h : ∀ j, j ≠ b → q j = p j) : ∀ {n : Nat}, b < n → cntp q n = cntp p n + 1
  | 0, h => by omega
  | n + 1, hb => by
    rw [cntp_s, cntp_s]
    by_cases c : b = n
    · subst c
      rw [if_neg hp, if_pos hq, cntp_congr (p := q) (q := p) (fun j hj => h j (by omega))]
    · rw [cntp_up hp hq h (n := n) (by omega), h n (by omega)]
      omega
theorem wt1_in {B : BM} {W : Nat} (hW : WB W B) (pl : Nat → Int) {b : Nat} (hb : b < bN B) (c : Nat) : 0 ≤ wt1 B pl b c ∧ wt1 B pl b c ≤ 19107613324800 := by
  have h1 := onL_le hW hb
  have h2 := onR_le hW hb
  unfold wt1
  split
  · omega
  · split <;> split <;> omega
theorem wtN_in {B : BM} {W : Nat} (hW : WB W B) (pl : Nat → Int) (c : Nat) : ∀ {n : Nat}, n ≤ bN B → 0 ≤ wtN B pl c n ∧ wtN B pl c n ≤ n * 19107613324800
  | 0, _ => ⟨Int.le_refl _, by show (0 : Int) ≤ ((0 : Nat) : Int) * 19107613324800; decide⟩
  | n + 1, h => by
    have ih := wtN_in hW pl c (n := n) (by omega)
    have h1 := wt1_in hW pl (b := n) (by omega) c
    show 0 ≤ wtN B pl c n + wt1 B pl n c ∧ wtN B pl c n + wt1 B pl n c ≤ _
    omega
theorem wt1_o {B : BM} {pl : Nat → Int} {b k c : Nat} {x : Int} (h : k ≠ b) : wt1 B (updf pl b x) k c = wt1 B pl k c := by
  unfold wt1
  rw [updf_o h]
theorem wtN_o {B : BM} {pl : Nat → Int} {b c : Nat} {x : Int} : ∀ {n : Nat}, n ≤ b → wtN B (updf pl b x) c n = wtN B pl c n
  | 0, _ => rfl
  | n + 1, h => by
    show wtN B (updf pl b x) c n + wt1 B (updf pl b x) n c = wtN B pl c n + wt1 B pl n c
    rw [wtN_o (n := n) (by omega), wt1_o (by omega)]
theorem wtN_drop {B : BM} {pl : Nat → Int} {b c : Nat} : ∀ {n : Nat}, b < n → wtN B (updf pl b (-1)) c n = wtN B pl c n - wt1 B pl b c
  | 0, h => by omega
  | n + 1, h => by
    show wtN B (updf pl b (-1)) c n + wt1 B (updf pl b (-1)) n c = wtN B pl c n + wt1 B pl n c - wt1 B pl b c
    by_cases k : b = n
    · subst k
      rw [wtN_o (Nat.le_refl _), show wt1 B (updf pl b (-1)) b c = 0 by unfold wt1; rw [updf_s, if_pos rfl]]
      omega
    · rw [wtN_drop (n := n) (by omega), wt1_o (by omega)]
      omega
theorem mvN_s (T : LN) (h : Nat) (pl : Nat → Int) (i : Nat) : mvN T h pl (i + 1) = if T.2.1 i = h ∧ ¬ mvN T h pl i (T.2.2.1 i) = -1 then updf (mvN T h pl i) (T.2.2.1 i) (T.2.2.2 i : Int) else mvN T h pl i := rfl
theorem mvN_lo {T : LN} {W h : Nat} {B : BM} {pl : Nat → Int} (hT : WT W B T) (hp : PLo W B pl) : ∀ {i : Nat}, i ≤ T.1 → PLo W B (mvN T h pl i) ∧ ∀ b, mvN T h pl i b = -1 ↔ pl b = -1
  | 0, _ => ⟨hp, fun _ => Iff.rfl⟩
  | i + 1, hi => by
    obtain ⟨ih, ih2⟩ := mvN_lo (h := h) hT hp (i := i) (by omega)
    have hm := hT.2 i (by omega)
    rw [mvN_s]
    split
    · rename_i hc
      refine ⟨fun b hb => ?_, fun b => ?_⟩
      · by_cases k : b = T.2.2.1 i
        · subst k; rw [updf_s]; omega
        · rw [updf_o k]; exact ih b hb
      · by_cases k : b = T.2.2.1 i
        · subst k; rw [updf_s]
          constructor
          · intro q; omega
          · intro q; exact absurd ((ih2 _).mpr q) hc.2
        · rw [updf_o k]; exact ih2 b
    · exact ⟨ih, ih2⟩
theorem mvD_DI {T : LN} {W h : Nat} {B : BM} {d : DS} (hT : WT W B T) (hd : DI W B d) : DI W B (mvD T h d) := by
  obtain ⟨h1, h2, h3, h4, h5, h6⟩ := hd
  obtain ⟨q1, q2⟩ := mvN_lo (h := h) hT h1 (Nat.le_refl T.1)
  refine ⟨q1, h2.trans (cntp_congr (fun j _ => decide_eq_decide.mpr (q2 j).symm)), fun b hb => (h3 b hb).trans (not_congr (q2 b).symm), fun b hb => ⟨(q2 b).mpr (h4 b hb).1, (h4 b hb).2⟩, h5, h6⟩
theorem drS_no {G : GP} {B : BM} {h b : Nat} {d : DS} (c : ¬ ovr G B h (dP d) b) : drS G B h b d = d := if_neg c
theorem drS_yes {G : GP} {B : BM} {h b : Nat} {d : DS} (c : ovr G B h (dP d) b) : drS G B h b d = (updf (dP d) b (-1), updf (dF d) b (h : Int), (fun i => if i = dN d then b else dO d i), dN d + 1) := if_pos c
theorem drS_DI {G : GP} {W : Nat} {B : BM} {h b : Nat} {d : DS} (hb : b < bN B) (hh : h < 24) (hW : WB W B) (hd : DI W B d) : DI W B (drS G B h b d) := by
  by_cases c : ovr G B h (dP d) b
  · obtain ⟨h1, h2, h3, h4, h5, h6⟩ := hd
    rw [drS_yes c]
    have hl := hW.L hb
    have hX := hW.X hb
    refine ⟨fun k hk => ?_, ?_, fun k hk => ?_, fun k hk => ?_, fun k hk => ?_, fun i hi => ?_⟩
    · show -1 ≤ updf (dP d) b (-1) k ∧ updf (dP d) b (-1) k + (bL B k : Int) ≤ W
      by_cases q : k = b
      · subst q; rw [updf_s]; omega
      · rw [updf_o q]; exact h1 k hk
    · show dN d + 1 = cntp (fun k => decide (updf (dP d) b (-1) k = -1)) (bN B)
      rw [h2]
      refine (cntp_up (b := b) (p := fun k => decide (dP d k = -1)) ?_ ?_ (fun j hj => ?_) hb).symm
      · simp only [decide_eq_true_eq]; exact c.1
      · simp only [updf_s, decide_eq_true_eq]
      · simp only [updf_o hj]
    · show updf (dF d) b (h : Int) k = -1 ↔ ¬ updf (dP d) b (-1) k = -1
      by_cases q : k = b
      · subst q; rw [updf_s, updf_s]; omega
      · rw [updf_o q, updf_o q]; exact h3 k hk
    · show updf (dP d) b (-1) k = -1 ∧ updf (dF d) b (h : Int) k = -1
      rw [updf_o (by omega), updf_o (by omega)]; exact h4 k hk
    · show -1 ≤ updf (dF d) b (h : Int) k ∧ updf (dF d) b (h : Int) k < 24
      by_cases q : k = b
      · subst q; rw [updf_s]; omega
      · rw [updf_o q]; exact h5 k hk
    · show (if i = dN d then b else dO d i) < bN B
      have hi' : i < dN d + 1 := hi
      split
      · exact hb
      · exact h6 i (by omega)
  · rw [drS_no c]; exact hd
theorem drN_s (G : GP) (B : BM) (h : Nat) (d : DS) (b : Nat) : drN G B h d (b + 1) = drS G B h b (drN G B h d b) := rfl
theorem drN_DI {G : GP} {W : Nat} {B : BM} {h : Nat} {d : DS} (hh : h < 24) (hW : WB W B) (hd : DI W B d) : ∀ {n : Nat}, n ≤ bN B → DI W B (drN G B h d n)
  | 0, _ => hd
  | n + 1, hn => drS_DI (by omega) hh hW (drN_DI hh hW hd (n := n) (by omega))
theorem d0_DI {W : Nat} {B : BM} (hW : WB W B) : DI W B (d0 B) := by
  refine ⟨fun b hb => ?_, ?_, fun b hb => ?_, fun b hb => ?_, fun b _ => ?_, fun i hi => ?_⟩
  · show -1 ≤ (if b < bN B then (bX B b : Int) else -1) ∧ (if b < bN B then (bX B b : Int) else -1) + (bL B b : Int) ≤ W
    rw [if_pos hb]
    have := hW.X hb
    omega
  · have key : ∀ n, n ≤ bN B → cntp (fun b => decide (dP (d0 B) b = -1)) n = 0 := by
      intro n
      induction n with
      | zero => intro _; rfl
      | succ n ih =>
        intro hn
        rw [cntp_s, ih (by omega), if_neg]
        simp only [decide_eq_true_eq]
        show ¬ (if n < bN B then (bX B n : Int) else -1) = -1
        rw [if_pos (by omega)]
        omega
    exact (key _ (Nat.le_refl _)).symm
  · show (-1 : Int) = -1 ↔ ¬ (if b < bN B then (bX B b : Int) else -1) = -1
    rw [if_pos hb]
    omega
  · show (if b < bN B then (bX B b : Int) else -1) = -1 ∧ (-1 : Int) = -1
    rw [if_neg (by omega)]
    exact ⟨rfl, rfl⟩
  · show -1 ≤ (-1 : Int) ∧ (-1 : Int) < 24
    decide
  · exact absurd hi (Nat.not_lt_zero i)
theorem dyP_s (G : GP) (B : BM) (T : LN) (h : Nat) : dyP G B T (h + 1) = hrP G B T h (dyP G B T h) := rfl
theorem dyP_DI {G : GP} {W : Nat} {B : BM} {T : LN} (hW : WB W B) (hT : WT W B T) : ∀ {n : Nat}, n ≤ 24 → DI W B (dyP G B T n)
  | 0, _ => d0_DI hW
  | n + 1, hn => drN_DI (by omega) hW (mvD_DI hT (dyP_DI hW hT (n := n) (by omega))) (Nat.le_refl _)
