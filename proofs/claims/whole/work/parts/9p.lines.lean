def addT (T : LN) (a b c : Nat) : LN := (T.1 + 1, pt1 T.2.1 T.1 a, pt1 T.2.2.1 T.1 b, pt1 T.2.2.2 T.1 c)
abbrev Lns : Type := TS × LN
/-- a move: its hour, beam, cell, the tape between them -/
def mv2 (B : Nat → Int) (n : Nat) (T : LN) (t : TS) : TS := if 16 ≤ T.1 then flT (nuT B n t 0 23) 3 else nuT B n t 0 23
def mvB (B : Nat → Int) (n : Nat) (P : SP) (T : LN) (t : TS) : Nat := nuV B n (mv2 B n T t) 0 (((bN (sB P) : Nat) : Int) - 1)
def mv3 (B : Nat → Int) (n : Nat) (P : SP) (T : LN) (t : TS) : TS := nuT B n (mv2 B n T t) 0 (((bN (sB P) : Nat) : Int) - 1)
def mvE (B : Nat → Int) (n : Nat) (P : SP) (T : LN) (t : TS) : Nat := nuV B n (mv3 B n P T t) 0 (((sW P : Nat) : Int) - ((bL (sB P) (mvB B n P T t) : Nat) : Int))
def mv4 (B : Nat → Int) (n : Nat) (P : SP) (T : LN) (t : TS) : TS := nuT B n (mv3 B n P T t) 0 (((sW P : Nat) : Int) - ((bL (sB P) (mvB B n P T t) : Nat) : Int))
def mv5 (B : Nat → Int) (n : Nat) (P : SP) (T : LN) (t : TS) : TS := tsT B n (mv4 B n P T t) 59
def mvL (B : Nat → Int) (n : Nat) (P : SP) (s : Lns) : Lns := (mv5 B n P s.2 s.1, if (mv5 B n P s.2 s.1).2.2.1 = 0 then addT s.2 (nuV B n s.1 0 23) (mvB B n P s.2 s.1) (mvE B n P s.2 s.1) else s.2)
def mvS (B : Nat → Int) (n : Nat) (P : SP) (s : Lns) : Lns := if goB B n s.1 then mvL B n P (goT B n s.1, s.2) else s
def ln0 : Lns := ((0, 0, 0, -1), (0, fun _ => 0, fun _ => 0, fun _ => 0))
def rdM (B : Nat → Int) (n : Nat) (P : SP) : Nat → Lns := itr (fun _ s => mvS B n P s) ln0
/-- a line of a book: its beam, its hour -/
def bk2 (B : Nat → Int) (n : Nat) (P : SP) (T : LN) (t : TS) : TS := if 8 ≤ T.1 then flT (nuT B n t 0 (((bN (sB P) : Nat) : Int) - 1)) 3 else nuT B n t 0 (((bN (sB P) : Nat) : Int) - 1)
def bk4 (B : Nat → Int) (n : Nat) (P : SP) (T : LN) (t : TS) : TS := tsT B n (nuT B n (bk2 B n P T t) 0 24) 59
def bkL (B : Nat → Int) (n : Nat) (P : SP) (s : Lns) : Lns := (bk4 B n P s.2 s.1, if (bk4 B n P s.2 s.1).2.2.1 = 0 then addT s.2 (nuV B n s.1 0 (((bN (sB P) : Nat) : Int) - 1)) (nuV B n (bk2 B n P s.2 s.1) 0 24) 0 else s.2)
def bkS (B : Nat → Int) (n : Nat) (P : SP) (s : Lns) : Lns := if goB B n s.1 then bkL B n P (goT B n s.1, s.2) else s
def rdB (B : Nat → Int) (n : Nat) (P : SP) : Nat → Lns := itr (fun _ s => bkS B n P s) ln0
theorem rdM_s (B : Nat → Int) (n : Nat) (P : SP) (k : Nat) : rdM B n P (k + 1) = mvS B n P (rdM B n P k) := rfl
theorem rdB_s (B : Nat → Int) (n : Nat) (P : SP) (k : Nat) : rdB B n P (k + 1) = bkS B n P (rdB B n P k) := rfl
theorem fl_no {t : TS} {k : Int} (hk : ¬ k = 0) {c : Prop} [Decidable c] {u : TS} (h : (if c then flT t k else u).2.2.1 = 0) : ¬ c ∧ u.2.2.1 = 0 := by
  by_cases d : c
  · rw [if_pos d] at h; exact absurd h (flT_fk hk)
  · rw [if_neg d] at h; exact ⟨d, h⟩
theorem mv5_ok {B : Nat → Int} {n : Nat} {P : SP} {T : LN} {t : TS} (h : (mv5 B n P T t).2.2.1 = 0) : T.1 < 16 ∧ t.2.2.1 = 0 ∧ nuV B n t 0 23 < 24 ∧ (mv3 B n P T t).2.2.1 = 0 ∧ mvB B n P T t < bN (sB P) ∧ mvE B n P T t + bL (sB P) (mvB B n P T t) ≤ sW P := by
  have q1 := (ts_ok h).1
  have q2 := nu_ok (show (nuT B n (mv3 B n P T t) 0 (((sW P : Nat) : Int) - ((bL (sB P) (mvB B n P T t) : Nat) : Int))).2.2.1 = 0 from q1)
  have q3 := nu_ok (show (nuT B n (mv2 B n T t) 0 (((bN (sB P) : Nat) : Int) - 1)).2.2.1 = 0 from q2.1)
  have q4 := fl_no (by decide) (show (if 16 ≤ T.1 then flT (nuT B n t 0 23) 3 else nuT B n t 0 23).2.2.1 = 0 from q3.1)
  have q5 := nu_ok q4.2
  have r2 := q2.2.1 (by decide)
  have r3 := q3.2.1 (by decide)
  have r5 := q5.2.1 (by decide)
  have e2 : ((mvE B n P T t : Nat) : Int) = ((nuV B n (mv3 B n P T t) 0 (((sW P : Nat) : Int) - ((bL (sB P) (mvB B n P T t) : Nat) : Int)) : Nat) : Int) := rfl
  have e3 : ((mvB B n P T t : Nat) : Int) = ((nuV B n (mv2 B n T t) 0 (((bN (sB P) : Nat) : Int) - 1) : Nat) : Int) := rfl
  exact ⟨by omega, q5.1, by omega, q2.1, by omega, by omega⟩
theorem bk4_ok {B : Nat → Int} {n : Nat} {P : SP} {T : LN} {t : TS} (h : (bk4 B n P T t).2.2.1 = 0) : T.1 < 8 ∧ t.2.2.1 = 0 ∧ nuV B n t 0 (((bN (sB P) : Nat) : Int) - 1) < bN (sB P) ∧ nuV B n (bk2 B n P T t) 0 24 ≤ 24 := by
  have q1 := (ts_ok h).1
  have q2 := nu_ok q1
  have q3 := fl_no (by decide) (show (if 8 ≤ T.1 then flT (nuT B n t 0 (((bN (sB P) : Nat) : Int) - 1)) 3 else nuT B n t 0 (((bN (sB P) : Nat) : Int) - 1)).2.2.1 = 0 from q2.1)
  have q4 := nu_ok q3.2
  have r2 := q2.2.1 (by decide)
  have r4 := q4.2.1 (by decide)
  exact ⟨by omega, q4.1, by omega, by omega⟩
theorem addT_a {T : LN} {a b c i : Nat} (h : i < T.1) : (addT T a b c).2.1 i = T.2.1 i ∧ (addT T a b c).2.2.1 i = T.2.2.1 i ∧ (addT T a b c).2.2.2 i = T.2.2.2 i := ⟨pt1_o (by omega), pt1_o (by omega), pt1_o (by omega)⟩
theorem addT_s (T : LN) (a b c : Nat) : (addT T a b c).2.1 T.1 = a ∧ (addT T a b c).2.2.1 T.1 = b ∧ (addT T a b c).2.2.2 T.1 = c := ⟨pt1_s _ _ _, pt1_s _ _ _, pt1_s _ _ _⟩
theorem addT_WT {W : Nat} {B : BM} {T : LN} {a b c : Nat} (h : WT W B T) (hn : T.1 < 16) (ha : a < 24) (hb : b < bN B) (hc : c + bL B b ≤ W) : WT W B (addT T a b c) := by
  refine ⟨hn, fun i hi => ?_⟩
  have hi' : i < T.1 + 1 := hi
  by_cases e : i = T.1
  · subst e
    obtain ⟨e1, e2, e3⟩ := addT_s T a b c
    rw [e1, e2, e3]; exact ⟨ha, hb, hc⟩
  · obtain ⟨e1, e2, e3⟩ := addT_a (T := T) (a := a) (b := b) (c := c) (i := i) (by omega)
    rw [e1, e2, e3]; exact h.2 i (by omega)
theorem addT_WK {P : SP} {T : LN} {a b : Nat} (h : WK P T) (hn : T.1 < 8) (ha : a < bN (sB P)) (hb : b ≤ 24) : WK P (addT T a b 0) := by
  refine ⟨hn, fun i hi => ?_⟩
  have hi' : i < T.1 + 1 := hi
  by_cases e : i = T.1
  · subst e
    obtain ⟨e1, e2, e3⟩ := addT_s T a b 0
    rw [e1, e2]; exact ⟨ha, hb⟩
  · obtain ⟨e1, e2, e3⟩ := addT_a (T := T) (a := a) (b := b) (c := 0) (i := i) (by omega)
    rw [e1, e2]; exact h.2 i (by omega)
/-- so long as it goes on there is a line more each time -/
theorem rdM_n (B : Nat → Int) (n : Nat) (P : SP) : ∀ k, (rdM B n P k).1.2.2.1 = 0 → WT (sW P) (sB P) (rdM B n P k).2 ∧ ((rdM B n P k).2.1 = k ∨ ¬ goB B n (rdM B n P k).1)
  | 0, _ => ⟨⟨Nat.zero_le _, fun i hi => absurd hi (Nat.not_lt_zero i)⟩, Or.inl rfl⟩
  | k + 1, h => by
    rw [rdM_s] at *
    unfold mvS at *
    by_cases c : goB B n (rdM B n P k).1
    · rw [if_pos c] at *
      obtain ⟨i1, i2⟩ := rdM_n B n P k c.1
      have h5 : (mv5 B n P (rdM B n P k).2 (goT B n (rdM B n P k).1)).2.2.1 = 0 := h
      have q := mv5_ok h5
      show WT (sW P) (sB P) (if (mv5 B n P (rdM B n P k).2 (goT B n (rdM B n P k).1)).2.2.1 = 0 then _ else _) ∧ (Prod.fst (if (mv5 B n P (rdM B n P k).2 (goT B n (rdM B n P k).1)).2.2.1 = 0 then _ else _) = k + 1 ∨ _)
      rw [if_pos h5]
      refine ⟨addT_WT i1 q.1 q.2.2.1 q.2.2.2.2.1 q.2.2.2.2.2, Or.inl ?_⟩
      show (rdM B n P k).2.1 + 1 = k + 1
      rcases i2 with e | e
      · omega
      · exact absurd c e
    · rw [if_neg c] at *
      obtain ⟨i1, i2⟩ := rdM_n B n P k h
      exact ⟨i1, Or.inr c⟩
theorem rdM_end (B : Nat → Int) (n : Nat) (P : SP) (m : Nat) (hm : m = 16 + 1) : ¬ goB B n (rdM B n P m).1 := fun c => by
  obtain ⟨i1, i2⟩ := rdM_n B n P m c.1
  have := i1.1
  rcases i2 with e | e
  · omega
  · exact e c
theorem rdM_stay {B : Nat → Int} {n : Nat} {P : SP} {k : Nat} (h : ¬ goB B n (rdM B n P k).1) : ∀ m, rdM B n P (k + m) = rdM B n P k
  | 0 => rfl
  | m + 1 => by
    have e := rdM_stay h m
    show mvS B n P (rdM B n P (k + m)) = _
    rw [e]
    unfold mvS
    rw [if_neg h]
/-- so long as it goes on there is a line more each time -/
theorem rdB_n (B : Nat → Int) (n : Nat) (P : SP) : ∀ k, (rdB B n P k).1.2.2.1 = 0 → WK P (rdB B n P k).2 ∧ ((rdB B n P k).2.1 = k ∨ ¬ goB B n (rdB B n P k).1)
  | 0, _ => ⟨⟨Nat.zero_le _, fun i hi => absurd hi (Nat.not_lt_zero i)⟩, Or.inl rfl⟩
  | k + 1, h => by
    rw [rdB_s] at *
    unfold bkS at *
    by_cases c : goB B n (rdB B n P k).1
    · rw [if_pos c] at *
      obtain ⟨i1, i2⟩ := rdB_n B n P k c.1
      have h5 : (bk4 B n P (rdB B n P k).2 (goT B n (rdB B n P k).1)).2.2.1 = 0 := h
      have q := bk4_ok h5
      show WK P (if (bk4 B n P (rdB B n P k).2 (goT B n (rdB B n P k).1)).2.2.1 = 0 then _ else _) ∧ (Prod.fst (if (bk4 B n P (rdB B n P k).2 (goT B n (rdB B n P k).1)).2.2.1 = 0 then _ else _) = k + 1 ∨ _)
      rw [if_pos h5]
      refine ⟨addT_WK i1 q.1 q.2.2.1 q.2.2.2, Or.inl ?_⟩
      show (rdB B n P k).2.1 + 1 = k + 1
      rcases i2 with e | e
      · omega
      · exact absurd c e
    · rw [if_neg c] at *
      obtain ⟨i1, i2⟩ := rdB_n B n P k h
      exact ⟨i1, Or.inr c⟩
theorem rdB_end (B : Nat → Int) (n : Nat) (P : SP) (m : Nat) (hm : m = 8 + 1) : ¬ goB B n (rdB B n P m).1 := fun c => by
  obtain ⟨i1, i2⟩ := rdB_n B n P m c.1
  have := i1.1
  rcases i2 with e | e
  · omega
  · exact e c
theorem rdB_stay {B : Nat → Int} {n : Nat} {P : SP} {k : Nat} (h : ¬ goB B n (rdB B n P k).1) : ∀ m, rdB B n P (k + m) = rdB B n P k
  | 0 => rfl
  | m + 1 => by
    have e := rdB_stay h m
    show bkS B n P (rdB B n P (k + m)) = _
    rw [e]
    unfold bkS
    rw [if_neg h]
theorem FK_rdM (B : Nat → Int) (n : Nat) (P : SP) : ∀ k, FK (rdM B n P k).1
  | 0 => (by decide : (0 : Int) ≤ 0 ∧ (0 : Int) ≤ 4)
  | k + 1 => by
    have ih := FK_rdM B n P k
    rw [rdM_s]
    unfold mvS
    split
    · refine FK.ts (FK.nu (FK.nu ?_))
      unfold mv2
      split
      · exact ih.go.nu.fl (by decide)
      · exact ih.go.nu
    · exact ih
theorem FK_rdB (B : Nat → Int) (n : Nat) (P : SP) : ∀ k, FK (rdB B n P k).1
  | 0 => (by decide : (0 : Int) ≤ 0 ∧ (0 : Int) ≤ 4)
  | k + 1 => by
    have ih := FK_rdB B n P k
    rw [rdB_s]
    unfold bkS
    split
    · refine FK.ts (FK.nu ?_)
      unfold bk2
      split
      · exact ih.go.nu.fl (by decide)
      · exact ih.go.nu
    · exact ih
/-- only the tape's reading and some rows have changed -/
def DR (a b : Nat) (E E1 : Mm) : Prop := (∀ q, q ≠ 1 → ¬ (a ≤ q ∧ q ≤ b) → E1 q = E q) ∧ ∀ k, ¬ (3 ≤ k ∧ k ≤ 6) → E1 1 k = E 1 k
theorem DR.rf {a b : Nat} {E : Mm} : DR a b E E := ⟨fun _ _ _ => rfl, fun _ _ => rfl⟩
theorem DR.tr {a b : Nat} {E E1 E2 : Mm} (h : DR a b E E1) (h2 : DR a b E1 E2) : DR a b E E2 := ⟨fun q x y => (h2.1 q x y).trans (h.1 q x y), fun k hk => (h2.2 k hk).trans (h.2 k hk)⟩
theorem TF.dr {a b : Nat} {E E1 : Mm} (h : TF E E1) : DR a b E E1 := ⟨fun q x _ => h.1 q x, h.2⟩
theorem CN_add {E : Mm} {q : Nat} {T : LN} {a b c : Nat} (h : CN E q T) : CN (wr (wr (wr (wr E (q + 1) T.1 (a : Int)) (q + 2) T.1 (b : Int)) (q + 3) T.1 (c : Int)) q 3 ((T.1 + 1 : Nat) : Int)) q (addT T a b c) := by
  refine ⟨wr_s _ _ _ _, fun i hi => ?_⟩
  have hi' : i < T.1 + 1 := hi
  by_cases e : i = T.1
  · subst e
    obtain ⟨e1, e2, e3⟩ := addT_s T a b c
    rw [e1, e2, e3]
    exact ⟨by simp (disch := omega) only [wr_o, wr_s], by simp (disch := omega) only [wr_o, wr_s], by simp (disch := omega) only [wr_o, wr_s]⟩
  · obtain ⟨e1, e2, e3⟩ := addT_a (T := T) (a := a) (b := b) (c := c) (i := i) (by omega)
    obtain ⟨g1, g2, g3⟩ := h.2 i (by omega)
    rw [e1, e2, e3]
    exact ⟨by simp (disch := omega) only [wr_o]; exact g1, by simp (disch := omega) only [wr_o]; exact g2, by simp (disch := omega) only [wr_o]; exact g3⟩
theorem dX8_add_0 : decode cX8_add 0 = .ok (.aload_n 0, 1) := by decide +kernel
theorem dX8_add_1 : decode cX8_add 1 = .ok (.getfield 21, 3) := by decide +kernel
theorem dX8_add_4 : decode cX8_add 4 = .ok (.bipush 16, 2) := by decide +kernel
theorem dX8_add_6 : decode cX8_add 6 = .ok (.if_icmp .ge 43, 3) := by decide +kernel
theorem dX8_add_9 : decode cX8_add 9 = .ok (.aload_n 0, 1) := by decide +kernel
theorem dX8_add_10 : decode cX8_add 10 = .ok (.getfield 9, 3) := by decide +kernel
theorem dX8_add_13 : decode cX8_add 13 = .ok (.aload_n 0, 1) := by decide +kernel
theorem dX8_add_14 : decode cX8_add 14 = .ok (.getfield 21, 3) := by decide +kernel
theorem dX8_add_17 : decode cX8_add 17 = .ok (.iload_n 1, 1) := by decide +kernel
theorem dX8_add_18 : decode cX8_add 18 = .ok (.iastore, 1) := by decide +kernel
theorem dX8_add_19 : decode cX8_add 19 = .ok (.aload_n 0, 1) := by decide +kernel
theorem dX8_add_20 : decode cX8_add 20 = .ok (.getfield 15, 3) := by decide +kernel
theorem dX8_add_23 : decode cX8_add 23 = .ok (.aload_n 0, 1) := by decide +kernel
theorem dX8_add_24 : decode cX8_add 24 = .ok (.getfield 21, 3) := by decide +kernel
theorem dX8_add_27 : decode cX8_add 27 = .ok (.iload_n 2, 1) := by decide +kernel
theorem dX8_add_28 : decode cX8_add 28 = .ok (.iastore, 1) := by decide +kernel
theorem dX8_add_29 : decode cX8_add 29 = .ok (.aload_n 0, 1) := by decide +kernel
theorem dX8_add_30 : decode cX8_add 30 = .ok (.getfield 18, 3) := by decide +kernel
theorem dX8_add_33 : decode cX8_add 33 = .ok (.aload_n 0, 1) := by decide +kernel
theorem dX8_add_34 : decode cX8_add 34 = .ok (.getfield 21, 3) := by decide +kernel
theorem dX8_add_37 : decode cX8_add 37 = .ok (.iload_n 3, 1) := by decide +kernel
theorem dX8_add_38 : decode cX8_add 38 = .ok (.iastore, 1) := by decide +kernel
theorem dX8_add_39 : decode cX8_add 39 = .ok (.aload_n 0, 1) := by decide +kernel
theorem dX8_add_40 : decode cX8_add 40 = .ok (.dup, 1) := by decide +kernel
theorem dX8_add_41 : decode cX8_add 41 = .ok (.getfield 21, 3) := by decide +kernel
theorem dX8_add_44 : decode cX8_add 44 = .ok (.iconst 1, 1) := by decide +kernel
theorem dX8_add_45 : decode cX8_add 45 = .ok (.iadd, 1) := by decide +kernel
theorem dX8_add_46 : decode cX8_add 46 = .ok (.putfield 21, 3) := by decide +kernel
theorem dX8_add_49 : decode cX8_add 49 = .ok (.return_, 1) := by decide +kernel
theorem ct_X8_add {g : Gw} (hG : GF g) {z : Bool} (E : Mm) (m a b c : Nat) (hm : E 20 3 = ((m : Nat) : Int)) (hm16 : m ≤ 16) : CT g yX8_add cX8_add 4 none 0 0 0 0 K2 z [mR 20, mI ((a : Nat) : Int), mI ((b : Nat) : Int), mI ((c : Nat) : Int)] (ov E) K2 z (fun r D' => r = none ∧ D' = ov (if m < 16 then wr (wr (wr (wr E 21 m (a : Int)) 22 m (b : Int)) 23 m (c : Int)) 20 3 ((m + 1 : Nat) : Int) else E)) := by
  refine CT.mk hG (by decide +kernel) (Nat.le_of_ble_eq_true rfl) (fun κ X Rt _ ok => ?_)
  refine at_aload_n 1 X rfl rfl dX8_add_0 rfl ?_
  refine m_getIV 4 X ((m : Nat) : Int) hm f_X8_21 k_20 rn_20_3 dX8_add_1 rfl ?_
  refine at_bipush 6 X (by decide) (by decide) dX8_add_4 rfl ?_
  refine at_icmp_ge 9 49 X dX8_add_6 rfl (by decide) (fun h6 => ?_) (fun h6 => ?_)
  · refine at_vret X Rt ?_ (Nat.le_refl _) (Nat.le_refl _) dX8_add_49
    exact ⟨rfl, by rw [if_neg (by omega)]⟩
  · refine at_aload_n 10 X rfl rfl dX8_add_9 rfl ?_
    refine m_getR 13 X f_X8_9 k_20 r_20_0 dX8_add_10 rfl ?_
    refine at_aload_n 14 X rfl rfl dX8_add_13 rfl ?_
    refine m_getIV 17 X ((m : Nat) : Int) hm f_X8_21 k_20 rn_20_3 dX8_add_14 rfl ?_
    refine at_iload_n 18 X rfl rfl dX8_add_17 rfl ?_
    refine m_iastoreV 19 X m (by omega) k_21 e_21 (by omega) dX8_add_18 rfl ?_
    refine at_aload_n 20 X rfl rfl dX8_add_19 rfl ?_
    refine m_getR 23 X f_X8_15 k_20 r_20_1 dX8_add_20 rfl ?_
    refine at_aload_n 24 X rfl rfl dX8_add_23 rfl ?_
    refine m_getIV 27 X ((m : Nat) : Int) ((wr_o (by omega)).trans hm) f_X8_21 k_20 rn_20_3 dX8_add_24 rfl ?_
    refine at_iload_n 28 X rfl rfl dX8_add_27 rfl ?_
    refine m_iastoreV 29 X m (by omega) k_22 e_22 (by omega) dX8_add_28 rfl ?_
    refine at_aload_n 30 X rfl rfl dX8_add_29 rfl ?_
    refine m_getR 33 X f_X8_18 k_20 r_20_2 dX8_add_30 rfl ?_
    refine at_aload_n 34 X rfl rfl dX8_add_33 rfl ?_
    refine m_getIV 37 X ((m : Nat) : Int) ((wr_o (by omega)).trans ((wr_o (by omega)).trans hm)) f_X8_21 k_20 rn_20_3 dX8_add_34 rfl ?_
    refine at_iload_n 38 X rfl rfl dX8_add_37 rfl ?_
    refine m_iastoreV 39 X m (by omega) k_23 e_23 (by omega) dX8_add_38 rfl ?_
    refine at_aload_n 40 X rfl rfl dX8_add_39 rfl ?_
    refine at_dup 41 X (show ¬ (2 : Nat) = 1 by decide) dX8_add_40 rfl ?_
    refine m_getIV 44 X ((m : Nat) : Int) ((wr_o (by omega)).trans ((wr_o (by omega)).trans ((wr_o (by omega)).trans hm))) f_X8_21 k_20 rn_20_3 dX8_add_41 rfl ?_
    refine at_iconst 45 X (by decide) dX8_add_44 rfl ?_
    refine at_iaddV 46 X ((m + 1 : Nat) : Int) (w32_v (by omega) (by omega) (by omega)) dX8_add_45 rfl ?_
    refine m_putI 49 X f_X8_21 fw_8_3 k_20 rn_20_3 dX8_add_46 rfl ?_
    refine at_vret X Rt ?_ (Nat.le_refl _) (Nat.le_refl _) dX8_add_49
    exact ⟨rfl, by rw [if_pos (by omega)]⟩
theorem dX8_readMoves_0 : decode cX8_readMoves 0 = .ok (.aload_n 0, 1) := by decide +kernel
theorem dX8_readMoves_1 : decode cX8_readMoves 1 = .ok (.iconst 0, 1) := by decide +kernel
theorem dX8_readMoves_2 : decode cX8_readMoves 2 = .ok (.putfield 21, 3) := by decide +kernel
theorem dX8_readMoves_5 : decode cX8_readMoves 5 = .ok (.iconst 0, 1) := by decide +kernel
theorem dX8_readMoves_6 : decode cX8_readMoves 6 = .ok (.istore_n 3, 1) := by decide +kernel
theorem dX8_readMoves_7 : decode cX8_readMoves 7 = .ok (.iload_n 3, 1) := by decide +kernel
theorem dX8_readMoves_8 : decode cX8_readMoves 8 = .ok (.bipush 16, 2) := by decide +kernel
theorem dX8_readMoves_10 : decode cX8_readMoves 10 = .ok (.if_icmp .gt 90, 3) := by decide +kernel
theorem dX8_readMoves_13 : decode cX8_readMoves 13 = .ok (.aload_n 1, 1) := by decide +kernel
theorem dX8_readMoves_14 : decode cX8_readMoves 14 = .ok (.invokevirtual 31, 3) := by decide +kernel
theorem dX8_readMoves_17 : decode cX8_readMoves 17 = .ok (.ifCond .eq 83, 3) := by decide +kernel
theorem dX8_readMoves_20 : decode cX8_readMoves 20 = .ok (.aload_n 1, 1) := by decide +kernel
theorem dX8_readMoves_21 : decode cX8_readMoves 21 = .ok (.iconst 0, 1) := by decide +kernel
theorem dX8_readMoves_22 : decode cX8_readMoves 22 = .ok (.bipush 23, 2) := by decide +kernel
theorem dX8_readMoves_24 : decode cX8_readMoves 24 = .ok (.invokevirtual 37, 3) := by decide +kernel
theorem dX8_readMoves_27 : decode cX8_readMoves 27 = .ok (.istore 4, 2) := by decide +kernel
theorem dX8_readMoves_29 : decode cX8_readMoves 29 = .ok (.iload_n 3, 1) := by decide +kernel
theorem dX8_readMoves_30 : decode cX8_readMoves 30 = .ok (.bipush 16, 2) := by decide +kernel
theorem dX8_readMoves_32 : decode cX8_readMoves 32 = .ok (.if_icmp .lt 8, 3) := by decide +kernel
theorem dX8_readMoves_35 : decode cX8_readMoves 35 = .ok (.aload_n 1, 1) := by decide +kernel
theorem dX8_readMoves_36 : decode cX8_readMoves 36 = .ok (.iconst 3, 1) := by decide +kernel
theorem dX8_readMoves_37 : decode cX8_readMoves 37 = .ok (.invokevirtual 41, 3) := by decide +kernel
theorem dX8_readMoves_40 : decode cX8_readMoves 40 = .ok (.aload_n 1, 1) := by decide +kernel
theorem dX8_readMoves_41 : decode cX8_readMoves 41 = .ok (.iconst 0, 1) := by decide +kernel
theorem dX8_readMoves_42 : decode cX8_readMoves 42 = .ok (.aload_n 2, 1) := by decide +kernel
theorem dX8_readMoves_43 : decode cX8_readMoves 43 = .ok (.getfield 45, 3) := by decide +kernel
theorem dX8_readMoves_46 : decode cX8_readMoves 46 = .ok (.getfield 51, 3) := by decide +kernel
theorem dX8_readMoves_49 : decode cX8_readMoves 49 = .ok (.iconst 1, 1) := by decide +kernel
theorem dX8_readMoves_50 : decode cX8_readMoves 50 = .ok (.isub, 1) := by decide +kernel
theorem dX8_readMoves_51 : decode cX8_readMoves 51 = .ok (.invokevirtual 37, 3) := by decide +kernel
theorem dX8_readMoves_54 : decode cX8_readMoves 54 = .ok (.istore 5, 2) := by decide +kernel
theorem dX8_readMoves_56 : decode cX8_readMoves 56 = .ok (.aload_n 1, 1) := by decide +kernel
theorem dX8_readMoves_57 : decode cX8_readMoves 57 = .ok (.iconst 0, 1) := by decide +kernel
theorem dX8_readMoves_58 : decode cX8_readMoves 58 = .ok (.aload_n 2, 1) := by decide +kernel
theorem dX8_readMoves_59 : decode cX8_readMoves 59 = .ok (.getfield 54, 3) := by decide +kernel
theorem dX8_readMoves_62 : decode cX8_readMoves 62 = .ok (.aload_n 2, 1) := by decide +kernel
theorem dX8_readMoves_63 : decode cX8_readMoves 63 = .ok (.getfield 45, 3) := by decide +kernel
theorem dX8_readMoves_66 : decode cX8_readMoves 66 = .ok (.getfield 57, 3) := by decide +kernel
theorem dX8_readMoves_69 : decode cX8_readMoves 69 = .ok (.iload 5, 2) := by decide +kernel
theorem dX8_readMoves_71 : decode cX8_readMoves 71 = .ok (.iaload, 1) := by decide +kernel
theorem dX8_readMoves_72 : decode cX8_readMoves 72 = .ok (.isub, 1) := by decide +kernel
theorem dX8_readMoves_73 : decode cX8_readMoves 73 = .ok (.invokevirtual 37, 3) := by decide +kernel
theorem dX8_readMoves_76 : decode cX8_readMoves 76 = .ok (.istore 6, 2) := by decide +kernel
theorem dX8_readMoves_78 : decode cX8_readMoves 78 = .ok (.aload_n 1, 1) := by decide +kernel
theorem dX8_readMoves_79 : decode cX8_readMoves 79 = .ok (.bipush 59, 2) := by decide +kernel
theorem dX8_readMoves_81 : decode cX8_readMoves 81 = .ok (.invokevirtual 60, 3) := by decide +kernel
theorem dX8_readMoves_84 : decode cX8_readMoves 84 = .ok (.aload_n 0, 1) := by decide +kernel
theorem dX8_readMoves_85 : decode cX8_readMoves 85 = .ok (.iload 4, 2) := by decide +kernel
theorem dX8_readMoves_87 : decode cX8_readMoves 87 = .ok (.iload 5, 2) := by decide +kernel
theorem dX8_readMoves_89 : decode cX8_readMoves 89 = .ok (.iload 6, 2) := by decide +kernel
theorem dX8_readMoves_91 : decode cX8_readMoves 91 = .ok (.invokevirtual 64, 3) := by decide +kernel
theorem dX8_readMoves_94 : decode cX8_readMoves 94 = .ok (.iinc 3 1, 3) := by decide +kernel
theorem dX8_readMoves_97 : decode cX8_readMoves 97 = .ok (.goto (-90), 3) := by decide +kernel
theorem dX8_readMoves_100 : decode cX8_readMoves 100 = .ok (.return_, 1) := by decide +kernel
theorem ct_X8_readMoves {g : Gw} (hG : GF g) {z : Bool} (E : Mm) (B : Nat → Int) (n : Nat) (hT_E : TP E B n (0, 0, 0, -1)) (s : Nat) (hs : s = 68 ∨ s = 83) (P : SP) (hP : WS P) (hS : CS E s P) : CT g yX8_readMoves cX8_readMoves 7 none 2 45 0 0 K2 z [mR 20, mR 1, mR s] (ov E) K2 z (fun r D' => r = none ∧ ∃ E1, D' = ov E1 ∧ ∃ t', TP E1 B n t' ∧ t'.2.2 = (rdM B n P 17).1.2.2 ∧ (t'.2.2.1 = 0 → CN E1 20 (rdM B n P 17).2) ∧ DR 20 23 E E1) := by
  refine CT.mk hG (by decide +kernel) (Nat.le_of_ble_eq_true rfl) (fun κ X Rt _ ok => ?_)
  have hW40 := hP.W
  have hN8 := hP.B.N
  refine at_aload_n 1 X rfl rfl dX8_readMoves_0 rfl ?_
  refine at_iconst 2 X (by decide) dX8_readMoves_1 rfl ?_
  refine m_putI 5 X f_X8_21 fw_8_3 k_20 rn_20_3 dX8_readMoves_2 rfl ?_
  refine at_iconst 6 X (by decide) dX8_readMoves_5 rfl ?_
  refine at_istore_n 7 X rfl dX8_readMoves_6 rfl (by decide) ?_
  have J7 : ∀ (f7 : Nat) (F : Mm) (i : Nat), 18 - i < f7 → (i ≤ 17) → (TP F B n (rdM B n P i).1) → ((rdM B n P i).1.2.2.1 = 0 → CN F 20 (rdM B n P i).2) → (DR 20 23 E F) → ((∀ j, j < i → goB B n (rdM B n P j).1)) → AT g κ K2 z 0 0 7 [(0, mR 20), (1, mR 1), (2, mR s), (3, mI ((i : Nat) : Int))] [] (ov F) := by
    intro f7
    induction f7 with
    | zero => intro F i hf7; omega
    | succ f7 ih7 =>
    intro F i hf7 hi hT_F hS_F hd_F hgo
    refine at_iload_n 8 X rfl rfl dX8_readMoves_7 rfl ?_
    refine at_bipush 10 X (by decide) (by decide) dX8_readMoves_8 rfl ?_
    refine at_icmp_gt 13 100 X dX8_readMoves_10 rfl (by decide) (fun h10 => ?_) (fun h10 => ?_)
    · refine at_vret X Rt ?_ (Nat.le_refl _) (Nat.le_refl _) dX8_readMoves_100
      exact ⟨rfl, F, rfl, (rdM B n P i).1, hT_F, by rw [show 17 = i by omega], fun q => by rw [show 17 = i by omega]; exact hS_F q, hd_F⟩
    · refine at_aload_n 14 X rfl rfl dX8_readMoves_13 rfl ?_
      refine at_callV 17 X _ 10 (c10_goesOn hG F B n (rdM B n P i).1 hT_F) clX10 rfl k_1 mo_X10_goesOn w_1168 vo_X10_goesOn.1 vo_X10_goesOn.2 rfl rfl (crm Rt (by decide)) (Nat.le_of_ble_eq_true rfl) dX8_readMoves_14 rfl ?_
      rintro _ _ ⟨rfl, G1, rfl, hT_G1, hf_G1⟩
      have hd_G1 : DR 20 23 E G1 := hd_F.tr hf_G1.dr
      refine at_if_eq 20 100 X dX8_readMoves_17 rfl (by decide) (fun h17 => ?_) (fun h17 => ?_)
      · have h17 : ¬ ((rdM B n P i).1.2.2.1 = 0 ∧ sk B n (rdM B n P i).1.1 < n) := ite_no.mp h17
        refine at_vret X Rt ?_ (Nat.le_refl _) (Nat.le_refl _) dX8_readMoves_100
        have e17 : rdM B n P 17 = rdM B n P i := by rw [show 17 = i + (17 - i) by omega]; exact rdM_stay (by rintro ⟨q1, q2⟩; exact h17 ⟨q1, q2⟩) _
        exact ⟨rfl, G1, rfl, goT B n (rdM B n P i).1, hT_G1, by rw [e17, go_fk], fun q => by rw [e17]; rw [go_fk] at q; exact (hS_F q).fr (fun q a b => hf_G1.1 q (by omega)), hd_G1⟩
      · have h17 : ((rdM B n P i).1.2.2.1 = 0 ∧ sk B n (rdM B n P i).1.1 < n) := ite_yes.mp h17
        refine at_aload_n 21 X rfl rfl dX8_readMoves_20 rfl ?_
        refine at_iconst 22 X (by decide) dX8_readMoves_21 rfl ?_
        refine at_bipush 24 X (by decide) (by decide) dX8_readMoves_22 rfl ?_
        refine at_callV 27 X _ 10 (c10_num hG G1 B n ((goT B n (rdM B n P i).1)) hT_G1 0 23 (by omega)) clX10 rfl k_1 mo_X10_takeNumber w_1169 vo_X10_takeNumber.1 vo_X10_takeNumber.2 rfl rfl (crm Rt (by decide)) (Nat.le_of_ble_eq_true rfl) dX8_readMoves_24 rfl ?_
        rintro _ _ ⟨rfl, G2, rfl, hT_G2, hf_G2⟩
        have hd_G2 : DR 20 23 E G2 := hd_G1.tr hf_G2.dr
        have hA23 := nu_in (B := B) (n := n) (t := (goT B n (rdM B n P i).1)) (lo := 0) (hi := 23) (by omega)
        refine at_istore 29 X dX8_readMoves_27 rfl (by decide) ?_
        have J40 : ∀ (G3 : Mm), (TP G3 B n (mv2 B n (rdM B n P i).2 (goT B n (rdM B n P i).1))) → (DR 20 23 E G3) → (G3 20 3 = F 20 3) → (∀ r, 20 ≤ r → r ≤ 20 + 3 → G3 r = F r) → AT g κ K2 z 0 0 40 [(0, mR 20), (1, mR 1), (2, mR s), (3, mI ((i : Nat) : Int)), (4, mI ((nuV B n (goT B n (rdM B n P i).1) 0 23 : Nat) : Int))] [] (ov G3) := by
          intro G3 hT_G3 hd_G3 h20_G3 hrr_G3
          refine at_aload_n 41 X rfl rfl dX8_readMoves_40 rfl ?_
          refine at_iconst 42 X (by decide) dX8_readMoves_41 rfl ?_
          refine at_aload_n 43 X rfl rfl dX8_readMoves_42 rfl ?_
          refine m_getR 46 X f_X8_45 (kX9 hs) (rX9_7 hs) dX8_readMoves_43 rfl ?_
          refine m_getIV 49 X ((bN (sB P) : Nat) : Int) ((congrFun (hd_G3.1 (s + 8) (by omega) (by omega)) 6).trans hS.B.N) f_X8_51 (kX0 (iB_8 hs)) (nX0_6 (iB_8 hs)) dX8_readMoves_46 rfl ?_
          refine at_iconst 50 X (by decide) dX8_readMoves_49 rfl ?_
          refine at_isubV 51 X (((bN (sB P) : Nat) : Int) - 1) (w32_v rfl (by omega) (by omega)) dX8_readMoves_50 rfl ?_
          refine at_callV 54 X _ 10 (c10_num hG G3 B n (mv2 B n (rdM B n P i).2 (goT B n (rdM B n P i).1)) hT_G3 0 (((bN (sB P) : Nat) : Int) - 1) (by omega)) clX10 rfl k_1 mo_X10_takeNumber w_1169 vo_X10_takeNumber.1 vo_X10_takeNumber.2 rfl rfl (crm Rt (by decide)) (Nat.le_of_ble_eq_true rfl) dX8_readMoves_51 rfl ?_
          rintro _ _ ⟨rfl, G4, rfl, hT_G4, hf_G4⟩
          have hd_G4 : DR 20 23 E G4 := hd_G3.tr hf_G4.dr
          have hb0 := nu_in (B := B) (n := n) (t := mv2 B n (rdM B n P i).2 (goT B n (rdM B n P i).1)) (lo := 0) (hi := ((bN (sB P) : Nat) : Int) - 1) (by omega)
          have hbe : ((mvB B n P (rdM B n P i).2 (goT B n (rdM B n P i).1) : Nat) : Int) = ((nuV B n (mv2 B n (rdM B n P i).2 (goT B n (rdM B n P i).1)) 0 (((bN (sB P) : Nat) : Int) - 1) : Nat) : Int) := rfl
          refine at_istore 56 X dX8_readMoves_54 rfl (by decide) ?_
          refine at_aload_n 57 X rfl rfl dX8_readMoves_56 rfl ?_
          refine at_iconst 58 X (by decide) dX8_readMoves_57 rfl ?_
          refine at_aload_n 59 X rfl rfl dX8_readMoves_58 rfl ?_
          refine m_getIV 62 X ((sW P : Nat) : Int) ((congrFun (hd_G4.1 s (by omega) (by omega)) 8).trans hS.W) f_X8_54 (kX9 hs) (nX9_8 hs) dX8_readMoves_59 rfl ?_
          refine at_aload_n 63 X rfl rfl dX8_readMoves_62 rfl ?_
          refine m_getR 66 X f_X8_45 (kX9 hs) (rX9_7 hs) dX8_readMoves_63 rfl ?_
          refine m_getR 69 X f_X8_57 (kX0 (iB_8 hs)) (rX0_1 (iB_8 hs)) dX8_readMoves_66 rfl ?_
          refine at_iload 71 X rfl dX8_readMoves_69 rfl ?_
          have hb8 : mvB B n P (rdM B n P i).2 (goT B n (rdM B n P i).1) < 8 := by have := hP.B.N; omega
          obtain ⟨vL, hvL⟩ : ∃ v, G4 (s + 8 + 2) (mvB B n P (rdM B n P i).2 (goT B n (rdM B n P i).1)) = v := ⟨_, rfl⟩
          have hvb : (mv3 B n P (rdM B n P i).2 (goT B n (rdM B n P i).1)).2.2.1 = 0 → vL = ((bL (sB P) (mvB B n P (rdM B n P i).2 (goT B n (rdM B n P i).1)) : Nat) : Int) := fun h0 => by
            have hb := (nu_ok (show (nuT B n (mv2 B n (rdM B n P i).2 (goT B n (rdM B n P i).1)) 0 (((bN (sB P) : Nat) : Int) - 1)).2.2.1 = 0 from h0)).2.1 (by decide)
            rw [← hvL, hd_G4.1 (s + 8 + 2) (by omega) (by omega)]
            exact hS.B.L (by omega)
          refine m_ialoadV 72 X (mvB B n P (rdM B n P i).2 (goT B n (rdM B n P i).1)) (by omega) vL hvL (kX0_1 (iB_8 hs)) (eX0_1 (iB_8 hs)) (by omega) dX8_readMoves_71 rfl ?_
          refine at_isubV 73 X (w32 (((sW P : Nat) : Int) - vL)) rfl dX8_readMoves_72 rfl ?_
          refine at_callV 76 X _ 10 (c10_num hG G4 B n (mv3 B n P (rdM B n P i).2 (goT B n (rdM B n P i).1)) hT_G4 0 (w32 (((sW P : Nat) : Int) - vL)) (by omega)) clX10 rfl k_1 mo_X10_takeNumber w_1169 vo_X10_takeNumber.1 vo_X10_takeNumber.2 rfl rfl (crm Rt (by decide)) (Nat.le_of_ble_eq_true rfl) dX8_readMoves_73 rfl ?_
          rintro _ _ ⟨rfl, G5, rfl, hT_G5, hf_G5⟩
          have e5 : nuT B n (mv3 B n P (rdM B n P i).2 (goT B n (rdM B n P i).1)) 0 (w32 (((sW P : Nat) : Int) - vL)) = mv4 B n P (rdM B n P i).2 (goT B n (rdM B n P i).1) ∧ ((mv3 B n P (rdM B n P i).2 (goT B n (rdM B n P i).1)).2.2.1 = 0 → nuV B n (mv3 B n P (rdM B n P i).2 (goT B n (rdM B n P i).1)) 0 (w32 (((sW P : Nat) : Int) - vL)) = mvE B n P (rdM B n P i).2 (goT B n (rdM B n P i).1)) := by
            by_cases h0 : (mv3 B n P (rdM B n P i).2 (goT B n (rdM B n P i).1)).2.2.1 = 0
            · have e := hvb h0
              have hb := (nu_ok (show (nuT B n (mv2 B n (rdM B n P i).2 (goT B n (rdM B n P i).1)) 0 (((bN (sB P) : Nat) : Int) - 1)).2.2.1 = 0 from h0)).2.1 (by decide)
              have hb2 : ((mvB B n P (rdM B n P i).2 (goT B n (rdM B n P i).1) : Nat) : Int) = ((nuV B n (mv2 B n (rdM B n P i).2 (goT B n (rdM B n P i).1)) 0 (((bN (sB P) : Nat) : Int) - 1) : Nat) : Int) := rfl
              have hl := hP.B.L (b := mvB B n P (rdM B n P i).2 (goT B n (rdM B n P i).1)) (by omega)
              have hw : w32 (((sW P : Nat) : Int) - vL) = ((sW P : Nat) : Int) - ((bL (sB P) (mvB B n P (rdM B n P i).2 (goT B n (rdM B n P i).1)) : Nat) : Int) := by rw [e]; exact w32_id (by omega) (by omega)
              rw [hw]
              exact ⟨rfl, fun _ => rfl⟩
            · exact ⟨(nu_bad h0).trans (nu_bad h0).symm, fun q => absurd q h0⟩
          rw [e5.1] at hT_G5
          have hd_G5 : DR 20 23 E G5 := hd_G4.tr hf_G5.dr
          refine at_istore 78 X dX8_readMoves_76 rfl (by decide) ?_
          refine at_aload_n 79 X rfl rfl dX8_readMoves_78 rfl ?_
          refine at_bipush 81 X (by decide) (by decide) dX8_readMoves_79 rfl ?_
          refine at_callV 84 X _ 10 (c10_takeSign hG G5 B n (mv4 B n P (rdM B n P i).2 (goT B n (rdM B n P i).1)) hT_G5 59 (by decide)) clX10 rfl k_1 mo_X10_takeSign w_1171 vo_X10_takeSign.1 vo_X10_takeSign.2 rfl rfl (crm Rt (by decide)) (Nat.le_of_ble_eq_true rfl) dX8_readMoves_81 rfl ?_
          rintro _ _ ⟨rfl, G6, rfl, hT_G6, hf_G6⟩
          have hd_G6 : DR 20 23 E G6 := hd_G5.tr hf_G6.dr
          refine at_aload_n 85 X rfl rfl dX8_readMoves_84 rfl ?_
          refine at_iload 87 X rfl dX8_readMoves_85 rfl ?_
          refine at_iload 89 X rfl dX8_readMoves_87 rfl ?_
          refine at_iload 91 X rfl dX8_readMoves_89 rfl ?_
          have hm6 : G6 20 3 = (((rdM B n P i).2.1 : Nat) : Int) := by
            rw [hf_G6.1 20 (by omega), hf_G5.1 20 (by omega), hf_G4.1 20 (by omega), h20_G3]
            exact (hS_F h17.1).n
          have hT16 := (rdM_n B n P i h17.1).1.1
          refine at_callV 94 X _ 8 (ct_X8_add hG G6 (rdM B n P i).2.1 (nuV B n (goT B n (rdM B n P i).1) 0 23) (mvB B n P (rdM B n P i).2 (goT B n (rdM B n P i).1)) (nuV B n (mv3 B n P (rdM B n P i).2 (goT B n (rdM B n P i).1)) 0 (w32 (((sW P : Nat) : Int) - vL))) hm6 hT16) clX8 rfl k_20 mo_X8_add w_1172 vo_X8_add.1 vo_X8_add.2 rfl rfl (crm Rt (by decide)) (Nat.le_of_ble_eq_true rfl) dX8_readMoves_91 rfl ?_
          rintro _ _ ⟨rfl, hA⟩
          subst hA
          generalize hG7 : (if (rdM B n P i).2.1 < 16 then wr (wr (wr (wr G6 21 (rdM B n P i).2.1 (((nuV B n (goT B n (rdM B n P i).1) 0 23) : Nat) : Int)) 22 (rdM B n P i).2.1 (((mvB B n P (rdM B n P i).2 (goT B n (rdM B n P i).1)) : Nat) : Int)) 23 (rdM B n P i).2.1 (((nuV B n (mv3 B n P (rdM B n P i).2 (goT B n (rdM B n P i).1)) 0 (w32 (((sW P : Nat) : Int) - vL))) : Nat) : Int)) 20 3 (((rdM B n P i).2.1 + 1 : Nat) : Int) else G6) = G7
          have hr7 : ∀ q, ¬ (20 ≤ q ∧ q ≤ 23) → G7 q = G6 q := fun q hq => by
            rw [← hG7]
            split
            · simp (disch := omega) only [wr_row]
            · rfl
          refine at_iincV 97 X ((i + 1 : Nat) : Int) (w32_v (by omega) (by omega) (by omega)) rfl dX8_readMoves_94 rfl (by decide) ?_
          refine at_goto 7 X dX8_readMoves_97 (by decide) ?_
          have eS : rdM B n P (i + 1) = mvL B n P ((goT B n (rdM B n P i).1), (rdM B n P i).2) := by rw [rdM_s]; exact if_pos h17
          have hfin : (mvL B n P ((goT B n (rdM B n P i).1), (rdM B n P i).2)).1.2.2.1 = 0 → CN G7 20 (mvL B n P ((goT B n (rdM B n P i).1), (rdM B n P i).2)).2 := fun h5 => by
            have q := mv5_ok (show (mv5 B n P (rdM B n P i).2 (goT B n (rdM B n P i).1)).2.2.1 = 0 from h5)
            have e : (mvL B n P ((goT B n (rdM B n P i).1), (rdM B n P i).2)).2 = addT (rdM B n P i).2 (nuV B n (goT B n (rdM B n P i).1) 0 23) (mvB B n P (rdM B n P i).2 (goT B n (rdM B n P i).1)) (mvE B n P (rdM B n P i).2 (goT B n (rdM B n P i).1)) := if_pos (show (mv5 B n P (rdM B n P i).2 (goT B n (rdM B n P i).1)).2.2.1 = 0 from h5)
            rw [e, ← hG7, if_pos q.1, e5.2 q.2.2.2.1]
            refine CN_add (q := 20) ?_
            refine (hS_F h17.1).fr (fun r a b => ?_)
            rw [hf_G6.1 r (by omega), hf_G5.1 r (by omega), hf_G4.1 r (by omega)]
            exact hrr_G3 r a b
          exact at_sub _ (by exact ⟨rfl, rfl, rfl, rfl, trivial⟩) (ih7 G7 (i + 1) (by first | omega | (simp only [] at *; omega)) (by omega) (by rw [eS]; exact hT_G6.fr (hr7 1 (by omega)) (hr7 2 (by omega))) (by rw [eS]; exact hfin) (hd_G6.tr ⟨fun q a b => hr7 q b, fun k hk => congrFun (hr7 1 (by omega)) k⟩) (fun j hj => if e : j < i then hgo j e else by rw [show j = i by omega]; exact h17))
        refine at_iload_n 30 X rfl rfl dX8_readMoves_29 rfl ?_
        refine at_bipush 32 X (by decide) (by decide) dX8_readMoves_30 rfl ?_
        refine at_icmp_lt 35 40 X dX8_readMoves_32 rfl (by decide) (fun h32 => ?_) (fun h32 => ?_)
        · have hTi : (rdM B n P i).2.1 = i := by
            rcases (rdM_n B n P i h17.1).2 with e | e
            · exact e
            · exact absurd h17 e
          exact at_sub _ (by exact ⟨rfl, rfl, rfl, rfl, rfl, trivial⟩) (J40 G2 (by unfold mv2; first | (rw [if_pos (by omega)]; exact hT_G2) | (rw [if_neg (by omega)]; exact hT_G2)) hd_G2 (by rw [hf_G2.1 20 (by omega), hf_G1.1 20 (by omega)]) (fun r a b => by rw [hf_G2.1 r (by omega), hf_G1.1 r (by omega)]))
        · have hTi : (rdM B n P i).2.1 = i := by
            rcases (rdM_n B n P i h17.1).2 with e | e
            · exact e
            · exact absurd h17 e
          refine at_aload_n 36 X rfl rfl dX8_readMoves_35 rfl ?_
          refine at_iconst 37 X (by decide) dX8_readMoves_36 rfl ?_
          refine at_callV 40 X _ 10 (c10_fail hG G2 B n (nuT B n (goT B n (rdM B n P i).1) 0 23) hT_G2 3) clX10 rfl k_1 mo_X10_fail w_1170 vo_X10_fail.1 vo_X10_fail.2 rfl rfl (crm Rt (by decide)) (Nat.le_of_ble_eq_true rfl) dX8_readMoves_37 rfl ?_
          rintro _ _ ⟨rfl, G3a, rfl, hT_G3a, hf_G3a⟩
          have hd_G3a : DR 20 23 E G3a := hd_G2.tr hf_G3a.dr
          exact at_sub _ (by exact ⟨rfl, rfl, rfl, rfl, rfl, trivial⟩) (J40 G3a (by unfold mv2; first | (rw [if_pos (by omega)]; exact hT_G3a) | (rw [if_neg (by omega)]; exact hT_G3a)) hd_G3a (by rw [hf_G3a.1 20 (by omega), hf_G2.1 20 (by omega), hf_G1.1 20 (by omega)]) (fun r a b => by rw [hf_G3a.1 r (by omega), hf_G2.1 r (by omega), hf_G1.1 r (by omega)]))
  exact at_sub _ (by exact ⟨rfl, rfl, rfl, rfl, trivial⟩) (J7 _ (wr E 20 3 0) 0 (Nat.lt_succ_self _) (by first | omega | assumption | rfl) (hT_E.fr (wr_row (by omega)) (wr_row (by omega))) (fun _ => ⟨wr_s _ _ _ _, fun i hi => absurd hi (Nat.not_lt_zero i)⟩) ⟨fun q a b => wr_row (by omega), fun k hk => congrFun (wr_row (by omega)) k⟩ (fun j hj => absurd hj (Nat.not_lt_zero j)))
theorem dX8_readBook_0 : decode cX8_readBook 0 = .ok (.aload_n 0, 1) := by decide +kernel
theorem dX8_readBook_1 : decode cX8_readBook 1 = .ok (.iconst 0, 1) := by decide +kernel
theorem dX8_readBook_2 : decode cX8_readBook 2 = .ok (.putfield 21, 3) := by decide +kernel
theorem dX8_readBook_5 : decode cX8_readBook 5 = .ok (.iconst 0, 1) := by decide +kernel
theorem dX8_readBook_6 : decode cX8_readBook 6 = .ok (.istore_n 3, 1) := by decide +kernel
theorem dX8_readBook_7 : decode cX8_readBook 7 = .ok (.iload_n 3, 1) := by decide +kernel
theorem dX8_readBook_8 : decode cX8_readBook 8 = .ok (.bipush 8, 2) := by decide +kernel
theorem dX8_readBook_10 : decode cX8_readBook 10 = .ok (.if_icmp .gt 61, 3) := by decide +kernel
theorem dX8_readBook_13 : decode cX8_readBook 13 = .ok (.aload_n 1, 1) := by decide +kernel
theorem dX8_readBook_14 : decode cX8_readBook 14 = .ok (.invokevirtual 31, 3) := by decide +kernel
theorem dX8_readBook_17 : decode cX8_readBook 17 = .ok (.ifCond .eq 54, 3) := by decide +kernel
theorem dX8_readBook_20 : decode cX8_readBook 20 = .ok (.aload_n 1, 1) := by decide +kernel
theorem dX8_readBook_21 : decode cX8_readBook 21 = .ok (.iconst 0, 1) := by decide +kernel
theorem dX8_readBook_22 : decode cX8_readBook 22 = .ok (.iload_n 2, 1) := by decide +kernel
theorem dX8_readBook_23 : decode cX8_readBook 23 = .ok (.iconst 1, 1) := by decide +kernel
theorem dX8_readBook_24 : decode cX8_readBook 24 = .ok (.isub, 1) := by decide +kernel
theorem dX8_readBook_25 : decode cX8_readBook 25 = .ok (.invokevirtual 37, 3) := by decide +kernel
theorem dX8_readBook_28 : decode cX8_readBook 28 = .ok (.istore 4, 2) := by decide +kernel
theorem dX8_readBook_30 : decode cX8_readBook 30 = .ok (.iload_n 3, 1) := by decide +kernel
theorem dX8_readBook_31 : decode cX8_readBook 31 = .ok (.bipush 8, 2) := by decide +kernel
theorem dX8_readBook_33 : decode cX8_readBook 33 = .ok (.if_icmp .lt 8, 3) := by decide +kernel
theorem dX8_readBook_36 : decode cX8_readBook 36 = .ok (.aload_n 1, 1) := by decide +kernel
theorem dX8_readBook_37 : decode cX8_readBook 37 = .ok (.iconst 3, 1) := by decide +kernel
theorem dX8_readBook_38 : decode cX8_readBook 38 = .ok (.invokevirtual 41, 3) := by decide +kernel
theorem dX8_readBook_41 : decode cX8_readBook 41 = .ok (.aload_n 1, 1) := by decide +kernel
theorem dX8_readBook_42 : decode cX8_readBook 42 = .ok (.iconst 0, 1) := by decide +kernel
theorem dX8_readBook_43 : decode cX8_readBook 43 = .ok (.bipush 24, 2) := by decide +kernel
theorem dX8_readBook_45 : decode cX8_readBook 45 = .ok (.invokevirtual 37, 3) := by decide +kernel
theorem dX8_readBook_48 : decode cX8_readBook 48 = .ok (.istore 5, 2) := by decide +kernel
theorem dX8_readBook_50 : decode cX8_readBook 50 = .ok (.aload_n 1, 1) := by decide +kernel
theorem dX8_readBook_51 : decode cX8_readBook 51 = .ok (.bipush 59, 2) := by decide +kernel
theorem dX8_readBook_53 : decode cX8_readBook 53 = .ok (.invokevirtual 60, 3) := by decide +kernel
theorem dX8_readBook_56 : decode cX8_readBook 56 = .ok (.aload_n 0, 1) := by decide +kernel
theorem dX8_readBook_57 : decode cX8_readBook 57 = .ok (.iload 4, 2) := by decide +kernel
theorem dX8_readBook_59 : decode cX8_readBook 59 = .ok (.iload 5, 2) := by decide +kernel
theorem dX8_readBook_61 : decode cX8_readBook 61 = .ok (.iconst 0, 1) := by decide +kernel
theorem dX8_readBook_62 : decode cX8_readBook 62 = .ok (.invokevirtual 64, 3) := by decide +kernel
theorem dX8_readBook_65 : decode cX8_readBook 65 = .ok (.iinc 3 1, 3) := by decide +kernel
theorem dX8_readBook_68 : decode cX8_readBook 68 = .ok (.goto (-61), 3) := by decide +kernel
theorem dX8_readBook_71 : decode cX8_readBook 71 = .ok (.return_, 1) := by decide +kernel
theorem ct_X8_readBook {g : Gw} (hG : GF g) {z : Bool} (E : Mm) (B : Nat → Int) (n : Nat) (hT_E : TP E B n (0, 0, 0, -1)) (P : SP) (hP : WS P) : CT g yX8_readBook cX8_readBook 6 none 2 45 0 0 K2 z [mR 20, mR 1, mI ((bN (sB P) : Nat) : Int)] (ov E) K2 z (fun r D' => r = none ∧ ∃ E1, D' = ov E1 ∧ ∃ t', TP E1 B n t' ∧ t'.2.2 = (rdB B n P 9).1.2.2 ∧ (t'.2.2.1 = 0 → CN E1 20 (rdB B n P 9).2) ∧ DR 20 23 E E1) := by
  refine CT.mk hG (by decide +kernel) (Nat.le_of_ble_eq_true rfl) (fun κ X Rt _ ok => ?_)
  have hN8 := hP.B.N
  refine at_aload_n 1 X rfl rfl dX8_readBook_0 rfl ?_
  refine at_iconst 2 X (by decide) dX8_readBook_1 rfl ?_
  refine m_putI 5 X f_X8_21 fw_8_3 k_20 rn_20_3 dX8_readBook_2 rfl ?_
  refine at_iconst 6 X (by decide) dX8_readBook_5 rfl ?_
  refine at_istore_n 7 X rfl dX8_readBook_6 rfl (by decide) ?_
  have J7 : ∀ (f7 : Nat) (F : Mm) (i : Nat), 10 - i < f7 → (i ≤ 9) → (TP F B n (rdB B n P i).1) → ((rdB B n P i).1.2.2.1 = 0 → CN F 20 (rdB B n P i).2) → (DR 20 23 E F) → ((∀ j, j < i → goB B n (rdB B n P j).1)) → AT g κ K2 z 0 0 7 [(0, mR 20), (1, mR 1), (2, mI ((bN (sB P) : Nat) : Int)), (3, mI ((i : Nat) : Int))] [] (ov F) := by
    intro f7
    induction f7 with
    | zero => intro F i hf7; omega
    | succ f7 ih7 =>
    intro F i hf7 hi hT_F hS_F hd_F hgo
    refine at_iload_n 8 X rfl rfl dX8_readBook_7 rfl ?_
    refine at_bipush 10 X (by decide) (by decide) dX8_readBook_8 rfl ?_
    refine at_icmp_gt 13 71 X dX8_readBook_10 rfl (by decide) (fun h10 => ?_) (fun h10 => ?_)
    · refine at_vret X Rt ?_ (Nat.le_refl _) (Nat.le_refl _) dX8_readBook_71
      exact ⟨rfl, F, rfl, (rdB B n P i).1, hT_F, by rw [show 9 = i by omega], fun q => by rw [show 9 = i by omega]; exact hS_F q, hd_F⟩
    · refine at_aload_n 14 X rfl rfl dX8_readBook_13 rfl ?_
      refine at_callV 17 X _ 10 (c10_goesOn hG F B n (rdB B n P i).1 hT_F) clX10 rfl k_1 mo_X10_goesOn w_1168 vo_X10_goesOn.1 vo_X10_goesOn.2 rfl rfl (crm Rt (by decide)) (Nat.le_of_ble_eq_true rfl) dX8_readBook_14 rfl ?_
      rintro _ _ ⟨rfl, G1, rfl, hT_G1, hf_G1⟩
      have hd_G1 : DR 20 23 E G1 := hd_F.tr hf_G1.dr
      refine at_if_eq 20 71 X dX8_readBook_17 rfl (by decide) (fun h17 => ?_) (fun h17 => ?_)
      · have h17 : ¬ ((rdB B n P i).1.2.2.1 = 0 ∧ sk B n (rdB B n P i).1.1 < n) := ite_no.mp h17
        refine at_vret X Rt ?_ (Nat.le_refl _) (Nat.le_refl _) dX8_readBook_71
        have e17 : rdB B n P 9 = rdB B n P i := by rw [show 9 = i + (9 - i) by omega]; exact rdB_stay (by rintro ⟨q1, q2⟩; exact h17 ⟨q1, q2⟩) _
        exact ⟨rfl, G1, rfl, goT B n (rdB B n P i).1, hT_G1, by rw [e17, go_fk], fun q => by rw [e17]; rw [go_fk] at q; exact (hS_F q).fr (fun q a b => hf_G1.1 q (by omega)), hd_G1⟩
      · have h17 : ((rdB B n P i).1.2.2.1 = 0 ∧ sk B n (rdB B n P i).1.1 < n) := ite_yes.mp h17
        refine at_aload_n 21 X rfl rfl dX8_readBook_20 rfl ?_
        refine at_iconst 22 X (by decide) dX8_readBook_21 rfl ?_
        refine at_iload_n 23 X rfl rfl dX8_readBook_22 rfl ?_
        refine at_iconst 24 X (by decide) dX8_readBook_23 rfl ?_
        refine at_isubV 25 X (((bN (sB P) : Nat) : Int) - 1) (w32_v rfl (by omega) (by omega)) dX8_readBook_24 rfl ?_
        refine at_callV 28 X _ 10 (c10_num hG G1 B n ((goT B n (rdB B n P i).1)) hT_G1 0 (((bN (sB P) : Nat) : Int) - 1) (by omega)) clX10 rfl k_1 mo_X10_takeNumber w_1169 vo_X10_takeNumber.1 vo_X10_takeNumber.2 rfl rfl (crm Rt (by decide)) (Nat.le_of_ble_eq_true rfl) dX8_readBook_25 rfl ?_
        rintro _ _ ⟨rfl, G2, rfl, hT_G2, hf_G2⟩
        have hd_G2 : DR 20 23 E G2 := hd_G1.tr hf_G2.dr
        have hA23 := nu_in (B := B) (n := n) (t := (goT B n (rdB B n P i).1)) (lo := 0) (hi := ((bN (sB P) : Nat) : Int) - 1) (by omega)
        refine at_istore 30 X dX8_readBook_28 rfl (by decide) ?_
        have J41 : ∀ (G3 : Mm), (TP G3 B n (bk2 B n P (rdB B n P i).2 (goT B n (rdB B n P i).1))) → (DR 20 23 E G3) → (G3 20 3 = F 20 3) → (∀ r, 20 ≤ r → r ≤ 20 + 3 → G3 r = F r) → AT g κ K2 z 0 0 41 [(0, mR 20), (1, mR 1), (2, mI ((bN (sB P) : Nat) : Int)), (3, mI ((i : Nat) : Int)), (4, mI ((nuV B n (goT B n (rdB B n P i).1) 0 (((bN (sB P) : Nat) : Int) - 1) : Nat) : Int))] [] (ov G3) := by
          intro G3 hT_G3 hd_G3 h20_G3 hrr_G3
          refine at_aload_n 42 X rfl rfl dX8_readBook_41 rfl ?_
          refine at_iconst 43 X (by decide) dX8_readBook_42 rfl ?_
          refine at_bipush 45 X (by decide) (by decide) dX8_readBook_43 rfl ?_
          refine at_callV 48 X _ 10 (c10_num hG G3 B n (bk2 B n P (rdB B n P i).2 (goT B n (rdB B n P i).1)) hT_G3 0 24 (by omega)) clX10 rfl k_1 mo_X10_takeNumber w_1169 vo_X10_takeNumber.1 vo_X10_takeNumber.2 rfl rfl (crm Rt (by decide)) (Nat.le_of_ble_eq_true rfl) dX8_readBook_45 rfl ?_
          rintro _ _ ⟨rfl, G5, rfl, hT_G5, hf_G5⟩
          have hd_G5 : DR 20 23 E G5 := hd_G3.tr hf_G5.dr
          have hb0 := nu_in (B := B) (n := n) (t := bk2 B n P (rdB B n P i).2 (goT B n (rdB B n P i).1)) (lo := 0) (hi := 24) (by omega)
          refine at_istore 50 X dX8_readBook_48 rfl (by decide) ?_
          refine at_aload_n 51 X rfl rfl dX8_readBook_50 rfl ?_
          refine at_bipush 53 X (by decide) (by decide) dX8_readBook_51 rfl ?_
          refine at_callV 56 X _ 10 (c10_takeSign hG G5 B n (nuT B n (bk2 B n P (rdB B n P i).2 (goT B n (rdB B n P i).1)) 0 24) hT_G5 59 (by decide)) clX10 rfl k_1 mo_X10_takeSign w_1171 vo_X10_takeSign.1 vo_X10_takeSign.2 rfl rfl (crm Rt (by decide)) (Nat.le_of_ble_eq_true rfl) dX8_readBook_53 rfl ?_
          rintro _ _ ⟨rfl, G6, rfl, hT_G6, hf_G6⟩
          have hd_G6 : DR 20 23 E G6 := hd_G5.tr hf_G6.dr
          refine at_aload_n 57 X rfl rfl dX8_readBook_56 rfl ?_
          refine at_iload 59 X rfl dX8_readBook_57 rfl ?_
          refine at_iload 61 X rfl dX8_readBook_59 rfl ?_
          refine at_iconst 62 X (by decide) dX8_readBook_61 rfl ?_
          have hm6 : G6 20 3 = (((rdB B n P i).2.1 : Nat) : Int) := by
            rw [hf_G6.1 20 (by omega), hf_G5.1 20 (by omega), h20_G3]
            exact (hS_F h17.1).n
          have hT16 : (rdB B n P i).2.1 ≤ 16 := by have := (rdB_n B n P i h17.1).1.1; omega
          refine at_callV 65 X _ 8 (ct_X8_add hG G6 (rdB B n P i).2.1 (nuV B n (goT B n (rdB B n P i).1) 0 (((bN (sB P) : Nat) : Int) - 1)) (nuV B n (bk2 B n P (rdB B n P i).2 (goT B n (rdB B n P i).1)) 0 24) 0 hm6 hT16) clX8 rfl k_20 mo_X8_add w_1172 vo_X8_add.1 vo_X8_add.2 rfl rfl (crm Rt (by decide)) (Nat.le_of_ble_eq_true rfl) dX8_readBook_62 rfl ?_
          rintro _ _ ⟨rfl, hA⟩
          subst hA
          generalize hG7 : (if (rdB B n P i).2.1 < 16 then wr (wr (wr (wr G6 21 (rdB B n P i).2.1 (((nuV B n (goT B n (rdB B n P i).1) 0 (((bN (sB P) : Nat) : Int) - 1)) : Nat) : Int)) 22 (rdB B n P i).2.1 (((nuV B n (bk2 B n P (rdB B n P i).2 (goT B n (rdB B n P i).1)) 0 24) : Nat) : Int)) 23 (rdB B n P i).2.1 ((0 : Nat) : Int)) 20 3 (((rdB B n P i).2.1 + 1 : Nat) : Int) else G6) = G7
          have hr7 : ∀ q, ¬ (20 ≤ q ∧ q ≤ 23) → G7 q = G6 q := fun q hq => by
            rw [← hG7]
            split
            · simp (disch := omega) only [wr_row]
            · rfl
          refine at_iincV 68 X ((i + 1 : Nat) : Int) (w32_v (by omega) (by omega) (by omega)) rfl dX8_readBook_65 rfl (by decide) ?_
          refine at_goto 7 X dX8_readBook_68 (by decide) ?_
          have eS : rdB B n P (i + 1) = bkL B n P ((goT B n (rdB B n P i).1), (rdB B n P i).2) := by rw [rdB_s]; exact if_pos h17
          have hfin : (bkL B n P ((goT B n (rdB B n P i).1), (rdB B n P i).2)).1.2.2.1 = 0 → CN G7 20 (bkL B n P ((goT B n (rdB B n P i).1), (rdB B n P i).2)).2 := fun h5 => by
            have q := bk4_ok (show (bk4 B n P (rdB B n P i).2 (goT B n (rdB B n P i).1)).2.2.1 = 0 from h5)
            have e : (bkL B n P ((goT B n (rdB B n P i).1), (rdB B n P i).2)).2 = addT (rdB B n P i).2 (nuV B n (goT B n (rdB B n P i).1) 0 (((bN (sB P) : Nat) : Int) - 1)) (nuV B n (bk2 B n P (rdB B n P i).2 (goT B n (rdB B n P i).1)) 0 24) 0 := if_pos (show (bk4 B n P (rdB B n P i).2 (goT B n (rdB B n P i).1)).2.2.1 = 0 from h5)
            rw [e, ← hG7, if_pos (by omega)]
            refine CN_add (q := 20) ?_
            refine (hS_F h17.1).fr (fun r a b => ?_)
            rw [hf_G6.1 r (by omega), hf_G5.1 r (by omega)]
            exact hrr_G3 r a b
          exact at_sub _ (by exact ⟨rfl, rfl, rfl, rfl, trivial⟩) (ih7 G7 (i + 1) (by first | omega | (simp only [] at *; omega)) (by omega) (by rw [eS]; exact hT_G6.fr (hr7 1 (by omega)) (hr7 2 (by omega))) (by rw [eS]; exact hfin) (hd_G6.tr ⟨fun q a b => hr7 q b, fun k hk => congrFun (hr7 1 (by omega)) k⟩) (fun j hj => if e : j < i then hgo j e else by rw [show j = i by omega]; exact h17))
        refine at_iload_n 31 X rfl rfl dX8_readBook_30 rfl ?_
        refine at_bipush 33 X (by decide) (by decide) dX8_readBook_31 rfl ?_
        refine at_icmp_lt 36 41 X dX8_readBook_33 rfl (by decide) (fun h33 => ?_) (fun h33 => ?_)
        · have hTi : (rdB B n P i).2.1 = i := by
            rcases (rdB_n B n P i h17.1).2 with e | e
            · exact e
            · exact absurd h17 e
          exact at_sub _ (by exact ⟨rfl, rfl, rfl, rfl, rfl, trivial⟩) (J41 G2 (by unfold bk2; first | (rw [if_pos (by omega)]; exact hT_G2) | (rw [if_neg (by omega)]; exact hT_G2)) hd_G2 (by rw [hf_G2.1 20 (by omega), hf_G1.1 20 (by omega)]) (fun r a b => by rw [hf_G2.1 r (by omega), hf_G1.1 r (by omega)]))
        · have hTi : (rdB B n P i).2.1 = i := by
            rcases (rdB_n B n P i h17.1).2 with e | e
            · exact e
            · exact absurd h17 e
          refine at_aload_n 37 X rfl rfl dX8_readBook_36 rfl ?_
          refine at_iconst 38 X (by decide) dX8_readBook_37 rfl ?_
          refine at_callV 41 X _ 10 (c10_fail hG G2 B n (nuT B n (goT B n (rdB B n P i).1) 0 (((bN (sB P) : Nat) : Int) - 1)) hT_G2 3) clX10 rfl k_1 mo_X10_fail w_1170 vo_X10_fail.1 vo_X10_fail.2 rfl rfl (crm Rt (by decide)) (Nat.le_of_ble_eq_true rfl) dX8_readBook_38 rfl ?_
          rintro _ _ ⟨rfl, G3a, rfl, hT_G3a, hf_G3a⟩
          have hd_G3a : DR 20 23 E G3a := hd_G2.tr hf_G3a.dr
          exact at_sub _ (by exact ⟨rfl, rfl, rfl, rfl, rfl, trivial⟩) (J41 G3a (by unfold bk2; first | (rw [if_pos (by omega)]; exact hT_G3a) | (rw [if_neg (by omega)]; exact hT_G3a)) hd_G3a (by rw [hf_G3a.1 20 (by omega), hf_G2.1 20 (by omega), hf_G1.1 20 (by omega)]) (fun r a b => by rw [hf_G3a.1 r (by omega), hf_G2.1 r (by omega), hf_G1.1 r (by omega)]))
  exact at_sub _ (by exact ⟨rfl, rfl, rfl, rfl, trivial⟩) (J7 _ (wr E 20 3 0) 0 (Nat.lt_succ_self _) (by first | omega | assumption | rfl) (hT_E.fr (wr_row (by omega)) (wr_row (by omega))) (fun _ => ⟨wr_s _ _ _ _, fun i hi => absurd hi (Nat.not_lt_zero i)⟩) ⟨fun q a b => wr_row (by omega), fun k hk => congrFun (wr_row (by omega)) k⟩ (fun j hj => absurd hj (Nat.not_lt_zero j)))
