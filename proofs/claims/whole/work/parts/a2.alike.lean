/-! days alike: what cells bear counts at beams' ends alone -/
/-- cells on which an end may lie -/
def EC (B : BM) (T : LN) (c : Nat) : Prop := (∃ b, b < bN B ∧ (c = bX B b ∨ c = bX B b + bL B b - 1)) ∨ ∃ i, i < T.1 ∧ (c = T.2.2.2 i ∨ c = T.2.2.2 i + bL B (T.2.2.1 i) - 1)
/-- a beam lies where it is told or where a move lays it -/
def PE (B : BM) (T : LN) (pl : Nat → Int) : Prop := ∀ b, b < bN B → pl b = -1 ∨ pl b = (bX B b : Int) ∨ ∃ i, i < T.1 ∧ T.2.2.1 i = b ∧ pl b = (T.2.2.2 i : Int)
theorem PE.ends {B : BM} {T : LN} {pl : Nat → Int} {b : Nat} (h : PE B T pl) (hb : b < bN B) (h1 : ¬ pl b = -1) : EC B T (pl b).toNat ∧ EC B T ((pl b).toNat + bL B b - 1) := by
  rcases h b hb with q | q | ⟨i, hi, hi2, q⟩
  · exact absurd q h1
  · rw [q, Int.toNat_natCast]
    exact ⟨Or.inl ⟨b, hb, Or.inl rfl⟩, Or.inl ⟨b, hb, Or.inr rfl⟩⟩
  · rw [q, Int.toNat_natCast, ← hi2]
    exact ⟨Or.inr ⟨i, hi, Or.inl rfl⟩, Or.inr ⟨i, hi, Or.inr rfl⟩⟩
theorem PE.mv {B : BM} {T : LN} {h : Nat} {pl : Nat → Int} (hp : PE B T pl) : ∀ {i : Nat}, i ≤ T.1 → PE B T (mvN T h pl i)
  | 0, _ => hp
  | i + 1, hi => by
    have ih := PE.mv (h := h) hp (i := i) (by omega)
    rw [mvN_s]
    split
    · intro b hb
      by_cases k : b = T.2.2.1 i
      · rw [k, updf_s]; exact Or.inr (Or.inr ⟨i, by omega, rfl, rfl⟩)
      · rw [updf_o k]; exact ih b hb
    · exact ih
theorem PE.dr {B : BM} {T : LN} {pl : Nat → Int} {k : Nat} (hp : PE B T pl) : PE B T (updf pl k (-1)) := by
  intro b hb
  by_cases c : b = k
  · rw [c, updf_s]; exact Or.inl rfl
  · rw [updf_o c]; exact hp b hb
theorem ovr_alike {G G' : GP} {B : BM} {T : LN} {h b : Nat} {pl : Nat → Int} (he : ∀ c, EC B T c → bOn G h c = bOn G' h c) (hp : PE B T pl) (hb : b < bN B) : ovr G B h pl b ↔ ovr G' B h pl b := by
  constructor
  · rintro ⟨h1, h2⟩
    obtain ⟨e1, e2⟩ := hp.ends hb h1
    rw [he _ e1, he _ e2] at h2
    exact ⟨h1, h2⟩
  · rintro ⟨h1, h2⟩
    obtain ⟨e1, e2⟩ := hp.ends hb h1
    rw [← he _ e1, ← he _ e2] at h2
    exact ⟨h1, h2⟩
theorem drS_alike {G G' : GP} {B : BM} {T : LN} {h b : Nat} {d : DS} (he : ∀ c, EC B T c → bOn G h c = bOn G' h c) (hp : PE B T (dP d)) (hb : b < bN B) : drS G B h b d = drS G' B h b d ∧ PE B T (dP (drS G B h b d)) := by
  by_cases c : ovr G B h (dP d) b
  · rw [drS_yes c, drS_yes ((ovr_alike he hp hb).mp c)]
    exact ⟨rfl, hp.dr⟩
  · rw [drS_no c, drS_no (fun q => c ((ovr_alike he hp hb).mpr q))]
    exact ⟨rfl, hp⟩
theorem drN_alike {G G' : GP} {B : BM} {T : LN} {h : Nat} {d : DS} (he : ∀ c, EC B T c → bOn G h c = bOn G' h c) (hp : PE B T (dP d)) : ∀ {n : Nat}, n ≤ bN B → drN G B h d n = drN G' B h d n ∧ PE B T (dP (drN G B h d n))
  | 0, _ => ⟨rfl, hp⟩
  | n + 1, hn => by
    obtain ⟨i1, i2⟩ := drN_alike he hp (n := n) (by omega)
    obtain ⟨j1, j2⟩ := drS_alike (b := n) he i2 (by omega)
    rw [drN_s, drN_s, ← i1]
    exact ⟨j1, j2⟩
theorem dyP_alike {G G' : GP} {B : BM} {T : LN} (he : ∀ h c, h < 24 → EC B T c → bOn G h c = bOn G' h c) : ∀ {n : Nat}, n ≤ 24 → dyP G B T n = dyP G' B T n ∧ PE B T (dP (dyP G B T n))
  | 0, _ => ⟨rfl, fun b hb => by
    show (if b < bN B then (bX B b : Int) else -1) = -1 ∨ (if b < bN B then (bX B b : Int) else -1) = (bX B b : Int) ∨ _
    rw [if_pos hb]
    exact Or.inr (Or.inl rfl)⟩
  | n + 1, hn => by
    obtain ⟨i1, i2⟩ := dyP_alike he (n := n) (by omega)
    rw [dyP_s, dyP_s, ← i1]
    exact drN_alike (d := mvD T n (dyP G B T n)) (he n · (by omega)) (i2.mv (Nat.le_refl _)) (Nat.le_refl _)
theorem WT.ec {W : Nat} {B : BM} {T : LN} {c : Nat} (hW : WB W B) (hT : WT W B T) (h : EC B T c) : c < W := by
  rcases h with ⟨b, hb, q⟩ | ⟨i, hi, q⟩
  · have := hW.L hb
    have := hW.X hb
    omega
  · have h1 := hT.2 i hi
    have := hW.L h1.2.1
    omega
/-- what has fallen stays so -/
theorem drS_fell {G : GP} {B : BM} {h b k : Nat} {d : DS} (h1 : ¬ dF d k = -1) : ¬ dF (drS G B h b d) k = -1 := by
  by_cases c : ovr G B h (dP d) b
  · rw [drS_yes c]
    show ¬ updf (dF d) b (h : Int) k = -1
    by_cases e : k = b
    · rw [e, updf_s]; omega
    · rw [updf_o e]; exact h1
  · rw [drS_no c]; exact h1
theorem drN_fell {G : GP} {B : BM} {h k : Nat} {d : DS} (h1 : ¬ dF d k = -1) : ∀ n, ¬ dF (drN G B h d n) k = -1
  | 0 => h1
  | n + 1 => by rw [drN_s]; exact drS_fell (drN_fell h1 n)
theorem dyP_fell {G : GP} {B : BM} {T : LN} {n k : Nat} (h1 : ¬ dF (dyP G B T n) k = -1) : ∀ m, ¬ dF (dyP G B T (n + m)) k = -1
  | 0 => h1
  | m + 1 => by
    show ¬ dF (dyP G B T ((n + m) + 1)) k = -1
    rw [dyP_s]
    exact drN_fell (d := mvD T (n + m) (dyP G B T (n + m))) (dyP_fell h1 m) _
/-- a beam that has not fallen lies where it lay -/
theorem drN_same {G : GP} {B : BM} {h k : Nat} {d : DS} : ∀ n, dF (drN G B h d n) k = -1 → dP (drN G B h d n) k = dP d k
  | 0, _ => rfl
  | n + 1, q => by
    rw [drN_s] at q ⊢
    by_cases c : ovr G B h (dP (drN G B h d n)) n
    · rw [drS_yes c] at q ⊢
      have q' : updf (dF (drN G B h d n)) n (h : Int) k = -1 := q
      show updf (dP (drN G B h d n)) n (-1) k = dP d k
      by_cases e : k = n
      · rw [e, updf_s] at q'; omega
      · rw [updf_o e] at q' ⊢
        exact drN_same n q'
    · rw [drS_no c] at q ⊢
      exact drN_same n q
/-- behind one pass no beam is too heavy -/
theorem drN_no {G : GP} {B : BM} {W h : Nat} {d : DS} (hW : WB W B) : ∀ {n : Nat}, n ≤ bN B → ∀ j, j < n → ¬ ovr G B h (dP (drN G B h d n)) j
  | 0, _, j, hj => absurd hj (Nat.not_lt_zero j)
  | n + 1, hn, j, hj => by
    rw [drN_s]
    by_cases c : ovr G B h (dP (drN G B h d n)) n
    · rw [drS_yes c]
      show ¬ ovr G B h (updf (dP (drN G B h d n)) n (-1)) j
      by_cases e : j = n
      · rw [e]; rintro ⟨q, _⟩; exact q (updf_s _ _ _)
      · exact ovr_keep hW (by omega) (drN_no hW (n := n) (by omega) j (by omega))
    · rw [drS_no c]
      by_cases e : j = n
      · rw [e]; exact c
      · exact drN_no hW (n := n) (by omega) j (by omega)
/-! lamps: what must be lit, what must not -/
/-- none of the watched beams falls -/
def GDp (G : GP) (B : BM) (T : LN) (w : Nat) : Prop := ∀ b, b < bN B → w.testBit b = true → dF (dyP G B T 24) b = -1
/-- where beams are told to lie, by moves alone -/
def mvW (T : LN) (h : Nat) (pl : Nat → Nat) : Nat → (Nat → Nat) := itr (fun i q => if T.2.1 i = h then pt1 q (T.2.2.1 i) (T.2.2.2 i) else q) pl
def plW (B : BM) (T : LN) : Nat → (Nat → Nat) := itr (fun h q => mvW T h q T.1) (bX B)
theorem plW_s (B : BM) (T : LN) (h : Nat) : plW B T (h + 1) = mvW T h (plW B T h) T.1 := rfl
theorem mvW_s (T : LN) (h : Nat) (pl : Nat → Nat) (i : Nat) : mvW T h pl (i + 1) = if T.2.1 i = h then pt1 (mvW T h pl i) (T.2.2.1 i) (T.2.2.2 i) else mvW T h pl i := rfl
theorem mv_both {T : LN} {h b : Nat} {p : Nat → Int} {q : Nat → Nat} (e : p b = (q b : Int)) : ∀ i, mvN T h p i b = (mvW T h q i b : Int)
  | 0 => e
  | i + 1 => by
    have ih := mv_both (h := h) (T := T) e i
    rw [mvN_s, mvW_s]
    by_cases c : T.2.1 i = h
    · rw [if_pos c]
      by_cases k : b = T.2.2.1 i
      · rw [← k]
        rw [if_pos ⟨c, by rw [ih]; omega⟩, updf_s, pt1_s]
      · rw [pt1_o k]
        by_cases k2 : T.2.1 i = h ∧ ¬ mvN T h p i (T.2.2.1 i) = -1
        · rw [if_pos k2, updf_o k]; exact ih
        · rw [if_neg k2]; exact ih
    · rw [if_neg c, if_neg (fun q => c q.1)]; exact ih
theorem plW_is {G : GP} {B : BM} {T : LN} {b : Nat} (hb : b < bN B) : ∀ {n : Nat}, dF (dyP G B T n) b = -1 → dP (dyP G B T n) b = (plW B T n b : Int)
  | 0, _ => by
    show (if b < bN B then (bX B b : Int) else -1) = (bX B b : Int)
    rw [if_pos hb]
  | n + 1, q => by
    have q0 : dF (dyP G B T n) b = -1 := Decidable.byContradiction (fun c => dyP_fell c 1 q)
    have ih := plW_is hb (n := n) q0
    rw [dyP_s] at q ⊢
    have e := drN_same (G := G) (B := B) (h := n) (d := mvD T n (dyP G B T n)) (bN B) q
    rw [plW_s]
    exact e.trans (mv_both ih T.1)
/-- what the watched beams alone put on a cell -/
def wtW (B : BM) (w : Nat) (pl : Nat → Nat) (c : Nat) : Nat → Int := itr (fun b v => if w.testBit b = true then v + wt1 B (fun k => (pl k : Int)) b c else v) 0
theorem wtW_s (B : BM) (w : Nat) (pl : Nat → Nat) (c n : Nat) : wtW B w pl c (n + 1) = if w.testBit n = true then wtW B w pl c n + wt1 B (fun k => (pl k : Int)) n c else wtW B w pl c n := rfl
theorem wtW_in {B : BM} {W w : Nat} (hW : WB W B) (pl : Nat → Nat) (c : Nat) : ∀ {n : Nat}, n ≤ bN B → 0 ≤ wtW B w pl c n ∧ wtW B w pl c n ≤ n * 19107613324800
  | 0, _ => ⟨Int.le_refl _, by show (0 : Int) ≤ ((0 : Nat) : Int) * 19107613324800; decide⟩
  | n + 1, h => by
    have ih := wtW_in (w := w) hW pl c (n := n) (by omega)
    have h1 := wt1_in hW (fun k => (pl k : Int)) (b := n) (by omega) c
    rw [wtW_s]
    split <;> omega
theorem wtW_le {B : BM} {W w : Nat} (hW : WB W B) {pl : Nat → Nat} {p : Nat → Int} (c : Nat) (hp : ∀ b, b < bN B → w.testBit b = true → p b = (pl b : Int)) : ∀ {n : Nat}, n ≤ bN B → wtW B w pl c n ≤ wtN B p c n
  | 0, _ => Int.le_refl _
  | n + 1, h => by
    have ih := wtW_le hW c hp (n := n) (by omega)
    have h1 := wt1_in hW p (b := n) (by omega) c
    rw [wtW_s]
    show _ ≤ wtN B p c n + wt1 B p n c
    split
    · rename_i q
      have e : wt1 B (fun k => (pl k : Int)) n c = wt1 B p n c := by unfold wt1; rw [hp n (by omega) q]
      omega
    · omega
theorem wtW_some {B : BM} {w : Nat} {pl : Nat → Nat} {c : Nat} : ∀ {n : Nat}, 0 < wtW B w pl c n → ∃ b, b < n ∧ w.testBit b = true ∧ (pl b = c ∨ pl b + bL B b = c + 1)
  | 0, h => absurd h (by show ¬ (0 : Int) < 0; decide)
  | n + 1, h => by
    rw [wtW_s] at h
    by_cases q : w.testBit n = true
    · rw [if_pos q] at h
      by_cases k : pl n = c ∨ pl n + bL B n = c + 1
      · exact ⟨n, Nat.lt_succ_self n, q, k⟩
      · have e : wt1 B (fun k => (pl k : Int)) n c = 0 := by
          unfold wt1
          have h1 : ¬ ((pl n : Nat) : Int) = -1 := by omega
          have h2 : ¬ ((pl n : Nat) : Int) = (c : Int) := by omega
          have h3 : ¬ ((pl n : Nat) : Int) + (bL B n : Int) - 1 = (c : Int) := by omega
          simp only [if_neg h1, if_neg h2, if_neg h3]
          rfl
        rw [e] at h
        obtain ⟨b, h1, h2⟩ := wtW_some (B := B) (w := w) (pl := pl) (c := c) (n := n) (by omega)
        exact ⟨b, by omega, h2⟩
    · rw [if_neg q] at h
      obtain ⟨b, h1, h2⟩ := wtW_some (n := n) h
      exact ⟨b, by omega, h2⟩
/-- where the watched beams do not fall, each cell bears what they alone put on it -/
theorem good_bears {G : GP} {B : BM} {T : LN} {w : Nat} (hW : WB (gW G) B) (hT : WT (gW G) B T) (hg : GDp G B T w) {h c : Nat} (hh : h < 24) (hc : 0 < wtW B w (plW B T (h + 1)) c (bN B)) : wtW B w (plW B T (h + 1)) c (bN B) ≤ bOn G h c * 232792560 := by
  have hf : ∀ b, b < bN B → w.testBit b = true → dF (dyP G B T (h + 1)) b = -1 := fun b hb q => Decidable.byContradiction (fun k => by
    have := dyP_fell k (24 - (h + 1))
    rw [show h + 1 + (24 - (h + 1)) = 24 by omega] at this
    exact this (hg b hb q))
  have hp : ∀ b, b < bN B → w.testBit b = true → dP (dyP G B T (h + 1)) b = (plW B T (h + 1) b : Int) := fun b hb q => plW_is hb (hf b hb q)
  have hle := wtW_le hW c hp (Nat.le_refl _)
  obtain ⟨b, hb, hw, hk⟩ := wtW_some hc
  have hno : ¬ ovr G B h (dP (dyP G B T (h + 1))) b := by rw [dyP_s]; exact drN_no hW (Nat.le_refl _) b hb
  have hl := hW.L hb
  have hpb := hp b hb hw
  have h1 : ¬ dP (dyP G B T (h + 1)) b = -1 := by omega
  have key : wtN B (dP (dyP G B T (h + 1))) c (bN B) ≤ bOn G h c * 232792560 := by
    apply Decidable.byContradiction
    intro q
    refine hno ⟨h1, ?_⟩
    rw [hpb, Int.toNat_natCast]
    rcases hk with k | k
    · rw [k]; exact Or.inl (by omega)
    · rw [show plW B T (h + 1) b + bL B b - 1 = c by omega]; exact Or.inr (by omega)
  omega
