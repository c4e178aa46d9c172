/-! lamps: candidates -/
def ec1 (B : BM) : Nat → Nat := itr (fun b m => m ||| (2 ^ bX B b ||| 2 ^ (bX B b + bL B b - 1))) 0
def ec2 (B : BM) (T : LN) : Nat → Nat := itr (fun i m => m ||| (2 ^ T.2.2.2 i ||| 2 ^ (T.2.2.2 i + bL B (T.2.2.1 i) - 1))) (ec1 B (bN B))
theorem ec1_tb (B : BM) (c : Nat) : ∀ n, (ec1 B n).testBit c = true ↔ ∃ b, b < n ∧ (c = bX B b ∨ c = bX B b + bL B b - 1)
  | 0 => by
    constructor
    · intro h
      rw [show ec1 B 0 = 0 from rfl, Nat.zero_testBit] at h
      cases h
    · rintro ⟨b, hb, _⟩
      exact absurd hb (Nat.not_lt_zero b)
  | n + 1 => by
    rw [show ec1 B (n + 1) = ec1 B n ||| (2 ^ bX B n ||| 2 ^ (bX B n + bL B n - 1)) from rfl, Nat.testBit_or, Nat.testBit_or, Bool.or_eq_true, Bool.or_eq_true, ec1_tb B c n, Nat.testBit_two_pow, Nat.testBit_two_pow, decide_eq_true_iff, decide_eq_true_iff]
    constructor
    · rintro (⟨b, h1, h2⟩ | h | h)
      · exact ⟨b, by omega, h2⟩
      · exact ⟨n, by omega, Or.inl h.symm⟩
      · exact ⟨n, by omega, Or.inr h.symm⟩
    · rintro ⟨b, h1, h2⟩
      by_cases e : b = n
      · subst e
        rcases h2 with h2 | h2
        · exact Or.inr (Or.inl h2.symm)
        · exact Or.inr (Or.inr h2.symm)
      · exact Or.inl ⟨b, by omega, h2⟩
theorem ec2_tb (B : BM) (T : LN) (c : Nat) : ∀ n, (ec2 B T n).testBit c = true ↔ (∃ b, b < bN B ∧ (c = bX B b ∨ c = bX B b + bL B b - 1)) ∨ ∃ i, i < n ∧ (c = T.2.2.2 i ∨ c = T.2.2.2 i + bL B (T.2.2.1 i) - 1)
  | 0 => by
    rw [show ec2 B T 0 = ec1 B (bN B) from rfl, ec1_tb]
    constructor
    · exact Or.inl
    · rintro (h | ⟨i, hi, _⟩)
      · exact h
      · exact absurd hi (Nat.not_lt_zero i)
  | n + 1 => by
    rw [show ec2 B T (n + 1) = ec2 B T n ||| (2 ^ T.2.2.2 n ||| 2 ^ (T.2.2.2 n + bL B (T.2.2.1 n) - 1)) from rfl, Nat.testBit_or, Nat.testBit_or, Bool.or_eq_true, Bool.or_eq_true, ec2_tb B T c n, Nat.testBit_two_pow, Nat.testBit_two_pow, decide_eq_true_iff, decide_eq_true_iff]
    constructor
    · rintro ((h | ⟨i, h1, h2⟩) | h | h)
      · exact Or.inl h
      · exact Or.inr ⟨i, by omega, h2⟩
      · exact Or.inr ⟨n, by omega, Or.inl h.symm⟩
      · exact Or.inr ⟨n, by omega, Or.inr h.symm⟩
    · rintro (h | ⟨i, h1, h2⟩)
      · exact Or.inl (Or.inl h)
      · by_cases e : i = n
        · subst e
          rcases h2 with h2 | h2
          · exact Or.inr (Or.inl h2.symm)
          · exact Or.inr (Or.inr h2.symm)
        · exact Or.inl (Or.inr ⟨i, by omega, h2⟩)
theorem ec2_EC (B : BM) (T : LN) (c : Nat) : (ec2 B T T.1).testBit c = true ↔ EC B T c := ec2_tb B T c T.1
/-- whether a lamp makes any difference to what a cell bears -/
def chB (G : GP) (c : Nat) : Bool := itr (fun h v => v || decide (¬ bIf G true h c = bIf G false h c)) false 24
theorem chB_iff (G : GP) (c : Nat) : chB G c = true ↔ ∃ h, h < 24 ∧ ¬ bIf G true h c = bIf G false h c := by
  have key : ∀ n, itr (fun h v => v || decide (¬ bIf G true h c = bIf G false h c)) false n = true ↔ ∃ h, h < n ∧ ¬ bIf G true h c = bIf G false h c := by
    intro n
    induction n with
    | zero =>
      constructor
      · intro h; cases h
      · rintro ⟨h, hh, _⟩; exact absurd hh (Nat.not_lt_zero h)
    | succ n ih =>
      rw [itr_s, Bool.or_eq_true, ih, decide_eq_true_iff]
      constructor
      · rintro (⟨h, h1, h2⟩ | h)
        · exact ⟨h, by omega, h2⟩
        · exact ⟨n, by omega, h⟩
      · rintro ⟨h, h1, h2⟩
        by_cases e : h = n
        · subst e; exact Or.inr h2
        · exact Or.inl ⟨h, by omega, h2⟩
  exact key 24
/-- cells that a lamp may matter on -/
def chM (G : GP) (B : BM) (T : LN) : Nat := mk (fun j => (ec2 B T T.1).testBit j && !gLm G j && chB G j) (gW G)
/-- what a lamp on a cell gains -/
def gdP (G : GP) (B : BM) (T : LN) (r x : Nat) : Nat := sprP (2 ^ x) r &&& chM G B T
def GI (E : Mm) (gd : Nat → Nat) (m : Nat) (cl : Nat → Nat) (x : Nat) : Prop := E 62 5 = (m : Int) ∧ m ≤ x ∧ (∀ i, i < m → E 63 i = (cl i : Int) ∧ E 64 i = (gd (cl i) : Int) ∧ cl i < x ∧ ¬ gd (cl i) = 0) ∧ (∀ i j, i < j → j < m → cl i < cl j) ∧ ∀ y, y < x → gd y = 0 ∨ ∃ i, i < m ∧ cl i ≤ y ∧ gd (cl i) = gd y
theorem GI.fr {E E1 : Mm} {gd : Nat → Nat} {m x : Nat} {cl : Nat → Nat} (h : GI E gd m cl x) (h1 : E1 62 5 = E 62 5) (h2 : E1 63 = E 63) (h3 : E1 64 = E 64) : GI E1 gd m cl x := by
  unfold GI at h ⊢
  rw [h1, h2, h3]
  exact h
theorem GI.skip {E : Mm} {gd : Nat → Nat} {m x : Nat} {cl : Nat → Nat} (h : GI E gd m cl x) (hx : gd x = 0 ∨ ∃ i, i < m ∧ gd (cl i) = gd x) : GI E gd m cl (x + 1) := by
  obtain ⟨h1, h2, h3, h4, h5⟩ := h
  refine ⟨h1, by omega, fun i hi => ?_, h4, fun y hy => ?_⟩
  · obtain ⟨a, b, c, d⟩ := h3 i hi
    exact ⟨a, b, by omega, d⟩
  · by_cases e : y = x
    · subst e
      rcases hx with q | ⟨i, hi, q⟩
      · exact Or.inl q
      · have := (h3 i hi).2.2.1
        exact Or.inr ⟨i, hi, by omega, q⟩
    · exact h5 y (by omega)
theorem GI.add {E : Mm} {gd : Nat → Nat} {m x : Nat} {cl : Nat → Nat} (h : GI E gd m cl x) (hx : ¬ gd x = 0) : GI (wr (wr (wr E 63 m (x : Int)) 64 m (gd x : Int)) 62 5 ((m + 1 : Nat) : Int)) gd (m + 1) (pt1 cl m x) (x + 1) := by
  obtain ⟨h1, h2, h3, h4, h5⟩ := h
  refine ⟨wr_s _ _ _ _, by omega, fun i hi => ?_, fun i j hij hj => ?_, fun y hy => ?_⟩
  · by_cases e : i = m
    · subst e
      rw [pt1_s]
      exact ⟨by simp (disch := omega) only [wr_o, wr_s], by simp (disch := omega) only [wr_o, wr_s], by omega, hx⟩
    · rw [pt1_o e]
      obtain ⟨a, b, c, d⟩ := h3 i (by omega)
      exact ⟨by simp (disch := omega) only [wr_o]; exact a, by simp (disch := omega) only [wr_o]; exact b, by omega, d⟩
  · rw [pt1_o (show i ≠ m by omega)]
    by_cases e : j = m
    · rw [e, pt1_s]; exact (h3 i (by omega)).2.2.1
    · rw [pt1_o e]; exact h4 i j hij (by omega)
  · by_cases e : y = x
    · exact Or.inr ⟨m, by omega, by rw [pt1_s]; omega, by rw [pt1_s, e]⟩
    · rcases h5 y (by omega) with q | ⟨i, hi, q1, q2⟩
      · exact Or.inl q
      · exact Or.inr ⟨i, by omega, by rw [pt1_o (show i ≠ m by omega)]; exact q1, by rw [pt1_o (show i ≠ m by omega)]; exact q2⟩
theorem dX6_isGathered_0 : decode cX6_isGathered 0 = .ok (.iconst 0, 1) := by decide +kernel
theorem dX6_isGathered_1 : decode cX6_isGathered 1 = .ok (.istore_n 3, 1) := by decide +kernel
theorem dX6_isGathered_2 : decode cX6_isGathered 2 = .ok (.iload_n 3, 1) := by decide +kernel
theorem dX6_isGathered_3 : decode cX6_isGathered 3 = .ok (.aload_n 0, 1) := by decide +kernel
theorem dX6_isGathered_4 : decode cX6_isGathered 4 = .ok (.getfield 44, 3) := by decide +kernel
theorem dX6_isGathered_7 : decode cX6_isGathered 7 = .ok (.if_icmp .ge 22, 3) := by decide +kernel
theorem dX6_isGathered_10 : decode cX6_isGathered 10 = .ok (.aload_n 0, 1) := by decide +kernel
theorem dX6_isGathered_11 : decode cX6_isGathered 11 = .ok (.getfield 15, 3) := by decide +kernel
theorem dX6_isGathered_14 : decode cX6_isGathered 14 = .ok (.iload_n 3, 1) := by decide +kernel
theorem dX6_isGathered_15 : decode cX6_isGathered 15 = .ok (.laload, 1) := by decide +kernel
theorem dX6_isGathered_16 : decode cX6_isGathered 16 = .ok (.lload_n 1, 1) := by decide +kernel
theorem dX6_isGathered_17 : decode cX6_isGathered 17 = .ok (.lcmp, 1) := by decide +kernel
theorem dX6_isGathered_18 : decode cX6_isGathered 18 = .ok (.ifCond .ne 5, 3) := by decide +kernel
theorem dX6_isGathered_21 : decode cX6_isGathered 21 = .ok (.iconst 1, 1) := by decide +kernel
theorem dX6_isGathered_22 : decode cX6_isGathered 22 = .ok (.ireturn, 1) := by decide +kernel
theorem dX6_isGathered_23 : decode cX6_isGathered 23 = .ok (.iinc 3 1, 3) := by decide +kernel
theorem dX6_isGathered_26 : decode cX6_isGathered 26 = .ok (.goto (-24), 3) := by decide +kernel
theorem dX6_isGathered_29 : decode cX6_isGathered 29 = .ok (.iconst 0, 1) := by decide +kernel
theorem dX6_isGathered_30 : decode cX6_isGathered 30 = .ok (.ireturn, 1) := by decide +kernel
theorem ct_X6_isGathered {g : Gw} (hG : GF g) {z : Bool} (E : Mm) (m v : Nat) (gr : Nat → Nat) (hm : E 62 5 = (m : Int)) (hm40 : m ≤ 40) (hv : v < 1125899906842624) (hr : ∀ i, i < m → E 64 i = (gr i : Int) ∧ gr i < 1125899906842624) : CT g yX6_isGathered cX6_isGathered 4 (some .boolean) 0 0 0 0 K2 z [mR 62, mL ((v : Nat) : Int)] (ov E) K2 z (fun r D' => ∃ v', r = some (mI v') ∧ ((v' = 1 ∧ ∃ i, i < m ∧ gr i = v) ∨ (v' = 0 ∧ ∀ i, i < m → ¬ gr i = v)) ∧ D' = ov E) := by
  refine CT.mk hG (by decide +kernel) (Nat.le_of_ble_eq_true rfl) (fun κ X Rt _ ok => ?_)
  refine at_iconst 1 X (by decide) dX6_isGathered_0 rfl ?_
  refine at_istore_n 2 X rfl dX6_isGathered_1 rfl (by decide) ?_
  have J2 : ∀ (f2 : Nat) (i : Nat), 40 - i < f2 → (i ≤ m) → ((∀ j, j < i → ¬ gr j = v)) → AT g κ K2 z 0 0 2 [(0, mR 62), (1, mL ((v : Nat) : Int)), (3, mI ((i : Nat) : Int))] [] (ov E) := by
    intro f2
    induction f2 with
    | zero => intro i hf2; omega
    | succ f2 ih2 =>
    intro i hf2 hi hno
    refine at_iload_n 3 X rfl rfl dX6_isGathered_2 rfl ?_
    refine at_aload_n 4 X rfl rfl dX6_isGathered_3 rfl ?_
    refine m_getIV 7 X ((m : Nat) : Int) hm f_X6_44 k_62 rn_62_5 dX6_isGathered_4 rfl ?_
    refine at_icmp_ge 10 29 X dX6_isGathered_7 rfl (by decide) (fun h7 => ?_) (fun h7 => ?_)
    · refine at_iconst 30 X (by decide) dX6_isGathered_29 rfl ?_
      refine at_zret X Rt ?_ (by first | decide | (split <;> decide)) (Nat.le_refl _) (Nat.le_refl _) dX6_isGathered_30
      exact ⟨0, rfl, Or.inr ⟨rfl, fun j hj => hno j (by omega)⟩, rfl⟩
    · refine at_aload_n 11 X rfl rfl dX6_isGathered_10 rfl ?_
      refine m_getR 14 X f_X6_15 k_62 r_62_1 dX6_isGathered_11 rfl ?_
      refine at_iload_n 15 X rfl rfl dX6_isGathered_14 rfl ?_
      refine m_laloadV 16 X i (by omega) ((gr i : Nat) : Int) (hr i (by omega)).1 k_64 e_64 (by omega) dX6_isGathered_15 rfl ?_
      have := (hr i (by omega)).2
      refine at_lload_n 17 X rfl rfl dX6_isGathered_16 rfl ?_
      refine at_lif_ne 18 21 23 X dX6_isGathered_17 rfl dX6_isGathered_18 rfl (by decide) (fun h17 => ?_) (fun h17 => ?_)
      · refine at_iincV 26 X ((i + 1 : Nat) : Int) (w32_v (by omega) (by omega) (by omega)) rfl dX6_isGathered_23 rfl (by decide) ?_
        refine at_goto 2 X dX6_isGathered_26 (by decide) ?_
        exact at_sub _ (by exact ⟨rfl, rfl, rfl, trivial⟩) (ih2 (i + 1) (by first | omega | (simp only [] at *; omega)) (by first | omega | assumption) (fun j hj => if e : j = i then by rw [e]; omega else hno j (by omega)))
      · refine at_iconst 22 X (by decide) dX6_isGathered_21 rfl ?_
        refine at_zret X Rt ?_ (by first | decide | (split <;> decide)) (Nat.le_refl _) (Nat.le_refl _) dX6_isGathered_22
        exact ⟨1, rfl, Or.inl ⟨rfl, i, by omega, by omega⟩, rfl⟩
  exact at_sub _ (by exact ⟨rfl, rfl, rfl, trivial⟩) (J2 _ 0 (Nat.lt_succ_self _) (by first | omega | assumption | rfl) (fun j hj => absurd hj (Nat.not_lt_zero j)))
theorem dX6_endCells_0 : decode cX6_endCells 0 = .ok (.lconst 0, 1) := by decide +kernel
theorem dX6_endCells_1 : decode cX6_endCells 1 = .ok (.lstore_n 2, 1) := by decide +kernel
theorem dX6_endCells_2 : decode cX6_endCells 2 = .ok (.iconst 0, 1) := by decide +kernel
theorem dX6_endCells_3 : decode cX6_endCells 3 = .ok (.istore 4, 2) := by decide +kernel
theorem dX6_endCells_5 : decode cX6_endCells 5 = .ok (.iload 4, 2) := by decide +kernel
theorem dX6_endCells_7 : decode cX6_endCells 7 = .ok (.aload_n 0, 1) := by decide +kernel
theorem dX6_endCells_8 : decode cX6_endCells 8 = .ok (.getfield 59, 3) := by decide +kernel
theorem dX6_endCells_11 : decode cX6_endCells 11 = .ok (.if_icmp .ge 37, 3) := by decide +kernel
theorem dX6_endCells_14 : decode cX6_endCells 14 = .ok (.lload_n 2, 1) := by decide +kernel
theorem dX6_endCells_15 : decode cX6_endCells 15 = .ok (.lconst 1, 1) := by decide +kernel
theorem dX6_endCells_16 : decode cX6_endCells 16 = .ok (.aload_n 0, 1) := by decide +kernel
theorem dX6_endCells_17 : decode cX6_endCells 17 = .ok (.getfield 62, 3) := by decide +kernel
theorem dX6_endCells_20 : decode cX6_endCells 20 = .ok (.iload 4, 2) := by decide +kernel
theorem dX6_endCells_22 : decode cX6_endCells 22 = .ok (.iaload, 1) := by decide +kernel
theorem dX6_endCells_23 : decode cX6_endCells 23 = .ok (.lshl, 1) := by decide +kernel
theorem dX6_endCells_24 : decode cX6_endCells 24 = .ok (.lconst 1, 1) := by decide +kernel
theorem dX6_endCells_25 : decode cX6_endCells 25 = .ok (.aload_n 0, 1) := by decide +kernel
theorem dX6_endCells_26 : decode cX6_endCells 26 = .ok (.iload 4, 2) := by decide +kernel
theorem dX6_endCells_28 : decode cX6_endCells 28 = .ok (.aload_n 0, 1) := by decide +kernel
theorem dX6_endCells_29 : decode cX6_endCells 29 = .ok (.getfield 62, 3) := by decide +kernel
theorem dX6_endCells_32 : decode cX6_endCells 32 = .ok (.iload 4, 2) := by decide +kernel
theorem dX6_endCells_34 : decode cX6_endCells 34 = .ok (.iaload, 1) := by decide +kernel
theorem dX6_endCells_35 : decode cX6_endCells 35 = .ok (.invokevirtual 65, 3) := by decide +kernel
theorem dX6_endCells_38 : decode cX6_endCells 38 = .ok (.lshl, 1) := by decide +kernel
theorem dX6_endCells_39 : decode cX6_endCells 39 = .ok (.lor, 1) := by decide +kernel
theorem dX6_endCells_40 : decode cX6_endCells 40 = .ok (.lor, 1) := by decide +kernel
theorem dX6_endCells_41 : decode cX6_endCells 41 = .ok (.lstore_n 2, 1) := by decide +kernel
theorem dX6_endCells_42 : decode cX6_endCells 42 = .ok (.iinc 4 1, 3) := by decide +kernel
theorem dX6_endCells_45 : decode cX6_endCells 45 = .ok (.goto (-40), 3) := by decide +kernel
theorem dX6_endCells_48 : decode cX6_endCells 48 = .ok (.iconst 0, 1) := by decide +kernel
theorem dX6_endCells_49 : decode cX6_endCells 49 = .ok (.istore 4, 2) := by decide +kernel
theorem dX6_endCells_51 : decode cX6_endCells 51 = .ok (.iload 4, 2) := by decide +kernel
theorem dX6_endCells_53 : decode cX6_endCells 53 = .ok (.aload_n 1, 1) := by decide +kernel
theorem dX6_endCells_54 : decode cX6_endCells 54 = .ok (.getfield 69, 3) := by decide +kernel
theorem dX6_endCells_57 : decode cX6_endCells 57 = .ok (.if_icmp .ge 42, 3) := by decide +kernel
theorem dX6_endCells_60 : decode cX6_endCells 60 = .ok (.lload_n 2, 1) := by decide +kernel
theorem dX6_endCells_61 : decode cX6_endCells 61 = .ok (.lconst 1, 1) := by decide +kernel
theorem dX6_endCells_62 : decode cX6_endCells 62 = .ok (.aload_n 1, 1) := by decide +kernel
theorem dX6_endCells_63 : decode cX6_endCells 63 = .ok (.getfield 72, 3) := by decide +kernel
theorem dX6_endCells_66 : decode cX6_endCells 66 = .ok (.iload 4, 2) := by decide +kernel
theorem dX6_endCells_68 : decode cX6_endCells 68 = .ok (.iaload, 1) := by decide +kernel
theorem dX6_endCells_69 : decode cX6_endCells 69 = .ok (.lshl, 1) := by decide +kernel
theorem dX6_endCells_70 : decode cX6_endCells 70 = .ok (.lconst 1, 1) := by decide +kernel
theorem dX6_endCells_71 : decode cX6_endCells 71 = .ok (.aload_n 0, 1) := by decide +kernel
theorem dX6_endCells_72 : decode cX6_endCells 72 = .ok (.aload_n 1, 1) := by decide +kernel
theorem dX6_endCells_73 : decode cX6_endCells 73 = .ok (.getfield 75, 3) := by decide +kernel
theorem dX6_endCells_76 : decode cX6_endCells 76 = .ok (.iload 4, 2) := by decide +kernel
theorem dX6_endCells_78 : decode cX6_endCells 78 = .ok (.iaload, 1) := by decide +kernel
theorem dX6_endCells_79 : decode cX6_endCells 79 = .ok (.aload_n 1, 1) := by decide +kernel
theorem dX6_endCells_80 : decode cX6_endCells 80 = .ok (.getfield 72, 3) := by decide +kernel
theorem dX6_endCells_83 : decode cX6_endCells 83 = .ok (.iload 4, 2) := by decide +kernel
theorem dX6_endCells_85 : decode cX6_endCells 85 = .ok (.iaload, 1) := by decide +kernel
theorem dX6_endCells_86 : decode cX6_endCells 86 = .ok (.invokevirtual 65, 3) := by decide +kernel
theorem dX6_endCells_89 : decode cX6_endCells 89 = .ok (.lshl, 1) := by decide +kernel
theorem dX6_endCells_90 : decode cX6_endCells 90 = .ok (.lor, 1) := by decide +kernel
theorem dX6_endCells_91 : decode cX6_endCells 91 = .ok (.lor, 1) := by decide +kernel
theorem dX6_endCells_92 : decode cX6_endCells 92 = .ok (.lstore_n 2, 1) := by decide +kernel
theorem dX6_endCells_93 : decode cX6_endCells 93 = .ok (.iinc 4 1, 3) := by decide +kernel
theorem dX6_endCells_96 : decode cX6_endCells 96 = .ok (.goto (-45), 3) := by decide +kernel
theorem dX6_endCells_99 : decode cX6_endCells 99 = .ok (.lload_n 2, 1) := by decide +kernel
theorem dX6_endCells_100 : decode cX6_endCells 100 = .ok (.lreturn, 1) := by decide +kernel
theorem ct_X6_endCells {g : Gw} (hG : GF g) {z : Bool} (E : Mm) (B : BM) (s W : Nat) (hs : s = 76 ∨ s = 91) (hB_E : CB E s B) (hW : WB W B) (hW40 : W ≤ 40) (T : LN) (hT_E : CN E 12 T) (hT : WT W B T) : CT g yX6_endCells cX6_endCells 5 (some .long) 1 22 0 0 K2 z [mR s, mR 12] (ov E) K2 z (fun r D' => r = some (mL (ec2 B T T.1 : Nat)) ∧ ec2 B T T.1 < 1099511627776 ∧ D' = ov E) := by
  refine CT.mk hG (by decide +kernel) (Nat.le_of_ble_eq_true rfl) (fun κ X Rt _ ok => ?_)
  have hN8 := hW.N
  have hT16 := hT.1
  refine at_lconst 1 X (v := 0) (by decide) (by decide) dX6_endCells_0 rfl ?_
  refine at_lstore_n 2 X rfl dX6_endCells_1 rfl (by decide) ?_
  refine at_iconst 3 X (by decide) dX6_endCells_2 rfl ?_
  refine at_istore 5 X dX6_endCells_3 rfl (by decide) ?_
  have J5 : ∀ (f5 : Nat) (b : Nat) (m : Nat), 8 - b < f5 → (b ≤ bN B) → (m = ec1 B b) → (m < 1099511627776) → AT g κ K2 z 0 0 5 [(0, mR s), (1, mR 12), (2, mL ((m : Nat) : Int)), (4, mI ((b : Nat) : Int))] [] (ov E) := by
    intro f5
    induction f5 with
    | zero => intro b m hf5; omega
    | succ f5 ih5 =>
    intro b m hf5 hb hm hml
    refine at_iload 7 X rfl dX6_endCells_5 rfl ?_
    refine at_aload_n 8 X rfl rfl dX6_endCells_7 rfl ?_
    refine m_getIV 11 X ((bN B : Nat) : Int) hB_E.N f_X6_59 (kX0 hs) (nX0_6 hs) dX6_endCells_8 rfl ?_
    have := hW.N
    refine at_icmp_ge 14 48 X dX6_endCells_11 rfl (by decide) (fun h11 => ?_) (fun h11 => ?_)
    · refine at_iconst 49 X (by decide) dX6_endCells_48 rfl ?_
      refine at_istore 51 X dX6_endCells_49 rfl (by decide) ?_
      have J51 : ∀ (f51 : Nat) (i : Nat) (m : Nat), 16 - i < f51 → (i ≤ T.1) → (m = ec2 B T i) → (m < 1099511627776) → AT g κ K2 z 0 0 51 [(0, mR s), (1, mR 12), (2, mL ((m : Nat) : Int)), (4, mI ((i : Nat) : Int))] [] (ov E) := by
        intro f51
        induction f51 with
        | zero => intro i m hf51; omega
        | succ f51 ih51 =>
        intro i m hf51 hi hm hml
        refine at_iload 53 X rfl dX6_endCells_51 rfl ?_
        refine at_aload_n 54 X rfl rfl dX6_endCells_53 rfl ?_
        refine m_getIV 57 X ((T.1 : Nat) : Int) hT_E.n f_X6_69 k_12 rn_12_3 dX6_endCells_54 rfl ?_
        have := hT.1
        refine at_icmp_ge 60 99 X dX6_endCells_57 rfl (by decide) (fun h57 => ?_) (fun h57 => ?_)
        · refine at_lload_n 100 X rfl rfl dX6_endCells_99 rfl ?_
          refine at_lret X Rt ?_ (Nat.le_refl _) (Nat.le_refl _) dX6_endCells_100
          exact ⟨by rw [hm, show i = T.1 by omega], by rw [← show i = T.1 by omega, ← hm]; exact hml, rfl⟩
        · have ht2 := hT.2 i (by omega)
          have hl2 := hW.L (b := T.2.2.1 i) (by omega)
          have hp1 := p2_40 (x := T.2.2.2 i) (by omega)
          have hp2 := p2_40 (x := T.2.2.2 i + bL B (T.2.2.1 i) - 1) (by omega)
          have hp3 := or40 hp1 hp2
          refine at_lload_n 61 X rfl rfl dX6_endCells_60 rfl ?_
          refine at_lconst 62 X (v := 1) (by decide) (by decide) dX6_endCells_61 rfl ?_
          refine at_aload_n 63 X rfl rfl dX6_endCells_62 rfl ?_
          refine m_getR 66 X f_X6_72 k_12 r_12_2 dX6_endCells_63 rfl ?_
          refine at_iload 68 X rfl dX6_endCells_66 rfl ?_
          refine m_ialoadV 69 X i (by omega) ((T.2.2.2 i : Nat) : Int) (hT_E.c (i := i) (by omega)) k_15 e_15 (by omega) dX6_endCells_68 rfl ?_
          have := hT.2 i (by omega)
          refine at_lshlV 70 X ((2 ^ (T.2.2.2 i) : Nat) : Int) (lshl1 (by omega)) dX6_endCells_69 rfl ?_
          refine at_lconst 71 X (v := 1) (by decide) (by decide) dX6_endCells_70 rfl ?_
          refine at_aload_n 72 X rfl rfl dX6_endCells_71 rfl ?_
          refine at_aload_n 73 X rfl rfl dX6_endCells_72 rfl ?_
          refine m_getR 76 X f_X6_75 k_12 r_12_1 dX6_endCells_73 rfl ?_
          refine at_iload 78 X rfl dX6_endCells_76 rfl ?_
          refine m_ialoadV 79 X i (by omega) ((T.2.2.1 i : Nat) : Int) (hT_E.b (i := i) (by omega)) k_14 e_14 (by omega) dX6_endCells_78 rfl ?_
          have := hT.2 i (by omega)
          refine at_aload_n 80 X rfl rfl dX6_endCells_79 rfl ?_
          refine m_getR 83 X f_X6_72 k_12 r_12_2 dX6_endCells_80 rfl ?_
          refine at_iload 85 X rfl dX6_endCells_83 rfl ?_
          refine m_ialoadV 86 X i (by omega) ((T.2.2.2 i : Nat) : Int) (hT_E.c (i := i) (by omega)) k_15 e_15 (by omega) dX6_endCells_85 rfl ?_
          have := hT.2 i (by omega)
          refine at_callV 89 X _ 0 (ct_X0_rightEndN hG E B s W hs hB_E hW hW40 (T.2.2.1 i) (by omega) (T.2.2.2 i) (by omega)) clX0 rfl (kX0 hs) mo_X0_rightEnd w_1444 vo_X0_rightEnd.1 vo_X0_rightEnd.2 rfl rfl (crm Rt (by decide)) (Nat.le_of_ble_eq_true rfl) dX6_endCells_86 rfl ?_
          rintro _ _ ⟨rfl, rfl⟩
          refine at_lshlV 90 X ((2 ^ (T.2.2.2 i + bL B (T.2.2.1 i) - 1) : Nat) : Int) (lshl1 (by omega)) dX6_endCells_89 rfl ?_
          refine at_lorV 91 X ((2 ^ (T.2.2.2 i) ||| 2 ^ (T.2.2.2 i + bL B (T.2.2.1 i) - 1) : Nat) : Int) (lor_nat (by omega) (by omega)) dX6_endCells_90 rfl ?_
          refine at_lorV 92 X ((m ||| (2 ^ (T.2.2.2 i) ||| 2 ^ (T.2.2.2 i + bL B (T.2.2.1 i) - 1)) : Nat) : Int) (lor_nat (by omega) (by omega)) dX6_endCells_91 rfl ?_
          refine at_lstore_n 93 X rfl dX6_endCells_92 rfl (by decide) ?_
          refine at_iincV 96 X ((i + 1 : Nat) : Int) (w32_v (by omega) (by omega) (by omega)) rfl dX6_endCells_93 rfl (by decide) ?_
          refine at_goto 51 X dX6_endCells_96 (by decide) ?_
          exact at_sub _ (by exact ⟨rfl, rfl, rfl, rfl, trivial⟩) (ih51 (i + 1) (m ||| (2 ^ (T.2.2.2 i) ||| 2 ^ (T.2.2.2 i + bL B (T.2.2.1 i) - 1))) (by first | omega | (simp only [] at *; omega)) (by first | omega | assumption) (by rw [hm]; rfl) (or40 hml hp3))
      exact at_sub _ (by exact ⟨rfl, rfl, rfl, rfl, trivial⟩) (J51 _ 0 m (Nat.lt_succ_self _) (by first | omega | assumption | rfl) (by rw [hm, show b = bN B by omega]; rfl) (by first | omega | assumption | rfl))
    · have hl2 := hW.L (b := b) (by omega)
      have hx2 := hW.X (b := b) (by omega)
      have hp1 := p2_40 (x := bX B b) (by omega)
      have hp2 := p2_40 (x := bX B b + bL B b - 1) (by omega)
      have hp3 := or40 hp1 hp2
      refine at_lload_n 15 X rfl rfl dX6_endCells_14 rfl ?_
      refine at_lconst 16 X (v := 1) (by decide) (by decide) dX6_endCells_15 rfl ?_
      refine at_aload_n 17 X rfl rfl dX6_endCells_16 rfl ?_
      refine m_getR 20 X f_X6_62 (kX0 hs) (rX0_0 hs) dX6_endCells_17 rfl ?_
      refine at_iload 22 X rfl dX6_endCells_20 rfl ?_
      refine m_ialoadV 23 X b (by omega) ((bX B b : Nat) : Int) (hB_E.X (b := b) (by omega)) (kX0_0 hs) (eX0_0 hs) (by omega) dX6_endCells_22 rfl ?_
      have := hW.X (b := b) (by omega)
      refine at_lshlV 24 X ((2 ^ (bX B b) : Nat) : Int) (lshl1 (by omega)) dX6_endCells_23 rfl ?_
      refine at_lconst 25 X (v := 1) (by decide) (by decide) dX6_endCells_24 rfl ?_
      refine at_aload_n 26 X rfl rfl dX6_endCells_25 rfl ?_
      refine at_iload 28 X rfl dX6_endCells_26 rfl ?_
      refine at_aload_n 29 X rfl rfl dX6_endCells_28 rfl ?_
      refine m_getR 32 X f_X6_62 (kX0 hs) (rX0_0 hs) dX6_endCells_29 rfl ?_
      refine at_iload 34 X rfl dX6_endCells_32 rfl ?_
      refine m_ialoadV 35 X b (by omega) ((bX B b : Nat) : Int) (hB_E.X (b := b) (by omega)) (kX0_0 hs) (eX0_0 hs) (by omega) dX6_endCells_34 rfl ?_
      have := hW.X (b := b) (by omega)
      refine at_callV 38 X _ 0 (ct_X0_rightEndN hG E B s W hs hB_E hW hW40 b (by omega) (bX B b) (by omega)) clX0 rfl (kX0 hs) mo_X0_rightEnd w_1444 vo_X0_rightEnd.1 vo_X0_rightEnd.2 rfl rfl (crm Rt (by decide)) (Nat.le_of_ble_eq_true rfl) dX6_endCells_35 rfl ?_
      rintro _ _ ⟨rfl, rfl⟩
      refine at_lshlV 39 X ((2 ^ (bX B b + bL B b - 1) : Nat) : Int) (lshl1 (by omega)) dX6_endCells_38 rfl ?_
      refine at_lorV 40 X ((2 ^ (bX B b) ||| 2 ^ (bX B b + bL B b - 1) : Nat) : Int) (lor_nat (by omega) (by omega)) dX6_endCells_39 rfl ?_
      refine at_lorV 41 X ((m ||| (2 ^ (bX B b) ||| 2 ^ (bX B b + bL B b - 1)) : Nat) : Int) (lor_nat (by omega) (by omega)) dX6_endCells_40 rfl ?_
      refine at_lstore_n 42 X rfl dX6_endCells_41 rfl (by decide) ?_
      refine at_iincV 45 X ((b + 1 : Nat) : Int) (w32_v (by omega) (by omega) (by omega)) rfl dX6_endCells_42 rfl (by decide) ?_
      refine at_goto 5 X dX6_endCells_45 (by decide) ?_
      exact at_sub _ (by exact ⟨rfl, rfl, rfl, rfl, trivial⟩) (ih5 (b + 1) (m ||| (2 ^ (bX B b) ||| 2 ^ (bX B b + bL B b - 1))) (by first | omega | (simp only [] at *; omega)) (by first | omega | assumption) (by rw [hm]; rfl) (or40 hml hp3))
  exact at_sub _ (by exact ⟨rfl, rfl, rfl, rfl, trivial⟩) (J5 _ 0 0 (Nat.lt_succ_self _) (by first | omega | assumption | rfl) rfl (by first | omega | assumption | rfl))
theorem dX6_isChangedByLamp_0 : decode cX6_isChangedByLamp 0 = .ok (.iconst 0, 1) := by decide +kernel
theorem dX6_isChangedByLamp_1 : decode cX6_isChangedByLamp 1 = .ok (.istore_n 2, 1) := by decide +kernel
theorem dX6_isChangedByLamp_2 : decode cX6_isChangedByLamp 2 = .ok (.iload_n 2, 1) := by decide +kernel
theorem dX6_isChangedByLamp_3 : decode cX6_isChangedByLamp 3 = .ok (.bipush 24, 2) := by decide +kernel
theorem dX6_isChangedByLamp_5 : decode cX6_isChangedByLamp 5 = .ok (.if_icmp .ge 28, 3) := by decide +kernel
theorem dX6_isChangedByLamp_8 : decode cX6_isChangedByLamp 8 = .ok (.aload_n 0, 1) := by decide +kernel
theorem dX6_isChangedByLamp_9 : decode cX6_isChangedByLamp 9 = .ok (.iload_n 1, 1) := by decide +kernel
theorem dX6_isChangedByLamp_10 : decode cX6_isChangedByLamp 10 = .ok (.iload_n 2, 1) := by decide +kernel
theorem dX6_isChangedByLamp_11 : decode cX6_isChangedByLamp 11 = .ok (.iconst 1, 1) := by decide +kernel
theorem dX6_isChangedByLamp_12 : decode cX6_isChangedByLamp 12 = .ok (.invokevirtual 82, 3) := by decide +kernel
theorem dX6_isChangedByLamp_15 : decode cX6_isChangedByLamp 15 = .ok (.aload_n 0, 1) := by decide +kernel
theorem dX6_isChangedByLamp_16 : decode cX6_isChangedByLamp 16 = .ok (.iload_n 1, 1) := by decide +kernel
theorem dX6_isChangedByLamp_17 : decode cX6_isChangedByLamp 17 = .ok (.iload_n 2, 1) := by decide +kernel
theorem dX6_isChangedByLamp_18 : decode cX6_isChangedByLamp 18 = .ok (.iconst 0, 1) := by decide +kernel
theorem dX6_isChangedByLamp_19 : decode cX6_isChangedByLamp 19 = .ok (.invokevirtual 82, 3) := by decide +kernel
theorem dX6_isChangedByLamp_22 : decode cX6_isChangedByLamp 22 = .ok (.if_icmp .eq 5, 3) := by decide +kernel
theorem dX6_isChangedByLamp_25 : decode cX6_isChangedByLamp 25 = .ok (.iconst 1, 1) := by decide +kernel
theorem dX6_isChangedByLamp_26 : decode cX6_isChangedByLamp 26 = .ok (.ireturn, 1) := by decide +kernel
theorem dX6_isChangedByLamp_27 : decode cX6_isChangedByLamp 27 = .ok (.iinc 2 1, 3) := by decide +kernel
theorem dX6_isChangedByLamp_30 : decode cX6_isChangedByLamp 30 = .ok (.goto (-28), 3) := by decide +kernel
theorem dX6_isChangedByLamp_33 : decode cX6_isChangedByLamp 33 = .ok (.iconst 0, 1) := by decide +kernel
theorem dX6_isChangedByLamp_34 : decode cX6_isChangedByLamp 34 = .ok (.ireturn, 1) := by decide +kernel
theorem ct_X6_isChangedByLamp {g : Gw} (hG : GF g) {z : Bool} (E : Mm) (a : Nat) (ha : a = 30 ∨ a = 39) (G : GP) (hw : WG G) (hg_E : CG E a G) (hl_E : CL E 4 (gLw G)) (c : Nat) (hc : c < 40) : CT g yX6_isChangedByLamp cX6_isChangedByLamp 3 (some .boolean) 2 53 0 0 K2 z [mR a, mI ((c : Nat) : Int)] (ov E) K2 z (fun r D' => r = some (mI (if chB G c = true then 1 else 0)) ∧ ∃ E1, D' = ov E1 ∧ CG E1 a G ∧ ∀ q, q ≠ a + 8 → q ≠ 7 → E1 q = E q) := by
  refine CT.mk hG (by decide +kernel) (Nat.le_of_ble_eq_true rfl) (fun κ X Rt _ ok => ?_)
  have hf_E : ∀ q, q ≠ a + 8 → q ≠ 7 → E q = E q := fun _ _ _ => rfl
  have hW40 := hw.W
  have hN11 := hw.N
  refine at_iconst 1 X (by decide) dX6_isChangedByLamp_0 rfl ?_
  refine at_istore_n 2 X rfl dX6_isChangedByLamp_1 rfl (by decide) ?_
  have J2 : ∀ (f2 : Nat) (F : Mm) (h : Nat), 24 - h < f2 → (h ≤ 24) → ((∀ j, j < h → bIf G true j c = bIf G false j c)) → (CG F a G) → (CL F 4 (gLw G)) → (∀ q, q ≠ a + 8 → q ≠ 7 → F q = E q) → AT g κ K2 z 0 0 2 [(0, mR a), (1, mI ((c : Nat) : Int)), (2, mI ((h : Nat) : Int))] [] (ov F) := by
    intro f2
    induction f2 with
    | zero => intro F h hf2; omega
    | succ f2 ih2 =>
    intro F h hf2 hh hno hg_F hl_F hf_F
    refine at_iload_n 3 X rfl rfl dX6_isChangedByLamp_2 rfl ?_
    refine at_bipush 5 X (by decide) (by decide) dX6_isChangedByLamp_3 rfl ?_
    refine at_icmp_ge 8 33 X dX6_isChangedByLamp_5 rfl (by decide) (fun h5 => ?_) (fun h5 => ?_)
    · refine at_iconst 34 X (by decide) dX6_isChangedByLamp_33 rfl ?_
      refine at_zret X Rt ?_ (by first | decide | (split <;> decide)) (Nat.le_refl _) (Nat.le_refl _) dX6_isChangedByLamp_34
      exact ⟨by rw [if_neg (fun q => by obtain ⟨j, j1, j2⟩ := (chB_iff G c).mp q; exact j2 (hno j (by omega)))], F, rfl, hg_F, hf_F⟩
    · refine at_aload_n 9 X rfl rfl dX6_isChangedByLamp_8 rfl ?_
      refine at_iload_n 10 X rfl rfl dX6_isChangedByLamp_9 rfl ?_
      refine at_iload_n 11 X rfl rfl dX6_isChangedByLamp_10 rfl ?_
      refine at_iconst 12 X (by decide) dX6_isChangedByLamp_11 rfl ?_
      refine at_callV 15 X _ 4 (ct_X4_borneIf hG F a ha G hw hg_F hl_F true h c (by omega) (by omega)) clX4 rfl (kX4 ha) mo_X4_borneIf w_1452 vo_X4_borneIf.1 vo_X4_borneIf.2 rfl rfl (crm Rt (by decide)) (Nat.le_of_ble_eq_true rfl) dX6_isChangedByLamp_12 rfl ?_
      rintro _ _ ⟨rfl, F1, rfl, hg_F1, hq_F1⟩
      have hl_F1 := hl_F.fr (fun q _ _ => hq_F1 q (by omega) (by omega))
      have hf_F1 : ∀ q, q ≠ a + 8 → q ≠ 7 → F1 q = E q := fun q h0 h1 => (hq_F1 q h0 h1).trans (hf_F q h0 h1)
      have := bIf_in G true h c
      refine at_aload_n 16 X rfl rfl dX6_isChangedByLamp_15 rfl ?_
      refine at_iload_n 17 X rfl rfl dX6_isChangedByLamp_16 rfl ?_
      refine at_iload_n 18 X rfl rfl dX6_isChangedByLamp_17 rfl ?_
      refine at_iconst 19 X (by decide) dX6_isChangedByLamp_18 rfl ?_
      refine at_callV 22 X _ 4 (ct_X4_borneIf hG F1 a ha G hw hg_F1 hl_F1 false h c (by omega) (by omega)) clX4 rfl (kX4 ha) mo_X4_borneIf w_1452 vo_X4_borneIf.1 vo_X4_borneIf.2 rfl rfl (crm Rt (by decide)) (Nat.le_of_ble_eq_true rfl) dX6_isChangedByLamp_19 rfl ?_
      rintro _ _ ⟨rfl, F2, rfl, hg_F2, hq_F2⟩
      have hl_F2 := hl_F1.fr (fun q _ _ => hq_F2 q (by omega) (by omega))
      have hf_F2 : ∀ q, q ≠ a + 8 → q ≠ 7 → F2 q = E q := fun q h0 h1 => (hq_F2 q h0 h1).trans (hf_F1 q h0 h1)
      have := bIf_in G false h c
      refine at_icmp_eq 25 27 X dX6_isChangedByLamp_22 rfl (by decide) (fun h22 => ?_) (fun h22 => ?_)
      · refine at_iincV 30 X ((h + 1 : Nat) : Int) (w32_v (by omega) (by omega) (by omega)) rfl dX6_isChangedByLamp_27 rfl (by decide) ?_
        refine at_goto 2 X dX6_isChangedByLamp_30 (by decide) ?_
        exact at_sub _ (by exact ⟨rfl, rfl, rfl, trivial⟩) (ih2 F2 (h + 1) (by first | omega | (simp only [] at *; omega)) (by first | omega | assumption) (fun j hj => if e : j = h then by rw [e]; exact h22 else hno j (by omega)) hg_F2 hl_F2 hf_F2)
      · refine at_iconst 26 X (by decide) dX6_isChangedByLamp_25 rfl ?_
        refine at_zret X Rt ?_ (by first | decide | (split <;> decide)) (Nat.le_refl _) (Nat.le_refl _) dX6_isChangedByLamp_26
        exact ⟨by rw [if_pos ((chB_iff G c).mpr ⟨h, by omega, h22⟩)], F2, rfl, hg_F2, hf_F2⟩
  exact at_sub _ (by exact ⟨rfl, rfl, rfl, trivial⟩) (J2 _ E 0 (Nat.lt_succ_self _) (by first | omega | assumption | rfl) (fun j hj => absurd hj (Nat.not_lt_zero j)) (by first | omega | assumption | rfl) (by first | omega | assumption | rfl) (by first | omega | assumption | rfl))
theorem dX6_changedByLamps_0 : decode cX6_changedByLamps 0 = .ok (.lconst 0, 1) := by decide +kernel
theorem dX6_changedByLamps_1 : decode cX6_changedByLamps 1 = .ok (.lstore_n 3, 1) := by decide +kernel
theorem dX6_changedByLamps_2 : decode cX6_changedByLamps 2 = .ok (.iconst 0, 1) := by decide +kernel
theorem dX6_changedByLamps_3 : decode cX6_changedByLamps 3 = .ok (.istore 5, 2) := by decide +kernel
theorem dX6_changedByLamps_5 : decode cX6_changedByLamps 5 = .ok (.iload 5, 2) := by decide +kernel
theorem dX6_changedByLamps_7 : decode cX6_changedByLamps 7 = .ok (.aload_n 0, 1) := by decide +kernel
theorem dX6_changedByLamps_8 : decode cX6_changedByLamps 8 = .ok (.getfield 48, 3) := by decide +kernel
theorem dX6_changedByLamps_11 : decode cX6_changedByLamps 11 = .ok (.if_icmp .ge 36, 3) := by decide +kernel
theorem dX6_changedByLamps_14 : decode cX6_changedByLamps 14 = .ok (.lload_n 1, 1) := by decide +kernel
theorem dX6_changedByLamps_15 : decode cX6_changedByLamps 15 = .ok (.iload 5, 2) := by decide +kernel
theorem dX6_changedByLamps_17 : decode cX6_changedByLamps 17 = .ok (.lshr, 1) := by decide +kernel
theorem dX6_changedByLamps_18 : decode cX6_changedByLamps 18 = .ok (.lconst 1, 1) := by decide +kernel
theorem dX6_changedByLamps_19 : decode cX6_changedByLamps 19 = .ok (.land, 1) := by decide +kernel
theorem dX6_changedByLamps_20 : decode cX6_changedByLamps 20 = .ok (.lconst 1, 1) := by decide +kernel
theorem dX6_changedByLamps_21 : decode cX6_changedByLamps 21 = .ok (.lcmp, 1) := by decide +kernel
theorem dX6_changedByLamps_22 : decode cX6_changedByLamps 22 = .ok (.ifCond .ne 19, 3) := by decide +kernel
theorem dX6_changedByLamps_25 : decode cX6_changedByLamps 25 = .ok (.aload_n 0, 1) := by decide +kernel
theorem dX6_changedByLamps_26 : decode cX6_changedByLamps 26 = .ok (.iload 5, 2) := by decide +kernel
theorem dX6_changedByLamps_28 : decode cX6_changedByLamps 28 = .ok (.invokestatic 78, 3) := by decide +kernel
theorem dX6_changedByLamps_31 : decode cX6_changedByLamps 31 = .ok (.ifCond .eq 10, 3) := by decide +kernel
theorem dX6_changedByLamps_34 : decode cX6_changedByLamps 34 = .ok (.lload_n 3, 1) := by decide +kernel
theorem dX6_changedByLamps_35 : decode cX6_changedByLamps 35 = .ok (.lconst 1, 1) := by decide +kernel
theorem dX6_changedByLamps_36 : decode cX6_changedByLamps 36 = .ok (.iload 5, 2) := by decide +kernel
theorem dX6_changedByLamps_38 : decode cX6_changedByLamps 38 = .ok (.lshl, 1) := by decide +kernel
theorem dX6_changedByLamps_39 : decode cX6_changedByLamps 39 = .ok (.lor, 1) := by decide +kernel
theorem dX6_changedByLamps_40 : decode cX6_changedByLamps 40 = .ok (.lstore_n 3, 1) := by decide +kernel
theorem dX6_changedByLamps_41 : decode cX6_changedByLamps 41 = .ok (.iinc 5 1, 3) := by decide +kernel
theorem dX6_changedByLamps_44 : decode cX6_changedByLamps 44 = .ok (.goto (-39), 3) := by decide +kernel
theorem dX6_changedByLamps_47 : decode cX6_changedByLamps 47 = .ok (.lload_n 3, 1) := by decide +kernel
theorem dX6_changedByLamps_48 : decode cX6_changedByLamps 48 = .ok (.lreturn, 1) := by decide +kernel
theorem ct_X6_changedByLamps {g : Gw} (hG : GF g) {z : Bool} (E : Mm) (a : Nat) (ha : a = 30 ∨ a = 39) (G : GP) (hw : WG G) (hg_E : CG E a G) (hl_E : CL E 4 (gLw G)) (m : Nat) (hm : m < 9223372036854775808) : CT g yX6_changedByLamps cX6_changedByLamps 6 (some .long) 3 75 0 0 K2 z [mR a, mL ((m : Nat) : Int)] (ov E) K2 z (fun r D' => r = some (mL (mk (fun j => m.testBit j && chB G j) (gW G) : Nat)) ∧ ∃ E1, D' = ov E1 ∧ CG E1 a G ∧ ∀ q, q ≠ a + 8 → q ≠ 7 → E1 q = E q) := by
  refine CT.mk hG (by decide +kernel) (Nat.le_of_ble_eq_true rfl) (fun κ X Rt _ ok => ?_)
  have hf_E : ∀ q, q ≠ a + 8 → q ≠ 7 → E q = E q := fun _ _ _ => rfl
  have hW40 := hw.W
  have hN11 := hw.N
  refine at_lconst 1 X (v := 0) (by decide) (by decide) dX6_changedByLamps_0 rfl ?_
  refine at_lstore_n 2 X rfl dX6_changedByLamps_1 rfl (by decide) ?_
  refine at_iconst 3 X (by decide) dX6_changedByLamps_2 rfl ?_
  refine at_istore 5 X dX6_changedByLamps_3 rfl (by decide) ?_
  have J5 : ∀ (f5 : Nat) (F : Mm) (c : Nat) (v : Nat), 40 - c < f5 → (c ≤ gW G) → (v = mk (fun j => m.testBit j && chB G j) c) → (CG F a G) → (CL F 4 (gLw G)) → (∀ q, q ≠ a + 8 → q ≠ 7 → F q = E q) → AT g κ K2 z 0 0 5 [(0, mR a), (1, mL ((m : Nat) : Int)), (3, mL ((v : Nat) : Int)), (5, mI ((c : Nat) : Int))] [] (ov F) := by
    intro f5
    induction f5 with
    | zero => intro F c v hf5; omega
    | succ f5 ih5 =>
    intro F c v hf5 hc hv hg_F hl_F hf_F
    refine at_iload 7 X rfl dX6_changedByLamps_5 rfl ?_
    refine at_aload_n 8 X rfl rfl dX6_changedByLamps_7 rfl ?_
    refine m_getIV 11 X ((gW G : Nat) : Int) hg_F.1.W f_X6_48 (kX4 ha) (nX4_9 ha) dX6_changedByLamps_8 rfl ?_
    have := hw.W
    refine at_icmp_ge 14 47 X dX6_changedByLamps_11 rfl (by decide) (fun h11 => ?_) (fun h11 => ?_)
    · refine at_lload_n 48 X rfl rfl dX6_changedByLamps_47 rfl ?_
      refine at_lret X Rt ?_ (Nat.le_refl _) (Nat.le_refl _) dX6_changedByLamps_48
      exact ⟨by rw [hv, show c = gW G by omega], F, rfl, hg_F, hf_F⟩
    · refine at_lload_n 15 X rfl rfl dX6_changedByLamps_14 rfl ?_
      refine at_iload 17 X rfl dX6_changedByLamps_15 rfl ?_
      refine at_lshrV 18 X (lshr ((m : Nat) : Int) ((c : Nat) : Int)) rfl dX6_changedByLamps_17 rfl ?_
      refine at_lconst 19 X (v := 1) (by decide) (by decide) dX6_changedByLamps_18 rfl ?_
      refine at_landV 20 X (if m.testBit c = true then 1 else 0) (lbit (by omega) (by omega)) dX6_changedByLamps_19 rfl ?_
      refine at_lconst 21 X (v := 1) (by decide) (by decide) dX6_changedByLamps_20 rfl ?_
      refine at_lif_ne 22 25 41 X dX6_changedByLamps_21 rfl dX6_changedByLamps_22 rfl (by decide) (fun h21 => ?_) (fun h21 => ?_)
      · have hq : ¬ (fun j => m.testBit j && chB G j) c = true := fun q => h21 (by rw [if_pos (Bool.and_eq_true_iff.mp q).1])
        refine at_iincV 44 X ((c + 1 : Nat) : Int) (w32_v (by omega) (by omega) (by omega)) rfl dX6_changedByLamps_41 rfl (by decide) ?_
        refine at_goto 5 X dX6_changedByLamps_44 (by decide) ?_
        exact at_sub _ (by exact ⟨rfl, rfl, rfl, rfl, trivial⟩) (ih5 F (c + 1) v (by first | omega | (simp only [] at *; omega)) (by first | omega | assumption) (by first | rfl | (rw [mk_f hq]; exact hv)) hg_F hl_F hf_F)
      · have hb : m.testBit c = true := by
          apply Decidable.byContradiction
          intro q; rw [if_neg q] at h21; exact absurd h21 (by decide)
        refine at_aload_n 26 X rfl rfl dX6_changedByLamps_25 rfl ?_
        refine at_iload 28 X rfl dX6_changedByLamps_26 rfl ?_
        refine at_callS 31 X (ct_X6_isChangedByLamp hG F a ha G hw hg_F hl_F c (by omega)) mo_X6_isChangedByLamp w_1449 so_X6_isChangedByLamp rfl rfl (crm Rt (by decide)) (Nat.le_of_ble_eq_true rfl) dX6_changedByLamps_28 rfl ?_
        rintro _ _ ⟨rfl, F1, rfl, hg_F1, hq_F1⟩
        have hl_F1 := hl_F.fr (fun q _ _ => hq_F1 q (by omega) (by omega))
        have hf_F1 : ∀ q, q ≠ a + 8 → q ≠ 7 → F1 q = E q := fun q h0 h1 => (hq_F1 q h0 h1).trans (hf_F q h0 h1)
        refine at_if_eq 34 41 X dX6_changedByLamps_31 rfl (by decide) (fun h31 => ?_) (fun h31 => ?_)
        · have h31 : ¬ (chB G c = true) := ite_no.mp h31
          have hq : ¬ (fun j => m.testBit j && chB G j) c = true := fun q => h31 (Bool.and_eq_true_iff.mp q).2
          refine at_iincV 44 X ((c + 1 : Nat) : Int) (w32_v (by omega) (by omega) (by omega)) rfl dX6_changedByLamps_41 rfl (by decide) ?_
          refine at_goto 5 X dX6_changedByLamps_44 (by decide) ?_
          exact at_sub _ (by exact ⟨rfl, rfl, rfl, rfl, trivial⟩) (ih5 F1 (c + 1) v (by first | omega | (simp only [] at *; omega)) (by first | omega | assumption) (by first | rfl | (rw [mk_f hq]; exact hv)) hg_F1 hl_F1 hf_F1)
        · have h31 : (chB G c = true) := ite_yes.mp h31
          have hq : (fun j => m.testBit j && chB G j) c = true := Bool.and_eq_true_iff.mpr ⟨hb, h31⟩
          refine at_lload_n 35 X rfl rfl dX6_changedByLamps_34 rfl ?_
          refine at_lconst 36 X (v := 1) (by decide) (by decide) dX6_changedByLamps_35 rfl ?_
          refine at_iload 38 X rfl dX6_changedByLamps_36 rfl ?_
          refine at_lshlV 39 X ((2 ^ c : Nat) : Int) (lshl1 (by omega)) dX6_changedByLamps_38 rfl ?_
          refine at_lorV 40 X ((mk (fun j => m.testBit j && chB G j) (c + 1) : Nat) : Int) (by rw [hv]; exact mk_lor (q := (fun j => m.testBit j && chB G j)) (by omega) hq) dX6_changedByLamps_39 rfl ?_
          refine at_lstore_n 41 X rfl dX6_changedByLamps_40 rfl (by decide) ?_
          refine at_iincV 44 X ((c + 1 : Nat) : Int) (w32_v (by omega) (by omega) (by omega)) rfl dX6_changedByLamps_41 rfl (by decide) ?_
          refine at_goto 5 X dX6_changedByLamps_44 (by decide) ?_
          exact at_sub _ (by exact ⟨rfl, rfl, rfl, rfl, trivial⟩) (ih5 F1 (c + 1) (mk (fun j => m.testBit j && chB G j) (c + 1)) (by first | omega | (simp only [] at *; omega)) (by first | omega | assumption) (by first | rfl | (rw [mk_f hq]; exact hv)) hg_F1 hl_F1 hf_F1)
  exact at_sub _ (by exact ⟨rfl, rfl, rfl, rfl, trivial⟩) (J5 _ E 0 0 (Nat.lt_succ_self _) (by first | omega | assumption | rfl) rfl (by first | omega | assumption | rfl) (by first | omega | assumption | rfl) (by first | omega | assumption | rfl))
