/-! the tape, as both sides have it -/
/-- s bytes are fed, and both sides hold the same -/
def TAPE (E : Mm) (s : Nat) : Prop := s ≤ 600 ∧ E 1 1 = (s : Int) ∧ E 125 1 = (s : Int) ∧ ∀ k, k < s → (0 ≤ E 126 k ∧ E 126 k < 256) ∧ E 2 k = i2b (E 126 k)
theorem feedX_new {E : Mm} {s : Nat} {x0 x1 x2 x3 x4 : Int} (h : s + 20 ≤ 600) {m i : Nat} (hm : m < 5) (hi : i < 4) : feedX E s x0 x1 x2 x3 x4 2 (s + (4 * m + i)) = i2b (iushr (w5 x0 x1 x2 x3 x4 (4 * m + i)) (24 - 8 * (i : Int))) := by
  rcases (show m = 0 ∨ m = 1 ∨ m = 2 ∨ m = 3 ∨ m = 4 by omega) with rfl | rfl | rfl | rfl | rfl
  · unfold feedX addS w5
    repeat (first | rw [if_pos (by omega)] | rw [if_neg (by omega)])
    rw [show s + (4 * 0 + i) - s = i by omega]
  · unfold feedX addS w5
    repeat (first | rw [if_pos (by omega)] | rw [if_neg (by omega)])
    rw [show s + (4 * 1 + i) - (s + 4) = i by omega]
  · unfold feedX addS w5
    repeat (first | rw [if_pos (by omega)] | rw [if_neg (by omega)])
    rw [show s + (4 * 2 + i) - (s + 8) = i by omega]
  · unfold feedX addS w5
    repeat (first | rw [if_pos (by omega)] | rw [if_neg (by omega)])
    rw [show s + (4 * 3 + i) - (s + 12) = i by omega]
  · unfold feedX addS w5
    repeat (first | rw [if_pos (by omega)] | rw [if_neg (by omega)])
    rw [show s + (4 * 4 + i) - (s + 16) = i by omega]
theorem feedX_sz {E : Mm} {s : Nat} {x0 x1 x2 x3 x4 : Int} (h : s + 20 ≤ 600) : feedX E s x0 x1 x2 x3 x4 1 1 = ((s + 20 : Nat) : Int) := by
  unfold feedX
  rw [if_pos h, addS_sz]
theorem feedX_o {E : Mm} {s q j : Nat} {x0 x1 x2 x3 x4 : Int} (h : (q ≠ 1 ∨ j ≠ 1) ∧ (q ≠ 2 ∨ j < s)) : feedX E s x0 x1 x2 x3 x4 q j = E q j := by
  unfold feedX addS
  by_cases c : s + 20 ≤ 600
  · rw [if_pos c]
    repeat rw [if_neg (by omega)]
  · rw [if_neg c]
theorem feedX_o' {E : Mm} {s : Nat} {x0 x1 x2 x3 x4 : Int} (c : ¬ s + 20 ≤ 600) : feedX E s x0 x1 x2 x3 x4 = E := if_neg c
theorem fedM_o {E : Mm} {s q j : Nat} {x0 x1 x2 x3 x4 : Int} (h : (q ≠ 125 ∨ (j ≠ 1 ∧ j ≠ 0)) ∧ (q ≠ 126 ∨ j < s)) : fedM E s x0 x1 x2 x3 x4 q j = E q j := by
  unfold fedM fedS wr
  by_cases c : s + 20 ≤ 600
  · rw [if_pos c]
    repeat rw [if_neg (by omega)]
  · rw [if_neg c, if_neg (by omega)]
theorem tape_feed {E : Mm} {s : Nat} {x0 x1 x2 x3 x4 : Int} (h : TAPE E s) (ok : ∀ k, -2147483648 ≤ w5 x0 x1 x2 x3 x4 k ∧ w5 x0 x1 x2 x3 x4 k < 2147483648) : TAPE (fedM (feedX E s x0 x1 x2 x3 x4) s x0 x1 x2 x3 x4) (if s + 20 ≤ 600 then s + 20 else s) := by
  obtain ⟨h1, h2, h3, h4⟩ := h
  by_cases c : s + 20 ≤ 600
  · rw [if_pos c]
    refine ⟨c, by rw [fedM_o (by omega), feedX_sz c], ?_, fun k hk => ?_⟩
    · unfold fedM
      rw [if_pos c, fedS_tp]
    · rw [fedM_o (E := feedX E s x0 x1 x2 x3 x4) (q := 2) (by omega)]
      by_cases ck : k < s
      · rw [fedM_o (by omega), feedX_o (by omega), feedX_o (by omega)]
        exact h4 k ck
      · obtain ⟨m, i, hm, hi, rfl⟩ : ∃ m i : Nat, m < 5 ∧ i < 4 ∧ k = s + (4 * m + i) := ⟨(k - s) / 4, (k - s) % 4, by omega, by omega, by omega⟩
        have e : fedM (feedX E s x0 x1 x2 x3 x4) s x0 x1 x2 x3 x4 126 (s + (4 * m + i)) = iand (ishr (w5 x0 x1 x2 x3 x4 (4 * m + i)) (24 - 8 * (i : Int))) 255 := by
          unfold fedM fedS
          rw [if_pos c, if_pos ⟨rfl, by omega, by omega⟩, show s + (4 * m + i) - s = 4 * m + i by omega, show (4 * m + i) % 4 = i by omega]
        rw [e, feedX_new c hm hi]
        have hb := byte_eq (ok (4 * m + i)).1 (ok (4 * m + i)).2 (k := 24 - 8 * i) (by omega)
        rw [show ((24 - 8 * i : Nat) : Int) = 24 - 8 * (i : Int) by omega] at hb
        exact ⟨hb.2, hb.1⟩
  · rw [if_neg c]
    refine ⟨h1, by rw [fedM_o (by omega), feedX_o' c, h2], ?_, fun k hk => ?_⟩
    · unfold fedM wr
      rw [if_neg c, if_neg (by omega), feedX_o' c, h3]
    · rw [fedM_o (E := feedX E s x0 x1 x2 x3 x4) (q := 2) (by omega), fedM_o (by omega), feedX_o' c]
      exact h4 k hk
