theorem RTp.w {E E1 : Mm} {B : Nat → Int} {n : Nat} {t : TS} (h : RTp E B n t) (hk : ∀ k, k = 2 ∨ (4 ≤ k ∧ k ≤ 6) → E1 125 k = E 125 k) (h6 : E1 126 = E 126) : RTp E1 B n t := by
  obtain ⟨a, hA, h5, h6', hs⟩ := h
  exact ⟨a, hA.w (hk 2 (by omega)) (hk 4 (by omega)) h6, (hk 5 (by omega)).trans h5, (hk 6 (by omega)).trans h6', hs⟩
/-- a fault where there was none -/
theorem c12_fl {g : Gw} (hG : GF g) {z : Bool} (E : Mm) (B : Nat → Int) (n : Nat) (t : TS) (hP : RTp E B n t) (h0 : t.2.2.1 = 0) (k x : Int) (hk : ¬ k = 0) (u : TS) (hu : u.2.2 = (k, x)) : CT g yX12_wrong cX12_wrong 3 none 0 0 0 0 K2 z [mR 125, mI k, mI x] (ov E) K2 z (fun r D' => r = none ∧ ∃ E1, D' = ov E1 ∧ RTp E1 B n u ∧ RTf E E1) := by
  obtain ⟨a, hA, h5, h6, hs⟩ := hP
  refine (c12_wrong hG (z := z) E B n a hA k x).imp (fun r D' q => ?_)
  obtain ⟨q1, E1, q2, q3, q4, q5, q6⟩ := q
  have q7 := q5 (h5.trans h0)
  exact ⟨q1, E1, q2, ⟨a, q3, by rw [q7.1, hu], by rw [q7.2, hu], fun q => by rw [hu] at q; exact absurd q hk⟩, q4⟩
/-- the reference's number -/
def nuR (B : Nat → Int) (n : Nat) (t : TS) (lo hi : Int) : Nat := if (nuT B n t lo hi).2.2.1 = 0 then nuV B n t lo hi else 0
theorem nuR_eq {B : Nat → Int} {n : Nat} {t : TS} {lo hi : Int} (h : (nuT B n t lo hi).2.2.1 = 0) : nuR B n t lo hi = nuV B n t lo hi := if_pos h
theorem nuR_in {B : Nat → Int} {n : Nat} {t : TS} {lo hi : Int} (h0 : 0 ≤ lo) : ((nuR B n t lo hi : Nat) : Int) ≤ hi ∨ nuR B n t lo hi = 0 := by
  unfold nuR
  by_cases h : (nuT B n t lo hi).2.2.1 = 0
  · rw [if_pos h]; exact Or.inl ((nu_ok h).2.1 h0).2
  · rw [if_neg h]; exact Or.inr rfl
theorem c12_nu {g : Gw} (hG : GF g) {z : Bool} (E : Mm) (B : Nat → Int) (n : Nat) (t : TS) (hP : RTp E B n t) (lo hi : Int) (hlo : 0 ≤ lo) (hhi : hi < 100000) : CT g yX12_number cX12_number 5 (some .int) 2 41 0 0 K2 z [mR 125, mI lo, mI hi] (ov E) K2 z (fun r D' => r = some (mI ((nuR B n t lo hi : Nat) : Int)) ∧ ∃ E1, D' = ov E1 ∧ RTp E1 B n (nuT B n t lo hi) ∧ RTf E E1) := by
  refine (c12_num hG (z := z) E B n t hP lo hi hlo hhi).imp (fun r D' q => ⟨q.1.trans ?_, q.2⟩)
  unfold nuR
  split <;> rfl
theorem wdB_uniq {B : Nat → Int} {t : TS} {b b' : List Int} (h : wdB B t b = true) (h' : wdB B t b' = true) : b.length = b'.length ∧ ∀ j, j < b.length → b.getD j 0 = b'.getD j 0 := by
  have q := wdB_iff.mp h
  have q' := wdB_iff.mp h'
  exact ⟨by omega, fun j hj => by rw [← q.2 j hj, q'.2 j (by omega)]⟩
/-- the reference's numbers of the kinds -/
def rkW (k : Int) : Int := if k = 0 then -1 else if k = 1 then 0 else if k = 2 then 1 else if k = 3 then 2 else if k = 4 then 7 else if k = 5 then 3 else if k = 6 then 4 else if k = 7 then 5 else if k = 8 then 6 else 8
theorem rfk {E : Mm} {B : Nat → Int} {n : Nat} {t : TS} (h : RTp E B n t) : E 125 5 = t.2.2.1 := by
  obtain ⟨a, hA, h5, h6, hs⟩ := h
  exact h5
theorem rfp {E : Mm} {B : Nat → Int} {n : Nat} {t : TS} (h : RTp E B n t) : E 125 6 = t.2.2.2 := by
  obtain ⟨a, hA, h5, h6, hs⟩ := h
  exact h6
theorem dX12_kindHere_0 : decode cX12_kindHere 0 = .ok (.aload_n 0, 1) := by decide +kernel
theorem dX12_kindHere_1 : decode cX12_kindHere 1 = .ok (.bipush 23, 2) := by decide +kernel
theorem dX12_kindHere_3 : decode cX12_kindHere 3 = .ok (.bipush 9, 2) := by decide +kernel
theorem dX12_kindHere_5 : decode cX12_kindHere 5 = .ok (.iconst 4, 1) := by decide +kernel
theorem dX12_kindHere_6 : decode cX12_kindHere 6 = .ok (.iconst 5, 1) := by decide +kernel
theorem dX12_kindHere_7 : decode cX12_kindHere 7 = .ok (.iconst 0, 1) := by decide +kernel
theorem dX12_kindHere_8 : decode cX12_kindHere 8 = .ok (.iconst 0, 1) := by decide +kernel
theorem dX12_kindHere_9 : decode cX12_kindHere 9 = .ok (.invokevirtual 201, 3) := by decide +kernel
theorem dX12_kindHere_12 : decode cX12_kindHere 12 = .ok (.ifCond .eq 5, 3) := by decide +kernel
theorem dX12_kindHere_15 : decode cX12_kindHere 15 = .ok (.iconst 0, 1) := by decide +kernel
theorem dX12_kindHere_16 : decode cX12_kindHere 16 = .ok (.ireturn, 1) := by decide +kernel
theorem dX12_kindHere_17 : decode cX12_kindHere 17 = .ok (.aload_n 0, 1) := by decide +kernel
theorem dX12_kindHere_18 : decode cX12_kindHere 18 = .ok (.bipush 16, 2) := by decide +kernel
theorem dX12_kindHere_20 : decode cX12_kindHere 20 = .ok (.bipush 15, 2) := by decide +kernel
theorem dX12_kindHere_22 : decode cX12_kindHere 22 = .ok (.bipush 19, 2) := by decide +kernel
theorem dX12_kindHere_24 : decode cX12_kindHere 24 = .ok (.bipush 20, 2) := by decide +kernel
theorem dX12_kindHere_26 : decode cX12_kindHere 26 = .ok (.iconst 0, 1) := by decide +kernel
theorem dX12_kindHere_27 : decode cX12_kindHere 27 = .ok (.iconst 0, 1) := by decide +kernel
theorem dX12_kindHere_28 : decode cX12_kindHere 28 = .ok (.invokevirtual 201, 3) := by decide +kernel
theorem dX12_kindHere_31 : decode cX12_kindHere 31 = .ok (.ifCond .eq 5, 3) := by decide +kernel
theorem dX12_kindHere_34 : decode cX12_kindHere 34 = .ok (.iconst 1, 1) := by decide +kernel
theorem dX12_kindHere_35 : decode cX12_kindHere 35 = .ok (.ireturn, 1) := by decide +kernel
theorem dX12_kindHere_36 : decode cX12_kindHere 36 = .ok (.aload_n 0, 1) := by decide +kernel
theorem dX12_kindHere_37 : decode cX12_kindHere 37 = .ok (.bipush 19, 2) := by decide +kernel
theorem dX12_kindHere_39 : decode cX12_kindHere 39 = .ok (.bipush 21, 2) := by decide +kernel
theorem dX12_kindHere_41 : decode cX12_kindHere 41 = .ok (.bipush 14, 2) := by decide +kernel
theorem dX12_kindHere_43 : decode cX12_kindHere 43 = .ok (.iconst 0, 1) := by decide +kernel
theorem dX12_kindHere_44 : decode cX12_kindHere 44 = .ok (.iconst 0, 1) := by decide +kernel
theorem dX12_kindHere_45 : decode cX12_kindHere 45 = .ok (.iconst 0, 1) := by decide +kernel
theorem dX12_kindHere_46 : decode cX12_kindHere 46 = .ok (.invokevirtual 201, 3) := by decide +kernel
theorem dX12_kindHere_49 : decode cX12_kindHere 49 = .ok (.ifCond .eq 5, 3) := by decide +kernel
theorem dX12_kindHere_52 : decode cX12_kindHere 52 = .ok (.iconst 2, 1) := by decide +kernel
theorem dX12_kindHere_53 : decode cX12_kindHere 53 = .ok (.ireturn, 1) := by decide +kernel
theorem dX12_kindHere_54 : decode cX12_kindHere 54 = .ok (.aload_n 0, 1) := by decide +kernel
theorem dX12_kindHere_55 : decode cX12_kindHere 55 = .ok (.bipush 13, 2) := by decide +kernel
theorem dX12_kindHere_57 : decode cX12_kindHere 57 = .ok (.bipush 15, 2) := by decide +kernel
theorem dX12_kindHere_59 : decode cX12_kindHere 59 = .ok (.bipush 15, 2) := by decide +kernel
theorem dX12_kindHere_61 : decode cX12_kindHere 61 = .ok (.bipush 14, 2) := by decide +kernel
theorem dX12_kindHere_63 : decode cX12_kindHere 63 = .ok (.iconst 0, 1) := by decide +kernel
theorem dX12_kindHere_64 : decode cX12_kindHere 64 = .ok (.iconst 0, 1) := by decide +kernel
theorem dX12_kindHere_65 : decode cX12_kindHere 65 = .ok (.invokevirtual 201, 3) := by decide +kernel
theorem dX12_kindHere_68 : decode cX12_kindHere 68 = .ok (.ifCond .eq 5, 3) := by decide +kernel
theorem dX12_kindHere_71 : decode cX12_kindHere 71 = .ok (.iconst 3, 1) := by decide +kernel
theorem dX12_kindHere_72 : decode cX12_kindHere 72 = .ok (.ireturn, 1) := by decide +kernel
theorem dX12_kindHere_73 : decode cX12_kindHere 73 = .ok (.aload_n 0, 1) := by decide +kernel
theorem dX12_kindHere_74 : decode cX12_kindHere 74 = .ok (.iconst 3, 1) := by decide +kernel
theorem dX12_kindHere_75 : decode cX12_kindHere 75 = .ok (.bipush 12, 2) := by decide +kernel
theorem dX12_kindHere_77 : decode cX12_kindHere 77 = .ok (.bipush 15, 2) := by decide +kernel
theorem dX12_kindHere_79 : decode cX12_kindHere 79 = .ok (.bipush 21, 2) := by decide +kernel
theorem dX12_kindHere_81 : decode cX12_kindHere 81 = .ok (.iconst 4, 1) := by decide +kernel
theorem dX12_kindHere_82 : decode cX12_kindHere 82 = .ok (.iconst 0, 1) := by decide +kernel
theorem dX12_kindHere_83 : decode cX12_kindHere 83 = .ok (.invokevirtual 201, 3) := by decide +kernel
theorem dX12_kindHere_86 : decode cX12_kindHere 86 = .ok (.ifCond .eq 5, 3) := by decide +kernel
theorem dX12_kindHere_89 : decode cX12_kindHere 89 = .ok (.iconst 4, 1) := by decide +kernel
theorem dX12_kindHere_90 : decode cX12_kindHere 90 = .ok (.ireturn, 1) := by decide +kernel
theorem dX12_kindHere_91 : decode cX12_kindHere 91 = .ok (.aload_n 0, 1) := by decide +kernel
theorem dX12_kindHere_92 : decode cX12_kindHere 92 = .ok (.bipush 12, 2) := by decide +kernel
theorem dX12_kindHere_94 : decode cX12_kindHere 94 = .ok (.iconst 1, 1) := by decide +kernel
theorem dX12_kindHere_95 : decode cX12_kindHere 95 = .ok (.bipush 13, 2) := by decide +kernel
theorem dX12_kindHere_97 : decode cX12_kindHere 97 = .ok (.bipush 16, 2) := by decide +kernel
theorem dX12_kindHere_99 : decode cX12_kindHere 99 = .ok (.iconst 0, 1) := by decide +kernel
theorem dX12_kindHere_100 : decode cX12_kindHere 100 = .ok (.iconst 0, 1) := by decide +kernel
theorem dX12_kindHere_101 : decode cX12_kindHere 101 = .ok (.invokevirtual 201, 3) := by decide +kernel
theorem dX12_kindHere_104 : decode cX12_kindHere 104 = .ok (.ifCond .eq 5, 3) := by decide +kernel
theorem dX12_kindHere_107 : decode cX12_kindHere 107 = .ok (.iconst 5, 1) := by decide +kernel
theorem dX12_kindHere_108 : decode cX12_kindHere 108 = .ok (.ireturn, 1) := by decide +kernel
theorem dX12_kindHere_109 : decode cX12_kindHere 109 = .ok (.aload_n 0, 1) := by decide +kernel
theorem dX12_kindHere_110 : decode cX12_kindHere 110 = .ok (.iconst 2, 1) := by decide +kernel
theorem dX12_kindHere_111 : decode cX12_kindHere 111 = .ok (.iconst 5, 1) := by decide +kernel
theorem dX12_kindHere_112 : decode cX12_kindHere 112 = .ok (.iconst 1, 1) := by decide +kernel
theorem dX12_kindHere_113 : decode cX12_kindHere 113 = .ok (.bipush 13, 2) := by decide +kernel
theorem dX12_kindHere_115 : decode cX12_kindHere 115 = .ok (.iconst 0, 1) := by decide +kernel
theorem dX12_kindHere_116 : decode cX12_kindHere 116 = .ok (.iconst 0, 1) := by decide +kernel
theorem dX12_kindHere_117 : decode cX12_kindHere 117 = .ok (.invokevirtual 201, 3) := by decide +kernel
theorem dX12_kindHere_120 : decode cX12_kindHere 120 = .ok (.ifCond .eq 6, 3) := by decide +kernel
theorem dX12_kindHere_123 : decode cX12_kindHere 123 = .ok (.bipush 6, 2) := by decide +kernel
theorem dX12_kindHere_125 : decode cX12_kindHere 125 = .ok (.ireturn, 1) := by decide +kernel
theorem dX12_kindHere_126 : decode cX12_kindHere 126 = .ok (.aload_n 0, 1) := by decide +kernel
theorem dX12_kindHere_127 : decode cX12_kindHere 127 = .ok (.iconst 4, 1) := by decide +kernel
theorem dX12_kindHere_128 : decode cX12_kindHere 128 = .ok (.bipush 21, 2) := by decide +kernel
theorem dX12_kindHere_130 : decode cX12_kindHere 130 = .ok (.bipush 19, 2) := by decide +kernel
theorem dX12_kindHere_132 : decode cX12_kindHere 132 = .ok (.bipush 11, 2) := by decide +kernel
theorem dX12_kindHere_134 : decode cX12_kindHere 134 = .ok (.iconst 0, 1) := by decide +kernel
theorem dX12_kindHere_135 : decode cX12_kindHere 135 = .ok (.iconst 0, 1) := by decide +kernel
theorem dX12_kindHere_136 : decode cX12_kindHere 136 = .ok (.invokevirtual 201, 3) := by decide +kernel
theorem dX12_kindHere_139 : decode cX12_kindHere 139 = .ok (.ifCond .eq 6, 3) := by decide +kernel
theorem dX12_kindHere_142 : decode cX12_kindHere 142 = .ok (.bipush 7, 2) := by decide +kernel
theorem dX12_kindHere_144 : decode cX12_kindHere 144 = .ok (.ireturn, 1) := by decide +kernel
theorem dX12_kindHere_145 : decode cX12_kindHere 145 = .ok (.aload_n 0, 1) := by decide +kernel
theorem dX12_kindHere_146 : decode cX12_kindHere 146 = .ok (.bipush 12, 2) := by decide +kernel
theorem dX12_kindHere_148 : decode cX12_kindHere 148 = .ok (.bipush 15, 2) := by decide +kernel
theorem dX12_kindHere_150 : decode cX12_kindHere 150 = .ok (.iconst 1, 1) := by decide +kernel
theorem dX12_kindHere_151 : decode cX12_kindHere 151 = .ok (.iconst 4, 1) := by decide +kernel
theorem dX12_kindHere_152 : decode cX12_kindHere 152 = .ok (.iconst 0, 1) := by decide +kernel
theorem dX12_kindHere_153 : decode cX12_kindHere 153 = .ok (.iconst 0, 1) := by decide +kernel
theorem dX12_kindHere_154 : decode cX12_kindHere 154 = .ok (.invokevirtual 201, 3) := by decide +kernel
theorem dX12_kindHere_157 : decode cX12_kindHere 157 = .ok (.ifCond .eq 8, 3) := by decide +kernel
theorem dX12_kindHere_160 : decode cX12_kindHere 160 = .ok (.bipush 8, 2) := by decide +kernel
theorem dX12_kindHere_162 : decode cX12_kindHere 162 = .ok (.goto 4, 3) := by decide +kernel
theorem dX12_kindHere_165 : decode cX12_kindHere 165 = .ok (.iconst (-1), 1) := by decide +kernel
theorem dX12_kindHere_166 : decode cX12_kindHere 166 = .ok (.ireturn, 1) := by decide +kernel
theorem ct_X12_kindHere {g : Gw} (hG : GF g) {z : Bool} (E : Mm) (B : Nat → Int) (n : Nat) (t : TS) (ht : t.1 ≤ n) (hP_E : RTp E B n t) (h0 : t.2.2.1 = 0) : CT g yX12_kindHere cX12_kindHere 1 (some .int) 4 89 0 0 K2 z [mR 125] (ov E) K2 z (fun r D' => r = some (mI (rkW (kdW B (twT B n t)))) ∧ ∃ E1, D' = ov E1 ∧ RTp E1 B n t ∧ RTf E E1 ∧ E1 125 4 = ((sk B n t.1 : Nat) : Int)) := by
  refine CT.mk hG (by decide +kernel) (Nat.le_of_ble_eq_true rfl) (fun κ X Rt _ ok => ?_)
  refine at_aload_n 1 X rfl rfl dX12_kindHere_0 rfl ?_
  refine at_bipush 3 X (by decide) (by decide) dX12_kindHere_1 rfl ?_
  refine at_bipush 5 X (by decide) (by decide) dX12_kindHere_3 rfl ?_
  refine at_iconst 6 X (by decide) dX12_kindHere_5 rfl ?_
  refine at_iconst 7 X (by decide) dX12_kindHere_6 rfl ?_
  refine at_iconst 8 X (by decide) dX12_kindHere_7 rfl ?_
  refine at_iconst 9 X (by decide) dX12_kindHere_8 rfl ?_
  refine at_callV 12 X _ 12 (ct_X12_isWord hG E B n t ht hP_E 23 9 4 5 0 0 (by decide) [119, 105, 100, 101] (by decide) (by decide)) clX12 rfl k_125 mo_X12_isWord w_1984 vo_X12_isWord.1 vo_X12_isWord.2 rfl rfl (crm Rt (by decide)) (Nat.le_of_ble_eq_true rfl) dX12_kindHere_9 rfl ?_
  rintro _ _ ⟨rfl, F1, rfl, hP_F1, hf_F1, hat_F1⟩
  have hq_F1 : ∀ q, q ≠ 125 → F1 q = E q := fun q h0 => hf_F1.1 q h0
  refine at_if_eq 15 17 X dX12_kindHere_12 rfl (by decide) (fun h12 => ?_) (fun h12 => ?_)
  · have h12 : ¬ (t.2.2.1 = 0 ∧ wdB B (twT B n t) [119, 105, 100, 101] = true) := ite_no.mp h12
    refine at_aload_n 18 X rfl rfl dX12_kindHere_17 rfl ?_
    refine at_bipush 20 X (by decide) (by decide) dX12_kindHere_18 rfl ?_
    refine at_bipush 22 X (by decide) (by decide) dX12_kindHere_20 rfl ?_
    refine at_bipush 24 X (by decide) (by decide) dX12_kindHere_22 rfl ?_
    refine at_bipush 26 X (by decide) (by decide) dX12_kindHere_24 rfl ?_
    refine at_iconst 27 X (by decide) dX12_kindHere_26 rfl ?_
    refine at_iconst 28 X (by decide) dX12_kindHere_27 rfl ?_
    refine at_callV 31 X _ 12 (ct_X12_isWord hG F1 B n t ht hP_F1 16 15 19 20 0 0 (by decide) [112, 111, 115, 116] (by decide) (by decide)) clX12 rfl k_125 mo_X12_isWord w_1984 vo_X12_isWord.1 vo_X12_isWord.2 rfl rfl (crm Rt (by decide)) (Nat.le_of_ble_eq_true rfl) dX12_kindHere_28 rfl ?_
    rintro _ _ ⟨rfl, F2, rfl, hP_F2, hf_F2, hat_F2⟩
    have hq_F2 : ∀ q, q ≠ 125 → F2 q = E q := fun q h0 => (hf_F2.1 q h0).trans (hq_F1 q h0)
    refine at_if_eq 34 36 X dX12_kindHere_31 rfl (by decide) (fun h31 => ?_) (fun h31 => ?_)
    · have h31 : ¬ (t.2.2.1 = 0 ∧ wdB B (twT B n t) [112, 111, 115, 116] = true) := ite_no.mp h31
      refine at_aload_n 37 X rfl rfl dX12_kindHere_36 rfl ?_
      refine at_bipush 39 X (by decide) (by decide) dX12_kindHere_37 rfl ?_
      refine at_bipush 41 X (by decide) (by decide) dX12_kindHere_39 rfl ?_
      refine at_bipush 43 X (by decide) (by decide) dX12_kindHere_41 rfl ?_
      refine at_iconst 44 X (by decide) dX12_kindHere_43 rfl ?_
      refine at_iconst 45 X (by decide) dX12_kindHere_44 rfl ?_
      refine at_iconst 46 X (by decide) dX12_kindHere_45 rfl ?_
      refine at_callV 49 X _ 12 (ct_X12_isWord hG F2 B n t ht hP_F2 19 21 14 0 0 0 (by decide) [115, 117, 110] (by decide) (by decide)) clX12 rfl k_125 mo_X12_isWord w_1984 vo_X12_isWord.1 vo_X12_isWord.2 rfl rfl (crm Rt (by decide)) (Nat.le_of_ble_eq_true rfl) dX12_kindHere_46 rfl ?_
      rintro _ _ ⟨rfl, F3, rfl, hP_F3, hf_F3, hat_F3⟩
      have hq_F3 : ∀ q, q ≠ 125 → F3 q = E q := fun q h0 => (hf_F3.1 q h0).trans (hq_F2 q h0)
      refine at_if_eq 52 54 X dX12_kindHere_49 rfl (by decide) (fun h49 => ?_) (fun h49 => ?_)
      · have h49 : ¬ (t.2.2.1 = 0 ∧ wdB B (twT B n t) [115, 117, 110] = true) := ite_no.mp h49
        refine at_aload_n 55 X rfl rfl dX12_kindHere_54 rfl ?_
        refine at_bipush 57 X (by decide) (by decide) dX12_kindHere_55 rfl ?_
        refine at_bipush 59 X (by decide) (by decide) dX12_kindHere_57 rfl ?_
        refine at_bipush 61 X (by decide) (by decide) dX12_kindHere_59 rfl ?_
        refine at_bipush 63 X (by decide) (by decide) dX12_kindHere_61 rfl ?_
        refine at_iconst 64 X (by decide) dX12_kindHere_63 rfl ?_
        refine at_iconst 65 X (by decide) dX12_kindHere_64 rfl ?_
        refine at_callV 68 X _ 12 (ct_X12_isWord hG F3 B n t ht hP_F3 13 15 15 14 0 0 (by decide) [109, 111, 111, 110] (by decide) (by decide)) clX12 rfl k_125 mo_X12_isWord w_1984 vo_X12_isWord.1 vo_X12_isWord.2 rfl rfl (crm Rt (by decide)) (Nat.le_of_ble_eq_true rfl) dX12_kindHere_65 rfl ?_
        rintro _ _ ⟨rfl, F4, rfl, hP_F4, hf_F4, hat_F4⟩
        have hq_F4 : ∀ q, q ≠ 125 → F4 q = E q := fun q h0 => (hf_F4.1 q h0).trans (hq_F3 q h0)
        refine at_if_eq 71 73 X dX12_kindHere_68 rfl (by decide) (fun h68 => ?_) (fun h68 => ?_)
        · have h68 : ¬ (t.2.2.1 = 0 ∧ wdB B (twT B n t) [109, 111, 111, 110] = true) := ite_no.mp h68
          refine at_aload_n 74 X rfl rfl dX12_kindHere_73 rfl ?_
          refine at_iconst 75 X (by decide) dX12_kindHere_74 rfl ?_
          refine at_bipush 77 X (by decide) (by decide) dX12_kindHere_75 rfl ?_
          refine at_bipush 79 X (by decide) (by decide) dX12_kindHere_77 rfl ?_
          refine at_bipush 81 X (by decide) (by decide) dX12_kindHere_79 rfl ?_
          refine at_iconst 82 X (by decide) dX12_kindHere_81 rfl ?_
          refine at_iconst 83 X (by decide) dX12_kindHere_82 rfl ?_
          refine at_callV 86 X _ 12 (ct_X12_isWord hG F4 B n t ht hP_F4 3 12 15 21 4 0 (by decide) [99, 108, 111, 117, 100] (by decide) (by decide)) clX12 rfl k_125 mo_X12_isWord w_1984 vo_X12_isWord.1 vo_X12_isWord.2 rfl rfl (crm Rt (by decide)) (Nat.le_of_ble_eq_true rfl) dX12_kindHere_83 rfl ?_
          rintro _ _ ⟨rfl, F5, rfl, hP_F5, hf_F5, hat_F5⟩
          have hq_F5 : ∀ q, q ≠ 125 → F5 q = E q := fun q h0 => (hf_F5.1 q h0).trans (hq_F4 q h0)
          refine at_if_eq 89 91 X dX12_kindHere_86 rfl (by decide) (fun h86 => ?_) (fun h86 => ?_)
          · have h86 : ¬ (t.2.2.1 = 0 ∧ wdB B (twT B n t) [99, 108, 111, 117, 100] = true) := ite_no.mp h86
            refine at_aload_n 92 X rfl rfl dX12_kindHere_91 rfl ?_
            refine at_bipush 94 X (by decide) (by decide) dX12_kindHere_92 rfl ?_
            refine at_iconst 95 X (by decide) dX12_kindHere_94 rfl ?_
            refine at_bipush 97 X (by decide) (by decide) dX12_kindHere_95 rfl ?_
            refine at_bipush 99 X (by decide) (by decide) dX12_kindHere_97 rfl ?_
            refine at_iconst 100 X (by decide) dX12_kindHere_99 rfl ?_
            refine at_iconst 101 X (by decide) dX12_kindHere_100 rfl ?_
            refine at_callV 104 X _ 12 (ct_X12_isWord hG F5 B n t ht hP_F5 12 1 13 16 0 0 (by decide) [108, 97, 109, 112] (by decide) (by decide)) clX12 rfl k_125 mo_X12_isWord w_1984 vo_X12_isWord.1 vo_X12_isWord.2 rfl rfl (crm Rt (by decide)) (Nat.le_of_ble_eq_true rfl) dX12_kindHere_101 rfl ?_
            rintro _ _ ⟨rfl, F6, rfl, hP_F6, hf_F6, hat_F6⟩
            have hq_F6 : ∀ q, q ≠ 125 → F6 q = E q := fun q h0 => (hf_F6.1 q h0).trans (hq_F5 q h0)
            refine at_if_eq 107 109 X dX12_kindHere_104 rfl (by decide) (fun h104 => ?_) (fun h104 => ?_)
            · have h104 : ¬ (t.2.2.1 = 0 ∧ wdB B (twT B n t) [108, 97, 109, 112] = true) := ite_no.mp h104
              refine at_aload_n 110 X rfl rfl dX12_kindHere_109 rfl ?_
              refine at_iconst 111 X (by decide) dX12_kindHere_110 rfl ?_
              refine at_iconst 112 X (by decide) dX12_kindHere_111 rfl ?_
              refine at_iconst 113 X (by decide) dX12_kindHere_112 rfl ?_
              refine at_bipush 115 X (by decide) (by decide) dX12_kindHere_113 rfl ?_
              refine at_iconst 116 X (by decide) dX12_kindHere_115 rfl ?_
              refine at_iconst 117 X (by decide) dX12_kindHere_116 rfl ?_
              refine at_callV 120 X _ 12 (ct_X12_isWord hG F6 B n t ht hP_F6 2 5 1 13 0 0 (by decide) [98, 101, 97, 109] (by decide) (by decide)) clX12 rfl k_125 mo_X12_isWord w_1984 vo_X12_isWord.1 vo_X12_isWord.2 rfl rfl (crm Rt (by decide)) (Nat.le_of_ble_eq_true rfl) dX12_kindHere_117 rfl ?_
              rintro _ _ ⟨rfl, F7, rfl, hP_F7, hf_F7, hat_F7⟩
              have hq_F7 : ∀ q, q ≠ 125 → F7 q = E q := fun q h0 => (hf_F7.1 q h0).trans (hq_F6 q h0)
              refine at_if_eq 123 126 X dX12_kindHere_120 rfl (by decide) (fun h120 => ?_) (fun h120 => ?_)
              · have h120 : ¬ (t.2.2.1 = 0 ∧ wdB B (twT B n t) [98, 101, 97, 109] = true) := ite_no.mp h120
                refine at_aload_n 127 X rfl rfl dX12_kindHere_126 rfl ?_
                refine at_iconst 128 X (by decide) dX12_kindHere_127 rfl ?_
                refine at_bipush 130 X (by decide) (by decide) dX12_kindHere_128 rfl ?_
                refine at_bipush 132 X (by decide) (by decide) dX12_kindHere_130 rfl ?_
                refine at_bipush 134 X (by decide) (by decide) dX12_kindHere_132 rfl ?_
                refine at_iconst 135 X (by decide) dX12_kindHere_134 rfl ?_
                refine at_iconst 136 X (by decide) dX12_kindHere_135 rfl ?_
                refine at_callV 139 X _ 12 (ct_X12_isWord hG F7 B n t ht hP_F7 4 21 19 11 0 0 (by decide) [100, 117, 115, 107] (by decide) (by decide)) clX12 rfl k_125 mo_X12_isWord w_1984 vo_X12_isWord.1 vo_X12_isWord.2 rfl rfl (crm Rt (by decide)) (Nat.le_of_ble_eq_true rfl) dX12_kindHere_136 rfl ?_
                rintro _ _ ⟨rfl, F8, rfl, hP_F8, hf_F8, hat_F8⟩
                have hq_F8 : ∀ q, q ≠ 125 → F8 q = E q := fun q h0 => (hf_F8.1 q h0).trans (hq_F7 q h0)
                refine at_if_eq 142 145 X dX12_kindHere_139 rfl (by decide) (fun h139 => ?_) (fun h139 => ?_)
                · have h139 : ¬ (t.2.2.1 = 0 ∧ wdB B (twT B n t) [100, 117, 115, 107] = true) := ite_no.mp h139
                  refine at_aload_n 146 X rfl rfl dX12_kindHere_145 rfl ?_
                  refine at_bipush 148 X (by decide) (by decide) dX12_kindHere_146 rfl ?_
                  refine at_bipush 150 X (by decide) (by decide) dX12_kindHere_148 rfl ?_
                  refine at_iconst 151 X (by decide) dX12_kindHere_150 rfl ?_
                  refine at_iconst 152 X (by decide) dX12_kindHere_151 rfl ?_
                  refine at_iconst 153 X (by decide) dX12_kindHere_152 rfl ?_
                  refine at_iconst 154 X (by decide) dX12_kindHere_153 rfl ?_
                  refine at_callV 157 X _ 12 (ct_X12_isWord hG F8 B n t ht hP_F8 12 15 1 4 0 0 (by decide) [108, 111, 97, 100] (by decide) (by decide)) clX12 rfl k_125 mo_X12_isWord w_1984 vo_X12_isWord.1 vo_X12_isWord.2 rfl rfl (crm Rt (by decide)) (Nat.le_of_ble_eq_true rfl) dX12_kindHere_154 rfl ?_
                  rintro _ _ ⟨rfl, F9, rfl, hP_F9, hf_F9, hat_F9⟩
                  have hq_F9 : ∀ q, q ≠ 125 → F9 q = E q := fun q h0 => (hf_F9.1 q h0).trans (hq_F8 q h0)
                  refine at_if_eq 160 165 X dX12_kindHere_157 rfl (by decide) (fun h157 => ?_) (fun h157 => ?_)
                  · have h157 : ¬ (t.2.2.1 = 0 ∧ wdB B (twT B n t) [108, 111, 97, 100] = true) := ite_no.mp h157
                    refine at_iconst 166 X (by decide) dX12_kindHere_165 rfl ?_
                    refine at_iret X Rt ?_ (Nat.le_refl _) (Nat.le_refl _) dX12_kindHere_166
                    have n_wide : ¬ wdB B (twT B n t) [119, 105, 100, 101] = true := fun q => h12 ⟨h0, q⟩
                    have n_post : ¬ wdB B (twT B n t) [112, 111, 115, 116] = true := fun q => h31 ⟨h0, q⟩
                    have n_sun : ¬ wdB B (twT B n t) [115, 117, 110] = true := fun q => h49 ⟨h0, q⟩
                    have n_moon : ¬ wdB B (twT B n t) [109, 111, 111, 110] = true := fun q => h68 ⟨h0, q⟩
                    have n_cloud : ¬ wdB B (twT B n t) [99, 108, 111, 117, 100] = true := fun q => h86 ⟨h0, q⟩
                    have n_lamp : ¬ wdB B (twT B n t) [108, 97, 109, 112] = true := fun q => h104 ⟨h0, q⟩
                    have n_beam : ¬ wdB B (twT B n t) [98, 101, 97, 109] = true := fun q => h120 ⟨h0, q⟩
                    have n_dusk : ¬ wdB B (twT B n t) [100, 117, 115, 107] = true := fun q => h139 ⟨h0, q⟩
                    have n_load : ¬ wdB B (twT B n t) [108, 111, 97, 100] = true := fun q => h157 ⟨h0, q⟩
                    have e : kdW B (twT B n t) = 0 := by unfold kdW; rw [if_neg n_wide, if_neg n_post, if_neg n_sun, if_neg n_dusk, if_neg n_moon, if_neg n_cloud, if_neg n_lamp, if_neg n_beam, if_neg n_load]
                    exact ⟨by rw [e]; rfl, F9, rfl, hP_F9, ⟨hq_F9, fun k hk => ((hf_F9.2 k (by omega)).trans ((hf_F8.2 k (by omega)).trans ((hf_F7.2 k (by omega)).trans ((hf_F6.2 k (by omega)).trans ((hf_F5.2 k (by omega)).trans ((hf_F4.2 k (by omega)).trans ((hf_F3.2 k (by omega)).trans ((hf_F2.2 k (by omega)).trans ((hf_F1.2 k (by omega)).trans rfl)))))))))⟩, hat_F9 h0⟩
                  · have h157 : (t.2.2.1 = 0 ∧ wdB B (twT B n t) [108, 111, 97, 100] = true) := ite_yes.mp h157
                    refine at_bipush 162 X (by decide) (by decide) dX12_kindHere_160 rfl ?_
                    refine at_goto 166 X dX12_kindHere_162 (by decide) ?_
                    refine at_iret X Rt ?_ (Nat.le_refl _) (Nat.le_refl _) dX12_kindHere_166
                    have n_wide : ¬ wdB B (twT B n t) [119, 105, 100, 101] = true := fun q => h12 ⟨h0, q⟩
                    have n_post : ¬ wdB B (twT B n t) [112, 111, 115, 116] = true := fun q => h31 ⟨h0, q⟩
                    have n_sun : ¬ wdB B (twT B n t) [115, 117, 110] = true := fun q => h49 ⟨h0, q⟩
                    have n_moon : ¬ wdB B (twT B n t) [109, 111, 111, 110] = true := fun q => h68 ⟨h0, q⟩
                    have n_cloud : ¬ wdB B (twT B n t) [99, 108, 111, 117, 100] = true := fun q => h86 ⟨h0, q⟩
                    have n_lamp : ¬ wdB B (twT B n t) [108, 97, 109, 112] = true := fun q => h104 ⟨h0, q⟩
                    have n_beam : ¬ wdB B (twT B n t) [98, 101, 97, 109] = true := fun q => h120 ⟨h0, q⟩
                    have n_dusk : ¬ wdB B (twT B n t) [100, 117, 115, 107] = true := fun q => h139 ⟨h0, q⟩
                    have y_load := h157.2
                    have e : kdW B (twT B n t) = 9 := by unfold kdW; rw [if_neg n_wide, if_neg n_post, if_neg n_sun, if_neg n_dusk, if_neg n_moon, if_neg n_cloud, if_neg n_lamp, if_neg n_beam, if_pos y_load]
                    exact ⟨by rw [e]; rfl, F9, rfl, hP_F9, ⟨hq_F9, fun k hk => ((hf_F9.2 k (by omega)).trans ((hf_F8.2 k (by omega)).trans ((hf_F7.2 k (by omega)).trans ((hf_F6.2 k (by omega)).trans ((hf_F5.2 k (by omega)).trans ((hf_F4.2 k (by omega)).trans ((hf_F3.2 k (by omega)).trans ((hf_F2.2 k (by omega)).trans ((hf_F1.2 k (by omega)).trans rfl)))))))))⟩, hat_F9 h0⟩
                · have h139 : (t.2.2.1 = 0 ∧ wdB B (twT B n t) [100, 117, 115, 107] = true) := ite_yes.mp h139
                  refine at_bipush 144 X (by decide) (by decide) dX12_kindHere_142 rfl ?_
                  refine at_iret X Rt ?_ (Nat.le_refl _) (Nat.le_refl _) dX12_kindHere_144
                  have n_wide : ¬ wdB B (twT B n t) [119, 105, 100, 101] = true := fun q => h12 ⟨h0, q⟩
                  have n_post : ¬ wdB B (twT B n t) [112, 111, 115, 116] = true := fun q => h31 ⟨h0, q⟩
                  have n_sun : ¬ wdB B (twT B n t) [115, 117, 110] = true := fun q => h49 ⟨h0, q⟩
                  have n_moon : ¬ wdB B (twT B n t) [109, 111, 111, 110] = true := fun q => h68 ⟨h0, q⟩
                  have n_cloud : ¬ wdB B (twT B n t) [99, 108, 111, 117, 100] = true := fun q => h86 ⟨h0, q⟩
                  have n_lamp : ¬ wdB B (twT B n t) [108, 97, 109, 112] = true := fun q => h104 ⟨h0, q⟩
                  have n_beam : ¬ wdB B (twT B n t) [98, 101, 97, 109] = true := fun q => h120 ⟨h0, q⟩
                  have y_dusk := h139.2
                  have e : kdW B (twT B n t) = 4 := by unfold kdW; rw [if_neg n_wide, if_neg n_post, if_neg n_sun, if_pos y_dusk]
                  exact ⟨by rw [e]; rfl, F8, rfl, hP_F8, ⟨hq_F8, fun k hk => ((hf_F8.2 k (by omega)).trans ((hf_F7.2 k (by omega)).trans ((hf_F6.2 k (by omega)).trans ((hf_F5.2 k (by omega)).trans ((hf_F4.2 k (by omega)).trans ((hf_F3.2 k (by omega)).trans ((hf_F2.2 k (by omega)).trans ((hf_F1.2 k (by omega)).trans rfl))))))))⟩, hat_F8 h0⟩
              · have h120 : (t.2.2.1 = 0 ∧ wdB B (twT B n t) [98, 101, 97, 109] = true) := ite_yes.mp h120
                refine at_bipush 125 X (by decide) (by decide) dX12_kindHere_123 rfl ?_
                refine at_iret X Rt ?_ (Nat.le_refl _) (Nat.le_refl _) dX12_kindHere_125
                have n_wide : ¬ wdB B (twT B n t) [119, 105, 100, 101] = true := fun q => h12 ⟨h0, q⟩
                have n_post : ¬ wdB B (twT B n t) [112, 111, 115, 116] = true := fun q => h31 ⟨h0, q⟩
                have n_sun : ¬ wdB B (twT B n t) [115, 117, 110] = true := fun q => h49 ⟨h0, q⟩
                have n_moon : ¬ wdB B (twT B n t) [109, 111, 111, 110] = true := fun q => h68 ⟨h0, q⟩
                have n_cloud : ¬ wdB B (twT B n t) [99, 108, 111, 117, 100] = true := fun q => h86 ⟨h0, q⟩
                have n_lamp : ¬ wdB B (twT B n t) [108, 97, 109, 112] = true := fun q => h104 ⟨h0, q⟩
                have y_beam := h120.2
                have n_dusk : ¬ wdB B (twT B n t) [100, 117, 115, 107] = true := fun q => absurd (wdB_uniq q y_beam) (by decide)
                have e : kdW B (twT B n t) = 8 := by unfold kdW; rw [if_neg n_wide, if_neg n_post, if_neg n_sun, if_neg n_dusk, if_neg n_moon, if_neg n_cloud, if_neg n_lamp, if_pos y_beam]
                exact ⟨by rw [e]; rfl, F7, rfl, hP_F7, ⟨hq_F7, fun k hk => ((hf_F7.2 k (by omega)).trans ((hf_F6.2 k (by omega)).trans ((hf_F5.2 k (by omega)).trans ((hf_F4.2 k (by omega)).trans ((hf_F3.2 k (by omega)).trans ((hf_F2.2 k (by omega)).trans ((hf_F1.2 k (by omega)).trans rfl)))))))⟩, hat_F7 h0⟩
            · have h104 : (t.2.2.1 = 0 ∧ wdB B (twT B n t) [108, 97, 109, 112] = true) := ite_yes.mp h104
              refine at_iconst 108 X (by decide) dX12_kindHere_107 rfl ?_
              refine at_iret X Rt ?_ (Nat.le_refl _) (Nat.le_refl _) dX12_kindHere_108
              have n_wide : ¬ wdB B (twT B n t) [119, 105, 100, 101] = true := fun q => h12 ⟨h0, q⟩
              have n_post : ¬ wdB B (twT B n t) [112, 111, 115, 116] = true := fun q => h31 ⟨h0, q⟩
              have n_sun : ¬ wdB B (twT B n t) [115, 117, 110] = true := fun q => h49 ⟨h0, q⟩
              have n_moon : ¬ wdB B (twT B n t) [109, 111, 111, 110] = true := fun q => h68 ⟨h0, q⟩
              have n_cloud : ¬ wdB B (twT B n t) [99, 108, 111, 117, 100] = true := fun q => h86 ⟨h0, q⟩
              have y_lamp := h104.2
              have n_dusk : ¬ wdB B (twT B n t) [100, 117, 115, 107] = true := fun q => absurd (wdB_uniq q y_lamp) (by decide)
              have e : kdW B (twT B n t) = 7 := by unfold kdW; rw [if_neg n_wide, if_neg n_post, if_neg n_sun, if_neg n_dusk, if_neg n_moon, if_neg n_cloud, if_pos y_lamp]
              exact ⟨by rw [e]; rfl, F6, rfl, hP_F6, ⟨hq_F6, fun k hk => ((hf_F6.2 k (by omega)).trans ((hf_F5.2 k (by omega)).trans ((hf_F4.2 k (by omega)).trans ((hf_F3.2 k (by omega)).trans ((hf_F2.2 k (by omega)).trans ((hf_F1.2 k (by omega)).trans rfl))))))⟩, hat_F6 h0⟩
          · have h86 : (t.2.2.1 = 0 ∧ wdB B (twT B n t) [99, 108, 111, 117, 100] = true) := ite_yes.mp h86
            refine at_iconst 90 X (by decide) dX12_kindHere_89 rfl ?_
            refine at_iret X Rt ?_ (Nat.le_refl _) (Nat.le_refl _) dX12_kindHere_90
            have n_wide : ¬ wdB B (twT B n t) [119, 105, 100, 101] = true := fun q => h12 ⟨h0, q⟩
            have n_post : ¬ wdB B (twT B n t) [112, 111, 115, 116] = true := fun q => h31 ⟨h0, q⟩
            have n_sun : ¬ wdB B (twT B n t) [115, 117, 110] = true := fun q => h49 ⟨h0, q⟩
            have n_moon : ¬ wdB B (twT B n t) [109, 111, 111, 110] = true := fun q => h68 ⟨h0, q⟩
            have y_cloud := h86.2
            have n_dusk : ¬ wdB B (twT B n t) [100, 117, 115, 107] = true := fun q => absurd (wdB_uniq q y_cloud) (by decide)
            have e : kdW B (twT B n t) = 6 := by unfold kdW; rw [if_neg n_wide, if_neg n_post, if_neg n_sun, if_neg n_dusk, if_neg n_moon, if_pos y_cloud]
            exact ⟨by rw [e]; rfl, F5, rfl, hP_F5, ⟨hq_F5, fun k hk => ((hf_F5.2 k (by omega)).trans ((hf_F4.2 k (by omega)).trans ((hf_F3.2 k (by omega)).trans ((hf_F2.2 k (by omega)).trans ((hf_F1.2 k (by omega)).trans rfl)))))⟩, hat_F5 h0⟩
        · have h68 : (t.2.2.1 = 0 ∧ wdB B (twT B n t) [109, 111, 111, 110] = true) := ite_yes.mp h68
          refine at_iconst 72 X (by decide) dX12_kindHere_71 rfl ?_
          refine at_iret X Rt ?_ (Nat.le_refl _) (Nat.le_refl _) dX12_kindHere_72
          have n_wide : ¬ wdB B (twT B n t) [119, 105, 100, 101] = true := fun q => h12 ⟨h0, q⟩
          have n_post : ¬ wdB B (twT B n t) [112, 111, 115, 116] = true := fun q => h31 ⟨h0, q⟩
          have n_sun : ¬ wdB B (twT B n t) [115, 117, 110] = true := fun q => h49 ⟨h0, q⟩
          have y_moon := h68.2
          have n_dusk : ¬ wdB B (twT B n t) [100, 117, 115, 107] = true := fun q => absurd (wdB_uniq q y_moon) (by decide)
          have e : kdW B (twT B n t) = 5 := by unfold kdW; rw [if_neg n_wide, if_neg n_post, if_neg n_sun, if_neg n_dusk, if_pos y_moon]
          exact ⟨by rw [e]; rfl, F4, rfl, hP_F4, ⟨hq_F4, fun k hk => ((hf_F4.2 k (by omega)).trans ((hf_F3.2 k (by omega)).trans ((hf_F2.2 k (by omega)).trans ((hf_F1.2 k (by omega)).trans rfl))))⟩, hat_F4 h0⟩
      · have h49 : (t.2.2.1 = 0 ∧ wdB B (twT B n t) [115, 117, 110] = true) := ite_yes.mp h49
        refine at_iconst 53 X (by decide) dX12_kindHere_52 rfl ?_
        refine at_iret X Rt ?_ (Nat.le_refl _) (Nat.le_refl _) dX12_kindHere_53
        have n_wide : ¬ wdB B (twT B n t) [119, 105, 100, 101] = true := fun q => h12 ⟨h0, q⟩
        have n_post : ¬ wdB B (twT B n t) [112, 111, 115, 116] = true := fun q => h31 ⟨h0, q⟩
        have y_sun := h49.2
        have e : kdW B (twT B n t) = 3 := by unfold kdW; rw [if_neg n_wide, if_neg n_post, if_pos y_sun]
        exact ⟨by rw [e]; rfl, F3, rfl, hP_F3, ⟨hq_F3, fun k hk => ((hf_F3.2 k (by omega)).trans ((hf_F2.2 k (by omega)).trans ((hf_F1.2 k (by omega)).trans rfl)))⟩, hat_F3 h0⟩
    · have h31 : (t.2.2.1 = 0 ∧ wdB B (twT B n t) [112, 111, 115, 116] = true) := ite_yes.mp h31
      refine at_iconst 35 X (by decide) dX12_kindHere_34 rfl ?_
      refine at_iret X Rt ?_ (Nat.le_refl _) (Nat.le_refl _) dX12_kindHere_35
      have n_wide : ¬ wdB B (twT B n t) [119, 105, 100, 101] = true := fun q => h12 ⟨h0, q⟩
      have y_post := h31.2
      have e : kdW B (twT B n t) = 2 := by unfold kdW; rw [if_neg n_wide, if_pos y_post]
      exact ⟨by rw [e]; rfl, F2, rfl, hP_F2, ⟨hq_F2, fun k hk => ((hf_F2.2 k (by omega)).trans ((hf_F1.2 k (by omega)).trans rfl))⟩, hat_F2 h0⟩
  · have h12 : (t.2.2.1 = 0 ∧ wdB B (twT B n t) [119, 105, 100, 101] = true) := ite_yes.mp h12
    refine at_iconst 16 X (by decide) dX12_kindHere_15 rfl ?_
    refine at_iret X Rt ?_ (Nat.le_refl _) (Nat.le_refl _) dX12_kindHere_16
    have y_wide := h12.2
    have e : kdW B (twT B n t) = 1 := by unfold kdW; rw [if_pos y_wide]
    exact ⟨by rw [e]; rfl, F1, rfl, hP_F1, ⟨hq_F1, fun k hk => ((hf_F1.2 k (by omega)).trans rfl)⟩, hat_F1 h0⟩
/-! a street that the reference is reading -/
def RTD (E : Mm) (P : SP) (Q : RX) : Prop :=
  (E 128 0 = (sW P : Int) ∧ E 128 1 = (sN P : Int) ∧ E 128 2 = (xNs Q : Int) ∧ E 128 3 = (sM P : Int) ∧ E 128 4 = (sCn P : Int) ∧ E 128 5 = (sLn P : Int) ∧ E 128 6 = (bN (sB P) : Int) ∧ E 128 7 = (sDk P : Int)) ∧
  (∀ p, p < sN P → E (131 + p) 0 = (sX P p : Int) ∧ E (131 + p) 1 = (sH P p : Int)) ∧
  ((∀ k, k < xNs Q → xTk Q k < 24 ∧ ¬ sSl P (xTk Q k) = -1 ∧ E (154 + k) 0 = (xTk Q k : Int) ∧ E (154 + k) 1 = (if sSw P (xTk Q k) then 1 else 0) ∧ E (154 + k) 2 = sSl P (xTk Q k)) ∧ (∀ t, t < 24 → ¬ sSl P t = -1 → ∃ k, k < xNs Q ∧ xTk Q k = t) ∧ ∀ i j, i < xNs Q → j < xNs Q → xTk Q i = xTk Q j → i = j) ∧
  (∀ m, m < sM P → E (180 + m) 0 = (sMb P m : Int) ∧ E (180 + m) 1 = (sMl P m : Int) ∧ E (180 + m) 2 = (sMn P m : Int)) ∧
  ((∀ k, k < sCn P → E (188 + k) 0 = (xCf Q k : Int) ∧ E (188 + k) 1 = (xCt Q k : Int) ∧ xCf Q k ≤ xCt Q k ∧ xCt Q k < 24) ∧ ∀ h, h < 24 → sC P h = clB Q h (sCn P)) ∧
  ((∀ k, k < sLn P → E (202 + k) 0 = (xLx Q k : Int) ∧ E (202 + k) 1 = (xLr Q k : Int) ∧ xLx Q k < 40 ∧ xLr Q k ≤ 9) ∧ ∀ c, c < 50 → sLc P c = laB (xLx Q) (xLr Q) c (sLn P)) ∧
  ∀ b, b < bN (sB P) → E (219 + b) 0 = (bX (sB P) b : Int) ∧ E (219 + b) 1 = (bL (sB P) b : Int) ∧ E (219 + b) 2 = (bH (sB P) b : Int) ∧ ∀ p, p < bL (sB P) b → E (237 + b) p = (bD (sB P) b p : Int)
theorem RTD.fr {E E1 : Mm} {P : SP} {Q : RX} (h : RTD E P Q) (hf : ∀ q, q ≠ 125 → E1 q = E q) : RTD E1 P Q := by
  obtain ⟨h1, h2, h3, h4, h5, h6, h7⟩ := h
  refine ⟨?_, fun p hp => ?_, ⟨fun k hk => ?_, h3.2⟩, fun m hm => ?_, ⟨fun k hk => ?_, h5.2⟩, ⟨fun k hk => ?_, h6.2⟩, fun b hb => ?_⟩
  · rw [hf 128 (by omega)]; exact h1
  · rw [hf (131 + p) (by omega)]; exact h2 p hp
  · rw [hf (154 + k) (by omega)]; exact h3.1 k hk
  · rw [hf (180 + m) (by omega)]; exact h4 m hm
  · rw [hf (188 + k) (by omega)]; exact h5.1 k hk
  · rw [hf (202 + k) (by omega)]; exact h6.1 k hk
  · rw [hf (219 + b) (by omega), hf (237 + b) (by omega)]; exact h7 b hb
/-- only what the reading of a street touches has changed -/
def RFr (E E1 : Mm) : Prop := (∀ q, ¬ (q = 125 ∨ q = 128 ∨ (131 ≤ q ∧ q ≤ 140) ∨ (154 ≤ q ∧ q ≤ 165) ∨ (180 ≤ q ∧ q ≤ 182) ∨ (188 ≤ q ∧ q ≤ 193) ∨ (202 ≤ q ∧ q ≤ 207) ∨ (219 ≤ q ∧ q ≤ 226) ∨ (237 ≤ q ∧ q ≤ 244)) → E1 q = E q) ∧ ∀ k, ¬ ((4 ≤ k ∧ k ≤ 7) ∨ k = 27) → E1 125 k = E 125 k
theorem RFr.rf {E : Mm} : RFr E E := ⟨fun _ _ => rfl, fun _ _ => rfl⟩
theorem RFr.tr {E E1 E2 : Mm} (h : RFr E E1) (h2 : RFr E1 E2) : RFr E E2 := ⟨fun q a => (h2.1 q a).trans (h.1 q a), fun k hk => (h2.2 k hk).trans (h.2 k hk)⟩
theorem RTf.fr {E E1 : Mm} (h : RTf E E1) : RFr E E1 := ⟨fun q a => h.1 q (by omega), fun k hk => h.2 k (by omega)⟩
def RBd (P : SP) (Q : RX) : Prop := sN P ≤ 10 ∧ xNs Q ≤ 12 ∧ sM P ≤ 3 ∧ sCn P ≤ 6 ∧ sLn P ≤ 6 ∧ bN (sB P) ≤ 8
theorem RTD_W {E : Mm} {P : SP} {Q : RX} {w : Nat} (h : RTD E P Q) (hB : RBd P Q) : RTD (wr E 128 0 (w : Int)) (setW P w) (Q) := by
  obtain ⟨h1, h2, h3, h4, h5, h6, h7⟩ := h
  obtain ⟨b1, b2, b3, b4, b5, b6⟩ := hB
  exact ⟨(by obtain ⟨g1, g2, g3, g4, g5, g6, g7, g8⟩ := h1; refine ⟨?_, ?_, ?_, ?_, ?_, ?_, ?_, ?_⟩ <;> first | (simp (disch := omega) only [wr_o, wr_s]; done) | (simp (disch := omega) only [wr_o, wr_s]; assumption) | (simp (disch := omega) only [wr_o, wr_s]; rfl)),
    (fun p hp => by have hp2 : p < sN P := hp; have := h2 p hp; simp (disch := omega) only [wr_o]; exact this),
    ⟨fun k hk => by have hk2 : k < xNs Q := hk; have := h3.1 k hk; simp (disch := omega) only [wr_o]; exact this, h3.2⟩,
    (fun m hm => by have hm2 : m < sM P := hm; have := h4 m hm; simp (disch := omega) only [wr_o]; exact this),
    ⟨fun k hk => by have hk2 : k < sCn P := hk; have := h5.1 k hk; simp (disch := omega) only [wr_o]; exact this, h5.2⟩,
    ⟨fun k hk => by have hk2 : k < sLn P := hk; have := h6.1 k hk; simp (disch := omega) only [wr_o]; exact this, h6.2⟩,
    (fun b hb => by have hb2 : b < bN (sB P) := hb; have := h7 b hb; simp (disch := omega) only [wr_o]; exact this)⟩
theorem RTD_Dk {E : Mm} {P : SP} {Q : RX} {d : Nat} (h : RTD E P Q) (hB : RBd P Q) : RTD (wr E 128 7 (d : Int)) (setDk P d) (Q) := by
  obtain ⟨h1, h2, h3, h4, h5, h6, h7⟩ := h
  obtain ⟨b1, b2, b3, b4, b5, b6⟩ := hB
  exact ⟨(by obtain ⟨g1, g2, g3, g4, g5, g6, g7, g8⟩ := h1; refine ⟨?_, ?_, ?_, ?_, ?_, ?_, ?_, ?_⟩ <;> first | (simp (disch := omega) only [wr_o, wr_s]; done) | (simp (disch := omega) only [wr_o, wr_s]; assumption) | (simp (disch := omega) only [wr_o, wr_s]; rfl)),
    (fun p hp => by have hp2 : p < sN P := hp; have := h2 p hp; simp (disch := omega) only [wr_o]; exact this),
    ⟨fun k hk => by have hk2 : k < xNs Q := hk; have := h3.1 k hk; simp (disch := omega) only [wr_o]; exact this, h3.2⟩,
    (fun m hm => by have hm2 : m < sM P := hm; have := h4 m hm; simp (disch := omega) only [wr_o]; exact this),
    ⟨fun k hk => by have hk2 : k < sCn P := hk; have := h5.1 k hk; simp (disch := omega) only [wr_o]; exact this, h5.2⟩,
    ⟨fun k hk => by have hk2 : k < sLn P := hk; have := h6.1 k hk; simp (disch := omega) only [wr_o]; exact this, h6.2⟩,
    (fun b hb => by have hb2 : b < bN (sB P) := hb; have := h7 b hb; simp (disch := omega) only [wr_o]; exact this)⟩
theorem RTD_Po {E : Mm} {P : SP} {Q : RX} {x hh : Nat} (h : RTD E P Q) (hB : RBd P Q) (hN : sN P < 10) : RTD (wr (wr (wr E (131 + sN P) 0 (x : Int)) (131 + sN P) 1 (hh : Int)) 128 1 ((sN P + 1 : Nat) : Int)) (addPo P x hh) (Q) := by
  obtain ⟨h1, h2, h3, h4, h5, h6, h7⟩ := h
  obtain ⟨b1, b2, b3, b4, b5, b6⟩ := hB
  exact ⟨(by obtain ⟨g1, g2, g3, g4, g5, g6, g7, g8⟩ := h1; refine ⟨?_, ?_, ?_, ?_, ?_, ?_, ?_, ?_⟩ <;> first | (simp (disch := omega) only [wr_o, wr_s]; done) | (simp (disch := omega) only [wr_o, wr_s]; assumption) | (simp (disch := omega) only [wr_o, wr_s]; rfl)),
    (fun p hp => by
      have hp' : p < sN P + 1 := hp
      show _ = ((pt1 (sX P) (sN P) x p : Nat) : Int) ∧ _ = ((pt1 (sH P) (sN P) hh p : Nat) : Int)
      by_cases c : p = sN P
      · subst c; rw [pt1_s, pt1_s]; exact ⟨by simp (disch := omega) only [wr_o, wr_s], by simp (disch := omega) only [wr_o, wr_s]⟩
      · have := h2 p (by omega)
        rw [pt1_o c, pt1_o c]; simp (disch := omega) only [wr_o]; exact this),
    ⟨fun k hk => by have hk2 : k < xNs Q := hk; have := h3.1 k hk; simp (disch := omega) only [wr_o]; exact this, h3.2⟩,
    (fun m hm => by have hm2 : m < sM P := hm; have := h4 m hm; simp (disch := omega) only [wr_o]; exact this),
    ⟨fun k hk => by have hk2 : k < sCn P := hk; have := h5.1 k hk; simp (disch := omega) only [wr_o]; exact this, h5.2⟩,
    ⟨fun k hk => by have hk2 : k < sLn P := hk; have := h6.1 k hk; simp (disch := omega) only [wr_o]; exact this, h6.2⟩,
    (fun b hb => by have hb2 : b < bN (sB P) := hb; have := h7 b hb; simp (disch := omega) only [wr_o]; exact this)⟩
theorem RTD_Mo {E : Mm} {P : SP} {Q : RX} {b l m : Nat} (h : RTD E P Q) (hB : RBd P Q) (hM : sM P < 3) : RTD (wr (wr (wr (wr E (180 + sM P) 0 (b : Int)) (180 + sM P) 1 (l : Int)) (180 + sM P) 2 (m : Int)) 128 3 ((sM P + 1 : Nat) : Int)) (addMo P b l m) (Q) := by
  obtain ⟨h1, h2, h3, h4, h5, h6, h7⟩ := h
  obtain ⟨b1, b2, b3, b4, b5, b6⟩ := hB
  exact ⟨(by obtain ⟨g1, g2, g3, g4, g5, g6, g7, g8⟩ := h1; refine ⟨?_, ?_, ?_, ?_, ?_, ?_, ?_, ?_⟩ <;> first | (simp (disch := omega) only [wr_o, wr_s]; done) | (simp (disch := omega) only [wr_o, wr_s]; assumption) | (simp (disch := omega) only [wr_o, wr_s]; rfl)),
    (fun p hp => by have hp2 : p < sN P := hp; have := h2 p hp; simp (disch := omega) only [wr_o]; exact this),
    ⟨fun k hk => by have hk2 : k < xNs Q := hk; have := h3.1 k hk; simp (disch := omega) only [wr_o]; exact this, h3.2⟩,
    (fun k hk => by
      have hk' : k < sM P + 1 := hk
      show _ = ((pt1 (sMb P) (sM P) b k : Nat) : Int) ∧ _ = ((pt1 (sMl P) (sM P) l k : Nat) : Int) ∧ _ = ((pt1 (sMn P) (sM P) m k : Nat) : Int)
      by_cases c : k = sM P
      · subst c; rw [pt1_s, pt1_s, pt1_s]; exact ⟨by simp (disch := omega) only [wr_o, wr_s], by simp (disch := omega) only [wr_o, wr_s], by simp (disch := omega) only [wr_o, wr_s]⟩
      · have := h4 k (by omega)
        rw [pt1_o c, pt1_o c, pt1_o c]; simp (disch := omega) only [wr_o]; exact this),
    ⟨fun k hk => by have hk2 : k < sCn P := hk; have := h5.1 k hk; simp (disch := omega) only [wr_o]; exact this, h5.2⟩,
    ⟨fun k hk => by have hk2 : k < sLn P := hk; have := h6.1 k hk; simp (disch := omega) only [wr_o]; exact this, h6.2⟩,
    (fun b hb => by have hb2 : b < bN (sB P) := hb; have := h7 b hb; simp (disch := omega) only [wr_o]; exact this)⟩
theorem clB_add {Q : RX} {h f t n : Nat} : clB (Q.1, (pt1 (xCf Q) n f, pt1 (xCt Q) n t), Q.2.2) h (n + 1) = (clB Q h n || (decide (f ≤ h) && decide (h ≤ t))) := by
  show itr _ false (n + 1) = _
  rw [itr_s]
  show (_ || (decide (pt1 (xCf Q) n f n ≤ h) && decide (h ≤ pt1 (xCt Q) n t n))) = _
  rw [pt1_s, pt1_s]
  congr 1
  exact itr_congr (fun i hi v => by show (v || (decide (pt1 (xCf Q) n f i ≤ h) && decide (h ≤ pt1 (xCt Q) n t i))) = _; rw [pt1_o (by omega), pt1_o (by omega)])
theorem laB_add {lx lr : Nat → Nat} {c x r n : Nat} : laB (pt1 lx n x) (pt1 lr n r) c (n + 1) = (laB lx lr c n || (decide (c ≤ x + r) && decide (x ≤ c + r))) := by
  show itr _ false (n + 1) = _
  rw [itr_s]
  show (_ || (decide (c ≤ pt1 lx n x n + pt1 lr n r n) && decide (pt1 lx n x n ≤ c + pt1 lr n r n))) = _
  rw [pt1_s, pt1_s]
  congr 1
  exact itr_congr (fun i hi v => by show (v || (decide (c ≤ pt1 lx n x i + pt1 lr n r i) && decide (pt1 lx n x i ≤ c + pt1 lr n r i))) = _; rw [pt1_o (by omega), pt1_o (by omega)])
theorem RTD_Cl {E : Mm} {P : SP} {Q : RX} {f t : Nat} (h : RTD E P Q) (hB : RBd P Q) (hC : sCn P < 6) (hft : f ≤ t ∧ t < 24) : RTD (wr (wr (wr E (188 + sCn P) 0 (f : Int)) (188 + sCn P) 1 (t : Int)) 128 4 ((sCn P + 1 : Nat) : Int)) (addCl P f t) ((Q.1, (pt1 (xCf Q) (sCn P) f, pt1 (xCt Q) (sCn P) t), Q.2.2)) := by
  obtain ⟨h1, h2, h3, h4, h5, h6, h7⟩ := h
  obtain ⟨b1, b2, b3, b4, b5, b6⟩ := hB
  exact ⟨(by obtain ⟨g1, g2, g3, g4, g5, g6, g7, g8⟩ := h1; refine ⟨?_, ?_, ?_, ?_, ?_, ?_, ?_, ?_⟩ <;> first | (simp (disch := omega) only [wr_o, wr_s]; done) | (simp (disch := omega) only [wr_o, wr_s]; assumption) | (simp (disch := omega) only [wr_o, wr_s]; rfl)),
    (fun p hp => by have hp2 : p < sN P := hp; have := h2 p hp; simp (disch := omega) only [wr_o]; exact this),
    ⟨fun k hk => by have hk2 : k < xNs Q := hk; have := h3.1 k hk; simp (disch := omega) only [wr_o]; exact this, h3.2⟩,
    (fun m hm => by have hm2 : m < sM P := hm; have := h4 m hm; simp (disch := omega) only [wr_o]; exact this),
    ⟨fun k hk => by
      have hk' : k < sCn P + 1 := hk
      show _ = ((pt1 (xCf Q) (sCn P) f k : Nat) : Int) ∧ _ = ((pt1 (xCt Q) (sCn P) t k : Nat) : Int) ∧ pt1 (xCf Q) (sCn P) f k ≤ pt1 (xCt Q) (sCn P) t k ∧ pt1 (xCt Q) (sCn P) t k < 24
      by_cases c : k = sCn P
      · subst c; rw [pt1_s, pt1_s]; exact ⟨by simp (disch := omega) only [wr_o, wr_s], by simp (disch := omega) only [wr_o, wr_s], hft.1, hft.2⟩
      · have := h5.1 k (by omega)
        rw [pt1_o c, pt1_o c]; simp (disch := omega) only [wr_o]; exact this, fun h hh => by
      show (sC P h || (decide (f ≤ h) && decide (h ≤ t))) = clB _ h (sCn P + 1)
      rw [clB_add, h5.2 h hh]⟩,
    ⟨fun k hk => by have hk2 : k < sLn P := hk; have := h6.1 k hk; simp (disch := omega) only [wr_o]; exact this, h6.2⟩,
    (fun b hb => by have hb2 : b < bN (sB P) := hb; have := h7 b hb; simp (disch := omega) only [wr_o]; exact this)⟩
theorem RTD_La {E : Mm} {P : SP} {Q : RX} {x r : Nat} (h : RTD E P Q) (hB : RBd P Q) (hL : sLn P < 6) (hx : x < 40 ∧ r ≤ 9) : RTD (wr (wr (wr E (202 + sLn P) 0 (x : Int)) (202 + sLn P) 1 (r : Int)) 128 5 ((sLn P + 1 : Nat) : Int)) (addLa P x r) ((Q.1, Q.2.1, (pt1 (xLx Q) (sLn P) x, pt1 (xLr Q) (sLn P) r))) := by
  obtain ⟨h1, h2, h3, h4, h5, h6, h7⟩ := h
  obtain ⟨b1, b2, b3, b4, b5, b6⟩ := hB
  exact ⟨(by obtain ⟨g1, g2, g3, g4, g5, g6, g7, g8⟩ := h1; refine ⟨?_, ?_, ?_, ?_, ?_, ?_, ?_, ?_⟩ <;> first | (simp (disch := omega) only [wr_o, wr_s]; done) | (simp (disch := omega) only [wr_o, wr_s]; assumption) | (simp (disch := omega) only [wr_o, wr_s]; rfl)),
    (fun p hp => by have hp2 : p < sN P := hp; have := h2 p hp; simp (disch := omega) only [wr_o]; exact this),
    ⟨fun k hk => by have hk2 : k < xNs Q := hk; have := h3.1 k hk; simp (disch := omega) only [wr_o]; exact this, h3.2⟩,
    (fun m hm => by have hm2 : m < sM P := hm; have := h4 m hm; simp (disch := omega) only [wr_o]; exact this),
    ⟨fun k hk => by have hk2 : k < sCn P := hk; have := h5.1 k hk; simp (disch := omega) only [wr_o]; exact this, h5.2⟩,
    ⟨fun k hk => by
      have hk' : k < sLn P + 1 := hk
      show _ = ((pt1 (xLx Q) (sLn P) x k : Nat) : Int) ∧ _ = ((pt1 (xLr Q) (sLn P) r k : Nat) : Int) ∧ pt1 (xLx Q) (sLn P) x k < 40 ∧ pt1 (xLr Q) (sLn P) r k ≤ 9
      by_cases c : k = sLn P
      · subst c; rw [pt1_s, pt1_s]; exact ⟨by simp (disch := omega) only [wr_o, wr_s], by simp (disch := omega) only [wr_o, wr_s], hx.1, hx.2⟩
      · have := h6.1 k (by omega)
        rw [pt1_o c, pt1_o c]; simp (disch := omega) only [wr_o]; exact this, fun c hc => by
      show (sLc P c || (decide (c ≤ x + r) && decide (x ≤ c + r))) = laB _ _ c (sLn P + 1)
      rw [laB_add, h6.2 c hc]⟩,
    (fun b hb => by have hb2 : b < bN (sB P) := hb; have := h7 b hb; simp (disch := omega) only [wr_o]; exact this)⟩
theorem RTD_Su1 {E : Mm} {P : SP} {Q : RX} {f w l k0 : Nat} (h : RTD E P Q) (hB : RBd P Q) (hw : w ≤ 1) (hf : f < 24) (hk0 : k0 < xNs Q) (hk : xTk Q k0 = f) : RTD (wr (wr (wr E (154 + k0) 0 (f : Int)) (154 + k0) 1 (w : Int)) (154 + k0) 2 (l : Int)) (setSu P f w l) (Q) := by
  obtain ⟨h1, h2, h3, h4, h5, h6, h7⟩ := h
  obtain ⟨b1, b2, b3, b4, b5, b6⟩ := hB
  exact ⟨(by obtain ⟨g1, g2, g3, g4, g5, g6, g7, g8⟩ := h1; refine ⟨?_, ?_, ?_, ?_, ?_, ?_, ?_, ?_⟩ <;> first | (simp (disch := omega) only [wr_o, wr_s]; done) | (simp (disch := omega) only [wr_o, wr_s]; assumption) | (simp (disch := omega) only [wr_o, wr_s]; rfl)),
    (fun p hp => by have hp2 : p < sN P := hp; have := h2 p hp; simp (disch := omega) only [wr_o]; exact this),
    ⟨fun k hk1 => by
      show xTk Q k < 24 ∧ ¬ pt1 (sSl P) f (l : Int) (xTk Q k) = -1 ∧ _ = ((xTk Q k : Nat) : Int) ∧ _ = (if pt1 (sSw P) f (decide (w = 1)) (xTk Q k) = true then 1 else 0) ∧ _ = pt1 (sSl P) f (l : Int) (xTk Q k)
      by_cases c : k = k0
      · subst c
        rw [hk]
        rw [pt1_s, pt1_s]
        refine ⟨hf, by omega, by simp (disch := omega) only [wr_o, wr_s], ?_, by simp (disch := omega) only [wr_o, wr_s]⟩
        simp (disch := omega) only [wr_o, wr_s]
        by_cases cw : w = 1
        · rw [cw]; rfl
        · rw [show w = 0 by omega]; rfl
      · have := h3.1 k hk1
        have cf : ¬ xTk Q k = f := fun q => c (h3.2.2 k k0 hk1 hk0 (q.trans hk.symm))
        rw [pt1_o cf, pt1_o cf]
        simp (disch := omega) only [wr_o]; exact this, fun t ht hn => by
      by_cases c : t = f
      · exact ⟨k0, hk0, hk.trans c.symm⟩
      · exact h3.2.1 t ht (fun q => hn (by show pt1 (sSl P) f (l : Int) t = -1; rw [pt1_o c]; exact q)), h3.2.2⟩,
    (fun m hm => by have hm2 : m < sM P := hm; have := h4 m hm; simp (disch := omega) only [wr_o]; exact this),
    ⟨fun k hk => by have hk2 : k < sCn P := hk; have := h5.1 k hk; simp (disch := omega) only [wr_o]; exact this, h5.2⟩,
    ⟨fun k hk => by have hk2 : k < sLn P := hk; have := h6.1 k hk; simp (disch := omega) only [wr_o]; exact this, h6.2⟩,
    (fun b hb => by have hb2 : b < bN (sB P) := hb; have := h7 b hb; simp (disch := omega) only [wr_o]; exact this)⟩
theorem RTD_Su2 {E : Mm} {P : SP} {Q : RX} {f w l : Nat} (h : RTD E P Q) (hB : RBd P Q) (hw : w ≤ 1) (hf : f < 24) (hno : ∀ k, k < xNs Q → ¬ xTk Q k = f) (hX12 : xNs Q < 12) : RTD (wr (wr (wr (wr E (154 + xNs Q) 0 (f : Int)) (154 + xNs Q) 1 (w : Int)) (154 + xNs Q) 2 (l : Int)) 128 2 ((xNs Q + 1 : Nat) : Int)) (setSu P f w l) (((xNs Q + 1, pt1 (xTk Q) (xNs Q) f), Q.2)) := by
  obtain ⟨h1, h2, h3, h4, h5, h6, h7⟩ := h
  obtain ⟨b1, b2, b3, b4, b5, b6⟩ := hB
  exact ⟨(by obtain ⟨g1, g2, g3, g4, g5, g6, g7, g8⟩ := h1; refine ⟨?_, ?_, ?_, ?_, ?_, ?_, ?_, ?_⟩ <;> first | (simp (disch := omega) only [wr_o, wr_s]; done) | (simp (disch := omega) only [wr_o, wr_s]; assumption) | (simp (disch := omega) only [wr_o, wr_s]; rfl)),
    (fun p hp => by have hp2 : p < sN P := hp; have := h2 p hp; simp (disch := omega) only [wr_o]; exact this),
    ⟨fun k hk1 => by
      have hk1' : k < xNs Q + 1 := hk1
      skip
      show pt1 (xTk Q) (xNs Q) f k < 24 ∧ ¬ pt1 (sSl P) f (l : Int) (pt1 (xTk Q) (xNs Q) f k) = -1 ∧ _ = ((pt1 (xTk Q) (xNs Q) f k : Nat) : Int) ∧ _ = (if pt1 (sSw P) f (decide (w = 1)) (pt1 (xTk Q) (xNs Q) f k) = true then 1 else 0) ∧ _ = pt1 (sSl P) f (l : Int) (pt1 (xTk Q) (xNs Q) f k)
      by_cases c : k = xNs Q
      · subst c
        rw [pt1_s]
        rw [pt1_s, pt1_s]
        refine ⟨hf, by omega, by simp (disch := omega) only [wr_o, wr_s], ?_, by simp (disch := omega) only [wr_o, wr_s]⟩
        simp (disch := omega) only [wr_o, wr_s]
        by_cases cw : w = 1
        · rw [cw]; rfl
        · rw [show w = 0 by omega]; rfl
      · have := h3.1 k (by omega)
        have cf : ¬ xTk Q k = f := hno k (by omega)
        rw [pt1_o c, pt1_o cf, pt1_o cf]
        simp (disch := omega) only [wr_o]; exact this, fun t ht hn => by
      by_cases c : t = f
      · exact ⟨xNs Q, Nat.lt_succ_self _, by show pt1 (xTk Q) (xNs Q) f (xNs Q) = t; rw [pt1_s, c]⟩
      · obtain ⟨k, k1, k2⟩ := h3.2.1 t ht (fun q => hn (by show pt1 (sSl P) f (l : Int) t = -1; rw [pt1_o c]; exact q))
        exact ⟨k, Nat.lt_succ_of_lt k1, by show pt1 (xTk Q) (xNs Q) f k = t; rw [pt1_o (by omega)]; exact k2⟩, fun i j hi hj e => by
      have hi' : i < xNs Q + 1 := hi
      have hj' : j < xNs Q + 1 := hj
      have e' : pt1 (xTk Q) (xNs Q) f i = pt1 (xTk Q) (xNs Q) f j := e
      by_cases ci : i = xNs Q
      · by_cases cj : j = xNs Q
        · omega
        · rw [ci, pt1_s, pt1_o cj] at e'; exact absurd e'.symm (hno j (by omega))
      · by_cases cj : j = xNs Q
        · rw [cj, pt1_s, pt1_o ci] at e'; exact absurd e' (hno i (by omega))
        · rw [pt1_o ci, pt1_o cj] at e'; exact h3.2.2 i j (by omega) (by omega) e'⟩,
    (fun m hm => by have hm2 : m < sM P := hm; have := h4 m hm; simp (disch := omega) only [wr_o]; exact this),
    ⟨fun k hk => by have hk2 : k < sCn P := hk; have := h5.1 k hk; simp (disch := omega) only [wr_o]; exact this, h5.2⟩,
    ⟨fun k hk => by have hk2 : k < sLn P := hk; have := h6.1 k hk; simp (disch := omega) only [wr_o]; exact this, h6.2⟩,
    (fun b hb => by have hb2 : b < bN (sB P) := hb; have := h7 b hb; simp (disch := omega) only [wr_o]; exact this)⟩
theorem RTD_Be {E : Mm} {P : SP} {Q : RX} {x l m : Nat} {E1 : Mm} (h : RTD E P Q) (hB : RBd P Q) (hN8 : bN (sB P) < 8) (hl : l ≤ 20) (hr : ∀ q, q ≠ 128 → q ≠ 219 + bN (sB P) → q ≠ 237 + bN (sB P) → E1 q = E q) (hk : ∀ k, k ≠ 6 → E1 128 k = E 128 k) (h6' : E1 128 6 = ((bN (sB P) + 1 : Nat) : Int)) (hx : E1 (219 + bN (sB P)) 0 = (x : Int) ∧ E1 (219 + bN (sB P)) 1 = (l : Int) ∧ E1 (219 + bN (sB P)) 2 = (m : Int)) (hz : ∀ p, p < 20 → E1 (237 + bN (sB P)) p = 0) : RTD (E1) (setB P (addB (sB P) x l m)) (Q) := by
  obtain ⟨h1, h2, h3, h4, h5, h6, h7⟩ := h
  obtain ⟨b1, b2, b3, b4, b5, b6⟩ := hB
  exact ⟨⟨(hk 0 (by decide)).trans h1.1, (hk 1 (by decide)).trans h1.2.1, (hk 2 (by decide)).trans h1.2.2.1, (hk 3 (by decide)).trans h1.2.2.2.1, (hk 4 (by decide)).trans h1.2.2.2.2.1, (hk 5 (by decide)).trans h1.2.2.2.2.2.1, h6', (hk 7 (by decide)).trans h1.2.2.2.2.2.2.2⟩,
    (fun p hp => by have hp2 : p < sN P := hp; rw [hr (131 + p) (by omega) (by omega) (by omega)]; exact h2 p hp),
    ⟨fun k hk1 => by have hk2 : k < xNs Q := hk1; rw [hr (154 + k) (by omega) (by omega) (by omega)]; exact h3.1 k hk1, h3.2⟩,
    (fun m hm => by have hm2 : m < sM P := hm; rw [hr (180 + m) (by omega) (by omega) (by omega)]; exact h4 m hm),
    ⟨fun k hk1 => by have hk2 : k < sCn P := hk1; rw [hr (188 + k) (by omega) (by omega) (by omega)]; exact h5.1 k hk1, h5.2⟩,
    ⟨fun k hk1 => by have hk2 : k < sLn P := hk1; rw [hr (202 + k) (by omega) (by omega) (by omega)]; exact h6.1 k hk1, h6.2⟩,
    (fun b hb => by
      have hb' : b < bN (sB P) + 1 := hb
      by_cases c : b = bN (sB P)
      · subst c
        show _ = ((pt1 (bX (sB P)) (bN (sB P)) x (bN (sB P)) : Nat) : Int) ∧ _ = ((bL (addB (sB P) x l m) (bN (sB P)) : Nat) : Int) ∧ _ = ((bH (addB (sB P) x l m) (bN (sB P)) : Nat) : Int) ∧ ∀ p, p < bL (addB (sB P) x l m) (bN (sB P)) → _ = ((bD (addB (sB P) x l m) (bN (sB P)) p : Nat) : Int)
        rw [pt1_s, addB_L, addB_H]
        exact ⟨hx.1, hx.2.1, hx.2.2, fun p hp => by rw [addB_D]; exact hz p (by omega)⟩
      · obtain ⟨e1, e2, e3, e4⟩ := addB_o (B := sB P) (x := x) (l := l) (m := m) (b := b) (by omega)
        obtain ⟨g1, g2, g3, g4⟩ := h7 b (by omega)
        show _ = ((bX (addB (sB P) x l m) b : Nat) : Int) ∧ _ = ((bL (addB (sB P) x l m) b : Nat) : Int) ∧ _ = ((bH (addB (sB P) x l m) b : Nat) : Int) ∧ ∀ p, p < bL (addB (sB P) x l m) b → _ = ((bD (addB (sB P) x l m) b p : Nat) : Int)
        rw [e1, e2, e3, hr (219 + b) (by omega) (by omega) (by omega), hr (237 + b) (by omega) (by omega) (by omega)]
        exact ⟨g1, g2, g3, fun p hp => by rw [e4]; exact g4 p hp⟩)⟩
theorem RTD_Lo {E : Mm} {P : SP} {Q : RX} {b p m : Nat} (h : RTD E P Q) (hB : RBd P Q) (hb : b < 8) : RTD (wr E (237 + b) p (m : Int)) (setB P (setD (sB P) b p m)) (Q) := by
  obtain ⟨h1, h2, h3, h4, h5, h6, h7⟩ := h
  obtain ⟨b1, b2, b3, b4, b5, b6⟩ := hB
  exact ⟨(by obtain ⟨g1, g2, g3, g4, g5, g6, g7, g8⟩ := h1; refine ⟨?_, ?_, ?_, ?_, ?_, ?_, ?_, ?_⟩ <;> first | (simp (disch := omega) only [wr_o, wr_s]; done) | (simp (disch := omega) only [wr_o, wr_s]; assumption) | (simp (disch := omega) only [wr_o, wr_s]; rfl)),
    (fun p hp => by have hp2 : p < sN P := hp; have := h2 p hp; simp (disch := omega) only [wr_o]; exact this),
    ⟨fun k hk => by have hk2 : k < xNs Q := hk; have := h3.1 k hk; simp (disch := omega) only [wr_o]; exact this, h3.2⟩,
    (fun m hm => by have hm2 : m < sM P := hm; have := h4 m hm; simp (disch := omega) only [wr_o]; exact this),
    ⟨fun k hk => by have hk2 : k < sCn P := hk; have := h5.1 k hk; simp (disch := omega) only [wr_o]; exact this, h5.2⟩,
    ⟨fun k hk => by have hk2 : k < sLn P := hk; have := h6.1 k hk; simp (disch := omega) only [wr_o]; exact this, h6.2⟩,
    (fun c hc => by
      have hc2 : c < bN (sB P) := hc
      obtain ⟨g1, g2, g3, g4⟩ := h7 c hc2
      refine ⟨by simp (disch := omega) only [wr_o]; exact g1, by simp (disch := omega) only [wr_o]; exact g2, by simp (disch := omega) only [wr_o]; exact g3, fun q hq => ?_⟩
      show _ = ((bD (setD (sB P) b p m) c q : Nat) : Int)
      by_cases k : c = b ∧ q = p
      · obtain ⟨rfl, rfl⟩ := k; rw [wr_s, setD_s]
      · rw [wr_o (by omega), setD_o (by omega)]; exact g4 q hq)⟩
