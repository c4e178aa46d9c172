/-- a word by 27s -/
def cdW (f : Nat → Int) : Nat → Int := itr (fun i v => 27 * v + f i) 0
theorem cdW_s (f : Nat → Int) (n : Nat) : cdW f (n + 1) = 27 * cdW f n + f n := rfl
theorem cdW_nn {f : Nat → Int} : ∀ {n : Nat}, (∀ i, i < n → 1 ≤ f i ∧ f i ≤ 26) → 0 ≤ cdW f n ∧ cdW f n + 1 ≤ ((27 ^ n : Nat) : Int)
  | 0, _ => ⟨Int.le_refl _, by show (0 : Int) + 1 ≤ ((27 ^ 0 : Nat) : Int); decide⟩
  | n + 1, h => by
    have ih := cdW_nn (f := f) (n := n) (fun i hi => h i (by omega))
    have h1 := h n (by omega)
    rw [cdW_s, Nat.pow_succ]
    omega
theorem cdW_le {f : Nat → Int} {n m : Nat} (h : ∀ i, i < n → 1 ≤ f i ∧ f i ≤ 26) (hm : n ≤ m) : 0 ≤ cdW f n ∧ cdW f n < ((27 ^ m : Nat) : Int) := by
  have h1 := cdW_nn h
  have h2 : 27 ^ n ≤ 27 ^ m := Nat.pow_le_pow_right (by decide) hm
  omega
theorem cdW_inj {f g : Nat → Int} : ∀ {m k : Nat}, (∀ i, i < m → 1 ≤ f i ∧ f i ≤ 26) → (∀ i, i < k → 1 ≤ g i ∧ g i ≤ 26) → cdW f m = cdW g k → m = k ∧ ∀ i, i < m → f i = g i
  | 0, 0, _, _, _ => ⟨rfl, fun i hi => absurd hi (Nat.not_lt_zero i)⟩
  | 0, k + 1, _, hg, e => by
    have h1 := cdW_nn (f := g) (n := k) (fun i hi => hg i (by omega))
    have h2 := hg k (by omega)
    rw [cdW_s] at e
    have e' : (0 : Int) = 27 * cdW g k + g k := e
    omega
  | m + 1, 0, hf, _, e => by
    have h1 := cdW_nn (f := f) (n := m) (fun i hi => hf i (by omega))
    have h2 := hf m (by omega)
    rw [cdW_s] at e
    have e' : 27 * cdW f m + f m = (0 : Int) := e
    omega
  | m + 1, k + 1, hf, hg, e => by
    have h2 := hf m (by omega)
    have h3 := hg k (by omega)
    rw [cdW_s, cdW_s] at e
    obtain ⟨i1, i2⟩ := cdW_inj (f := f) (g := g) (m := m) (k := k) (fun i hi => hf i (by omega)) (fun i hi => hg i (by omega)) (by omega)
    refine ⟨by omega, fun i hi => ?_⟩
    by_cases c : i = m
    · subst c; rw [← i1] at e; rw [← i1]  at h3; have e2 : g k = g i := by rw [i1]
      rw [← e2]; omega
    · exact i2 i (by omega)
theorem cdW_congr {f g : Nat → Int} : ∀ {m : Nat}, (∀ i, i < m → f i = g i) → cdW f m = cdW g m
  | 0, _ => rfl
  | m + 1, h => by rw [cdW_s, cdW_s, cdW_congr (m := m) (fun i hi => h i (by omega)), h m (by omega)]
theorem wd_all {B : Nat → Int} {n : Nat} : ∀ {f a : Nat}, n - a < f → ∀ i, a + i < wdE B n a → isA B n (a + i) 97 122
  | 0, _, h => by omega
  | f + 1, a, h => fun i hi => by
    by_cases c : isA B n a 97 122
    · rw [wd_y c] at hi
      by_cases i0 : i = 0
      · subst i0; exact c
      · have := c.1
        have := wd_all (B := B) (n := n) (f := f) (a := a + 1) (by omega) (i - 1) (by omega)
        rw [show a + i = a + 1 + (i - 1) by omega]; exact this
    · rw [wd_n c] at hi; omega
theorem wd_ends {B : Nat → Int} {n : Nat} : ∀ {m a : Nat}, (∀ i, i < m → isA B n (a + i) 97 122) → ¬ isA B n (a + m) 97 122 → wdE B n a = a + m
  | 0, _, _, h => wd_n h
  | m + 1, a, h, h2 => by
    rw [wd_y (show isA B n a 97 122 from h 0 (by omega)), wd_ends (m := m) (a := a + 1) (fun i hi => by have := h (i + 1) (by omega); rw [show a + 1 + i = a + (i + 1) by omega]; exact this) (by rw [show a + 1 + m = a + (m + 1) by omega]; exact h2)]
    omega
/-- the word at a place by 27s; -1 if it is longer than any -/
def woR (B : Nat → Int) (n p : Nat) : Int := if 6 < wdE B n p - p then -1 else cdW (fun i => B (p + i) - 96) (wdE B n p - p)
def sixA (v d : Int) : Int := if d = 0 then v else 27 * v + d
def sixV (a b c d e f : Int) : Int := sixA (sixA (sixA (27 * (27 * a + b) + c) d) e) f
theorem woR_iff {B : Nat → Int} {n : Nat} {t : TS} {b : List Int} (h0 : t.2.2.1 = 0) (ht : t.1 ≤ n) (hb : b.length ≤ 6 ∧ ∀ j, j < b.length → 97 ≤ b.getD j 0 ∧ b.getD j 0 ≤ 122) : woR B n (sk B n t.1) = cdW (fun i => b.getD i 0 - 96) b.length ↔ wdB B (twT B n t) b = true := by
  have e : twT B n t = (wdE B n (sk B n t.1), sk B n t.1, t.2.2) := if_pos h0
  rw [wdB_iff, e]
  show _ ↔ wdE B n (sk B n t.1) = sk B n t.1 + b.length ∧ ∀ j, j < b.length → B (sk B n t.1 + j) = b.getD j 0
  have hsk := sk_in B ht
  have hw := wd_in B hsk.2
  generalize sk B n t.1 = p at *
  have hall : ∀ i, p + i < wdE B n p → isA B n (p + i) 97 122 := wd_all (f := n - p + 1) (by omega)
  have hg : ∀ i, i < b.length → 1 ≤ b.getD i 0 - 96 ∧ b.getD i 0 - 96 ≤ 26 := fun i hi => by have := hb.2 i hi; omega
  have hf : ∀ i, i < wdE B n p - p → 1 ≤ B (p + i) - 96 ∧ B (p + i) - 96 ≤ 26 := fun i hi => by have := hall i (by omega); have h1 := this.2.1; have h2 := this.2.2; omega
  unfold woR
  constructor
  · intro q
    split at q
    · have := (cdW_nn hg).1; omega
    · obtain ⟨i1, i2⟩ := cdW_inj hf hg q
      exact ⟨by omega, fun j hj => by have := i2 j (by omega); omega⟩
  · rintro ⟨q1, q2⟩
    have e2 : wdE B n p - p = b.length := by omega
    rw [if_neg (by omega), e2]
    exact cdW_congr (fun i hi => by rw [q2 i hi])
theorem dX12_wordHere_0 : decode cX12_wordHere 0 = .ok (.aload_n 0, 1) := by decide +kernel
theorem dX12_wordHere_1 : decode cX12_wordHere 1 = .ok (.invokevirtual 174, 3) := by decide +kernel
theorem dX12_wordHere_4 : decode cX12_wordHere 4 = .ok (.iconst 0, 1) := by decide +kernel
theorem dX12_wordHere_5 : decode cX12_wordHere 5 = .ok (.istore_n 1, 1) := by decide +kernel
theorem dX12_wordHere_6 : decode cX12_wordHere 6 = .ok (.iconst 0, 1) := by decide +kernel
theorem dX12_wordHere_7 : decode cX12_wordHere 7 = .ok (.istore_n 2, 1) := by decide +kernel
theorem dX12_wordHere_8 : decode cX12_wordHere 8 = .ok (.aload_n 0, 1) := by decide +kernel
theorem dX12_wordHere_9 : decode cX12_wordHere 9 = .ok (.aload_n 0, 1) := by decide +kernel
theorem dX12_wordHere_10 : decode cX12_wordHere 10 = .ok (.getfield 161, 3) := by decide +kernel
theorem dX12_wordHere_13 : decode cX12_wordHere 13 = .ok (.iload_n 2, 1) := by decide +kernel
theorem dX12_wordHere_14 : decode cX12_wordHere 14 = .ok (.iadd, 1) := by decide +kernel
theorem dX12_wordHere_15 : decode cX12_wordHere 15 = .ok (.invokevirtual 164, 3) := by decide +kernel
theorem dX12_wordHere_18 : decode cX12_wordHere 18 = .ok (.invokestatic 190, 3) := by decide +kernel
theorem dX12_wordHere_21 : decode cX12_wordHere 21 = .ok (.ifCond .eq 40, 3) := by decide +kernel
theorem dX12_wordHere_24 : decode cX12_wordHere 24 = .ok (.iload_n 2, 1) := by decide +kernel
theorem dX12_wordHere_25 : decode cX12_wordHere 25 = .ok (.bipush 6, 2) := by decide +kernel
theorem dX12_wordHere_27 : decode cX12_wordHere 27 = .ok (.if_icmp .ge 26, 3) := by decide +kernel
theorem dX12_wordHere_30 : decode cX12_wordHere 30 = .ok (.bipush 27, 2) := by decide +kernel
theorem dX12_wordHere_32 : decode cX12_wordHere 32 = .ok (.iload_n 1, 1) := by decide +kernel
theorem dX12_wordHere_33 : decode cX12_wordHere 33 = .ok (.imul, 1) := by decide +kernel
theorem dX12_wordHere_34 : decode cX12_wordHere 34 = .ok (.aload_n 0, 1) := by decide +kernel
theorem dX12_wordHere_35 : decode cX12_wordHere 35 = .ok (.aload_n 0, 1) := by decide +kernel
theorem dX12_wordHere_36 : decode cX12_wordHere 36 = .ok (.getfield 161, 3) := by decide +kernel
theorem dX12_wordHere_39 : decode cX12_wordHere 39 = .ok (.iload_n 2, 1) := by decide +kernel
theorem dX12_wordHere_40 : decode cX12_wordHere 40 = .ok (.iadd, 1) := by decide +kernel
theorem dX12_wordHere_41 : decode cX12_wordHere 41 = .ok (.invokevirtual 164, 3) := by decide +kernel
theorem dX12_wordHere_44 : decode cX12_wordHere 44 = .ok (.iadd, 1) := by decide +kernel
theorem dX12_wordHere_45 : decode cX12_wordHere 45 = .ok (.bipush 97, 2) := by decide +kernel
theorem dX12_wordHere_47 : decode cX12_wordHere 47 = .ok (.isub, 1) := by decide +kernel
theorem dX12_wordHere_48 : decode cX12_wordHere 48 = .ok (.iconst 1, 1) := by decide +kernel
theorem dX12_wordHere_49 : decode cX12_wordHere 49 = .ok (.iadd, 1) := by decide +kernel
theorem dX12_wordHere_50 : decode cX12_wordHere 50 = .ok (.goto 4, 3) := by decide +kernel
theorem dX12_wordHere_53 : decode cX12_wordHere 53 = .ok (.iload_n 1, 1) := by decide +kernel
theorem dX12_wordHere_54 : decode cX12_wordHere 54 = .ok (.istore_n 1, 1) := by decide +kernel
theorem dX12_wordHere_55 : decode cX12_wordHere 55 = .ok (.iinc 2 1, 3) := by decide +kernel
theorem dX12_wordHere_58 : decode cX12_wordHere 58 = .ok (.goto (-50), 3) := by decide +kernel
theorem dX12_wordHere_61 : decode cX12_wordHere 61 = .ok (.iload_n 2, 1) := by decide +kernel
theorem dX12_wordHere_62 : decode cX12_wordHere 62 = .ok (.bipush 6, 2) := by decide +kernel
theorem dX12_wordHere_64 : decode cX12_wordHere 64 = .ok (.if_icmp .le 7, 3) := by decide +kernel
theorem dX12_wordHere_67 : decode cX12_wordHere 67 = .ok (.iconst (-1), 1) := by decide +kernel
theorem dX12_wordHere_68 : decode cX12_wordHere 68 = .ok (.goto 4, 3) := by decide +kernel
theorem dX12_wordHere_71 : decode cX12_wordHere 71 = .ok (.iload_n 1, 1) := by decide +kernel
theorem dX12_wordHere_72 : decode cX12_wordHere 72 = .ok (.ireturn, 1) := by decide +kernel
theorem ct_X12_wordHere {g : Gw} (hG : GF g) {z : Bool} (E : Mm) (B : Nat → Int) (n a : Nat) (hA_E : RTa E B n a) : CT g yX12_wordHere cX12_wordHere 3 (some .int) 2 41 0 0 K2 z [mR 125] (ov E) K2 z (fun r D' => r = some (mI (woR B n (sk B n a))) ∧ ∃ E1, D' = ov E1 ∧ RTa E1 B n (sk B n a) ∧ RTf E E1 ∧ E1 125 5 = E 125 5 ∧ E1 125 6 = E 125 6) := by
  refine CT.mk hG (by decide +kernel) (Nat.le_of_ble_eq_true rfl) (fun κ X Rt _ ok => ?_)
  refine at_aload_n 1 X rfl rfl dX12_wordHere_0 rfl ?_
  refine at_callV 4 X _ 12 (c12_blanks hG E B n a hA_E) clX12 rfl k_125 mo_X12_blanks w_1968 vo_X12_blanks.1 vo_X12_blanks.2 rfl rfl (crm Rt (by decide)) (Nat.le_of_ble_eq_true rfl) dX12_wordHere_1 rfl ?_
  rintro _ _ ⟨rfl, F1, rfl, hA_F1, hf_F1, h5_F1, h6_F1⟩
  have hn600 := hA_F1.1
  refine at_iconst 5 X (by decide) dX12_wordHere_4 rfl ?_
  refine at_istore_n 6 X rfl dX12_wordHere_5 rfl (by decide) ?_
  refine at_iconst 7 X (by decide) dX12_wordHere_6 rfl ?_
  refine at_istore_n 8 X rfl dX12_wordHere_7 rfl (by decide) ?_
  have J8 : ∀ (f8 : Nat) (m : Nat) (v : Int), n + 1 - (sk B n a + m) < f8 → (sk B n a + m ≤ n) → (∀ i, i < m → isA B n (sk B n a + i) 97 122) → (m ≤ 6 → v = cdW (fun i => B (sk B n a + i) - 96) m) → (0 ≤ v ∧ v < 387420489) → AT g κ K2 z 0 0 8 [(0, mR 125), (1, mI v), (2, mI ((m : Nat) : Int))] [] (ov F1) := by
    intro f8
    induction f8 with
    | zero => intro m v hf8; omega
    | succ f8 ih8 =>
    intro m v hf8 hm hL hv hv0
    refine at_aload_n 9 X rfl rfl dX12_wordHere_8 rfl ?_
    refine at_aload_n 10 X rfl rfl dX12_wordHere_9 rfl ?_
    refine m_getIV 13 X ((sk B n a : Nat) : Int) hA_F1.2.2.2.2 f_X12_161 k_125 rn_125_4 dX12_wordHere_10 rfl ?_
    have := hA_F1.1.2
    refine at_iload_n 14 X rfl rfl dX12_wordHere_13 rfl ?_
    refine at_iaddV 15 X ((sk B n a + m : Nat) : Int) (w32_v (by omega) (by omega) (by omega)) dX12_wordHere_14 rfl ?_
    refine at_callV 18 X _ 12 (c12_byteAt hG F1 B n (sk B n a) hA_F1 (sk B n a + m)) clX12 rfl k_125 mo_X12_byteAt w_1972 vo_X12_byteAt.1 vo_X12_byteAt.2 rfl rfl (crm Rt (by decide)) (Nat.le_of_ble_eq_true rfl) dX12_wordHere_15 rfl ?_
    rintro _ _ ⟨rfl, rfl⟩
    refine at_callS 21 X (ct_X12_isSmall hG F1 (bAt B n (sk B n a + m))) mo_X12_isSmall w_1992 so_X12_isSmall rfl rfl (crm Rt (by decide)) (Nat.le_of_ble_eq_true rfl) dX12_wordHere_18 rfl ?_
    rintro _ _ ⟨rfl, rfl⟩
    refine at_if_eq 24 61 X dX12_wordHere_21 rfl (by decide) (fun h21 => ?_) (fun h21 => ?_)
    · have h21 : ¬ (97 ≤ (bAt B n (sk B n a + m)) ∧ (bAt B n (sk B n a + m)) ≤ 122) := ite_no.mp h21
      have hdg : ¬ isA B n (sk B n a + m) 97 122 := fun q => h21 ((bAt_in (by decide)).mpr q)
      have hend : wdE B n (sk B n a) = sk B n a + m := wd_ends hL hdg
      have hend2 : wdE B n (sk B n a) - (sk B n a) = m := by omega
      refine at_iload_n 62 X rfl rfl dX12_wordHere_61 rfl ?_
      refine at_bipush 64 X (by decide) (by decide) dX12_wordHere_62 rfl ?_
      refine at_icmp_le 67 71 X dX12_wordHere_64 rfl (by decide) (fun h64 => ?_) (fun h64 => ?_)
      · refine at_iload_n 72 X rfl rfl dX12_wordHere_71 rfl ?_
        refine at_iret X Rt ?_ (Nat.le_refl _) (Nat.le_refl _) dX12_wordHere_72
        exact ⟨by unfold woR; rw [hend2]; first | (rw [if_pos (by omega)]; done) | (rw [if_neg (by omega), hv (by omega)]; done), F1, rfl, hA_F1, hf_F1, h5_F1, h6_F1⟩
      · refine at_iconst 68 X (by decide) dX12_wordHere_67 rfl ?_
        refine at_goto 72 X dX12_wordHere_68 (by decide) ?_
        refine at_iret X Rt ?_ (Nat.le_refl _) (Nat.le_refl _) dX12_wordHere_72
        exact ⟨by unfold woR; rw [hend2]; first | (rw [if_pos (by omega)]; done) | (rw [if_neg (by omega), hv (by omega)]; done), F1, rfl, hA_F1, hf_F1, h5_F1, h6_F1⟩
    · have h21 : (97 ≤ (bAt B n (sk B n a + m)) ∧ (bAt B n (sk B n a + m)) ≤ 122) := ite_yes.mp h21
      have hdg : isA B n (sk B n a + m) 97 122 := (bAt_in (by decide)).mp h21
      have hdx := hdg.1
      have hbx : bAt B n (sk B n a + m) = B (sk B n a + m) := if_neg (by omega)
      have hvl : m ≤ 5 → v < 14348907 := fun h5 => by
        have := (cdW_le (f := fun i => B (sk B n a + i) - 96) (n := m) (m := 5) (fun i hi => by have := hL i hi; have h1 := this.2.1; have h2 := this.2.2; omega) h5).2
        rw [← hv (by omega)] at this
        have e : ((27 ^ 5 : Nat) : Int) = 14348907 := by decide
        omega
      refine at_iload_n 25 X rfl rfl dX12_wordHere_24 rfl ?_
      refine at_bipush 27 X (by decide) (by decide) dX12_wordHere_25 rfl ?_
      refine at_icmp_ge 30 53 X dX12_wordHere_27 rfl (by decide) (fun h27 => ?_) (fun h27 => ?_)
      · refine at_iload_n 54 X rfl rfl dX12_wordHere_53 rfl ?_
        refine at_istore_n 55 X rfl dX12_wordHere_54 rfl (by decide) ?_
        refine at_iincV 58 X ((m + 1 : Nat) : Int) (w32_v (by omega) (by omega) (by omega)) rfl dX12_wordHere_55 rfl (by decide) ?_
        refine at_goto 8 X dX12_wordHere_58 (by decide) ?_
        exact at_sub _ (by exact ⟨rfl, rfl, rfl, trivial⟩) (ih8 (m + 1) v (by first | omega | (simp only [] at *; omega)) (by omega) (fun i hi => if c : i = m then by rw [c]; exact hdg else hL i (by omega)) (fun h6 => by first | omega | (rw [cdW_s, ← hv (by omega), ← hbx]; show _ = 27 * v + (bAt B n (sk B n a + m) - 96); omega)) (by omega))
      · have hvl := hvl (by omega)
        refine at_bipush 32 X (by decide) (by decide) dX12_wordHere_30 rfl ?_
        refine at_iload_n 33 X rfl rfl dX12_wordHere_32 rfl ?_
        refine at_imulV 34 X (27 * v) (w32_v rfl (by omega) (by omega)) dX12_wordHere_33 rfl ?_
        refine at_aload_n 35 X rfl rfl dX12_wordHere_34 rfl ?_
        refine at_aload_n 36 X rfl rfl dX12_wordHere_35 rfl ?_
        refine m_getIV 39 X ((sk B n a : Nat) : Int) hA_F1.2.2.2.2 f_X12_161 k_125 rn_125_4 dX12_wordHere_36 rfl ?_
        have := hA_F1.1.2
        refine at_iload_n 40 X rfl rfl dX12_wordHere_39 rfl ?_
        refine at_iaddV 41 X ((sk B n a + m : Nat) : Int) (w32_v (by omega) (by omega) (by omega)) dX12_wordHere_40 rfl ?_
        refine at_callV 44 X _ 12 (c12_byteAt hG F1 B n (sk B n a) hA_F1 (sk B n a + m)) clX12 rfl k_125 mo_X12_byteAt w_1972 vo_X12_byteAt.1 vo_X12_byteAt.2 rfl rfl (crm Rt (by decide)) (Nat.le_of_ble_eq_true rfl) dX12_wordHere_41 rfl ?_
        rintro _ _ ⟨rfl, rfl⟩
        refine at_iaddV 45 X (27 * v + bAt B n (sk B n a + m)) (w32_v rfl (by omega) (by omega)) dX12_wordHere_44 rfl ?_
        refine at_bipush 47 X (by decide) (by decide) dX12_wordHere_45 rfl ?_
        refine at_isubV 48 X (27 * v + bAt B n (sk B n a + m) - 97) (w32_v rfl (by omega) (by omega)) dX12_wordHere_47 rfl ?_
        refine at_iconst 49 X (by decide) dX12_wordHere_48 rfl ?_
        refine at_iaddV 50 X (27 * v + bAt B n (sk B n a + m) - 97 + 1) (w32_v rfl (by omega) (by omega)) dX12_wordHere_49 rfl ?_
        refine at_goto 54 X dX12_wordHere_50 (by decide) ?_
        refine at_istore_n 55 X rfl dX12_wordHere_54 rfl (by decide) ?_
        refine at_iincV 58 X ((m + 1 : Nat) : Int) (w32_v (by omega) (by omega) (by omega)) rfl dX12_wordHere_55 rfl (by decide) ?_
        refine at_goto 8 X dX12_wordHere_58 (by decide) ?_
        exact at_sub _ (by exact ⟨rfl, rfl, rfl, trivial⟩) (ih8 (m + 1) (27 * v + bAt B n (sk B n a + m) - 97 + 1) (by first | omega | (simp only [] at *; omega)) (by omega) (fun i hi => if c : i = m then by rw [c]; exact hdg else hL i (by omega)) (fun h6 => by first | omega | (rw [cdW_s, ← hv (by omega), ← hbx]; show _ = 27 * v + (bAt B n (sk B n a + m) - 96); omega)) (by omega))
  exact at_sub _ (by exact ⟨rfl, rfl, rfl, trivial⟩) (J8 _ 0 0 (Nat.lt_succ_self _) (by omega) (fun i hi => absurd hi (Nat.not_lt_zero i)) (fun _ => rfl) (by first | omega | assumption | rfl))
theorem dX12_six_0 : decode cX12_six 0 = .ok (.bipush 27, 2) := by decide +kernel
theorem dX12_six_2 : decode cX12_six 2 = .ok (.bipush 27, 2) := by decide +kernel
theorem dX12_six_4 : decode cX12_six 4 = .ok (.iload_n 0, 1) := by decide +kernel
theorem dX12_six_5 : decode cX12_six 5 = .ok (.imul, 1) := by decide +kernel
theorem dX12_six_6 : decode cX12_six 6 = .ok (.iload_n 1, 1) := by decide +kernel
theorem dX12_six_7 : decode cX12_six 7 = .ok (.iadd, 1) := by decide +kernel
theorem dX12_six_8 : decode cX12_six 8 = .ok (.imul, 1) := by decide +kernel
theorem dX12_six_9 : decode cX12_six 9 = .ok (.iload_n 2, 1) := by decide +kernel
theorem dX12_six_10 : decode cX12_six 10 = .ok (.iadd, 1) := by decide +kernel
theorem dX12_six_11 : decode cX12_six 11 = .ok (.istore 6, 2) := by decide +kernel
theorem dX12_six_13 : decode cX12_six 13 = .ok (.iload_n 3, 1) := by decide +kernel
theorem dX12_six_14 : decode cX12_six 14 = .ok (.ifCond .ne 8, 3) := by decide +kernel
theorem dX12_six_17 : decode cX12_six 17 = .ok (.iload 6, 2) := by decide +kernel
theorem dX12_six_19 : decode cX12_six 19 = .ok (.goto 10, 3) := by decide +kernel
theorem dX12_six_22 : decode cX12_six 22 = .ok (.bipush 27, 2) := by decide +kernel
theorem dX12_six_24 : decode cX12_six 24 = .ok (.iload 6, 2) := by decide +kernel
theorem dX12_six_26 : decode cX12_six 26 = .ok (.imul, 1) := by decide +kernel
theorem dX12_six_27 : decode cX12_six 27 = .ok (.iload_n 3, 1) := by decide +kernel
theorem dX12_six_28 : decode cX12_six 28 = .ok (.iadd, 1) := by decide +kernel
theorem dX12_six_29 : decode cX12_six 29 = .ok (.istore 6, 2) := by decide +kernel
theorem dX12_six_31 : decode cX12_six 31 = .ok (.iload 4, 2) := by decide +kernel
theorem dX12_six_33 : decode cX12_six 33 = .ok (.ifCond .ne 8, 3) := by decide +kernel
theorem dX12_six_36 : decode cX12_six 36 = .ok (.iload 6, 2) := by decide +kernel
theorem dX12_six_38 : decode cX12_six 38 = .ok (.goto 11, 3) := by decide +kernel
theorem dX12_six_41 : decode cX12_six 41 = .ok (.bipush 27, 2) := by decide +kernel
theorem dX12_six_43 : decode cX12_six 43 = .ok (.iload 6, 2) := by decide +kernel
theorem dX12_six_45 : decode cX12_six 45 = .ok (.imul, 1) := by decide +kernel
theorem dX12_six_46 : decode cX12_six 46 = .ok (.iload 4, 2) := by decide +kernel
theorem dX12_six_48 : decode cX12_six 48 = .ok (.iadd, 1) := by decide +kernel
theorem dX12_six_49 : decode cX12_six 49 = .ok (.istore 6, 2) := by decide +kernel
theorem dX12_six_51 : decode cX12_six 51 = .ok (.iload 5, 2) := by decide +kernel
theorem dX12_six_53 : decode cX12_six 53 = .ok (.ifCond .ne 8, 3) := by decide +kernel
theorem dX12_six_56 : decode cX12_six 56 = .ok (.iload 6, 2) := by decide +kernel
theorem dX12_six_58 : decode cX12_six 58 = .ok (.goto 11, 3) := by decide +kernel
theorem dX12_six_61 : decode cX12_six 61 = .ok (.bipush 27, 2) := by decide +kernel
theorem dX12_six_63 : decode cX12_six 63 = .ok (.iload 6, 2) := by decide +kernel
theorem dX12_six_65 : decode cX12_six 65 = .ok (.imul, 1) := by decide +kernel
theorem dX12_six_66 : decode cX12_six 66 = .ok (.iload 5, 2) := by decide +kernel
theorem dX12_six_68 : decode cX12_six 68 = .ok (.iadd, 1) := by decide +kernel
theorem dX12_six_69 : decode cX12_six 69 = .ok (.ireturn, 1) := by decide +kernel
theorem ct_X12_six {g : Gw} (hG : GF g) {z : Bool} (E : Mm) (a b c d e f : Int) (ha : 0 ≤ a ∧ a ≤ 26) (hb : 0 ≤ b ∧ b ≤ 26) (hc : 0 ≤ c ∧ c ≤ 26) (hd : 0 ≤ d ∧ d ≤ 26) (he : 0 ≤ e ∧ e ≤ 26) (hf : 0 ≤ f ∧ f ≤ 26) : CT g yX12_six cX12_six 7 (some .int) 0 0 0 0 K2 z [mI a, mI b, mI c, mI d, mI e, mI f] (ov E) K2 z (fun r' D' => r' = some (mI (sixV a b c d e f)) ∧ D' = ov E) := by
  refine CT.mk hG (by decide +kernel) (Nat.le_of_ble_eq_true rfl) (fun κ X Rt _ ok => ?_)
  refine at_bipush 2 X (by decide) (by decide) dX12_six_0 rfl ?_
  refine at_bipush 4 X (by decide) (by decide) dX12_six_2 rfl ?_
  refine at_iload_n 5 X rfl rfl dX12_six_4 rfl ?_
  refine at_imulV 6 X (27 * a) (w32_v rfl (by omega) (by omega)) dX12_six_5 rfl ?_
  refine at_iload_n 7 X rfl rfl dX12_six_6 rfl ?_
  refine at_iaddV 8 X ((27 * a) + b) (w32_v rfl (by omega) (by omega)) dX12_six_7 rfl ?_
  refine at_imulV 9 X (27 * ((27 * a) + b)) (w32_v rfl (by omega) (by omega)) dX12_six_8 rfl ?_
  refine at_iload_n 10 X rfl rfl dX12_six_9 rfl ?_
  refine at_iaddV 11 X ((27 * ((27 * a) + b)) + c) (w32_v rfl (by omega) (by omega)) dX12_six_10 rfl ?_
  refine at_istore 13 X dX12_six_11 rfl (by decide) ?_
  refine at_iload_n 14 X rfl rfl dX12_six_13 rfl ?_
  refine at_if_ne 17 22 X dX12_six_14 rfl (by decide) (fun h14 => ?_) (fun h14 => ?_)
  · refine at_bipush 24 X (by decide) (by decide) dX12_six_22 rfl ?_
    refine at_iload 26 X rfl dX12_six_24 rfl ?_
    refine at_imulV 27 X (27 * ((27 * ((27 * a) + b)) + c)) (w32_v rfl (by omega) (by omega)) dX12_six_26 rfl ?_
    refine at_iload_n 28 X rfl rfl dX12_six_27 rfl ?_
    refine at_iaddV 29 X ((27 * ((27 * ((27 * a) + b)) + c)) + d) (w32_v rfl (by omega) (by omega)) dX12_six_28 rfl ?_
    refine at_istore 31 X dX12_six_29 rfl (by decide) ?_
    refine at_iload 33 X rfl dX12_six_31 rfl ?_
    refine at_if_ne 36 41 X dX12_six_33 rfl (by decide) (fun h33 => ?_) (fun h33 => ?_)
    · refine at_bipush 43 X (by decide) (by decide) dX12_six_41 rfl ?_
      refine at_iload 45 X rfl dX12_six_43 rfl ?_
      refine at_imulV 46 X (27 * ((27 * ((27 * ((27 * a) + b)) + c)) + d)) (w32_v rfl (by omega) (by omega)) dX12_six_45 rfl ?_
      refine at_iload 48 X rfl dX12_six_46 rfl ?_
      refine at_iaddV 49 X ((27 * ((27 * ((27 * ((27 * a) + b)) + c)) + d)) + e) (w32_v rfl (by omega) (by omega)) dX12_six_48 rfl ?_
      refine at_istore 51 X dX12_six_49 rfl (by decide) ?_
      refine at_iload 53 X rfl dX12_six_51 rfl ?_
      refine at_if_ne 56 61 X dX12_six_53 rfl (by decide) (fun h53 => ?_) (fun h53 => ?_)
      · refine at_bipush 63 X (by decide) (by decide) dX12_six_61 rfl ?_
        refine at_iload 65 X rfl dX12_six_63 rfl ?_
        refine at_imulV 66 X (27 * ((27 * ((27 * ((27 * ((27 * a) + b)) + c)) + d)) + e)) (w32_v rfl (by omega) (by omega)) dX12_six_65 rfl ?_
        refine at_iload 68 X rfl dX12_six_66 rfl ?_
        refine at_iaddV 69 X ((27 * ((27 * ((27 * ((27 * ((27 * a) + b)) + c)) + d)) + e)) + f) (w32_v rfl (by omega) (by omega)) dX12_six_68 rfl ?_
        refine at_iret X Rt ?_ (Nat.le_refl _) (Nat.le_refl _) dX12_six_69
        refine ⟨?_, rfl⟩
        unfold sixV sixA
        first | rw [if_pos h14] | rw [if_neg h14]
        first | rw [if_pos h33] | rw [if_neg h33]
        first | rw [if_pos h53] | rw [if_neg h53]
      · refine at_iload 58 X rfl dX12_six_56 rfl ?_
        refine at_goto 69 X dX12_six_58 (by decide) ?_
        refine at_iret X Rt ?_ (Nat.le_refl _) (Nat.le_refl _) dX12_six_69
        refine ⟨?_, rfl⟩
        unfold sixV sixA
        first | rw [if_pos h14] | rw [if_neg h14]
        first | rw [if_pos h33] | rw [if_neg h33]
        first | rw [if_pos h53] | rw [if_neg h53]
    · refine at_iload 38 X rfl dX12_six_36 rfl ?_
      refine at_goto 49 X dX12_six_38 (by decide) ?_
      refine at_istore 51 X dX12_six_49 rfl (by decide) ?_
      refine at_iload 53 X rfl dX12_six_51 rfl ?_
      refine at_if_ne 56 61 X dX12_six_53 rfl (by decide) (fun h53 => ?_) (fun h53 => ?_)
      · refine at_bipush 63 X (by decide) (by decide) dX12_six_61 rfl ?_
        refine at_iload 65 X rfl dX12_six_63 rfl ?_
        refine at_imulV 66 X (27 * ((27 * ((27 * ((27 * a) + b)) + c)) + d)) (w32_v rfl (by omega) (by omega)) dX12_six_65 rfl ?_
        refine at_iload 68 X rfl dX12_six_66 rfl ?_
        refine at_iaddV 69 X ((27 * ((27 * ((27 * ((27 * a) + b)) + c)) + d)) + f) (w32_v rfl (by omega) (by omega)) dX12_six_68 rfl ?_
        refine at_iret X Rt ?_ (Nat.le_refl _) (Nat.le_refl _) dX12_six_69
        refine ⟨?_, rfl⟩
        unfold sixV sixA
        first | rw [if_pos h14] | rw [if_neg h14]
        first | rw [if_pos h33] | rw [if_neg h33]
        first | rw [if_pos h53] | rw [if_neg h53]
      · refine at_iload 58 X rfl dX12_six_56 rfl ?_
        refine at_goto 69 X dX12_six_58 (by decide) ?_
        refine at_iret X Rt ?_ (Nat.le_refl _) (Nat.le_refl _) dX12_six_69
        refine ⟨?_, rfl⟩
        unfold sixV sixA
        first | rw [if_pos h14] | rw [if_neg h14]
        first | rw [if_pos h33] | rw [if_neg h33]
        first | rw [if_pos h53] | rw [if_neg h53]
  · refine at_iload 19 X rfl dX12_six_17 rfl ?_
    refine at_goto 29 X dX12_six_19 (by decide) ?_
    refine at_istore 31 X dX12_six_29 rfl (by decide) ?_
    refine at_iload 33 X rfl dX12_six_31 rfl ?_
    refine at_if_ne 36 41 X dX12_six_33 rfl (by decide) (fun h33 => ?_) (fun h33 => ?_)
    · refine at_bipush 43 X (by decide) (by decide) dX12_six_41 rfl ?_
      refine at_iload 45 X rfl dX12_six_43 rfl ?_
      refine at_imulV 46 X (27 * ((27 * ((27 * a) + b)) + c)) (w32_v rfl (by omega) (by omega)) dX12_six_45 rfl ?_
      refine at_iload 48 X rfl dX12_six_46 rfl ?_
      refine at_iaddV 49 X ((27 * ((27 * ((27 * a) + b)) + c)) + e) (w32_v rfl (by omega) (by omega)) dX12_six_48 rfl ?_
      refine at_istore 51 X dX12_six_49 rfl (by decide) ?_
      refine at_iload 53 X rfl dX12_six_51 rfl ?_
      refine at_if_ne 56 61 X dX12_six_53 rfl (by decide) (fun h53 => ?_) (fun h53 => ?_)
      · refine at_bipush 63 X (by decide) (by decide) dX12_six_61 rfl ?_
        refine at_iload 65 X rfl dX12_six_63 rfl ?_
        refine at_imulV 66 X (27 * ((27 * ((27 * ((27 * a) + b)) + c)) + e)) (w32_v rfl (by omega) (by omega)) dX12_six_65 rfl ?_
        refine at_iload 68 X rfl dX12_six_66 rfl ?_
        refine at_iaddV 69 X ((27 * ((27 * ((27 * ((27 * a) + b)) + c)) + e)) + f) (w32_v rfl (by omega) (by omega)) dX12_six_68 rfl ?_
        refine at_iret X Rt ?_ (Nat.le_refl _) (Nat.le_refl _) dX12_six_69
        refine ⟨?_, rfl⟩
        unfold sixV sixA
        first | rw [if_pos h14] | rw [if_neg h14]
        first | rw [if_pos h33] | rw [if_neg h33]
        first | rw [if_pos h53] | rw [if_neg h53]
      · refine at_iload 58 X rfl dX12_six_56 rfl ?_
        refine at_goto 69 X dX12_six_58 (by decide) ?_
        refine at_iret X Rt ?_ (Nat.le_refl _) (Nat.le_refl _) dX12_six_69
        refine ⟨?_, rfl⟩
        unfold sixV sixA
        first | rw [if_pos h14] | rw [if_neg h14]
        first | rw [if_pos h33] | rw [if_neg h33]
        first | rw [if_pos h53] | rw [if_neg h53]
    · refine at_iload 38 X rfl dX12_six_36 rfl ?_
      refine at_goto 49 X dX12_six_38 (by decide) ?_
      refine at_istore 51 X dX12_six_49 rfl (by decide) ?_
      refine at_iload 53 X rfl dX12_six_51 rfl ?_
      refine at_if_ne 56 61 X dX12_six_53 rfl (by decide) (fun h53 => ?_) (fun h53 => ?_)
      · refine at_bipush 63 X (by decide) (by decide) dX12_six_61 rfl ?_
        refine at_iload 65 X rfl dX12_six_63 rfl ?_
        refine at_imulV 66 X (27 * ((27 * ((27 * a) + b)) + c)) (w32_v rfl (by omega) (by omega)) dX12_six_65 rfl ?_
        refine at_iload 68 X rfl dX12_six_66 rfl ?_
        refine at_iaddV 69 X ((27 * ((27 * ((27 * a) + b)) + c)) + f) (w32_v rfl (by omega) (by omega)) dX12_six_68 rfl ?_
        refine at_iret X Rt ?_ (Nat.le_refl _) (Nat.le_refl _) dX12_six_69
        refine ⟨?_, rfl⟩
        unfold sixV sixA
        first | rw [if_pos h14] | rw [if_neg h14]
        first | rw [if_pos h33] | rw [if_neg h33]
        first | rw [if_pos h53] | rw [if_neg h53]
      · refine at_iload 58 X rfl dX12_six_56 rfl ?_
        refine at_goto 69 X dX12_six_58 (by decide) ?_
        refine at_iret X Rt ?_ (Nat.le_refl _) (Nat.le_refl _) dX12_six_69
        refine ⟨?_, rfl⟩
        unfold sixV sixA
        first | rw [if_pos h14] | rw [if_neg h14]
        first | rw [if_pos h33] | rw [if_neg h33]
        first | rw [if_pos h53] | rw [if_neg h53]
theorem dX12_isWord_0 : decode cX12_isWord 0 = .ok (.aload_n 0, 1) := by decide +kernel
theorem dX12_isWord_1 : decode cX12_isWord 1 = .ok (.getfield 168, 3) := by decide +kernel
theorem dX12_isWord_4 : decode cX12_isWord 4 = .ok (.ifCond .ne 26, 3) := by decide +kernel
theorem dX12_isWord_7 : decode cX12_isWord 7 = .ok (.aload_n 0, 1) := by decide +kernel
theorem dX12_isWord_8 : decode cX12_isWord 8 = .ok (.invokevirtual 193, 3) := by decide +kernel
theorem dX12_isWord_11 : decode cX12_isWord 11 = .ok (.iload_n 1, 1) := by decide +kernel
theorem dX12_isWord_12 : decode cX12_isWord 12 = .ok (.iload_n 2, 1) := by decide +kernel
theorem dX12_isWord_13 : decode cX12_isWord 13 = .ok (.iload_n 3, 1) := by decide +kernel
theorem dX12_isWord_14 : decode cX12_isWord 14 = .ok (.iload 4, 2) := by decide +kernel
theorem dX12_isWord_16 : decode cX12_isWord 16 = .ok (.iload 5, 2) := by decide +kernel
theorem dX12_isWord_18 : decode cX12_isWord 18 = .ok (.iload 6, 2) := by decide +kernel
theorem dX12_isWord_20 : decode cX12_isWord 20 = .ok (.invokestatic 197, 3) := by decide +kernel
theorem dX12_isWord_23 : decode cX12_isWord 23 = .ok (.if_icmp .ne 7, 3) := by decide +kernel
theorem dX12_isWord_26 : decode cX12_isWord 26 = .ok (.iconst 1, 1) := by decide +kernel
theorem dX12_isWord_27 : decode cX12_isWord 27 = .ok (.goto 4, 3) := by decide +kernel
theorem dX12_isWord_30 : decode cX12_isWord 30 = .ok (.iconst 0, 1) := by decide +kernel
theorem dX12_isWord_31 : decode cX12_isWord 31 = .ok (.ireturn, 1) := by decide +kernel
theorem ct_X12_isWord {g : Gw} (hG : GF g) {z : Bool} (E : Mm) (B : Nat → Int) (n : Nat) (t : TS) (ht : t.1 ≤ n) (hP : RTp E B n t) (x1 x2 x3 x4 x5 x6 : Int) (hx : (0 ≤ x1 ∧ x1 ≤ 26) ∧ (0 ≤ x2 ∧ x2 ≤ 26) ∧ (0 ≤ x3 ∧ x3 ≤ 26) ∧ (0 ≤ x4 ∧ x4 ≤ 26) ∧ (0 ≤ x5 ∧ x5 ≤ 26) ∧ (0 ≤ x6 ∧ x6 ≤ 26)) (b : List Int) (hb : b.length ≤ 6 ∧ ∀ j, j < b.length → 97 ≤ b.getD j 0 ∧ b.getD j 0 ≤ 122) (hsix : sixV x1 x2 x3 x4 x5 x6 = cdW (fun i => b.getD i 0 - 96) b.length) : CT g yX12_isWord cX12_isWord 7 (some .boolean) 3 63 0 0 K2 z [mR 125, mI x1, mI x2, mI x3, mI x4, mI x5, mI x6] (ov E) K2 z (fun r D' => r = some (mI (if t.2.2.1 = 0 ∧ wdB B (twT B n t) b = true then 1 else 0)) ∧ ∃ E1, D' = ov E1 ∧ RTp E1 B n t ∧ RTf E E1 ∧ (t.2.2.1 = 0 → E1 125 4 = ((sk B n t.1 : Nat) : Int))) := by
  refine CT.mk hG (by decide +kernel) (Nat.le_of_ble_eq_true rfl) (fun κ X Rt _ ok => ?_)
  obtain ⟨a, hA_E, h5, h6, hs⟩ := hP
  refine at_aload_n 1 X rfl rfl dX12_isWord_0 rfl ?_
  refine m_getIV 4 X t.2.2.1 h5 f_X12_168 k_125 rn_125_5 dX12_isWord_1 rfl ?_
  refine at_if_ne 7 30 X dX12_isWord_4 rfl (by decide) (fun h4 => ?_) (fun h4 => ?_)
  · refine at_iconst 31 X (by decide) dX12_isWord_30 rfl ?_
    refine at_zret X Rt ?_ (by first | decide | (split <;> decide)) (Nat.le_refl _) (Nat.le_refl _) dX12_isWord_31
    exact ⟨by rw [if_neg (fun q => h4 q.1)], E, rfl, ⟨a, hA_E, h5, h6, hs⟩, RTf.rf, fun q => absurd q h4⟩
  · refine at_aload_n 8 X rfl rfl dX12_isWord_7 rfl ?_
    refine at_callV 11 X _ 12 (ct_X12_wordHere hG E B n a hA_E) clX12 rfl k_125 mo_X12_wordHere w_1988 vo_X12_wordHere.1 vo_X12_wordHere.2 rfl rfl (crm Rt (by decide)) (Nat.le_of_ble_eq_true rfl) dX12_isWord_8 rfl ?_
    rintro _ _ ⟨rfl, F1, rfl, hA_F1, hf_F1, h5_F1, h6_F1⟩
    refine at_iload_n 12 X rfl rfl dX12_isWord_11 rfl ?_
    refine at_iload_n 13 X rfl rfl dX12_isWord_12 rfl ?_
    refine at_iload_n 14 X rfl rfl dX12_isWord_13 rfl ?_
    refine at_iload 16 X rfl dX12_isWord_14 rfl ?_
    refine at_iload 18 X rfl dX12_isWord_16 rfl ?_
    refine at_iload 20 X rfl dX12_isWord_18 rfl ?_
    refine at_callS 23 X (ct_X12_six hG F1 x1 x2 x3 x4 x5 x6 hx.1 hx.2.1 hx.2.2.1 hx.2.2.2.1 hx.2.2.2.2.1 hx.2.2.2.2.2) mo_X12_six w_1995 so_X12_six rfl rfl (crm Rt (by decide)) (Nat.le_of_ble_eq_true rfl) dX12_isWord_20 rfl ?_
    rintro _ _ ⟨rfl, rfl⟩
    refine at_icmp_ne 26 30 X dX12_isWord_23 rfl (by decide) (fun h23 => ?_) (fun h23 => ?_)
    · refine at_iconst 31 X (by decide) dX12_isWord_30 rfl ?_
      refine at_zret X Rt ?_ (by first | decide | (split <;> decide)) (Nat.le_refl _) (Nat.le_refl _) dX12_isWord_31
      have h0 : t.2.2.1 = 0 := h4
      have hst : sk B n a = sk B n t.1 := hs h0
      have hw := woR_iff (B := B) (n := n) (b := b) h0 ht hb
      rw [← hst, ← hsix] at hw
      exact ⟨by first | (rw [if_pos ⟨h0, hw.mp h23⟩]; done) | (rw [if_neg (fun q => h23 (hw.mpr q.2))]; done), F1, rfl, ⟨sk B n a, hA_F1, h5_F1.trans h5, h6_F1.trans h6, fun _ => by rw [sk_sk]; exact hst⟩, hf_F1, fun _ => by rw [← hst]; exact hA_F1.2.2.2.2⟩
    · refine at_iconst 27 X (by decide) dX12_isWord_26 rfl ?_
      refine at_goto 31 X dX12_isWord_27 (by decide) ?_
      refine at_zret X Rt ?_ (by first | decide | (split <;> decide)) (Nat.le_refl _) (Nat.le_refl _) dX12_isWord_31
      have h0 : t.2.2.1 = 0 := h4
      have hst : sk B n a = sk B n t.1 := hs h0
      have hw := woR_iff (B := B) (n := n) (b := b) h0 ht hb
      rw [← hst, ← hsix] at hw
      exact ⟨by first | (rw [if_pos ⟨h0, hw.mp h23⟩]; done) | (rw [if_neg (fun q => h23 (hw.mpr q.2))]; done), F1, rfl, ⟨sk B n a, hA_F1, h5_F1.trans h5, h6_F1.trans h6, fun _ => by rw [sk_sk]; exact hst⟩, hf_F1, fun _ => by rw [← hst]; exact hA_F1.2.2.2.2⟩
theorem dX12_skipWord_0 : decode cX12_skipWord 0 = .ok (.aload_n 0, 1) := by decide +kernel
theorem dX12_skipWord_1 : decode cX12_skipWord 1 = .ok (.aload_n 0, 1) := by decide +kernel
theorem dX12_skipWord_2 : decode cX12_skipWord 2 = .ok (.getfield 161, 3) := by decide +kernel
theorem dX12_skipWord_5 : decode cX12_skipWord 5 = .ok (.invokevirtual 164, 3) := by decide +kernel
theorem dX12_skipWord_8 : decode cX12_skipWord 8 = .ok (.invokestatic 190, 3) := by decide +kernel
theorem dX12_skipWord_11 : decode cX12_skipWord 11 = .ok (.ifCond .eq 16, 3) := by decide +kernel
theorem dX12_skipWord_14 : decode cX12_skipWord 14 = .ok (.aload_n 0, 1) := by decide +kernel
theorem dX12_skipWord_15 : decode cX12_skipWord 15 = .ok (.dup, 1) := by decide +kernel
theorem dX12_skipWord_16 : decode cX12_skipWord 16 = .ok (.getfield 161, 3) := by decide +kernel
theorem dX12_skipWord_19 : decode cX12_skipWord 19 = .ok (.iconst 1, 1) := by decide +kernel
theorem dX12_skipWord_20 : decode cX12_skipWord 20 = .ok (.iadd, 1) := by decide +kernel
theorem dX12_skipWord_21 : decode cX12_skipWord 21 = .ok (.putfield 161, 3) := by decide +kernel
theorem dX12_skipWord_24 : decode cX12_skipWord 24 = .ok (.goto (-24), 3) := by decide +kernel
theorem dX12_skipWord_27 : decode cX12_skipWord 27 = .ok (.return_, 1) := by decide +kernel
theorem ct_X12_skipWord {g : Gw} (hG : GF g) {z : Bool} (E : Mm) (B : Nat → Int) (n a : Nat) (hA_E : RTa E B n a) : CT g yX12_skipWord cX12_skipWord 1 none 1 21 0 0 K2 z [mR 125] (ov E) K2 z (fun r D' => r = none ∧ ∃ E1, D' = ov E1 ∧ RTa E1 B n (wdE B n a) ∧ RTf E E1 ∧ E1 125 5 = E 125 5 ∧ E1 125 6 = E 125 6) := by
  refine CT.mk hG (by decide +kernel) (Nat.le_of_ble_eq_true rfl) (fun κ X Rt _ ok => ?_)
  have J0 : ∀ (f0 : Nat) (F : Mm) (x : Nat), n - x < f0 → (RTa F B n x) → (RTf E F) → (F 125 5 = E 125 5 ∧ F 125 6 = E 125 6) → (wdE B n x = wdE B n a) → AT g κ K2 z 0 0 0 [(0, mR 125)] [] (ov F) := by
    intro f0
    induction f0 with
    | zero => intro F x hf0; omega
    | succ f0 ih0 =>
    intro F x hf0 hA_F hf_F h56 hR
    have hxn := hA_F.1
    refine at_aload_n 1 X rfl rfl dX12_skipWord_0 rfl ?_
    refine at_aload_n 2 X rfl rfl dX12_skipWord_1 rfl ?_
    refine m_getIV 5 X ((x : Nat) : Int) hA_F.2.2.2.2 f_X12_161 k_125 rn_125_4 dX12_skipWord_2 rfl ?_
    have := hA_F.1.2
    refine at_callV 8 X _ 12 (c12_byteAt hG F B n x hA_F x) clX12 rfl k_125 mo_X12_byteAt w_1972 vo_X12_byteAt.1 vo_X12_byteAt.2 rfl rfl (crm Rt (by decide)) (Nat.le_of_ble_eq_true rfl) dX12_skipWord_5 rfl ?_
    rintro _ _ ⟨rfl, rfl⟩
    refine at_callS 11 X (ct_X12_isSmall hG F (bAt B n x)) mo_X12_isSmall w_1992 so_X12_isSmall rfl rfl (crm Rt (by decide)) (Nat.le_of_ble_eq_true rfl) dX12_skipWord_8 rfl ?_
    rintro _ _ ⟨rfl, rfl⟩
    refine at_if_eq 14 27 X dX12_skipWord_11 rfl (by decide) (fun h11 => ?_) (fun h11 => ?_)
    · have h11 : ¬ (97 ≤ (bAt B n x) ∧ (bAt B n x) ≤ 122) := ite_no.mp h11
      have hdg : ¬ isA B n x 97 122 := fun q => h11 ((bAt_in (by decide)).mpr q)
      refine at_vret X Rt ?_ (Nat.le_refl _) (Nat.le_refl _) dX12_skipWord_27
      exact ⟨rfl, F, rfl, by rw [← hR, wd_n hdg]; exact hA_F, hf_F, h56⟩
    · have h11 : (97 ≤ (bAt B n x) ∧ (bAt B n x) ≤ 122) := ite_yes.mp h11
      have hdg : isA B n x 97 122 := (bAt_in (by decide)).mp h11
      have hdx := hdg.1
      refine at_aload_n 15 X rfl rfl dX12_skipWord_14 rfl ?_
      refine at_dup 16 X (show ¬ (2 : Nat) = 1 by decide) dX12_skipWord_15 rfl ?_
      refine m_getIV 19 X ((x : Nat) : Int) hA_F.2.2.2.2 f_X12_161 k_125 rn_125_4 dX12_skipWord_16 rfl ?_
      have := hA_F.1.2
      refine at_iconst 20 X (by decide) dX12_skipWord_19 rfl ?_
      refine at_iaddV 21 X ((x + 1 : Nat) : Int) (w32_v (by omega) (by omega) (by omega)) dX12_skipWord_20 rfl ?_
      refine m_putI 24 X f_X12_161 fw_12_4 k_125 rn_125_4 dX12_skipWord_21 rfl ?_
      refine at_goto 0 X dX12_skipWord_24 (by decide) ?_
      exact at_sub _ (by exact ⟨rfl, trivial⟩) (ih0 (wr F 125 4 ((x + 1 : Nat) : Int)) (x + 1) (by first | omega | (simp only [] at *; omega)) (hA_F.w4 (by omega)).1 (hf_F.tr (hA_F.w4 (by omega)).2) ⟨(wr_o (by omega)).trans h56.1, (wr_o (by omega)).trans h56.2⟩ (by rw [← hR]; exact (wd_y hdg).symm))
  exact at_sub _ (by exact ⟨rfl, trivial⟩) (J0 _ E a (Nat.lt_succ_self _) hA_E RTf.rf ⟨rfl, rfl⟩ rfl)
/-- behind a word that was seen -/
theorem c12_skip {g : Gw} (hG : GF g) {z : Bool} (E : Mm) (B : Nat → Int) (n : Nat) (t : TS) (ht : t.1 ≤ n) (hP : RTp E B n t) (h0 : t.2.2.1 = 0) (hat : E 125 4 = ((sk B n t.1 : Nat) : Int)) : CT g yX12_skipWord cX12_skipWord 1 none 1 21 0 0 K2 z [mR 125] (ov E) K2 z (fun r D' => r = none ∧ ∃ E1, D' = ov E1 ∧ RTp E1 B n (twT B n t) ∧ RTf E E1) := by
  obtain ⟨a, hA, h5, h6, hs⟩ := hP
  have ha : a = sk B n t.1 := by have := hA.2.2.2.2; omega
  subst ha
  have e : twT B n t = (wdE B n (sk B n t.1), sk B n t.1, t.2.2) := if_pos h0
  refine (ct_X12_skipWord hG (z := z) E B n _ hA).imp (fun r D' q => ?_)
  obtain ⟨q1, E1, q2, q3, q4, q5, q6⟩ := q
  exact ⟨q1, E1, q2, by rw [e]; exact ⟨_, q3, q5.trans h5, q6.trans h6, fun _ => rfl⟩, q4⟩
theorem dX12_takes_0 : decode cX12_takes 0 = .ok (.aload_n 0, 1) := by decide +kernel
theorem dX12_takes_1 : decode cX12_takes 1 = .ok (.iload_n 1, 1) := by decide +kernel
theorem dX12_takes_2 : decode cX12_takes 2 = .ok (.iload_n 2, 1) := by decide +kernel
theorem dX12_takes_3 : decode cX12_takes 3 = .ok (.iload_n 3, 1) := by decide +kernel
theorem dX12_takes_4 : decode cX12_takes 4 = .ok (.iload 4, 2) := by decide +kernel
theorem dX12_takes_6 : decode cX12_takes 6 = .ok (.iload 5, 2) := by decide +kernel
theorem dX12_takes_8 : decode cX12_takes 8 = .ok (.iload 6, 2) := by decide +kernel
theorem dX12_takes_10 : decode cX12_takes 10 = .ok (.invokevirtual 201, 3) := by decide +kernel
theorem dX12_takes_13 : decode cX12_takes 13 = .ok (.istore 7, 2) := by decide +kernel
theorem dX12_takes_15 : decode cX12_takes 15 = .ok (.iload 7, 2) := by decide +kernel
theorem dX12_takes_17 : decode cX12_takes 17 = .ok (.ifCond .eq 7, 3) := by decide +kernel
theorem dX12_takes_20 : decode cX12_takes 20 = .ok (.aload_n 0, 1) := by decide +kernel
theorem dX12_takes_21 : decode cX12_takes 21 = .ok (.invokevirtual 205, 3) := by decide +kernel
theorem dX12_takes_24 : decode cX12_takes 24 = .ok (.iload 7, 2) := by decide +kernel
theorem dX12_takes_26 : decode cX12_takes 26 = .ok (.ireturn, 1) := by decide +kernel
theorem ct_X12_takes {g : Gw} (hG : GF g) {z : Bool} (E : Mm) (B : Nat → Int) (n : Nat) (t : TS) (ht : t.1 ≤ n) (hP : RTp E B n t) (x1 x2 x3 x4 x5 x6 : Int) (hx : (0 ≤ x1 ∧ x1 ≤ 26) ∧ (0 ≤ x2 ∧ x2 ≤ 26) ∧ (0 ≤ x3 ∧ x3 ≤ 26) ∧ (0 ≤ x4 ∧ x4 ≤ 26) ∧ (0 ≤ x5 ∧ x5 ≤ 26) ∧ (0 ≤ x6 ∧ x6 ≤ 26)) (b : List Int) (hb : b.length ≤ 6 ∧ ∀ j, j < b.length → 97 ≤ b.getD j 0 ∧ b.getD j 0 ≤ 122) (hsix : sixV x1 x2 x3 x4 x5 x6 = cdW (fun i => b.getD i 0 - 96) b.length) : CT g yX12_takes cX12_takes 8 (some .boolean) 4 89 0 0 K2 z [mR 125, mI x1, mI x2, mI x3, mI x4, mI x5, mI x6] (ov E) K2 z (fun r D' => r = some (mI (if t.2.2.1 = 0 ∧ wdB B (twT B n t) b = true then 1 else 0)) ∧ ∃ E1, D' = ov E1 ∧ ((t.2.2.1 = 0 ∧ wdB B (twT B n t) b = true) → RTp E1 B n (twT B n t)) ∧ (¬ (t.2.2.1 = 0 ∧ wdB B (twT B n t) b = true) → RTp E1 B n t ∧ (t.2.2.1 = 0 → E1 125 4 = ((sk B n t.1 : Nat) : Int))) ∧ RTf E E1) := by
  refine CT.mk hG (by decide +kernel) (Nat.le_of_ble_eq_true rfl) (fun κ X Rt _ ok => ?_)
  refine at_aload_n 1 X rfl rfl dX12_takes_0 rfl ?_
  refine at_iload_n 2 X rfl rfl dX12_takes_1 rfl ?_
  refine at_iload_n 3 X rfl rfl dX12_takes_2 rfl ?_
  refine at_iload_n 4 X rfl rfl dX12_takes_3 rfl ?_
  refine at_iload 6 X rfl dX12_takes_4 rfl ?_
  refine at_iload 8 X rfl dX12_takes_6 rfl ?_
  refine at_iload 10 X rfl dX12_takes_8 rfl ?_
  refine at_callV 13 X _ 12 (ct_X12_isWord hG E B n t ht hP x1 x2 x3 x4 x5 x6 hx b hb hsix) clX12 rfl k_125 mo_X12_isWord w_1984 vo_X12_isWord.1 vo_X12_isWord.2 rfl rfl (crm Rt (by decide)) (Nat.le_of_ble_eq_true rfl) dX12_takes_10 rfl ?_
  rintro _ _ ⟨rfl, F1, rfl, hP_F1, hf_F1, hat_F1⟩
  refine at_istore 15 X dX12_takes_13 rfl (by decide) ?_
  refine at_iload 17 X rfl dX12_takes_15 rfl ?_
  refine at_if_eq 20 24 X dX12_takes_17 rfl (by decide) (fun h17 => ?_) (fun h17 => ?_)
  · have h17 : ¬ (t.2.2.1 = 0 ∧ wdB B (twT B n t) b = true) := ite_no.mp h17
    refine at_iload 26 X rfl dX12_takes_24 rfl ?_
    refine at_zret X Rt ?_ (by first | decide | (split <;> decide)) (Nat.le_refl _) (Nat.le_refl _) dX12_takes_26
    exact ⟨rfl, F1, rfl, fun q => absurd q h17, fun _ => ⟨hP_F1, hat_F1⟩, hf_F1⟩
  · have h17 : (t.2.2.1 = 0 ∧ wdB B (twT B n t) b = true) := ite_yes.mp h17
    refine at_aload_n 21 X rfl rfl dX12_takes_20 rfl ?_
    refine at_callV 24 X _ 12 (c12_skip hG F1 B n t ht hP_F1 h17.1 (hat_F1 h17.1)) clX12 rfl k_125 mo_X12_skipWord w_2006 vo_X12_skipWord.1 vo_X12_skipWord.2 rfl rfl (crm Rt (by decide)) (Nat.le_of_ble_eq_true rfl) dX12_takes_21 rfl ?_
    rintro _ _ ⟨rfl, F2, rfl, hP_F2, hf_F2⟩
    refine at_iload 26 X rfl dX12_takes_24 rfl ?_
    refine at_zret X Rt ?_ (by first | decide | (split <;> decide)) (Nat.le_refl _) (Nat.le_refl _) dX12_takes_26
    exact ⟨rfl, F2, rfl, fun _ => hP_F2, fun q => absurd h17 q, hf_F1.tr hf_F2⟩
theorem dX12_sign_0 : decode cX12_sign 0 = .ok (.aload_n 0, 1) := by decide +kernel
theorem dX12_sign_1 : decode cX12_sign 1 = .ok (.getfield 168, 3) := by decide +kernel
theorem dX12_sign_4 : decode cX12_sign 4 = .ok (.ifCond .eq 4, 3) := by decide +kernel
theorem dX12_sign_7 : decode cX12_sign 7 = .ok (.return_, 1) := by decide +kernel
theorem dX12_sign_8 : decode cX12_sign 8 = .ok (.aload_n 0, 1) := by decide +kernel
theorem dX12_sign_9 : decode cX12_sign 9 = .ok (.invokevirtual 174, 3) := by decide +kernel
theorem dX12_sign_12 : decode cX12_sign 12 = .ok (.aload_n 0, 1) := by decide +kernel
theorem dX12_sign_13 : decode cX12_sign 13 = .ok (.aload_n 0, 1) := by decide +kernel
theorem dX12_sign_14 : decode cX12_sign 14 = .ok (.getfield 161, 3) := by decide +kernel
theorem dX12_sign_17 : decode cX12_sign 17 = .ok (.invokevirtual 164, 3) := by decide +kernel
theorem dX12_sign_20 : decode cX12_sign 20 = .ok (.iload_n 1, 1) := by decide +kernel
theorem dX12_sign_21 : decode cX12_sign 21 = .ok (.if_icmp .ne 16, 3) := by decide +kernel
theorem dX12_sign_24 : decode cX12_sign 24 = .ok (.aload_n 0, 1) := by decide +kernel
theorem dX12_sign_25 : decode cX12_sign 25 = .ok (.dup, 1) := by decide +kernel
theorem dX12_sign_26 : decode cX12_sign 26 = .ok (.getfield 161, 3) := by decide +kernel
theorem dX12_sign_29 : decode cX12_sign 29 = .ok (.iconst 1, 1) := by decide +kernel
theorem dX12_sign_30 : decode cX12_sign 30 = .ok (.iadd, 1) := by decide +kernel
theorem dX12_sign_31 : decode cX12_sign 31 = .ok (.putfield 161, 3) := by decide +kernel
theorem dX12_sign_34 : decode cX12_sign 34 = .ok (.goto 12, 3) := by decide +kernel
theorem dX12_sign_37 : decode cX12_sign 37 = .ok (.aload_n 0, 1) := by decide +kernel
theorem dX12_sign_38 : decode cX12_sign 38 = .ok (.iconst 1, 1) := by decide +kernel
theorem dX12_sign_39 : decode cX12_sign 39 = .ok (.aload_n 0, 1) := by decide +kernel
theorem dX12_sign_40 : decode cX12_sign 40 = .ok (.getfield 161, 3) := by decide +kernel
theorem dX12_sign_43 : decode cX12_sign 43 = .ok (.invokevirtual 181, 3) := by decide +kernel
theorem dX12_sign_46 : decode cX12_sign 46 = .ok (.return_, 1) := by decide +kernel
theorem c12_sign {g : Gw} (hG : GF g) {z : Bool} (E : Mm) (B : Nat → Int) (n : Nat) (t : TS) (hP : RTp E B n t) (c : Int) (hc : 0 ≤ c ∧ c < 128) : CT g yX12_sign cX12_sign 2 none 2 41 0 0 K2 z [mR 125, mI c] (ov E) K2 z (fun r D' => r = none ∧ ∃ E1, D' = ov E1 ∧ RTp E1 B n (tsT B n t c) ∧ RTf E E1) := by
  refine CT.mk hG (by decide +kernel) (Nat.le_of_ble_eq_true rfl) (fun κ X Rt _ ok => ?_)
  obtain ⟨a, hA_E, h5, h6, hs⟩ := hP
  refine at_aload_n 1 X rfl rfl dX12_sign_0 rfl ?_
  refine m_getIV 4 X t.2.2.1 h5 f_X12_168 k_125 rn_125_5 dX12_sign_1 rfl ?_
  refine at_if_eq 7 8 X dX12_sign_4 rfl (by decide) (fun h4 => ?_) (fun h4 => ?_)
  · refine at_aload_n 9 X rfl rfl dX12_sign_8 rfl ?_
    refine at_callV 12 X _ 12 (c12_blanks hG E B n a hA_E) clX12 rfl k_125 mo_X12_blanks w_1968 vo_X12_blanks.1 vo_X12_blanks.2 rfl rfl (crm Rt (by decide)) (Nat.le_of_ble_eq_true rfl) dX12_sign_9 rfl ?_
    rintro _ _ ⟨rfl, F1, rfl, hA_F1, hf_F1, h5_F1, h6_F1⟩
    have hxn := hA_F1.1
    refine at_aload_n 13 X rfl rfl dX12_sign_12 rfl ?_
    refine at_aload_n 14 X rfl rfl dX12_sign_13 rfl ?_
    refine m_getIV 17 X ((sk B n a : Nat) : Int) hA_F1.2.2.2.2 f_X12_161 k_125 rn_125_4 dX12_sign_14 rfl ?_
    have := hA_F1.1.2
    refine at_callV 20 X _ 12 (c12_byteAt hG F1 B n (sk B n a) hA_F1 (sk B n a)) clX12 rfl k_125 mo_X12_byteAt w_1972 vo_X12_byteAt.1 vo_X12_byteAt.2 rfl rfl (crm Rt (by decide)) (Nat.le_of_ble_eq_true rfl) dX12_sign_17 rfl ?_
    rintro _ _ ⟨rfl, rfl⟩
    refine at_iload_n 21 X rfl rfl dX12_sign_20 rfl ?_
    refine at_icmp_ne 24 37 X dX12_sign_21 rfl (by decide) (fun h21 => ?_) (fun h21 => ?_)
    · refine at_aload_n 38 X rfl rfl dX12_sign_37 rfl ?_
      refine at_iconst 39 X (by decide) dX12_sign_38 rfl ?_
      refine at_aload_n 40 X rfl rfl dX12_sign_39 rfl ?_
      refine m_getIV 43 X ((sk B n a : Nat) : Int) hA_F1.2.2.2.2 f_X12_161 k_125 rn_125_4 dX12_sign_40 rfl ?_
      have := hA_F1.1.2
      refine at_callV 46 X _ 12 (c12_wrong hG F1 B n (sk B n a) hA_F1 1 ((sk B n a : Nat) : Int)) clX12 rfl k_125 mo_X12_wrong w_1998 vo_X12_wrong.1 vo_X12_wrong.2 rfl rfl (crm Rt (by decide)) (Nat.le_of_ble_eq_true rfl) dX12_sign_43 rfl ?_
      rintro _ _ ⟨rfl, F2, rfl, hA_F2, hf_F2, hy_F2, hn_F2⟩
      refine at_vret X Rt ?_ (Nat.le_refl _) (Nat.le_refl _) dX12_sign_46
      have h0 : t.2.2.1 = 0 := h4
      have hst : sk B n a = sk B n t.1 := hs h0
      have hy : ¬ isA B n (sk B n a) c c := fun q => h21 ((bAt_is hc.1).mpr q)
      have e : tsT B n t c = (sk B n a, sk B n a, 1, ((sk B n a : Nat) : Int)) := by
        unfold tsT skT
        rw [if_pos h0, ← hst, if_neg hy]
        exact if_pos h0
      have q5 := hy_F2 (h5_F1.trans (h5.trans h0))
      exact ⟨rfl, F2, rfl, by rw [e]; exact ⟨sk B n a, hA_F2, q5.1, q5.2, fun q => absurd q (by decide : ¬ (1 : Int) = 0)⟩, hf_F1.tr hf_F2⟩
    · refine at_aload_n 25 X rfl rfl dX12_sign_24 rfl ?_
      refine at_dup 26 X (show ¬ (2 : Nat) = 1 by decide) dX12_sign_25 rfl ?_
      refine m_getIV 29 X ((sk B n a : Nat) : Int) hA_F1.2.2.2.2 f_X12_161 k_125 rn_125_4 dX12_sign_26 rfl ?_
      have := hA_F1.1.2
      refine at_iconst 30 X (by decide) dX12_sign_29 rfl ?_
      refine at_iaddV 31 X ((sk B n a + 1 : Nat) : Int) (w32_v (by omega) (by omega) (by omega)) dX12_sign_30 rfl ?_
      refine m_putI 34 X f_X12_161 fw_12_4 k_125 rn_125_4 dX12_sign_31 rfl ?_
      refine at_goto 46 X dX12_sign_34 (by decide) ?_
      refine at_vret X Rt ?_ (Nat.le_refl _) (Nat.le_refl _) dX12_sign_46
      have h0 : t.2.2.1 = 0 := h4
      have hst : sk B n a = sk B n t.1 := hs h0
      have hy : isA B n (sk B n a) c c := (bAt_is hc.1).mp h21
      have e : tsT B n t c = (sk B n a + 1, sk B n a, t.2.2) := by
        unfold tsT
        rw [if_pos h0, ← hst, if_pos hy]
      have h1 := hy.1
      exact ⟨rfl, _, rfl, by rw [e]; exact ⟨sk B n a + 1, (hA_F1.w4 (by omega)).1, (wr_o (by omega)).trans (h5_F1.trans h5), (wr_o (by omega)).trans (h6_F1.trans h6), fun _ => rfl⟩, hf_F1.tr (hA_F1.w4 (by omega)).2⟩
  · refine at_vret X Rt ?_ (Nat.le_refl _) (Nat.le_refl _) dX12_sign_7
    exact ⟨rfl, E, rfl, by rw [ts_bad h4]; exact ⟨a, hA_E, h5, h6, hs⟩, RTf.rf⟩
theorem dX12_takesSign_0 : decode cX12_takesSign 0 = .ok (.aload_n 0, 1) := by decide +kernel
theorem dX12_takesSign_1 : decode cX12_takesSign 1 = .ok (.getfield 168, 3) := by decide +kernel
theorem dX12_takesSign_4 : decode cX12_takesSign 4 = .ok (.ifCond .eq 5, 3) := by decide +kernel
theorem dX12_takesSign_7 : decode cX12_takesSign 7 = .ok (.iconst 0, 1) := by decide +kernel
theorem dX12_takesSign_8 : decode cX12_takesSign 8 = .ok (.ireturn, 1) := by decide +kernel
theorem dX12_takesSign_9 : decode cX12_takesSign 9 = .ok (.aload_n 0, 1) := by decide +kernel
theorem dX12_takesSign_10 : decode cX12_takesSign 10 = .ok (.invokevirtual 174, 3) := by decide +kernel
theorem dX12_takesSign_13 : decode cX12_takesSign 13 = .ok (.aload_n 0, 1) := by decide +kernel
theorem dX12_takesSign_14 : decode cX12_takesSign 14 = .ok (.aload_n 0, 1) := by decide +kernel
theorem dX12_takesSign_15 : decode cX12_takesSign 15 = .ok (.getfield 161, 3) := by decide +kernel
theorem dX12_takesSign_18 : decode cX12_takesSign 18 = .ok (.invokevirtual 164, 3) := by decide +kernel
theorem dX12_takesSign_21 : decode cX12_takesSign 21 = .ok (.iload_n 1, 1) := by decide +kernel
theorem dX12_takesSign_22 : decode cX12_takesSign 22 = .ok (.if_icmp .ne 7, 3) := by decide +kernel
theorem dX12_takesSign_25 : decode cX12_takesSign 25 = .ok (.iconst 1, 1) := by decide +kernel
theorem dX12_takesSign_26 : decode cX12_takesSign 26 = .ok (.goto 4, 3) := by decide +kernel
theorem dX12_takesSign_29 : decode cX12_takesSign 29 = .ok (.iconst 0, 1) := by decide +kernel
theorem dX12_takesSign_30 : decode cX12_takesSign 30 = .ok (.istore_n 2, 1) := by decide +kernel
theorem dX12_takesSign_31 : decode cX12_takesSign 31 = .ok (.iload_n 2, 1) := by decide +kernel
theorem dX12_takesSign_32 : decode cX12_takesSign 32 = .ok (.ifCond .eq 13, 3) := by decide +kernel
theorem dX12_takesSign_35 : decode cX12_takesSign 35 = .ok (.aload_n 0, 1) := by decide +kernel
theorem dX12_takesSign_36 : decode cX12_takesSign 36 = .ok (.dup, 1) := by decide +kernel
theorem dX12_takesSign_37 : decode cX12_takesSign 37 = .ok (.getfield 161, 3) := by decide +kernel
theorem dX12_takesSign_40 : decode cX12_takesSign 40 = .ok (.iconst 1, 1) := by decide +kernel
theorem dX12_takesSign_41 : decode cX12_takesSign 41 = .ok (.iadd, 1) := by decide +kernel
theorem dX12_takesSign_42 : decode cX12_takesSign 42 = .ok (.putfield 161, 3) := by decide +kernel
theorem dX12_takesSign_45 : decode cX12_takesSign 45 = .ok (.iload_n 2, 1) := by decide +kernel
theorem dX12_takesSign_46 : decode cX12_takesSign 46 = .ok (.ireturn, 1) := by decide +kernel
theorem c12_takesSign {g : Gw} (hG : GF g) {z : Bool} (E : Mm) (B : Nat → Int) (n : Nat) (t : TS) (hP : RTp E B n t) (c : Int) (hc : 0 ≤ c ∧ c < 128) : CT g yX12_takesSign cX12_takesSign 3 (some .boolean) 2 41 0 0 K2 z [mR 125, mI c] (ov E) K2 z (fun r D' => r = some (mI (if tst B n t c then 1 else 0)) ∧ ∃ E1, D' = ov E1 ∧ (tst B n t c → RTp E1 B n (tsT B n t c)) ∧ (¬ tst B n t c → RTp E1 B n t) ∧ RTf E E1) := by
  refine CT.mk hG (by decide +kernel) (Nat.le_of_ble_eq_true rfl) (fun κ X Rt _ ok => ?_)
  obtain ⟨a, hA_E, h5, h6, hs⟩ := hP
  refine at_aload_n 1 X rfl rfl dX12_takesSign_0 rfl ?_
  refine m_getIV 4 X t.2.2.1 h5 f_X12_168 k_125 rn_125_5 dX12_takesSign_1 rfl ?_
  refine at_if_eq 7 9 X dX12_takesSign_4 rfl (by decide) (fun h4 => ?_) (fun h4 => ?_)
  · refine at_aload_n 10 X rfl rfl dX12_takesSign_9 rfl ?_
    refine at_callV 13 X _ 12 (c12_blanks hG E B n a hA_E) clX12 rfl k_125 mo_X12_blanks w_1968 vo_X12_blanks.1 vo_X12_blanks.2 rfl rfl (crm Rt (by decide)) (Nat.le_of_ble_eq_true rfl) dX12_takesSign_10 rfl ?_
    rintro _ _ ⟨rfl, F1, rfl, hA_F1, hf_F1, h5_F1, h6_F1⟩
    have hxn := hA_F1.1
    refine at_aload_n 14 X rfl rfl dX12_takesSign_13 rfl ?_
    refine at_aload_n 15 X rfl rfl dX12_takesSign_14 rfl ?_
    refine m_getIV 18 X ((sk B n a : Nat) : Int) hA_F1.2.2.2.2 f_X12_161 k_125 rn_125_4 dX12_takesSign_15 rfl ?_
    have := hA_F1.1.2
    refine at_callV 21 X _ 12 (c12_byteAt hG F1 B n (sk B n a) hA_F1 (sk B n a)) clX12 rfl k_125 mo_X12_byteAt w_1972 vo_X12_byteAt.1 vo_X12_byteAt.2 rfl rfl (crm Rt (by decide)) (Nat.le_of_ble_eq_true rfl) dX12_takesSign_18 rfl ?_
    rintro _ _ ⟨rfl, rfl⟩
    refine at_iload_n 22 X rfl rfl dX12_takesSign_21 rfl ?_
    refine at_icmp_ne 25 29 X dX12_takesSign_22 rfl (by decide) (fun h22 => ?_) (fun h22 => ?_)
    · refine at_iconst 30 X (by decide) dX12_takesSign_29 rfl ?_
      refine at_istore_n 31 X rfl dX12_takesSign_30 rfl (by decide) ?_
      refine at_iload_n 32 X rfl rfl dX12_takesSign_31 rfl ?_
      refine at_if_eq 35 45 X dX12_takesSign_32 rfl (by decide) (fun h32 => ?_) (fun h32 => ?_)
      · refine at_iload_n 46 X rfl rfl dX12_takesSign_45 rfl ?_
        refine at_zret X Rt ?_ (by first | decide | (split <;> decide)) (Nat.le_refl _) (Nat.le_refl _) dX12_takesSign_46
        have h0 : t.2.2.1 = 0 := h4
        have hst : sk B n a = sk B n t.1 := hs h0
        have hy : ¬ isA B n (sk B n a) c c := fun q => h22 ((bAt_is hc.1).mpr q)
        have hy2 : ¬ tst B n t c := fun q => hy (by rw [hst]; exact q.2)
        exact ⟨by rw [if_neg hy2], F1, rfl, fun q => absurd q hy2, fun _ => ⟨sk B n a, hA_F1, h5_F1.trans h5, h6_F1.trans h6, fun _ => by rw [sk_sk]; exact hst⟩, hf_F1⟩
      · exact absurd h32 (by decide)
    · refine at_iconst 26 X (by decide) dX12_takesSign_25 rfl ?_
      refine at_goto 30 X dX12_takesSign_26 (by decide) ?_
      refine at_istore_n 31 X rfl dX12_takesSign_30 rfl (by decide) ?_
      refine at_iload_n 32 X rfl rfl dX12_takesSign_31 rfl ?_
      refine at_if_eq 35 45 X dX12_takesSign_32 rfl (by decide) (fun h32 => ?_) (fun h32 => ?_)
      · exact absurd h32 (by decide)
      · refine at_aload_n 36 X rfl rfl dX12_takesSign_35 rfl ?_
        refine at_dup 37 X (show ¬ (2 : Nat) = 1 by decide) dX12_takesSign_36 rfl ?_
        refine m_getIV 40 X ((sk B n a : Nat) : Int) hA_F1.2.2.2.2 f_X12_161 k_125 rn_125_4 dX12_takesSign_37 rfl ?_
        have := hA_F1.1.2
        refine at_iconst 41 X (by decide) dX12_takesSign_40 rfl ?_
        refine at_iaddV 42 X ((sk B n a + 1 : Nat) : Int) (w32_v (by omega) (by omega) (by omega)) dX12_takesSign_41 rfl ?_
        refine m_putI 45 X f_X12_161 fw_12_4 k_125 rn_125_4 dX12_takesSign_42 rfl ?_
        refine at_iload_n 46 X rfl rfl dX12_takesSign_45 rfl ?_
        refine at_zret X Rt ?_ (by first | decide | (split <;> decide)) (Nat.le_refl _) (Nat.le_refl _) dX12_takesSign_46
        have h0 : t.2.2.1 = 0 := h4
        have hst : sk B n a = sk B n t.1 := hs h0
        have hy : isA B n (sk B n a) c c := (bAt_is hc.1).mp h22
        have hy2 : tst B n t c := ⟨h0, by rw [← hst]; exact hy⟩
        have e : tsT B n t c = (sk B n a + 1, sk B n a, t.2.2) := by
          unfold tsT
          rw [if_pos h0, ← hst, if_pos hy]
        have h1 := hy.1
        exact ⟨by rw [if_pos hy2], _, rfl, fun _ => by rw [e]; exact ⟨sk B n a + 1, (hA_F1.w4 (by omega)).1, (wr_o (by omega)).trans (h5_F1.trans h5), (wr_o (by omega)).trans (h6_F1.trans h6), fun _ => rfl⟩, fun q => absurd hy2 q, hf_F1.tr (hA_F1.w4 (by omega)).2⟩
  · refine at_iconst 8 X (by decide) dX12_takesSign_7 rfl ?_
    refine at_zret X Rt ?_ (by first | decide | (split <;> decide)) (Nat.le_refl _) (Nat.le_refl _) dX12_takesSign_8
    exact ⟨by rw [if_neg (fun q => h4 q.1)], E, rfl, fun q => absurd q.1 h4, fun _ => ⟨a, hA_E, h5, h6, hs⟩, RTf.rf⟩
theorem c12_bl {g : Gw} (hG : GF g) {z : Bool} (E : Mm) (B : Nat → Int) (n : Nat) (t : TS) (hP : RTp E B n t) : CT g yX12_blanks cX12_blanks 1 none 1 21 0 0 K2 z [mR 125] (ov E) K2 z (fun r D' => r = none ∧ ∃ E1, D' = ov E1 ∧ RTp E1 B n t ∧ RTf E E1 ∧ (t.2.2.1 = 0 → E1 125 4 = ((sk B n t.1 : Nat) : Int))) := by
  obtain ⟨a, hA, h5, h6, hs⟩ := hP
  refine (c12_blanks hG (z := z) E B n a hA).imp (fun r D' q => ?_)
  obtain ⟨q1, E1, q2, q3, q4, q5, q6⟩ := q
  exact ⟨q1, E1, q2, ⟨sk B n a, q3, q5.trans h5, q6.trans h6, fun h => by rw [sk_sk]; exact hs h⟩, q4, fun h => by rw [← hs h]; exact q3.2.2.2.2⟩
theorem dX12_starts_0 : decode cX12_starts 0 = .ok (.aload_n 0, 1) := by decide +kernel
theorem dX12_starts_1 : decode cX12_starts 1 = .ok (.iconst 0, 1) := by decide +kernel
theorem dX12_starts_2 : decode cX12_starts 2 = .ok (.putfield 155, 3) := by decide +kernel
theorem dX12_starts_5 : decode cX12_starts 5 = .ok (.aload_n 0, 1) := by decide +kernel
theorem dX12_starts_6 : decode cX12_starts 6 = .ok (.iload_n 1, 1) := by decide +kernel
theorem dX12_starts_7 : decode cX12_starts 7 = .ok (.putfield 158, 3) := by decide +kernel
theorem dX12_starts_10 : decode cX12_starts 10 = .ok (.aload_n 0, 1) := by decide +kernel
theorem dX12_starts_11 : decode cX12_starts 11 = .ok (.iconst 0, 1) := by decide +kernel
theorem dX12_starts_12 : decode cX12_starts 12 = .ok (.putfield 161, 3) := by decide +kernel
theorem dX12_starts_15 : decode cX12_starts 15 = .ok (.aload_n 0, 1) := by decide +kernel
theorem dX12_starts_16 : decode cX12_starts 16 = .ok (.iconst 0, 1) := by decide +kernel
theorem dX12_starts_17 : decode cX12_starts 17 = .ok (.putfield 168, 3) := by decide +kernel
theorem dX12_starts_20 : decode cX12_starts 20 = .ok (.aload_n 0, 1) := by decide +kernel
theorem dX12_starts_21 : decode cX12_starts 21 = .ok (.iconst (-1), 1) := by decide +kernel
theorem dX12_starts_22 : decode cX12_starts 22 = .ok (.putfield 171, 3) := by decide +kernel
theorem dX12_starts_25 : decode cX12_starts 25 = .ok (.aload_n 0, 1) := by decide +kernel
theorem dX12_starts_26 : decode cX12_starts 26 = .ok (.iconst 0, 1) := by decide +kernel
theorem dX12_starts_27 : decode cX12_starts 27 = .ok (.putfield 208, 3) := by decide +kernel
theorem dX12_starts_30 : decode cX12_starts 30 = .ok (.aload_n 0, 1) := by decide +kernel
theorem dX12_starts_31 : decode cX12_starts 31 = .ok (.iconst 0, 1) := by decide +kernel
theorem dX12_starts_32 : decode cX12_starts 32 = .ok (.putfield 211, 3) := by decide +kernel
theorem dX12_starts_35 : decode cX12_starts 35 = .ok (.aload_n 0, 1) := by decide +kernel
theorem dX12_starts_36 : decode cX12_starts 36 = .ok (.invokevirtual 174, 3) := by decide +kernel
theorem dX12_starts_39 : decode cX12_starts 39 = .ok (.return_, 1) := by decide +kernel
theorem ct_X12_starts {g : Gw} (hG : GF g) {z : Bool} (E : Mm) (n : Nat) (hn : n ≤ 600) (hB : ∀ k, k < n → 0 ≤ E 126 k ∧ E 126 k < 256) : CT g yX12_starts cX12_starts 2 none 2 41 0 0 K2 z [mR 125, mI ((n : Nat) : Int)] (ov E) K2 z (fun r D' => r = none ∧ ∃ E1, D' = ov E1 ∧ RTp E1 (E 126) n (0, 0, 0, -1) ∧ E1 125 1 = 0 ∧ E1 125 7 = 0 ∧ E1 125 8 = 0 ∧ (∀ q, q ≠ 125 → E1 q = E q) ∧ (∀ k, ¬ (1 ≤ k ∧ k ≤ 8 ∧ k ≠ 3) → E1 125 k = E 125 k) ∧ E1 125 4 = ((sk (E 126) n 0 : Nat) : Int)) := by
  refine CT.mk hG (by decide +kernel) (Nat.le_of_ble_eq_true rfl) (fun κ X Rt _ ok => ?_)
  refine at_aload_n 1 X rfl rfl dX12_starts_0 rfl ?_
  refine at_iconst 2 X (by decide) dX12_starts_1 rfl ?_
  refine m_putI 5 X f_X12_155 fw_12_1 k_125 rn_125_1 dX12_starts_2 rfl ?_
  refine at_aload_n 6 X rfl rfl dX12_starts_5 rfl ?_
  refine at_iload_n 7 X rfl rfl dX12_starts_6 rfl ?_
  refine m_putI 10 X f_X12_158 fw_12_2 k_125 rn_125_2 dX12_starts_7 rfl ?_
  refine at_aload_n 11 X rfl rfl dX12_starts_10 rfl ?_
  refine at_iconst 12 X (by decide) dX12_starts_11 rfl ?_
  refine m_putI 15 X f_X12_161 fw_12_4 k_125 rn_125_4 dX12_starts_12 rfl ?_
  refine at_aload_n 16 X rfl rfl dX12_starts_15 rfl ?_
  refine at_iconst 17 X (by decide) dX12_starts_16 rfl ?_
  refine m_putI 20 X f_X12_168 fw_12_5 k_125 rn_125_5 dX12_starts_17 rfl ?_
  refine at_aload_n 21 X rfl rfl dX12_starts_20 rfl ?_
  refine at_iconst 22 X (by decide) dX12_starts_21 rfl ?_
  refine m_putI 25 X f_X12_171 fw_12_6 k_125 rn_125_6 dX12_starts_22 rfl ?_
  refine at_aload_n 26 X rfl rfl dX12_starts_25 rfl ?_
  refine at_iconst 27 X (by decide) dX12_starts_26 rfl ?_
  refine m_putI 30 X f_X12_208 fw_12_7 k_125 rn_125_7 dX12_starts_27 rfl ?_
  refine at_aload_n 31 X rfl rfl dX12_starts_30 rfl ?_
  refine at_iconst 32 X (by decide) dX12_starts_31 rfl ?_
  refine m_putI 35 X f_X12_211 fw_12_8 k_125 rn_125_8 dX12_starts_32 rfl ?_
  refine at_aload_n 36 X rfl rfl dX12_starts_35 rfl ?_
  generalize hE0 : wr (wr (wr (wr (wr (wr (wr E 125 1 0) 125 2 ((n : Nat) : Int)) 125 4 0) 125 5 0) 125 6 (-1)) 125 7 0) 125 8 0 = E0
  have hq0 : ∀ q, q ≠ 125 → E0 q = E q := fun q h => by rw [← hE0]; simp (disch := omega) only [wr_row]
  have hk0 : ∀ k, ¬ (1 ≤ k ∧ k ≤ 8 ∧ k ≠ 3) → E0 125 k = E 125 k := fun k h => by rw [← hE0]; simp (disch := omega) only [wr_o]
  have hA0 : RTa E0 (E 126) n 0 := ⟨⟨hn, Nat.zero_le _⟩, by rw [← hE0]; simp (disch := omega) only [wr_o, wr_s], hq0 126 (by omega), hB, by rw [← hE0]; simp (disch := omega) only [wr_o, wr_s]; rfl⟩
  have hz : E0 125 1 = 0 ∧ E0 125 5 = 0 ∧ E0 125 6 = -1 ∧ E0 125 7 = 0 ∧ E0 125 8 = 0 := by
    rw [← hE0]
    exact ⟨by simp (disch := omega) only [wr_o, wr_s], by simp (disch := omega) only [wr_o, wr_s], by simp (disch := omega) only [wr_o, wr_s], by simp (disch := omega) only [wr_o, wr_s], wr_s _ _ _ _⟩
  refine at_callV 39 X _ 12 (c12_blanks hG E0 (E 126) n 0 hA0) clX12 rfl k_125 mo_X12_blanks w_1968 vo_X12_blanks.1 vo_X12_blanks.2 rfl rfl (crm Rt (by decide)) (Nat.le_of_ble_eq_true rfl) dX12_starts_36 rfl ?_
  rintro _ _ ⟨rfl, F1, rfl, hA1, hf1, h51, h61⟩
  refine at_vret X Rt ?_ (Nat.le_refl _) (Nat.le_refl _) dX12_starts_39
  exact ⟨rfl, F1, rfl, ⟨sk (E 126) n 0, hA1, h51.trans hz.2.1, h61.trans hz.2.2.1, fun _ => sk_sk _ _ _⟩, (hf1.2 1 (by omega)).trans hz.1, (hf1.2 7 (by omega)).trans hz.2.2.2.1, (hf1.2 8 (by omega)).trans hz.2.2.2.2, fun q h => (hf1.1 q h).trans (hq0 q h), fun k h => (hf1.2 k (by omega)).trans (hk0 k h), hA1.2.2.2.2⟩
