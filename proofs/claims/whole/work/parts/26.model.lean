theorem dX12_copies_0 : decode cX12_copies 0 = .ok (.iconst 0, 1) := by decide +kernel
theorem dX12_copies_1 : decode cX12_copies 1 = .ok (.istore_n 3, 1) := by decide +kernel
theorem dX12_copies_2 : decode cX12_copies 2 = .ok (.iload_n 3, 1) := by decide +kernel
theorem dX12_copies_3 : decode cX12_copies 3 = .ok (.iload_n 2, 1) := by decide +kernel
theorem dX12_copies_4 : decode cX12_copies 4 = .ok (.if_icmp .ge 39, 3) := by decide +kernel
theorem dX12_copies_7 : decode cX12_copies 7 = .ok (.iconst 0, 1) := by decide +kernel
theorem dX12_copies_8 : decode cX12_copies 8 = .ok (.istore 4, 2) := by decide +kernel
theorem dX12_copies_10 : decode cX12_copies 10 = .ok (.iload 4, 2) := by decide +kernel
theorem dX12_copies_12 : decode cX12_copies 12 = .ok (.aload_n 1, 1) := by decide +kernel
theorem dX12_copies_13 : decode cX12_copies 13 = .ok (.iload_n 3, 1) := by decide +kernel
theorem dX12_copies_14 : decode cX12_copies 14 = .ok (.aaload, 1) := by decide +kernel
theorem dX12_copies_15 : decode cX12_copies 15 = .ok (.arraylength, 1) := by decide +kernel
theorem dX12_copies_16 : decode cX12_copies 16 = .ok (.if_icmp .ge 21, 3) := by decide +kernel
theorem dX12_copies_19 : decode cX12_copies 19 = .ok (.aload_n 1, 1) := by decide +kernel
theorem dX12_copies_20 : decode cX12_copies 20 = .ok (.iload_n 3, 1) := by decide +kernel
theorem dX12_copies_21 : decode cX12_copies 21 = .ok (.aaload, 1) := by decide +kernel
theorem dX12_copies_22 : decode cX12_copies 22 = .ok (.iload 4, 2) := by decide +kernel
theorem dX12_copies_24 : decode cX12_copies 24 = .ok (.aload_n 0, 1) := by decide +kernel
theorem dX12_copies_25 : decode cX12_copies 25 = .ok (.iload_n 3, 1) := by decide +kernel
theorem dX12_copies_26 : decode cX12_copies 26 = .ok (.aaload, 1) := by decide +kernel
theorem dX12_copies_27 : decode cX12_copies 27 = .ok (.iload 4, 2) := by decide +kernel
theorem dX12_copies_29 : decode cX12_copies 29 = .ok (.iaload, 1) := by decide +kernel
theorem dX12_copies_30 : decode cX12_copies 30 = .ok (.iastore, 1) := by decide +kernel
theorem dX12_copies_31 : decode cX12_copies 31 = .ok (.iinc 4 1, 3) := by decide +kernel
theorem dX12_copies_34 : decode cX12_copies 34 = .ok (.goto (-24), 3) := by decide +kernel
theorem dX12_copies_37 : decode cX12_copies 37 = .ok (.iinc 3 1, 3) := by decide +kernel
theorem dX12_copies_40 : decode cX12_copies 40 = .ok (.goto (-38), 3) := by decide +kernel
theorem dX12_copies_43 : decode cX12_copies 43 = .ok (.return_, 1) := by decide +kernel
/-- a grid of ints: n rows of w, as the reference keeps them -/
def GRD (K : Shp) (a n w : Nat) : Prop := K[a]? = some (5, n) ∧ (∀ k, k < n → rtv a k = some (a + 1 + k)) ∧ (∀ k, k < n → K[a + 1 + k]? = some (0, w)) ∧ (∀ k, k < n → rtab.getD (a + 1 + k) [] = []) ∧ n ≤ 1000 ∧ w ≤ 60000
/-- rows laid over rows: r whole ones, and c of the next -/
def cpR (E : Mm) (a b w r c : Nat) : Mm := fun q j => if (b < q ∧ q ≤ b + r ∧ j < w) ∨ (q = b + 1 + r ∧ j < c) then E (q - b + a) j else E q j
theorem cpR_row {E : Mm} {a b w r : Nat} : cpR E a b w r w = cpR E a b w (r + 1) 0 := by
  funext q j
  unfold cpR
  by_cases c : (b < q ∧ q ≤ b + r ∧ j < w) ∨ (q = b + 1 + r ∧ j < w)
  · rw [if_pos c, if_pos (by omega)]
  · rw [if_neg c, if_neg (by omega)]
theorem cpR_step {E : Mm} {a b w r c : Nat} (h : ¬ (b < a + 1 + r ∧ a + 1 + r ≤ b + 1 + r)) : wr (cpR E a b w r c) (b + 1 + r) c (cpR E a b w r c (a + 1 + r) c) = cpR E a b w r (c + 1) := by
  have e : cpR E a b w r c (a + 1 + r) c = E (a + 1 + r) c := if_neg (by omega)
  rw [e]
  funext q j
  unfold wr cpR
  by_cases c1 : q = b + 1 + r ∧ j = c
  · obtain ⟨rfl, rfl⟩ := c1
    rw [if_pos ⟨rfl, rfl⟩, if_pos (by omega), show b + 1 + r - b + a = a + 1 + r by omega]
  · rw [if_neg c1]
    by_cases c2 : (b < q ∧ q ≤ b + r ∧ j < w) ∨ (q = b + 1 + r ∧ j < c)
    · rw [if_pos c2, if_pos (by omega)]
    · rw [if_neg c2, if_neg (by omega)]
theorem cpR_zero {E : Mm} {a b w : Nat} : cpR E a b w 0 0 = E := by
  funext q j
  exact if_neg (by omega)
theorem ct_X12_copies {g : Gw} (hG : GF g) {K : Shp} {z : Bool} (E : Mm) (a b na nb w m : Nat) (ha : GRD K a na w) (hb : GRD K b nb w) (hab : a + na < b ∨ b + nb < a) (hma : m ≤ na) (hmb : m ≤ nb) : CT g yX12_copies cX12_copies 5 none 0 0 0 0 K z [mR a, mR b, mI (m : Int)] (ov E) K z (fun r D' => r = none ∧ D' = ov (cpR E a b w m 0)) := by
  obtain ⟨a1, a2, a3, a4, a5, a6⟩ := ha
  obtain ⟨b1, b2, b3, b4, b5, b6⟩ := hb
  refine CT.mk hG (by decide +kernel) (Nat.le_of_ble_eq_true rfl) (fun κ X Rt _ ok => ?_)
  have L1 : ∀ (f r c : Nat), w - c < f → c ≤ w → r < m → AT g κ K z 0 0 37 [(0, mR a), (1, mR b), (2, mI (m : Int)), (3, mI (r : Int))] [] (ov (cpR E a b w r w)) → AT g κ K z 0 0 10 [(0, mR a), (1, mR b), (2, mI (m : Int)), (3, mI (r : Int)), (4, mI (c : Int))] [] (ov (cpR E a b w r c)) := by
    intro f
    induction f with
    | zero => intro r c h; omega
    | succ f ih =>
    intro r c hf hc hr k
    refine at_iload 12 X rfl dX12_copies_10 rfl ?_
    refine at_aload_n 13 X rfl rfl dX12_copies_12 rfl ?_
    refine at_iload_n 14 X rfl rfl dX12_copies_13 rfl ?_
    refine m_aaload 15 X b1 (by decide) (by omega) (by omega) (by rw [Int.toNat_natCast]; exact b2 r (by omega)) dX12_copies_14 rfl ?_
    refine at_alen 16 X (b + 1 + r) (b3 r (by omega)) (by decide) (by omega) dX12_copies_15 rfl ?_
    refine at_icmp_ge 19 37 X dX12_copies_16 rfl (by decide) (fun h => ?_) (fun h => ?_)
    · rw [show c = w by omega]
      exact at_sub _ (by exact ⟨rfl, rfl, rfl, rfl, trivial⟩) k
    · refine at_aload_n 20 X rfl rfl dX12_copies_19 rfl ?_
      refine at_iload_n 21 X rfl rfl dX12_copies_20 rfl ?_
      refine m_aaload 22 X b1 (by decide) (by omega) (by omega) (by rw [Int.toNat_natCast]; exact b2 r (by omega)) dX12_copies_21 rfl ?_
      refine at_iload 24 X rfl dX12_copies_22 rfl ?_
      refine at_aload_n 25 X rfl rfl dX12_copies_24 rfl ?_
      refine at_iload_n 26 X rfl rfl dX12_copies_25 rfl ?_
      refine m_aaload 27 X a1 (by decide) (by omega) (by omega) (by rw [Int.toNat_natCast]; exact a2 r (by omega)) dX12_copies_26 rfl ?_
      refine at_iload 29 X rfl dX12_copies_27 rfl ?_
      refine m_iaload 30 X (a3 r (by omega)) (a4 r (by omega)) (by omega) (by omega) dX12_copies_29 rfl ?_
      refine m_iastore 31 X (b3 r (by omega)) (b4 r (by omega)) (by omega) (by omega) dX12_copies_30 rfl ?_
      refine at_iinc 34 X rfl dX12_copies_31 rfl (by decide) ?_
      refine at_goto 10 X dX12_copies_34 (by decide) ?_
      rw [Int.toNat_natCast, cpR_step (by omega), w32_id (by omega) (by omega), show (c : Int) + 1 = ((c + 1 : Nat) : Int) from rfl]
      exact at_sub _ (by exact ⟨rfl, rfl, rfl, rfl, rfl, trivial⟩) (ih r (c + 1) (by omega) (by omega) hr k)
  have L0 : ∀ (f r : Nat), m - r < f → r ≤ m → AT g κ K z 0 0 2 [(0, mR a), (1, mR b), (2, mI (m : Int)), (3, mI (r : Int))] [] (ov (cpR E a b w r 0)) := by
    intro f
    induction f with
    | zero => intro r h; omega
    | succ f ih =>
    intro r hf hr
    refine at_iload_n 3 X rfl rfl dX12_copies_2 rfl ?_
    refine at_iload_n 4 X rfl rfl dX12_copies_3 rfl ?_
    refine at_icmp_ge 7 43 X dX12_copies_4 rfl (by decide) (fun h => ?_) (fun h => ?_)
    · refine at_vret X Rt ⟨rfl, ?_⟩ (Nat.le_refl _) (Nat.le_refl _) dX12_copies_43
      rw [show r = m by omega]
    · refine at_iconst 8 X (by decide) dX12_copies_7 rfl ?_
      refine at_istore 10 X dX12_copies_8 rfl (by decide) ?_
      refine at_sub _ (by exact ⟨rfl, rfl, rfl, rfl, rfl, trivial⟩) (L1 (w + 1) r 0 (by omega) (by omega) (by omega) ?_)
      refine at_iinc 40 X rfl dX12_copies_37 rfl (by decide) ?_
      refine at_goto 2 X dX12_copies_40 (by decide) ?_
      rw [cpR_row, w32_id (by omega) (by omega), show (r : Int) + 1 = ((r + 1 : Nat) : Int) from rfl]
      exact at_sub _ (by exact ⟨rfl, rfl, rfl, rfl, trivial⟩) (ih (r + 1) (by omega) (by omega))
  refine at_iconst 1 X (by decide) dX12_copies_0 rfl ?_
  refine at_istore_n 2 X rfl dX12_copies_1 rfl (by decide) ?_
  have h := L0 (m + 1) 0 (by omega) (by omega)
  rw [cpR_zero] at h
  exact at_sub _ (by exact ⟨rfl, rfl, rfl, rfl, trivial⟩) h
theorem grd_130 {i : Nat} (hi : 813 ≤ i) : GRD (KT i) 130 10 2 := ⟨KT_get (by omega) k_130, rr_130, fun k hk => KT_get (by omega) (kr_130 k hk), er_130, Nat.le_of_ble_eq_true rfl, Nat.le_of_ble_eq_true rfl⟩
theorem grd_141 {i : Nat} (hi : 813 ≤ i) : GRD (KT i) 141 11 2 := ⟨KT_get (by omega) k_141, rr_141, fun k hk => KT_get (by omega) (kr_141 k hk), er_141, Nat.le_of_ble_eq_true rfl, Nat.le_of_ble_eq_true rfl⟩
theorem grd_153 {i : Nat} (hi : 813 ≤ i) : GRD (KT i) 153 12 3 := ⟨KT_get (by omega) k_153, rr_153, fun k hk => KT_get (by omega) (kr_153 k hk), er_153, Nat.le_of_ble_eq_true rfl, Nat.le_of_ble_eq_true rfl⟩
theorem grd_166 {i : Nat} (hi : 813 ≤ i) : GRD (KT i) 166 12 3 := ⟨KT_get (by omega) k_166, rr_166, fun k hk => KT_get (by omega) (kr_166 k hk), er_166, Nat.le_of_ble_eq_true rfl, Nat.le_of_ble_eq_true rfl⟩
theorem grd_179 {i : Nat} (hi : 813 ≤ i) : GRD (KT i) 179 3 3 := ⟨KT_get (by omega) k_179, rr_179, fun k hk => KT_get (by omega) (kr_179 k hk), er_179, Nat.le_of_ble_eq_true rfl, Nat.le_of_ble_eq_true rfl⟩
theorem grd_183 {i : Nat} (hi : 813 ≤ i) : GRD (KT i) 183 3 3 := ⟨KT_get (by omega) k_183, rr_183, fun k hk => KT_get (by omega) (kr_183 k hk), er_183, Nat.le_of_ble_eq_true rfl, Nat.le_of_ble_eq_true rfl⟩
theorem grd_187 {i : Nat} (hi : 813 ≤ i) : GRD (KT i) 187 6 2 := ⟨KT_get (by omega) k_187, rr_187, fun k hk => KT_get (by omega) (kr_187 k hk), er_187, Nat.le_of_ble_eq_true rfl, Nat.le_of_ble_eq_true rfl⟩
theorem grd_194 {i : Nat} (hi : 813 ≤ i) : GRD (KT i) 194 6 2 := ⟨KT_get (by omega) k_194, rr_194, fun k hk => KT_get (by omega) (kr_194 k hk), er_194, Nat.le_of_ble_eq_true rfl, Nat.le_of_ble_eq_true rfl⟩
theorem grd_201 {i : Nat} (hi : 813 ≤ i) : GRD (KT i) 201 6 2 := ⟨KT_get (by omega) k_201, rr_201, fun k hk => KT_get (by omega) (kr_201 k hk), er_201, Nat.le_of_ble_eq_true rfl, Nat.le_of_ble_eq_true rfl⟩
theorem grd_208 {i : Nat} (hi : 813 ≤ i) : GRD (KT i) 208 9 2 := ⟨KT_get (by omega) k_208, rr_208, fun k hk => KT_get (by omega) (kr_208 k hk), er_208, Nat.le_of_ble_eq_true rfl, Nat.le_of_ble_eq_true rfl⟩
theorem grd_218 {i : Nat} (hi : 813 ≤ i) : GRD (KT i) 218 8 3 := ⟨KT_get (by omega) k_218, rr_218, fun k hk => KT_get (by omega) (kr_218 k hk), er_218, Nat.le_of_ble_eq_true rfl, Nat.le_of_ble_eq_true rfl⟩
theorem grd_227 {i : Nat} (hi : 813 ≤ i) : GRD (KT i) 227 8 3 := ⟨KT_get (by omega) k_227, rr_227, fun k hk => KT_get (by omega) (kr_227 k hk), er_227, Nat.le_of_ble_eq_true rfl, Nat.le_of_ble_eq_true rfl⟩
theorem grd_236 {i : Nat} (hi : 813 ≤ i) : GRD (KT i) 236 8 20 := ⟨KT_get (by omega) k_236, rr_236, fun k hk => KT_get (by omega) (kr_236 k hk), er_236, Nat.le_of_ble_eq_true rfl, Nat.le_of_ble_eq_true rfl⟩
theorem grd_245 {i : Nat} (hi : 813 ≤ i) : GRD (KT i) 245 8 20 := ⟨KT_get (by omega) k_245, rr_245, fun k hk => KT_get (by omega) (kr_245 k hk), er_245, Nat.le_of_ble_eq_true rfl, Nat.le_of_ble_eq_true rfl⟩
theorem grd_254 {i : Nat} (hi : 813 ≤ i) : GRD (KT i) 254 160 2 := ⟨KT_get (by omega) k_254, rr_254, fun k hk => KT_get (by omega) (kr_254 k hk), er_254, Nat.le_of_ble_eq_true rfl, Nat.le_of_ble_eq_true rfl⟩
theorem grd_415 {i : Nat} (hi : 813 ≤ i) : GRD (KT i) 415 160 2 := ⟨KT_get (by omega) k_415, rr_415, fun k hk => KT_get (by omega) (kr_415 k hk), er_415, Nat.le_of_ble_eq_true rfl, Nat.le_of_ble_eq_true rfl⟩
theorem grd_580 {i : Nat} (hi : 813 ≤ i) : GRD (KT i) 580 16 3 := ⟨KT_get (by omega) k_580, rr_580, fun k hk => KT_get (by omega) (kr_580 k hk), er_580, Nat.le_of_ble_eq_true rfl, Nat.le_of_ble_eq_true rfl⟩
theorem grd_597 {i : Nat} (hi : 813 ≤ i) : GRD (KT i) 597 16 3 := ⟨KT_get (by omega) k_597, rr_597, fun k hk => KT_get (by omega) (kr_597 k hk), er_597, Nat.le_of_ble_eq_true rfl, Nat.le_of_ble_eq_true rfl⟩
theorem grd_614 {i : Nat} (hi : 813 ≤ i) : GRD (KT i) 614 8 2 := ⟨KT_get (by omega) k_614, rr_614, fun k hk => KT_get (by omega) (kr_614 k hk), er_614, Nat.le_of_ble_eq_true rfl, Nat.le_of_ble_eq_true rfl⟩
theorem grd_623 {i : Nat} (hi : 813 ≤ i) : GRD (KT i) 623 8 2 := ⟨KT_get (by omega) k_623, rr_623, fun k hk => KT_get (by omega) (kr_623 k hk), er_623, Nat.le_of_ble_eq_true rfl, Nat.le_of_ble_eq_true rfl⟩
theorem grd_632 {i : Nat} (hi : 813 ≤ i) : GRD (KT i) 632 20 178 := ⟨KT_get (by omega) k_632, rr_632, fun k hk => KT_get (by omega) (kr_632 k hk), er_632, Nat.le_of_ble_eq_true rfl, Nat.le_of_ble_eq_true rfl⟩
theorem grd_653 {i : Nat} (hi : 813 ≤ i) : GRD (KT i) 653 3 3740 := ⟨KT_get (by omega) k_653, rr_653, fun k hk => KT_get (by omega) (kr_653 k hk), er_653, Nat.le_of_ble_eq_true rfl, Nat.le_of_ble_eq_true rfl⟩
theorem grd_657 {i : Nat} (hi : 813 ≤ i) : GRD (KT i) 657 24 40 := ⟨KT_get (by omega) k_657, rr_657, fun k hk => KT_get (by omega) (kr_657 k hk), er_657, Nat.le_of_ble_eq_true rfl, Nat.le_of_ble_eq_true rfl⟩
theorem grd_682 {i : Nat} (hi : 813 ≤ i) : GRD (KT i) 682 24 40 := ⟨KT_get (by omega) k_682, rr_682, fun k hk => KT_get (by omega) (kr_682 k hk), er_682, Nat.le_of_ble_eq_true rfl, Nat.le_of_ble_eq_true rfl⟩
theorem grd_707 {i : Nat} (hi : 813 ≤ i) : GRD (KT i) 707 24 40 := ⟨KT_get (by omega) k_707, rr_707, fun k hk => KT_get (by omega) (kr_707 k hk), er_707, Nat.le_of_ble_eq_true rfl, Nat.le_of_ble_eq_true rfl⟩
theorem grd_757 {i : Nat} (hi : 813 ≤ i) : GRD (KT i) 757 24 8 := ⟨KT_get (by omega) k_757, rr_757, fun k hk => KT_get (by omega) (kr_757 k hk), er_757, Nat.le_of_ble_eq_true rfl, Nat.le_of_ble_eq_true rfl⟩
theorem grd_785 {i : Nat} (hi : 813 ≤ i) : GRD (KT i) 785 25 40 := ⟨KT_get (by omega) k_785, rr_785, fun k hk => KT_get (by omega) (kr_785 k hk), er_785, Nat.le_of_ble_eq_true rfl, Nat.le_of_ble_eq_true rfl⟩
theorem cpR_o {E : Mm} {a b w r q j : Nat} (h : q ≤ b ∨ b + r < q) : cpR E a b w r 0 q j = E q j := if_neg (by omega)
/-- the first n of a row, laid over a row -/
def cp1 (E : Mm) (a b n : Nat) : Mm := fun q j => if q = b ∧ j < n then E a j else E q j
theorem cp1_s {E : Mm} {a b n j : Nat} (h : j < n) : cp1 E a b n b j = E a j := if_pos ⟨rfl, h⟩
theorem cp1_o {E : Mm} {a b n q j : Nat} (h : q ≠ b ∨ n ≤ j) : cp1 E a b n q j = E q j := if_neg (by omega)
theorem cp1_zero {E : Mm} {a b : Nat} : cp1 E a b 0 = E := by funext q j; exact if_neg (by omega)
theorem cp1_step {E : Mm} {a b n : Nat} (h : a ≠ b) : wr (cp1 E a b n) b n (cp1 E a b n a n) = cp1 E a b (n + 1) := by
  rw [cp1_o (Or.inl h)]
  funext q j
  unfold wr cp1
  by_cases c : q = b
  · subst c
    rcases Nat.lt_trichotomy j n with h | h | h
    · simp [h, Nat.ne_of_lt h, Nat.lt_succ_of_lt h]
    · subst h; simp
    · simp [show ¬ j < n by omega, show ¬ j < n + 1 by omega, show j ≠ n by omega]
  · simp [c]
theorem dX12_tellsNothing_0 : decode cX12_tellsNothing 0 = .ok (.iconst 0, 1) := by decide +kernel
theorem dX12_tellsNothing_1 : decode cX12_tellsNothing 1 = .ok (.istore_n 1, 1) := by decide +kernel
theorem dX12_tellsNothing_2 : decode cX12_tellsNothing 2 = .ok (.iload_n 1, 1) := by decide +kernel
theorem dX12_tellsNothing_3 : decode cX12_tellsNothing 3 = .ok (.bipush 8, 2) := by decide +kernel
theorem dX12_tellsNothing_5 : decode cX12_tellsNothing 5 = .ok (.if_icmp .ge 16, 3) := by decide +kernel
theorem dX12_tellsNothing_8 : decode cX12_tellsNothing 8 = .ok (.aload_n 0, 1) := by decide +kernel
theorem dX12_tellsNothing_9 : decode cX12_tellsNothing 9 = .ok (.getfield 20, 3) := by decide +kernel
theorem dX12_tellsNothing_12 : decode cX12_tellsNothing 12 = .ok (.iload_n 1, 1) := by decide +kernel
theorem dX12_tellsNothing_13 : decode cX12_tellsNothing 13 = .ok (.iconst 0, 1) := by decide +kernel
theorem dX12_tellsNothing_14 : decode cX12_tellsNothing 14 = .ok (.iastore, 1) := by decide +kernel
theorem dX12_tellsNothing_15 : decode cX12_tellsNothing 15 = .ok (.iinc 1 1, 3) := by decide +kernel
theorem dX12_tellsNothing_18 : decode cX12_tellsNothing 18 = .ok (.goto (-16), 3) := by decide +kernel
theorem dX12_tellsNothing_21 : decode cX12_tellsNothing 21 = .ok (.aload_n 0, 1) := by decide +kernel
theorem dX12_tellsNothing_22 : decode cX12_tellsNothing 22 = .ok (.getfield 20, 3) := by decide +kernel
theorem dX12_tellsNothing_25 : decode cX12_tellsNothing 25 = .ok (.iconst 0, 1) := by decide +kernel
theorem dX12_tellsNothing_26 : decode cX12_tellsNothing 26 = .ok (.bipush 20, 2) := by decide +kernel
theorem dX12_tellsNothing_28 : decode cX12_tellsNothing 28 = .ok (.iastore, 1) := by decide +kernel
theorem dX12_tellsNothing_29 : decode cX12_tellsNothing 29 = .ok (.aload_n 0, 1) := by decide +kernel
theorem dX12_tellsNothing_30 : decode cX12_tellsNothing 30 = .ok (.getfield 20, 3) := by decide +kernel
theorem dX12_tellsNothing_33 : decode cX12_tellsNothing 33 = .ok (.bipush 7, 2) := by decide +kernel
theorem dX12_tellsNothing_35 : decode cX12_tellsNothing 35 = .ok (.bipush 24, 2) := by decide +kernel
theorem dX12_tellsNothing_37 : decode cX12_tellsNothing 37 = .ok (.iastore, 1) := by decide +kernel
theorem dX12_tellsNothing_38 : decode cX12_tellsNothing 38 = .ok (.return_, 1) := by decide +kernel
/-- nothing told: a street of 20 cells and 24 hours -/
def tellsN (E : Mm) : Mm := wr (wr (fil E 128 8 0) 128 0 20) 128 7 24
theorem ct_X12_tellsNothing {g : Gw} (hG : GF g) {z : Bool} {i : Nat} (hi : 813 ≤ i) (E : Mm) : CT g yX12_tellsNothing cX12_tellsNothing 2 none 0 0 0 0 (KT i) z [mR 125] (ov (E)) (KT i) z (fun r D' => r = none ∧ D' = ov (tellsN E)) := by
  refine CT.mk hG (by decide +kernel) (Nat.le_of_ble_eq_true rfl) (fun κ X Rt _ ok => ?_)
  have L0 : ∀ (f a : Nat), 8 - a < f → a ≤ 8 → AT g κ (KT i) z 0 0 2 [(1, mI (a : Int)), (0, mR 125)] [] (ov (fil E 128 a 0)) := by
    intro f
    induction f with
    | zero => intro a h; omega
    | succ f ih =>
    intro a hf ha
    refine at_iload_n 3 X rfl rfl dX12_tellsNothing_2 rfl ?_
    refine at_bipush 5 X (by decide) (by decide) dX12_tellsNothing_3 rfl ?_
    refine at_icmp_ge 8 21 X dX12_tellsNothing_5 rfl (by decide) (fun h5 => ?_) (fun h5 => ?_)
    · refine at_aload_n 22 X rfl rfl dX12_tellsNothing_21 rfl ?_
      refine m_getR 25 X f_X12_20 (KT_get (by omega) k_125) r_125_11 dX12_tellsNothing_22 rfl ?_
      refine at_iconst 26 X (by decide) dX12_tellsNothing_25 rfl ?_
      refine at_bipush 28 X (by decide) (by decide) dX12_tellsNothing_26 rfl ?_
      refine m_iastore 29 X (KT_get (by omega) k_128) e_128 (by omega) (by omega) dX12_tellsNothing_28 rfl ?_
      refine at_aload_n 30 X rfl rfl dX12_tellsNothing_29 rfl ?_
      refine m_getR 33 X f_X12_20 (KT_get (by omega) k_125) r_125_11 dX12_tellsNothing_30 rfl ?_
      refine at_bipush 35 X (by decide) (by decide) dX12_tellsNothing_33 rfl ?_
      refine at_bipush 37 X (by decide) (by decide) dX12_tellsNothing_35 rfl ?_
      refine m_iastore 38 X (KT_get (by omega) k_128) e_128 (by omega) (by omega) dX12_tellsNothing_37 rfl ?_
      refine at_vret X Rt ?_ (Nat.le_refl _) (Nat.le_refl _) dX12_tellsNothing_38
      rw [show a = 8 by omega]
      exact ⟨rfl, rfl⟩
    · refine at_aload_n 9 X rfl rfl dX12_tellsNothing_8 rfl ?_
      refine m_getR 12 X f_X12_20 (KT_get (by omega) k_125) r_125_11 dX12_tellsNothing_9 rfl ?_
      refine at_iload_n 13 X rfl rfl dX12_tellsNothing_12 rfl ?_
      refine at_iconst 14 X (by decide) dX12_tellsNothing_13 rfl ?_
      refine m_iastore 15 X (KT_get (by omega) k_128) e_128 (by omega) (by omega) dX12_tellsNothing_14 rfl ?_
      refine at_iinc 18 X rfl dX12_tellsNothing_15 rfl (by decide) ?_
      refine at_goto 2 X dX12_tellsNothing_18 (by decide) ?_
      rw [Int.toNat_natCast, fil_succ, w32_id (by omega) (by omega), show (a : Int) + 1 = ((a + 1 : Nat) : Int) from rfl]
      exact ih (a + 1) (by omega) (by omega)
  refine at_iconst 1 X (by decide) dX12_tellsNothing_0 rfl ?_
  refine at_istore_n 2 X rfl dX12_tellsNothing_1 rfl (by decide) ?_
  have h := L0 9 0 (by omega) (by omega)
  rw [fil_zero] at h
  exact at_sub _ (by exact ⟨rfl, rfl, trivial⟩) h
theorem dX12_stands_0 : decode cX12_stands 0 = .ok (.iconst 0, 1) := by decide +kernel
theorem dX12_stands_1 : decode cX12_stands 1 = .ok (.istore_n 1, 1) := by decide +kernel
theorem dX12_stands_2 : decode cX12_stands 2 = .ok (.iload_n 1, 1) := by decide +kernel
theorem dX12_stands_3 : decode cX12_stands 3 = .ok (.bipush 8, 2) := by decide +kernel
theorem dX12_stands_5 : decode cX12_stands 5 = .ok (.if_icmp .ge 21, 3) := by decide +kernel
theorem dX12_stands_8 : decode cX12_stands 8 = .ok (.aload_n 0, 1) := by decide +kernel
theorem dX12_stands_9 : decode cX12_stands 9 = .ok (.getfield 23, 3) := by decide +kernel
theorem dX12_stands_12 : decode cX12_stands 12 = .ok (.iload_n 1, 1) := by decide +kernel
theorem dX12_stands_13 : decode cX12_stands 13 = .ok (.aload_n 0, 1) := by decide +kernel
theorem dX12_stands_14 : decode cX12_stands 14 = .ok (.getfield 20, 3) := by decide +kernel
theorem dX12_stands_17 : decode cX12_stands 17 = .ok (.iload_n 1, 1) := by decide +kernel
theorem dX12_stands_18 : decode cX12_stands 18 = .ok (.iaload, 1) := by decide +kernel
theorem dX12_stands_19 : decode cX12_stands 19 = .ok (.iastore, 1) := by decide +kernel
theorem dX12_stands_20 : decode cX12_stands 20 = .ok (.iinc 1 1, 3) := by decide +kernel
theorem dX12_stands_23 : decode cX12_stands 23 = .ok (.goto (-21), 3) := by decide +kernel
theorem dX12_stands_26 : decode cX12_stands 26 = .ok (.aload_n 0, 1) := by decide +kernel
theorem dX12_stands_27 : decode cX12_stands 27 = .ok (.getfield 28, 3) := by decide +kernel
theorem dX12_stands_30 : decode cX12_stands 30 = .ok (.aload_n 0, 1) := by decide +kernel
theorem dX12_stands_31 : decode cX12_stands 31 = .ok (.getfield 31, 3) := by decide +kernel
theorem dX12_stands_34 : decode cX12_stands 34 = .ok (.aload_n 0, 1) := by decide +kernel
theorem dX12_stands_35 : decode cX12_stands 35 = .ok (.getfield 23, 3) := by decide +kernel
theorem dX12_stands_38 : decode cX12_stands 38 = .ok (.iconst 1, 1) := by decide +kernel
theorem dX12_stands_39 : decode cX12_stands 39 = .ok (.iaload, 1) := by decide +kernel
theorem dX12_stands_40 : decode cX12_stands 40 = .ok (.invokestatic 254, 3) := by decide +kernel
theorem dX12_stands_43 : decode cX12_stands 43 = .ok (.aload_n 0, 1) := by decide +kernel
theorem dX12_stands_44 : decode cX12_stands 44 = .ok (.getfield 34, 3) := by decide +kernel
theorem dX12_stands_47 : decode cX12_stands 47 = .ok (.aload_n 0, 1) := by decide +kernel
theorem dX12_stands_48 : decode cX12_stands 48 = .ok (.getfield 37, 3) := by decide +kernel
theorem dX12_stands_51 : decode cX12_stands 51 = .ok (.aload_n 0, 1) := by decide +kernel
theorem dX12_stands_52 : decode cX12_stands 52 = .ok (.getfield 23, 3) := by decide +kernel
theorem dX12_stands_55 : decode cX12_stands 55 = .ok (.iconst 2, 1) := by decide +kernel
theorem dX12_stands_56 : decode cX12_stands 56 = .ok (.iaload, 1) := by decide +kernel
theorem dX12_stands_57 : decode cX12_stands 57 = .ok (.invokestatic 254, 3) := by decide +kernel
theorem dX12_stands_60 : decode cX12_stands 60 = .ok (.aload_n 0, 1) := by decide +kernel
theorem dX12_stands_61 : decode cX12_stands 61 = .ok (.getfield 40, 3) := by decide +kernel
theorem dX12_stands_64 : decode cX12_stands 64 = .ok (.aload_n 0, 1) := by decide +kernel
theorem dX12_stands_65 : decode cX12_stands 65 = .ok (.getfield 43, 3) := by decide +kernel
theorem dX12_stands_68 : decode cX12_stands 68 = .ok (.aload_n 0, 1) := by decide +kernel
theorem dX12_stands_69 : decode cX12_stands 69 = .ok (.getfield 23, 3) := by decide +kernel
theorem dX12_stands_72 : decode cX12_stands 72 = .ok (.iconst 3, 1) := by decide +kernel
theorem dX12_stands_73 : decode cX12_stands 73 = .ok (.iaload, 1) := by decide +kernel
theorem dX12_stands_74 : decode cX12_stands 74 = .ok (.invokestatic 254, 3) := by decide +kernel
theorem dX12_stands_77 : decode cX12_stands 77 = .ok (.aload_n 0, 1) := by decide +kernel
theorem dX12_stands_78 : decode cX12_stands 78 = .ok (.getfield 46, 3) := by decide +kernel
theorem dX12_stands_81 : decode cX12_stands 81 = .ok (.aload_n 0, 1) := by decide +kernel
theorem dX12_stands_82 : decode cX12_stands 82 = .ok (.getfield 49, 3) := by decide +kernel
theorem dX12_stands_85 : decode cX12_stands 85 = .ok (.aload_n 0, 1) := by decide +kernel
theorem dX12_stands_86 : decode cX12_stands 86 = .ok (.getfield 23, 3) := by decide +kernel
theorem dX12_stands_89 : decode cX12_stands 89 = .ok (.iconst 4, 1) := by decide +kernel
theorem dX12_stands_90 : decode cX12_stands 90 = .ok (.iaload, 1) := by decide +kernel
theorem dX12_stands_91 : decode cX12_stands 91 = .ok (.invokestatic 254, 3) := by decide +kernel
theorem dX12_stands_94 : decode cX12_stands 94 = .ok (.aload_n 0, 1) := by decide +kernel
theorem dX12_stands_95 : decode cX12_stands 95 = .ok (.getfield 52, 3) := by decide +kernel
theorem dX12_stands_98 : decode cX12_stands 98 = .ok (.aload_n 0, 1) := by decide +kernel
theorem dX12_stands_99 : decode cX12_stands 99 = .ok (.getfield 55, 3) := by decide +kernel
theorem dX12_stands_102 : decode cX12_stands 102 = .ok (.aload_n 0, 1) := by decide +kernel
theorem dX12_stands_103 : decode cX12_stands 103 = .ok (.getfield 23, 3) := by decide +kernel
theorem dX12_stands_106 : decode cX12_stands 106 = .ok (.iconst 5, 1) := by decide +kernel
theorem dX12_stands_107 : decode cX12_stands 107 = .ok (.iaload, 1) := by decide +kernel
theorem dX12_stands_108 : decode cX12_stands 108 = .ok (.invokestatic 254, 3) := by decide +kernel
theorem dX12_stands_111 : decode cX12_stands 111 = .ok (.aload_n 0, 1) := by decide +kernel
theorem dX12_stands_112 : decode cX12_stands 112 = .ok (.getfield 58, 3) := by decide +kernel
theorem dX12_stands_115 : decode cX12_stands 115 = .ok (.aload_n 0, 1) := by decide +kernel
theorem dX12_stands_116 : decode cX12_stands 116 = .ok (.getfield 61, 3) := by decide +kernel
theorem dX12_stands_119 : decode cX12_stands 119 = .ok (.aload_n 0, 1) := by decide +kernel
theorem dX12_stands_120 : decode cX12_stands 120 = .ok (.getfield 23, 3) := by decide +kernel
theorem dX12_stands_123 : decode cX12_stands 123 = .ok (.bipush 6, 2) := by decide +kernel
theorem dX12_stands_125 : decode cX12_stands 125 = .ok (.iaload, 1) := by decide +kernel
theorem dX12_stands_126 : decode cX12_stands 126 = .ok (.invokestatic 254, 3) := by decide +kernel
theorem dX12_stands_129 : decode cX12_stands 129 = .ok (.aload_n 0, 1) := by decide +kernel
theorem dX12_stands_130 : decode cX12_stands 130 = .ok (.getfield 64, 3) := by decide +kernel
theorem dX12_stands_133 : decode cX12_stands 133 = .ok (.aload_n 0, 1) := by decide +kernel
theorem dX12_stands_134 : decode cX12_stands 134 = .ok (.getfield 67, 3) := by decide +kernel
theorem dX12_stands_137 : decode cX12_stands 137 = .ok (.aload_n 0, 1) := by decide +kernel
theorem dX12_stands_138 : decode cX12_stands 138 = .ok (.getfield 23, 3) := by decide +kernel
theorem dX12_stands_141 : decode cX12_stands 141 = .ok (.bipush 6, 2) := by decide +kernel
theorem dX12_stands_143 : decode cX12_stands 143 = .ok (.iaload, 1) := by decide +kernel
theorem dX12_stands_144 : decode cX12_stands 144 = .ok (.invokestatic 254, 3) := by decide +kernel
theorem dX12_stands_147 : decode cX12_stands 147 = .ok (.aload_n 0, 1) := by decide +kernel
theorem dX12_stands_148 : decode cX12_stands 148 = .ok (.iconst 0, 1) := by decide +kernel
theorem dX12_stands_149 : decode cX12_stands 149 = .ok (.putfield 258, 3) := by decide +kernel
theorem dX12_stands_152 : decode cX12_stands 152 = .ok (.aload_n 0, 1) := by decide +kernel
theorem dX12_stands_153 : decode cX12_stands 153 = .ok (.dup, 1) := by decide +kernel
theorem dX12_stands_154 : decode cX12_stands 154 = .ok (.getfield 70, 3) := by decide +kernel
theorem dX12_stands_157 : decode cX12_stands 157 = .ok (.iconst 1, 1) := by decide +kernel
theorem dX12_stands_158 : decode cX12_stands 158 = .ok (.iadd, 1) := by decide +kernel
theorem dX12_stands_159 : decode cX12_stands 159 = .ok (.putfield 70, 3) := by decide +kernel
theorem dX12_stands_162 : decode cX12_stands 162 = .ok (.aload_n 0, 1) := by decide +kernel
theorem dX12_stands_163 : decode cX12_stands 163 = .ok (.iconst 0, 1) := by decide +kernel
theorem dX12_stands_164 : decode cX12_stands 164 = .ok (.putfield 261, 3) := by decide +kernel
theorem dX12_stands_167 : decode cX12_stands 167 = .ok (.aload_n 0, 1) := by decide +kernel
theorem dX12_stands_168 : decode cX12_stands 168 = .ok (.iconst 0, 1) := by decide +kernel
theorem dX12_stands_169 : decode cX12_stands 169 = .ok (.putfield 264, 3) := by decide +kernel
theorem dX12_stands_172 : decode cX12_stands 172 = .ok (.aload_n 0, 1) := by decide +kernel
theorem dX12_stands_173 : decode cX12_stands 173 = .ok (.iconst 0, 1) := by decide +kernel
theorem dX12_stands_174 : decode cX12_stands 174 = .ok (.putfield 267, 3) := by decide +kernel
theorem dX12_stands_177 : decode cX12_stands 177 = .ok (.aload_n 0, 1) := by decide +kernel
theorem dX12_stands_178 : decode cX12_stands 178 = .ok (.iconst 0, 1) := by decide +kernel
theorem dX12_stands_179 : decode cX12_stands 179 = .ok (.putfield 270, 3) := by decide +kernel
theorem dX12_stands_182 : decode cX12_stands 182 = .ok (.aload_n 0, 1) := by decide +kernel
theorem dX12_stands_183 : decode cX12_stands 183 = .ok (.iconst 0, 1) := by decide +kernel
theorem dX12_stands_184 : decode cX12_stands 184 = .ok (.putfield 273, 3) := by decide +kernel
theorem dX12_stands_187 : decode cX12_stands 187 = .ok (.return_, 1) := by decide +kernel
/-- what was read is what stands; T: the counts read -/
def standsE (E : Mm) (T : Nat → Nat) : Mm := wr (wr (wr (wr (wr (wr (wr (cpR (cpR (cpR (cpR (cpR (cpR (cpR (cp1 E 128 129 8) 130 141 2 (T 1) 0) 153 166 3 (T 2) 0) 179 183 3 (T 3) 0) 187 194 2 (T 4) 0) 201 208 2 (T 5) 0) 218 227 3 (T 6) 0) 236 245 20 (T 6) 0) 125 28 (0)) 125 30 (E 125 30 + 1)) 125 43 (0)) 125 44 (0)) 125 45 (0)) 125 46 (0)) 125 47 (0)
theorem ct_X12_stands {g : Gw} (hG : GF g) {z : Bool} {i : Nat} (hi : 813 ≤ i) (E : Mm) (T : Nat → Nat) (hT : ∀ k, k < 8 → E 128 k = (T k : Int)) (h1 : T 1 ≤ 10) (h2 : T 2 ≤ 12) (h3 : T 3 ≤ 3) (h4 : T 4 ≤ 6) (h5 : T 5 ≤ 6) (h6 : T 6 ≤ 8) (hs : 0 ≤ E 125 30 ∧ E 125 30 < 1000000) : CT g yX12_stands cX12_stands 2 none 1 24 0 0 (KT i) z [mR 125] (ov (E)) (KT i) z (fun r D' => r = none ∧ D' = ov (standsE E T)) := by
  refine CT.mk hG (by decide +kernel) (Nat.le_of_ble_eq_true rfl) (fun κ X Rt _ ok => ?_)
  have L1 : AT g κ (KT i) z 0 0 26 [(0, mR 125)] [] (ov (cp1 E 128 129 8)) := by
    refine at_aload_n 27 X rfl rfl dX12_stands_26 rfl ?_
    refine m_getR 30 X f_X12_28 (KT_get (by omega) k_125) r_125_13 dX12_stands_27 rfl ?_
    refine at_aload_n 31 X rfl rfl dX12_stands_30 rfl ?_
    refine m_getR 34 X f_X12_31 (KT_get (by omega) k_125) r_125_14 dX12_stands_31 rfl ?_
    refine at_aload_n 35 X rfl rfl dX12_stands_34 rfl ?_
    refine m_getR 38 X f_X12_23 (KT_get (by omega) k_125) r_125_12 dX12_stands_35 rfl ?_
    refine at_iconst 39 X (by decide) dX12_stands_38 rfl ?_
    refine m_iaload 40 X (KT_get (by omega) k_129) e_129 (by omega) (by omega) dX12_stands_39 rfl ?_
    simp (disch := omega) only [show (1 : Int).toNat = 1 from rfl, cpR_o, cp1_s, hT]
    refine at_callS 43 X (ct_X12_copies hG _ 130 141 10 11 2 (T 1) (grd_130 hi) (grd_141 hi) (by omega) (by omega) (by omega)) mo_X12_copies w_1742 so_X12_copies rfl rfl (crm Rt (by decide)) (Nat.le_of_ble_eq_true rfl) dX12_stands_40 rfl ?_
    rintro _ _ ⟨rfl, rfl⟩
    refine at_aload_n 44 X rfl rfl dX12_stands_43 rfl ?_
    refine m_getR 47 X f_X12_34 (KT_get (by omega) k_125) r_125_15 dX12_stands_44 rfl ?_
    refine at_aload_n 48 X rfl rfl dX12_stands_47 rfl ?_
    refine m_getR 51 X f_X12_37 (KT_get (by omega) k_125) r_125_16 dX12_stands_48 rfl ?_
    refine at_aload_n 52 X rfl rfl dX12_stands_51 rfl ?_
    refine m_getR 55 X f_X12_23 (KT_get (by omega) k_125) r_125_12 dX12_stands_52 rfl ?_
    refine at_iconst 56 X (by decide) dX12_stands_55 rfl ?_
    refine m_iaload 57 X (KT_get (by omega) k_129) e_129 (by omega) (by omega) dX12_stands_56 rfl ?_
    simp (disch := omega) only [show (2 : Int).toNat = 2 from rfl, cpR_o, cp1_s, hT]
    refine at_callS 60 X (ct_X12_copies hG _ 153 166 12 12 3 (T 2) (grd_153 hi) (grd_166 hi) (by omega) (by omega) (by omega)) mo_X12_copies w_1742 so_X12_copies rfl rfl (crm Rt (by decide)) (Nat.le_of_ble_eq_true rfl) dX12_stands_57 rfl ?_
    rintro _ _ ⟨rfl, rfl⟩
    refine at_aload_n 61 X rfl rfl dX12_stands_60 rfl ?_
    refine m_getR 64 X f_X12_40 (KT_get (by omega) k_125) r_125_17 dX12_stands_61 rfl ?_
    refine at_aload_n 65 X rfl rfl dX12_stands_64 rfl ?_
    refine m_getR 68 X f_X12_43 (KT_get (by omega) k_125) r_125_18 dX12_stands_65 rfl ?_
    refine at_aload_n 69 X rfl rfl dX12_stands_68 rfl ?_
    refine m_getR 72 X f_X12_23 (KT_get (by omega) k_125) r_125_12 dX12_stands_69 rfl ?_
    refine at_iconst 73 X (by decide) dX12_stands_72 rfl ?_
    refine m_iaload 74 X (KT_get (by omega) k_129) e_129 (by omega) (by omega) dX12_stands_73 rfl ?_
    simp (disch := omega) only [show (3 : Int).toNat = 3 from rfl, cpR_o, cp1_s, hT]
    refine at_callS 77 X (ct_X12_copies hG _ 179 183 3 3 3 (T 3) (grd_179 hi) (grd_183 hi) (by omega) (by omega) (by omega)) mo_X12_copies w_1742 so_X12_copies rfl rfl (crm Rt (by decide)) (Nat.le_of_ble_eq_true rfl) dX12_stands_74 rfl ?_
    rintro _ _ ⟨rfl, rfl⟩
    refine at_aload_n 78 X rfl rfl dX12_stands_77 rfl ?_
    refine m_getR 81 X f_X12_46 (KT_get (by omega) k_125) r_125_19 dX12_stands_78 rfl ?_
    refine at_aload_n 82 X rfl rfl dX12_stands_81 rfl ?_
    refine m_getR 85 X f_X12_49 (KT_get (by omega) k_125) r_125_20 dX12_stands_82 rfl ?_
    refine at_aload_n 86 X rfl rfl dX12_stands_85 rfl ?_
    refine m_getR 89 X f_X12_23 (KT_get (by omega) k_125) r_125_12 dX12_stands_86 rfl ?_
    refine at_iconst 90 X (by decide) dX12_stands_89 rfl ?_
    refine m_iaload 91 X (KT_get (by omega) k_129) e_129 (by omega) (by omega) dX12_stands_90 rfl ?_
    simp (disch := omega) only [show (4 : Int).toNat = 4 from rfl, cpR_o, cp1_s, hT]
    refine at_callS 94 X (ct_X12_copies hG _ 187 194 6 6 2 (T 4) (grd_187 hi) (grd_194 hi) (by omega) (by omega) (by omega)) mo_X12_copies w_1742 so_X12_copies rfl rfl (crm Rt (by decide)) (Nat.le_of_ble_eq_true rfl) dX12_stands_91 rfl ?_
    rintro _ _ ⟨rfl, rfl⟩
    refine at_aload_n 95 X rfl rfl dX12_stands_94 rfl ?_
    refine m_getR 98 X f_X12_52 (KT_get (by omega) k_125) r_125_21 dX12_stands_95 rfl ?_
    refine at_aload_n 99 X rfl rfl dX12_stands_98 rfl ?_
    refine m_getR 102 X f_X12_55 (KT_get (by omega) k_125) r_125_22 dX12_stands_99 rfl ?_
    refine at_aload_n 103 X rfl rfl dX12_stands_102 rfl ?_
    refine m_getR 106 X f_X12_23 (KT_get (by omega) k_125) r_125_12 dX12_stands_103 rfl ?_
    refine at_iconst 107 X (by decide) dX12_stands_106 rfl ?_
    refine m_iaload 108 X (KT_get (by omega) k_129) e_129 (by omega) (by omega) dX12_stands_107 rfl ?_
    simp (disch := omega) only [show (5 : Int).toNat = 5 from rfl, cpR_o, cp1_s, hT]
    refine at_callS 111 X (ct_X12_copies hG _ 201 208 6 9 2 (T 5) (grd_201 hi) (grd_208 hi) (by omega) (by omega) (by omega)) mo_X12_copies w_1742 so_X12_copies rfl rfl (crm Rt (by decide)) (Nat.le_of_ble_eq_true rfl) dX12_stands_108 rfl ?_
    rintro _ _ ⟨rfl, rfl⟩
    refine at_aload_n 112 X rfl rfl dX12_stands_111 rfl ?_
    refine m_getR 115 X f_X12_58 (KT_get (by omega) k_125) r_125_23 dX12_stands_112 rfl ?_
    refine at_aload_n 116 X rfl rfl dX12_stands_115 rfl ?_
    refine m_getR 119 X f_X12_61 (KT_get (by omega) k_125) r_125_24 dX12_stands_116 rfl ?_
    refine at_aload_n 120 X rfl rfl dX12_stands_119 rfl ?_
    refine m_getR 123 X f_X12_23 (KT_get (by omega) k_125) r_125_12 dX12_stands_120 rfl ?_
    refine at_bipush 125 X (by decide) (by decide) dX12_stands_123 rfl ?_
    refine m_iaload 126 X (KT_get (by omega) k_129) e_129 (by omega) (by omega) dX12_stands_125 rfl ?_
    simp (disch := omega) only [show (6 : Int).toNat = 6 from rfl, cpR_o, cp1_s, hT]
    refine at_callS 129 X (ct_X12_copies hG _ 218 227 8 8 3 (T 6) (grd_218 hi) (grd_227 hi) (by omega) (by omega) (by omega)) mo_X12_copies w_1742 so_X12_copies rfl rfl (crm Rt (by decide)) (Nat.le_of_ble_eq_true rfl) dX12_stands_126 rfl ?_
    rintro _ _ ⟨rfl, rfl⟩
    refine at_aload_n 130 X rfl rfl dX12_stands_129 rfl ?_
    refine m_getR 133 X f_X12_64 (KT_get (by omega) k_125) r_125_25 dX12_stands_130 rfl ?_
    refine at_aload_n 134 X rfl rfl dX12_stands_133 rfl ?_
    refine m_getR 137 X f_X12_67 (KT_get (by omega) k_125) r_125_26 dX12_stands_134 rfl ?_
    refine at_aload_n 138 X rfl rfl dX12_stands_137 rfl ?_
    refine m_getR 141 X f_X12_23 (KT_get (by omega) k_125) r_125_12 dX12_stands_138 rfl ?_
    refine at_bipush 143 X (by decide) (by decide) dX12_stands_141 rfl ?_
    refine m_iaload 144 X (KT_get (by omega) k_129) e_129 (by omega) (by omega) dX12_stands_143 rfl ?_
    simp (disch := omega) only [show (6 : Int).toNat = 6 from rfl, cpR_o, cp1_s, hT]
    refine at_callS 147 X (ct_X12_copies hG _ 236 245 8 8 20 (T 6) (grd_236 hi) (grd_245 hi) (by omega) (by omega) (by omega)) mo_X12_copies w_1742 so_X12_copies rfl rfl (crm Rt (by decide)) (Nat.le_of_ble_eq_true rfl) dX12_stands_144 rfl ?_
    rintro _ _ ⟨rfl, rfl⟩
    refine at_aload_n 148 X rfl rfl dX12_stands_147 rfl ?_
    refine at_iconst 149 X (by decide) dX12_stands_148 rfl ?_
    refine m_putI 152 X f_X12_258 fw_12_28 (KT_get (by omega) k_125) rn_125_28 dX12_stands_149 rfl ?_
    refine at_aload_n 153 X rfl rfl dX12_stands_152 rfl ?_
    refine at_dup 154 X (by decide) dX12_stands_153 rfl ?_
    refine m_getI 157 X f_X12_70 (KT_get (by omega) k_125) rn_125_30 dX12_stands_154 rfl ?_
    refine at_iconst 158 X (by decide) dX12_stands_157 rfl ?_
    refine at_iadd 159 X dX12_stands_158 rfl ?_
    simp (disch := omega) only [wr_o, cpR_o, cp1_o]
    rw [w32_id (by omega) (by omega)]
    refine m_putI 162 X f_X12_70 fw_12_30 (KT_get (by omega) k_125) rn_125_30 dX12_stands_159 rfl ?_
    refine at_aload_n 163 X rfl rfl dX12_stands_162 rfl ?_
    refine at_iconst 164 X (by decide) dX12_stands_163 rfl ?_
    refine m_putI 167 X f_X12_261 fw_12_43 (KT_get (by omega) k_125) rn_125_43 dX12_stands_164 rfl ?_
    refine at_aload_n 168 X rfl rfl dX12_stands_167 rfl ?_
    refine at_iconst 169 X (by decide) dX12_stands_168 rfl ?_
    refine m_putI 172 X f_X12_264 fw_12_44 (KT_get (by omega) k_125) rn_125_44 dX12_stands_169 rfl ?_
    refine at_aload_n 173 X rfl rfl dX12_stands_172 rfl ?_
    refine at_iconst 174 X (by decide) dX12_stands_173 rfl ?_
    refine m_putI 177 X f_X12_267 fw_12_45 (KT_get (by omega) k_125) rn_125_45 dX12_stands_174 rfl ?_
    refine at_aload_n 178 X rfl rfl dX12_stands_177 rfl ?_
    refine at_iconst 179 X (by decide) dX12_stands_178 rfl ?_
    refine m_putI 182 X f_X12_270 fw_12_46 (KT_get (by omega) k_125) rn_125_46 dX12_stands_179 rfl ?_
    refine at_aload_n 183 X rfl rfl dX12_stands_182 rfl ?_
    refine at_iconst 184 X (by decide) dX12_stands_183 rfl ?_
    refine m_putI 187 X f_X12_273 fw_12_47 (KT_get (by omega) k_125) rn_125_47 dX12_stands_184 rfl ?_
    refine at_vret X Rt ⟨rfl, rfl⟩ (Nat.le_refl _) (Nat.le_refl _) dX12_stands_187
  have L0 : ∀ (f a : Nat), 8 - a < f → a ≤ 8 → AT g κ (KT i) z 0 0 2 [(1, mI (a : Int)), (0, mR 125)] [] (ov (cp1 E 128 129 a)) := by
    intro f
    induction f with
    | zero => intro a h; omega
    | succ f ih =>
    intro a hf ha
    refine at_iload_n 3 X rfl rfl dX12_stands_2 rfl ?_
    refine at_bipush 5 X (by decide) (by decide) dX12_stands_3 rfl ?_
    refine at_icmp_ge 8 26 X dX12_stands_5 rfl (by decide) (fun h5 => ?_) (fun h5 => ?_)
    · rw [show a = 8 by omega]
      exact at_sub _ (by exact ⟨rfl, trivial⟩) L1
    · refine at_aload_n 9 X rfl rfl dX12_stands_8 rfl ?_
      refine m_getR 12 X f_X12_23 (KT_get (by omega) k_125) r_125_12 dX12_stands_9 rfl ?_
      refine at_iload_n 13 X rfl rfl dX12_stands_12 rfl ?_
      refine at_aload_n 14 X rfl rfl dX12_stands_13 rfl ?_
      refine m_getR 17 X f_X12_20 (KT_get (by omega) k_125) r_125_11 dX12_stands_14 rfl ?_
      refine at_iload_n 18 X rfl rfl dX12_stands_17 rfl ?_
      refine m_iaload 19 X (KT_get (by omega) k_128) e_128 (by omega) (by omega) dX12_stands_18 rfl ?_
      refine m_iastore 20 X (KT_get (by omega) k_129) e_129 (by omega) (by omega) dX12_stands_19 rfl ?_
      refine at_iinc 23 X rfl dX12_stands_20 rfl (by decide) ?_
      refine at_goto 2 X dX12_stands_23 (by decide) ?_
      rw [Int.toNat_natCast, cp1_step (by decide), w32_id (by omega) (by omega), show (a : Int) + 1 = ((a + 1 : Nat) : Int) from rfl]
      exact ih (a + 1) (by omega) (by omega)
  refine at_iconst 1 X (by decide) dX12_stands_0 rfl ?_
  refine at_istore_n 2 X rfl dX12_stands_1 rfl (by decide) ?_
  have h := L0 9 0 (by omega) (by omega)
  rw [cp1_zero] at h
  exact at_sub _ (by exact ⟨rfl, rfl, trivial⟩) h
