/-- the next left end, as the reference answers it -/
def neC (f : Nat → Nat) (a n : Nat) : Int := if 1000000 ≤ chN f a n then -1 else (fcN f a n : Nat)
def NE (f : Nat → Nat) (a y : Nat) (v m : Int) : Prop := (v = -1 ∧ chN f a y = 1000000) ∨ ∃ z : Nat, v = (z : Int) ∧ z < y ∧ m = (chN f a y : Nat) ∧ chN f a y ≤ 999999 ∧ csN a z (f z) = chN f a y ∧ ∀ w, w < z → ¬ csN a w (f w) = chN f a y
theorem chN_min {f : Nat → Nat} {a : Nat} : ∀ {n w : Nat}, w < n → chN f a n ≤ csN a w (f w)
  | n + 1, w, h => by
    rw [chN_s]
    by_cases c : w = n
    · subst c; split <;> omega
    · have := chN_min (f := f) (a := a) (n := n) (w := w) (by omega)
      split <;> omega
theorem NE_s {f : Nat → Nat} {a y : Nat} {v m : Int} (h : NE f a y v m) (hf : f y = 1000000 ∨ f y ≤ 960) (hd : dst a y ≤ 40) : (nvC (f y) = -1 → NE f a (y + 1) v m) ∧ (¬ nvC (f y) = -1 → ¬ v = -1 → m ≤ nvC (f y) + (dst a y : Nat) → NE f a (y + 1) v m) ∧ (¬ nvC (f y) = -1 → (v = -1 ∨ nvC (f y) + (dst a y : Nat) < m) → NE f a (y + 1) (y : Nat) (nvC (f y) + (dst a y : Nat))) := by
  have hl := chN_le f a y
  have hnv : nvC (f y) = -1 → f y = 1000000 := fun q => by unfold nvC at q; split at q <;> omega
  have hnv2 : ¬ nvC (f y) = -1 → nvC (f y) = (f y : Nat) ∧ f y ≤ 960 := fun q => by
    unfold nvC at q ⊢
    by_cases c : 1000000 ≤ f y
    · exact absurd (if_pos c) q
    · rw [if_neg c]; exact ⟨rfl, by omega⟩
  have keep : chN f a (y + 1) = chN f a y → NE f a (y + 1) v m := fun e => by
    unfold NE at h ⊢
    rw [e]
    rcases h with h | ⟨z, h1, h2, h3⟩
    · exact Or.inl h
    · exact Or.inr ⟨z, h1, by omega, h3⟩
  refine ⟨fun q => keep ?_, fun q q2 q3 => keep ?_, fun q q2 => ?_⟩
  · rw [chN_s]
    have e : csN a y (f y) = 1000000 := by unfold csN; rw [hnv q]; exact if_pos (by omega)
    rw [e, if_pos hl]
  · obtain ⟨e1, e2⟩ := hnv2 q
    have e : csN a y (f y) = dst a y + f y := if_neg (by omega)
    rcases h with h | ⟨z, h1, h2, h3, -⟩
    · exact absurd h.1 q2
    · rw [chN_s, e, if_pos (by omega)]
  · obtain ⟨e1, e2⟩ := hnv2 q
    have e : csN a y (f y) = dst a y + f y := if_neg (by omega)
    have hlt : ¬ chN f a y ≤ csN a y (f y) := by
      rcases h with h | ⟨z, h1, h2, h3, -⟩
      · omega
      · omega
    have en : chN f a (y + 1) = dst a y + f y := by rw [chN_s, if_neg hlt, e]
    refine Or.inr ⟨y, rfl, by omega, by omega, by omega, by omega, fun w hw => ?_⟩
    have := chN_min (f := f) (a := a) hw
    omega
theorem NE_end {f : Nat → Nat} {a n : Nat} {v m : Int} (h : NE f a n v m) : v = neC f a n := by
  unfold neC
  rcases h with h | ⟨z, h1, h2, h3, h4, h5, h6⟩
  · rw [if_pos (by omega)]; exact h.1
  · rw [if_neg (by omega), h1]
    have hf := fst_at (q := fun x => decide (csN a x (f x) = chN f a n)) (i := z) (fun w hw => by rw [decide_eq_true_iff]; exact h6 w hw) (decide_eq_true h5) h2
    unfold fcN
    rw [if_neg (by rw [hf]; omega), hf]
    rfl
theorem neC_none {f : Nat → Nat} {a n : Nat} : neC f a n = -1 ↔ 1000000 ≤ chN f a n := by
  unfold neC
  split <;> omega
theorem chN_hit {f : Nat → Nat} {a : Nat} : ∀ {n : Nat}, chN f a n ≤ 999999 → ∃ w, w < n ∧ csN a w (f w) = chN f a n
  | 0, h => absurd h (by show ¬ 1000000 ≤ 999999; decide)
  | n + 1, h => by
    rw [chN_s] at h ⊢
    by_cases c : chN f a n ≤ csN a n (f n)
    · rw [if_pos c] at h ⊢
      obtain ⟨w, h1, h2⟩ := chN_hit h
      exact ⟨w, by omega, h2⟩
    · rw [if_neg c]
      exact ⟨n, by omega, rfl⟩
theorem neC_at {f : Nat → Nat} {a n : Nat} (h : ¬ neC f a n = -1) : neC f a n = (fcN f a n : Nat) ∧ fcN f a n < n ∧ csN a (fcN f a n) (f (fcN f a n)) = chN f a n ∧ chN f a n ≤ 999999 ∧ csN a (fcN f a n) (f (fcN f a n)) = dst a (fcN f a n) + f (fcN f a n) ∧ f (fcN f a n) ≤ 999999 := by
  have h1 : chN f a n ≤ 999999 := by
    have := (not_congr (neC_none (f := f) (a := a) (n := n))).mp h
    omega
  obtain ⟨w, hw, hw2⟩ := chN_hit h1
  have h2 : fcN f a n < n ∧ csN a (fcN f a n) (f (fcN f a n)) = chN f a n := by
    unfold fcN
    have hin := fst_in (fun x => decide (csN a x (f x) = chN f a n)) n
    by_cases c : fstP (fun x => decide (csN a x (f x) = chN f a n)) n = -1
    · have hn : ∀ m, (∀ i, i < m → ¬ (decide (csN a i (f i) = chN f a n)) = true) ∨ ∃ i, i < m ∧ (decide (csN a i (f i) = chN f a n)) = true ∧ ∀ j, j < i → ¬ (decide (csN a j (f j) = chN f a n)) = true := fun m => by
        induction m with
        | zero => exact Or.inl (fun i hi => absurd hi (Nat.not_lt_zero i))
        | succ m ih =>
          rcases ih with ih | ⟨i, q1, q2, q3⟩
          · by_cases e : (decide (csN a m (f m) = chN f a n)) = true
            · exact Or.inr ⟨m, by omega, e, ih⟩
            · exact Or.inl (fun i hi => if k : i = m then by rw [k]; exact e else ih i (by omega))
          · exact Or.inr ⟨i, by omega, q2, q3⟩
      rcases hn n with q | ⟨i, q1, q2, q3⟩
      · exact absurd (decide_eq_true hw2) (q w hw)
      · have := fst_at (q := fun x => decide (csN a x (f x) = chN f a n)) q3 q2 q1
        omega
    · rw [if_neg c]
      obtain ⟨z, hz⟩ : ∃ z : Nat, fstP (fun x => decide (csN a x (f x) = chN f a n)) n = (z : Int) := ⟨(fstP (fun x => decide (csN a x (f x) = chN f a n)) n).toNat, by omega⟩
      have hq : ∀ m, fstP (fun x => decide (csN a x (f x) = chN f a n)) m = (z : Int) → csN a z (f z) = chN f a n := fun m => by
        induction m with
        | zero => intro q; have q' : (-1 : Int) = z := q; omega
        | succ m ih =>
          intro q
          rw [fst_s] at q
          by_cases e : fstP (fun x => decide (csN a x (f x) = chN f a n)) m = -1 ∧ decide (csN a m (f m) = chN f a n) = true
          · rw [if_pos e] at q
            have : m = z := by omega
            subst this
            exact of_decide_eq_true e.2
          · rw [if_neg e] at q; exact ih q
      rw [hz] at hin ⊢
      exact ⟨by omega, hq n hz⟩
  have h3 : csN a (fcN f a n) (f (fcN f a n)) = dst a (fcN f a n) + f (fcN f a n) := by
    have : csN a (fcN f a n) (f (fcN f a n)) ≤ 999999 := by omega
    unfold csN at this ⊢
    split at this <;> first | omega | (rw [if_neg (by assumption)])
  refine ⟨?_, h2.1, h2.2, h1, h3, by omega⟩
  unfold neC
  rw [if_neg (by omega)]
theorem dX12_nextEnd_0 : decode cX12_nextEnd 0 = .ok (.iconst (-1), 1) := by decide +kernel
theorem dX12_nextEnd_1 : decode cX12_nextEnd 1 = .ok (.istore 4, 2) := by decide +kernel
theorem dX12_nextEnd_3 : decode cX12_nextEnd 3 = .ok (.iconst 0, 1) := by decide +kernel
theorem dX12_nextEnd_4 : decode cX12_nextEnd 4 = .ok (.istore 5, 2) := by decide +kernel
theorem dX12_nextEnd_6 : decode cX12_nextEnd 6 = .ok (.iconst 0, 1) := by decide +kernel
theorem dX12_nextEnd_7 : decode cX12_nextEnd 7 = .ok (.istore 6, 2) := by decide +kernel
theorem dX12_nextEnd_9 : decode cX12_nextEnd 9 = .ok (.iload 6, 2) := by decide +kernel
theorem dX12_nextEnd_11 : decode cX12_nextEnd 11 = .ok (.aload_n 0, 1) := by decide +kernel
theorem dX12_nextEnd_12 : decode cX12_nextEnd 12 = .ok (.iload_n 1, 1) := by decide +kernel
theorem dX12_nextEnd_13 : decode cX12_nextEnd 13 = .ok (.invokevirtual 410, 3) := by decide +kernel
theorem dX12_nextEnd_16 : decode cX12_nextEnd 16 = .ok (.if_icmp .ge 72, 3) := by decide +kernel
theorem dX12_nextEnd_19 : decode cX12_nextEnd 19 = .ok (.aload_n 0, 1) := by decide +kernel
theorem dX12_nextEnd_20 : decode cX12_nextEnd 20 = .ok (.getfield 136, 3) := by decide +kernel
theorem dX12_nextEnd_23 : decode cX12_nextEnd 23 = .ok (.iload_n 3, 1) := by decide +kernel
theorem dX12_nextEnd_24 : decode cX12_nextEnd 24 = .ok (.aaload, 1) := by decide +kernel
theorem dX12_nextEnd_25 : decode cX12_nextEnd 25 = .ok (.iload 6, 2) := by decide +kernel
theorem dX12_nextEnd_27 : decode cX12_nextEnd 27 = .ok (.iaload, 1) := by decide +kernel
theorem dX12_nextEnd_28 : decode cX12_nextEnd 28 = .ok (.iconst (-1), 1) := by decide +kernel
theorem dX12_nextEnd_29 : decode cX12_nextEnd 29 = .ok (.if_icmp .ne 6, 3) := by decide +kernel
theorem dX12_nextEnd_32 : decode cX12_nextEnd 32 = .ok (.goto 50, 3) := by decide +kernel
theorem dX12_nextEnd_35 : decode cX12_nextEnd 35 = .ok (.aload_n 0, 1) := by decide +kernel
theorem dX12_nextEnd_36 : decode cX12_nextEnd 36 = .ok (.getfield 136, 3) := by decide +kernel
theorem dX12_nextEnd_39 : decode cX12_nextEnd 39 = .ok (.iload_n 3, 1) := by decide +kernel
theorem dX12_nextEnd_40 : decode cX12_nextEnd 40 = .ok (.aaload, 1) := by decide +kernel
theorem dX12_nextEnd_41 : decode cX12_nextEnd 41 = .ok (.iload 6, 2) := by decide +kernel
theorem dX12_nextEnd_43 : decode cX12_nextEnd 43 = .ok (.iaload, 1) := by decide +kernel
theorem dX12_nextEnd_44 : decode cX12_nextEnd 44 = .ok (.iload_n 2, 1) := by decide +kernel
theorem dX12_nextEnd_45 : decode cX12_nextEnd 45 = .ok (.iload 6, 2) := by decide +kernel
theorem dX12_nextEnd_47 : decode cX12_nextEnd 47 = .ok (.isub, 1) := by decide +kernel
theorem dX12_nextEnd_48 : decode cX12_nextEnd 48 = .ok (.iload 6, 2) := by decide +kernel
theorem dX12_nextEnd_50 : decode cX12_nextEnd 50 = .ok (.iload_n 2, 1) := by decide +kernel
theorem dX12_nextEnd_51 : decode cX12_nextEnd 51 = .ok (.isub, 1) := by decide +kernel
theorem dX12_nextEnd_52 : decode cX12_nextEnd 52 = .ok (.invokestatic 304, 3) := by decide +kernel
theorem dX12_nextEnd_55 : decode cX12_nextEnd 55 = .ok (.iadd, 1) := by decide +kernel
theorem dX12_nextEnd_56 : decode cX12_nextEnd 56 = .ok (.istore 7, 2) := by decide +kernel
theorem dX12_nextEnd_58 : decode cX12_nextEnd 58 = .ok (.iload 4, 2) := by decide +kernel
theorem dX12_nextEnd_60 : decode cX12_nextEnd 60 = .ok (.iconst (-1), 1) := by decide +kernel
theorem dX12_nextEnd_61 : decode cX12_nextEnd 61 = .ok (.if_icmp .eq 13, 3) := by decide +kernel
theorem dX12_nextEnd_64 : decode cX12_nextEnd 64 = .ok (.iload 7, 2) := by decide +kernel
theorem dX12_nextEnd_66 : decode cX12_nextEnd 66 = .ok (.iload 5, 2) := by decide +kernel
theorem dX12_nextEnd_68 : decode cX12_nextEnd 68 = .ok (.if_icmp .lt 6, 3) := by decide +kernel
theorem dX12_nextEnd_71 : decode cX12_nextEnd 71 = .ok (.goto 11, 3) := by decide +kernel
theorem dX12_nextEnd_74 : decode cX12_nextEnd 74 = .ok (.iload 6, 2) := by decide +kernel
theorem dX12_nextEnd_76 : decode cX12_nextEnd 76 = .ok (.istore 4, 2) := by decide +kernel
theorem dX12_nextEnd_78 : decode cX12_nextEnd 78 = .ok (.iload 7, 2) := by decide +kernel
theorem dX12_nextEnd_80 : decode cX12_nextEnd 80 = .ok (.istore 5, 2) := by decide +kernel
theorem dX12_nextEnd_82 : decode cX12_nextEnd 82 = .ok (.iinc 6 1, 3) := by decide +kernel
theorem dX12_nextEnd_85 : decode cX12_nextEnd 85 = .ok (.goto (-76), 3) := by decide +kernel
theorem dX12_nextEnd_88 : decode cX12_nextEnd 88 = .ok (.iload 4, 2) := by decide +kernel
theorem dX12_nextEnd_90 : decode cX12_nextEnd 90 = .ok (.ireturn, 1) := by decide +kernel
theorem ct_X12_nextEnd {g : Gw} (hG : GF g) {z : Bool} (E : Mm) (P : SP) (Q : RX) (hP : WS P) (hR_E : RTS E P Q) (f : Nat → Nat) (b a h : Nat) (hb : b < bN (sB P)) (hl : bL (sB P) b ≤ sW P) (hh : h < 24) (ha : a ≤ 40) (hr : ∀ x, x < (sW P + 1 - bL (sB P) b) → E (786 + h) x = nvC (f x)) (hfl : ∀ x, x < (sW P + 1 - bL (sB P) b) → f x = 1000000 ∨ f x ≤ 960) : CT g yX12_nextEnd cX12_nextEnd 8 (some .int) 1 21 0 0 K2 z [mR 125, mI ((b : Nat) : Int), mI ((a : Nat) : Int), mI ((h : Nat) : Int)] (ov E) K2 z (fun r D' => r = some (mI (neC f a (sW P + 1 - bL (sB P) b))) ∧ D' = ov E) := by
  refine CT.mk hG (by decide +kernel) (Nat.le_of_ble_eq_true rfl) (fun κ X Rt _ ok => ?_)
  have hN8 := hP.B.N
  have hW40 := hP.W
  have hlb := hP.B.L (b := b) hb
  refine at_iconst 1 X (by decide) dX12_nextEnd_0 rfl ?_
  refine at_istore 3 X dX12_nextEnd_1 rfl (by decide) ?_
  refine at_iconst 4 X (by decide) dX12_nextEnd_3 rfl ?_
  refine at_istore 6 X dX12_nextEnd_4 rfl (by decide) ?_
  refine at_iconst 7 X (by decide) dX12_nextEnd_6 rfl ?_
  refine at_istore 9 X dX12_nextEnd_7 rfl (by decide) ?_
  have J9 : ∀ (f9 : Nat) (y : Nat) (v : Int) (m : Int), 42 - y < f9 → (y ≤ (sW P + 1 - bL (sB P) b)) → (NE f a y v m) → (0 ≤ m ∧ m ≤ 1000040) → AT g κ K2 z 0 0 9 [(0, mR 125), (1, mI ((b : Nat) : Int)), (2, mI ((a : Nat) : Int)), (3, mI ((h : Nat) : Int)), (4, mI v), (5, mI m), (6, mI ((y : Nat) : Int))] [] (ov E) := by
    intro f9
    induction f9 with
    | zero => intro y v m hf9; omega
    | succ f9 ih9 =>
    intro y v m hf9 hy hne hml
    refine at_iload 11 X rfl dX12_nextEnd_9 rfl ?_
    refine at_aload_n 12 X rfl rfl dX12_nextEnd_11 rfl ?_
    refine at_iload_n 13 X rfl rfl dX12_nextEnd_12 rfl ?_
    refine at_callV 16 X _ 12 (ct_X12_endsOf hG E P Q hP hR_E b hb hl) clX12 rfl k_125 mo_X12_endsOf w_2269 vo_X12_endsOf.1 vo_X12_endsOf.2 rfl rfl (crm Rt (by decide)) (Nat.le_of_ble_eq_true rfl) dX12_nextEnd_13 rfl ?_
    rintro _ _ ⟨rfl, rfl⟩
    refine at_icmp_ge 19 88 X dX12_nextEnd_16 rfl (by decide) (fun h16 => ?_) (fun h16 => ?_)
    · refine at_iload 90 X rfl dX12_nextEnd_88 rfl ?_
      refine at_iret X Rt ?_ (Nat.le_refl _) (Nat.le_refl _) dX12_nextEnd_90
      exact ⟨by rw [NE_end hne, show y = (sW P + 1 - bL (sB P) b) by omega], rfl⟩
    · have hdd : dst a y ≤ 40 := by unfold dst; split <;> omega
      have hns := NE_s hne (hfl y (by omega)) hdd
      refine at_aload_n 20 X rfl rfl dX12_nextEnd_19 rfl ?_
      refine m_getR 23 X f_X12_136 k_125 r_125_61 dX12_nextEnd_20 rfl ?_
      refine at_iload_n 24 X rfl rfl dX12_nextEnd_23 rfl ?_
      refine m_aaloadV 25 X h (by omega) k_785 (by decide) (by omega) (rr_785 _ (by omega)) dX12_nextEnd_24 rfl ?_
      refine at_iload 27 X rfl dX12_nextEnd_25 rfl ?_
      refine m_ialoadV 28 X y (by omega) (nvC (f y)) (hr y (by omega)) (kr_785 _ (by omega)) (er_785 _ (by omega)) (by omega) dX12_nextEnd_27 rfl ?_
      have hnvl : -1 ≤ nvC (f y) ∧ nvC (f y) ≤ 1000000 := by have := hfl y (by omega); unfold nvC; split <;> omega
      refine at_iconst 29 X (by decide) dX12_nextEnd_28 rfl ?_
      refine at_icmp_ne 32 35 X dX12_nextEnd_29 rfl (by decide) (fun h29 => ?_) (fun h29 => ?_)
      · refine at_aload_n 36 X rfl rfl dX12_nextEnd_35 rfl ?_
        refine m_getR 39 X f_X12_136 k_125 r_125_61 dX12_nextEnd_36 rfl ?_
        refine at_iload_n 40 X rfl rfl dX12_nextEnd_39 rfl ?_
        refine m_aaloadV 41 X h (by omega) k_785 (by decide) (by omega) (rr_785 _ (by omega)) dX12_nextEnd_40 rfl ?_
        refine at_iload 43 X rfl dX12_nextEnd_41 rfl ?_
        refine m_ialoadV 44 X y (by omega) (nvC (f y)) (hr y (by omega)) (kr_785 _ (by omega)) (er_785 _ (by omega)) (by omega) dX12_nextEnd_43 rfl ?_
        have hnvl : -1 ≤ nvC (f y) ∧ nvC (f y) ≤ 1000000 := by have := hfl y (by omega); unfold nvC; split <;> omega
        refine at_iload_n 45 X rfl rfl dX12_nextEnd_44 rfl ?_
        refine at_iload 47 X rfl dX12_nextEnd_45 rfl ?_
        refine at_isubV 48 X (((a : Nat) : Int) - ((y : Nat) : Int)) (w32_v rfl (by omega) (by omega)) dX12_nextEnd_47 rfl ?_
        refine at_iload 50 X rfl dX12_nextEnd_48 rfl ?_
        refine at_iload_n 51 X rfl rfl dX12_nextEnd_50 rfl ?_
        refine at_isubV 52 X (((y : Nat) : Int) - ((a : Nat) : Int)) (w32_v rfl (by omega) (by omega)) dX12_nextEnd_51 rfl ?_
        refine at_callS 55 X (ct_X12_more hG E (((a : Nat) : Int) - ((y : Nat) : Int)) (((y : Nat) : Int) - ((a : Nat) : Int))) mo_X12_more w_2091 so_X12_more rfl rfl (crm Rt (by decide)) (Nat.le_of_ble_eq_true rfl) dX12_nextEnd_52 rfl ?_
        rintro _ _ ⟨rfl, rfl⟩
        rw [show (if (((y : Nat) : Int) - ((a : Nat) : Int)) < (((a : Nat) : Int) - ((y : Nat) : Int)) then (((a : Nat) : Int) - ((y : Nat) : Int)) else (((y : Nat) : Int) - ((a : Nat) : Int))) = ((dst a y : Nat) : Int) from by unfold dst; split <;> split <;> omega]
        have hdl : dst a y ≤ 40 := by unfold dst; split <;> omega
        refine at_iaddV 56 X ((nvC (f y)) + ((dst a y : Nat) : Int)) (w32_v rfl (by omega) (by omega)) dX12_nextEnd_55 rfl ?_
        refine at_istore 58 X dX12_nextEnd_56 rfl (by decide) ?_
        refine at_iload 60 X rfl dX12_nextEnd_58 rfl ?_
        refine at_iconst 61 X (by decide) dX12_nextEnd_60 rfl ?_
        refine at_icmp_eq 64 74 X dX12_nextEnd_61 rfl (by decide) (fun h61 => ?_) (fun h61 => ?_)
        · refine at_iload 76 X rfl dX12_nextEnd_74 rfl ?_
          refine at_istore 78 X dX12_nextEnd_76 rfl (by decide) ?_
          refine at_iload 80 X rfl dX12_nextEnd_78 rfl ?_
          refine at_istore 82 X dX12_nextEnd_80 rfl (by decide) ?_
          refine at_iincV 85 X ((y + 1 : Nat) : Int) (w32_v (by omega) (by omega) (by omega)) rfl dX12_nextEnd_82 rfl (by decide) ?_
          refine at_goto 9 X dX12_nextEnd_85 (by decide) ?_
          exact at_sub _ (by exact ⟨rfl, rfl, rfl, rfl, rfl, rfl, rfl, trivial⟩) (ih9 (y + 1) ((y : Nat) : Int) ((nvC (f y)) + ((dst a y : Nat) : Int)) (by first | omega | (simp only [] at *; omega)) (by first | omega | assumption) (by first | exact hns.1 h29 | exact hns.1 (by omega) | exact hns.2.1 (by omega) (by omega) (by omega) | exact hns.2.2 (by omega) (Or.inl (by omega)) | exact hns.2.2 (by omega) (Or.inr (by omega))) (by omega))
        · refine at_iload 66 X rfl dX12_nextEnd_64 rfl ?_
          refine at_iload 68 X rfl dX12_nextEnd_66 rfl ?_
          refine at_icmp_lt 71 74 X dX12_nextEnd_68 rfl (by decide) (fun h68 => ?_) (fun h68 => ?_)
          · refine at_iload 76 X rfl dX12_nextEnd_74 rfl ?_
            refine at_istore 78 X dX12_nextEnd_76 rfl (by decide) ?_
            refine at_iload 80 X rfl dX12_nextEnd_78 rfl ?_
            refine at_istore 82 X dX12_nextEnd_80 rfl (by decide) ?_
            refine at_iincV 85 X ((y + 1 : Nat) : Int) (w32_v (by omega) (by omega) (by omega)) rfl dX12_nextEnd_82 rfl (by decide) ?_
            refine at_goto 9 X dX12_nextEnd_85 (by decide) ?_
            exact at_sub _ (by exact ⟨rfl, rfl, rfl, rfl, rfl, rfl, rfl, trivial⟩) (ih9 (y + 1) ((y : Nat) : Int) ((nvC (f y)) + ((dst a y : Nat) : Int)) (by first | omega | (simp only [] at *; omega)) (by first | omega | assumption) (by first | exact hns.1 h29 | exact hns.1 (by omega) | exact hns.2.1 (by omega) (by omega) (by omega) | exact hns.2.2 (by omega) (Or.inl (by omega)) | exact hns.2.2 (by omega) (Or.inr (by omega))) (by omega))
          · refine at_goto 82 X dX12_nextEnd_71 (by decide) ?_
            refine at_iincV 85 X ((y + 1 : Nat) : Int) (w32_v (by omega) (by omega) (by omega)) rfl dX12_nextEnd_82 rfl (by decide) ?_
            refine at_goto 9 X dX12_nextEnd_85 (by decide) ?_
            exact at_sub _ (by exact ⟨rfl, rfl, rfl, rfl, rfl, rfl, rfl, trivial⟩) (ih9 (y + 1) v m (by first | omega | (simp only [] at *; omega)) (by first | omega | assumption) (by first | exact hns.1 h29 | exact hns.1 (by omega) | exact hns.2.1 (by omega) (by omega) (by omega) | exact hns.2.2 (by omega) (Or.inl (by omega)) | exact hns.2.2 (by omega) (Or.inr (by omega))) (by omega))
      · refine at_goto 82 X dX12_nextEnd_32 (by decide) ?_
        refine at_iincV 85 X ((y + 1 : Nat) : Int) (w32_v (by omega) (by omega) (by omega)) rfl dX12_nextEnd_82 rfl (by decide) ?_
        refine at_goto 9 X dX12_nextEnd_85 (by decide) ?_
        exact at_sub _ (by exact ⟨rfl, rfl, rfl, rfl, rfl, rfl, rfl, trivial⟩) (ih9 (y + 1) v m (by first | omega | (simp only [] at *; omega)) (by first | omega | assumption) (by first | exact hns.1 h29 | exact hns.1 (by omega) | exact hns.2.1 (by omega) (by omega) (by omega) | exact hns.2.2 (by omega) (Or.inl (by omega)) | exact hns.2.2 (by omega) (Or.inr (by omega))) (by omega))
  exact at_sub _ (by exact ⟨rfl, rfl, rfl, rfl, rfl, rfl, rfl, trivial⟩) (J9 _ 0 (-1) 0 (Nat.lt_succ_self _) (by first | omega | assumption | rfl) (Or.inl ⟨rfl, rfl⟩) (by first | omega | assumption | rfl))
