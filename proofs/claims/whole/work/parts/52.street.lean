theorem moon_fix {P : SP} {d m : Nat} (e : itr (fun m v => if v = -1 ∧ d % sMb P m = sMl P m then (m : Int) else v) (-1) (m + 1) = m) : ∀ {n : Nat}, m + 1 ≤ n → itr (fun m v => if v = -1 ∧ d % sMb P m = sMl P m then (m : Int) else v) (-1) n = m
  | 0, h => by omega
  | n + 1, h => by
    by_cases c : m = n
    · subst c; exact e
    · rw [itr_s, moon_fix e (by omega), if_neg (by omega)]
theorem moonP_in (P : SP) (d : Nat) : -1 ≤ moonP P d ∧ moonP P d < sM P := by
  unfold moonP
  induction sM P with
  | zero => exact ⟨Int.le_refl _, show (-1 : Int) < 0 by decide⟩
  | succ n ih =>
    rw [itr_s]
    split <;> omega
theorem dX9_moonOf_0 : decode cX9_moonOf 0 = .ok (.iconst 0, 1) := by decide +kernel
theorem dX9_moonOf_1 : decode cX9_moonOf 1 = .ok (.istore_n 2, 1) := by decide +kernel
theorem dX9_moonOf_2 : decode cX9_moonOf 2 = .ok (.iload_n 2, 1) := by decide +kernel
theorem dX9_moonOf_3 : decode cX9_moonOf 3 = .ok (.aload_n 0, 1) := by decide +kernel
theorem dX9_moonOf_4 : decode cX9_moonOf 4 = .ok (.getfield 56, 3) := by decide +kernel
theorem dX9_moonOf_7 : decode cX9_moonOf 7 = .ok (.if_icmp .ge 37, 3) := by decide +kernel
theorem dX9_moonOf_10 : decode cX9_moonOf 10 = .ok (.aload_n 0, 1) := by decide +kernel
theorem dX9_moonOf_11 : decode cX9_moonOf 11 = .ok (.getfield 24, 3) := by decide +kernel
theorem dX9_moonOf_14 : decode cX9_moonOf 14 = .ok (.iload_n 2, 1) := by decide +kernel
theorem dX9_moonOf_15 : decode cX9_moonOf 15 = .ok (.iaload, 1) := by decide +kernel
theorem dX9_moonOf_16 : decode cX9_moonOf 16 = .ok (.ifCond .le 22, 3) := by decide +kernel
theorem dX9_moonOf_19 : decode cX9_moonOf 19 = .ok (.iload_n 1, 1) := by decide +kernel
theorem dX9_moonOf_20 : decode cX9_moonOf 20 = .ok (.aload_n 0, 1) := by decide +kernel
theorem dX9_moonOf_21 : decode cX9_moonOf 21 = .ok (.getfield 24, 3) := by decide +kernel
theorem dX9_moonOf_24 : decode cX9_moonOf 24 = .ok (.iload_n 2, 1) := by decide +kernel
theorem dX9_moonOf_25 : decode cX9_moonOf 25 = .ok (.iaload, 1) := by decide +kernel
theorem dX9_moonOf_26 : decode cX9_moonOf 26 = .ok (.irem, 1) := by decide +kernel
theorem dX9_moonOf_27 : decode cX9_moonOf 27 = .ok (.aload_n 0, 1) := by decide +kernel
theorem dX9_moonOf_28 : decode cX9_moonOf 28 = .ok (.getfield 27, 3) := by decide +kernel
theorem dX9_moonOf_31 : decode cX9_moonOf 31 = .ok (.iload_n 2, 1) := by decide +kernel
theorem dX9_moonOf_32 : decode cX9_moonOf 32 = .ok (.iaload, 1) := by decide +kernel
theorem dX9_moonOf_33 : decode cX9_moonOf 33 = .ok (.if_icmp .ne 5, 3) := by decide +kernel
theorem dX9_moonOf_36 : decode cX9_moonOf 36 = .ok (.iload_n 2, 1) := by decide +kernel
theorem dX9_moonOf_37 : decode cX9_moonOf 37 = .ok (.ireturn, 1) := by decide +kernel
theorem dX9_moonOf_38 : decode cX9_moonOf 38 = .ok (.iinc 2 1, 3) := by decide +kernel
theorem dX9_moonOf_41 : decode cX9_moonOf 41 = .ok (.goto (-39), 3) := by decide +kernel
theorem dX9_moonOf_44 : decode cX9_moonOf 44 = .ok (.iconst (-1), 1) := by decide +kernel
theorem dX9_moonOf_45 : decode cX9_moonOf 45 = .ok (.ireturn, 1) := by decide +kernel
theorem ct_X9_moonOf {g : Gw} (hG : GF g) {z : Bool} (E : Mm) (P : SP) (s : Nat) (hs : s = 68 ∨ s = 83) (hS : CS E s P) (hP : WS P) (d : Nat) (hd : d < 400) : CT g yX9_moonOf cX9_moonOf 3 (some .int) 0 0 0 0 K2 z [mR s, mI ((d : Nat) : Int)] (ov E) K2 z (fun r D' => r = some (mI (moonP P d)) ∧ D' = ov E) := by
  refine CT.mk hG (by decide +kernel) (Nat.le_of_ble_eq_true rfl) (fun κ X Rt _ ok => ?_)
  refine at_iconst 1 X (by decide) dX9_moonOf_0 rfl ?_
  refine at_istore_n 2 X rfl dX9_moonOf_1 rfl (by decide) ?_
  have J2 : ∀ (f2 : Nat) (m : Nat), 3 - m < f2 → m ≤ sM P → itr (fun m v => if v = -1 ∧ d % sMb P m = sMl P m then (m : Int) else v) (-1) m = -1 → AT g κ K2 z 0 0 2 [(0, mR s), (1, mI ((d : Nat) : Int)), (2, mI ((m : Nat) : Int))] [] (ov E) := by
    intro f2
    induction f2 with
    | zero => intro m hf2; omega
    | succ f2 ih2 =>
    intro m hf2 hm hv
    refine at_iload_n 3 X rfl rfl dX9_moonOf_2 rfl ?_
    refine at_aload_n 4 X rfl rfl dX9_moonOf_3 rfl ?_
    refine m_getIV 7 X ((sM P : Nat) : Int) hS.M f_X9_56 (kX9 hs) (nX9_12 hs) dX9_moonOf_4 rfl ?_
    have := hP.M
    refine at_icmp_ge 10 44 X dX9_moonOf_7 rfl (by decide) (fun h7 => ?_) (fun h7 => ?_)
    · refine at_iconst 45 X (by decide) dX9_moonOf_44 rfl ?_
      refine at_iret X Rt ?_ (Nat.le_refl _) (Nat.le_refl _) dX9_moonOf_45
      have := hP.M
      exact ⟨by rw [moonP, show sM P = m by omega, hv], rfl⟩
    · refine at_aload_n 11 X rfl rfl dX9_moonOf_10 rfl ?_
      refine m_getR 14 X f_X9_24 (kX9 hs) (rX9_4 hs) dX9_moonOf_11 rfl ?_
      refine at_iload_n 15 X rfl rfl dX9_moonOf_14 rfl ?_
      refine m_ialoadV 16 X m (by omega) ((sMb P m : Nat) : Int) (hS.Mb (m := m) (by omega)) (kX9_4 hs) (eX9_4 hs) (by omega) dX9_moonOf_15 rfl ?_
      have := hP.Mb (m := m) (by omega)
      refine at_if_le 19 38 X dX9_moonOf_16 rfl (by decide) (fun h16 => ?_) (fun h16 => ?_)
      · exfalso; omega
      · refine at_iload_n 20 X rfl rfl dX9_moonOf_19 rfl ?_
        refine at_aload_n 21 X rfl rfl dX9_moonOf_20 rfl ?_
        refine m_getR 24 X f_X9_24 (kX9 hs) (rX9_4 hs) dX9_moonOf_21 rfl ?_
        refine at_iload_n 25 X rfl rfl dX9_moonOf_24 rfl ?_
        refine m_ialoadV 26 X m (by omega) ((sMb P m : Nat) : Int) (hS.Mb (m := m) (by omega)) (kX9_4 hs) (eX9_4 hs) (by omega) dX9_moonOf_25 rfl ?_
        have := hP.Mb (m := m) (by omega)
        have hmod := Nat.mod_lt d (show 0 < sMb P m by omega)
        refine at_iremV 27 X (by omega) ((d % sMb P m : Nat) : Int) (w32_v (Int.ofNat_tmod _ _).symm (by omega) (by omega)) dX9_moonOf_26 rfl ?_
        refine at_aload_n 28 X rfl rfl dX9_moonOf_27 rfl ?_
        refine m_getR 31 X f_X9_27 (kX9 hs) (rX9_5 hs) dX9_moonOf_28 rfl ?_
        refine at_iload_n 32 X rfl rfl dX9_moonOf_31 rfl ?_
        refine m_ialoadV 33 X m (by omega) ((sMl P m : Nat) : Int) (hS.Ml (m := m) (by omega)) (kX9_5 hs) (eX9_5 hs) (by omega) dX9_moonOf_32 rfl ?_
        have := hP.Ml (m := m) (by omega)
        refine at_icmp_ne 36 38 X dX9_moonOf_33 rfl (by decide) (fun h33 => ?_) (fun h33 => ?_)
        · refine at_iincV 41 X ((m + 1 : Nat) : Int) (w32_v (by omega) (by omega) (by omega)) rfl dX9_moonOf_38 rfl (by decide) ?_
          refine at_goto 2 X dX9_moonOf_41 (by decide) ?_
          have := hP.M
          exact at_sub _ (by exact ⟨rfl, rfl, rfl, trivial⟩) (ih2 (m + 1) (by first | omega | (simp only [] at *; omega)) (by omega) (by rw [itr_s, if_neg (by omega)]; exact hv))
        · refine at_iload_n 37 X rfl rfl dX9_moonOf_36 rfl ?_
          refine at_iret X Rt ?_ (Nat.le_refl _) (Nat.le_refl _) dX9_moonOf_37
          have e : itr (fun m v => if v = -1 ∧ d % sMb P m = sMl P m then (m : Int) else v) (-1) (m + 1) = m := by rw [itr_s, if_pos ⟨hv, by omega⟩]
          exact ⟨by rw [moonP, moon_fix e (by omega)], rfl⟩
  exact at_sub _ (by exact ⟨rfl, rfl, rfl, trivial⟩) (J2 _ 0 (Nat.lt_succ_self _) (by omega) rfl)
theorem hasP_iff (P : SP) (c : Nat) : hasP P c = true ↔ ∃ p, p < sN P ∧ sX P p = c := by
  unfold hasP
  induction sN P with
  | zero => simp [itr_0]
  | succ n ih =>
    rw [itr_s, Bool.or_eq_true, ih, decide_eq_true_iff]
    constructor
    · rintro (⟨p, h1, h2⟩ | h)
      · exact ⟨p, by omega, h2⟩
      · exact ⟨n, by omega, h⟩
    · rintro ⟨p, h1, h2⟩
      by_cases c : p = n
      · subst c; exact Or.inr h2
      · exact Or.inl ⟨p, by omega, h2⟩
theorem dX9_hasPost_0 : decode cX9_hasPost 0 = .ok (.iconst 0, 1) := by decide +kernel
theorem dX9_hasPost_1 : decode cX9_hasPost 1 = .ok (.istore_n 2, 1) := by decide +kernel
theorem dX9_hasPost_2 : decode cX9_hasPost 2 = .ok (.iload_n 2, 1) := by decide +kernel
theorem dX9_hasPost_3 : decode cX9_hasPost 3 = .ok (.aload_n 0, 1) := by decide +kernel
theorem dX9_hasPost_4 : decode cX9_hasPost 4 = .ok (.getfield 50, 3) := by decide +kernel
theorem dX9_hasPost_7 : decode cX9_hasPost 7 = .ok (.if_icmp .ge 21, 3) := by decide +kernel
theorem dX9_hasPost_10 : decode cX9_hasPost 10 = .ok (.aload_n 0, 1) := by decide +kernel
theorem dX9_hasPost_11 : decode cX9_hasPost 11 = .ok (.getfield 9, 3) := by decide +kernel
theorem dX9_hasPost_14 : decode cX9_hasPost 14 = .ok (.iload_n 2, 1) := by decide +kernel
theorem dX9_hasPost_15 : decode cX9_hasPost 15 = .ok (.iaload, 1) := by decide +kernel
theorem dX9_hasPost_16 : decode cX9_hasPost 16 = .ok (.iload_n 1, 1) := by decide +kernel
theorem dX9_hasPost_17 : decode cX9_hasPost 17 = .ok (.if_icmp .ne 5, 3) := by decide +kernel
theorem dX9_hasPost_20 : decode cX9_hasPost 20 = .ok (.iconst 1, 1) := by decide +kernel
theorem dX9_hasPost_21 : decode cX9_hasPost 21 = .ok (.ireturn, 1) := by decide +kernel
theorem dX9_hasPost_22 : decode cX9_hasPost 22 = .ok (.iinc 2 1, 3) := by decide +kernel
theorem dX9_hasPost_25 : decode cX9_hasPost 25 = .ok (.goto (-23), 3) := by decide +kernel
theorem dX9_hasPost_28 : decode cX9_hasPost 28 = .ok (.iconst 0, 1) := by decide +kernel
theorem dX9_hasPost_29 : decode cX9_hasPost 29 = .ok (.ireturn, 1) := by decide +kernel
theorem ct_X9_hasPost {g : Gw} (hG : GF g) {z : Bool} (E : Mm) (P : SP) (s : Nat) (hs : s = 68 ∨ s = 83) (hS : CS E s P) (hP : WS P) (c : Nat) : CT g yX9_hasPost cX9_hasPost 3 (some .boolean) 0 0 0 0 K2 z [mR s, mI ((c : Nat) : Int)] (ov E) K2 z (fun r D' => r = some (mI (if hasP P c then 1 else 0)) ∧ D' = ov E) := by
  refine CT.mk hG (by decide +kernel) (Nat.le_of_ble_eq_true rfl) (fun κ X Rt _ ok => ?_)
  refine at_iconst 1 X (by decide) dX9_hasPost_0 rfl ?_
  refine at_istore_n 2 X rfl dX9_hasPost_1 rfl (by decide) ?_
  have J2 : ∀ (f2 : Nat) (p : Nat), 10 - p < f2 → p ≤ sN P → itr (fun p v => v || decide (sX P p = c)) false p = false → AT g κ K2 z 0 0 2 [(0, mR s), (1, mI ((c : Nat) : Int)), (2, mI ((p : Nat) : Int))] [] (ov E) := by
    intro f2
    induction f2 with
    | zero => intro p hf2; omega
    | succ f2 ih2 =>
    intro p hf2 hp hv
    refine at_iload_n 3 X rfl rfl dX9_hasPost_2 rfl ?_
    refine at_aload_n 4 X rfl rfl dX9_hasPost_3 rfl ?_
    refine m_getIV 7 X ((sN P : Nat) : Int) hS.N f_X9_50 (kX9 hs) (nX9_10 hs) dX9_hasPost_4 rfl ?_
    have := hP.N
    refine at_icmp_ge 10 28 X dX9_hasPost_7 rfl (by decide) (fun h7 => ?_) (fun h7 => ?_)
    · refine at_iconst 29 X (by decide) dX9_hasPost_28 rfl ?_
      refine at_zret X Rt ?_ (by first | decide | (split <;> decide)) (Nat.le_refl _) (Nat.le_refl _) dX9_hasPost_29
      exact ⟨by rw [if_neg]; unfold hasP; rw [show sN P = p by omega, hv]; decide, rfl⟩
    · refine at_aload_n 11 X rfl rfl dX9_hasPost_10 rfl ?_
      refine m_getR 14 X f_X9_9 (kX9 hs) (rX9_0 hs) dX9_hasPost_11 rfl ?_
      refine at_iload_n 15 X rfl rfl dX9_hasPost_14 rfl ?_
      refine m_ialoadV 16 X p (by omega) ((sX P p : Nat) : Int) (hS.X (p := p) (by omega)) (kX9_0 hs) (eX9_0 hs) (by omega) dX9_hasPost_15 rfl ?_
      have := hP.X (p := p) (by omega)
      refine at_iload_n 17 X rfl rfl dX9_hasPost_16 rfl ?_
      refine at_icmp_ne 20 22 X dX9_hasPost_17 rfl (by decide) (fun h17 => ?_) (fun h17 => ?_)
      · refine at_iincV 25 X ((p + 1 : Nat) : Int) (w32_v (by omega) (by omega) (by omega)) rfl dX9_hasPost_22 rfl (by decide) ?_
        refine at_goto 2 X dX9_hasPost_25 (by decide) ?_
        have := hP.N
        exact at_sub _ (by exact ⟨rfl, rfl, rfl, trivial⟩) (ih2 (p + 1) (by first | omega | (simp only [] at *; omega)) (by first | omega | assumption) (by rw [itr_s, hv, Bool.false_or]; exact decide_eq_false (by omega)))
      · refine at_iconst 21 X (by decide) dX9_hasPost_20 rfl ?_
        refine at_zret X Rt ?_ (by first | decide | (split <;> decide)) (Nat.le_refl _) (Nat.le_refl _) dX9_hasPost_21
        have := hP.X (p := p) (by omega)
        exact ⟨by rw [if_pos ((hasP_iff P c).mpr ⟨p, by omega, by omega⟩)], rfl⟩
  exact at_sub _ (by exact ⟨rfl, rfl, rfl, trivial⟩) (J2 _ 0 (Nat.lt_succ_self _) (by first | omega | assumption | rfl) rfl)
/-- the hour whose sun counts, from v down -/
def sunB (P : SP) (v : Int) : Int := if v < 0 then -1 else sunA P v.toNat
theorem sunA_s (P : SP) (t : Nat) : sunA P t = if sSl P t = -1 then sunB P ((t : Int) - 1) else t := by
  have e : itr (fun t v => if sSl P t = -1 then v else (t : Int)) (-1) t = sunB P ((t : Int) - 1) := by
    unfold sunB
    cases t with
    | zero => rfl
    | succ t =>
      rw [if_neg (by omega), show (((t + 1 : Nat) : Int) - 1).toNat = t by omega]
      rfl
  unfold sunA
  rw [itr_s, e]
theorem sunB_step {P : SP} {t : Nat} (h : sSl P t = -1) : sunB P (t : Int) = sunB P ((t : Int) - 1) := by
  show (if (t : Int) < 0 then -1 else sunA P (t : Int).toNat) = _
  rw [if_neg (by omega), Int.toNat_natCast, sunA_s, if_pos h]
theorem sunB_stop {P : SP} {t : Nat} (h : ¬ sSl P t = -1) : sunB P (t : Int) = t := by
  show (if (t : Int) < 0 then -1 else sunA P (t : Int).toNat) = _
  rw [if_neg (by omega), Int.toNat_natCast, sunA_s, if_neg h]
theorem sunA_in (P : SP) (t : Nat) : -1 ≤ sunA P t ∧ sunA P t ≤ t := by
  have key : ∀ n : Nat, -1 ≤ itr (fun t v => if sSl P t = -1 then v else (t : Int)) (-1) n ∧ itr (fun t v => if sSl P t = -1 then v else (t : Int)) (-1) n < n := by
    intro n
    induction n with
    | zero => exact ⟨Int.le_refl _, show (-1 : Int) < 0 by decide⟩
    | succ n ih =>
      rw [itr_s]
      split <;> omega
  have := key (t + 1)
  exact ⟨this.1, by have := this.2; unfold sunA; omega⟩
theorem sunP_in (P : SP) (t : Nat) : -1 ≤ sunP P t ∧ sunP P t ≤ t := by
  unfold sunP
  have := sunA_in P t
  split <;> omega
theorem dX9_sunOf_0 : decode cX9_sunOf 0 = .ok (.iload_n 1, 1) := by decide +kernel
theorem dX9_sunOf_1 : decode cX9_sunOf 1 = .ok (.aload_n 0, 1) := by decide +kernel
theorem dX9_sunOf_2 : decode cX9_sunOf 2 = .ok (.getfield 47, 3) := by decide +kernel
theorem dX9_sunOf_5 : decode cX9_sunOf 5 = .ok (.if_icmp .ge 9, 3) := by decide +kernel
theorem dX9_sunOf_8 : decode cX9_sunOf 8 = .ok (.iload_n 1, 1) := by decide +kernel
theorem dX9_sunOf_9 : decode cX9_sunOf 9 = .ok (.bipush 24, 2) := by decide +kernel
theorem dX9_sunOf_11 : decode cX9_sunOf 11 = .ok (.if_icmp .lt 5, 3) := by decide +kernel
theorem dX9_sunOf_14 : decode cX9_sunOf 14 = .ok (.iconst (-1), 1) := by decide +kernel
theorem dX9_sunOf_15 : decode cX9_sunOf 15 = .ok (.ireturn, 1) := by decide +kernel
theorem dX9_sunOf_16 : decode cX9_sunOf 16 = .ok (.iload_n 1, 1) := by decide +kernel
theorem dX9_sunOf_17 : decode cX9_sunOf 17 = .ok (.istore_n 2, 1) := by decide +kernel
theorem dX9_sunOf_18 : decode cX9_sunOf 18 = .ok (.iload_n 2, 1) := by decide +kernel
theorem dX9_sunOf_19 : decode cX9_sunOf 19 = .ok (.ifCond .lt 19, 3) := by decide +kernel
theorem dX9_sunOf_22 : decode cX9_sunOf 22 = .ok (.aload_n 0, 1) := by decide +kernel
theorem dX9_sunOf_23 : decode cX9_sunOf 23 = .ok (.getfield 18, 3) := by decide +kernel
theorem dX9_sunOf_26 : decode cX9_sunOf 26 = .ok (.iload_n 2, 1) := by decide +kernel
theorem dX9_sunOf_27 : decode cX9_sunOf 27 = .ok (.iaload, 1) := by decide +kernel
theorem dX9_sunOf_28 : decode cX9_sunOf 28 = .ok (.iconst (-1), 1) := by decide +kernel
theorem dX9_sunOf_29 : decode cX9_sunOf 29 = .ok (.if_icmp .ne 9, 3) := by decide +kernel
theorem dX9_sunOf_32 : decode cX9_sunOf 32 = .ok (.iinc 2 (-1), 3) := by decide +kernel
theorem dX9_sunOf_35 : decode cX9_sunOf 35 = .ok (.goto (-17), 3) := by decide +kernel
theorem dX9_sunOf_38 : decode cX9_sunOf 38 = .ok (.iload_n 2, 1) := by decide +kernel
theorem dX9_sunOf_39 : decode cX9_sunOf 39 = .ok (.ireturn, 1) := by decide +kernel
theorem ct_X9_sunOf {g : Gw} (hG : GF g) {z : Bool} (E : Mm) (P : SP) (s : Nat) (hs : s = 68 ∨ s = 83) (hS : CS E s P) (hP : WS P) (t : Nat) (ht0 : t < 24) : CT g yX9_sunOf cX9_sunOf 3 (some .int) 0 0 0 0 K2 z [mR s, mI ((t : Nat) : Int)] (ov E) K2 z (fun r D' => r = some (mI (sunP P t)) ∧ D' = ov E) := by
  refine CT.mk hG (by decide +kernel) (Nat.le_of_ble_eq_true rfl) (fun κ X Rt _ ok => ?_)
  refine at_iload_n 1 X rfl rfl dX9_sunOf_0 rfl ?_
  refine at_aload_n 2 X rfl rfl dX9_sunOf_1 rfl ?_
  refine m_getIV 5 X ((sDk P : Nat) : Int) hS.Dk f_X9_47 (kX9 hs) (nX9_9 hs) dX9_sunOf_2 rfl ?_
  have := hP.Dk
  refine at_icmp_ge 8 14 X dX9_sunOf_5 rfl (by decide) (fun h5 => ?_) (fun h5 => ?_)
  · refine at_iconst 15 X (by decide) dX9_sunOf_14 rfl ?_
    refine at_iret X Rt ?_ (Nat.le_refl _) (Nat.le_refl _) dX9_sunOf_15
    exact ⟨by unfold sunP; rw [if_neg (by omega)], rfl⟩
  · refine at_iload_n 9 X rfl rfl dX9_sunOf_8 rfl ?_
    refine at_bipush 11 X (by decide) (by decide) dX9_sunOf_9 rfl ?_
    refine at_icmp_lt 14 16 X dX9_sunOf_11 rfl (by decide) (fun h11 => ?_) (fun h11 => ?_)
    · refine at_iload_n 17 X rfl rfl dX9_sunOf_16 rfl ?_
      refine at_istore_n 18 X rfl dX9_sunOf_17 rfl (by decide) ?_
      have J18 : ∀ (f18 : Nat) (v : Int), (v + 1).toNat < f18 → -1 ≤ v → v ≤ t → sunA P t = sunB P v → AT g κ K2 z 0 0 18 [(0, mR s), (2, mI v)] [] (ov E) := by
        intro f18
        induction f18 with
        | zero => intro v hf18; omega
        | succ f18 ih18 =>
        intro v hf18 h1 h2 hv
        refine at_iload_n 19 X rfl rfl dX9_sunOf_18 rfl ?_
        refine at_if_lt 22 38 X dX9_sunOf_19 rfl (by decide) (fun h19 => ?_) (fun h19 => ?_)
        · refine at_iload_n 39 X rfl rfl dX9_sunOf_38 rfl ?_
          refine at_iret X Rt ?_ (Nat.le_refl _) (Nat.le_refl _) dX9_sunOf_39
          first
            | exact ⟨by unfold sunP; rw [if_pos (by omega), hv, show v = -1 by omega]; rfl, rfl⟩
            | exact ⟨by unfold sunP; rw [if_pos (by omega), hv, ht, sunB_stop h29], rfl⟩
        · obtain ⟨t2, ht⟩ : ∃ t2 : Nat, v = (t2 : Int) := ⟨v.toNat, by omega⟩
          refine at_aload_n 23 X rfl rfl dX9_sunOf_22 rfl ?_
          refine m_getR 26 X f_X9_18 (kX9 hs) (rX9_2 hs) dX9_sunOf_23 rfl ?_
          refine at_iload_n 27 X rfl rfl dX9_sunOf_26 rfl ?_
          refine m_ialoadV 28 X t2 ht (sSl P t2) (hS.Sl (t := t2) (by omega)) (kX9_2 hs) (eX9_2 hs) (by omega) dX9_sunOf_27 rfl ?_
          have := hP.Sl (t := t2) (by omega)
          refine at_iconst 29 X (by decide) dX9_sunOf_28 rfl ?_
          refine at_icmp_ne 32 38 X dX9_sunOf_29 rfl (by decide) (fun h29 => ?_) (fun h29 => ?_)
          · refine at_iload_n 39 X rfl rfl dX9_sunOf_38 rfl ?_
            refine at_iret X Rt ?_ (Nat.le_refl _) (Nat.le_refl _) dX9_sunOf_39
            first
              | exact ⟨by unfold sunP; rw [if_pos (by omega), hv, show v = -1 by omega]; rfl, rfl⟩
              | exact ⟨by unfold sunP; rw [if_pos (by omega), hv, ht, sunB_stop h29], rfl⟩
          · refine at_iincV 35 X (v - 1) (w32_v (by omega) (by omega) (by omega)) rfl dX9_sunOf_32 rfl (by decide) ?_
            refine at_goto 18 X dX9_sunOf_35 (by decide) ?_
            exact at_sub _ (by exact ⟨rfl, rfl, trivial⟩) (ih18 (v - 1) (by first | omega | (simp only [] at *; omega)) (by first | omega | assumption) (by first | omega | assumption) (by rw [hv, ht]; exact sunB_step h29))
      exact at_sub _ (by exact ⟨rfl, rfl, trivial⟩) (J18 _ ((t : Nat) : Int) (Nat.lt_succ_self _) (by omega) (by omega) (by unfold sunB; rw [if_neg (by omega), Int.toNat_natCast]))
    · refine at_iconst 15 X (by decide) dX9_sunOf_14 rfl ?_
      refine at_iret X Rt ?_ (Nat.le_refl _) (Nat.le_refl _) dX9_sunOf_15
      exact ⟨by unfold sunP; rw [if_neg (by omega)], rfl⟩
