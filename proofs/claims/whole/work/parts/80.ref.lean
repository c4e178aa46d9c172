/-- numbers within their bounds, for the reference: a post may be nowhere -/
def WR (G : GP) : Prop := gW G ≤ 40 ∧ gN G ≤ 11 ∧ (∀ p, p < gN G → gH G p ≤ 99 ∧ (gX G p < gW G ∨ (100 ≤ gX G p ∧ gH G p = 0))) ∧ (∀ h, h < 24 → gT' G h ≤ 99) ∧ WL (gLw G)
theorem WG.R {G : GP} (h : WG G) : WR G := ⟨h.W, h.N, fun p hp => ⟨h.H hp, Or.inl (h.X hp)⟩, fun t ht => h.T ht, h.Lw⟩
/-- posts as the reference holds them -/
def RPg (E : Mm) (G : GP) : Prop := E 125 52 = (gN G : Int) ∧ ∀ p, p < gN G → E (142 + p) 1 = (gH G p : Int) ∧ (E (142 + p) 0 = (gX G p : Int) ∨ (E (142 + p) 0 = -40 ∧ gH G p = 0 ∧ 100 ≤ gX G p))
/-- lamps as the reference holds them -/
def RLg (E : Mm) (G : GP) (nl : Nat) (lx lr : Nat → Nat) : Prop := E 125 53 = (nl : Int) ∧ nl ≤ 9 ∧ (∀ k, k < nl → E (209 + k) 0 = (lx k : Int) ∧ E (209 + k) 1 = (lr k : Int) ∧ lx k < 40 ∧ lr k ≤ 9) ∧ ∀ c, c < gW G → gLm G c = laB lx lr c nl
theorem laB_s (lx lr : Nat → Nat) (c k : Nat) : laB lx lr c (k + 1) = (laB lx lr c k || (decide (c ≤ lx k + lr k) && decide (lx k ≤ c + lr k))) := rfl
theorem laB_stay {lx lr : Nat → Nat} {c k : Nat} (h : laB lx lr c k = true) : ∀ {n : Nat}, k ≤ n → laB lx lr c n = true
  | 0, hn => by rw [show k = 0 by omega] at h; exact h
  | n + 1, hn => by
    by_cases e : k = n + 1
    · subst e; exact h
    · rw [laB_s, laB_stay h (n := n) (by omega), Bool.true_or]
theorem tal_f {G : GP} {b p : Nat} (h : ¬ b.testBit p = true) : itr (fun p v => if b.testBit p = true ∧ v < gH G p then gH G p else v) 0 (p + 1) = itr (fun p v => if b.testBit p = true ∧ v < gH G p then gH G p else v) 0 p := by rw [itr_s, if_neg (fun q => h q.1)]
theorem tal_t {G : GP} {b p : Nat} (h : b.testBit p = true) : itr (fun p v => if b.testBit p = true ∧ v < gH G p then gH G p else v) 0 (p + 1) = if itr (fun p v => if b.testBit p = true ∧ v < gH G p then gH G p else v) 0 p < gH G p then gH G p else itr (fun p v => if b.testBit p = true ∧ v < gH G p then gH G p else v) 0 p := by rw [itr_s]; simp only [h, true_and]
theorem dX12_isLit_0 : decode cX12_isLit 0 = .ok (.iconst 0, 1) := by decide +kernel
theorem dX12_isLit_1 : decode cX12_isLit 1 = .ok (.istore_n 2, 1) := by decide +kernel
theorem dX12_isLit_2 : decode cX12_isLit 2 = .ok (.iload_n 2, 1) := by decide +kernel
theorem dX12_isLit_3 : decode cX12_isLit 3 = .ok (.aload_n 0, 1) := by decide +kernel
theorem dX12_isLit_4 : decode cX12_isLit 4 = .ok (.getfield 333, 3) := by decide +kernel
theorem dX12_isLit_7 : decode cX12_isLit 7 = .ok (.if_icmp .ge 44, 3) := by decide +kernel
theorem dX12_isLit_10 : decode cX12_isLit 10 = .ok (.iload_n 1, 1) := by decide +kernel
theorem dX12_isLit_11 : decode cX12_isLit 11 = .ok (.aload_n 0, 1) := by decide +kernel
theorem dX12_isLit_12 : decode cX12_isLit 12 = .ok (.getfield 55, 3) := by decide +kernel
theorem dX12_isLit_15 : decode cX12_isLit 15 = .ok (.iload_n 2, 1) := by decide +kernel
theorem dX12_isLit_16 : decode cX12_isLit 16 = .ok (.aaload, 1) := by decide +kernel
theorem dX12_isLit_17 : decode cX12_isLit 17 = .ok (.iconst 0, 1) := by decide +kernel
theorem dX12_isLit_18 : decode cX12_isLit 18 = .ok (.iaload, 1) := by decide +kernel
theorem dX12_isLit_19 : decode cX12_isLit 19 = .ok (.isub, 1) := by decide +kernel
theorem dX12_isLit_20 : decode cX12_isLit 20 = .ok (.aload_n 0, 1) := by decide +kernel
theorem dX12_isLit_21 : decode cX12_isLit 21 = .ok (.getfield 55, 3) := by decide +kernel
theorem dX12_isLit_24 : decode cX12_isLit 24 = .ok (.iload_n 2, 1) := by decide +kernel
theorem dX12_isLit_25 : decode cX12_isLit 25 = .ok (.aaload, 1) := by decide +kernel
theorem dX12_isLit_26 : decode cX12_isLit 26 = .ok (.iconst 1, 1) := by decide +kernel
theorem dX12_isLit_27 : decode cX12_isLit 27 = .ok (.iaload, 1) := by decide +kernel
theorem dX12_isLit_28 : decode cX12_isLit 28 = .ok (.ineg, 1) := by decide +kernel
theorem dX12_isLit_29 : decode cX12_isLit 29 = .ok (.aload_n 0, 1) := by decide +kernel
theorem dX12_isLit_30 : decode cX12_isLit 30 = .ok (.getfield 55, 3) := by decide +kernel
theorem dX12_isLit_33 : decode cX12_isLit 33 = .ok (.iload_n 2, 1) := by decide +kernel
theorem dX12_isLit_34 : decode cX12_isLit 34 = .ok (.aaload, 1) := by decide +kernel
theorem dX12_isLit_35 : decode cX12_isLit 35 = .ok (.iconst 1, 1) := by decide +kernel
theorem dX12_isLit_36 : decode cX12_isLit 36 = .ok (.iaload, 1) := by decide +kernel
theorem dX12_isLit_37 : decode cX12_isLit 37 = .ok (.invokestatic 186, 3) := by decide +kernel
theorem dX12_isLit_40 : decode cX12_isLit 40 = .ok (.ifCond .eq 5, 3) := by decide +kernel
theorem dX12_isLit_43 : decode cX12_isLit 43 = .ok (.iconst 1, 1) := by decide +kernel
theorem dX12_isLit_44 : decode cX12_isLit 44 = .ok (.ireturn, 1) := by decide +kernel
theorem dX12_isLit_45 : decode cX12_isLit 45 = .ok (.iinc 2 1, 3) := by decide +kernel
theorem dX12_isLit_48 : decode cX12_isLit 48 = .ok (.goto (-46), 3) := by decide +kernel
theorem dX12_isLit_51 : decode cX12_isLit 51 = .ok (.iconst 0, 1) := by decide +kernel
theorem dX12_isLit_52 : decode cX12_isLit 52 = .ok (.ireturn, 1) := by decide +kernel
theorem ct_X12_isLit {g : Gw} (hG : GF g) {z : Bool} (E : Mm) (G : GP) (hW : WR G) (nl : Nat) (lx lr : Nat → Nat) (hl_E : RLg E G nl lx lr) (x : Nat) (hx : x < gW G) : CT g yX12_isLit cX12_isLit 3 (some .boolean) 1 22 0 0 K2 z [mR 125, mI ((x : Nat) : Int)] (ov E) K2 z (fun r D' => r = some (mI (if gLm G x = true then 1 else 0)) ∧ D' = ov E) := by
  refine CT.mk hG (by decide +kernel) (Nat.le_of_ble_eq_true rfl) (fun κ X Rt _ ok => ?_)
  have hnl9 := hl_E.2.1
  have hW40 := hW.1
  refine at_iconst 1 X (by decide) dX12_isLit_0 rfl ?_
  refine at_istore_n 2 X rfl dX12_isLit_1 rfl (by decide) ?_
  have J2 : ∀ (f2 : Nat) (k : Nat), 9 - k < f2 → (k ≤ nl) → (laB lx lr x k = false) → AT g κ K2 z 0 0 2 [(0, mR 125), (1, mI ((x : Nat) : Int)), (2, mI ((k : Nat) : Int))] [] (ov E) := by
    intro f2
    induction f2 with
    | zero => intro k hf2; omega
    | succ f2 ih2 =>
    intro k hf2 hk hno
    refine at_iload_n 3 X rfl rfl dX12_isLit_2 rfl ?_
    refine at_aload_n 4 X rfl rfl dX12_isLit_3 rfl ?_
    refine m_getIV 7 X ((nl : Nat) : Int) hl_E.1 f_X12_333 k_125 rn_125_53 dX12_isLit_4 rfl ?_
    have := hl_E.2.1
    refine at_icmp_ge 10 51 X dX12_isLit_7 rfl (by decide) (fun h7 => ?_) (fun h7 => ?_)
    · refine at_iconst 52 X (by decide) dX12_isLit_51 rfl ?_
      refine at_zret X Rt ?_ (by first | decide | (split <;> decide)) (Nat.le_refl _) (Nat.le_refl _) dX12_isLit_52
      exact ⟨by rw [if_neg (by rw [hl_E.2.2.2 x hx, show nl = k by omega, hno]; decide)], rfl⟩
    · refine at_iload_n 11 X rfl rfl dX12_isLit_10 rfl ?_
      refine at_aload_n 12 X rfl rfl dX12_isLit_11 rfl ?_
      refine m_getR 15 X f_X12_55 k_125 r_125_22 dX12_isLit_12 rfl ?_
      refine at_iload_n 16 X rfl rfl dX12_isLit_15 rfl ?_
      refine m_aaloadV 17 X k (by omega) k_208 (by decide) (by omega) (rr_208 _ (by omega)) dX12_isLit_16 rfl ?_
      refine at_iconst 18 X (by decide) dX12_isLit_17 rfl ?_
      refine m_ialoadV 19 X 0 (by omega) ((lx k : Nat) : Int) (hl_E.2.2.1 k (by omega)).1 (kr_208 _ (by omega)) (er_208 _ (by omega)) (by omega) dX12_isLit_18 rfl ?_
      have := (hl_E.2.2.1 k (by omega)).2.2
      refine at_isubV 20 X (((x : Nat) : Int) - ((lx k : Nat) : Int)) (w32_v rfl (by omega) (by omega)) dX12_isLit_19 rfl ?_
      refine at_aload_n 21 X rfl rfl dX12_isLit_20 rfl ?_
      refine m_getR 24 X f_X12_55 k_125 r_125_22 dX12_isLit_21 rfl ?_
      refine at_iload_n 25 X rfl rfl dX12_isLit_24 rfl ?_
      refine m_aaloadV 26 X k (by omega) k_208 (by decide) (by omega) (rr_208 _ (by omega)) dX12_isLit_25 rfl ?_
      refine at_iconst 27 X (by decide) dX12_isLit_26 rfl ?_
      refine m_ialoadV 28 X 1 (by omega) ((lr k : Nat) : Int) (hl_E.2.2.1 k (by omega)).2.1 (kr_208 _ (by omega)) (er_208 _ (by omega)) (by omega) dX12_isLit_27 rfl ?_
      have := (hl_E.2.2.1 k (by omega)).2.2
      refine at_inegV 29 X (-((lr k : Nat) : Int)) (w32_v rfl (by omega) (by omega)) dX12_isLit_28 rfl ?_
      refine at_aload_n 30 X rfl rfl dX12_isLit_29 rfl ?_
      refine m_getR 33 X f_X12_55 k_125 r_125_22 dX12_isLit_30 rfl ?_
      refine at_iload_n 34 X rfl rfl dX12_isLit_33 rfl ?_
      refine m_aaloadV 35 X k (by omega) k_208 (by decide) (by omega) (rr_208 _ (by omega)) dX12_isLit_34 rfl ?_
      refine at_iconst 36 X (by decide) dX12_isLit_35 rfl ?_
      refine m_ialoadV 37 X 1 (by omega) ((lr k : Nat) : Int) (hl_E.2.2.1 k (by omega)).2.1 (kr_208 _ (by omega)) (er_208 _ (by omega)) (by omega) dX12_isLit_36 rfl ?_
      have := (hl_E.2.2.1 k (by omega)).2.2
      refine at_callS 40 X (ct_X12_in hG _ _ _) mo_X12_in w_1957 so_X12_in rfl rfl (crm Rt (by decide)) (Nat.le_of_ble_eq_true rfl) dX12_isLit_37 rfl ?_
      rintro _ _ ⟨rfl, rfl⟩
      refine at_if_eq 43 45 X dX12_isLit_40 rfl (by decide) (fun h40 => ?_) (fun h40 => ?_)
      · have h40 : ¬ ((-((lr k : Nat) : Int)) ≤ (((x : Nat) : Int) - ((lx k : Nat) : Int)) ∧ (((x : Nat) : Int) - ((lx k : Nat) : Int)) ≤ ((lr k : Nat) : Int)) := ite_no.mp h40
        refine at_iincV 48 X ((k + 1 : Nat) : Int) (w32_v (by omega) (by omega) (by omega)) rfl dX12_isLit_45 rfl (by decide) ?_
        refine at_goto 2 X dX12_isLit_48 (by decide) ?_
        exact at_sub _ (by exact ⟨rfl, rfl, rfl, trivial⟩) (ih2 (k + 1) (by first | omega | (simp only [] at *; omega)) (by first | omega | assumption) (by rw [laB_s, hno, Bool.false_or, Bool.and_eq_false_iff, decide_eq_false_iff_not, decide_eq_false_iff_not]; omega))
      · have h40 : ((-((lr k : Nat) : Int)) ≤ (((x : Nat) : Int) - ((lx k : Nat) : Int)) ∧ (((x : Nat) : Int) - ((lx k : Nat) : Int)) ≤ ((lr k : Nat) : Int)) := ite_yes.mp h40
        refine at_iconst 44 X (by decide) dX12_isLit_43 rfl ?_
        refine at_zret X Rt ?_ (by first | decide | (split <;> decide)) (Nat.le_refl _) (Nat.le_refl _) dX12_isLit_44
        exact ⟨by rw [if_pos (by rw [hl_E.2.2.2 x hx]; exact laB_stay (k := k + 1) (by rw [laB_s, hno, Bool.false_or, Bool.and_eq_true, decide_eq_true_iff, decide_eq_true_iff]; omega) (by omega))], rfl⟩
  exact at_sub _ (by exact ⟨rfl, rfl, rfl, trivial⟩) (J2 _ 0 (Nat.lt_succ_self _) (by first | omega | assumption | rfl) rfl)
theorem dX12_isPosted_0 : decode cX12_isPosted 0 = .ok (.iconst 0, 1) := by decide +kernel
theorem dX12_isPosted_1 : decode cX12_isPosted 1 = .ok (.istore_n 2, 1) := by decide +kernel
theorem dX12_isPosted_2 : decode cX12_isPosted 2 = .ok (.iload_n 2, 1) := by decide +kernel
theorem dX12_isPosted_3 : decode cX12_isPosted 3 = .ok (.aload_n 0, 1) := by decide +kernel
theorem dX12_isPosted_4 : decode cX12_isPosted 4 = .ok (.getfield 330, 3) := by decide +kernel
theorem dX12_isPosted_7 : decode cX12_isPosted 7 = .ok (.if_icmp .ge 23, 3) := by decide +kernel
theorem dX12_isPosted_10 : decode cX12_isPosted 10 = .ok (.aload_n 0, 1) := by decide +kernel
theorem dX12_isPosted_11 : decode cX12_isPosted 11 = .ok (.getfield 31, 3) := by decide +kernel
theorem dX12_isPosted_14 : decode cX12_isPosted 14 = .ok (.iload_n 2, 1) := by decide +kernel
theorem dX12_isPosted_15 : decode cX12_isPosted 15 = .ok (.aaload, 1) := by decide +kernel
theorem dX12_isPosted_16 : decode cX12_isPosted 16 = .ok (.iconst 0, 1) := by decide +kernel
theorem dX12_isPosted_17 : decode cX12_isPosted 17 = .ok (.iaload, 1) := by decide +kernel
theorem dX12_isPosted_18 : decode cX12_isPosted 18 = .ok (.iload_n 1, 1) := by decide +kernel
theorem dX12_isPosted_19 : decode cX12_isPosted 19 = .ok (.if_icmp .ne 5, 3) := by decide +kernel
theorem dX12_isPosted_22 : decode cX12_isPosted 22 = .ok (.iconst 1, 1) := by decide +kernel
theorem dX12_isPosted_23 : decode cX12_isPosted 23 = .ok (.ireturn, 1) := by decide +kernel
theorem dX12_isPosted_24 : decode cX12_isPosted 24 = .ok (.iinc 2 1, 3) := by decide +kernel
theorem dX12_isPosted_27 : decode cX12_isPosted 27 = .ok (.goto (-25), 3) := by decide +kernel
theorem dX12_isPosted_30 : decode cX12_isPosted 30 = .ok (.iconst 0, 1) := by decide +kernel
theorem dX12_isPosted_31 : decode cX12_isPosted 31 = .ok (.ireturn, 1) := by decide +kernel
theorem ct_X12_isPosted {g : Gw} (hG : GF g) {z : Bool} (E : Mm) (G : GP) (hW : WR G) (hp_E : RPg E G) (x : Nat) (hx : x < gW G) : CT g yX12_isPosted cX12_isPosted 3 (some .boolean) 0 0 0 0 K2 z [mR 125, mI ((x : Nat) : Int)] (ov E) K2 z (fun r D' => r = some (mI (if isP G x = true then 1 else 0)) ∧ D' = ov E) := by
  refine CT.mk hG (by decide +kernel) (Nat.le_of_ble_eq_true rfl) (fun κ X Rt _ ok => ?_)
  have hN11 := hW.2.1
  have hW40 := hW.1
  refine at_iconst 1 X (by decide) dX12_isPosted_0 rfl ?_
  refine at_istore_n 2 X rfl dX12_isPosted_1 rfl (by decide) ?_
  have J2 : ∀ (f2 : Nat) (p : Nat), 11 - p < f2 → (p ≤ gN G) → ((∀ j, j < p → ¬ gX G j = x)) → AT g κ K2 z 0 0 2 [(0, mR 125), (1, mI ((x : Nat) : Int)), (2, mI ((p : Nat) : Int))] [] (ov E) := by
    intro f2
    induction f2 with
    | zero => intro p hf2; omega
    | succ f2 ih2 =>
    intro p hf2 hk hno
    refine at_iload_n 3 X rfl rfl dX12_isPosted_2 rfl ?_
    refine at_aload_n 4 X rfl rfl dX12_isPosted_3 rfl ?_
    refine m_getIV 7 X ((gN G : Nat) : Int) hp_E.1 f_X12_330 k_125 rn_125_52 dX12_isPosted_4 rfl ?_
    have := hW.2.1
    refine at_icmp_ge 10 30 X dX12_isPosted_7 rfl (by decide) (fun h7 => ?_) (fun h7 => ?_)
    · refine at_iconst 31 X (by decide) dX12_isPosted_30 rfl ?_
      refine at_zret X Rt ?_ (by first | decide | (split <;> decide)) (Nat.le_refl _) (Nat.le_refl _) dX12_isPosted_31
      exact ⟨by rw [if_neg (fun q => by obtain ⟨j, q1, q2⟩ := (isP_iff G x).mp q; exact hno j (by omega) q2)], rfl⟩
    · refine at_aload_n 11 X rfl rfl dX12_isPosted_10 rfl ?_
      refine m_getR 14 X f_X12_31 k_125 r_125_14 dX12_isPosted_11 rfl ?_
      refine at_iload_n 15 X rfl rfl dX12_isPosted_14 rfl ?_
      refine m_aaloadV 16 X p (by omega) k_141 (by decide) (by omega) (rr_141 _ (by omega)) dX12_isPosted_15 rfl ?_
      refine at_iconst 17 X (by decide) dX12_isPosted_16 rfl ?_
      refine m_ialoadV 18 X 0 (by omega) (E (142 + p) 0) rfl (kr_141 _ (by omega)) (er_141 _ (by omega)) (by omega) dX12_isPosted_17 rfl ?_
      have := (hp_E.2 p (by omega)).2
      have := (hW.2.2.1 p (by omega)).2
      refine at_iload_n 19 X rfl rfl dX12_isPosted_18 rfl ?_
      refine at_icmp_ne 22 24 X dX12_isPosted_19 rfl (by decide) (fun h19 => ?_) (fun h19 => ?_)
      · refine at_iincV 27 X ((p + 1 : Nat) : Int) (w32_v (by omega) (by omega) (by omega)) rfl dX12_isPosted_24 rfl (by decide) ?_
        refine at_goto 2 X dX12_isPosted_27 (by decide) ?_
        exact at_sub _ (by exact ⟨rfl, rfl, rfl, trivial⟩) (ih2 (p + 1) (by first | omega | (simp only [] at *; omega)) (by first | omega | assumption) (fun j hj => if e : j = p then by rw [e]; omega else hno j (by omega)))
      · refine at_iconst 23 X (by decide) dX12_isPosted_22 rfl ?_
        refine at_zret X Rt ?_ (by first | decide | (split <;> decide)) (Nat.le_refl _) (Nat.le_refl _) dX12_isPosted_23
        exact ⟨by rw [if_pos ((isP_iff G x).mpr ⟨p, by omega, by omega⟩)], rfl⟩
  exact at_sub _ (by exact ⟨rfl, rfl, rfl, trivial⟩) (J2 _ 0 (Nat.lt_succ_self _) (by first | omega | assumption | rfl) (fun j hj => absurd hj (Nat.not_lt_zero j)))
theorem dX12_tallOf_0 : decode cX12_tallOf 0 = .ok (.iconst 0, 1) := by decide +kernel
theorem dX12_tallOf_1 : decode cX12_tallOf 1 = .ok (.istore_n 2, 1) := by decide +kernel
theorem dX12_tallOf_2 : decode cX12_tallOf 2 = .ok (.iconst 0, 1) := by decide +kernel
theorem dX12_tallOf_3 : decode cX12_tallOf 3 = .ok (.istore_n 3, 1) := by decide +kernel
theorem dX12_tallOf_4 : decode cX12_tallOf 4 = .ok (.iload_n 3, 1) := by decide +kernel
theorem dX12_tallOf_5 : decode cX12_tallOf 5 = .ok (.aload_n 0, 1) := by decide +kernel
theorem dX12_tallOf_6 : decode cX12_tallOf 6 = .ok (.getfield 330, 3) := by decide +kernel
theorem dX12_tallOf_9 : decode cX12_tallOf 9 = .ok (.if_icmp .ge 35, 3) := by decide +kernel
theorem dX12_tallOf_12 : decode cX12_tallOf 12 = .ok (.iload_n 1, 1) := by decide +kernel
theorem dX12_tallOf_13 : decode cX12_tallOf 13 = .ok (.iload_n 3, 1) := by decide +kernel
theorem dX12_tallOf_14 : decode cX12_tallOf 14 = .ok (.ishr, 1) := by decide +kernel
theorem dX12_tallOf_15 : decode cX12_tallOf 15 = .ok (.iconst 1, 1) := by decide +kernel
theorem dX12_tallOf_16 : decode cX12_tallOf 16 = .ok (.iand, 1) := by decide +kernel
theorem dX12_tallOf_17 : decode cX12_tallOf 17 = .ok (.iconst 1, 1) := by decide +kernel
theorem dX12_tallOf_18 : decode cX12_tallOf 18 = .ok (.if_icmp .ne 18, 3) := by decide +kernel
theorem dX12_tallOf_21 : decode cX12_tallOf 21 = .ok (.iload_n 2, 1) := by decide +kernel
theorem dX12_tallOf_22 : decode cX12_tallOf 22 = .ok (.aload_n 0, 1) := by decide +kernel
theorem dX12_tallOf_23 : decode cX12_tallOf 23 = .ok (.getfield 31, 3) := by decide +kernel
theorem dX12_tallOf_26 : decode cX12_tallOf 26 = .ok (.iload_n 3, 1) := by decide +kernel
theorem dX12_tallOf_27 : decode cX12_tallOf 27 = .ok (.aaload, 1) := by decide +kernel
theorem dX12_tallOf_28 : decode cX12_tallOf 28 = .ok (.iconst 1, 1) := by decide +kernel
theorem dX12_tallOf_29 : decode cX12_tallOf 29 = .ok (.iaload, 1) := by decide +kernel
theorem dX12_tallOf_30 : decode cX12_tallOf 30 = .ok (.invokestatic 304, 3) := by decide +kernel
theorem dX12_tallOf_33 : decode cX12_tallOf 33 = .ok (.goto 4, 3) := by decide +kernel
theorem dX12_tallOf_36 : decode cX12_tallOf 36 = .ok (.iload_n 2, 1) := by decide +kernel
theorem dX12_tallOf_37 : decode cX12_tallOf 37 = .ok (.istore_n 2, 1) := by decide +kernel
theorem dX12_tallOf_38 : decode cX12_tallOf 38 = .ok (.iinc 3 1, 3) := by decide +kernel
theorem dX12_tallOf_41 : decode cX12_tallOf 41 = .ok (.goto (-37), 3) := by decide +kernel
theorem dX12_tallOf_44 : decode cX12_tallOf 44 = .ok (.iload_n 2, 1) := by decide +kernel
theorem dX12_tallOf_45 : decode cX12_tallOf 45 = .ok (.ireturn, 1) := by decide +kernel
theorem ct_X12_tallOf {g : Gw} (hG : GF g) {z : Bool} (E : Mm) (G : GP) (hW : WR G) (hp_E : RPg E G) (b : Nat) (hb : b < 2048) : CT g yX12_tallOf cX12_tallOf 4 (some .int) 1 21 0 0 K2 z [mR 125, mI ((b : Nat) : Int)] (ov E) K2 z (fun r D' => r = some (mI (talG G b : Nat)) ∧ D' = ov E) := by
  refine CT.mk hG (by decide +kernel) (Nat.le_of_ble_eq_true rfl) (fun κ X Rt _ ok => ?_)
  have hN11 := hW.2.1
  refine at_iconst 1 X (by decide) dX12_tallOf_0 rfl ?_
  refine at_istore_n 2 X rfl dX12_tallOf_1 rfl (by decide) ?_
  refine at_iconst 3 X (by decide) dX12_tallOf_2 rfl ?_
  refine at_istore_n 4 X rfl dX12_tallOf_3 rfl (by decide) ?_
  have J4 : ∀ (f4 : Nat) (p : Nat) (v : Int), 11 - p < f4 → (p ≤ gN G) → (v = (itr (fun p v => if b.testBit p = true ∧ v < gH G p then gH G p else v) 0 p : Nat)) → (0 ≤ v ∧ v ≤ 99) → AT g κ K2 z 0 0 4 [(0, mR 125), (1, mI ((b : Nat) : Int)), (2, mI v), (3, mI ((p : Nat) : Int))] [] (ov E) := by
    intro f4
    induction f4 with
    | zero => intro p v hf4; omega
    | succ f4 ih4 =>
    intro p v hf4 hp hv hv99
    refine at_iload_n 5 X rfl rfl dX12_tallOf_4 rfl ?_
    refine at_aload_n 6 X rfl rfl dX12_tallOf_5 rfl ?_
    refine m_getIV 9 X ((gN G : Nat) : Int) hp_E.1 f_X12_330 k_125 rn_125_52 dX12_tallOf_6 rfl ?_
    have := hW.2.1
    refine at_icmp_ge 12 44 X dX12_tallOf_9 rfl (by decide) (fun h9 => ?_) (fun h9 => ?_)
    · refine at_iload_n 45 X rfl rfl dX12_tallOf_44 rfl ?_
      refine at_iret X Rt ?_ (Nat.le_refl _) (Nat.le_refl _) dX12_tallOf_45
      exact ⟨by unfold talG; rw [hv, show p = gN G by omega], rfl⟩
    · refine at_iload_n 13 X rfl rfl dX12_tallOf_12 rfl ?_
      refine at_iload_n 14 X rfl rfl dX12_tallOf_13 rfl ?_
      refine at_ishrV 15 X (ishr ((b : Nat) : Int) ((p : Nat) : Int)) rfl dX12_tallOf_14 rfl ?_
      refine at_iconst 16 X (by decide) dX12_tallOf_15 rfl ?_
      refine at_iandV 17 X (if b.testBit p = true then 1 else 0) (ibit (by omega) (by omega)) dX12_tallOf_16 rfl ?_
      refine at_iconst 18 X (by decide) dX12_tallOf_17 rfl ?_
      refine at_icmp_ne 21 36 X dX12_tallOf_18 rfl (by decide) (fun h18 => ?_) (fun h18 => ?_)
      · have hb18 : ¬ b.testBit p = true := by
          intro k; rw [if_pos k] at h18; exact absurd rfl h18
        refine at_iload_n 37 X rfl rfl dX12_tallOf_36 rfl ?_
        refine at_istore_n 38 X rfl dX12_tallOf_37 rfl (by decide) ?_
        refine at_iincV 41 X ((p + 1 : Nat) : Int) (w32_v (by omega) (by omega) (by omega)) rfl dX12_tallOf_38 rfl (by decide) ?_
        refine at_goto 4 X dX12_tallOf_41 (by decide) ?_
        exact at_sub _ (by exact ⟨rfl, rfl, rfl, rfl, trivial⟩) (ih4 (p + 1) v (by first | omega | (simp only [] at *; omega)) (by first | omega | assumption) (by first | exact hv.trans (congrArg (fun q : Nat => (q : Int)) (tal_f hb18).symm) | (have e := tal_t (G := G) hb18; rw [e]; split <;> split <;> omega)) (by first | omega | (split <;> omega)))
      · have hb18 : b.testBit p = true := by
          apply Decidable.byContradiction
          intro k; rw [if_neg k] at h18; exact absurd h18 (by decide)
        refine at_iload_n 22 X rfl rfl dX12_tallOf_21 rfl ?_
        refine at_aload_n 23 X rfl rfl dX12_tallOf_22 rfl ?_
        refine m_getR 26 X f_X12_31 k_125 r_125_14 dX12_tallOf_23 rfl ?_
        refine at_iload_n 27 X rfl rfl dX12_tallOf_26 rfl ?_
        refine m_aaloadV 28 X p (by omega) k_141 (by decide) (by omega) (rr_141 _ (by omega)) dX12_tallOf_27 rfl ?_
        refine at_iconst 29 X (by decide) dX12_tallOf_28 rfl ?_
        refine m_ialoadV 30 X 1 (by omega) ((gH G p : Nat) : Int) (hp_E.2 p (by omega)).1 (kr_141 _ (by omega)) (er_141 _ (by omega)) (by omega) dX12_tallOf_29 rfl ?_
        have := (hW.2.2.1 p (by omega)).1
        refine at_callS 33 X (ct_X12_more hG E v ((gH G p : Nat) : Int)) mo_X12_more w_2091 so_X12_more rfl rfl (crm Rt (by decide)) (Nat.le_of_ble_eq_true rfl) dX12_tallOf_30 rfl ?_
        rintro _ _ ⟨rfl, rfl⟩
        refine at_goto 37 X dX12_tallOf_33 (by decide) ?_
        refine at_istore_n 38 X rfl dX12_tallOf_37 rfl (by decide) ?_
        refine at_iincV 41 X ((p + 1 : Nat) : Int) (w32_v (by omega) (by omega) (by omega)) rfl dX12_tallOf_38 rfl (by decide) ?_
        refine at_goto 4 X dX12_tallOf_41 (by decide) ?_
        exact at_sub _ (by exact ⟨rfl, rfl, rfl, rfl, trivial⟩) (ih4 (p + 1) (if ((gH G p : Nat) : Int) < v then v else ((gH G p : Nat) : Int)) (by first | omega | (simp only [] at *; omega)) (by first | omega | assumption) (by first | exact hv.trans (congrArg (fun q : Nat => (q : Int)) (tal_f hb18).symm) | (have e := tal_t (G := G) hb18; rw [e]; split <;> split <;> omega)) (by first | omega | (split <;> omega)))
  exact at_sub _ (by exact ⟨rfl, rfl, rfl, rfl, trivial⟩) (J4 _ 0 0 (Nat.lt_succ_self _) (by first | omega | assumption | rfl) rfl (by first | omega | assumption | rfl))
theorem dX12_asTold_0 : decode cX12_asTold 0 = .ok (.aload_n 0, 1) := by decide +kernel
theorem dX12_asTold_1 : decode cX12_asTold 1 = .ok (.aload_n 0, 1) := by decide +kernel
theorem dX12_asTold_2 : decode cX12_asTold 2 = .ok (.getfield 23, 3) := by decide +kernel
theorem dX12_asTold_5 : decode cX12_asTold 5 = .ok (.iconst 1, 1) := by decide +kernel
theorem dX12_asTold_6 : decode cX12_asTold 6 = .ok (.iaload, 1) := by decide +kernel
theorem dX12_asTold_7 : decode cX12_asTold 7 = .ok (.putfield 330, 3) := by decide +kernel
theorem dX12_asTold_10 : decode cX12_asTold 10 = .ok (.aload_n 0, 1) := by decide +kernel
theorem dX12_asTold_11 : decode cX12_asTold 11 = .ok (.aload_n 0, 1) := by decide +kernel
theorem dX12_asTold_12 : decode cX12_asTold 12 = .ok (.getfield 23, 3) := by decide +kernel
theorem dX12_asTold_15 : decode cX12_asTold 15 = .ok (.iconst 5, 1) := by decide +kernel
theorem dX12_asTold_16 : decode cX12_asTold 16 = .ok (.iaload, 1) := by decide +kernel
theorem dX12_asTold_17 : decode cX12_asTold 17 = .ok (.putfield 333, 3) := by decide +kernel
theorem dX12_asTold_20 : decode cX12_asTold 20 = .ok (.aload_n 0, 1) := by decide +kernel
theorem dX12_asTold_21 : decode cX12_asTold 21 = .ok (.aload_n 0, 1) := by decide +kernel
theorem dX12_asTold_22 : decode cX12_asTold 22 = .ok (.invokevirtual 336, 3) := by decide +kernel
theorem dX12_asTold_25 : decode cX12_asTold 25 = .ok (.putfield 339, 3) := by decide +kernel
theorem dX12_asTold_28 : decode cX12_asTold 28 = .ok (.return_, 1) := by decide +kernel
theorem ct_X12_asTold {g : Gw} (hG : GF g) {z : Bool} (E : Mm) (P : SP) (Q : RX) (hP : WS P) (hR_E : RTS E P Q) : CT g yX12_asTold cX12_asTold 1 none 1 23 0 0 K2 z [mR 125] (ov E) K2 z (fun r D' => r = none ∧ D' = ov (wr (wr (wr E 125 52 (sN P : Int)) 125 53 (sLn P : Int)) 125 54 (mk (sC P) 24 : Nat))) := by
  refine CT.mk hG (by decide +kernel) (Nat.le_of_ble_eq_true rfl) (fun κ X Rt _ ok => ?_)
  refine at_aload_n 1 X rfl rfl dX12_asTold_0 rfl ?_
  refine at_aload_n 2 X rfl rfl dX12_asTold_1 rfl ?_
  refine m_getR 5 X f_X12_23 k_125 r_125_12 dX12_asTold_2 rfl ?_
  refine at_iconst 6 X (by decide) dX12_asTold_5 rfl ?_
  refine m_ialoadV 7 X 1 (by omega) ((sN P : Nat) : Int) hR_E.1.2.1 k_129 e_129 (by omega) dX12_asTold_6 rfl ?_
  have := hP.N
  refine m_putI 10 X f_X12_330 fw_12_52 k_125 rn_125_52 dX12_asTold_7 rfl ?_
  refine at_aload_n 11 X rfl rfl dX12_asTold_10 rfl ?_
  refine at_aload_n 12 X rfl rfl dX12_asTold_11 rfl ?_
  refine m_getR 15 X f_X12_23 k_125 r_125_12 dX12_asTold_12 rfl ?_
  refine at_iconst 16 X (by decide) dX12_asTold_15 rfl ?_
  refine m_ialoadV 17 X 5 (by omega) ((sLn P : Nat) : Int) ((wr_o (by omega)).trans hR_E.1.2.2.2.2.2.1) k_129 e_129 (by omega) dX12_asTold_16 rfl ?_
  have := hP.Ln
  refine m_putI 20 X f_X12_333 fw_12_53 k_125 rn_125_53 dX12_asTold_17 rfl ?_
  refine at_aload_n 21 X rfl rfl dX12_asTold_20 rfl ?_
  refine at_aload_n 22 X rfl rfl dX12_asTold_21 rfl ?_
  refine at_callV 25 X _ 12 (ct_X12_cloudsTold hG (wr (wr E 125 52 ((sN P : Nat) : Int)) 125 53 ((sLn P : Nat) : Int)) P Q hP (hR_E.fr (fun q hq => by simp (disch := omega) only [wr_row]) hP)) clX12 rfl k_125 mo_X12_cloudsTold w_2134 vo_X12_cloudsTold.1 vo_X12_cloudsTold.2 rfl rfl (crm Rt (by decide)) (Nat.le_of_ble_eq_true rfl) dX12_asTold_22 rfl ?_
  rintro _ _ ⟨rfl, rfl⟩
  refine m_putI 28 X f_X12_339 fw_12_54 k_125 rn_125_54 dX12_asTold_25 rfl ?_
  refine at_vret X Rt ?_ (Nat.le_refl _) (Nat.le_refl _) dX12_asTold_28
  exact ⟨rfl, rfl⟩
/-- raw shadows of the first hours -/
def RRw (E : Mm) (G : GP) (n : Nat) : Prop := ∀ h c, h < n → c < gW G → E (658 + h) c = (mk (fun p => shG G h p c) (gN G) : Nat)
def shI (G : GP) (h p i c : Nat) (j : Nat) : Bool := if j = p then shB (gW G) (gX G p) i (gR G h) c else shG G h j c
theorem shB_0 (W x : Nat) (r : Bool) (c : Nat) : shB W x 0 r c = false := by
  unfold shB
  rw [Bool.eq_false_iff]
  split <;> simp only [ne_eq, Bool.and_eq_true, decide_eq_true_eq] <;> omega
theorem mk_or1 {q q' : Nat → Bool} {p n : Nat} (hp : p < n) (h : ∀ j, j < n → q' j = (q j || decide (j = p))) : ((mk q n ||| 2 ^ p : Nat) : Int) = ((mk q' n : Nat) : Int) := by rw [or_mk hp h]
theorem shI_at {G : GP} {h p i c j : Nat} (hcw : c < gW G) (hc : c = if gR G h = true then gX G p + (i + 1) else gX G p - (i + 1)) (hb : gR G h = true ∨ i + 1 ≤ gX G p) : shI G h p (i + 1) c j = (shI G h p i c j || decide (j = p)) := by
  unfold shI
  by_cases e : j = p
  · rw [if_pos e, if_pos e, decide_eq_true e, Bool.or_true]
    unfold shB
    by_cases z : gR G h = true
    · rw [if_pos z] at hc ⊢
      rw [Bool.and_eq_true, Bool.and_eq_true, decide_eq_true_iff, decide_eq_true_iff, decide_eq_true_iff]
      omega
    · rw [if_neg z] at hc ⊢
      have := hb.resolve_left z
      rw [Bool.and_eq_true, decide_eq_true_iff, decide_eq_true_iff]
      omega
  · rw [if_neg e, if_neg e, decide_eq_false e, Bool.or_false]
theorem shI_off {G : GP} {h p i c j : Nat} (hc : ¬ c = if gR G h = true then gX G p + (i + 1) else gX G p - (i + 1)) (hb : (gR G h = true ∧ gX G p + (i + 1) < gW G) ∨ (¬ gR G h = true ∧ i + 1 ≤ gX G p)) : shI G h p (i + 1) c j = shI G h p i c j := by
  unfold shI
  by_cases e : j = p
  · rw [if_pos e, if_pos e]
    unfold shB
    rcases hb with ⟨z, hz⟩ | ⟨z, hz⟩
    · rw [if_pos z] at hc ⊢
      rw [if_pos z, Bool.eq_iff_iff]
      simp only [Bool.and_eq_true, decide_eq_true_eq]
      omega
    · rw [if_neg z] at hc ⊢
      rw [if_neg z, Bool.eq_iff_iff]
      simp only [Bool.and_eq_true, decide_eq_true_eq]
      omega
  · rw [if_neg e, if_neg e]
theorem sh_far {G : GP} {h p i c : Nat} (hcw : c < gW G) (hi : i ≤ gH G p * gT' G h / 10) (hfar : (gR G h = true ∧ gW G ≤ gX G p + (i + 1)) ∨ (gR G h = false ∧ gX G p < i + 1)) : shB (gW G) (gX G p) i (gR G h) c = shG G h p c := by
  unfold shG
  generalize gH G p * gT' G h / 10 = l at hi ⊢
  unfold shB
  rcases hfar with ⟨z, hz⟩ | ⟨z, hz⟩
  · rw [if_pos z, if_pos z, Bool.eq_iff_iff]
    simp only [Bool.and_eq_true, decide_eq_true_eq]
    omega
  · rw [if_neg (by rw [z]; decide), if_neg (by rw [z]; decide), Bool.eq_iff_iff]
    simp only [Bool.and_eq_true, decide_eq_true_eq]
    omega
theorem dX12_laysRaw_0 : decode cX12_laysRaw 0 = .ok (.iconst 0, 1) := by decide +kernel
theorem dX12_laysRaw_1 : decode cX12_laysRaw 1 = .ok (.istore_n 2, 1) := by decide +kernel
theorem dX12_laysRaw_2 : decode cX12_laysRaw 2 = .ok (.iload_n 2, 1) := by decide +kernel
theorem dX12_laysRaw_3 : decode cX12_laysRaw 3 = .ok (.bipush 24, 2) := by decide +kernel
theorem dX12_laysRaw_5 : decode cX12_laysRaw 5 = .ok (.if_icmp .ge 159, 3) := by decide +kernel
theorem dX12_laysRaw_8 : decode cX12_laysRaw 8 = .ok (.iconst 0, 1) := by decide +kernel
theorem dX12_laysRaw_9 : decode cX12_laysRaw 9 = .ok (.istore_n 3, 1) := by decide +kernel
theorem dX12_laysRaw_10 : decode cX12_laysRaw 10 = .ok (.iload_n 3, 1) := by decide +kernel
theorem dX12_laysRaw_11 : decode cX12_laysRaw 11 = .ok (.aload_n 0, 1) := by decide +kernel
theorem dX12_laysRaw_12 : decode cX12_laysRaw 12 = .ok (.getfield 23, 3) := by decide +kernel
theorem dX12_laysRaw_15 : decode cX12_laysRaw 15 = .ok (.iconst 0, 1) := by decide +kernel
theorem dX12_laysRaw_16 : decode cX12_laysRaw 16 = .ok (.iaload, 1) := by decide +kernel
theorem dX12_laysRaw_17 : decode cX12_laysRaw 17 = .ok (.if_icmp .ge 18, 3) := by decide +kernel
theorem dX12_laysRaw_20 : decode cX12_laysRaw 20 = .ok (.aload_n 0, 1) := by decide +kernel
theorem dX12_laysRaw_21 : decode cX12_laysRaw 21 = .ok (.getfield 110, 3) := by decide +kernel
theorem dX12_laysRaw_24 : decode cX12_laysRaw 24 = .ok (.iload_n 2, 1) := by decide +kernel
theorem dX12_laysRaw_25 : decode cX12_laysRaw 25 = .ok (.aaload, 1) := by decide +kernel
theorem dX12_laysRaw_26 : decode cX12_laysRaw 26 = .ok (.iload_n 3, 1) := by decide +kernel
theorem dX12_laysRaw_27 : decode cX12_laysRaw 27 = .ok (.iconst 0, 1) := by decide +kernel
theorem dX12_laysRaw_28 : decode cX12_laysRaw 28 = .ok (.iastore, 1) := by decide +kernel
theorem dX12_laysRaw_29 : decode cX12_laysRaw 29 = .ok (.iinc 3 1, 3) := by decide +kernel
theorem dX12_laysRaw_32 : decode cX12_laysRaw 32 = .ok (.goto (-22), 3) := by decide +kernel
theorem dX12_laysRaw_35 : decode cX12_laysRaw 35 = .ok (.aload_n 0, 1) := by decide +kernel
theorem dX12_laysRaw_36 : decode cX12_laysRaw 36 = .ok (.iload_n 2, 1) := by decide +kernel
theorem dX12_laysRaw_37 : decode cX12_laysRaw 37 = .ok (.iload_n 1, 1) := by decide +kernel
theorem dX12_laysRaw_38 : decode cX12_laysRaw 38 = .ok (.iconst 1, 1) := by decide +kernel
theorem dX12_laysRaw_39 : decode cX12_laysRaw 39 = .ok (.invokevirtual 348, 3) := by decide +kernel
theorem dX12_laysRaw_42 : decode cX12_laysRaw 42 = .ok (.istore_n 3, 1) := by decide +kernel
theorem dX12_laysRaw_43 : decode cX12_laysRaw 43 = .ok (.aload_n 0, 1) := by decide +kernel
theorem dX12_laysRaw_44 : decode cX12_laysRaw 44 = .ok (.iload_n 2, 1) := by decide +kernel
theorem dX12_laysRaw_45 : decode cX12_laysRaw 45 = .ok (.iload_n 1, 1) := by decide +kernel
theorem dX12_laysRaw_46 : decode cX12_laysRaw 46 = .ok (.iconst 2, 1) := by decide +kernel
theorem dX12_laysRaw_47 : decode cX12_laysRaw 47 = .ok (.invokevirtual 348, 3) := by decide +kernel
theorem dX12_laysRaw_50 : decode cX12_laysRaw 50 = .ok (.iconst 1, 1) := by decide +kernel
theorem dX12_laysRaw_51 : decode cX12_laysRaw 51 = .ok (.if_icmp .ne 7, 3) := by decide +kernel
theorem dX12_laysRaw_54 : decode cX12_laysRaw 54 = .ok (.iconst 1, 1) := by decide +kernel
theorem dX12_laysRaw_55 : decode cX12_laysRaw 55 = .ok (.goto 4, 3) := by decide +kernel
theorem dX12_laysRaw_58 : decode cX12_laysRaw 58 = .ok (.iconst (-1), 1) := by decide +kernel
theorem dX12_laysRaw_59 : decode cX12_laysRaw 59 = .ok (.istore 4, 2) := by decide +kernel
theorem dX12_laysRaw_61 : decode cX12_laysRaw 61 = .ok (.iconst 0, 1) := by decide +kernel
theorem dX12_laysRaw_62 : decode cX12_laysRaw 62 = .ok (.istore 5, 2) := by decide +kernel
theorem dX12_laysRaw_64 : decode cX12_laysRaw 64 = .ok (.iload 5, 2) := by decide +kernel
theorem dX12_laysRaw_66 : decode cX12_laysRaw 66 = .ok (.aload_n 0, 1) := by decide +kernel
theorem dX12_laysRaw_67 : decode cX12_laysRaw 67 = .ok (.getfield 330, 3) := by decide +kernel
theorem dX12_laysRaw_70 : decode cX12_laysRaw 70 = .ok (.if_icmp .ge 88, 3) := by decide +kernel
theorem dX12_laysRaw_73 : decode cX12_laysRaw 73 = .ok (.iconst 1, 1) := by decide +kernel
theorem dX12_laysRaw_74 : decode cX12_laysRaw 74 = .ok (.istore 6, 2) := by decide +kernel
theorem dX12_laysRaw_76 : decode cX12_laysRaw 76 = .ok (.iload 6, 2) := by decide +kernel
theorem dX12_laysRaw_78 : decode cX12_laysRaw 78 = .ok (.aload_n 0, 1) := by decide +kernel
theorem dX12_laysRaw_79 : decode cX12_laysRaw 79 = .ok (.getfield 31, 3) := by decide +kernel
theorem dX12_laysRaw_82 : decode cX12_laysRaw 82 = .ok (.iload 5, 2) := by decide +kernel
theorem dX12_laysRaw_84 : decode cX12_laysRaw 84 = .ok (.aaload, 1) := by decide +kernel
theorem dX12_laysRaw_85 : decode cX12_laysRaw 85 = .ok (.iconst 1, 1) := by decide +kernel
theorem dX12_laysRaw_86 : decode cX12_laysRaw 86 = .ok (.iaload, 1) := by decide +kernel
theorem dX12_laysRaw_87 : decode cX12_laysRaw 87 = .ok (.iload_n 3, 1) := by decide +kernel
theorem dX12_laysRaw_88 : decode cX12_laysRaw 88 = .ok (.imul, 1) := by decide +kernel
theorem dX12_laysRaw_89 : decode cX12_laysRaw 89 = .ok (.bipush 10, 2) := by decide +kernel
theorem dX12_laysRaw_91 : decode cX12_laysRaw 91 = .ok (.idiv, 1) := by decide +kernel
theorem dX12_laysRaw_92 : decode cX12_laysRaw 92 = .ok (.if_icmp .gt 60, 3) := by decide +kernel
theorem dX12_laysRaw_95 : decode cX12_laysRaw 95 = .ok (.aload_n 0, 1) := by decide +kernel
theorem dX12_laysRaw_96 : decode cX12_laysRaw 96 = .ok (.aload_n 0, 1) := by decide +kernel
theorem dX12_laysRaw_97 : decode cX12_laysRaw 97 = .ok (.getfield 31, 3) := by decide +kernel
theorem dX12_laysRaw_100 : decode cX12_laysRaw 100 = .ok (.iload 5, 2) := by decide +kernel
theorem dX12_laysRaw_102 : decode cX12_laysRaw 102 = .ok (.aaload, 1) := by decide +kernel
theorem dX12_laysRaw_103 : decode cX12_laysRaw 103 = .ok (.iconst 0, 1) := by decide +kernel
theorem dX12_laysRaw_104 : decode cX12_laysRaw 104 = .ok (.iaload, 1) := by decide +kernel
theorem dX12_laysRaw_105 : decode cX12_laysRaw 105 = .ok (.iload 4, 2) := by decide +kernel
theorem dX12_laysRaw_107 : decode cX12_laysRaw 107 = .ok (.iload 6, 2) := by decide +kernel
theorem dX12_laysRaw_109 : decode cX12_laysRaw 109 = .ok (.imul, 1) := by decide +kernel
theorem dX12_laysRaw_110 : decode cX12_laysRaw 110 = .ok (.iadd, 1) := by decide +kernel
theorem dX12_laysRaw_111 : decode cX12_laysRaw 111 = .ok (.invokevirtual 351, 3) := by decide +kernel
theorem dX12_laysRaw_114 : decode cX12_laysRaw 114 = .ok (.ifCond .eq 38, 3) := by decide +kernel
theorem dX12_laysRaw_117 : decode cX12_laysRaw 117 = .ok (.aload_n 0, 1) := by decide +kernel
theorem dX12_laysRaw_118 : decode cX12_laysRaw 118 = .ok (.getfield 110, 3) := by decide +kernel
theorem dX12_laysRaw_121 : decode cX12_laysRaw 121 = .ok (.iload_n 2, 1) := by decide +kernel
theorem dX12_laysRaw_122 : decode cX12_laysRaw 122 = .ok (.aaload, 1) := by decide +kernel
theorem dX12_laysRaw_123 : decode cX12_laysRaw 123 = .ok (.aload_n 0, 1) := by decide +kernel
theorem dX12_laysRaw_124 : decode cX12_laysRaw 124 = .ok (.getfield 31, 3) := by decide +kernel
theorem dX12_laysRaw_127 : decode cX12_laysRaw 127 = .ok (.iload 5, 2) := by decide +kernel
theorem dX12_laysRaw_129 : decode cX12_laysRaw 129 = .ok (.aaload, 1) := by decide +kernel
theorem dX12_laysRaw_130 : decode cX12_laysRaw 130 = .ok (.iconst 0, 1) := by decide +kernel
theorem dX12_laysRaw_131 : decode cX12_laysRaw 131 = .ok (.iaload, 1) := by decide +kernel
theorem dX12_laysRaw_132 : decode cX12_laysRaw 132 = .ok (.iload 4, 2) := by decide +kernel
theorem dX12_laysRaw_134 : decode cX12_laysRaw 134 = .ok (.iload 6, 2) := by decide +kernel
theorem dX12_laysRaw_136 : decode cX12_laysRaw 136 = .ok (.imul, 1) := by decide +kernel
theorem dX12_laysRaw_137 : decode cX12_laysRaw 137 = .ok (.iadd, 1) := by decide +kernel
theorem dX12_laysRaw_138 : decode cX12_laysRaw 138 = .ok (.dup2, 1) := by decide +kernel
theorem dX12_laysRaw_139 : decode cX12_laysRaw 139 = .ok (.iaload, 1) := by decide +kernel
theorem dX12_laysRaw_140 : decode cX12_laysRaw 140 = .ok (.iconst 1, 1) := by decide +kernel
theorem dX12_laysRaw_141 : decode cX12_laysRaw 141 = .ok (.iload 5, 2) := by decide +kernel
theorem dX12_laysRaw_143 : decode cX12_laysRaw 143 = .ok (.ishl, 1) := by decide +kernel
theorem dX12_laysRaw_144 : decode cX12_laysRaw 144 = .ok (.ior, 1) := by decide +kernel
theorem dX12_laysRaw_145 : decode cX12_laysRaw 145 = .ok (.iastore, 1) := by decide +kernel
theorem dX12_laysRaw_146 : decode cX12_laysRaw 146 = .ok (.iinc 6 1, 3) := by decide +kernel
theorem dX12_laysRaw_149 : decode cX12_laysRaw 149 = .ok (.goto (-73), 3) := by decide +kernel
theorem dX12_laysRaw_152 : decode cX12_laysRaw 152 = .ok (.iinc 5 1, 3) := by decide +kernel
theorem dX12_laysRaw_155 : decode cX12_laysRaw 155 = .ok (.goto (-91), 3) := by decide +kernel
theorem dX12_laysRaw_158 : decode cX12_laysRaw 158 = .ok (.iinc 2 1, 3) := by decide +kernel
theorem dX12_laysRaw_161 : decode cX12_laysRaw 161 = .ok (.goto (-159), 3) := by decide +kernel
theorem dX12_laysRaw_164 : decode cX12_laysRaw 164 = .ok (.return_, 1) := by decide +kernel
theorem ct_X12_laysRaw {g : Gw} (hG : GF g) {z : Bool} (E : Mm) (P : SP) (Q : RX) (hP : WS P) (hR_E : RTS E P Q) (G : GP) (hW : WR G) (hp_E : RPg E G) (d : Nat) (hd : d < 400) (hgw : gW G = sW P) (hgt : ∀ h, h < 24 → gT' G h = ltP P (moonP P d) h) (hgr : ∀ h, h < 24 → gR G h = lrP P (moonP P d) h) : CT g yX12_laysRaw cX12_laysRaw 7 none 2 48 0 0 K2 z [mR 125, mI ((d : Nat) : Int)] (ov E) K2 z (fun r D' => r = none ∧ ∃ E1, D' = ov E1 ∧ RRw E1 G 24 ∧ ∀ q, ¬ (658 ≤ q ∧ q ≤ 681) → E1 q = E q) := by
  refine CT.mk hG (by decide +kernel) (Nat.le_of_ble_eq_true rfl) (fun κ X Rt _ ok => ?_)
  have hN11 := hW.2.1
  have hW40 := hW.1
  refine at_iconst 1 X (by decide) dX12_laysRaw_0 rfl ?_
  refine at_istore_n 2 X rfl dX12_laysRaw_1 rfl (by decide) ?_
  have J2 : ∀ (f2 : Nat) (F : Mm) (h : Nat), 24 - h < f2 → (h ≤ 24) → (RRw F G h) → ((∀ q, ¬ (658 ≤ q ∧ q ≤ 681) → F q = E q)) → AT g κ K2 z 0 0 2 [(0, mR 125), (1, mI ((d : Nat) : Int)), (2, mI ((h : Nat) : Int))] [] (ov F) := by
    intro f2
    induction f2 with
    | zero => intro F h hf2; omega
    | succ f2 ih2 =>
    intro F h hf2 hh ho_F hf_F
    refine at_iload_n 3 X rfl rfl dX12_laysRaw_2 rfl ?_
    refine at_bipush 5 X (by decide) (by decide) dX12_laysRaw_3 rfl ?_
    refine at_icmp_ge 8 164 X dX12_laysRaw_5 rfl (by decide) (fun h5 => ?_) (fun h5 => ?_)
    · refine at_vret X Rt ?_ (Nat.le_refl _) (Nat.le_refl _) dX12_laysRaw_164
      have h24 : h = 24 := by omega
      subst h24
      exact ⟨rfl, F, rfl, ho_F, hf_F⟩
    · refine at_iconst 9 X (by decide) dX12_laysRaw_8 rfl ?_
      refine at_istore_n 10 X rfl dX12_laysRaw_9 rfl (by decide) ?_
      have J10 : ∀ (f10 : Nat) (F2 : Mm) (x : Nat), 40 - x < f10 → (x ≤ sW P) → ((∀ t c, t < h → c < gW G → F2 (658 + t) c = (mk (fun p => shG G t p c) (gN G) : Nat))) → ((∀ c, c < x → F2 (658 + h) c = ((0 : Nat) : Int))) → ((∀ q, ¬ (658 ≤ q ∧ q ≤ 681) → F2 q = E q)) → AT g κ K2 z 0 0 10 [(0, mR 125), (1, mI ((d : Nat) : Int)), (2, mI ((h : Nat) : Int)), (3, mI ((x : Nat) : Int))] [] (ov F2) := by
        intro f10
        induction f10 with
        | zero => intro F2 x hf10; omega
        | succ f10 ih10 =>
        intro F2 x hf10 hx ho_F2 hr_F2 hf_F2
        refine at_iload_n 11 X rfl rfl dX12_laysRaw_10 rfl ?_
        have hR_F2 : RTS F2 P Q := hR_E.fr (fun q hq => hf_F2 q (by omega)) hP
        refine at_aload_n 12 X rfl rfl dX12_laysRaw_11 rfl ?_
        refine m_getR 15 X f_X12_23 k_125 r_125_12 dX12_laysRaw_12 rfl ?_
        refine at_iconst 16 X (by decide) dX12_laysRaw_15 rfl ?_
        refine m_ialoadV 17 X 0 (by omega) ((sW P : Nat) : Int) hR_F2.1.1 k_129 e_129 (by omega) dX12_laysRaw_16 rfl ?_
        have := hP.W
        refine at_icmp_ge 20 35 X dX12_laysRaw_17 rfl (by decide) (fun h17 => ?_) (fun h17 => ?_)
        · refine at_aload_n 36 X rfl rfl dX12_laysRaw_35 rfl ?_
          have hR_F2 : RTS F2 P Q := hR_E.fr (fun q hq => hf_F2 q (by omega)) hP
          have hp_F2 : RPg F2 G := ⟨by rw [hf_F2 125 (by omega)]; exact hp_E.1, fun p hp => by rw [hf_F2 (142 + p) (by omega)]; exact hp_E.2 p hp⟩
          refine at_iload_n 37 X rfl rfl dX12_laysRaw_36 rfl ?_
          refine at_iload_n 38 X rfl rfl dX12_laysRaw_37 rfl ?_
          refine at_iconst 39 X (by decide) dX12_laysRaw_38 rfl ?_
          refine at_callV 42 X _ 12 (ct_X12_lightOf1 hG F2 P Q hP hR_F2 h d (by omega) (by omega)) clX12 rfl k_125 mo_X12_lightOf w_2138 vo_X12_lightOf.1 vo_X12_lightOf.2 rfl rfl (crm Rt (by decide)) (Nat.le_of_ble_eq_true rfl) dX12_laysRaw_39 rfl ?_
          rintro _ _ ⟨rfl, rfl⟩
          rw [← hgt h (by omega)]
          refine at_istore_n 43 X rfl dX12_laysRaw_42 rfl (by decide) ?_
          have J61 : ∀ (wy : Int), ((gR G h = true ∧ wy = 1) ∨ (gR G h = false ∧ wy = -1)) → AT g κ K2 z 0 0 61 [(0, mR 125), (1, mI ((d : Nat) : Int)), (2, mI ((h : Nat) : Int)), (3, mI ((gT' G h : Nat) : Int)), (4, mI wy)] [] (ov F2) := by
            intro wy hwy
            refine at_iconst 62 X (by decide) dX12_laysRaw_61 rfl ?_
            refine at_istore 64 X dX12_laysRaw_62 rfl (by decide) ?_
            have J64 : ∀ (f64 : Nat) (F3 : Mm) (p : Nat), 11 - p < f64 → (p ≤ gN G) → ((∀ t c, t < h → c < gW G → F3 (658 + t) c = (mk (fun p => shG G t p c) (gN G) : Nat))) → ((∀ c, c < gW G → F3 (658 + h) c = (mk (fun p => shG G h p c) p : Nat))) → ((∀ q, ¬ (658 ≤ q ∧ q ≤ 681) → F3 q = E q)) → AT g κ K2 z 0 0 64 [(0, mR 125), (1, mI ((d : Nat) : Int)), (2, mI ((h : Nat) : Int)), (3, mI ((gT' G h : Nat) : Int)), (4, mI wy), (5, mI ((p : Nat) : Int))] [] (ov F3) := by
              intro f64
              induction f64 with
              | zero => intro F3 p hf64; omega
              | succ f64 ih64 =>
              intro F3 p hf64 hp ho_F3 hr_F3 hf_F3
              refine at_iload 66 X rfl dX12_laysRaw_64 rfl ?_
              have hR_F3 : RTS F3 P Q := hR_E.fr (fun q hq => hf_F3 q (by omega)) hP
              have hp_F3 : RPg F3 G := ⟨by rw [hf_F3 125 (by omega)]; exact hp_E.1, fun p hp => by rw [hf_F3 (142 + p) (by omega)]; exact hp_E.2 p hp⟩
              refine at_aload_n 67 X rfl rfl dX12_laysRaw_66 rfl ?_
              refine m_getIV 70 X ((gN G : Nat) : Int) hp_F3.1 f_X12_330 k_125 rn_125_52 dX12_laysRaw_67 rfl ?_
              have := hW.2.1
              refine at_icmp_ge 73 158 X dX12_laysRaw_70 rfl (by decide) (fun h70 => ?_) (fun h70 => ?_)
              · refine at_iincV 161 X ((h + 1 : Nat) : Int) (w32_v (by omega) (by omega) (by omega)) rfl dX12_laysRaw_158 rfl (by decide) ?_
                refine at_goto 2 X dX12_laysRaw_161 (by decide) ?_
                exact at_sub _ (by exact ⟨rfl, rfl, rfl, trivial⟩) (ih2 F3 (h + 1) (by first | omega | (simp only [] at *; omega)) (by first | omega | assumption) (fun t c ht hc => if e : t = h then by subst e; have e2 := hr_F3 c hc; rw [show gN G = p by omega]; exact e2 else ho_F3 t c (by omega) hc) hf_F3)
              · refine at_iconst 74 X (by decide) dX12_laysRaw_73 rfl ?_
                refine at_istore 76 X dX12_laysRaw_74 rfl (by decide) ?_
                have J76 : ∀ (f76 : Nat) (F4 : Mm) (i : Nat) (n : Nat), 42 - i < f76 → (n = i + 1) → (i ≤ (gH G p * gT' G h / 10)) → (i ≤ 41) → ((gR G h = true → gX G p + i < gW G ∨ i = 0) ∧ (gR G h = false → i ≤ gX G p)) → ((∀ t c, t < h → c < gW G → F4 (658 + t) c = (mk (fun p => shG G t p c) (gN G) : Nat))) → ((∀ c, c < gW G → F4 (658 + h) c = (mk (shI G h p i c) (p + 1) : Nat))) → ((∀ q, ¬ (658 ≤ q ∧ q ≤ 681) → F4 q = E q)) → AT g κ K2 z 0 0 76 [(0, mR 125), (1, mI ((d : Nat) : Int)), (2, mI ((h : Nat) : Int)), (3, mI ((gT' G h : Nat) : Int)), (4, mI wy), (5, mI ((p : Nat) : Int)), (6, mI ((n : Nat) : Int))] [] (ov F4) := by
                  intro f76
                  induction f76 with
                  | zero => intro F4 i n hf76; omega
                  | succ f76 ih76 =>
                  intro F4 i n hf76 hn hi hi40 hreach ho_F4 hr_F4 hf_F4
                  refine at_iload 78 X rfl dX12_laysRaw_76 rfl ?_
                  have hR_F4 : RTS F4 P Q := hR_E.fr (fun q hq => hf_F4 q (by omega)) hP
                  have hp_F4 : RPg F4 G := ⟨by rw [hf_F4 125 (by omega)]; exact hp_E.1, fun p hp => by rw [hf_F4 (142 + p) (by omega)]; exact hp_E.2 p hp⟩
                  refine at_aload_n 79 X rfl rfl dX12_laysRaw_78 rfl ?_
                  refine m_getR 82 X f_X12_31 k_125 r_125_14 dX12_laysRaw_79 rfl ?_
                  refine at_iload 84 X rfl dX12_laysRaw_82 rfl ?_
                  refine m_aaloadV 85 X p (by omega) k_141 (by decide) (by omega) (rr_141 _ (by omega)) dX12_laysRaw_84 rfl ?_
                  refine at_iconst 86 X (by decide) dX12_laysRaw_85 rfl ?_
                  refine m_ialoadV 87 X 1 (by omega) ((gH G p : Nat) : Int) (hp_F4.2 p (by omega)).1 (kr_141 _ (by omega)) (er_141 _ (by omega)) (by omega) dX12_laysRaw_86 rfl ?_
                  have := (hW.2.2.1 p (by omega)).1
                  refine at_iload_n 88 X rfl rfl dX12_laysRaw_87 rfl ?_
                  have hm := Nat.mul_le_mul (show gH G p ≤ 99 by omega) (show gT' G h ≤ 99 from hW.2.2.2.1 h (by omega))
                  refine at_imulV 89 X (((gH G p) * (gT' G h) : Nat) : Int) (w32_v (Int.natCast_mul _ _).symm (by omega) (by omega)) dX12_laysRaw_88 rfl ?_
                  refine at_bipush 91 X (by decide) (by decide) dX12_laysRaw_89 rfl ?_
                  refine at_idivV 92 X (by omega) (((gH G p * gT' G h / 10) : Nat) : Int) (w32_v (Int.ofNat_tdiv (gH G p * gT' G h) 10).symm (by omega) (by omega)) dX12_laysRaw_91 rfl ?_
                  refine at_icmp_gt 95 152 X dX12_laysRaw_92 rfl (by decide) (fun h92 => ?_) (fun h92 => ?_)
                  · have hfin : ∀ c, c < gW G → shB (gW G) (gX G p) i (gR G h) c = shG G h p c := fun c hc => by rw [show i = (gH G p * gT' G h / 10) by omega]; rfl
                    refine at_iincV 155 X ((p + 1 : Nat) : Int) (w32_v (by omega) (by omega) (by omega)) rfl dX12_laysRaw_152 rfl (by decide) ?_
                    refine at_goto 64 X dX12_laysRaw_155 (by decide) ?_
                    exact at_sub _ (by exact ⟨rfl, rfl, rfl, rfl, rfl, rfl, trivial⟩) (ih64 F4 (p + 1) (by first | omega | (simp only [] at *; omega)) (by first | omega | assumption) ho_F4 (fun c hc => by rw [hr_F4 c hc]; exact congrArg (fun q : Nat => (q : Int)) (mk_congr (fun j hj => if e : j = p then by subst e; unfold shI; rw [if_pos rfl]; exact hfin c hc else if_neg e))) hf_F4)
                  · have hx0 : gX G p < gW G := (hW.2.2.1 p (by omega)).2.resolve_right (fun q => by rw [q.2, Nat.zero_mul] at h92; omega)
                    have hwn : wy * ((n : Nat) : Int) = (if gR G h = true then (n : Int) else -(n : Int)) := by
                      rcases hwy with ⟨q1, q2⟩ | ⟨q1, q2⟩
                      · rw [q1, q2, if_pos rfl]; omega
                      · rw [q1, q2, if_neg (by decide)]; omega
                    refine at_aload_n 96 X rfl rfl dX12_laysRaw_95 rfl ?_
                    refine at_aload_n 97 X rfl rfl dX12_laysRaw_96 rfl ?_
                    refine m_getR 100 X f_X12_31 k_125 r_125_14 dX12_laysRaw_97 rfl ?_
                    refine at_iload 102 X rfl dX12_laysRaw_100 rfl ?_
                    refine m_aaloadV 103 X p (by omega) k_141 (by decide) (by omega) (rr_141 _ (by omega)) dX12_laysRaw_102 rfl ?_
                    refine at_iconst 104 X (by decide) dX12_laysRaw_103 rfl ?_
                    refine m_ialoadV 105 X 0 (by omega) (F4 (142 + p) 0) rfl (kr_141 _ (by omega)) (er_141 _ (by omega)) (by omega) dX12_laysRaw_104 rfl ?_
                    have := (hp_F4.2 p (by omega)).2
                    have := (hW.2.2.1 p (by omega)).2
                    refine at_iload 107 X rfl dX12_laysRaw_105 rfl ?_
                    refine at_iload 109 X rfl dX12_laysRaw_107 rfl ?_
                    refine at_imulV 110 X (if gR G h = true then (n : Int) else -(n : Int)) (w32_v hwn (by split <;> omega) (by split <;> omega)) dX12_laysRaw_109 rfl ?_
                    refine at_iaddV 111 X (F4 (142 + p) 0 + (if gR G h = true then (n : Int) else -(n : Int))) (w32_v rfl (by split <;> omega) (by split <;> omega)) dX12_laysRaw_110 rfl ?_
                    refine at_callV 114 X _ 12 (ct_X12_isCell hG F4 P Q hP hR_F4 (F4 (142 + p) 0 + (if gR G h = true then (n : Int) else -(n : Int)))) clX12 rfl k_125 mo_X12_isCell w_2154 vo_X12_isCell.1 vo_X12_isCell.2 rfl rfl (crm Rt (by decide)) (Nat.le_of_ble_eq_true rfl) dX12_laysRaw_111 rfl ?_
                    rintro _ _ ⟨rfl, rfl⟩
                    refine at_if_eq 117 152 X dX12_laysRaw_114 rfl (by decide) (fun h114 => ?_) (fun h114 => ?_)
                    · have h114 : ¬ (0 ≤ (F4 (142 + p) 0 + (if gR G h = true then (n : Int) else -(n : Int))) ∧ (F4 (142 + p) 0 + (if gR G h = true then (n : Int) else -(n : Int))) ≤ (sW P : Int) - 1) := ite_no.mp h114
                      have hfin : ∀ c, c < gW G → shB (gW G) (gX G p) i (gR G h) c = shG G h p c := fun c hc => sh_far hc (by omega) (by split at h114 <;> first | exact Or.inl ⟨by assumption, by omega⟩ | exact Or.inr ⟨Bool.eq_false_iff.mpr (by assumption), by omega⟩)
                      refine at_iincV 155 X ((p + 1 : Nat) : Int) (w32_v (by omega) (by omega) (by omega)) rfl dX12_laysRaw_152 rfl (by decide) ?_
                      refine at_goto 64 X dX12_laysRaw_155 (by decide) ?_
                      exact at_sub _ (by exact ⟨rfl, rfl, rfl, rfl, rfl, rfl, trivial⟩) (ih64 F4 (p + 1) (by first | omega | (simp only [] at *; omega)) (by first | omega | assumption) ho_F4 (fun c hc => by rw [hr_F4 c hc]; exact congrArg (fun q : Nat => (q : Int)) (mk_congr (fun j hj => if e : j = p then by subst e; unfold shI; rw [if_pos rfl]; exact hfin c hc else if_neg e))) hf_F4)
                    · have h114 : (0 ≤ (F4 (142 + p) 0 + (if gR G h = true then (n : Int) else -(n : Int))) ∧ (F4 (142 + p) 0 + (if gR G h = true then (n : Int) else -(n : Int))) ≤ (sW P : Int) - 1) := ite_yes.mp h114
                      have hX : F4 (142 + p) 0 = (gX G p : Int) := by omega
                      have hcell : (if gR G h = true then gX G p + n else gX G p - n) < gW G := by split at h114 <;> rename_i hz <;> first | (rw [if_pos hz]; omega) | (rw [if_neg hz]; omega)
                      refine at_aload_n 118 X rfl rfl dX12_laysRaw_117 rfl ?_
                      refine m_getR 121 X f_X12_110 k_125 r_125_49 dX12_laysRaw_118 rfl ?_
                      refine at_iload_n 122 X rfl rfl dX12_laysRaw_121 rfl ?_
                      refine m_aaloadV 123 X h (by omega) k_657 (by decide) (by omega) (rr_657 _ (by omega)) dX12_laysRaw_122 rfl ?_
                      refine at_aload_n 124 X rfl rfl dX12_laysRaw_123 rfl ?_
                      refine m_getR 127 X f_X12_31 k_125 r_125_14 dX12_laysRaw_124 rfl ?_
                      refine at_iload 129 X rfl dX12_laysRaw_127 rfl ?_
                      refine m_aaloadV 130 X p (by omega) k_141 (by decide) (by omega) (rr_141 _ (by omega)) dX12_laysRaw_129 rfl ?_
                      refine at_iconst 131 X (by decide) dX12_laysRaw_130 rfl ?_
                      refine m_ialoadV 132 X 0 (by omega) (F4 (142 + p) 0) rfl (kr_141 _ (by omega)) (er_141 _ (by omega)) (by omega) dX12_laysRaw_131 rfl ?_
                      have := (hp_F4.2 p (by omega)).2
                      have := (hW.2.2.1 p (by omega)).2
                      refine at_iload 134 X rfl dX12_laysRaw_132 rfl ?_
                      refine at_iload 136 X rfl dX12_laysRaw_134 rfl ?_
                      refine at_imulV 137 X (if gR G h = true then (n : Int) else -(n : Int)) (w32_v hwn (by split <;> omega) (by split <;> omega)) dX12_laysRaw_136 rfl ?_
                      refine at_iaddV 138 X (((if gR G h = true then gX G p + n else gX G p - n) : Nat) : Int) (w32_v (by rw [hX]; split at h114 <;> rename_i hz <;> first | (rw [if_pos hz, if_pos hz]; omega) | (rw [if_neg hz, if_neg hz]; omega)) (by omega) (by omega)) dX12_laysRaw_137 rfl ?_
                      refine at_dup2 139 X (show ¬ (0 : Nat) = 1 by decide) (show ¬ (2 : Nat) = 1 by decide) dX12_laysRaw_138 rfl ?_
                      refine m_ialoadV 140 X (if gR G h = true then gX G p + n else gX G p - n) (by omega) ((mk (shI G h p i (if gR G h = true then gX G p + n else gX G p - n)) (p + 1) : Nat) : Int) (hr_F4 _ hcell) (kr_657 _ (by omega)) (er_657 _ (by omega)) (by omega) dX12_laysRaw_139 rfl ?_
                      have hmk := mk11 (p := shI G h p i (if gR G h = true then gX G p + n else gX G p - n)) (n := p + 1) (by omega)
                      refine at_iconst 141 X (by decide) dX12_laysRaw_140 rfl ?_
                      refine at_iload 143 X rfl dX12_laysRaw_141 rfl ?_
                      refine at_ishlV 144 X ((2 ^ p : Nat) : Int) (ishl1 (by omega)) dX12_laysRaw_143 rfl ?_
                      refine at_iorV 145 X ((mk (shI G h p (i + 1) (if gR G h = true then gX G p + n else gX G p - n)) (p + 1) : Nat) : Int) ((ior_nat (by omega) (p2_31 (by omega))).trans (mk_or1 (by omega) (fun j hj => shI_at hcell (by rw [hn]) (by split at h114 <;> rename_i hz <;> first | exact Or.inl hz | exact Or.inr (by omega))))) dX12_laysRaw_144 rfl ?_
                      refine m_iastoreV 146 X (if gR G h = true then gX G p + n else gX G p - n) (by omega) (kr_657 _ (by omega)) (er_657 _ (by omega)) (by omega) dX12_laysRaw_145 rfl ?_
                      refine at_iincV 149 X ((n + 1 : Nat) : Int) (w32_v (by omega) (by omega) (by omega)) rfl dX12_laysRaw_146 rfl (by decide) ?_
                      refine at_goto 76 X dX12_laysRaw_149 (by decide) ?_
                      exact at_sub _ (by exact ⟨rfl, rfl, rfl, rfl, rfl, rfl, rfl, trivial⟩) (ih76 (wr F4 (658 + h) (if gR G h = true then gX G p + n else gX G p - n) ((mk (shI G h p (i + 1) (if gR G h = true then gX G p + n else gX G p - n)) (p + 1) : Nat) : Int)) (i + 1) (n + 1) (by first | omega | (simp only [] at *; omega)) (by omega) (by omega) (by split at h114 <;> omega) (by split at h114 <;> rename_i hz <;> first | exact ⟨fun _ => Or.inl (by omega), fun q => by rw [hz] at q; cases q⟩ | exact ⟨fun q => absurd q hz, fun _ => by omega⟩) (fun t c ht hc => by rw [wr_o (Or.inl (by omega))]; exact ho_F4 t c ht hc) (fun c hc => if e : c = (if gR G h = true then gX G p + n else gX G p - n) then by subst e; exact wr_s _ _ _ _ else by rw [wr_o (Or.inr e), hr_F4 c hc]; exact congrArg (fun q : Nat => (q : Int)) (mk_congr (fun j hj => (shI_off (by rw [hn] at e; exact e) (by rw [hn] at h114; split at h114 <;> rename_i hz <;> first | exact Or.inl ⟨hz, by omega⟩ | exact Or.inr ⟨hz, by omega⟩)).symm))) (fun q hq => by rw [wr_row (by omega)]; exact hf_F4 q hq))
                exact at_sub _ (by exact ⟨rfl, rfl, rfl, rfl, rfl, rfl, rfl, trivial⟩) (J76 _ F3 0 1 (Nat.lt_succ_self _) rfl (by first | omega | assumption | rfl) (by first | omega | assumption | rfl) ⟨fun _ => Or.inr rfl, fun _ => Nat.zero_le _⟩ ho_F3 (fun c hc => by rw [hr_F3 c hc, mk_f (p := shI G h p 0 c) (by unfold shI; rw [if_pos rfl, shB_0]; decide)]; exact congrArg (fun q : Nat => (q : Int)) (mk_congr (fun j hj => (if_neg (by omega)).symm))) hf_F3)
            exact at_sub _ (by exact ⟨rfl, rfl, rfl, rfl, rfl, rfl, trivial⟩) (J64 _ F2 0 (Nat.lt_succ_self _) (by first | omega | assumption | rfl) ho_F2 (fun c hc => hr_F2 c (by omega)) hf_F2)
          refine at_aload_n 44 X rfl rfl dX12_laysRaw_43 rfl ?_
          refine at_iload_n 45 X rfl rfl dX12_laysRaw_44 rfl ?_
          refine at_iload_n 46 X rfl rfl dX12_laysRaw_45 rfl ?_
          refine at_iconst 47 X (by decide) dX12_laysRaw_46 rfl ?_
          refine at_callV 50 X _ 12 (ct_X12_lightOf2 hG F2 P Q hP hR_F2 h d (by omega) (by omega)) clX12 rfl k_125 mo_X12_lightOf w_2138 vo_X12_lightOf.1 vo_X12_lightOf.2 rfl rfl (crm Rt (by decide)) (Nat.le_of_ble_eq_true rfl) dX12_laysRaw_47 rfl ?_
          rintro _ _ ⟨rfl, rfl⟩
          rw [← hgr h (by omega)]
          refine at_iconst 51 X (by decide) dX12_laysRaw_50 rfl ?_
          refine at_icmp_ne 54 58 X dX12_laysRaw_51 rfl (by decide) (fun h51 => ?_) (fun h51 => ?_)
          · have hgR : gR G h = false := by
              cases e : gR G h with
              | false => rfl
              | true => rw [e] at h51; exact absurd rfl h51
            refine at_iconst 59 X (by decide) dX12_laysRaw_58 rfl ?_
            refine at_istore 61 X dX12_laysRaw_59 rfl (by decide) ?_
            exact at_sub _ (by exact ⟨rfl, rfl, rfl, rfl, rfl, trivial⟩) (J61 (-1) (by first | exact Or.inl ⟨hgR, rfl⟩ | exact Or.inr ⟨hgR, rfl⟩))
          · have hgR : gR G h = true := by
              cases e : gR G h with
              | false => rw [e] at h51; exact absurd h51 (by decide)
              | true => rfl
            refine at_iconst 55 X (by decide) dX12_laysRaw_54 rfl ?_
            refine at_goto 59 X dX12_laysRaw_55 (by decide) ?_
            refine at_istore 61 X dX12_laysRaw_59 rfl (by decide) ?_
            exact at_sub _ (by exact ⟨rfl, rfl, rfl, rfl, rfl, trivial⟩) (J61 1 (by first | exact Or.inl ⟨hgR, rfl⟩ | exact Or.inr ⟨hgR, rfl⟩))
        · refine at_aload_n 21 X rfl rfl dX12_laysRaw_20 rfl ?_
          refine m_getR 24 X f_X12_110 k_125 r_125_49 dX12_laysRaw_21 rfl ?_
          refine at_iload_n 25 X rfl rfl dX12_laysRaw_24 rfl ?_
          refine m_aaloadV 26 X h (by omega) k_657 (by decide) (by omega) (rr_657 _ (by omega)) dX12_laysRaw_25 rfl ?_
          refine at_iload_n 27 X rfl rfl dX12_laysRaw_26 rfl ?_
          refine at_iconst 28 X (by decide) dX12_laysRaw_27 rfl ?_
          refine m_iastoreV 29 X x (by omega) (kr_657 _ (by omega)) (er_657 _ (by omega)) (by omega) dX12_laysRaw_28 rfl ?_
          refine at_iincV 32 X ((x + 1 : Nat) : Int) (w32_v (by omega) (by omega) (by omega)) rfl dX12_laysRaw_29 rfl (by decide) ?_
          refine at_goto 10 X dX12_laysRaw_32 (by decide) ?_
          exact at_sub _ (by exact ⟨rfl, rfl, rfl, rfl, trivial⟩) (ih10 (wr F2 (658 + h) x 0) (x + 1) (by first | omega | (simp only [] at *; omega)) (by first | omega | assumption) (fun t c ht hc => by rw [wr_o (by omega)]; exact ho_F2 t c ht hc) (fun c hc => if e : c = x then by subst e; exact wr_s _ _ _ _ else by rw [wr_o (Or.inr e)]; exact hr_F2 c (by omega)) (fun q hq => by rw [wr_row (by omega)]; exact hf_F2 q hq))
      exact at_sub _ (by exact ⟨rfl, rfl, rfl, rfl, trivial⟩) (J10 _ F 0 (Nat.lt_succ_self _) (by first | omega | assumption | rfl) ho_F (fun c hc => absurd hc (Nat.not_lt_zero c)) hf_F)
  exact at_sub _ (by exact ⟨rfl, rfl, rfl, trivial⟩) (J2 _ E 0 (Nat.lt_succ_self _) (by first | omega | assumption | rfl) (fun t c ht => absurd ht (Nat.not_lt_zero t)) (fun _ _ => rfl))
