def dst (a x : Nat) : Nat := if a ≤ x then x - a else a - x
def csN (a x v : Nat) : Nat := if 1000000 ≤ dst a x + v then 1000000 else dst a x + v
def chN (f : Nat → Nat) (a : Nat) : Nat → Nat := itr (fun x v => if v ≤ csN a x (f x) then v else csN a x (f x)) 1000000
theorem chN_le (f : Nat → Nat) (a : Nat) : ∀ n, chN f a n ≤ 1000000
  | 0 => Nat.le_refl _
  | n + 1 => by
    have := chN_le f a n
    show (if chN f a n ≤ csN a n (f n) then chN f a n else csN a n (f n)) ≤ 1000000
    split <;> omega
/-- what is yet to be carried from a left end on, k hours ahead of the last -/
def crk (G : GP) (B : BM) (b last : Nat) : Nat → Nat → Nat
  | 0 => fun x => if stP G B b x last then 0 else 1000000
  | k + 1 => fun x => if stP G B b x (last - (k + 1)) then chN (crk G B b last k) x (gW G + 1 - bL B b) else 1000000
theorem crk_le (G : GP) (B : BM) (b last : Nat) : ∀ k x, crk G B b last k x ≤ 1000000
  | 0, x => by show (if stP G B b x last then 0 else 1000000) ≤ 1000000; split <;> omega
  | k + 1, x => by
    show (if stP G B b x (last - (k + 1)) then chN (crk G B b last k) x (gW G + 1 - bL B b) else 1000000) ≤ 1000000
    have := chN_le (crk G B b last k) x (gW G + 1 - bL B b)
    split <;> omega
/-- the first left end by which least is carried from a on -/
def fcN (f : Nat → Nat) (a n : Nat) : Nat := if fstP (fun x => decide (csN a x (f x) = chN f a n)) n = -1 then a else (fstP (fun x => decide (csN a x (f x) = chN f a n)) n).toNat
theorem dX1_costBy_0 : decode cX1_costBy 0 = .ok (.ldc 51, 2) := by decide +kernel
theorem dX1_costBy_2 : decode cX1_costBy 2 = .ok (.iload_n 1, 1) := by decide +kernel
theorem dX1_costBy_3 : decode cX1_costBy 3 = .ok (.iload_n 2, 1) := by decide +kernel
theorem dX1_costBy_4 : decode cX1_costBy 4 = .ok (.isub, 1) := by decide +kernel
theorem dX1_costBy_5 : decode cX1_costBy 5 = .ok (.invokestatic 52, 3) := by decide +kernel
theorem dX1_costBy_8 : decode cX1_costBy 8 = .ok (.aload_n 0, 1) := by decide +kernel
theorem dX1_costBy_9 : decode cX1_costBy 9 = .ok (.getfield 9, 3) := by decide +kernel
theorem dX1_costBy_12 : decode cX1_costBy 12 = .ok (.iload_n 3, 1) := by decide +kernel
theorem dX1_costBy_13 : decode cX1_costBy 13 = .ok (.bipush 40, 2) := by decide +kernel
theorem dX1_costBy_15 : decode cX1_costBy 15 = .ok (.imul, 1) := by decide +kernel
theorem dX1_costBy_16 : decode cX1_costBy 16 = .ok (.iload_n 2, 1) := by decide +kernel
theorem dX1_costBy_17 : decode cX1_costBy 17 = .ok (.iadd, 1) := by decide +kernel
theorem dX1_costBy_18 : decode cX1_costBy 18 = .ok (.iaload, 1) := by decide +kernel
theorem dX1_costBy_19 : decode cX1_costBy 19 = .ok (.iadd, 1) := by decide +kernel
theorem dX1_costBy_20 : decode cX1_costBy 20 = .ok (.invokestatic 56, 3) := by decide +kernel
theorem dX1_costBy_23 : decode cX1_costBy 23 = .ok (.ireturn, 1) := by decide +kernel
theorem ct_X1_costBy {g : Gw} (hG : GF g) {z : Bool} (E : Mm) (f : Nat → Nat) (lf a h : Nat) (h2 : E 60 2 = (lf : Int)) (hr : ∀ x, x < lf → E 61 (h * 40 + x) = (f x : Int)) (hfl : ∀ x, x < lf → f x ≤ 1000000) (hlf : lf ≤ 40) (ha : a ≤ 40) (hh : h < 24) (x : Nat) (hx : x < lf) : CT g yX1_costBy cX1_costBy 4 (some .int) 1 21 0 0 K2 z [mR 60, mI ((a : Nat) : Int), mI ((x : Nat) : Int), mI ((h : Nat) : Int)] (ov E) K2 z (fun r D' => r = some (mI (csN a x (f x) : Nat)) ∧ D' = ov E) := by
  refine CT.mk hG (by decide +kernel) (Nat.le_of_ble_eq_true rfl) (fun κ X Rt _ ok => ?_)
  refine at_ldc 2 X (n := 1000000) w_1390 (by decide) (by decide) dX1_costBy_0 rfl ?_
  refine at_iload_n 3 X rfl rfl dX1_costBy_2 rfl ?_
  refine at_iload_n 4 X rfl rfl dX1_costBy_3 rfl ?_
  refine at_isubV 5 X (((a : Nat) : Int) - ((x : Nat) : Int)) (w32_v rfl (by omega) (by omega)) dX1_costBy_4 rfl ?_
  refine at_absV 8 X ((dst a x : Nat) : Int) (by unfold dst; split <;> split <;> omega) (by omega) w_1395 (by rw [Rt.1]; exact ⟨by decide, by decide, by decide, by decide⟩) dX1_costBy_5 rfl ?_
  have hds : dst a x ≤ 40 := by unfold dst; split <;> omega
  refine at_aload_n 9 X rfl rfl dX1_costBy_8 rfl ?_
  refine m_getR 12 X f_X1_9 k_60 r_60_0 dX1_costBy_9 rfl ?_
  refine at_iload_n 13 X rfl rfl dX1_costBy_12 rfl ?_
  refine at_bipush 15 X (by decide) (by decide) dX1_costBy_13 rfl ?_
  refine at_imulV 16 X ((h * 40 : Nat) : Int) (w32_v (by omega) (by omega) (by omega)) dX1_costBy_15 rfl ?_
  refine at_iload_n 17 X rfl rfl dX1_costBy_16 rfl ?_
  refine at_iaddV 18 X ((h * 40 + x : Nat) : Int) (w32_v (by omega) (by omega) (by omega)) dX1_costBy_17 rfl ?_
  refine m_ialoadV 19 X (h * 40 + x) (by omega) ((f x : Nat) : Int) (hr x (by omega)) k_61 e_61 (by omega) dX1_costBy_18 rfl ?_
  have := hfl x (by omega)
  refine at_iaddV 20 X ((dst a x + f x : Nat) : Int) (w32_v (by omega) (by omega) (by omega)) dX1_costBy_19 rfl ?_
  refine at_minV 23 X ((csN a x (f x) : Nat) : Int) (by unfold csN; split <;> split <;> omega) w_1398 (by rw [Rt.1]; exact ⟨by decide, by decide, by decide, by decide⟩) dX1_costBy_20 rfl ?_
  refine at_iret X Rt ?_ (Nat.le_refl _) (Nat.le_refl _) dX1_costBy_23
  exact ⟨rfl, rfl⟩
theorem dX1_cheapest_0 : decode cX1_cheapest 0 = .ok (.ldc 51, 2) := by decide +kernel
theorem dX1_cheapest_2 : decode cX1_cheapest 2 = .ok (.istore_n 3, 1) := by decide +kernel
theorem dX1_cheapest_3 : decode cX1_cheapest 3 = .ok (.iconst 0, 1) := by decide +kernel
theorem dX1_cheapest_4 : decode cX1_cheapest 4 = .ok (.istore 4, 2) := by decide +kernel
theorem dX1_cheapest_6 : decode cX1_cheapest 6 = .ok (.iload 4, 2) := by decide +kernel
theorem dX1_cheapest_8 : decode cX1_cheapest 8 = .ok (.aload_n 0, 1) := by decide +kernel
theorem dX1_cheapest_9 : decode cX1_cheapest 9 = .ok (.getfield 38, 3) := by decide +kernel
theorem dX1_cheapest_12 : decode cX1_cheapest 12 = .ok (.if_icmp .ge 22, 3) := by decide +kernel
theorem dX1_cheapest_15 : decode cX1_cheapest 15 = .ok (.iload_n 3, 1) := by decide +kernel
theorem dX1_cheapest_16 : decode cX1_cheapest 16 = .ok (.aload_n 0, 1) := by decide +kernel
theorem dX1_cheapest_17 : decode cX1_cheapest 17 = .ok (.iload_n 1, 1) := by decide +kernel
theorem dX1_cheapest_18 : decode cX1_cheapest 18 = .ok (.iload 4, 2) := by decide +kernel
theorem dX1_cheapest_20 : decode cX1_cheapest 20 = .ok (.iload_n 2, 1) := by decide +kernel
theorem dX1_cheapest_21 : decode cX1_cheapest 21 = .ok (.invokevirtual 59, 3) := by decide +kernel
theorem dX1_cheapest_24 : decode cX1_cheapest 24 = .ok (.invokestatic 56, 3) := by decide +kernel
theorem dX1_cheapest_27 : decode cX1_cheapest 27 = .ok (.istore_n 3, 1) := by decide +kernel
theorem dX1_cheapest_28 : decode cX1_cheapest 28 = .ok (.iinc 4 1, 3) := by decide +kernel
theorem dX1_cheapest_31 : decode cX1_cheapest 31 = .ok (.goto (-25), 3) := by decide +kernel
theorem dX1_cheapest_34 : decode cX1_cheapest 34 = .ok (.iload_n 3, 1) := by decide +kernel
theorem dX1_cheapest_35 : decode cX1_cheapest 35 = .ok (.ireturn, 1) := by decide +kernel
theorem ct_X1_cheapest {g : Gw} (hG : GF g) {z : Bool} (E : Mm) (f : Nat → Nat) (lf a h : Nat) (h2 : E 60 2 = (lf : Int)) (hr : ∀ x, x < lf → E 61 (h * 40 + x) = (f x : Int)) (hfl : ∀ x, x < lf → f x ≤ 1000000) (hlf : lf ≤ 40) (ha : a ≤ 40) (hh : h < 24) : CT g yX1_cheapest cX1_cheapest 5 (some .int) 2 44 0 0 K2 z [mR 60, mI ((a : Nat) : Int), mI ((h : Nat) : Int)] (ov E) K2 z (fun r D' => r = some (mI (chN f a lf : Nat)) ∧ D' = ov E) := by
  refine CT.mk hG (by decide +kernel) (Nat.le_of_ble_eq_true rfl) (fun κ X Rt _ ok => ?_)
  refine at_ldc 2 X (n := 1000000) w_1390 (by decide) (by decide) dX1_cheapest_0 rfl ?_
  refine at_istore_n 3 X rfl dX1_cheapest_2 rfl (by decide) ?_
  refine at_iconst 4 X (by decide) dX1_cheapest_3 rfl ?_
  refine at_istore 6 X dX1_cheapest_4 rfl (by decide) ?_
  have J6 : ∀ (f6 : Nat) (x : Nat) (v : Nat), 40 - x < f6 → (x ≤ lf) → (v = chN f a x) → AT g κ K2 z 0 0 6 [(0, mR 60), (1, mI ((a : Nat) : Int)), (2, mI ((h : Nat) : Int)), (3, mI ((v : Nat) : Int)), (4, mI ((x : Nat) : Int))] [] (ov E) := by
    intro f6
    induction f6 with
    | zero => intro x v hf6; omega
    | succ f6 ih6 =>
    intro x v hf6 hx hv
    refine at_iload 8 X rfl dX1_cheapest_6 rfl ?_
    refine at_aload_n 9 X rfl rfl dX1_cheapest_8 rfl ?_
    refine m_getIV 12 X ((lf : Nat) : Int) h2 f_X1_38 k_60 rn_60_2 dX1_cheapest_9 rfl ?_
    refine at_icmp_ge 15 34 X dX1_cheapest_12 rfl (by decide) (fun h12 => ?_) (fun h12 => ?_)
    · refine at_iload_n 35 X rfl rfl dX1_cheapest_34 rfl ?_
      refine at_iret X Rt ?_ (Nat.le_refl _) (Nat.le_refl _) dX1_cheapest_35
      exact ⟨by rw [hv, show x = lf by omega], rfl⟩
    · refine at_iload_n 16 X rfl rfl dX1_cheapest_15 rfl ?_
      refine at_aload_n 17 X rfl rfl dX1_cheapest_16 rfl ?_
      refine at_iload_n 18 X rfl rfl dX1_cheapest_17 rfl ?_
      refine at_iload 20 X rfl dX1_cheapest_18 rfl ?_
      refine at_iload_n 21 X rfl rfl dX1_cheapest_20 rfl ?_
      refine at_callV 24 X _ 1 (ct_X1_costBy hG E f lf a h h2 hr hfl hlf ha hh x (by omega)) clX1 rfl k_60 mo_X1_costBy w_1391 vo_X1_costBy.1 vo_X1_costBy.2 rfl rfl (crm Rt (by decide)) (Nat.le_of_ble_eq_true rfl) dX1_cheapest_21 rfl ?_
      rintro _ _ ⟨rfl, rfl⟩
      refine at_minV 27 X ((chN f a (x + 1) : Nat) : Int) (by rw [hv]; show _ = (((if chN f a x ≤ csN a x (f x) then chN f a x else csN a x (f x)) : Nat) : Int); split <;> split <;> omega) w_1398 (by rw [Rt.1]; exact ⟨by decide, by decide, by decide, by decide⟩) dX1_cheapest_24 rfl ?_
      refine at_istore_n 28 X rfl dX1_cheapest_27 rfl (by decide) ?_
      refine at_iincV 31 X ((x + 1 : Nat) : Int) (w32_v (by omega) (by omega) (by omega)) rfl dX1_cheapest_28 rfl (by decide) ?_
      refine at_goto 6 X dX1_cheapest_31 (by decide) ?_
      exact at_sub _ (by exact ⟨rfl, rfl, rfl, rfl, rfl, trivial⟩) (ih6 (x + 1) (chN f a (x + 1)) (by first | omega | (simp only [] at *; omega)) (by first | omega | assumption) rfl)
  exact at_sub _ (by exact ⟨rfl, rfl, rfl, rfl, rfl, trivial⟩) (J6 _ 0 1000000 (Nat.lt_succ_self _) (by first | omega | assumption | rfl) rfl)
theorem dX1_firstCheapest_0 : decode cX1_firstCheapest 0 = .ok (.aload_n 0, 1) := by decide +kernel
theorem dX1_firstCheapest_1 : decode cX1_firstCheapest 1 = .ok (.iload_n 1, 1) := by decide +kernel
theorem dX1_firstCheapest_2 : decode cX1_firstCheapest 2 = .ok (.iload_n 2, 1) := by decide +kernel
theorem dX1_firstCheapest_3 : decode cX1_firstCheapest 3 = .ok (.invokevirtual 44, 3) := by decide +kernel
theorem dX1_firstCheapest_6 : decode cX1_firstCheapest 6 = .ok (.istore_n 3, 1) := by decide +kernel
theorem dX1_firstCheapest_7 : decode cX1_firstCheapest 7 = .ok (.iconst 0, 1) := by decide +kernel
theorem dX1_firstCheapest_8 : decode cX1_firstCheapest 8 = .ok (.istore 4, 2) := by decide +kernel
theorem dX1_firstCheapest_10 : decode cX1_firstCheapest 10 = .ok (.iload 4, 2) := by decide +kernel
theorem dX1_firstCheapest_12 : decode cX1_firstCheapest 12 = .ok (.aload_n 0, 1) := by decide +kernel
theorem dX1_firstCheapest_13 : decode cX1_firstCheapest 13 = .ok (.getfield 38, 3) := by decide +kernel
theorem dX1_firstCheapest_16 : decode cX1_firstCheapest 16 = .ok (.if_icmp .ge 24, 3) := by decide +kernel
theorem dX1_firstCheapest_19 : decode cX1_firstCheapest 19 = .ok (.aload_n 0, 1) := by decide +kernel
theorem dX1_firstCheapest_20 : decode cX1_firstCheapest 20 = .ok (.iload_n 1, 1) := by decide +kernel
theorem dX1_firstCheapest_21 : decode cX1_firstCheapest 21 = .ok (.iload 4, 2) := by decide +kernel
theorem dX1_firstCheapest_23 : decode cX1_firstCheapest 23 = .ok (.iload_n 2, 1) := by decide +kernel
theorem dX1_firstCheapest_24 : decode cX1_firstCheapest 24 = .ok (.invokevirtual 59, 3) := by decide +kernel
theorem dX1_firstCheapest_27 : decode cX1_firstCheapest 27 = .ok (.iload_n 3, 1) := by decide +kernel
theorem dX1_firstCheapest_28 : decode cX1_firstCheapest 28 = .ok (.if_icmp .ne 6, 3) := by decide +kernel
theorem dX1_firstCheapest_31 : decode cX1_firstCheapest 31 = .ok (.iload 4, 2) := by decide +kernel
theorem dX1_firstCheapest_33 : decode cX1_firstCheapest 33 = .ok (.ireturn, 1) := by decide +kernel
theorem dX1_firstCheapest_34 : decode cX1_firstCheapest 34 = .ok (.iinc 4 1, 3) := by decide +kernel
theorem dX1_firstCheapest_37 : decode cX1_firstCheapest 37 = .ok (.goto (-27), 3) := by decide +kernel
theorem dX1_firstCheapest_40 : decode cX1_firstCheapest 40 = .ok (.iload_n 1, 1) := by decide +kernel
theorem dX1_firstCheapest_41 : decode cX1_firstCheapest 41 = .ok (.ireturn, 1) := by decide +kernel
theorem ct_X1_firstCheapest {g : Gw} (hG : GF g) {z : Bool} (E : Mm) (f : Nat → Nat) (lf a h : Nat) (h2 : E 60 2 = (lf : Int)) (hr : ∀ x, x < lf → E 61 (h * 40 + x) = (f x : Int)) (hfl : ∀ x, x < lf → f x ≤ 1000000) (hlf : lf ≤ 40) (ha : a ≤ 40) (hh : h < 24) : CT g yX1_firstCheapest cX1_firstCheapest 5 (some .int) 3 68 0 0 K2 z [mR 60, mI ((a : Nat) : Int), mI ((h : Nat) : Int)] (ov E) K2 z (fun r D' => r = some (mI (fcN f a lf : Nat)) ∧ D' = ov E) := by
  refine CT.mk hG (by decide +kernel) (Nat.le_of_ble_eq_true rfl) (fun κ X Rt _ ok => ?_)
  refine at_aload_n 1 X rfl rfl dX1_firstCheapest_0 rfl ?_
  refine at_iload_n 2 X rfl rfl dX1_firstCheapest_1 rfl ?_
  refine at_iload_n 3 X rfl rfl dX1_firstCheapest_2 rfl ?_
  refine at_callV 6 X _ 1 (ct_X1_cheapest hG E f lf a h h2 hr hfl hlf ha hh) clX1 rfl k_60 mo_X1_cheapest w_1386 vo_X1_cheapest.1 vo_X1_cheapest.2 rfl rfl (crm Rt (by decide)) (Nat.le_of_ble_eq_true rfl) dX1_firstCheapest_3 rfl ?_
  rintro _ _ ⟨rfl, rfl⟩
  have hcl := chN_le f a lf
  refine at_istore_n 7 X rfl dX1_firstCheapest_6 rfl (by decide) ?_
  refine at_iconst 8 X (by decide) dX1_firstCheapest_7 rfl ?_
  refine at_istore 10 X dX1_firstCheapest_8 rfl (by decide) ?_
  have J10 : ∀ (f10 : Nat) (x : Nat), 40 - x < f10 → (x ≤ lf) → ((∀ y, y < x → ¬ decide (csN a y (f y) = chN f a lf) = true)) → AT g κ K2 z 0 0 10 [(0, mR 60), (1, mI ((a : Nat) : Int)), (2, mI ((h : Nat) : Int)), (3, mI ((chN f a lf : Nat) : Int)), (4, mI ((x : Nat) : Int))] [] (ov E) := by
    intro f10
    induction f10 with
    | zero => intro x hf10; omega
    | succ f10 ih10 =>
    intro x hf10 hx hno
    refine at_iload 12 X rfl dX1_firstCheapest_10 rfl ?_
    refine at_aload_n 13 X rfl rfl dX1_firstCheapest_12 rfl ?_
    refine m_getIV 16 X ((lf : Nat) : Int) h2 f_X1_38 k_60 rn_60_2 dX1_firstCheapest_13 rfl ?_
    refine at_icmp_ge 19 40 X dX1_firstCheapest_16 rfl (by decide) (fun h16 => ?_) (fun h16 => ?_)
    · refine at_iload_n 41 X rfl rfl dX1_firstCheapest_40 rfl ?_
      refine at_iret X Rt ?_ (Nat.le_refl _) (Nat.le_refl _) dX1_firstCheapest_41
      exact ⟨by unfold fcN; rw [if_pos (fst_none (fun y hy => hno y (by omega)))], rfl⟩
    · refine at_aload_n 20 X rfl rfl dX1_firstCheapest_19 rfl ?_
      refine at_iload_n 21 X rfl rfl dX1_firstCheapest_20 rfl ?_
      refine at_iload 23 X rfl dX1_firstCheapest_21 rfl ?_
      refine at_iload_n 24 X rfl rfl dX1_firstCheapest_23 rfl ?_
      refine at_callV 27 X _ 1 (ct_X1_costBy hG E f lf a h h2 hr hfl hlf ha hh x (by omega)) clX1 rfl k_60 mo_X1_costBy w_1391 vo_X1_costBy.1 vo_X1_costBy.2 rfl rfl (crm Rt (by decide)) (Nat.le_of_ble_eq_true rfl) dX1_firstCheapest_24 rfl ?_
      rintro _ _ ⟨rfl, rfl⟩
      refine at_iload_n 28 X rfl rfl dX1_firstCheapest_27 rfl ?_
      refine at_icmp_ne 31 34 X dX1_firstCheapest_28 rfl (by decide) (fun h28 => ?_) (fun h28 => ?_)
      · refine at_iincV 37 X ((x + 1 : Nat) : Int) (w32_v (by omega) (by omega) (by omega)) rfl dX1_firstCheapest_34 rfl (by decide) ?_
        refine at_goto 10 X dX1_firstCheapest_37 (by decide) ?_
        exact at_sub _ (by exact ⟨rfl, rfl, rfl, rfl, rfl, trivial⟩) (ih10 (x + 1) (by first | omega | (simp only [] at *; omega)) (by first | omega | assumption) (fun y hy => if e : y = x then by rw [e, decide_eq_true_iff]; omega else hno y (by omega)))
      · refine at_iload 33 X rfl dX1_firstCheapest_31 rfl ?_
        refine at_iret X Rt ?_ (Nat.le_refl _) (Nat.le_refl _) dX1_firstCheapest_33
        have hf := fst_at hno (decide_eq_true (by omega)) (n := lf) (by omega)
        exact ⟨by unfold fcN; rw [if_neg (by rw [hf]; omega), hf, Int.toNat_natCast], rfl⟩
  exact at_sub _ (by exact ⟨rfl, rfl, rfl, rfl, rfl, trivial⟩) (J10 _ 0 (Nat.lt_succ_self _) (by first | omega | assumption | rfl) (fun y hy => absurd hy (Nat.not_lt_zero y)))
theorem dX1_plan_0 : decode cX1_plan 0 = .ok (.aload_n 0, 1) := by decide +kernel
theorem dX1_plan_1 : decode cX1_plan 1 = .ok (.aload_n 2, 1) := by decide +kernel
theorem dX1_plan_2 : decode cX1_plan 2 = .ok (.getfield 15, 3) := by decide +kernel
theorem dX1_plan_5 : decode cX1_plan 5 = .ok (.iload_n 3, 1) := by decide +kernel
theorem dX1_plan_6 : decode cX1_plan 6 = .ok (.iaload, 1) := by decide +kernel
theorem dX1_plan_7 : decode cX1_plan 7 = .ok (.putfield 20, 3) := by decide +kernel
theorem dX1_plan_10 : decode cX1_plan 10 = .ok (.aload_n 0, 1) := by decide +kernel
theorem dX1_plan_11 : decode cX1_plan 11 = .ok (.iconst 0, 1) := by decide +kernel
theorem dX1_plan_12 : decode cX1_plan 12 = .ok (.aload_n 1, 1) := by decide +kernel
theorem dX1_plan_13 : decode cX1_plan 13 = .ok (.getfield 24, 3) := by decide +kernel
theorem dX1_plan_16 : decode cX1_plan 16 = .ok (.aload_n 2, 1) := by decide +kernel
theorem dX1_plan_17 : decode cX1_plan 17 = .ok (.getfield 29, 3) := by decide +kernel
theorem dX1_plan_20 : decode cX1_plan 20 = .ok (.iload_n 3, 1) := by decide +kernel
theorem dX1_plan_21 : decode cX1_plan 21 = .ok (.iaload, 1) := by decide +kernel
theorem dX1_plan_22 : decode cX1_plan 22 = .ok (.isub, 1) := by decide +kernel
theorem dX1_plan_23 : decode cX1_plan 23 = .ok (.iconst 1, 1) := by decide +kernel
theorem dX1_plan_24 : decode cX1_plan 24 = .ok (.iadd, 1) := by decide +kernel
theorem dX1_plan_25 : decode cX1_plan 25 = .ok (.invokestatic 32, 3) := by decide +kernel
theorem dX1_plan_28 : decode cX1_plan 28 = .ok (.putfield 38, 3) := by decide +kernel
theorem dX1_plan_31 : decode cX1_plan 31 = .ok (.aload_n 0, 1) := by decide +kernel
theorem dX1_plan_32 : decode cX1_plan 32 = .ok (.iload 4, 2) := by decide +kernel
theorem dX1_plan_34 : decode cX1_plan 34 = .ok (.putfield 41, 3) := by decide +kernel
theorem dX1_plan_37 : decode cX1_plan 37 = .ok (.iload 5, 2) := by decide +kernel
theorem dX1_plan_39 : decode cX1_plan 39 = .ok (.istore 6, 2) := by decide +kernel
theorem dX1_plan_41 : decode cX1_plan 41 = .ok (.iload 6, 2) := by decide +kernel
theorem dX1_plan_43 : decode cX1_plan 43 = .ok (.iload 4, 2) := by decide +kernel
theorem dX1_plan_45 : decode cX1_plan 45 = .ok (.if_icmp .lt 87, 3) := by decide +kernel
theorem dX1_plan_48 : decode cX1_plan 48 = .ok (.iconst 0, 1) := by decide +kernel
theorem dX1_plan_49 : decode cX1_plan 49 = .ok (.istore 7, 2) := by decide +kernel
theorem dX1_plan_51 : decode cX1_plan 51 = .ok (.iload 7, 2) := by decide +kernel
theorem dX1_plan_53 : decode cX1_plan 53 = .ok (.aload_n 0, 1) := by decide +kernel
theorem dX1_plan_54 : decode cX1_plan 54 = .ok (.getfield 38, 3) := by decide +kernel
theorem dX1_plan_57 : decode cX1_plan 57 = .ok (.if_icmp .ge 69, 3) := by decide +kernel
theorem dX1_plan_60 : decode cX1_plan 60 = .ok (.iload 6, 2) := by decide +kernel
theorem dX1_plan_62 : decode cX1_plan 62 = .ok (.iload 5, 2) := by decide +kernel
theorem dX1_plan_64 : decode cX1_plan 64 = .ok (.if_icmp .ne 7, 3) := by decide +kernel
theorem dX1_plan_67 : decode cX1_plan 67 = .ok (.iconst 0, 1) := by decide +kernel
theorem dX1_plan_68 : decode cX1_plan 68 = .ok (.goto 13, 3) := by decide +kernel
theorem dX1_plan_71 : decode cX1_plan 71 = .ok (.aload_n 0, 1) := by decide +kernel
theorem dX1_plan_72 : decode cX1_plan 72 = .ok (.iload 7, 2) := by decide +kernel
theorem dX1_plan_74 : decode cX1_plan 74 = .ok (.iload 6, 2) := by decide +kernel
theorem dX1_plan_76 : decode cX1_plan 76 = .ok (.iconst 1, 1) := by decide +kernel
theorem dX1_plan_77 : decode cX1_plan 77 = .ok (.iadd, 1) := by decide +kernel
theorem dX1_plan_78 : decode cX1_plan 78 = .ok (.invokevirtual 44, 3) := by decide +kernel
theorem dX1_plan_81 : decode cX1_plan 81 = .ok (.istore 8, 2) := by decide +kernel
theorem dX1_plan_83 : decode cX1_plan 83 = .ok (.aload_n 1, 1) := by decide +kernel
theorem dX1_plan_84 : decode cX1_plan 84 = .ok (.aload_n 2, 1) := by decide +kernel
theorem dX1_plan_85 : decode cX1_plan 85 = .ok (.iload_n 3, 1) := by decide +kernel
theorem dX1_plan_86 : decode cX1_plan 86 = .ok (.iload 7, 2) := by decide +kernel
theorem dX1_plan_88 : decode cX1_plan 88 = .ok (.iload 6, 2) := by decide +kernel
theorem dX1_plan_90 : decode cX1_plan 90 = .ok (.invokevirtual 47, 3) := by decide +kernel
theorem dX1_plan_93 : decode cX1_plan 93 = .ok (.istore 9, 2) := by decide +kernel
theorem dX1_plan_95 : decode cX1_plan 95 = .ok (.aload_n 0, 1) := by decide +kernel
theorem dX1_plan_96 : decode cX1_plan 96 = .ok (.getfield 9, 3) := by decide +kernel
theorem dX1_plan_99 : decode cX1_plan 99 = .ok (.iload 6, 2) := by decide +kernel
theorem dX1_plan_101 : decode cX1_plan 101 = .ok (.bipush 40, 2) := by decide +kernel
theorem dX1_plan_103 : decode cX1_plan 103 = .ok (.imul, 1) := by decide +kernel
theorem dX1_plan_104 : decode cX1_plan 104 = .ok (.iload 7, 2) := by decide +kernel
theorem dX1_plan_106 : decode cX1_plan 106 = .ok (.iadd, 1) := by decide +kernel
theorem dX1_plan_107 : decode cX1_plan 107 = .ok (.iload 9, 2) := by decide +kernel
theorem dX1_plan_109 : decode cX1_plan 109 = .ok (.ifCond .eq 8, 3) := by decide +kernel
theorem dX1_plan_112 : decode cX1_plan 112 = .ok (.iload 8, 2) := by decide +kernel
theorem dX1_plan_114 : decode cX1_plan 114 = .ok (.goto 5, 3) := by decide +kernel
theorem dX1_plan_117 : decode cX1_plan 117 = .ok (.ldc 51, 2) := by decide +kernel
theorem dX1_plan_119 : decode cX1_plan 119 = .ok (.iastore, 1) := by decide +kernel
theorem dX1_plan_120 : decode cX1_plan 120 = .ok (.iinc 7 1, 3) := by decide +kernel
theorem dX1_plan_123 : decode cX1_plan 123 = .ok (.goto (-72), 3) := by decide +kernel
theorem dX1_plan_126 : decode cX1_plan 126 = .ok (.iinc 6 (-1), 3) := by decide +kernel
theorem dX1_plan_129 : decode cX1_plan 129 = .ok (.goto (-88), 3) := by decide +kernel
theorem dX1_plan_132 : decode cX1_plan 132 = .ok (.return_, 1) := by decide +kernel
theorem ct_X1_plan {g : Gw} (hG : GF g) {z : Bool} (E : Mm) (s : Nat) (P : SP) (L : LW) (T K : LN) (d : Nat) (hI_E : CXI E s P L T K d) (hF_E : FRS E P L T d) (b f t : Nat) (hb : b < bN (sB P)) (hft : f ≤ t) (ht : t < 24) : CT g yX1_plan cX1_plan 10 none 4 100 0 0 K2 z [mR 60, mR 30, mR (s + 8), mI ((b : Nat) : Int), mI ((f : Nat) : Int), mI ((t : Nat) : Int)] (ov E) K2 z (fun r D' => r = none ∧ ∃ E1, D' = ov E1 ∧ CXI E1 s P L T K d ∧ FRS E1 P L T d ∧ CXF E E1 ∧ (E1 60 1 = (bX (sB P) b : Int) ∧ E1 60 2 = ((sW P + 1 - bL (sB P) b) : Nat) ∧ E1 60 3 = (f : Int)) ∧ (∀ y x : Nat, f ≤ y → y ≤ t → x < (sW P + 1 - bL (sB P) b) → E1 61 (y * 40 + x) = (crk (gNow P L d) (sB P) b t (t - y) x : Nat))) := by
  refine CT.mk hG (by decide +kernel) (Nat.le_of_ble_eq_true rfl) (fun κ X Rt _ ok => ?_)
  have hs := hI_E.sa
  have hP := hI_E.WS
  have hW40 := hP.W
  have hN10 := hP.N
  have hN8 := hP.B.N
  have hX_E : CXF E E := CXF.rf
  have hwG := gNow_WG hI_E
  have hgw : gW (gNow P L d) = sW P := rfl
  have hlb := hP.B.L hb
  have hxb := hP.B.X hb
  refine at_aload_n 1 X rfl rfl dX1_plan_0 rfl ?_
  refine at_aload_n 2 X rfl rfl dX1_plan_1 rfl ?_
  refine m_getR 5 X f_X1_15 (kX0 (iB_8 hs)) (rX0_0 (iB_8 hs)) dX1_plan_2 rfl ?_
  refine at_iload_n 6 X rfl rfl dX1_plan_5 rfl ?_
  refine m_ialoadV 7 X b (by omega) ((bX (sB P) b : Nat) : Int) (hI_E.B.X (b := b) (by omega)) (kX0_0 (iB_8 hs)) (eX0_0 (iB_8 hs)) (by omega) dX1_plan_6 rfl ?_
  have := hP.B.X (b := b) (by omega)
  refine m_putI 10 X f_X1_20 fw_1_1 k_60 rn_60_1 dX1_plan_7 rfl ?_
  refine at_aload_n 11 X rfl rfl dX1_plan_10 rfl ?_
  refine at_iconst 12 X (by decide) dX1_plan_11 rfl ?_
  refine at_aload_n 13 X rfl rfl dX1_plan_12 rfl ?_
  refine m_getIV 16 X ((gW (gNow P L d) : Nat) : Int) ((wr_o (by omega)).trans hF_E.1.1.W) f_X1_24 k_30 rn_30_9 dX1_plan_13 rfl ?_
  have := hwG.W
  refine at_aload_n 17 X rfl rfl dX1_plan_16 rfl ?_
  refine m_getR 20 X f_X1_29 (kX0 (iB_8 hs)) (rX0_1 (iB_8 hs)) dX1_plan_17 rfl ?_
  refine at_iload_n 21 X rfl rfl dX1_plan_20 rfl ?_
  refine m_ialoadV 22 X b (by omega) ((bL (sB P) b : Nat) : Int) ((wr_o (by omega)).trans (hI_E.B.L (b := b) (by omega))) (kX0_1 (iB_8 hs)) (eX0_1 (iB_8 hs)) (by omega) dX1_plan_21 rfl ?_
  have := hP.B.L (b := b) (by omega)
  refine at_isubV 23 X (((gW (gNow P L d) : Nat) : Int) - ((bL (sB P) b : Nat) : Int)) (w32_v rfl (by omega) (by omega)) dX1_plan_22 rfl ?_
  refine at_iconst 24 X (by decide) dX1_plan_23 rfl ?_
  refine at_iaddV 25 X ((((gW (gNow P L d) : Nat) : Int) - ((bL (sB P) b : Nat) : Int)) + 1) (w32_v rfl (by omega) (by omega)) dX1_plan_24 rfl ?_
  refine at_maxV 28 X (((sW P + 1 - bL (sB P) b) : Nat) : Int) (by split <;> omega) w_1385 (by rw [Rt.1]; exact ⟨by decide, by decide, by decide, by decide⟩) dX1_plan_25 rfl ?_
  refine m_putI 31 X f_X1_38 fw_1_2 k_60 rn_60_2 dX1_plan_28 rfl ?_
  refine at_aload_n 32 X rfl rfl dX1_plan_31 rfl ?_
  refine at_iload 34 X rfl dX1_plan_32 rfl ?_
  refine m_putI 37 X f_X1_41 fw_1_3 k_60 rn_60_3 dX1_plan_34 rfl ?_
  refine at_iload 39 X rfl dX1_plan_37 rfl ?_
  refine at_istore 41 X dX1_plan_39 rfl (by decide) ?_
  have J41 : ∀ (f41 : Nat) (F : Mm) (hr : Int), (hr + 1).toNat < f41 → ((f : Int) - 1 ≤ hr ∧ hr ≤ t) → ((∀ y x : Nat, hr < (y : Int) → y ≤ t → x < (sW P + 1 - bL (sB P) b) → F 61 (y * 40 + x) = (crk (gNow P L d) (sB P) b t (t - y) x : Nat))) → (F 60 1 = (bX (sB P) b : Int) ∧ F 60 2 = ((sW P + 1 - bL (sB P) b) : Nat) ∧ F 60 3 = (f : Int)) → (CXI F s P L T K d) → (FRS F P L T d) → (CXF E F) → AT g κ K2 z 0 0 41 [(0, mR 60), (1, mR 30), (2, mR (s + 8)), (3, mI ((b : Nat) : Int)), (4, mI ((f : Nat) : Int)), (5, mI ((t : Nat) : Int)), (6, mI hr)] [] (ov F) := by
    intro f41
    induction f41 with
    | zero => intro F hr hf41; omega
    | succ f41 ih41 =>
    intro F hr hf41 hh hrw_F h60_F hI_F hF_F hX_F
    refine at_iload 43 X rfl dX1_plan_41 rfl ?_
    refine at_iload 45 X rfl dX1_plan_43 rfl ?_
    refine at_icmp_lt 48 132 X dX1_plan_45 rfl (by decide) (fun h45 => ?_) (fun h45 => ?_)
    · refine at_vret X Rt ?_ (Nat.le_refl _) (Nat.le_refl _) dX1_plan_132
      exact ⟨rfl, F, rfl, hI_F, hF_F, hX_F, h60_F, fun y x h1 h2 h3 => hrw_F y x (by omega) h2 h3⟩
    · obtain ⟨h, rfl⟩ : ∃ h : Nat, hr = (h : Int) := ⟨hr.toNat, by omega⟩
      refine at_iconst 49 X (by decide) dX1_plan_48 rfl ?_
      refine at_istore 51 X dX1_plan_49 rfl (by decide) ?_
      have J51 : ∀ (f51 : Nat) (F2 : Mm) (x : Nat), 40 - x < f51 → (x ≤ (sW P + 1 - bL (sB P) b)) → ((∀ y x : Nat, h < y → y ≤ t → x < (sW P + 1 - bL (sB P) b) → F2 61 (y * 40 + x) = (crk (gNow P L d) (sB P) b t (t - y) x : Nat))) → ((∀ z, z < x → F2 61 (h * 40 + z) = (crk (gNow P L d) (sB P) b t (t - h) z : Nat))) → (F2 60 1 = (bX (sB P) b : Int) ∧ F2 60 2 = ((sW P + 1 - bL (sB P) b) : Nat) ∧ F2 60 3 = (f : Int)) → (CXI F2 s P L T K d) → (FRS F2 P L T d) → (CXF E F2) → AT g κ K2 z 0 0 51 [(0, mR 60), (1, mR 30), (2, mR (s + 8)), (3, mI ((b : Nat) : Int)), (4, mI ((f : Nat) : Int)), (5, mI ((t : Nat) : Int)), (6, mI ((h : Nat) : Int)), (7, mI ((x : Nat) : Int))] [] (ov F2) := by
        intro f51
        induction f51 with
        | zero => intro F2 x hf51; omega
        | succ f51 ih51 =>
        intro F2 x hf51 hx hrw_F2 hrn_F2 h60_F2 hI_F2 hF_F2 hX_F2
        refine at_iload 53 X rfl dX1_plan_51 rfl ?_
        refine at_aload_n 54 X rfl rfl dX1_plan_53 rfl ?_
        refine m_getIV 57 X ((sW P + 1 - bL (sB P) b : Nat) : Int) h60_F2.2.1 f_X1_38 k_60 rn_60_2 dX1_plan_54 rfl ?_
        refine at_icmp_ge 60 126 X dX1_plan_57 rfl (by decide) (fun h57 => ?_) (fun h57 => ?_)
        · refine at_iincV 129 X (((h : Nat) : Int) - 1) (w32_v (by omega) (by omega) (by omega)) rfl dX1_plan_126 rfl (by decide) ?_
          refine at_goto 41 X dX1_plan_129 (by decide) ?_
          exact at_sub _ (by exact ⟨rfl, rfl, rfl, rfl, rfl, rfl, rfl, trivial⟩) (ih41 F2 (((h : Nat) : Int) - 1) (by first | omega | (simp only [] at *; omega)) (by first | omega | assumption) (fun y x h1 h2 h3 => if e : y = h then by subst e; exact hrn_F2 x (by omega) else hrw_F2 y x (by omega) h2 h3) h60_F2 hI_F2 hF_F2 hX_F2)
        · have J81 : ∀ (n : Nat), (n = if h = t then 0 else chN (crk (gNow P L d) (sB P) b t (t - (h + 1))) x (sW P + 1 - bL (sB P) b)) → (n ≤ 1000000) → AT g κ K2 z 0 0 81 [(0, mR 60), (1, mR 30), (2, mR (s + 8)), (3, mI ((b : Nat) : Int)), (4, mI ((f : Nat) : Int)), (5, mI ((t : Nat) : Int)), (6, mI ((h : Nat) : Int)), (7, mI ((x : Nat) : Int))] [mI ((n : Nat) : Int)] (ov F2) := by
            intro n hn hnl
            have hcs : crk (gNow P L d) (sB P) b t (t - h) x = if stP (gNow P L d) (sB P) b x h = true then n else 1000000 := by
              by_cases c : h = t
              · subst c; rw [hn, if_pos rfl, Nat.sub_self]; rfl
              · rw [hn, if_neg c, show t - h = (t - (h + 1)) + 1 by omega]; show (if stP (gNow P L d) (sB P) b x (t - (t - (h + 1) + 1)) = true then _ else _) = _; rw [show t - (t - (h + 1) + 1) = h by omega]; rfl
            refine at_istore 83 X dX1_plan_81 rfl (by decide) ?_
            refine at_aload_n 84 X rfl rfl dX1_plan_83 rfl ?_
            refine at_aload_n 85 X rfl rfl dX1_plan_84 rfl ?_
            refine at_iload_n 86 X rfl rfl dX1_plan_85 rfl ?_
            refine at_iload 88 X rfl dX1_plan_86 rfl ?_
            refine at_iload 90 X rfl dX1_plan_88 rfl ?_
            refine at_callV 93 X _ 4 (ct_X4_holdsUp hG F2 30 (Or.inl rfl) (gNow P L d) hwG hF_F2.1 hI_F2.Lw (sB P) (s + 8) (iB_8 hs) hI_F2.B hP.B b x h (by omega) (by omega) (by omega)) clX4 rfl k_30 mo_X4_holdsUp w_1399 vo_X4_holdsUp.1 vo_X4_holdsUp.2 rfl rfl (crm Rt (by decide)) (Nat.le_of_ble_eq_true rfl) dX1_plan_90 rfl ?_
            rintro _ _ ⟨rfl, F1, rfl, hg_F1, hq_F1⟩
            have hK3 := hI_F2.known hF_F2 hg_F1 hq_F1
            have hI_F1 := hK3.1
            have hF_F1 := hK3.2.1
            have hX_F1 : CXF E F1 := hX_F2.tr hK3.2.2
            have h60_F1 : F1 60 1 = (bX (sB P) b : Int) ∧ F1 60 2 = ((sW P + 1 - bL (sB P) b) : Nat) ∧ F1 60 3 = (f : Int) := by rw [hq_F1 60 (by decide) (by decide)]; exact h60_F2
            have h61_F1 : F1 61 = F2 61 := hq_F1 61 (by decide) (by decide)
            refine at_istore 95 X dX1_plan_93 rfl (by decide) ?_
            refine at_aload_n 96 X rfl rfl dX1_plan_95 rfl ?_
            refine m_getR 99 X f_X1_9 k_60 r_60_0 dX1_plan_96 rfl ?_
            refine at_iload 101 X rfl dX1_plan_99 rfl ?_
            refine at_bipush 103 X (by decide) (by decide) dX1_plan_101 rfl ?_
            refine at_imulV 104 X ((h * 40 : Nat) : Int) (w32_v (by omega) (by omega) (by omega)) dX1_plan_103 rfl ?_
            refine at_iload 106 X rfl dX1_plan_104 rfl ?_
            refine at_iaddV 107 X ((h * 40 + x : Nat) : Int) (w32_v (by omega) (by omega) (by omega)) dX1_plan_106 rfl ?_
            refine at_iload 109 X rfl dX1_plan_107 rfl ?_
            refine at_if_eq 112 117 X dX1_plan_109 rfl (by decide) (fun h109 => ?_) (fun h109 => ?_)
            · have h109 : ¬ (stP (gNow P L d) (sB P) b x h = true) := ite_no.mp h109
              have hcv : (1000000 : Int) = (crk (gNow P L d) (sB P) b t (t - h) x : Nat) := by rw [hcs, if_neg h109]; rfl
              refine at_ldc 119 X (n := 1000000) w_1390 (by decide) (by decide) dX1_plan_117 rfl ?_
              refine m_iastoreV 120 X (h * 40 + x) (by omega) k_61 e_61 (by omega) dX1_plan_119 rfl ?_
              refine at_iincV 123 X ((x + 1 : Nat) : Int) (w32_v (by omega) (by omega) (by omega)) rfl dX1_plan_120 rfl (by decide) ?_
              refine at_goto 51 X dX1_plan_123 (by decide) ?_
              exact at_sub _ (by exact ⟨rfl, rfl, rfl, rfl, rfl, rfl, rfl, rfl, trivial⟩) (ih51 (wr F1 61 (h * 40 + x) 1000000) (x + 1) (by first | omega | (simp only [] at *; omega)) (by first | omega | assumption) (fun y z h1 h2 h3 => by rw [wr_o (Or.inr (by omega)), h61_F1]; exact hrw_F2 y z h1 h2 h3) (fun z hz => if e : z = x then by subst e; rw [wr_s, hcv] else by rw [wr_o (Or.inr (by omega)), h61_F1]; exact hrn_F2 z (by omega)) (by rw [wr_row (by decide)]; exact h60_F1) (hI_F1.tried (E1 := wr F1 61 (h * 40 + x) 1000000) (fun q h1 h2 h3 => wr_row (by omega))).1 ((hI_F1.tried (E1 := wr F1 61 (h * 40 + x) 1000000) (fun q h1 h2 h3 => wr_row (by omega))).2.1 hF_F1) (hX_F1.tr (hI_F1.tried (E1 := wr F1 61 (h * 40 + x) 1000000) (fun q h1 h2 h3 => wr_row (by omega))).2.2))
            · have h109 : (stP (gNow P L d) (sB P) b x h = true) := ite_yes.mp h109
              have hcv : ((n : Nat) : Int) = (crk (gNow P L d) (sB P) b t (t - h) x : Nat) := by rw [hcs, if_pos h109]
              refine at_iload 114 X rfl dX1_plan_112 rfl ?_
              refine at_goto 119 X dX1_plan_114 (by decide) ?_
              refine m_iastoreV 120 X (h * 40 + x) (by omega) k_61 e_61 (by omega) dX1_plan_119 rfl ?_
              refine at_iincV 123 X ((x + 1 : Nat) : Int) (w32_v (by omega) (by omega) (by omega)) rfl dX1_plan_120 rfl (by decide) ?_
              refine at_goto 51 X dX1_plan_123 (by decide) ?_
              exact at_sub _ (by exact ⟨rfl, rfl, rfl, rfl, rfl, rfl, rfl, rfl, trivial⟩) (ih51 (wr F1 61 (h * 40 + x) ((n : Nat) : Int)) (x + 1) (by first | omega | (simp only [] at *; omega)) (by first | omega | assumption) (fun y z h1 h2 h3 => by rw [wr_o (Or.inr (by omega)), h61_F1]; exact hrw_F2 y z h1 h2 h3) (fun z hz => if e : z = x then by subst e; rw [wr_s, hcv] else by rw [wr_o (Or.inr (by omega)), h61_F1]; exact hrn_F2 z (by omega)) (by rw [wr_row (by decide)]; exact h60_F1) (hI_F1.tried (E1 := wr F1 61 (h * 40 + x) ((n : Nat) : Int)) (fun q h1 h2 h3 => wr_row (by omega))).1 ((hI_F1.tried (E1 := wr F1 61 (h * 40 + x) ((n : Nat) : Int)) (fun q h1 h2 h3 => wr_row (by omega))).2.1 hF_F1) (hX_F1.tr (hI_F1.tried (E1 := wr F1 61 (h * 40 + x) ((n : Nat) : Int)) (fun q h1 h2 h3 => wr_row (by omega))).2.2))
          refine at_iload 62 X rfl dX1_plan_60 rfl ?_
          refine at_iload 64 X rfl dX1_plan_62 rfl ?_
          refine at_icmp_ne 67 71 X dX1_plan_64 rfl (by decide) (fun h64 => ?_) (fun h64 => ?_)
          · refine at_aload_n 72 X rfl rfl dX1_plan_71 rfl ?_
            refine at_iload 74 X rfl dX1_plan_72 rfl ?_
            refine at_iload 76 X rfl dX1_plan_74 rfl ?_
            refine at_iconst 77 X (by decide) dX1_plan_76 rfl ?_
            refine at_iaddV 78 X ((h + 1 : Nat) : Int) (w32_v (by omega) (by omega) (by omega)) dX1_plan_77 rfl ?_
            refine at_callV 81 X _ 1 (ct_X1_cheapest hG F2 (crk (gNow P L d) (sB P) b t (t - (h + 1))) (sW P + 1 - bL (sB P) b) x (h + 1) h60_F2.2.1 (fun x hx => hrw_F2 (h + 1) x (by omega) (by omega) hx) (fun x _ => crk_le _ _ _ _ _ _) (by omega) (by omega) (by omega)) clX1 rfl k_60 mo_X1_cheapest w_1386 vo_X1_cheapest.1 vo_X1_cheapest.2 rfl rfl (crm Rt (by decide)) (Nat.le_of_ble_eq_true rfl) dX1_plan_78 rfl ?_
            rintro _ _ ⟨rfl, rfl⟩
            have hcl := chN_le (crk (gNow P L d) (sB P) b t (t - (h + 1))) x (sW P + 1 - bL (sB P) b)
            exact at_sub _ (by exact ⟨rfl, rfl, rfl, rfl, rfl, rfl, rfl, rfl, trivial⟩) (J81 (chN (crk (gNow P L d) (sB P) b t (t - (h + 1))) x (sW P + 1 - bL (sB P) b)) (by first | (rw [if_pos (by omega)]; done) | (rw [if_neg (by omega)]; done)) (by omega))
          · refine at_iconst 68 X (by decide) dX1_plan_67 rfl ?_
            refine at_goto 81 X dX1_plan_68 (by decide) ?_
            exact at_sub _ (by exact ⟨rfl, rfl, rfl, rfl, rfl, rfl, rfl, rfl, trivial⟩) (J81 0 (by first | (rw [if_pos (by omega)]; done) | (rw [if_neg (by omega)]; done)) (by omega))
      exact at_sub _ (by exact ⟨rfl, rfl, rfl, rfl, rfl, rfl, rfl, rfl, trivial⟩) (J51 _ F 0 (Nat.lt_succ_self _) (by first | omega | assumption | rfl) (fun y x h1 h2 h3 => hrw_F y x (by omega) h2 h3) (fun z hz => absurd hz (Nat.not_lt_zero z)) h60_F hI_F hF_F hX_F)
  exact at_sub _ (by exact ⟨rfl, rfl, rfl, rfl, rfl, rfl, rfl, trivial⟩) (J41 _ (wr (wr (wr E 60 1 ((bX (sB P) b : Nat) : Int)) 60 2 ((sW P + 1 - bL (sB P) b : Nat) : Int)) 60 3 ((f : Nat) : Int)) ((t : Nat) : Int) (Nat.lt_succ_self _) (by first | omega | assumption | rfl) (fun y x h1 h2 _ => by omega) (by refine ⟨?_, ?_, ?_⟩ <;> simp (disch := omega) only [wr_s, wr_o]) (hI_E.tried (fun q h1 h2 h3 => by simp (disch := omega) only [wr_row])).1 ((hI_E.tried (fun q h1 h2 h3 => by simp (disch := omega) only [wr_row])).2.1 hF_E) (hI_E.tried (fun q h1 h2 h3 => by simp (disch := omega) only [wr_row])).2.2)
theorem dX1_fewest_0 : decode cX1_fewest 0 = .ok (.aload_n 0, 1) := by decide +kernel
theorem dX1_fewest_1 : decode cX1_fewest 1 = .ok (.aload_n 0, 1) := by decide +kernel
theorem dX1_fewest_2 : decode cX1_fewest 2 = .ok (.getfield 20, 3) := by decide +kernel
theorem dX1_fewest_5 : decode cX1_fewest 5 = .ok (.aload_n 0, 1) := by decide +kernel
theorem dX1_fewest_6 : decode cX1_fewest 6 = .ok (.getfield 41, 3) := by decide +kernel
theorem dX1_fewest_9 : decode cX1_fewest 9 = .ok (.invokevirtual 44, 3) := by decide +kernel
theorem dX1_fewest_12 : decode cX1_fewest 12 = .ok (.istore_n 1, 1) := by decide +kernel
theorem dX1_fewest_13 : decode cX1_fewest 13 = .ok (.iload_n 1, 1) := by decide +kernel
theorem dX1_fewest_14 : decode cX1_fewest 14 = .ok (.ldc 51, 2) := by decide +kernel
theorem dX1_fewest_16 : decode cX1_fewest 16 = .ok (.if_icmp .lt 7, 3) := by decide +kernel
theorem dX1_fewest_19 : decode cX1_fewest 19 = .ok (.iconst (-1), 1) := by decide +kernel
theorem dX1_fewest_20 : decode cX1_fewest 20 = .ok (.goto 4, 3) := by decide +kernel
theorem dX1_fewest_23 : decode cX1_fewest 23 = .ok (.iload_n 1, 1) := by decide +kernel
theorem dX1_fewest_24 : decode cX1_fewest 24 = .ok (.ireturn, 1) := by decide +kernel
theorem ct_X1_fewest {g : Gw} (hG : GF g) {z : Bool} (E : Mm) (c : Nat → Nat → Nat) (lf st fr la : Nat) (h1 : E 60 1 = (st : Int)) (h2 : E 60 2 = (lf : Int)) (h3 : E 60 3 = (fr : Int)) (hrw : ∀ y x, fr ≤ y → y ≤ la → x < lf → E 61 (y * 40 + x) = (c y x : Int)) (hcl : ∀ y x, c y x ≤ 1000000) (hlf : lf ≤ 40) (hst : st ≤ 40) (hfl : fr ≤ la) (hla : la < 24) : CT g yX1_fewest cX1_fewest 2 (some .int) 3 68 0 0 K2 z [mR 60] (ov E) K2 z (fun r D' => r = some (mI (if 1000000 ≤ chN (c fr) st lf then -1 else (chN (c fr) st lf : Int))) ∧ D' = ov E) := by
  refine CT.mk hG (by decide +kernel) (Nat.le_of_ble_eq_true rfl) (fun κ X Rt _ ok => ?_)
  refine at_aload_n 1 X rfl rfl dX1_fewest_0 rfl ?_
  refine at_aload_n 2 X rfl rfl dX1_fewest_1 rfl ?_
  refine m_getIV 5 X ((st : Nat) : Int) h1 f_X1_20 k_60 rn_60_1 dX1_fewest_2 rfl ?_
  refine at_aload_n 6 X rfl rfl dX1_fewest_5 rfl ?_
  refine m_getIV 9 X ((fr : Nat) : Int) h3 f_X1_41 k_60 rn_60_3 dX1_fewest_6 rfl ?_
  refine at_callV 12 X _ 1 (ct_X1_cheapest hG E (c fr) lf st fr h2 (fun x hx => hrw fr x (Nat.le_refl _) hfl hx) (fun x _ => hcl _ _) hlf hst (by omega)) clX1 rfl k_60 mo_X1_cheapest w_1386 vo_X1_cheapest.1 vo_X1_cheapest.2 rfl rfl (crm Rt (by decide)) (Nat.le_of_ble_eq_true rfl) dX1_fewest_9 rfl ?_
  rintro _ _ ⟨rfl, rfl⟩
  have hcn := chN_le (c fr) st lf
  refine at_istore_n 13 X rfl dX1_fewest_12 rfl (by decide) ?_
  refine at_iload_n 14 X rfl rfl dX1_fewest_13 rfl ?_
  refine at_ldc 16 X (n := 1000000) w_1390 (by decide) (by decide) dX1_fewest_14 rfl ?_
  refine at_icmp_lt 19 23 X dX1_fewest_16 rfl (by decide) (fun h16 => ?_) (fun h16 => ?_)
  · refine at_iload_n 24 X rfl rfl dX1_fewest_23 rfl ?_
    refine at_iret X Rt ?_ (Nat.le_refl _) (Nat.le_refl _) dX1_fewest_24
    first | exact ⟨by rw [if_pos (by omega)], rfl⟩ | exact ⟨by rw [if_neg (by omega)], rfl⟩
  · refine at_iconst 20 X (by decide) dX1_fewest_19 rfl ?_
    refine at_goto 24 X dX1_fewest_20 (by decide) ?_
    refine at_iret X Rt ?_ (Nat.le_refl _) (Nat.le_refl _) dX1_fewest_24
    first | exact ⟨by rw [if_pos (by omega)], rfl⟩ | exact ⟨by rw [if_neg (by omega)], rfl⟩
/-- left ends hour by hour -/
def plN (c : Nat → Nat → Nat) (lf st fr : Nat) : Nat → Nat := itr (fun i a => fcN (c (fr + i)) a lf) st
theorem fcN_le {f : Nat → Nat} {a n : Nat} (ha : a ≤ 40) (hn : n ≤ 40) : fcN f a n ≤ 40 := by
  have := fst_in (fun x => decide (csN a x (f x) = chN f a n)) n
  unfold fcN
  split <;> omega
theorem plN_le {c : Nat → Nat → Nat} {lf st fr : Nat} (h1 : lf ≤ 40) (h2 : st ≤ 40) : ∀ n, plN c lf st fr n ≤ 40
  | 0 => h2
  | n + 1 => fcN_le (plN_le h1 h2 n) h1
theorem dX1_placeIn_0 : decode cX1_placeIn 0 = .ok (.aload_n 0, 1) := by decide +kernel
theorem dX1_placeIn_1 : decode cX1_placeIn 1 = .ok (.invokevirtual 63, 3) := by decide +kernel
theorem dX1_placeIn_4 : decode cX1_placeIn 4 = .ok (.iconst (-1), 1) := by decide +kernel
theorem dX1_placeIn_5 : decode cX1_placeIn 5 = .ok (.if_icmp .ne 5, 3) := by decide +kernel
theorem dX1_placeIn_8 : decode cX1_placeIn 8 = .ok (.iconst (-1), 1) := by decide +kernel
theorem dX1_placeIn_9 : decode cX1_placeIn 9 = .ok (.ireturn, 1) := by decide +kernel
theorem dX1_placeIn_10 : decode cX1_placeIn 10 = .ok (.aload_n 0, 1) := by decide +kernel
theorem dX1_placeIn_11 : decode cX1_placeIn 11 = .ok (.getfield 20, 3) := by decide +kernel
theorem dX1_placeIn_14 : decode cX1_placeIn 14 = .ok (.istore_n 2, 1) := by decide +kernel
theorem dX1_placeIn_15 : decode cX1_placeIn 15 = .ok (.aload_n 0, 1) := by decide +kernel
theorem dX1_placeIn_16 : decode cX1_placeIn 16 = .ok (.getfield 41, 3) := by decide +kernel
theorem dX1_placeIn_19 : decode cX1_placeIn 19 = .ok (.istore_n 3, 1) := by decide +kernel
theorem dX1_placeIn_20 : decode cX1_placeIn 20 = .ok (.iload_n 3, 1) := by decide +kernel
theorem dX1_placeIn_21 : decode cX1_placeIn 21 = .ok (.iload_n 1, 1) := by decide +kernel
theorem dX1_placeIn_22 : decode cX1_placeIn 22 = .ok (.if_icmp .gt 22, 3) := by decide +kernel
theorem dX1_placeIn_25 : decode cX1_placeIn 25 = .ok (.iload_n 3, 1) := by decide +kernel
theorem dX1_placeIn_26 : decode cX1_placeIn 26 = .ok (.bipush 24, 2) := by decide +kernel
theorem dX1_placeIn_28 : decode cX1_placeIn 28 = .ok (.if_icmp .ge 16, 3) := by decide +kernel
theorem dX1_placeIn_31 : decode cX1_placeIn 31 = .ok (.aload_n 0, 1) := by decide +kernel
theorem dX1_placeIn_32 : decode cX1_placeIn 32 = .ok (.iload_n 2, 1) := by decide +kernel
theorem dX1_placeIn_33 : decode cX1_placeIn 33 = .ok (.iload_n 3, 1) := by decide +kernel
theorem dX1_placeIn_34 : decode cX1_placeIn 34 = .ok (.invokevirtual 67, 3) := by decide +kernel
theorem dX1_placeIn_37 : decode cX1_placeIn 37 = .ok (.istore_n 2, 1) := by decide +kernel
theorem dX1_placeIn_38 : decode cX1_placeIn 38 = .ok (.iinc 3 1, 3) := by decide +kernel
theorem dX1_placeIn_41 : decode cX1_placeIn 41 = .ok (.goto (-21), 3) := by decide +kernel
theorem dX1_placeIn_44 : decode cX1_placeIn 44 = .ok (.iload_n 2, 1) := by decide +kernel
theorem dX1_placeIn_45 : decode cX1_placeIn 45 = .ok (.ireturn, 1) := by decide +kernel
theorem ct_X1_placeIn {g : Gw} (hG : GF g) {z : Bool} (E : Mm) (c : Nat → Nat → Nat) (lf st fr la : Nat) (h1 : E 60 1 = (st : Int)) (h2 : E 60 2 = (lf : Int)) (h3 : E 60 3 = (fr : Int)) (hrw : ∀ y x, fr ≤ y → y ≤ la → x < lf → E 61 (y * 40 + x) = (c y x : Int)) (hcl : ∀ y x, c y x ≤ 1000000) (hlf : lf ≤ 40) (hst : st ≤ 40) (hfl : fr ≤ la) (hla : la < 24) (q : Nat) (hq : fr ≤ q ∧ q ≤ la) : CT g yX1_placeIn cX1_placeIn 4 (some .int) 4 92 0 0 K2 z [mR 60, mI ((q : Nat) : Int)] (ov E) K2 z (fun r D' => r = some (mI (if 1000000 ≤ chN (c fr) st lf then -1 else (plN c lf st fr (q + 1 - fr) : Int))) ∧ D' = ov E) := by
  refine CT.mk hG (by decide +kernel) (Nat.le_of_ble_eq_true rfl) (fun κ X Rt _ ok => ?_)
  refine at_aload_n 1 X rfl rfl dX1_placeIn_0 rfl ?_
  refine at_callV 4 X _ 1 (ct_X1_fewest hG E c lf st fr la h1 h2 h3 hrw hcl hlf hst hfl hla) clX1 rfl k_60 mo_X1_fewest w_1421 vo_X1_fewest.1 vo_X1_fewest.2 rfl rfl (crm Rt (by decide)) (Nat.le_of_ble_eq_true rfl) dX1_placeIn_1 rfl ?_
  rintro _ _ ⟨rfl, rfl⟩
  refine at_iconst 5 X (by decide) dX1_placeIn_4 rfl ?_
  refine at_icmp_ne 8 10 X dX1_placeIn_5 rfl (by decide) (fun h5 => ?_) (fun h5 => ?_)
  · refine at_aload_n 11 X rfl rfl dX1_placeIn_10 rfl ?_
    refine m_getIV 14 X ((st : Nat) : Int) h1 f_X1_20 k_60 rn_60_1 dX1_placeIn_11 rfl ?_
    refine at_istore_n 15 X rfl dX1_placeIn_14 rfl (by decide) ?_
    refine at_aload_n 16 X rfl rfl dX1_placeIn_15 rfl ?_
    refine m_getIV 19 X ((fr : Nat) : Int) h3 f_X1_41 k_60 rn_60_3 dX1_placeIn_16 rfl ?_
    refine at_istore_n 20 X rfl dX1_placeIn_19 rfl (by decide) ?_
    have J20 : ∀ (f20 : Nat) (h : Nat) (a : Nat), 25 - h < f20 → (fr ≤ h ∧ h ≤ q + 1) → (a = plN c lf st fr (h - fr)) → AT g κ K2 z 0 0 20 [(0, mR 60), (1, mI ((q : Nat) : Int)), (2, mI ((a : Nat) : Int)), (3, mI ((h : Nat) : Int))] [] (ov E) := by
      intro f20
      induction f20 with
      | zero => intro h a hf20; omega
      | succ f20 ih20 =>
      intro h a hf20 hh hav
      refine at_iload_n 21 X rfl rfl dX1_placeIn_20 rfl ?_
      have hal := plN_le (c := c) (fr := fr) hlf hst (h - fr)
      rw [← hav] at hal
      refine at_iload_n 22 X rfl rfl dX1_placeIn_21 rfl ?_
      refine at_icmp_gt 25 44 X dX1_placeIn_22 rfl (by decide) (fun h22 => ?_) (fun h22 => ?_)
      · refine at_iload_n 45 X rfl rfl dX1_placeIn_44 rfl ?_
        refine at_iret X Rt ?_ (Nat.le_refl _) (Nat.le_refl _) dX1_placeIn_45
        exact ⟨by rw [if_neg (by split at h5 <;> omega), hav, show h = q + 1 by omega], rfl⟩
      · refine at_iload_n 26 X rfl rfl dX1_placeIn_25 rfl ?_
        refine at_bipush 28 X (by decide) (by decide) dX1_placeIn_26 rfl ?_
        refine at_icmp_ge 31 44 X dX1_placeIn_28 rfl (by decide) (fun h28 => ?_) (fun h28 => ?_)
        · refine at_iload_n 45 X rfl rfl dX1_placeIn_44 rfl ?_
          refine at_iret X Rt ?_ (Nat.le_refl _) (Nat.le_refl _) dX1_placeIn_45
          exact ⟨by rw [if_neg (by split at h5 <;> omega), hav, show h = q + 1 by omega], rfl⟩
        · refine at_aload_n 32 X rfl rfl dX1_placeIn_31 rfl ?_
          refine at_iload_n 33 X rfl rfl dX1_placeIn_32 rfl ?_
          refine at_iload_n 34 X rfl rfl dX1_placeIn_33 rfl ?_
          refine at_callV 37 X _ 1 (ct_X1_firstCheapest hG E (c h) lf a h h2 (fun x hx => hrw h x (by omega) (by omega) hx) (fun x _ => hcl _ _) hlf (by omega) (by omega)) clX1 rfl k_60 mo_X1_firstCheapest w_1422 vo_X1_firstCheapest.1 vo_X1_firstCheapest.2 rfl rfl (crm Rt (by decide)) (Nat.le_of_ble_eq_true rfl) dX1_placeIn_34 rfl ?_
          rintro _ _ ⟨rfl, rfl⟩
          refine at_istore_n 38 X rfl dX1_placeIn_37 rfl (by decide) ?_
          refine at_iincV 41 X ((h + 1 : Nat) : Int) (w32_v (by omega) (by omega) (by omega)) rfl dX1_placeIn_38 rfl (by decide) ?_
          refine at_goto 20 X dX1_placeIn_41 (by decide) ?_
          exact at_sub _ (by exact ⟨rfl, rfl, rfl, rfl, trivial⟩) (ih20 (h + 1) (fcN (c h) a lf) (by first | omega | (simp only [] at *; omega)) (by omega) (by rw [show h + 1 - fr = (h - fr) + 1 by omega]; show _ = fcN (c (fr + (h - fr))) (plN c lf st fr (h - fr)) lf; rw [show fr + (h - fr) = h by omega, ← hav]))
    exact at_sub _ (by exact ⟨rfl, rfl, rfl, rfl, trivial⟩) (J20 _ fr st (Nat.lt_succ_self _) (by omega) (by rw [Nat.sub_self]; rfl))
  · refine at_iconst 9 X (by decide) dX1_placeIn_8 rfl ?_
    refine at_iret X Rt ?_ (Nat.le_refl _) (Nat.le_refl _) dX1_placeIn_9
    exact ⟨by rw [if_pos (by split at h5 <;> omega)], rfl⟩
/-- kept: how many cells, and the left ends -/
def keA (G : GP) (B : BM) (b f t : Nat) : Int := if 1000000 ≤ chN (crk G B b t (t - f)) (bX B b) (gW G + 1 - bL B b) then -1 else (chN (crk G B b t (t - f)) (bX B b) (gW G + 1 - bL B b) : Int)
def caA (G : GP) (B : BM) (b f t h : Nat) : Int := if 1000000 ≤ chN (crk G B b t (t - f)) (bX B b) (gW G + 1 - bL B b) then -1 else (plN (fun y x => crk G B b t (t - y) x) (gW G + 1 - bL B b) (bX B b) f (h + 1 - f) : Int)
theorem dX11_kept_0 : decode cX11_kept 0 = .ok (.aload_n 0, 1) := by decide +kernel
theorem dX11_kept_1 : decode cX11_kept 1 = .ok (.iload_n 1, 1) := by decide +kernel
theorem dX11_kept_2 : decode cX11_kept 2 = .ok (.invokevirtual 208, 3) := by decide +kernel
theorem dX11_kept_5 : decode cX11_kept 5 = .ok (.aload_n 0, 1) := by decide +kernel
theorem dX11_kept_6 : decode cX11_kept 6 = .ok (.iload_n 2, 1) := by decide +kernel
theorem dX11_kept_7 : decode cX11_kept 7 = .ok (.iload_n 3, 1) := by decide +kernel
theorem dX11_kept_8 : decode cX11_kept 8 = .ok (.invokevirtual 296, 3) := by decide +kernel
theorem dX11_kept_11 : decode cX11_kept 11 = .ok (.aload_n 0, 1) := by decide +kernel
theorem dX11_kept_12 : decode cX11_kept 12 = .ok (.invokevirtual 227, 3) := by decide +kernel
theorem dX11_kept_15 : decode cX11_kept 15 = .ok (.aload_n 0, 1) := by decide +kernel
theorem dX11_kept_16 : decode cX11_kept 16 = .ok (.getfield 79, 3) := by decide +kernel
theorem dX11_kept_19 : decode cX11_kept 19 = .ok (.aload_n 0, 1) := by decide +kernel
theorem dX11_kept_20 : decode cX11_kept 20 = .ok (.getfield 59, 3) := by decide +kernel
theorem dX11_kept_23 : decode cX11_kept 23 = .ok (.aload_n 0, 1) := by decide +kernel
theorem dX11_kept_24 : decode cX11_kept 24 = .ok (.getfield 93, 3) := by decide +kernel
theorem dX11_kept_27 : decode cX11_kept 27 = .ok (.getfield 135, 3) := by decide +kernel
theorem dX11_kept_30 : decode cX11_kept 30 = .ok (.iload_n 1, 1) := by decide +kernel
theorem dX11_kept_31 : decode cX11_kept 31 = .ok (.iload_n 2, 1) := by decide +kernel
theorem dX11_kept_32 : decode cX11_kept 32 = .ok (.iload_n 3, 1) := by decide +kernel
theorem dX11_kept_33 : decode cX11_kept 33 = .ok (.invokevirtual 299, 3) := by decide +kernel
theorem dX11_kept_36 : decode cX11_kept 36 = .ok (.aload_n 0, 1) := by decide +kernel
theorem dX11_kept_37 : decode cX11_kept 37 = .ok (.getfield 79, 3) := by decide +kernel
theorem dX11_kept_40 : decode cX11_kept 40 = .ok (.invokevirtual 303, 3) := by decide +kernel
theorem dX11_kept_43 : decode cX11_kept 43 = .ok (.ireturn, 1) := by decide +kernel
theorem ct_X11_kept {g : Gw} (hG : GF g) {z : Bool} (E : Mm) (s : Nat) (P : SP) (L : LW) (T K : LN) (d : Nat) (hI_E : CXI E s P L T K d) (x0 x1 x2 : Int) : CTX g yX11_kept cX11_kept 4 (some .int) 8 146 2 12 K2 z [mR 0, mI x0, mI x1, mI x2] (ov E) K2 z (fun r' D' => (0 ≤ x0 ∧ x0 ≤ (bN (sB P) : Int) - 1) ∧ (0 ≤ x1 ∧ x1 ≤ x2 ∧ x2 < 24) ∧ r' = some (mI (keA (gNow P L d) (sB P) x0.toNat x1.toNat x2.toNat)) ∧ ∃ E1, D' = ov E1 ∧ CXI E1 s P L T K d ∧ CXF E E1) (fun X D' => (¬ (0 ≤ x0 ∧ x0 ≤ (bN (sB P) : Int) - 1) ∧ X = "java/util/NoSuchElementException" ∧ D' = ov (bumpE E 1)) ∨ ((0 ≤ x0 ∧ x0 ≤ (bN (sB P) : Int) - 1) ∧ ¬ (0 ≤ x1 ∧ x1 ≤ x2 ∧ x2 < 24) ∧ X = "java/lang/IllegalArgumentException" ∧ D' = ov (bumpE E 2))) := by
  refine CTX.mk hG (by decide +kernel) (Nat.le_of_ble_eq_true rfl) (fun κ X Rt Rx ok => ?_)
  have hs := hI_E.sa
  have hP := hI_E.WS
  have hW40 := hP.W
  have hN10 := hP.N
  have hN8 := hP.B.N
  have hX_E : CXF E E := CXF.rf
  have hwG := gNow_WG hI_E
  have hgw : gW (gNow P L d) = sW P := rfl
  have hgn : gN (gNow P L d) = sN P := rfl
  refine at_aload_n 1 X rfl rfl dX11_kept_0 rfl ?_
  refine at_iload_n 2 X rfl rfl dX11_kept_1 rfl ?_
  refine at_callVX 5 X Rt Rx _ 11 (ct_X11_needBeamP hG E s P L T K d hI_E x0) clX11 rfl k_0 mo_X11_needBeam w_1239 vo_X11_needBeam.1 vo_X11_needBeam.2 rfl rfl (by decide) (Nat.le_of_ble_eq_true rfl) dX11_kept_2 rfl (fun _ _ h => Or.inl ⟨h.1, h.2.1, h.2.2⟩) ?_
  rintro _ _ ⟨hc0, rfl, rfl⟩
  refine at_aload_n 6 X rfl rfl dX11_kept_5 rfl ?_
  refine at_iload_n 7 X rfl rfl dX11_kept_6 rfl ?_
  refine at_iload_n 8 X rfl rfl dX11_kept_7 rfl ?_
  refine at_callVX 11 X Rt Rx _ 11 (ct_X11_needHours hG E x1 x2) clX11 rfl k_0 mo_X11_needHours w_1377 vo_X11_needHours.1 vo_X11_needHours.2 rfl rfl (by decide) (Nat.le_of_ble_eq_true rfl) dX11_kept_8 rfl (fun _ _ h => Or.inr (⟨hc0, h.1, h.2.1, h.2.2⟩)) ?_
  rintro _ _ ⟨hc1, rfl, rfl⟩
  obtain ⟨b, rfl⟩ : ∃ b : Nat, x0 = (b : Int) := ⟨x0.toNat, by omega⟩
  obtain ⟨f, rfl⟩ : ∃ f : Nat, x1 = (f : Int) := ⟨x1.toNat, by omega⟩
  obtain ⟨t, rfl⟩ : ∃ t : Nat, x2 = (t : Int) := ⟨x2.toNat, by omega⟩
  refine at_aload_n 12 X rfl rfl dX11_kept_11 rfl ?_
  refine at_callV 15 X _ 11 (ct_X11_refresh hG E s P L T K d hI_E) clX11 rfl k_0 mo_X11_refresh w_665 vo_X11_refresh.1 vo_X11_refresh.2 rfl rfl (crm Rt (by decide)) (Nat.le_of_ble_eq_true rfl) dX11_kept_12 rfl ?_
  rintro _ _ ⟨rfl, F1, rfl, hI_F1, hF_F1, hXn_F1⟩
  have hX_F1 := hX_E.tr hXn_F1
  refine at_aload_n 16 X rfl rfl dX11_kept_15 rfl ?_
  refine m_getR 19 X f_X11_79 k_0 r_0_13 dX11_kept_16 rfl ?_
  refine at_aload_n 20 X rfl rfl dX11_kept_19 rfl ?_
  refine m_getR 23 X f_X11_59 k_0 r_0_9 dX11_kept_20 rfl ?_
  refine at_aload_n 24 X rfl rfl dX11_kept_23 rfl ?_
  refine m_getM 27 X (s) f_X11_93 k_0 rn_0_15 hI_F1.now dX11_kept_24 rfl ?_
  refine m_getR 30 X f_X11_135 (kX9 hs) (rX9_7 hs) dX11_kept_27 rfl ?_
  refine at_iload_n 31 X rfl rfl dX11_kept_30 rfl ?_
  refine at_iload_n 32 X rfl rfl dX11_kept_31 rfl ?_
  refine at_iload_n 33 X rfl rfl dX11_kept_32 rfl ?_
  refine at_callV 36 X _ 1 (ct_X1_plan hG F1 s P L T K d hI_F1 hF_F1 b f t (by omega) (by omega) (by omega)) clX1 rfl k_60 mo_X1_plan w_1381 vo_X1_plan.1 vo_X1_plan.2 rfl rfl (crm Rt (by decide)) (Nat.le_of_ble_eq_true rfl) dX11_kept_33 rfl ?_
  rintro _ _ ⟨rfl, F2, rfl, hI_F2, hF_F2, hXn_F2, h60_F2, hrw_F2⟩
  have hX_F2 := hX_F1.tr hXn_F2
  refine at_aload_n 37 X rfl rfl dX11_kept_36 rfl ?_
  refine m_getR 40 X f_X11_79 k_0 r_0_13 dX11_kept_37 rfl ?_
  have hlb := hP.B.L (b := b) (by omega)
  have hxb := hP.B.X (b := b) (by omega)
  refine at_callV 43 X _ 1 (ct_X1_fewest hG F2 (fun y x => crk (gNow P L d) (sB P) b t (t - y) x) (sW P + 1 - bL (sB P) b) (bX (sB P) b) f t h60_F2.1 h60_F2.2.1 h60_F2.2.2 hrw_F2 (fun _ _ => crk_le _ _ _ _ _ _) (by omega) (by omega) (by omega) (by omega)) clX1 rfl k_60 mo_X1_fewest w_1406 vo_X1_fewest.1 vo_X1_fewest.2 rfl rfl (crm Rt (by decide)) (Nat.le_of_ble_eq_true rfl) dX11_kept_40 rfl ?_
  rintro _ _ ⟨rfl, rfl⟩
  refine at_iret X Rt ?_ (by decide) (by decide) dX11_kept_43
  exact ⟨hc0, hc1, (by rfl), _, rfl, hI_F2, hX_F2⟩
theorem dX11_carry_0 : decode cX11_carry 0 = .ok (.aload_n 0, 1) := by decide +kernel
theorem dX11_carry_1 : decode cX11_carry 1 = .ok (.iload_n 1, 1) := by decide +kernel
theorem dX11_carry_2 : decode cX11_carry 2 = .ok (.invokevirtual 208, 3) := by decide +kernel
theorem dX11_carry_5 : decode cX11_carry 5 = .ok (.aload_n 0, 1) := by decide +kernel
theorem dX11_carry_6 : decode cX11_carry 6 = .ok (.iload_n 2, 1) := by decide +kernel
theorem dX11_carry_7 : decode cX11_carry 7 = .ok (.iload_n 3, 1) := by decide +kernel
theorem dX11_carry_8 : decode cX11_carry 8 = .ok (.invokevirtual 296, 3) := by decide +kernel
theorem dX11_carry_11 : decode cX11_carry 11 = .ok (.aload_n 0, 1) := by decide +kernel
theorem dX11_carry_12 : decode cX11_carry 12 = .ok (.iload 4, 2) := by decide +kernel
theorem dX11_carry_14 : decode cX11_carry 14 = .ok (.iload_n 2, 1) := by decide +kernel
theorem dX11_carry_15 : decode cX11_carry 15 = .ok (.iload_n 3, 1) := by decide +kernel
theorem dX11_carry_16 : decode cX11_carry 16 = .ok (.invokestatic 253, 3) := by decide +kernel
theorem dX11_carry_19 : decode cX11_carry 19 = .ok (.invokevirtual 164, 3) := by decide +kernel
theorem dX11_carry_22 : decode cX11_carry 22 = .ok (.aload_n 0, 1) := by decide +kernel
theorem dX11_carry_23 : decode cX11_carry 23 = .ok (.invokevirtual 227, 3) := by decide +kernel
theorem dX11_carry_26 : decode cX11_carry 26 = .ok (.aload_n 0, 1) := by decide +kernel
theorem dX11_carry_27 : decode cX11_carry 27 = .ok (.getfield 79, 3) := by decide +kernel
theorem dX11_carry_30 : decode cX11_carry 30 = .ok (.aload_n 0, 1) := by decide +kernel
theorem dX11_carry_31 : decode cX11_carry 31 = .ok (.getfield 59, 3) := by decide +kernel
theorem dX11_carry_34 : decode cX11_carry 34 = .ok (.aload_n 0, 1) := by decide +kernel
theorem dX11_carry_35 : decode cX11_carry 35 = .ok (.getfield 93, 3) := by decide +kernel
theorem dX11_carry_38 : decode cX11_carry 38 = .ok (.getfield 135, 3) := by decide +kernel
theorem dX11_carry_41 : decode cX11_carry 41 = .ok (.iload_n 1, 1) := by decide +kernel
theorem dX11_carry_42 : decode cX11_carry 42 = .ok (.iload_n 2, 1) := by decide +kernel
theorem dX11_carry_43 : decode cX11_carry 43 = .ok (.iload_n 3, 1) := by decide +kernel
theorem dX11_carry_44 : decode cX11_carry 44 = .ok (.invokevirtual 299, 3) := by decide +kernel
theorem dX11_carry_47 : decode cX11_carry 47 = .ok (.aload_n 0, 1) := by decide +kernel
theorem dX11_carry_48 : decode cX11_carry 48 = .ok (.getfield 79, 3) := by decide +kernel
theorem dX11_carry_51 : decode cX11_carry 51 = .ok (.iload 4, 2) := by decide +kernel
theorem dX11_carry_53 : decode cX11_carry 53 = .ok (.invokevirtual 306, 3) := by decide +kernel
theorem dX11_carry_56 : decode cX11_carry 56 = .ok (.ireturn, 1) := by decide +kernel
theorem ct_X11_carry {g : Gw} (hG : GF g) {z : Bool} (E : Mm) (s : Nat) (P : SP) (L : LW) (T K : LN) (d : Nat) (hI_E : CXI E s P L T K d) (x0 x1 x2 x3 : Int) : CTX g yX11_carry cX11_carry 5 (some .int) 8 146 3 18 K2 z [mR 0, mI x0, mI x1, mI x2, mI x3] (ov E) K2 z (fun r' D' => (0 ≤ x0 ∧ x0 ≤ (bN (sB P) : Int) - 1) ∧ (0 ≤ x1 ∧ x1 ≤ x2 ∧ x2 < 24) ∧ (x1 ≤ x3 ∧ x3 ≤ x2) ∧ r' = some (mI (caA (gNow P L d) (sB P) x0.toNat x1.toNat x2.toNat x3.toNat)) ∧ ∃ E1, D' = ov E1 ∧ CXI E1 s P L T K d ∧ CXF E E1) (fun X D' => (¬ (0 ≤ x0 ∧ x0 ≤ (bN (sB P) : Int) - 1) ∧ X = "java/util/NoSuchElementException" ∧ D' = ov (bumpE E 1)) ∨ ((0 ≤ x0 ∧ x0 ≤ (bN (sB P) : Int) - 1) ∧ ¬ (0 ≤ x1 ∧ x1 ≤ x2 ∧ x2 < 24) ∧ X = "java/lang/IllegalArgumentException" ∧ D' = ov (bumpE E 2)) ∨ ((0 ≤ x0 ∧ x0 ≤ (bN (sB P) : Int) - 1) ∧ (0 ≤ x1 ∧ x1 ≤ x2 ∧ x2 < 24) ∧ ¬ (x1 ≤ x3 ∧ x3 ≤ x2) ∧ X = "java/lang/IllegalArgumentException" ∧ D' = ov (bumpE E 2))) := by
  refine CTX.mk hG (by decide +kernel) (Nat.le_of_ble_eq_true rfl) (fun κ X Rt Rx ok => ?_)
  have hs := hI_E.sa
  have hP := hI_E.WS
  have hW40 := hP.W
  have hN10 := hP.N
  have hN8 := hP.B.N
  have hX_E : CXF E E := CXF.rf
  have hwG := gNow_WG hI_E
  have hgw : gW (gNow P L d) = sW P := rfl
  have hgn : gN (gNow P L d) = sN P := rfl
  refine at_aload_n 1 X rfl rfl dX11_carry_0 rfl ?_
  refine at_iload_n 2 X rfl rfl dX11_carry_1 rfl ?_
  refine at_callVX 5 X Rt Rx _ 11 (ct_X11_needBeamP hG E s P L T K d hI_E x0) clX11 rfl k_0 mo_X11_needBeam w_1239 vo_X11_needBeam.1 vo_X11_needBeam.2 rfl rfl (by decide) (Nat.le_of_ble_eq_true rfl) dX11_carry_2 rfl (fun _ _ h => Or.inl ⟨h.1, h.2.1, h.2.2⟩) ?_
  rintro _ _ ⟨hc0, rfl, rfl⟩
  refine at_aload_n 6 X rfl rfl dX11_carry_5 rfl ?_
  refine at_iload_n 7 X rfl rfl dX11_carry_6 rfl ?_
  refine at_iload_n 8 X rfl rfl dX11_carry_7 rfl ?_
  refine at_callVX 11 X Rt Rx _ 11 (ct_X11_needHours hG E x1 x2) clX11 rfl k_0 mo_X11_needHours w_1377 vo_X11_needHours.1 vo_X11_needHours.2 rfl rfl (by decide) (Nat.le_of_ble_eq_true rfl) dX11_carry_8 rfl (fun _ _ h => Or.inr (Or.inl ⟨hc0, h.1, h.2.1, h.2.2⟩)) ?_
  rintro _ _ ⟨hc1, rfl, rfl⟩
  refine at_aload_n 12 X rfl rfl dX11_carry_11 rfl ?_
  refine at_iload 14 X rfl dX11_carry_12 rfl ?_
  refine at_iload_n 15 X rfl rfl dX11_carry_14 rfl ?_
  refine at_iload_n 16 X rfl rfl dX11_carry_15 rfl ?_
  refine at_callS 19 X (ct_X11_isWithin hG _ _ _) mo_X11_isWithin w_1211 so_X11_isWithin rfl rfl (crm Rt (by decide)) (Nat.le_of_ble_eq_true rfl) dX11_carry_16 rfl ?_
  rintro _ _ ⟨rfl, rfl⟩
  refine at_callVX 22 X Rt Rx _ 11 (ct_X11_need hG E (if x1 ≤ x3 ∧ x3 ≤ x2 then 1 else 0)) clX11 rfl k_0 mo_X11_need w_863 vo_X11_need.1 vo_X11_need.2 rfl rfl (by decide) (Nat.le_of_ble_eq_true rfl) dX11_carry_19 rfl (fun _ _ h => Or.inr (Or.inr (⟨hc0, hc1, (fun q => ite_no.mp h.1 (by omega)), h.2.1, h.2.2⟩))) ?_
  rintro _ _ ⟨hq, rfl, rfl⟩
  have hc2 : x1 ≤ x3 ∧ x3 ≤ x2 := by have := ite_yes.mp hq; omega
  obtain ⟨b, rfl⟩ : ∃ b : Nat, x0 = (b : Int) := ⟨x0.toNat, by omega⟩
  obtain ⟨f, rfl⟩ : ∃ f : Nat, x1 = (f : Int) := ⟨x1.toNat, by omega⟩
  obtain ⟨t, rfl⟩ : ∃ t : Nat, x2 = (t : Int) := ⟨x2.toNat, by omega⟩
  obtain ⟨h, rfl⟩ : ∃ h : Nat, x3 = (h : Int) := ⟨x3.toNat, by omega⟩
  refine at_aload_n 23 X rfl rfl dX11_carry_22 rfl ?_
  refine at_callV 26 X _ 11 (ct_X11_refresh hG E s P L T K d hI_E) clX11 rfl k_0 mo_X11_refresh w_665 vo_X11_refresh.1 vo_X11_refresh.2 rfl rfl (crm Rt (by decide)) (Nat.le_of_ble_eq_true rfl) dX11_carry_23 rfl ?_
  rintro _ _ ⟨rfl, F1, rfl, hI_F1, hF_F1, hXn_F1⟩
  have hX_F1 := hX_E.tr hXn_F1
  refine at_aload_n 27 X rfl rfl dX11_carry_26 rfl ?_
  refine m_getR 30 X f_X11_79 k_0 r_0_13 dX11_carry_27 rfl ?_
  refine at_aload_n 31 X rfl rfl dX11_carry_30 rfl ?_
  refine m_getR 34 X f_X11_59 k_0 r_0_9 dX11_carry_31 rfl ?_
  refine at_aload_n 35 X rfl rfl dX11_carry_34 rfl ?_
  refine m_getM 38 X (s) f_X11_93 k_0 rn_0_15 hI_F1.now dX11_carry_35 rfl ?_
  refine m_getR 41 X f_X11_135 (kX9 hs) (rX9_7 hs) dX11_carry_38 rfl ?_
  refine at_iload_n 42 X rfl rfl dX11_carry_41 rfl ?_
  refine at_iload_n 43 X rfl rfl dX11_carry_42 rfl ?_
  refine at_iload_n 44 X rfl rfl dX11_carry_43 rfl ?_
  refine at_callV 47 X _ 1 (ct_X1_plan hG F1 s P L T K d hI_F1 hF_F1 b f t (by omega) (by omega) (by omega)) clX1 rfl k_60 mo_X1_plan w_1381 vo_X1_plan.1 vo_X1_plan.2 rfl rfl (crm Rt (by decide)) (Nat.le_of_ble_eq_true rfl) dX11_carry_44 rfl ?_
  rintro _ _ ⟨rfl, F2, rfl, hI_F2, hF_F2, hXn_F2, h60_F2, hrw_F2⟩
  have hX_F2 := hX_F1.tr hXn_F2
  refine at_aload_n 48 X rfl rfl dX11_carry_47 rfl ?_
  refine m_getR 51 X f_X11_79 k_0 r_0_13 dX11_carry_48 rfl ?_
  refine at_iload 53 X rfl dX11_carry_51 rfl ?_
  have hlb := hP.B.L (b := b) (by omega)
  have hxb := hP.B.X (b := b) (by omega)
  refine at_callV 56 X _ 1 (ct_X1_placeIn hG F2 (fun y x => crk (gNow P L d) (sB P) b t (t - y) x) (sW P + 1 - bL (sB P) b) (bX (sB P) b) f t h60_F2.1 h60_F2.2.1 h60_F2.2.2 hrw_F2 (fun _ _ => crk_le _ _ _ _ _ _) (by omega) (by omega) (by omega) (by omega) h (by omega)) clX1 rfl k_60 mo_X1_placeIn w_1417 vo_X1_placeIn.1 vo_X1_placeIn.2 rfl rfl (crm Rt (by decide)) (Nat.le_of_ble_eq_true rfl) dX11_carry_53 rfl ?_
  rintro _ _ ⟨rfl, rfl⟩
  refine at_iret X Rt ?_ (by decide) (by decide) dX11_carry_56
  exact ⟨hc0, hc1, hc2, (by rfl), _, rfl, hI_F2, hX_F2⟩
