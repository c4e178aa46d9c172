/-- a day's state as the class holds it -/
def CD (E : Mm) (r : Nat) (d : DS) : Prop := (∀ k, k < 8 → E (r + 1) k = dP d k) ∧ (∀ k, k < 8 → E (r + 2) k = dF d k) ∧ (∀ i, i < dN d → E (r + 3) i = (dO d i : Int)) ∧ E r 5 = (dN d : Int) ∧ E r 6 = (mk (fun k => decide (¬ dF d k = -1)) 8 : Nat)
def CW (E : Mm) (r : Nat) (B : BM) (pl : Nat → Int) : Prop := ∀ c, c < 40 → E (r + 5) c = wtN B pl c (bN B)
theorem CD.fr {E E1 : Mm} {r : Nat} {d : DS} (h : CD E r d) (hf : ∀ q, r ≤ q → q ≤ r + 3 → E1 q = E q) : CD E1 r d := by
  unfold CD at h ⊢
  rw [hf r (by omega) (by omega), hf (r + 1) (by omega) (by omega), hf (r + 2) (by omega) (by omega), hf (r + 3) (by omega) (by omega)]
  exact h
theorem CW.fr {E E1 : Mm} {r : Nat} {B : BM} {pl : Nat → Int} (h : CW E r B pl) (hf : E1 (r + 5) = E (r + 5)) : CW E1 r B pl := by
  unfold CW at h ⊢
  rw [hf]
  exact h
theorem addw {F : Mm} {q x l c : Nat} {L R t : Int} (hl : 2 ≤ l) : wr (wr F q x (F q x + t * L)) q (x + l - 1) (F q (x + l - 1) + t * R) q c = F q c + t * ((if x = c then L else 0) + (if x + l - 1 = c then R else 0)) := by
  by_cases h2 : c = x + l - 1
  · rw [h2, wr_s, if_neg (by omega), if_pos rfl, Int.zero_add]
  · rw [wr_o (Or.inr h2)]
    by_cases h1 : c = x
    · rw [h1, wr_s, if_pos rfl, if_neg (by omega), Int.add_zero]
    · rw [wr_o (Or.inr h1), if_neg (fun e => h1 e.symm), if_neg (fun e => h2 e.symm)]; simp
theorem wt1_at {B : BM} {pl : Nat → Int} {b x c : Nat} (hl : 2 ≤ bL B b) (h : pl b = (x : Int)) : wt1 B pl b c = (if x = c then (onL B b : Int) else 0) + (if x + bL B b - 1 = c then (onR B b : Int) else 0) := by
  unfold wt1
  rw [h, if_neg (by omega)]
  congr 1
  · by_cases q : x = c
    · rw [if_pos (by omega), if_pos q]
    · rw [if_neg (by omega), if_neg q]
  · by_cases q : x + bL B b - 1 = c
    · rw [if_pos (by omega), if_pos q]
    · rw [if_neg (by omega), if_neg q]
theorem CD_drop {F : Mm} {r b h x y : Nat} {d : DS} {u v : Int} (hd : CD F r d) (hb : b < 8) : CD (wr (wr (wr (wr (wr (wr (wr F (r + 5) x u) (r + 5) y v) (r + 1) b (-1)) (r + 2) b (h : Int)) (r + 3) (dN d) (b : Int)) r 5 ((dN d + 1 : Nat) : Int)) r 6 ((mk (fun k => decide (¬ dF d k = -1)) 8 ||| 2 ^ b : Nat) : Int)) r (updf (dP d) b (-1), updf (dF d) b (h : Int), (fun i => if i = dN d then b else dO d i), dN d + 1) := by
  obtain ⟨h1, h2, h3, h4, h5⟩ := hd
  refine ⟨fun k hk => ?_, fun k hk => ?_, fun i hi => ?_, ?_, ?_⟩
  · rw [wr_o (by omega), wr_o (by omega), wr_o (by omega), wr_o (by omega)]
    show _ = updf (dP d) b (-1) k
    by_cases c : k = b
    · subst c; rw [wr_s, updf_s]
    · rw [wr_o (Or.inr c), wr_o (by omega), wr_o (by omega), updf_o c]; exact h1 k hk
  · rw [wr_o (by omega), wr_o (by omega), wr_o (by omega)]
    show _ = updf (dF d) b (h : Int) k
    by_cases c : k = b
    · subst c; rw [wr_s, updf_s]
    · rw [wr_o (Or.inr c), wr_o (by omega), wr_o (by omega), wr_o (by omega), updf_o c]; exact h2 k hk
  · have hi' : i < dN d + 1 := hi
    rw [wr_o (by omega), wr_o (by omega)]
    show _ = ((if i = dN d then b else dO d i : Nat) : Int)
    by_cases c : i = dN d
    · subst c; rw [wr_s, if_pos rfl]
    · rw [wr_o (Or.inr c), wr_o (by omega), wr_o (by omega), wr_o (by omega), wr_o (by omega), if_neg c]; exact h3 i (by omega)
  · rw [wr_o (by omega), wr_s]
  · rw [wr_s, or_mk (p' := fun k => decide (¬ updf (dF d) b (h : Int) k = -1)) hb (fun j hj => ?_)]
    by_cases c : j = b
    · subst c
      rw [updf_s, decide_eq_true (by omega), decide_eq_true (p := j = j) rfl, Bool.or_true]
    · rw [updf_o c, decide_eq_false c, Bool.or_false]
theorem dX3_placeBehind_0 : decode cX3_placeBehind 0 = .ok (.aload_n 0, 1) := by decide +kernel
theorem dX3_placeBehind_1 : decode cX3_placeBehind 1 = .ok (.getfield 21, 3) := by decide +kernel
theorem dX3_placeBehind_4 : decode cX3_placeBehind 4 = .ok (.iload_n 2, 1) := by decide +kernel
theorem dX3_placeBehind_5 : decode cX3_placeBehind 5 = .ok (.bipush 8, 2) := by decide +kernel
theorem dX3_placeBehind_7 : decode cX3_placeBehind 7 = .ok (.imul, 1) := by decide +kernel
theorem dX3_placeBehind_8 : decode cX3_placeBehind 8 = .ok (.iload_n 1, 1) := by decide +kernel
theorem dX3_placeBehind_9 : decode cX3_placeBehind 9 = .ok (.iadd, 1) := by decide +kernel
theorem dX3_placeBehind_10 : decode cX3_placeBehind 10 = .ok (.iaload, 1) := by decide +kernel
theorem dX3_placeBehind_11 : decode cX3_placeBehind 11 = .ok (.ireturn, 1) := by decide +kernel
theorem ct_X3_placeBehind {g : Gw} (hG : GF g) {z : Bool} (E : Mm) (r : Nat) (hr : r = 48 ∨ r = 54) (b h : Nat) (hb : b < 8) (hh : h < 24) : CT g yX3_placeBehind cX3_placeBehind 3 (some .int) 0 0 0 0 K2 z [mR r, mI ((b : Nat) : Int), mI ((h : Nat) : Int)] (ov E) K2 z (fun r' D' => r' = some (mI (E (r + 4) (h * 8 + b))) ∧ D' = ov E) := by
  refine CT.mk hG (by decide +kernel) (Nat.le_of_ble_eq_true rfl) (fun κ X Rt _ ok => ?_)
  refine at_aload_n 1 X rfl rfl dX3_placeBehind_0 rfl ?_
  refine m_getR 4 X f_X3_21 (kX3 hr) (rX3_3 hr) dX3_placeBehind_1 rfl ?_
  refine at_iload_n 5 X rfl rfl dX3_placeBehind_4 rfl ?_
  refine at_bipush 7 X (by decide) (by decide) dX3_placeBehind_5 rfl ?_
  refine at_imulV 8 X ((h * 8 : Nat) : Int) (w32_v (by omega) (by omega) (by omega)) dX3_placeBehind_7 rfl ?_
  refine at_iload_n 9 X rfl rfl dX3_placeBehind_8 rfl ?_
  refine at_iaddV 10 X ((h * 8 + b : Nat) : Int) (w32_v (by omega) (by omega) (by omega)) dX3_placeBehind_9 rfl ?_
  refine m_ialoadV 11 X (h * 8 + b) (by omega) (E (r + 4) (h * 8 + b)) rfl (kX3_3 hr) (eX3_3 hr) (by omega) dX3_placeBehind_10 rfl ?_
  refine at_iret X Rt ?_ (Nat.le_refl _) (Nat.le_refl _) dX3_placeBehind_11
  exact ⟨rfl, rfl⟩
theorem mv_row {F : Mm} {q b : Nat} {f : Nat → Int} {x : Int} (h : ∀ k, k < 8 → F q k = f k) : ∀ k, k < 8 → wr F q b x q k = updf f b x k := by
  intro k hk
  by_cases c : k = b
  · subst c; rw [wr_s, updf_s]
  · rw [wr_o (Or.inr c), updf_o c]; exact h k hk
theorem dX3_moveBeams_0 : decode cX3_moveBeams 0 = .ok (.iconst 0, 1) := by decide +kernel
theorem dX3_moveBeams_1 : decode cX3_moveBeams 1 = .ok (.istore_n 3, 1) := by decide +kernel
theorem dX3_moveBeams_2 : decode cX3_moveBeams 2 = .ok (.iload_n 3, 1) := by decide +kernel
theorem dX3_moveBeams_3 : decode cX3_moveBeams 3 = .ok (.aload_n 1, 1) := by decide +kernel
theorem dX3_moveBeams_4 : decode cX3_moveBeams 4 = .ok (.getfield 61, 3) := by decide +kernel
theorem dX3_moveBeams_7 : decode cX3_moveBeams 7 = .ok (.if_icmp .ge 51, 3) := by decide +kernel
theorem dX3_moveBeams_10 : decode cX3_moveBeams 10 = .ok (.aload_n 1, 1) := by decide +kernel
theorem dX3_moveBeams_11 : decode cX3_moveBeams 11 = .ok (.getfield 64, 3) := by decide +kernel
theorem dX3_moveBeams_14 : decode cX3_moveBeams 14 = .ok (.iload_n 3, 1) := by decide +kernel
theorem dX3_moveBeams_15 : decode cX3_moveBeams 15 = .ok (.iaload, 1) := by decide +kernel
theorem dX3_moveBeams_16 : decode cX3_moveBeams 16 = .ok (.istore 4, 2) := by decide +kernel
theorem dX3_moveBeams_18 : decode cX3_moveBeams 18 = .ok (.aload_n 1, 1) := by decide +kernel
theorem dX3_moveBeams_19 : decode cX3_moveBeams 19 = .ok (.getfield 67, 3) := by decide +kernel
theorem dX3_moveBeams_22 : decode cX3_moveBeams 22 = .ok (.iload_n 3, 1) := by decide +kernel
theorem dX3_moveBeams_23 : decode cX3_moveBeams 23 = .ok (.iaload, 1) := by decide +kernel
theorem dX3_moveBeams_24 : decode cX3_moveBeams 24 = .ok (.iload_n 2, 1) := by decide +kernel
theorem dX3_moveBeams_25 : decode cX3_moveBeams 25 = .ok (.if_icmp .ne 27, 3) := by decide +kernel
theorem dX3_moveBeams_28 : decode cX3_moveBeams 28 = .ok (.aload_n 0, 1) := by decide +kernel
theorem dX3_moveBeams_29 : decode cX3_moveBeams 29 = .ok (.getfield 9, 3) := by decide +kernel
theorem dX3_moveBeams_32 : decode cX3_moveBeams 32 = .ok (.iload 4, 2) := by decide +kernel
theorem dX3_moveBeams_34 : decode cX3_moveBeams 34 = .ok (.iaload, 1) := by decide +kernel
theorem dX3_moveBeams_35 : decode cX3_moveBeams 35 = .ok (.iconst (-1), 1) := by decide +kernel
theorem dX3_moveBeams_36 : decode cX3_moveBeams 36 = .ok (.if_icmp .eq 16, 3) := by decide +kernel
theorem dX3_moveBeams_39 : decode cX3_moveBeams 39 = .ok (.aload_n 0, 1) := by decide +kernel
theorem dX3_moveBeams_40 : decode cX3_moveBeams 40 = .ok (.getfield 9, 3) := by decide +kernel
theorem dX3_moveBeams_43 : decode cX3_moveBeams 43 = .ok (.iload 4, 2) := by decide +kernel
theorem dX3_moveBeams_45 : decode cX3_moveBeams 45 = .ok (.aload_n 1, 1) := by decide +kernel
theorem dX3_moveBeams_46 : decode cX3_moveBeams 46 = .ok (.getfield 70, 3) := by decide +kernel
theorem dX3_moveBeams_49 : decode cX3_moveBeams 49 = .ok (.iload_n 3, 1) := by decide +kernel
theorem dX3_moveBeams_50 : decode cX3_moveBeams 50 = .ok (.iaload, 1) := by decide +kernel
theorem dX3_moveBeams_51 : decode cX3_moveBeams 51 = .ok (.iastore, 1) := by decide +kernel
theorem dX3_moveBeams_52 : decode cX3_moveBeams 52 = .ok (.iinc 3 1, 3) := by decide +kernel
theorem dX3_moveBeams_55 : decode cX3_moveBeams 55 = .ok (.goto (-53), 3) := by decide +kernel
theorem dX3_moveBeams_58 : decode cX3_moveBeams 58 = .ok (.return_, 1) := by decide +kernel
theorem ct_X3_moveBeams {g : Gw} (hG : GF g) {z : Bool} (E : Mm) (r : Nat) (hr : r = 48 ∨ r = 54) (B : BM) (W : Nat) (hN8 : bN B ≤ 8) (T : LN) (hN_E : CN E 12 T) (hT : WT W B T) (pl : Nat → Int) (hpl : ∀ b, b < 8 → E (r + 1) b = pl b) (h : Nat) : CT g yX3_moveBeams cX3_moveBeams 5 none 0 0 0 0 K2 z [mR r, mR 12, mI ((h : Nat) : Int)] (ov E) K2 z (fun r' D' => r' = none ∧ ∃ E1, D' = ov E1 ∧ (∀ b, b < 8 → E1 (r + 1) b = mvP T h pl b) ∧ ∀ q, q ≠ r + 1 → E1 q = E q) := by
  refine CT.mk hG (by decide +kernel) (Nat.le_of_ble_eq_true rfl) (fun κ X Rt _ ok => ?_)
  have hT16 := hT.1
  refine at_iconst 1 X (by decide) dX3_moveBeams_0 rfl ?_
  refine at_istore_n 2 X rfl dX3_moveBeams_1 rfl (by decide) ?_
  have J2 : ∀ (f2 : Nat) (F : Mm) (i : Nat), 16 - i < f2 → (i ≤ T.1) → ((∀ b, b < 8 → F (r + 1) b = mvN T h pl i b)) → ((∀ q, q ≠ r + 1 → F q = E q)) → AT g κ K2 z 0 0 2 [(0, mR r), (1, mR 12), (2, mI ((h : Nat) : Int)), (3, mI ((i : Nat) : Int))] [] (ov F) := by
    intro f2
    induction f2 with
    | zero => intro F i hf2; omega
    | succ f2 ih2 =>
    intro F i hf2 hi hpl_F hf
    refine at_iload_n 3 X rfl rfl dX3_moveBeams_2 rfl ?_
    have hN_F : CN F 12 T := hN_E.fr (fun q _ _ => hf q (by omega))
    refine at_aload_n 4 X rfl rfl dX3_moveBeams_3 rfl ?_
    refine m_getIV 7 X ((T.1 : Nat) : Int) hN_F.n f_X3_61 k_12 rn_12_3 dX3_moveBeams_4 rfl ?_
    refine at_icmp_ge 10 58 X dX3_moveBeams_7 rfl (by decide) (fun h7 => ?_) (fun h7 => ?_)
    · refine at_vret X Rt ?_ (Nat.le_refl _) (Nat.le_refl _) dX3_moveBeams_58
      exact ⟨rfl, F, rfl, fun b hb => by unfold mvP; rw [show T.1 = i by omega]; exact hpl_F b hb, hf⟩
    · refine at_aload_n 11 X rfl rfl dX3_moveBeams_10 rfl ?_
      refine m_getR 14 X f_X3_64 k_12 r_12_1 dX3_moveBeams_11 rfl ?_
      refine at_iload_n 15 X rfl rfl dX3_moveBeams_14 rfl ?_
      refine m_ialoadV 16 X i (by omega) ((T.2.2.1 i : Nat) : Int) (hN_F.b (i := i) (by omega)) k_14 e_14 (by omega) dX3_moveBeams_15 rfl ?_
      have := hT.2 i (by omega)
      refine at_istore 18 X dX3_moveBeams_16 rfl (by decide) ?_
      refine at_aload_n 19 X rfl rfl dX3_moveBeams_18 rfl ?_
      refine m_getR 22 X f_X3_67 k_12 r_12_0 dX3_moveBeams_19 rfl ?_
      refine at_iload_n 23 X rfl rfl dX3_moveBeams_22 rfl ?_
      refine m_ialoadV 24 X i (by omega) ((T.2.1 i : Nat) : Int) (hN_F.a (i := i) (by omega)) k_13 e_13 (by omega) dX3_moveBeams_23 rfl ?_
      have := hT.2 i (by omega)
      refine at_iload_n 25 X rfl rfl dX3_moveBeams_24 rfl ?_
      refine at_icmp_ne 28 52 X dX3_moveBeams_25 rfl (by decide) (fun h25 => ?_) (fun h25 => ?_)
      · refine at_iincV 55 X ((i + 1 : Nat) : Int) (w32_v (by omega) (by omega) (by omega)) rfl dX3_moveBeams_52 rfl (by decide) ?_
        refine at_goto 2 X dX3_moveBeams_55 (by decide) ?_
        exact at_sub _ (by exact ⟨rfl, rfl, rfl, rfl, trivial⟩) (ih2 F (i + 1) (by first | omega | (simp only [] at *; omega)) (by first | omega | assumption) (by first | (rw [mvN_s, if_neg (fun q => h25 (by omega))]; exact hpl_F) | (rw [mvN_s, if_neg (fun q => q.2 h36)]; exact hpl_F) | (rw [mvN_s, if_pos ⟨by omega, h36⟩]; exact mv_row hpl_F)) (by first | exact hf | exact (fun q hq => by rw [wr_row hq]; exact hf q hq)))
      · refine at_aload_n 29 X rfl rfl dX3_moveBeams_28 rfl ?_
        refine m_getR 32 X f_X3_9 (kX3 hr) (rX3_0 hr) dX3_moveBeams_29 rfl ?_
        refine at_iload 34 X rfl dX3_moveBeams_32 rfl ?_
        refine m_ialoadV 35 X (T.2.2.1 i) (by omega) (mvN T h pl i (T.2.2.1 i)) (hpl_F (T.2.2.1 i) (by omega)) (kX3_0 hr) (eX3_0 hr) (by omega) dX3_moveBeams_34 rfl ?_
        refine at_iconst 36 X (by decide) dX3_moveBeams_35 rfl ?_
        refine at_icmp_eq 39 52 X dX3_moveBeams_36 rfl (by decide) (fun h36 => ?_) (fun h36 => ?_)
        · refine at_iincV 55 X ((i + 1 : Nat) : Int) (w32_v (by omega) (by omega) (by omega)) rfl dX3_moveBeams_52 rfl (by decide) ?_
          refine at_goto 2 X dX3_moveBeams_55 (by decide) ?_
          exact at_sub _ (by exact ⟨rfl, rfl, rfl, rfl, trivial⟩) (ih2 F (i + 1) (by first | omega | (simp only [] at *; omega)) (by first | omega | assumption) (by first | (rw [mvN_s, if_neg (fun q => h25 (by omega))]; exact hpl_F) | (rw [mvN_s, if_neg (fun q => q.2 h36)]; exact hpl_F) | (rw [mvN_s, if_pos ⟨by omega, h36⟩]; exact mv_row hpl_F)) (by first | exact hf | exact (fun q hq => by rw [wr_row hq]; exact hf q hq)))
        · refine at_aload_n 40 X rfl rfl dX3_moveBeams_39 rfl ?_
          refine m_getR 43 X f_X3_9 (kX3 hr) (rX3_0 hr) dX3_moveBeams_40 rfl ?_
          refine at_iload 45 X rfl dX3_moveBeams_43 rfl ?_
          refine at_aload_n 46 X rfl rfl dX3_moveBeams_45 rfl ?_
          refine m_getR 49 X f_X3_70 k_12 r_12_2 dX3_moveBeams_46 rfl ?_
          refine at_iload_n 50 X rfl rfl dX3_moveBeams_49 rfl ?_
          refine m_ialoadV 51 X i (by omega) ((T.2.2.2 i : Nat) : Int) (hN_F.c (i := i) (by omega)) k_15 e_15 (by omega) dX3_moveBeams_50 rfl ?_
          have := hT.2 i (by omega)
          refine m_iastoreV 52 X (T.2.2.1 i) (by omega) (kX3_0 hr) (eX3_0 hr) (by omega) dX3_moveBeams_51 rfl ?_
          refine at_iincV 55 X ((i + 1 : Nat) : Int) (w32_v (by omega) (by omega) (by omega)) rfl dX3_moveBeams_52 rfl (by decide) ?_
          refine at_goto 2 X dX3_moveBeams_55 (by decide) ?_
          exact at_sub _ (by exact ⟨rfl, rfl, rfl, rfl, trivial⟩) (ih2 (wr F (r + 1) (T.2.2.1 i) ((T.2.2.2 i : Nat) : Int)) (i + 1) (by first | omega | (simp only [] at *; omega)) (by first | omega | assumption) (by first | (rw [mvN_s, if_neg (fun q => h25 (by omega))]; exact hpl_F) | (rw [mvN_s, if_neg (fun q => q.2 h36)]; exact hpl_F) | (rw [mvN_s, if_pos ⟨by omega, h36⟩]; exact mv_row hpl_F)) (by first | exact hf | exact (fun q hq => by rw [wr_row hq]; exact hf q hq)))
  exact at_sub _ (by exact ⟨rfl, rfl, rfl, rfl, trivial⟩) (J2 _ E 0 (Nat.lt_succ_self _) (by first | omega | assumption | rfl) hpl (fun _ _ => rfl))
theorem dX3_addWeight_0 : decode cX3_addWeight 0 = .ok (.aload_n 1, 1) := by decide +kernel
theorem dX3_addWeight_1 : decode cX3_addWeight 1 = .ok (.iload_n 2, 1) := by decide +kernel
theorem dX3_addWeight_2 : decode cX3_addWeight 2 = .ok (.aload_n 0, 1) := by decide +kernel
theorem dX3_addWeight_3 : decode cX3_addWeight 3 = .ok (.getfield 9, 3) := by decide +kernel
theorem dX3_addWeight_6 : decode cX3_addWeight 6 = .ok (.iload_n 2, 1) := by decide +kernel
theorem dX3_addWeight_7 : decode cX3_addWeight 7 = .ok (.iaload, 1) := by decide +kernel
theorem dX3_addWeight_8 : decode cX3_addWeight 8 = .ok (.invokevirtual 83, 3) := by decide +kernel
theorem dX3_addWeight_11 : decode cX3_addWeight 11 = .ok (.istore 4, 2) := by decide +kernel
theorem dX3_addWeight_13 : decode cX3_addWeight 13 = .ok (.aload_n 0, 1) := by decide +kernel
theorem dX3_addWeight_14 : decode cX3_addWeight 14 = .ok (.getfield 9, 3) := by decide +kernel
theorem dX3_addWeight_17 : decode cX3_addWeight 17 = .ok (.iload_n 2, 1) := by decide +kernel
theorem dX3_addWeight_18 : decode cX3_addWeight 18 = .ok (.iaload, 1) := by decide +kernel
theorem dX3_addWeight_19 : decode cX3_addWeight 19 = .ok (.ifCond .lt 52, 3) := by decide +kernel
theorem dX3_addWeight_22 : decode cX3_addWeight 22 = .ok (.iload 4, 2) := by decide +kernel
theorem dX3_addWeight_24 : decode cX3_addWeight 24 = .ok (.bipush 40, 2) := by decide +kernel
theorem dX3_addWeight_26 : decode cX3_addWeight 26 = .ok (.if_icmp .ge 45, 3) := by decide +kernel
theorem dX3_addWeight_29 : decode cX3_addWeight 29 = .ok (.aload_n 0, 1) := by decide +kernel
theorem dX3_addWeight_30 : decode cX3_addWeight 30 = .ok (.getfield 24, 3) := by decide +kernel
theorem dX3_addWeight_33 : decode cX3_addWeight 33 = .ok (.aload_n 0, 1) := by decide +kernel
theorem dX3_addWeight_34 : decode cX3_addWeight 34 = .ok (.getfield 9, 3) := by decide +kernel
theorem dX3_addWeight_37 : decode cX3_addWeight 37 = .ok (.iload_n 2, 1) := by decide +kernel
theorem dX3_addWeight_38 : decode cX3_addWeight 38 = .ok (.iaload, 1) := by decide +kernel
theorem dX3_addWeight_39 : decode cX3_addWeight 39 = .ok (.dup2, 1) := by decide +kernel
theorem dX3_addWeight_40 : decode cX3_addWeight 40 = .ok (.laload, 1) := by decide +kernel
theorem dX3_addWeight_41 : decode cX3_addWeight 41 = .ok (.iload_n 3, 1) := by decide +kernel
theorem dX3_addWeight_42 : decode cX3_addWeight 42 = .ok (.i2l, 1) := by decide +kernel
theorem dX3_addWeight_43 : decode cX3_addWeight 43 = .ok (.aload_n 1, 1) := by decide +kernel
theorem dX3_addWeight_44 : decode cX3_addWeight 44 = .ok (.getfield 87, 3) := by decide +kernel
theorem dX3_addWeight_47 : decode cX3_addWeight 47 = .ok (.iload_n 2, 1) := by decide +kernel
theorem dX3_addWeight_48 : decode cX3_addWeight 48 = .ok (.laload, 1) := by decide +kernel
theorem dX3_addWeight_49 : decode cX3_addWeight 49 = .ok (.lmul, 1) := by decide +kernel
theorem dX3_addWeight_50 : decode cX3_addWeight 50 = .ok (.ladd, 1) := by decide +kernel
theorem dX3_addWeight_51 : decode cX3_addWeight 51 = .ok (.lastore, 1) := by decide +kernel
theorem dX3_addWeight_52 : decode cX3_addWeight 52 = .ok (.aload_n 0, 1) := by decide +kernel
theorem dX3_addWeight_53 : decode cX3_addWeight 53 = .ok (.getfield 24, 3) := by decide +kernel
theorem dX3_addWeight_56 : decode cX3_addWeight 56 = .ok (.iload 4, 2) := by decide +kernel
theorem dX3_addWeight_58 : decode cX3_addWeight 58 = .ok (.dup2, 1) := by decide +kernel
theorem dX3_addWeight_59 : decode cX3_addWeight 59 = .ok (.laload, 1) := by decide +kernel
theorem dX3_addWeight_60 : decode cX3_addWeight 60 = .ok (.iload_n 3, 1) := by decide +kernel
theorem dX3_addWeight_61 : decode cX3_addWeight 61 = .ok (.i2l, 1) := by decide +kernel
theorem dX3_addWeight_62 : decode cX3_addWeight 62 = .ok (.aload_n 1, 1) := by decide +kernel
theorem dX3_addWeight_63 : decode cX3_addWeight 63 = .ok (.getfield 90, 3) := by decide +kernel
theorem dX3_addWeight_66 : decode cX3_addWeight 66 = .ok (.iload_n 2, 1) := by decide +kernel
theorem dX3_addWeight_67 : decode cX3_addWeight 67 = .ok (.laload, 1) := by decide +kernel
theorem dX3_addWeight_68 : decode cX3_addWeight 68 = .ok (.lmul, 1) := by decide +kernel
theorem dX3_addWeight_69 : decode cX3_addWeight 69 = .ok (.ladd, 1) := by decide +kernel
theorem dX3_addWeight_70 : decode cX3_addWeight 70 = .ok (.lastore, 1) := by decide +kernel
theorem dX3_addWeight_71 : decode cX3_addWeight 71 = .ok (.return_, 1) := by decide +kernel
theorem ct_X3_addWeight {g : Gw} (hG : GF g) {z : Bool} (E : Mm) (r : Nat) (hr : r = 48 ∨ r = 54) (B : BM) (s W : Nat) (hs : s = 76 ∨ s = 91) (hB_E : CB E s B) (hW : WB W B) (hW40 : W ≤ 40) (b x : Nat) (t : Int) (hb : b < bN B) (hx : E (r + 1) b = (x : Int)) (hxl : x + bL B b ≤ 40) (ht : t = 1 ∨ t = -1) (hbd : ∀ c, c < 40 → -1000000000000000 ≤ E (r + 5) c ∧ E (r + 5) c ≤ 1000000000000000) : CT g yX3_addWeight cX3_addWeight 5 none 1 22 0 0 K2 z [mR r, mR s, mI ((b : Nat) : Int), mI t] (ov E) K2 z (fun r' D' => r' = none ∧ D' = ov (wr (wr E (r + 5) x (E (r + 5) x + t * (onL B b : Int))) (r + 5) (x + bL B b - 1) (E (r + 5) (x + bL B b - 1) + t * (onR B b : Int)))) := by
  refine CT.mk hG (by decide +kernel) (Nat.le_of_ble_eq_true rfl) (fun κ X Rt _ ok => ?_)
  have hN8 := hW.N
  refine at_aload_n 1 X rfl rfl dX3_addWeight_0 rfl ?_
  refine at_iload_n 2 X rfl rfl dX3_addWeight_1 rfl ?_
  refine at_aload_n 3 X rfl rfl dX3_addWeight_2 rfl ?_
  refine m_getR 6 X f_X3_9 (kX3 hr) (rX3_0 hr) dX3_addWeight_3 rfl ?_
  refine at_iload_n 7 X rfl rfl dX3_addWeight_6 rfl ?_
  refine m_ialoadV 8 X b (by omega) ((x : Nat) : Int) hx (kX3_0 hr) (eX3_0 hr) (by omega) dX3_addWeight_7 rfl ?_
  refine at_callV 11 X _ 0 (ct_X0_rightEndN hG E B s W hs hB_E hW hW40 b (by omega) x (by omega)) clX0 rfl (kX0 hs) mo_X0_rightEnd w_734 vo_X0_rightEnd.1 vo_X0_rightEnd.2 rfl rfl (crm Rt (by decide)) (Nat.le_of_ble_eq_true rfl) dX3_addWeight_8 rfl ?_
  rintro _ _ ⟨rfl, rfl⟩
  refine at_istore 13 X dX3_addWeight_11 rfl (by decide) ?_
  refine at_aload_n 14 X rfl rfl dX3_addWeight_13 rfl ?_
  refine m_getR 17 X f_X3_9 (kX3 hr) (rX3_0 hr) dX3_addWeight_14 rfl ?_
  refine at_iload_n 18 X rfl rfl dX3_addWeight_17 rfl ?_
  refine m_ialoadV 19 X b (by omega) ((x : Nat) : Int) hx (kX3_0 hr) (eX3_0 hr) (by omega) dX3_addWeight_18 rfl ?_
  refine at_if_lt 22 71 X dX3_addWeight_19 rfl (by decide) (fun h19 => ?_) (fun h19 => ?_)
  · exfalso; omega
  · refine at_iload 24 X rfl dX3_addWeight_22 rfl ?_
    refine at_bipush 26 X (by decide) (by decide) dX3_addWeight_24 rfl ?_
    refine at_icmp_ge 29 71 X dX3_addWeight_26 rfl (by decide) (fun h26 => ?_) (fun h26 => ?_)
    · exfalso; have := hW.L (b := b) (by omega); omega
    · have hl2 := hW.L (b := b) (by omega)
      have hol := onL_le hW (b := b) (by omega)
      have hor := onR_le hW (b := b) (by omega)
      have hm1 : -9553806662400 ≤ t * (onL B b : Int) ∧ t * (onL B b : Int) ≤ 9553806662400 := by rcases ht with rfl | rfl <;> omega
      have hm2 : -9553806662400 ≤ t * (onR B b : Int) ∧ t * (onR B b : Int) ≤ 9553806662400 := by rcases ht with rfl | rfl <;> omega
      have hbx := hbd x (by omega)
      have hby := hbd (x + bL B b - 1) (by omega)
      refine at_aload_n 30 X rfl rfl dX3_addWeight_29 rfl ?_
      refine m_getR 33 X f_X3_24 (kX3 hr) (rX3_4 hr) dX3_addWeight_30 rfl ?_
      refine at_aload_n 34 X rfl rfl dX3_addWeight_33 rfl ?_
      refine m_getR 37 X f_X3_9 (kX3 hr) (rX3_0 hr) dX3_addWeight_34 rfl ?_
      refine at_iload_n 38 X rfl rfl dX3_addWeight_37 rfl ?_
      refine m_ialoadV 39 X b (by omega) ((x : Nat) : Int) hx (kX3_0 hr) (eX3_0 hr) (by omega) dX3_addWeight_38 rfl ?_
      refine at_dup2 40 X (show ¬ (0 : Nat) = 1 by decide) (show ¬ (2 : Nat) = 1 by decide) dX3_addWeight_39 rfl ?_
      refine m_laloadV 41 X x (by omega) (E (r + 5) x) rfl (kX3_4 hr) (eX3_4 hr) (by omega) dX3_addWeight_40 rfl ?_
      refine at_iload_n 42 X rfl rfl dX3_addWeight_41 rfl ?_
      refine at_i2l 43 X dX3_addWeight_42 rfl ?_
      refine at_aload_n 44 X rfl rfl dX3_addWeight_43 rfl ?_
      refine m_getR 47 X f_X3_87 (kX0 hs) (rX0_4 hs) dX3_addWeight_44 rfl ?_
      refine at_iload_n 48 X rfl rfl dX3_addWeight_47 rfl ?_
      refine m_laloadV 49 X b (by omega) ((onL B b : Nat) : Int) (hB_E.l (b := b) (by omega)) (kX0_4 hs) (eX0_4 hs) (by omega) dX3_addWeight_48 rfl ?_
      have := onL_le hW (b := b) (by omega)
      refine at_lmulV 50 X (t * ((onL B b : Nat) : Int)) (w64_v rfl (by omega) (by omega)) dX3_addWeight_49 rfl ?_
      refine at_laddV 51 X ((E (r + 5) x) + (t * ((onL B b : Nat) : Int))) (w64_v rfl (by omega) (by omega)) dX3_addWeight_50 rfl ?_
      refine m_lastoreV 52 X x (by omega) (kX3_4 hr) (eX3_4 hr) (by omega) dX3_addWeight_51 rfl ?_
      refine at_aload_n 53 X rfl rfl dX3_addWeight_52 rfl ?_
      refine m_getR 56 X f_X3_24 (kX3 hr) (rX3_4 hr) dX3_addWeight_53 rfl ?_
      refine at_iload 58 X rfl dX3_addWeight_56 rfl ?_
      refine at_dup2 59 X (show ¬ (0 : Nat) = 1 by decide) (show ¬ (2 : Nat) = 1 by decide) dX3_addWeight_58 rfl ?_
      refine m_laloadV 60 X (x + bL B b - 1) (by omega) (E (r + 5) (x + bL B b - 1)) ((wr_o (by omega)).trans rfl) (kX3_4 hr) (eX3_4 hr) (by omega) dX3_addWeight_59 rfl ?_
      refine at_iload_n 61 X rfl rfl dX3_addWeight_60 rfl ?_
      refine at_i2l 62 X dX3_addWeight_61 rfl ?_
      refine at_aload_n 63 X rfl rfl dX3_addWeight_62 rfl ?_
      refine m_getR 66 X f_X3_90 (kX0 hs) (rX0_5 hs) dX3_addWeight_63 rfl ?_
      refine at_iload_n 67 X rfl rfl dX3_addWeight_66 rfl ?_
      refine m_laloadV 68 X b (by omega) ((onR B b : Nat) : Int) ((wr_o (by omega)).trans (hB_E.r (b := b) (by omega))) (kX0_5 hs) (eX0_5 hs) (by omega) dX3_addWeight_67 rfl ?_
      have := onR_le hW (b := b) (by omega)
      refine at_lmulV 69 X (t * ((onR B b : Nat) : Int)) (w64_v rfl (by omega) (by omega)) dX3_addWeight_68 rfl ?_
      refine at_laddV 70 X ((E (r + 5) (x + bL B b - 1)) + (t * ((onR B b : Nat) : Int))) (w64_v rfl (by omega) (by omega)) dX3_addWeight_69 rfl ?_
      refine m_lastoreV 71 X (x + bL B b - 1) (by omega) (kX3_4 hr) (eX3_4 hr) (by omega) dX3_addWeight_70 rfl ?_
      refine at_vret X Rt ?_ (Nat.le_refl _) (Nat.le_refl _) dX3_addWeight_71
      exact ⟨rfl, rfl⟩
theorem bd_of {F : Mm} {q n : Nat} {B : BM} {W : Nat} {pl : Nat → Int} (hW : WB W B) (hn : n ≤ bN B) (h : ∀ c, c < 40 → F q c = wtN B pl c n) : ∀ c, c < 40 → -1000000000000000 ≤ F q c ∧ F q c ≤ 1000000000000000 := by
  intro c hc
  have h1 := wtN_in hW pl c (n := n) hn
  have := hW.N
  rw [h c hc]
  omega
theorem dX3_weighCells_0 : decode cX3_weighCells 0 = .ok (.aload_n 0, 1) := by decide +kernel
theorem dX3_weighCells_1 : decode cX3_weighCells 1 = .ok (.getfield 24, 3) := by decide +kernel
theorem dX3_weighCells_4 : decode cX3_weighCells 4 = .ok (.lconst 0, 1) := by decide +kernel
theorem dX3_weighCells_5 : decode cX3_weighCells 5 = .ok (.invokestatic 73, 3) := by decide +kernel
theorem dX3_weighCells_8 : decode cX3_weighCells 8 = .ok (.iconst 0, 1) := by decide +kernel
theorem dX3_weighCells_9 : decode cX3_weighCells 9 = .ok (.istore_n 2, 1) := by decide +kernel
theorem dX3_weighCells_10 : decode cX3_weighCells 10 = .ok (.iload_n 2, 1) := by decide +kernel
theorem dX3_weighCells_11 : decode cX3_weighCells 11 = .ok (.aload_n 1, 1) := by decide +kernel
theorem dX3_weighCells_12 : decode cX3_weighCells 12 = .ok (.getfield 35, 3) := by decide +kernel
theorem dX3_weighCells_15 : decode cX3_weighCells 15 = .ok (.if_icmp .ge 26, 3) := by decide +kernel
theorem dX3_weighCells_18 : decode cX3_weighCells 18 = .ok (.aload_n 0, 1) := by decide +kernel
theorem dX3_weighCells_19 : decode cX3_weighCells 19 = .ok (.getfield 9, 3) := by decide +kernel
theorem dX3_weighCells_22 : decode cX3_weighCells 22 = .ok (.iload_n 2, 1) := by decide +kernel
theorem dX3_weighCells_23 : decode cX3_weighCells 23 = .ok (.iaload, 1) := by decide +kernel
theorem dX3_weighCells_24 : decode cX3_weighCells 24 = .ok (.iconst (-1), 1) := by decide +kernel
theorem dX3_weighCells_25 : decode cX3_weighCells 25 = .ok (.if_icmp .eq 10, 3) := by decide +kernel
theorem dX3_weighCells_28 : decode cX3_weighCells 28 = .ok (.aload_n 0, 1) := by decide +kernel
theorem dX3_weighCells_29 : decode cX3_weighCells 29 = .ok (.aload_n 1, 1) := by decide +kernel
theorem dX3_weighCells_30 : decode cX3_weighCells 30 = .ok (.iload_n 2, 1) := by decide +kernel
theorem dX3_weighCells_31 : decode cX3_weighCells 31 = .ok (.iconst 1, 1) := by decide +kernel
theorem dX3_weighCells_32 : decode cX3_weighCells 32 = .ok (.invokevirtual 79, 3) := by decide +kernel
theorem dX3_weighCells_35 : decode cX3_weighCells 35 = .ok (.iinc 2 1, 3) := by decide +kernel
theorem dX3_weighCells_38 : decode cX3_weighCells 38 = .ok (.goto (-28), 3) := by decide +kernel
theorem dX3_weighCells_41 : decode cX3_weighCells 41 = .ok (.return_, 1) := by decide +kernel
theorem ct_X3_weighCells {g : Gw} (hG : GF g) {z : Bool} (E : Mm) (r : Nat) (hr : r = 48 ∨ r = 54) (B : BM) (s W : Nat) (hs : s = 76 ∨ s = 91) (hB_E : CB E s B) (hW : WB W B) (hW40 : W ≤ 40) (pl : Nat → Int) (hpl_E : ∀ b, b < 8 → E (r + 1) b = pl b) (hPL : PLo W B pl) : CT g yX3_weighCells cX3_weighCells 3 none 2 46 0 0 K2 z [mR r, mR s] (ov E) K2 z (fun r' D' => r' = none ∧ ∃ E1, D' = ov E1 ∧ CW E1 r B pl ∧ ∀ q, q ≠ r + 5 → E1 q = E q) := by
  refine CT.mk hG (by decide +kernel) (Nat.le_of_ble_eq_true rfl) (fun κ X Rt _ ok => ?_)
  have hN8 := hW.N
  refine at_aload_n 1 X rfl rfl dX3_weighCells_0 rfl ?_
  refine m_getR 4 X f_X3_24 (kX3 hr) (rX3_4 hr) dX3_weighCells_1 rfl ?_
  refine at_lconst 5 X (v := 0) (by decide) (by decide) dX3_weighCells_4 rfl ?_
  refine at_callS 8 X (ct_fillJ hG (ov E) (r + 5) 40 0 (kX3_4 hr) (by decide)) mo_J7_fill_d0a16 w_727 so_J7_fill_d0a16 rfl rfl (crm Rt (by decide)) (Nat.le_of_ble_eq_true rfl) dX3_weighCells_5 rfl ?_
  rintro _ _ ⟨rfl, rfl⟩
  rw [ov_fil (eX3_4 hr)]
  refine at_iconst 9 X (by decide) dX3_weighCells_8 rfl ?_
  refine at_istore_n 10 X rfl dX3_weighCells_9 rfl (by decide) ?_
  have J10 : ∀ (f10 : Nat) (F : Mm) (b : Nat), 8 - b < f10 → (b ≤ bN B) → ((∀ c, c < 40 → F (r + 5) c = wtN B pl c b)) → ((∀ q, q ≠ r + 5 → F q = E q)) → AT g κ K2 z 0 0 10 [(0, mR r), (1, mR s), (2, mI ((b : Nat) : Int))] [] (ov F) := by
    intro f10
    induction f10 with
    | zero => intro F b hf10; omega
    | succ f10 ih10 =>
    intro F b hf10 hb hr5 hf
    refine at_iload_n 11 X rfl rfl dX3_weighCells_10 rfl ?_
    have hB_F : CB F s B := hB_E.fr (fun q _ _ => hf q (by omega))
    have hpl_F : ∀ b, b < 8 → F (r + 1) b = pl b := by rw [hf (r + 1) (by omega)]; exact hpl_E
    refine at_aload_n 12 X rfl rfl dX3_weighCells_11 rfl ?_
    refine m_getIV 15 X ((bN B : Nat) : Int) hB_F.N f_X3_35 (kX0 hs) (nX0_6 hs) dX3_weighCells_12 rfl ?_
    have := hW.N
    refine at_icmp_ge 18 41 X dX3_weighCells_15 rfl (by decide) (fun h15 => ?_) (fun h15 => ?_)
    · refine at_vret X Rt ?_ (Nat.le_refl _) (Nat.le_refl _) dX3_weighCells_41
      exact ⟨rfl, F, rfl, fun c hc => by rw [show bN B = b by omega]; exact hr5 c hc, hf⟩
    · refine at_aload_n 19 X rfl rfl dX3_weighCells_18 rfl ?_
      refine m_getR 22 X f_X3_9 (kX3 hr) (rX3_0 hr) dX3_weighCells_19 rfl ?_
      refine at_iload_n 23 X rfl rfl dX3_weighCells_22 rfl ?_
      refine m_ialoadV 24 X b (by omega) (pl b) (hpl_F b (by omega)) (kX3_0 hr) (eX3_0 hr) (by omega) dX3_weighCells_23 rfl ?_
      refine at_iconst 25 X (by decide) dX3_weighCells_24 rfl ?_
      refine at_icmp_eq 28 35 X dX3_weighCells_25 rfl (by decide) (fun h25 => ?_) (fun h25 => ?_)
      · refine at_iincV 38 X ((b + 1 : Nat) : Int) (w32_v (by omega) (by omega) (by omega)) rfl dX3_weighCells_35 rfl (by decide) ?_
        refine at_goto 10 X dX3_weighCells_38 (by decide) ?_
        exact at_sub _ (by exact ⟨rfl, rfl, rfl, trivial⟩) (ih10 F (b + 1) (by first | omega | (simp only [] at *; omega)) (by first | omega | assumption) (fun c hc => by show _ = wtN B pl c b + wt1 B pl b c; first | (rw [show wt1 B pl b c = 0 by unfold wt1; rw [if_pos h25], Int.add_zero]; exact hr5 c hc) | (rw [addw hl2.1, hr5 c hc, wt1_at hl2.1 hx, Int.one_mul])) (fun q hq => by first | exact hf q hq | (rw [wr_row hq, wr_row hq]; exact hf q hq)))
      · obtain ⟨x, hx⟩ : ∃ x : Nat, pl b = (x : Int) := ⟨(pl b).toNat, by have := (hPL b (by omega)).1; omega⟩
        have hxl := (hPL b (by omega)).2
        refine at_aload_n 29 X rfl rfl dX3_weighCells_28 rfl ?_
        have hl2 := hW.L (b := b) (by omega)
        refine at_aload_n 30 X rfl rfl dX3_weighCells_29 rfl ?_
        refine at_iload_n 31 X rfl rfl dX3_weighCells_30 rfl ?_
        refine at_iconst 32 X (by decide) dX3_weighCells_31 rfl ?_
        refine at_callV 35 X _ 3 (ct_X3_addWeight hG F r hr B s W hs hB_F hW hW40 b x 1 (by omega) ((hpl_F b (by omega)).trans hx) (by omega) (by first | exact Or.inl rfl | exact Or.inr rfl) (bd_of hW hb hr5)) clX3 rfl (kX3 hr) mo_X3_addWeight w_730 vo_X3_addWeight.1 vo_X3_addWeight.2 rfl rfl (crm Rt (by decide)) (Nat.le_of_ble_eq_true rfl) dX3_weighCells_32 rfl ?_
        rintro _ _ ⟨rfl, rfl⟩
        refine at_iincV 38 X ((b + 1 : Nat) : Int) (w32_v (by omega) (by omega) (by omega)) rfl dX3_weighCells_35 rfl (by decide) ?_
        refine at_goto 10 X dX3_weighCells_38 (by decide) ?_
        exact at_sub _ (by exact ⟨rfl, rfl, rfl, trivial⟩) (ih10 (wr (wr F (r + 5) x (F (r + 5) x + 1 * (onL B b : Int))) (r + 5) (x + bL B b - 1) (F (r + 5) (x + bL B b - 1) + 1 * (onR B b : Int))) (b + 1) (by first | omega | (simp only [] at *; omega)) (by first | omega | assumption) (fun c hc => by show _ = wtN B pl c b + wt1 B pl b c; first | (rw [show wt1 B pl b c = 0 by unfold wt1; rw [if_pos h25], Int.add_zero]; exact hr5 c hc) | (rw [addw hl2.1, hr5 c hc, wt1_at hl2.1 hx, Int.one_mul])) (fun q hq => by first | exact hf q hq | (rw [wr_row hq, wr_row hq]; exact hf q hq)))
  exact at_sub _ (by exact ⟨rfl, rfl, rfl, trivial⟩) (J10 _ (fil E (r + 5) 40 0) 0 (Nat.lt_succ_self _) (by first | omega | assumption | rfl) (fun c hc => fil_s hc) (fun q hq => fil_row hq))
