theorem wtw_step {F : Mm} {B : BM} {w b c : Nat} {pl : Nat → Nat} (hl : 2 ≤ bL B b) (hb : w.testBit b = true) (h : F 67 c = wtW B w pl c b) : wr (wr F 67 (pl b) (wtW B w pl (pl b) b + (onL B b : Int))) 67 (pl b + bL B b - 1) (wtW B w pl (pl b + bL B b - 1) b + (onR B b : Int)) 67 c = wtW B w pl c (b + 1) := by
  rw [wtW_s, if_pos hb, wt1_at (x := pl b) hl rfl]
  by_cases h2 : c = pl b + bL B b - 1
  · rw [h2, wr_s, if_neg (by omega), if_pos rfl, Int.zero_add]
  · rw [wr_o (Or.inr h2)]
    by_cases h1 : c = pl b
    · rw [h1, wr_s, if_pos rfl, if_neg (by omega), Int.add_zero]
    · rw [wr_o (Or.inr h1), if_neg (fun e => h1 e.symm), if_neg (fun e => h2 e.symm), h]; omega
theorem mvW_in {B : BM} {T : LN} {W h : Nat} {pl : Nat → Nat} (hT : WT W B T) (hp : ∀ b, b < bN B → pl b + bL B b ≤ W) : ∀ {i : Nat}, i ≤ T.1 → ∀ b, b < bN B → mvW T h pl i b + bL B b ≤ W
  | 0, _ => hp
  | i + 1, hi => by
    intro b hb
    rw [mvW_s]
    split
    · by_cases e : b = T.2.2.1 i
      · rw [e, pt1_s]; exact (hT.2 i (by omega)).2.2
      · rw [pt1_o e]; exact mvW_in hT hp (by omega) b hb
    · exact mvW_in hT hp (by omega) b hb
theorem plW_in {B : BM} {T : LN} {W : Nat} (hW : WB W B) (hT : WT W B T) : ∀ h, ∀ b, b < bN B → plW B T h b + bL B b ≤ W
  | 0 => fun b hb => hW.X hb
  | h + 1 => fun b hb => by
    rw [plW_s]
    exact mvW_in hT (plW_in hW hT h) (Nat.le_refl _) b hb
/-- what must be so on cells, lit or not, that the watched beams may lie -/
def NB (G : GP) (B : BM) (T : LN) (w : Nat) (m : Bool) (h v : Nat) : Prop := v < 1099511627776 ∧ ∀ c, v.testBit c = true → c < gW G ∧ ∃ t, t < h ∧ 0 < wtW B w (plW B T (t + 1)) c (bN B) ∧ bIf G m t c * 232792560 < wtW B w (plW B T (t + 1)) c (bN B)
theorem NB.zero {G : GP} {B : BM} {T : LN} {w h : Nat} {m : Bool} : NB G B T w m h 0 := ⟨by decide, fun c q => by rw [Nat.zero_testBit] at q; cases q⟩
theorem NB.up {G : GP} {B : BM} {T : LN} {w h v : Nat} {m : Bool} (q : NB G B T w m h v) : NB G B T w m (h + 1) v := ⟨q.1, fun c hc => by
  obtain ⟨a, t, b, d⟩ := q.2 c hc
  exact ⟨a, t, by omega, d⟩⟩
theorem NB.or {G : GP} {B : BM} {T : LN} {w h v x : Nat} {m : Bool} (q : NB G B T w m (h + 1) v) (hW : gW G ≤ 40) (hx : x < gW G) (h1 : 0 < wtW B w (plW B T (h + 1)) x (bN B)) (h2 : bIf G m h x * 232792560 < wtW B w (plW B T (h + 1)) x (bN B)) : NB G B T w m (h + 1) (v ||| 2 ^ x) :=
  ⟨or40 q.1 (p2_40 (by omega)), fun c hc => by
    rw [Nat.testBit_or, Bool.or_eq_true, Nat.testBit_two_pow, decide_eq_true_iff] at hc
    rcases hc with hc | hc
    · exact q.2 c hc
    · rw [← hc]; exact ⟨hx, h, by omega, h1, h2⟩⟩
theorem dX6_weighWatched_0 : decode cX6_weighWatched 0 = .ok (.aload_n 0, 1) := by decide +kernel
theorem dX6_weighWatched_1 : decode cX6_weighWatched 1 = .ok (.getfield 25, 3) := by decide +kernel
theorem dX6_weighWatched_4 : decode cX6_weighWatched 4 = .ok (.lconst 0, 1) := by decide +kernel
theorem dX6_weighWatched_5 : decode cX6_weighWatched 5 = .ok (.invokestatic 107, 3) := by decide +kernel
theorem dX6_weighWatched_8 : decode cX6_weighWatched 8 = .ok (.iconst 0, 1) := by decide +kernel
theorem dX6_weighWatched_9 : decode cX6_weighWatched 9 = .ok (.istore_n 3, 1) := by decide +kernel
theorem dX6_weighWatched_10 : decode cX6_weighWatched 10 = .ok (.iload_n 3, 1) := by decide +kernel
theorem dX6_weighWatched_11 : decode cX6_weighWatched 11 = .ok (.aload_n 1, 1) := by decide +kernel
theorem dX6_weighWatched_12 : decode cX6_weighWatched 12 = .ok (.getfield 59, 3) := by decide +kernel
theorem dX6_weighWatched_15 : decode cX6_weighWatched 15 = .ok (.if_icmp .ge 63, 3) := by decide +kernel
theorem dX6_weighWatched_18 : decode cX6_weighWatched 18 = .ok (.iload_n 2, 1) := by decide +kernel
theorem dX6_weighWatched_19 : decode cX6_weighWatched 19 = .ok (.iload_n 3, 1) := by decide +kernel
theorem dX6_weighWatched_20 : decode cX6_weighWatched 20 = .ok (.ishr, 1) := by decide +kernel
theorem dX6_weighWatched_21 : decode cX6_weighWatched 21 = .ok (.iconst 1, 1) := by decide +kernel
theorem dX6_weighWatched_22 : decode cX6_weighWatched 22 = .ok (.iand, 1) := by decide +kernel
theorem dX6_weighWatched_23 : decode cX6_weighWatched 23 = .ok (.iconst 1, 1) := by decide +kernel
theorem dX6_weighWatched_24 : decode cX6_weighWatched 24 = .ok (.if_icmp .ne 48, 3) := by decide +kernel
theorem dX6_weighWatched_27 : decode cX6_weighWatched 27 = .ok (.aload_n 0, 1) := by decide +kernel
theorem dX6_weighWatched_28 : decode cX6_weighWatched 28 = .ok (.getfield 25, 3) := by decide +kernel
theorem dX6_weighWatched_31 : decode cX6_weighWatched 31 = .ok (.aload_n 0, 1) := by decide +kernel
theorem dX6_weighWatched_32 : decode cX6_weighWatched 32 = .ok (.getfield 22, 3) := by decide +kernel
theorem dX6_weighWatched_35 : decode cX6_weighWatched 35 = .ok (.iload_n 3, 1) := by decide +kernel
theorem dX6_weighWatched_36 : decode cX6_weighWatched 36 = .ok (.iaload, 1) := by decide +kernel
theorem dX6_weighWatched_37 : decode cX6_weighWatched 37 = .ok (.dup2, 1) := by decide +kernel
theorem dX6_weighWatched_38 : decode cX6_weighWatched 38 = .ok (.laload, 1) := by decide +kernel
theorem dX6_weighWatched_39 : decode cX6_weighWatched 39 = .ok (.aload_n 1, 1) := by decide +kernel
theorem dX6_weighWatched_40 : decode cX6_weighWatched 40 = .ok (.getfield 113, 3) := by decide +kernel
theorem dX6_weighWatched_43 : decode cX6_weighWatched 43 = .ok (.iload_n 3, 1) := by decide +kernel
theorem dX6_weighWatched_44 : decode cX6_weighWatched 44 = .ok (.laload, 1) := by decide +kernel
theorem dX6_weighWatched_45 : decode cX6_weighWatched 45 = .ok (.ladd, 1) := by decide +kernel
theorem dX6_weighWatched_46 : decode cX6_weighWatched 46 = .ok (.lastore, 1) := by decide +kernel
theorem dX6_weighWatched_47 : decode cX6_weighWatched 47 = .ok (.aload_n 0, 1) := by decide +kernel
theorem dX6_weighWatched_48 : decode cX6_weighWatched 48 = .ok (.getfield 25, 3) := by decide +kernel
theorem dX6_weighWatched_51 : decode cX6_weighWatched 51 = .ok (.aload_n 1, 1) := by decide +kernel
theorem dX6_weighWatched_52 : decode cX6_weighWatched 52 = .ok (.iload_n 3, 1) := by decide +kernel
theorem dX6_weighWatched_53 : decode cX6_weighWatched 53 = .ok (.aload_n 0, 1) := by decide +kernel
theorem dX6_weighWatched_54 : decode cX6_weighWatched 54 = .ok (.getfield 22, 3) := by decide +kernel
theorem dX6_weighWatched_57 : decode cX6_weighWatched 57 = .ok (.iload_n 3, 1) := by decide +kernel
theorem dX6_weighWatched_58 : decode cX6_weighWatched 58 = .ok (.iaload, 1) := by decide +kernel
theorem dX6_weighWatched_59 : decode cX6_weighWatched 59 = .ok (.invokevirtual 65, 3) := by decide +kernel
theorem dX6_weighWatched_62 : decode cX6_weighWatched 62 = .ok (.dup2, 1) := by decide +kernel
theorem dX6_weighWatched_63 : decode cX6_weighWatched 63 = .ok (.laload, 1) := by decide +kernel
theorem dX6_weighWatched_64 : decode cX6_weighWatched 64 = .ok (.aload_n 1, 1) := by decide +kernel
theorem dX6_weighWatched_65 : decode cX6_weighWatched 65 = .ok (.getfield 116, 3) := by decide +kernel
theorem dX6_weighWatched_68 : decode cX6_weighWatched 68 = .ok (.iload_n 3, 1) := by decide +kernel
theorem dX6_weighWatched_69 : decode cX6_weighWatched 69 = .ok (.laload, 1) := by decide +kernel
theorem dX6_weighWatched_70 : decode cX6_weighWatched 70 = .ok (.ladd, 1) := by decide +kernel
theorem dX6_weighWatched_71 : decode cX6_weighWatched 71 = .ok (.lastore, 1) := by decide +kernel
theorem dX6_weighWatched_72 : decode cX6_weighWatched 72 = .ok (.iinc 3 1, 3) := by decide +kernel
theorem dX6_weighWatched_75 : decode cX6_weighWatched 75 = .ok (.goto (-65), 3) := by decide +kernel
theorem dX6_weighWatched_78 : decode cX6_weighWatched 78 = .ok (.return_, 1) := by decide +kernel
theorem ct_X6_weighWatched {g : Gw} (hG : GF g) {z : Bool} (E : Mm) (B : BM) (s : Nat) (hs : s = 76 ∨ s = 91) (hB_E : CB E s B) (W : Nat) (hW : WB W B) (hW40 : W ≤ 40) (w : Nat) (hw8 : w < 256) (pl : Nat → Nat) (hpl_E : ∀ b, b < bN B → E 66 b = (pl b : Int) ∧ pl b + bL B b ≤ W) : CT g yX6_weighWatched cX6_weighWatched 4 none 1 24 0 0 K2 z [mR 62, mR s, mI ((w : Nat) : Int)] (ov E) K2 z (fun r' D' => r' = none ∧ ∃ E1, D' = ov E1 ∧ (∀ c, c < 40 → E1 67 c = wtW B w pl c (bN B)) ∧ ∀ q, q ≠ 67 → E1 q = E q) := by
  refine CT.mk hG (by decide +kernel) (Nat.le_of_ble_eq_true rfl) (fun κ X Rt _ ok => ?_)
  have hN8 := hW.N
  refine at_aload_n 1 X rfl rfl dX6_weighWatched_0 rfl ?_
  refine m_getR 4 X f_X6_25 k_62 r_62_4 dX6_weighWatched_1 rfl ?_
  refine at_lconst 5 X (v := 0) (by decide) (by decide) dX6_weighWatched_4 rfl ?_
  refine at_callS 8 X (ct_fillJ hG (ov E) 67 40 0 k_67 (by decide)) mo_J7_fill_d0a16 w_1467 so_J7_fill_d0a16 rfl rfl (crm Rt (by decide)) (Nat.le_of_ble_eq_true rfl) dX6_weighWatched_5 rfl ?_
  rintro _ _ ⟨rfl, rfl⟩
  rw [ov_fil e_67]
  refine at_iconst 9 X (by decide) dX6_weighWatched_8 rfl ?_
  refine at_istore_n 10 X rfl dX6_weighWatched_9 rfl (by decide) ?_
  have J10 : ∀ (f10 : Nat) (F : Mm) (b : Nat), 8 - b < f10 → (b ≤ bN B) → ((∀ c, c < 40 → F 67 c = wtW B w pl c b)) → ((∀ q, q ≠ 67 → F q = E q)) → AT g κ K2 z 0 0 10 [(0, mR 62), (1, mR s), (2, mI ((w : Nat) : Int)), (3, mI ((b : Nat) : Int))] [] (ov F) := by
    intro f10
    induction f10 with
    | zero => intro F b hf10; omega
    | succ f10 ih10 =>
    intro F b hf10 hb8 hr hf
    refine at_iload_n 11 X rfl rfl dX6_weighWatched_10 rfl ?_
    have hB_F : CB F s B := hB_E.fr (fun q _ _ => hf q (by omega))
    have hpl_F : ∀ b, b < bN B → F 66 b = (pl b : Int) ∧ pl b + bL B b ≤ W := by rw [hf 66 (by omega)]; exact hpl_E
    refine at_aload_n 12 X rfl rfl dX6_weighWatched_11 rfl ?_
    refine m_getIV 15 X ((bN B : Nat) : Int) hB_F.N f_X6_59 (kX0 hs) (nX0_6 hs) dX6_weighWatched_12 rfl ?_
    have := hW.N
    refine at_icmp_ge 18 78 X dX6_weighWatched_15 rfl (by decide) (fun h15 => ?_) (fun h15 => ?_)
    · refine at_vret X Rt ?_ (Nat.le_refl _) (Nat.le_refl _) dX6_weighWatched_78
      exact ⟨rfl, F, rfl, fun c hc => by rw [show bN B = b by omega]; exact hr c hc, hf⟩
    · refine at_iload_n 19 X rfl rfl dX6_weighWatched_18 rfl ?_
      refine at_iload_n 20 X rfl rfl dX6_weighWatched_19 rfl ?_
      refine at_ishrV 21 X (ishr ((w : Nat) : Int) ((b : Nat) : Int)) rfl dX6_weighWatched_20 rfl ?_
      refine at_iconst 22 X (by decide) dX6_weighWatched_21 rfl ?_
      refine at_iandV 23 X (if w.testBit b = true then 1 else 0) (ibit (by omega) (by omega)) dX6_weighWatched_22 rfl ?_
      refine at_iconst 24 X (by decide) dX6_weighWatched_23 rfl ?_
      refine at_icmp_ne 27 72 X dX6_weighWatched_24 rfl (by decide) (fun h24 => ?_) (fun h24 => ?_)
      · have hb : ¬ w.testBit b = true := fun q => h24 (by rw [if_pos q])
        refine at_iincV 75 X ((b + 1 : Nat) : Int) (w32_v (by omega) (by omega) (by omega)) rfl dX6_weighWatched_72 rfl (by decide) ?_
        refine at_goto 10 X dX6_weighWatched_75 (by decide) ?_
        exact at_sub _ (by exact ⟨rfl, rfl, rfl, rfl, trivial⟩) (ih10 F (b + 1) (by first | omega | (simp only [] at *; omega)) (by first | omega | assumption) (by first | exact (fun c hc => by rw [wtW_s, if_neg hb]; exact hr c hc) | exact (fun c hc => wtw_step hl2.1 hb (hr c hc))) (by first | exact hf | exact fun q hq => by simp (disch := omega) only [wr_row]; exact hf q hq))
      · have hb : w.testBit b = true := by
          apply Decidable.byContradiction
          intro q; rw [if_neg q] at h24; exact absurd h24 (by decide)
        have hl2 := hW.L (b := b) (by omega)
        have hol := onL_le hW (b := b) (by omega)
        have hor := onR_le hW (b := b) (by omega)
        refine at_aload_n 28 X rfl rfl dX6_weighWatched_27 rfl ?_
        refine m_getR 31 X f_X6_25 k_62 r_62_4 dX6_weighWatched_28 rfl ?_
        refine at_aload_n 32 X rfl rfl dX6_weighWatched_31 rfl ?_
        refine m_getR 35 X f_X6_22 k_62 r_62_3 dX6_weighWatched_32 rfl ?_
        refine at_iload_n 36 X rfl rfl dX6_weighWatched_35 rfl ?_
        refine m_ialoadV 37 X b (by omega) ((pl b : Nat) : Int) (hpl_F b (by omega)).1 k_66 e_66 (by omega) dX6_weighWatched_36 rfl ?_
        have := (hpl_F b (by omega)).2
        refine at_dup2 38 X (show ¬ (0 : Nat) = 1 by decide) (show ¬ (2 : Nat) = 1 by decide) dX6_weighWatched_37 rfl ?_
        refine m_laloadV 39 X (pl b) (by omega) (wtW B w pl (pl b) b) (hr (pl b) (by omega)) k_67 e_67 (by omega) dX6_weighWatched_38 rfl ?_
        have hb_0 := wtW_in (w := w) hW pl (pl b) (n := b) (by omega)
        refine at_aload_n 40 X rfl rfl dX6_weighWatched_39 rfl ?_
        refine m_getR 43 X f_X6_113 (kX0 hs) (rX0_4 hs) dX6_weighWatched_40 rfl ?_
        refine at_iload_n 44 X rfl rfl dX6_weighWatched_43 rfl ?_
        refine m_laloadV 45 X b (by omega) ((onL B b : Nat) : Int) (hB_F.l (b := b) (by omega)) (kX0_4 hs) (eX0_4 hs) (by omega) dX6_weighWatched_44 rfl ?_
        have := onL_le hW (b := b) (by omega)
        refine at_laddV 46 X ((wtW B w pl (pl b) b) + ((onL B b : Nat) : Int)) (w64_v rfl (by omega) (by omega)) dX6_weighWatched_45 rfl ?_
        refine m_lastoreV 47 X (pl b) (by omega) k_67 e_67 (by omega) dX6_weighWatched_46 rfl ?_
        refine at_aload_n 48 X rfl rfl dX6_weighWatched_47 rfl ?_
        refine m_getR 51 X f_X6_25 k_62 r_62_4 dX6_weighWatched_48 rfl ?_
        refine at_aload_n 52 X rfl rfl dX6_weighWatched_51 rfl ?_
        refine at_iload_n 53 X rfl rfl dX6_weighWatched_52 rfl ?_
        refine at_aload_n 54 X rfl rfl dX6_weighWatched_53 rfl ?_
        refine m_getR 57 X f_X6_22 k_62 r_62_3 dX6_weighWatched_54 rfl ?_
        refine at_iload_n 58 X rfl rfl dX6_weighWatched_57 rfl ?_
        refine m_ialoadV 59 X b (by omega) ((pl b : Nat) : Int) ((wr_o (by omega)).trans (hpl_F b (by omega)).1) k_66 e_66 (by omega) dX6_weighWatched_58 rfl ?_
        have := (hpl_F b (by omega)).2
        refine at_callV 62 X _ 0 (ct_X0_rightEndN hG (wr F 67 (pl b) ((wtW B w pl (pl b) b) + ((onL B b : Nat) : Int))) B s W hs (hB_F.fr (fun q _ _ => wr_row (by omega))) hW hW40 b (by omega) (pl b) (by omega)) clX0 rfl (kX0 hs) mo_X0_rightEnd w_1444 vo_X0_rightEnd.1 vo_X0_rightEnd.2 rfl rfl (crm Rt (by decide)) (Nat.le_of_ble_eq_true rfl) dX6_weighWatched_59 rfl ?_
        rintro _ _ ⟨rfl, rfl⟩
        refine at_dup2 63 X (show ¬ (0 : Nat) = 1 by decide) (show ¬ (2 : Nat) = 1 by decide) dX6_weighWatched_62 rfl ?_
        refine m_laloadV 64 X (pl b + bL B b - 1) (by omega) (wtW B w pl (pl b + bL B b - 1) b) ((wr_o (by omega)).trans (hr (pl b + bL B b - 1) (by omega))) k_67 e_67 (by omega) dX6_weighWatched_63 rfl ?_
        have hb_0 := wtW_in (w := w) hW pl (pl b + bL B b - 1) (n := b) (by omega)
        refine at_aload_n 65 X rfl rfl dX6_weighWatched_64 rfl ?_
        refine m_getR 68 X f_X6_116 (kX0 hs) (rX0_5 hs) dX6_weighWatched_65 rfl ?_
        refine at_iload_n 69 X rfl rfl dX6_weighWatched_68 rfl ?_
        refine m_laloadV 70 X b (by omega) ((onR B b : Nat) : Int) ((wr_o (by omega)).trans (hB_F.r (b := b) (by omega))) (kX0_5 hs) (eX0_5 hs) (by omega) dX6_weighWatched_69 rfl ?_
        have := onR_le hW (b := b) (by omega)
        refine at_laddV 71 X ((wtW B w pl (pl b + bL B b - 1) b) + ((onR B b : Nat) : Int)) (w64_v rfl (by omega) (by omega)) dX6_weighWatched_70 rfl ?_
        refine m_lastoreV 72 X (pl b + bL B b - 1) (by omega) k_67 e_67 (by omega) dX6_weighWatched_71 rfl ?_
        refine at_iincV 75 X ((b + 1 : Nat) : Int) (w32_v (by omega) (by omega) (by omega)) rfl dX6_weighWatched_72 rfl (by decide) ?_
        refine at_goto 10 X dX6_weighWatched_75 (by decide) ?_
        exact at_sub _ (by exact ⟨rfl, rfl, rfl, rfl, trivial⟩) (ih10 (wr (wr F 67 (pl b) ((wtW B w pl (pl b) b) + ((onL B b : Nat) : Int))) 67 (pl b + bL B b - 1) ((wtW B w pl (pl b + bL B b - 1) b) + ((onR B b : Nat) : Int))) (b + 1) (by first | omega | (simp only [] at *; omega)) (by first | omega | assumption) (by first | exact (fun c hc => by rw [wtW_s, if_neg hb]; exact hr c hc) | exact (fun c hc => wtw_step hl2.1 hb (hr c hc))) (by first | exact hf | exact fun q hq => by simp (disch := omega) only [wr_row]; exact hf q hq))
  exact at_sub _ (by exact ⟨rfl, rfl, rfl, rfl, trivial⟩) (J10 _ (fil E 67 40 0) 0 (Nat.lt_succ_self _) (by first | omega | assumption | rfl) (fun c hc => fil_s hc) (fun q hq => fil_row hq))
theorem dX6_allows_0 : decode cX6_allows 0 = .ok (.lload_n 1, 1) := by decide +kernel
theorem dX6_allows_1 : decode cX6_allows 1 = .ok (.aload_n 0, 1) := by decide +kernel
theorem dX6_allows_2 : decode cX6_allows 2 = .ok (.getfield 86, 3) := by decide +kernel
theorem dX6_allows_5 : decode cX6_allows 5 = .ok (.land, 1) := by decide +kernel
theorem dX6_allows_6 : decode cX6_allows 6 = .ok (.aload_n 0, 1) := by decide +kernel
theorem dX6_allows_7 : decode cX6_allows 7 = .ok (.getfield 86, 3) := by decide +kernel
theorem dX6_allows_10 : decode cX6_allows 10 = .ok (.lcmp, 1) := by decide +kernel
theorem dX6_allows_11 : decode cX6_allows 11 = .ok (.ifCond .ne 18, 3) := by decide +kernel
theorem dX6_allows_14 : decode cX6_allows 14 = .ok (.lload_n 1, 1) := by decide +kernel
theorem dX6_allows_15 : decode cX6_allows 15 = .ok (.aload_n 0, 1) := by decide +kernel
theorem dX6_allows_16 : decode cX6_allows 16 = .ok (.getfield 89, 3) := by decide +kernel
theorem dX6_allows_19 : decode cX6_allows 19 = .ok (.land, 1) := by decide +kernel
theorem dX6_allows_20 : decode cX6_allows 20 = .ok (.lconst 0, 1) := by decide +kernel
theorem dX6_allows_21 : decode cX6_allows 21 = .ok (.lcmp, 1) := by decide +kernel
theorem dX6_allows_22 : decode cX6_allows 22 = .ok (.ifCond .ne 7, 3) := by decide +kernel
theorem dX6_allows_25 : decode cX6_allows 25 = .ok (.iconst 1, 1) := by decide +kernel
theorem dX6_allows_26 : decode cX6_allows 26 = .ok (.goto 4, 3) := by decide +kernel
theorem dX6_allows_29 : decode cX6_allows 29 = .ok (.iconst 0, 1) := by decide +kernel
theorem dX6_allows_30 : decode cX6_allows 30 = .ok (.ireturn, 1) := by decide +kernel
theorem ct_X6_allows {g : Gw} (hG : GF g) {z : Bool} (E : Mm) (m nl nd : Nat) (hm : m < 9223372036854775808) (h6 : E 62 6 = (nl : Int)) (h7 : E 62 7 = (nd : Int)) (hnl : nl < 1099511627776) (hnd : nd < 1099511627776) : CT g yX6_allows cX6_allows 3 (some .boolean) 0 0 0 0 K2 z [mR 62, mL ((m : Nat) : Int)] (ov E) K2 z (fun r D' => r = some (mI (if m &&& nl = nl ∧ m &&& nd = 0 then 1 else 0)) ∧ D' = ov E) := by
  refine CT.mk hG (by decide +kernel) (Nat.le_of_ble_eq_true rfl) (fun κ X Rt _ ok => ?_)
  refine at_lload_n 1 X rfl rfl dX6_allows_0 rfl ?_
  refine at_aload_n 2 X rfl rfl dX6_allows_1 rfl ?_
  refine m_getLV 5 X ((nl : Nat) : Int) h6 f_X6_86 k_62 rn_62_6 dX6_allows_2 rfl ?_
  refine at_landV 6 X ((m &&& nl : Nat) : Int) (land_nat (by omega) (by omega)) dX6_allows_5 rfl ?_
  refine at_aload_n 7 X rfl rfl dX6_allows_6 rfl ?_
  refine m_getLV 10 X ((nl : Nat) : Int) h6 f_X6_86 k_62 rn_62_6 dX6_allows_7 rfl ?_
  refine at_lif_ne 11 14 29 X dX6_allows_10 rfl dX6_allows_11 rfl (by decide) (fun h10 => ?_) (fun h10 => ?_)
  · refine at_iconst 30 X (by decide) dX6_allows_29 rfl ?_
    refine at_zret X Rt ?_ (by first | decide | (split <;> decide)) (Nat.le_refl _) (Nat.le_refl _) dX6_allows_30
    exact ⟨by first | (rw [if_pos ⟨by omega, by omega⟩]; done) | (rw [if_neg (by omega)]; done), rfl⟩
  · refine at_lload_n 15 X rfl rfl dX6_allows_14 rfl ?_
    refine at_aload_n 16 X rfl rfl dX6_allows_15 rfl ?_
    refine m_getLV 19 X ((nd : Nat) : Int) h7 f_X6_89 k_62 rn_62_7 dX6_allows_16 rfl ?_
    refine at_landV 20 X ((m &&& nd : Nat) : Int) (land_nat (by omega) (by omega)) dX6_allows_19 rfl ?_
    refine at_lconst 21 X (v := 0) (by decide) (by decide) dX6_allows_20 rfl ?_
    refine at_lif_ne 22 25 29 X dX6_allows_21 rfl dX6_allows_22 rfl (by decide) (fun h21 => ?_) (fun h21 => ?_)
    · refine at_iconst 30 X (by decide) dX6_allows_29 rfl ?_
      refine at_zret X Rt ?_ (by first | decide | (split <;> decide)) (Nat.le_refl _) (Nat.le_refl _) dX6_allows_30
      exact ⟨by first | (rw [if_pos ⟨by omega, by omega⟩]; done) | (rw [if_neg (by omega)]; done), rfl⟩
    · refine at_iconst 26 X (by decide) dX6_allows_25 rfl ?_
      refine at_goto 30 X dX6_allows_26 (by decide) ?_
      refine at_zret X Rt ?_ (by first | decide | (split <;> decide)) (Nat.le_refl _) (Nat.le_refl _) dX6_allows_30
      exact ⟨by first | (rw [if_pos ⟨by omega, by omega⟩]; done) | (rw [if_neg (by omega)]; done), rfl⟩
def dgN (pk : Nat → Nat) : Nat → Nat := itr (fun i d => d * 64 + pk i) 0
