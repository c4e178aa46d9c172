/-! a post taken away -/
/-- by the class: the last post comes into its place -/
def dropP (G : GP) (p : Nat) : GP := (gW G, gN G - 1, pt1 (gX G) p (gX G (gN G - 1)), pt1 (gH G) p (gH G (gN G - 1)), gT' G, gR G, gC G, gLm G, gLw G)
/-- by the reference: it is nowhere, without height -/
def hidP (G : GP) (p : Nat) : GP := (gW G, gN G, pt1 (gX G) p 100, pt1 (gH G) p 0, gT' G, gR G, gC G, gLm G, gLw G)
theorem lnot_bits {m n : Nat} (h1 : m < 9223372036854775808) (h2 : n < 9223372036854775808) : land (m : Int) (lxor (n : Int) (-1)) = ((mk (fun j => m.testBit j && !n.testBit j) 63 : Nat) : Int) := by
  have hx : lxor (n : Int) (-1) = (BitVec.ofInt 64 (n : Int) ^^^ BitVec.ofInt 64 (-1)).toInt := rfl
  have ha : land (m : Int) (lxor (n : Int) (-1)) = (BitVec.ofInt 64 (m : Int) &&& (BitVec.ofInt 64 (n : Int) ^^^ BitVec.ofInt 64 (-1))).toInt := by
    unfold land
    rw [hx]
    show (BitVec.ofInt 64 (m : Int) &&& BitVec.ofInt 64 (BitVec.ofInt 64 (n : Int) ^^^ BitVec.ofInt 64 (-1)).toInt).toInt = _
    rw [BitVec.ofInt_toInt]
  have e : (BitVec.ofInt 64 (m : Int) &&& (BitVec.ofInt 64 (n : Int) ^^^ BitVec.ofInt 64 (-1))).toNat = mk (fun j => m.testBit j && !n.testBit j) 63 := by
    refine mk_eq ?_ (fun j hj => ?_)
    · have hl : (BitVec.ofInt 64 (m : Int) &&& (BitVec.ofInt 64 (n : Int) ^^^ BitVec.ofInt 64 (-1))).toNat ≤ m := by
        rw [BitVec.toNat_and, BitVec.ofInt_natCast, BitVec.toNat_ofNat, n2_64, Nat.mod_eq_of_lt (by omega)]
        exact Nat.and_le_left
      rw [n2_63]
      omega
    · rw [BitVec.testBit_toNat, BitVec.getLsbD_and, BitVec.getLsbD_xor, BitVec.ofInt_natCast, BitVec.ofInt_natCast, BitVec.getLsbD_ofNat, BitVec.getLsbD_ofNat, show (BitVec.ofInt 64 (-1)) = BitVec.allOnes 64 from by decide, BitVec.getLsbD_allOnes]
      have h64 : j < 64 := by omega
      simp only [h64, decide_true, Bool.true_and, Bool.xor_true]
  rw [ha, bv_lt64 (by rw [e]; have := mk_lt (fun j => m.testBit j && !n.testBit j) 63; rw [n2_63] at this; exact this), e]
theorem mk_cut {p : Nat → Bool} {n m : Nat} (hn : n ≤ m) (h : ∀ j, n ≤ j → p j = false) : mk p m = mk p n := by
  refine mk_eq ?_ (fun j hj => mk_in (by omega))
  apply Nat.lt_of_not_le
  intro q
  obtain ⟨i, hi, hb⟩ := Nat.exists_ge_and_testBit_of_ge_two_pow q
  rw [mk_tb] at hb
  rw [h i hi, Bool.and_false] at hb
  cases hb
theorem isP_drop {G : GP} {p : Nat} (hp : p < gN G) (hd : ∀ q, q < gN G → gX G q = gX G p → q = p) (c : Nat) : isP (dropP G p) c = (isP G c && !decide (c = gX G p)) := by
  rw [Bool.eq_iff_iff, isP_iff, Bool.and_eq_true, isP_iff]
  simp only [Bool.not_eq_true', decide_eq_false_iff_not]
  constructor
  · rintro ⟨q, h1, h2⟩
    have h1' : q < gN G - 1 := h1
    have h2' : pt1 (gX G) p (gX G (gN G - 1)) q = c := h2
    by_cases k : q = p
    · rw [k, pt1_s] at h2'
      refine ⟨⟨gN G - 1, by omega, h2'⟩, fun e => ?_⟩
      have := hd (gN G - 1) (by omega) (h2'.trans e)
      omega
    · rw [pt1_o k] at h2'
      exact ⟨⟨q, by omega, h2'⟩, fun e => k (hd q (by omega) (h2'.trans e))⟩
  · rintro ⟨⟨q, h1, h2⟩, h3⟩
    have hqp : ¬ q = p := fun e => h3 (by rw [← h2, e])
    by_cases k : q = gN G - 1
    · refine ⟨p, show p < gN G - 1 by omega, ?_⟩
      show pt1 (gX G) p (gX G (gN G - 1)) p = c
      rw [pt1_s, ← k]; exact h2
    · refine ⟨q, show q < gN G - 1 by omega, ?_⟩
      show pt1 (gX G) p (gX G (gN G - 1)) q = c
      rw [pt1_o hqp]; exact h2
theorem dropP_WG {G : GP} {p : Nat} (h : WG G) (hp : p < gN G) : WG (dropP G p) := by
  have hN := h.N
  refine ⟨h.W, by show gN G - 1 ≤ 11; omega, fun q hq => ?_, fun t ht => h.T ht, h.Lw⟩
  have hq' : q < gN G - 1 := hq
  show pt1 (gX G) p (gX G (gN G - 1)) q < gW G ∧ pt1 (gH G) p (gH G (gN G - 1)) q ≤ 99
  by_cases k : q = p
  · rw [k, pt1_s, pt1_s]; exact ⟨h.X (by omega), h.H (by omega)⟩
  · rw [pt1_o k, pt1_o k]; exact ⟨h.X (by omega), h.H (by omega)⟩
theorem dropP_CG0 {E : Mm} {a p : Nat} {G : GP} (hg : CG0 E a G) (hp : p < gN G) (hd : ∀ q, q < gN G → gX G q = gX G p → q = p) : CG0 (wr (wr (wr (wr E a 12 ((mk (isP (dropP G p)) 40 : Nat) : Int)) a 10 ((gN G - 1 : Nat) : Int)) (a + 1) p ((gX G (gN G - 1) : Nat) : Int)) (a + 2) p ((gH G (gN G - 1) : Nat) : Int)) a (dropP G p) := by
  obtain ⟨q1, q2, q3, q4, q5, q6, q7⟩ := hg
  refine ⟨?_, ?_, ?_, ?_, ?_, fun q hq => ?_, fun t ht => ?_⟩
  · simp (disch := omega) only [wr_o]; exact q1
  · simp (disch := omega) only [wr_o]; exact q2
  · simp (disch := omega) only [wr_o, wr_s]; rfl
  · simp (disch := omega) only [wr_o, wr_s]
  · simp (disch := omega) only [wr_o]; exact q5
  · have hq' : q < gN G - 1 := hq
    show _ = ((pt1 (gX G) p (gX G (gN G - 1)) q : Nat) : Int) ∧ _ = ((pt1 (gH G) p (gH G (gN G - 1)) q : Nat) : Int)
    by_cases k : q = p
    · rw [k, pt1_s, pt1_s]; exact ⟨by simp (disch := omega) only [wr_o, wr_s], by simp (disch := omega) only [wr_o, wr_s]⟩
    · rw [pt1_o k, pt1_o k]
      have := q6 q (by omega)
      exact ⟨by simp (disch := omega) only [wr_o]; exact this.1, by simp (disch := omega) only [wr_o]; exact this.2⟩
  · simp (disch := omega) only [wr_row]; exact q7 t ht
theorem isP_out {G : GP} (hw : WG G) {j : Nat} (hj : 40 ≤ j) : isP G j = false := by
  rw [Bool.eq_false_iff]
  intro q
  obtain ⟨p, h1, h2⟩ := (isP_iff G j).mp q
  have := hw.X h1
  have := hw.W
  omega
theorem drop_bits {G : GP} {p : Nat} (hw : WG G) (hp : p < gN G) (hd : ∀ q, q < gN G → gX G q = gX G p → q = p) : land ((mk (isP G) 40 : Nat) : Int) (lxor ((2 ^ gX G p : Nat) : Int) (-1)) = ((mk (isP (dropP G p)) 40 : Nat) : Int) := by
  have h1 := mk40 (p := isP G) (Nat.le_refl 40)
  have h2 := hw.X hp
  have h3 := hw.W
  have h4 := p2_40 (x := gX G p) (by omega)
  rw [lnot_bits (by omega) (by omega)]
  have e : mk (fun j => (mk (isP G) 40).testBit j && !(2 ^ gX G p).testBit j) 63 = mk (isP (dropP G p)) 63 := by
    refine mk_congr (fun j _ => ?_)
    rw [mk_tb, Nat.testBit_two_pow, isP_drop hp hd j]
    by_cases c : j < 40
    · rw [decide_eq_true c, Bool.true_and]
      congr 2
      exact decide_eq_decide.mpr ⟨fun q => q.symm, fun q => q.symm⟩
    · rw [isP_out hw (by omega), Bool.and_false, Bool.false_and, Bool.false_and]
  rw [e, mk_cut (n := 40) (by decide) (fun j hj => by rw [isP_drop hp hd j, isP_out hw hj, Bool.false_and])]
theorem dX4_dropPost_0 : decode cX4_dropPost 0 = .ok (.iload_n 1, 1) := by decide +kernel
theorem dX4_dropPost_1 : decode cX4_dropPost 1 = .ok (.iconst 0, 1) := by decide +kernel
theorem dX4_dropPost_2 : decode cX4_dropPost 2 = .ok (.aload_n 0, 1) := by decide +kernel
theorem dX4_dropPost_3 : decode cX4_dropPost 3 = .ok (.getfield 53, 3) := by decide +kernel
theorem dX4_dropPost_6 : decode cX4_dropPost 6 = .ok (.iconst 1, 1) := by decide +kernel
theorem dX4_dropPost_7 : decode cX4_dropPost 7 = .ok (.isub, 1) := by decide +kernel
theorem dX4_dropPost_8 : decode cX4_dropPost 8 = .ok (.invokestatic 74, 3) := by decide +kernel
theorem dX4_dropPost_11 : decode cX4_dropPost 11 = .ok (.ifCond .ne 4, 3) := by decide +kernel
theorem dX4_dropPost_14 : decode cX4_dropPost 14 = .ok (.return_, 1) := by decide +kernel
theorem dX4_dropPost_15 : decode cX4_dropPost 15 = .ok (.aload_n 0, 1) := by decide +kernel
theorem dX4_dropPost_16 : decode cX4_dropPost 16 = .ok (.dup, 1) := by decide +kernel
theorem dX4_dropPost_17 : decode cX4_dropPost 17 = .ok (.getfield 56, 3) := by decide +kernel
theorem dX4_dropPost_20 : decode cX4_dropPost 20 = .ok (.lconst 1, 1) := by decide +kernel
theorem dX4_dropPost_21 : decode cX4_dropPost 21 = .ok (.aload_n 0, 1) := by decide +kernel
theorem dX4_dropPost_22 : decode cX4_dropPost 22 = .ok (.getfield 9, 3) := by decide +kernel
theorem dX4_dropPost_25 : decode cX4_dropPost 25 = .ok (.iload_n 1, 1) := by decide +kernel
theorem dX4_dropPost_26 : decode cX4_dropPost 26 = .ok (.iaload, 1) := by decide +kernel
theorem dX4_dropPost_27 : decode cX4_dropPost 27 = .ok (.lshl, 1) := by decide +kernel
theorem dX4_dropPost_28 : decode cX4_dropPost 28 = .ok (.ldc2_w 87, 3) := by decide +kernel
theorem dX4_dropPost_31 : decode cX4_dropPost 31 = .ok (.lxor, 1) := by decide +kernel
theorem dX4_dropPost_32 : decode cX4_dropPost 32 = .ok (.land, 1) := by decide +kernel
theorem dX4_dropPost_33 : decode cX4_dropPost 33 = .ok (.putfield 56, 3) := by decide +kernel
theorem dX4_dropPost_36 : decode cX4_dropPost 36 = .ok (.aload_n 0, 1) := by decide +kernel
theorem dX4_dropPost_37 : decode cX4_dropPost 37 = .ok (.dup, 1) := by decide +kernel
theorem dX4_dropPost_38 : decode cX4_dropPost 38 = .ok (.getfield 53, 3) := by decide +kernel
theorem dX4_dropPost_41 : decode cX4_dropPost 41 = .ok (.iconst 1, 1) := by decide +kernel
theorem dX4_dropPost_42 : decode cX4_dropPost 42 = .ok (.isub, 1) := by decide +kernel
theorem dX4_dropPost_43 : decode cX4_dropPost 43 = .ok (.putfield 53, 3) := by decide +kernel
theorem dX4_dropPost_46 : decode cX4_dropPost 46 = .ok (.aload_n 0, 1) := by decide +kernel
theorem dX4_dropPost_47 : decode cX4_dropPost 47 = .ok (.getfield 9, 3) := by decide +kernel
theorem dX4_dropPost_50 : decode cX4_dropPost 50 = .ok (.iload_n 1, 1) := by decide +kernel
theorem dX4_dropPost_51 : decode cX4_dropPost 51 = .ok (.aload_n 0, 1) := by decide +kernel
theorem dX4_dropPost_52 : decode cX4_dropPost 52 = .ok (.getfield 9, 3) := by decide +kernel
theorem dX4_dropPost_55 : decode cX4_dropPost 55 = .ok (.aload_n 0, 1) := by decide +kernel
theorem dX4_dropPost_56 : decode cX4_dropPost 56 = .ok (.getfield 53, 3) := by decide +kernel
theorem dX4_dropPost_59 : decode cX4_dropPost 59 = .ok (.iaload, 1) := by decide +kernel
theorem dX4_dropPost_60 : decode cX4_dropPost 60 = .ok (.iastore, 1) := by decide +kernel
theorem dX4_dropPost_61 : decode cX4_dropPost 61 = .ok (.aload_n 0, 1) := by decide +kernel
theorem dX4_dropPost_62 : decode cX4_dropPost 62 = .ok (.getfield 15, 3) := by decide +kernel
theorem dX4_dropPost_65 : decode cX4_dropPost 65 = .ok (.iload_n 1, 1) := by decide +kernel
theorem dX4_dropPost_66 : decode cX4_dropPost 66 = .ok (.aload_n 0, 1) := by decide +kernel
theorem dX4_dropPost_67 : decode cX4_dropPost 67 = .ok (.getfield 15, 3) := by decide +kernel
theorem dX4_dropPost_70 : decode cX4_dropPost 70 = .ok (.aload_n 0, 1) := by decide +kernel
theorem dX4_dropPost_71 : decode cX4_dropPost 71 = .ok (.getfield 53, 3) := by decide +kernel
theorem dX4_dropPost_74 : decode cX4_dropPost 74 = .ok (.iaload, 1) := by decide +kernel
theorem dX4_dropPost_75 : decode cX4_dropPost 75 = .ok (.iastore, 1) := by decide +kernel
theorem dX4_dropPost_76 : decode cX4_dropPost 76 = .ok (.return_, 1) := by decide +kernel
theorem ct_X4_dropPost {g : Gw} (hG : GF g) {z : Bool} (E : Mm) (a : Nat) (ha : a = 30 ∨ a = 39) (G : GP) (hw : WG G) (hg_E : CG0 E a G) (p : Nat) (hp : p < gN G) (hd : ∀ q, q < gN G → gX G q = gX G p → q = p) : CT g yX4_dropPost cX4_dropPost 2 none 1 22 0 0 K2 z [mR a, mI ((p : Nat) : Int)] (ov E) K2 z (fun r D' => r = none ∧ D' = ov (wr (wr (wr (wr E a 12 ((mk (isP (dropP G p)) 40 : Nat) : Int)) a 10 ((gN G - 1 : Nat) : Int)) (a + 1) p ((gX G (gN G - 1) : Nat) : Int)) (a + 2) p ((gH G (gN G - 1) : Nat) : Int))) := by
  refine CT.mk hG (by decide +kernel) (Nat.le_of_ble_eq_true rfl) (fun κ X Rt _ ok => ?_)
  refine at_iload_n 1 X rfl rfl dX4_dropPost_0 rfl ?_
  refine at_iconst 2 X (by decide) dX4_dropPost_1 rfl ?_
  refine at_aload_n 3 X rfl rfl dX4_dropPost_2 rfl ?_
  refine m_getIV 6 X ((gN G : Nat) : Int) hg_E.N f_X4_53 (kX4 ha) (nX4_10 ha) dX4_dropPost_3 rfl ?_
  have := hw.N
  refine at_iconst 7 X (by decide) dX4_dropPost_6 rfl ?_
  refine at_isubV 8 X ((gN G - 1 : Nat) : Int) (w32_v (by omega) (by omega) (by omega)) dX4_dropPost_7 rfl ?_
  refine at_callSN 11 X (ct_X11_isWithin hG _ _ _) mo_X11_isWithin w_689 so_X11_isWithin rfl rfl (crm Rt (by decide)) (Nat.le_of_ble_eq_true rfl) dX4_dropPost_8 rfl ?_
  rintro _ _ ⟨rfl, rfl⟩
  refine at_if_ne 14 15 X dX4_dropPost_11 rfl (by decide) (fun h11 => ?_) (fun h11 => ?_)
  · have h11 : (0 ≤ ((p : Nat) : Int) ∧ ((p : Nat) : Int) ≤ ((gN G - 1 : Nat) : Int)) := ite_yes.mp h11
    refine at_aload_n 16 X rfl rfl dX4_dropPost_15 rfl ?_
    refine at_dup 17 X (show ¬ (2 : Nat) = 1 by decide) dX4_dropPost_16 rfl ?_
    refine m_getLV 20 X ((mk (isP G) 40 : Nat) : Int) hg_E.P f_X4_56 (kX4 ha) (nX4_12 ha) dX4_dropPost_17 rfl ?_
    have := mk40 (p := isP G) (Nat.le_refl 40)
    have hW40 := hw.W
    refine at_lconst 21 X (v := 1) (by decide) (by decide) dX4_dropPost_20 rfl ?_
    refine at_aload_n 22 X rfl rfl dX4_dropPost_21 rfl ?_
    refine m_getR 25 X f_X4_9 (kX4 ha) (rX4_0 ha) dX4_dropPost_22 rfl ?_
    refine at_iload_n 26 X rfl rfl dX4_dropPost_25 rfl ?_
    refine m_ialoadV 27 X p (by omega) ((gX G p : Nat) : Int) (hg_E.X (p := p) (by omega)) (kX4_0 ha) (eX4_0 ha) (by omega) dX4_dropPost_26 rfl ?_
    have hxx := hw.X (p := p) (by omega)
    refine at_lshlV 28 X ((2 ^ gX G p : Nat) : Int) (lshl1 (by omega)) dX4_dropPost_27 rfl ?_
    refine at_ldc2 31 X (n := -1) w_1528 (by decide) (by decide) dX4_dropPost_28 rfl ?_
    refine at_lxorV 32 X (lxor ((2 ^ gX G p : Nat) : Int) (-1)) rfl dX4_dropPost_31 rfl ?_
    have hp40 := p2_40 (x := gX G p) (by have := hw.W; omega)
    have hbits := drop_bits hw hp hd
    refine at_landV 33 X ((mk (isP (dropP G p)) 40 : Nat) : Int) hbits dX4_dropPost_32 rfl ?_
    refine m_putL 36 X f_X4_56 fw_4_12 (kX4 ha) (nX4_12 ha) dX4_dropPost_33 rfl ?_
    refine at_aload_n 37 X rfl rfl dX4_dropPost_36 rfl ?_
    refine at_dup 38 X (show ¬ (2 : Nat) = 1 by decide) dX4_dropPost_37 rfl ?_
    refine m_getIV 41 X ((gN G : Nat) : Int) ((wr_o (by omega)).trans hg_E.N) f_X4_53 (kX4 ha) (nX4_10 ha) dX4_dropPost_38 rfl ?_
    have := hw.N
    refine at_iconst 42 X (by decide) dX4_dropPost_41 rfl ?_
    refine at_isubV 43 X ((gN G - 1 : Nat) : Int) (w32_v (by omega) (by omega) (by omega)) dX4_dropPost_42 rfl ?_
    refine m_putI 46 X f_X4_53 fw_4_10 (kX4 ha) (nX4_10 ha) dX4_dropPost_43 rfl ?_
    refine at_aload_n 47 X rfl rfl dX4_dropPost_46 rfl ?_
    refine m_getR 50 X f_X4_9 (kX4 ha) (rX4_0 ha) dX4_dropPost_47 rfl ?_
    refine at_iload_n 51 X rfl rfl dX4_dropPost_50 rfl ?_
    refine at_aload_n 52 X rfl rfl dX4_dropPost_51 rfl ?_
    refine m_getR 55 X f_X4_9 (kX4 ha) (rX4_0 ha) dX4_dropPost_52 rfl ?_
    refine at_aload_n 56 X rfl rfl dX4_dropPost_55 rfl ?_
    refine m_getIV 59 X ((gN G - 1 : Nat) : Int) (wr_s _ _ _ _) f_X4_53 (kX4 ha) (nX4_10 ha) dX4_dropPost_56 rfl ?_
    refine m_ialoadV 60 X (gN G - 1) (by omega) ((gX G (gN G - 1) : Nat) : Int) ((wr_o (by omega)).trans ((wr_o (by omega)).trans (hg_E.X (p := gN G - 1) (by omega)))) (kX4_0 ha) (eX4_0 ha) (by omega) dX4_dropPost_59 rfl ?_
    have hxx := hw.X (p := gN G - 1) (by omega)
    refine m_iastoreV 61 X p (by omega) (kX4_0 ha) (eX4_0 ha) (by omega) dX4_dropPost_60 rfl ?_
    refine at_aload_n 62 X rfl rfl dX4_dropPost_61 rfl ?_
    refine m_getR 65 X f_X4_15 (kX4 ha) (rX4_1 ha) dX4_dropPost_62 rfl ?_
    refine at_iload_n 66 X rfl rfl dX4_dropPost_65 rfl ?_
    refine at_aload_n 67 X rfl rfl dX4_dropPost_66 rfl ?_
    refine m_getR 70 X f_X4_15 (kX4 ha) (rX4_1 ha) dX4_dropPost_67 rfl ?_
    refine at_aload_n 71 X rfl rfl dX4_dropPost_70 rfl ?_
    refine m_getIV 74 X ((gN G - 1 : Nat) : Int) ((wr_o (by omega)).trans (wr_s _ _ _ _)) f_X4_53 (kX4 ha) (nX4_10 ha) dX4_dropPost_71 rfl ?_
    refine m_ialoadV 75 X (gN G - 1) (by omega) ((gH G (gN G - 1) : Nat) : Int) ((wr_o (by omega)).trans ((wr_o (by omega)).trans ((wr_o (by omega)).trans (hg_E.H (p := gN G - 1) (by omega))))) (kX4_1 ha) (eX4_1 ha) (by omega) dX4_dropPost_74 rfl ?_
    have hxx := hw.H (p := gN G - 1) (by omega)
    refine m_iastoreV 76 X p (by omega) (kX4_1 ha) (eX4_1 ha) (by omega) dX4_dropPost_75 rfl ?_
    refine at_vret X Rt ?_ (Nat.le_refl _) (Nat.le_refl _) dX4_dropPost_76
    exact ⟨rfl, rfl⟩
  · have h11 : ¬ (0 ≤ ((p : Nat) : Int) ∧ ((p : Nat) : Int) ≤ ((gN G - 1 : Nat) : Int)) := ite_no.mp h11
    exfalso; omega
theorem dX11_worth_0 : decode cX11_worth 0 = .ok (.aload_n 0, 1) := by decide +kernel
theorem dX11_worth_1 : decode cX11_worth 1 = .ok (.iload_n 1, 1) := by decide +kernel
theorem dX11_worth_2 : decode cX11_worth 2 = .ok (.invokevirtual 196, 3) := by decide +kernel
theorem dX11_worth_5 : decode cX11_worth 5 = .ok (.aload_n 0, 1) := by decide +kernel
theorem dX11_worth_6 : decode cX11_worth 6 = .ok (.invokevirtual 227, 3) := by decide +kernel
theorem dX11_worth_9 : decode cX11_worth 9 = .ok (.aload_n 0, 1) := by decide +kernel
theorem dX11_worth_10 : decode cX11_worth 10 = .ok (.getfield 63, 3) := by decide +kernel
theorem dX11_worth_13 : decode cX11_worth 13 = .ok (.aload_n 0, 1) := by decide +kernel
theorem dX11_worth_14 : decode cX11_worth 14 = .ok (.getfield 93, 3) := by decide +kernel
theorem dX11_worth_17 : decode cX11_worth 17 = .ok (.aload_n 0, 1) := by decide +kernel
theorem dX11_worth_18 : decode cX11_worth 18 = .ok (.getfield 23, 3) := by decide +kernel
theorem dX11_worth_21 : decode cX11_worth 21 = .ok (.aload_n 0, 1) := by decide +kernel
theorem dX11_worth_22 : decode cX11_worth 22 = .ok (.getfield 93, 3) := by decide +kernel
theorem dX11_worth_25 : decode cX11_worth 25 = .ok (.aload_n 0, 1) := by decide +kernel
theorem dX11_worth_26 : decode cX11_worth 26 = .ok (.getfield 171, 3) := by decide +kernel
theorem dX11_worth_29 : decode cX11_worth 29 = .ok (.invokevirtual 359, 3) := by decide +kernel
theorem dX11_worth_32 : decode cX11_worth 32 = .ok (.invokevirtual 362, 3) := by decide +kernel
theorem dX11_worth_35 : decode cX11_worth 35 = .ok (.aload_n 0, 1) := by decide +kernel
theorem dX11_worth_36 : decode cX11_worth 36 = .ok (.getfield 63, 3) := by decide +kernel
theorem dX11_worth_39 : decode cX11_worth 39 = .ok (.iload_n 1, 1) := by decide +kernel
theorem dX11_worth_40 : decode cX11_worth 40 = .ok (.invokevirtual 366, 3) := by decide +kernel
theorem dX11_worth_43 : decode cX11_worth 43 = .ok (.aload_n 0, 1) := by decide +kernel
theorem dX11_worth_44 : decode cX11_worth 44 = .ok (.getfield 63, 3) := by decide +kernel
theorem dX11_worth_47 : decode cX11_worth 47 = .ok (.aload_n 0, 1) := by decide +kernel
theorem dX11_worth_48 : decode cX11_worth 48 = .ok (.getfield 93, 3) := by decide +kernel
theorem dX11_worth_51 : decode cX11_worth 51 = .ok (.getfield 369, 3) := by decide +kernel
theorem dX11_worth_54 : decode cX11_worth 54 = .ok (.invokevirtual 372, 3) := by decide +kernel
theorem dX11_worth_57 : decode cX11_worth 57 = .ok (.aload_n 0, 1) := by decide +kernel
theorem dX11_worth_58 : decode cX11_worth 58 = .ok (.getfield 73, 3) := by decide +kernel
theorem dX11_worth_61 : decode cX11_worth 61 = .ok (.aload_n 0, 1) := by decide +kernel
theorem dX11_worth_62 : decode cX11_worth 62 = .ok (.getfield 63, 3) := by decide +kernel
theorem dX11_worth_65 : decode cX11_worth 65 = .ok (.aload_n 0, 1) := by decide +kernel
theorem dX11_worth_66 : decode cX11_worth 66 = .ok (.getfield 93, 3) := by decide +kernel
theorem dX11_worth_69 : decode cX11_worth 69 = .ok (.getfield 135, 3) := by decide +kernel
theorem dX11_worth_72 : decode cX11_worth 72 = .ok (.aload_n 0, 1) := by decide +kernel
theorem dX11_worth_73 : decode cX11_worth 73 = .ok (.getfield 33, 3) := by decide +kernel
theorem dX11_worth_76 : decode cX11_worth 76 = .ok (.iconst 0, 1) := by decide +kernel
theorem dX11_worth_77 : decode cX11_worth 77 = .ok (.invokevirtual 350, 3) := by decide +kernel
theorem dX11_worth_80 : decode cX11_worth 80 = .ok (.aload_n 0, 1) := by decide +kernel
theorem dX11_worth_81 : decode cX11_worth 81 = .ok (.getfield 73, 3) := by decide +kernel
theorem dX11_worth_84 : decode cX11_worth 84 = .ok (.getfield 287, 3) := by decide +kernel
theorem dX11_worth_87 : decode cX11_worth 87 = .ok (.aload_n 0, 1) := by decide +kernel
theorem dX11_worth_88 : decode cX11_worth 88 = .ok (.getfield 69, 3) := by decide +kernel
theorem dX11_worth_91 : decode cX11_worth 91 = .ok (.getfield 287, 3) := by decide +kernel
theorem dX11_worth_94 : decode cX11_worth 94 = .ok (.isub, 1) := by decide +kernel
theorem dX11_worth_95 : decode cX11_worth 95 = .ok (.ireturn, 1) := by decide +kernel
theorem ct_X11_worth {g : Gw} (hG : GF g) {z : Bool} (E : Mm) (s : Nat) (P : SP) (L : LW) (T K : LN) (d : Nat) (hI_E : CXI E s P L T K d) (x0 : Int) : CTX g yX11_worth cX11_worth 2 (some .int) 7 146 1 6 K2 z [mR 0, mI x0] (ov E) K2 z (fun r' D' => (0 ≤ x0 ∧ x0 ≤ (sN P : Int) - 1) ∧ r' = some (mI (((dN (dyP (dropP (gNow P L d) x0.toNat) (sB P) T 24) : Nat) : Int) - ((dN (dyP (gNow P L d) (sB P) T 24) : Nat) : Int))) ∧ ∃ E1, D' = ov E1 ∧ CXI E1 s P L T K d ∧ CXF E E1) (fun X D' => (¬ (0 ≤ x0 ∧ x0 ≤ (sN P : Int) - 1) ∧ X = "java/util/NoSuchElementException" ∧ D' = ov (bumpE E 1))) := by
  refine CTX.mk hG (by decide +kernel) (Nat.le_of_ble_eq_true rfl) (fun κ X Rt Rx ok => ?_)
  have hs := hI_E.sa
  have hP := hI_E.WS
  have hW40 := hP.W
  have hN10 := hP.N
  have hN8 := hP.B.N
  have hX_E : CXF E E := CXF.rf
  have hwG := gNow_WG hI_E
  have hgw : gW (gNow P L d) = sW P := rfl
  have hgn : gN (gNow P L d) = sN P := rfl
  refine at_aload_n 1 X rfl rfl dX11_worth_0 rfl ?_
  refine at_iload_n 2 X rfl rfl dX11_worth_1 rfl ?_
  refine at_callVX 5 X Rt Rx _ 11 (ct_X11_needPostP hG E s P L T K d hI_E x0) clX11 rfl k_0 mo_X11_needPost w_1207 vo_X11_needPost.1 vo_X11_needPost.2 rfl rfl (by decide) (Nat.le_of_ble_eq_true rfl) dX11_worth_2 rfl (fun _ _ h => ⟨h.1, h.2.1, h.2.2⟩) ?_
  rintro _ _ ⟨hc0, rfl, rfl⟩
  refine at_aload_n 6 X rfl rfl dX11_worth_5 rfl ?_
  obtain ⟨p, rfl⟩ : ∃ p : Nat, x0 = (p : Int) := ⟨x0.toNat, by omega⟩
  refine at_callV 9 X _ 11 (ct_X11_refresh hG E s P L T K d hI_E) clX11 rfl k_0 mo_X11_refresh w_665 vo_X11_refresh.1 vo_X11_refresh.2 rfl rfl (crm Rt (by decide)) (Nat.le_of_ble_eq_true rfl) dX11_worth_6 rfl ?_
  rintro _ _ ⟨rfl, F1, rfl, hI_F1, hF_F1, hXn_F1⟩
  have hX_F1 := hX_E.tr hXn_F1
  refine at_aload_n 10 X rfl rfl dX11_worth_9 rfl ?_
  refine m_getR 13 X f_X11_63 k_0 r_0_10 dX11_worth_10 rfl ?_
  refine at_aload_n 14 X rfl rfl dX11_worth_13 rfl ?_
  refine m_getM 17 X (s) f_X11_93 k_0 rn_0_15 hI_F1.now dX11_worth_14 rfl ?_
  refine at_aload_n 18 X rfl rfl dX11_worth_17 rfl ?_
  refine m_getR 21 X f_X11_23 k_0 r_0_2 dX11_worth_18 rfl ?_
  refine at_aload_n 22 X rfl rfl dX11_worth_21 rfl ?_
  refine m_getM 25 X (s) f_X11_93 k_0 rn_0_15 hI_F1.now dX11_worth_22 rfl ?_
  refine at_aload_n 26 X rfl rfl dX11_worth_25 rfl ?_
  refine m_getIV 29 X ((d : Nat) : Int) hI_F1.dy f_X11_171 k_0 rn_0_17 dX11_worth_26 rfl ?_
  have := hI_F1.dl
  refine at_callV 32 X _ 9 (ct_X9_moonOf hG F1 P s hs hI_F1.S hP d hI_F1.dl) clX9 rfl (kX9 hs) mo_X9_moonOf w_669 vo_X9_moonOf.1 vo_X9_moonOf.2 rfl rfl (crm Rt (by decide)) (Nat.le_of_ble_eq_true rfl) dX11_worth_29 rfl ?_
  rintro _ _ ⟨rfl, rfl⟩
  have hmo := moonP_in P d
  refine at_callV 35 X _ 4 (ct_X4_takeStreet hG F1 39 (Or.inr rfl) P s hs hI_F1.S hP L (moonP P d) hmo) clX4 rfl k_39 mo_X4_takeStreet w_673 vo_X4_takeStreet.1 vo_X4_takeStreet.2 rfl rfl (crm Rt (by decide)) (Nat.le_of_ble_eq_true rfl) dX11_worth_32 rfl ?_
  rintro _ _ ⟨rfl, F2, rfl, hg0_F2, hkd_F2, hq_F2⟩
  have hnow_F2 : F2 0 15 = (s : Int) := by rw [hq_F2 0 (by decide)]; exact hI_F1.now
  have hdd : ∀ q, q < gN (gNow P L d) → gX (gNow P L d) q = gX (gNow P L d) p → q = p := fun q h1 h2 => hI_E.DX q p h1 (by omega) h2
  refine at_aload_n 36 X rfl rfl dX11_worth_35 rfl ?_
  refine m_getR 39 X f_X11_63 k_0 r_0_10 dX11_worth_36 rfl ?_
  refine at_iload_n 40 X rfl rfl dX11_worth_39 rfl ?_
  refine at_callV 43 X _ 4 (ct_X4_dropPost hG F2 39 (Or.inr rfl) (gNow P L d) hwG hg0_F2 p (show p < sN P by omega) hdd) clX4 rfl k_39 mo_X4_dropPost w_1524 vo_X4_dropPost.1 vo_X4_dropPost.2 rfl rfl (crm Rt (by decide)) (Nat.le_of_ble_eq_true rfl) dX11_worth_40 rfl ?_
  rintro _ _ ⟨rfl, rfl⟩
  have hg0_F3 := dropP_CG0 (G := gNow P L d) hg0_F2 (show p < gN (gNow P L d) from (show p < sN P by omega)) hdd
  have hq_F3 : ∀ q, ¬ (39 ≤ q ∧ q ≤ 47) → (wr (wr (wr (wr F2 39 12 ((mk (isP (dropP (gNow P L d) p)) 40 : Nat) : Int)) 39 10 ((gN (gNow P L d) - 1 : Nat) : Int)) (39 + 1) p ((gX (gNow P L d) (gN (gNow P L d) - 1) : Nat) : Int)) (39 + 2) p ((gH (gNow P L d) (gN (gNow P L d) - 1) : Nat) : Int)) q = F1 q := fun q hq => by rw [wr_row (by omega), wr_row (by omega), wr_row (by omega), wr_row (by omega)]; exact hq_F2 q hq
  generalize wr (wr (wr (wr F2 39 12 ((mk (isP (dropP (gNow P L d) p)) 40 : Nat) : Int)) 39 10 ((gN (gNow P L d) - 1 : Nat) : Int)) (39 + 1) p ((gX (gNow P L d) (gN (gNow P L d) - 1) : Nat) : Int)) (39 + 2) p ((gH (gNow P L d) (gN (gNow P L d) - 1) : Nat) : Int) = F3 at hg0_F3 hq_F3 ⊢
  have hI_F3 := (hI_F1.tried (fun q h1 h2 h3 => hq_F3 q h1)).1
  have hC_F3 : F3 s 15 = (mk (sC P) 24 : Nat) := by rw [hq_F3 s (by omega)]; exact hI_F1.S.C
  have hwD := dropP_WG hwG (show p < gN (gNow P L d) from (show p < sN P by omega))
  refine at_aload_n 44 X rfl rfl dX11_worth_43 rfl ?_
  refine m_getR 47 X f_X11_63 k_0 r_0_10 dX11_worth_44 rfl ?_
  refine at_aload_n 48 X rfl rfl dX11_worth_47 rfl ?_
  refine m_getM 51 X (s) f_X11_93 k_0 rn_0_15 hI_F3.now dX11_worth_48 rfl ?_
  refine m_getIV 54 X ((mk (sC P) 24 : Nat) : Int) hC_F3 f_X11_369 (kX9 hs) (nX9_15 hs) dX11_worth_51 rfl ?_
  have := mk24 (p := sC P) (Nat.le_refl 24)
  refine at_callV 57 X _ 4 (ct_X4_settle hG F3 39 (Or.inr rfl) (dropP (gNow P L d) p) hwD hg0_F3 (sC P)) clX4 rfl k_39 mo_X4_settle w_692 vo_X4_settle.1 vo_X4_settle.2 rfl rfl (crm Rt (by decide)) (Nat.le_of_ble_eq_true rfl) dX11_worth_54 rfl ?_
  rintro _ _ ⟨rfl, F4, rfl, hg_F4, hqs_F4⟩
  have hqq_F4 : ∀ q, ¬ (39 ≤ q ∧ q ≤ 47) → F4 q = F1 q := fun q hq => (hqs_F4 q (by omega) (by omega) (by omega) (by omega)).trans (hq_F3 q hq)
  have hI_F4 := (hI_F1.tried (fun q h1 h2 h3 => hqq_F4 q h1)).1
  have hl_F4 : CL F4 4 L := hI_F1.Lw.fr (fun q h1 h2 => hqq_F4 q (by omega))
  have hB_F4 : CB F4 (s + 8) (sB P) := hI_F1.B.fr (fun q h1 h2 => hqq_F4 q (by omega))
  have hN_F4 : CN F4 12 T := hI_F1.Tn.fr (fun q h1 h2 => hqq_F4 q (by omega))
  refine at_aload_n 58 X rfl rfl dX11_worth_57 rfl ?_
  refine m_getR 61 X f_X11_73 k_0 r_0_12 dX11_worth_58 rfl ?_
  refine at_aload_n 62 X rfl rfl dX11_worth_61 rfl ?_
  refine m_getR 65 X f_X11_63 k_0 r_0_10 dX11_worth_62 rfl ?_
  refine at_aload_n 66 X rfl rfl dX11_worth_65 rfl ?_
  refine m_getM 69 X (s) f_X11_93 k_0 rn_0_15 hI_F4.now dX11_worth_66 rfl ?_
  refine m_getR 72 X f_X11_135 (kX9 hs) (rX9_7 hs) dX11_worth_69 rfl ?_
  refine at_aload_n 73 X rfl rfl dX11_worth_72 rfl ?_
  refine m_getR 76 X f_X11_33 k_0 r_0_4 dX11_worth_73 rfl ?_
  refine at_iconst 77 X (by decide) dX11_worth_76 rfl ?_
  refine at_callV 80 X _ 3 (ct_X3_go hG F4 54 (Or.inr rfl) 39 (Or.inr rfl) (dropP (gNow P L d) p) hwD hg_F4 hl_F4 (sB P) (s + 8) (iB_8 hs) hB_F4 hP.B T hN_F4 hI_E.WT 0 (by decide)) clX3 rfl k_54 mo_X3_go w_715 vo_X3_go.1 vo_X3_go.2 rfl rfl (crm Rt (by decide)) (Nat.le_of_ble_eq_true rfl) dX11_worth_77 rfl ?_
  rintro _ _ ⟨rfl, F5, n, rfl, hn, hn2, hdn, hg_F5, hq_F5⟩
  have hn24 : n = 24 := by
    rcases hn2 with h | h
    · exact h
    · exact absurd (Nat.and_zero _) h
  subst hn24
  have hq5 : ∀ q, ¬ (39 ≤ q ∧ q ≤ 47) → ¬ (54 ≤ q ∧ q ≤ 67) → q ≠ 7 → q ≠ 0 → F5 q = F1 q := fun q h1 h2 h3 _ => (hq_F5 q (by omega) (by omega) (by omega) (by omega) (by omega) (by omega) (by omega) (by omega)).trans (hqq_F4 q (by omega))
  have hq5' : ∀ q, ¬ (39 ≤ q ∧ q ≤ 47) → ¬ (54 ≤ q ∧ q ≤ 67) → q ≠ 7 → F5 q = F1 q := fun q h1 h2 h3 => (hq_F5 q (by omega) (by omega) (by omega) (by omega) (by omega) (by omega) (by omega) (by omega)).trans (hqq_F4 q (by omega))
  have hK := hI_F1.tried hq5'
  have hI_F5 := hK.1
  have hX_F5 := hX_F1.tr hK.2.2
  have hDc := dyP_DI (G := (dropP (gNow P L d) p)) hP.B hI_E.WT (Nat.le_refl 24)
  have hDn := dyP_DI (G := gNow P L d) hP.B hI_E.WT (Nat.le_refl 24)
  have hd1 := hDc.2.1
  have hd2 := hDn.2.1
  have hd3 := cntp_le (fun b => decide (dP (dyP (dropP (gNow P L d) p) (sB P) T 24) b = -1)) (bN (sB P))
  have hd4 := cntp_le (fun b => decide (dP (dyP (gNow P L d) (sB P) T 24) b = -1)) (bN (sB P))
  refine at_aload_n 81 X rfl rfl dX11_worth_80 rfl ?_
  refine m_getR 84 X f_X11_73 k_0 r_0_12 dX11_worth_81 rfl ?_
  refine m_getIV 87 X ((dN (dyP (dropP (gNow P L d) p) (sB P) T 24) : Nat) : Int) hdn.1.2.2.2.1 f_X11_287 k_54 rn_54_5 dX11_worth_84 rfl ?_
  refine at_aload_n 88 X rfl rfl dX11_worth_87 rfl ?_
  refine m_getR 91 X f_X11_69 k_0 r_0_11 dX11_worth_88 rfl ?_
  refine m_getIV 94 X ((dN (dyP (gNow P L d) (sB P) T 24) : Nat) : Int) ((congrFun (hq5 48 (by omega) (by omega) (by omega) (by omega)) 5).trans hF_F1.2.2.1.2.2.2.1) f_X11_287 k_48 rn_48_5 dX11_worth_91 rfl ?_
  refine at_isubV 95 X (((dN (dyP (dropP (gNow P L d) p) (sB P) T 24) : Nat) : Int) - ((dN (dyP (gNow P L d) (sB P) T 24) : Nat) : Int)) (w32_v rfl (by omega) (by omega)) dX11_worth_94 rfl ?_
  refine at_iret X Rt ?_ (by decide) (by decide) dX11_worth_95
  exact ⟨hc0, (by rfl), _, rfl, hI_F5, hX_F5⟩
