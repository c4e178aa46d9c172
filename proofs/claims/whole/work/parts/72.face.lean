theorem cntp_z {p : Nat → Bool} {n : Nat} : ∀ {k : Nat}, (∀ j, n ≤ j → p j = false) → cntp p (n + k) = cntp p n
  | 0, _ => rfl
  | k + 1, h => by
    rw [show n + (k + 1) = (n + k) + 1 by omega, cntp_s, cntp_z h, h (n + k) (by omega)]
    simp
theorem cntp_mk {p : Nat → Bool} {n m : Nat} (h : n ≤ m) : cntp (fun j => (mk p n).testBit j) m = cntp p n := by
  rw [show m = n + (m - n) by omega, cntp_z (fun j hj => mk_out hj)]
  exact cntp_congr (fun j hj => mk_in hj)
theorem mk_or (p q : Nat → Bool) (n : Nat) : mk p n ||| mk q n = mk (fun j => p j || q j) n := mk_eq (Nat.or_lt_two_pow (mk_lt p n) (mk_lt q n)) (fun j hj => by rw [Nat.testBit_or, mk_in hj, mk_in hj])
/-- the first of which q holds -/
def fstP (q : Nat → Bool) : Nat → Int := itr (fun i v => if v = -1 ∧ q i = true then (i : Int) else v) (-1)
theorem fst_s (q : Nat → Bool) (n : Nat) : fstP q (n + 1) = if fstP q n = -1 ∧ q n = true then (n : Int) else fstP q n := rfl
theorem fst_none {q : Nat → Bool} : ∀ {n : Nat}, (∀ i, i < n → ¬ q i = true) → fstP q n = -1
  | 0, _ => rfl
  | n + 1, h => by rw [fst_s, fst_none (fun i hi => h i (by omega)), if_neg (fun c => h n (by omega) c.2)]
theorem fst_at {q : Nat → Bool} {i : Nat} (h : ∀ j, j < i → ¬ q j = true) (hi : q i = true) : ∀ {n : Nat}, i < n → fstP q n = i
  | 0, hn => by omega
  | n + 1, hn => by
    rw [fst_s]
    by_cases c : i = n
    · subst c; rw [if_pos ⟨fst_none h, hi⟩]
    · rw [fst_at h hi (n := n) (by omega), if_neg (by omega)]
theorem fst_in (q : Nat → Bool) : ∀ n : Nat, -1 ≤ fstP q n ∧ fstP q n < n
  | 0 => ⟨Int.le_refl _, show (-1 : Int) < 0 by decide⟩
  | n + 1 => by
    have := fst_in q n
    rw [fst_s]
    split <;> omega
/-- how many left ends -/
def pcN (G : GP) (B : BM) (b h : Nat) : Nat := cntp (fun x => stP G B b x h) (gW G + 1 - bL B b)
/-- the hour with most left ends, so far, and how many -/
def bsP (G : GP) (B : BM) (b : Nat) : Nat → Int × Int := itr (fun h q => if q.2 < (pcN G B b h : Int) then ((h : Int), (pcN G B b h : Int)) else q) (0, -1)
theorem bsP_s (G : GP) (B : BM) (b h : Nat) : bsP G B b (h + 1) = if (bsP G B b h).2 < (pcN G B b h : Int) then ((h : Int), (pcN G B b h : Int)) else bsP G B b h := rfl
/-- whether a cell bears anything in n hours from f on -/
def brC (G : GP) (f c : Nat) : Nat → Bool := itr (fun i b => b || decide (0 < bOn G (f + i) c)) false
/-- where one may be: n hours behind h -/
def wkP (G : GP) (r h c : Nat) : Nat → Nat
  | 0 => 2 ^ c &&& bcl G h
  | n + 1 => sprP (wkP G r h c n) r &&& bcl G (h + n + 1)
theorem bcl_lt {G : GP} (hW : gW G ≤ 40) (h : Nat) : bcl G h < 1099511627776 := mk40 hW
theorem wkP_lt {G : GP} (hW : gW G ≤ 40) (r h c : Nat) : ∀ n, wkP G r h c n < 1099511627776
  | 0 => Nat.lt_of_le_of_lt Nat.and_le_right (bcl_lt hW h)
  | n + 1 => Nat.lt_of_le_of_lt Nat.and_le_right (bcl_lt hW _)
theorem spr_0 (r : Nat) : sprP 0 r = 0 := Nat.eq_of_testBit_eq (fun j => by
  rw [Nat.zero_testBit]
  refine Bool.eq_false_iff.mpr (fun q => ?_)
  obtain ⟨i, hi, -⟩ := (spr_tb j).mp q
  rw [Nat.zero_testBit] at hi
  cases hi)
theorem wkP_0 {G : GP} {r h c i : Nat} (h0 : wkP G r h c i = 0) : ∀ k, wkP G r h c (i + k) = 0
  | 0 => h0
  | k + 1 => by
    show sprP (wkP G r h c (i + k)) r &&& _ = 0
    rw [wkP_0 h0 k, spr_0, Nat.zero_and]
def wkA (G : GP) (r h c to : Nat) : Int := if fstP (fun n => (wkP G r h c n).testBit to) (24 - h) = -1 then -1 else (h : Int) + fstP (fun n => (wkP G r h c n).testBit to) (24 - h)
theorem dX11_best_0 : decode cX11_best 0 = .ok (.aload_n 0, 1) := by decide +kernel
theorem dX11_best_1 : decode cX11_best 1 = .ok (.iload_n 1, 1) := by decide +kernel
theorem dX11_best_2 : decode cX11_best 2 = .ok (.invokevirtual 208, 3) := by decide +kernel
theorem dX11_best_5 : decode cX11_best 5 = .ok (.aload_n 0, 1) := by decide +kernel
theorem dX11_best_6 : decode cX11_best 6 = .ok (.invokevirtual 227, 3) := by decide +kernel
theorem dX11_best_9 : decode cX11_best 9 = .ok (.iconst 0, 1) := by decide +kernel
theorem dX11_best_10 : decode cX11_best 10 = .ok (.istore_n 2, 1) := by decide +kernel
theorem dX11_best_11 : decode cX11_best 11 = .ok (.iconst (-1), 1) := by decide +kernel
theorem dX11_best_12 : decode cX11_best 12 = .ok (.istore_n 3, 1) := by decide +kernel
theorem dX11_best_13 : decode cX11_best 13 = .ok (.iconst 0, 1) := by decide +kernel
theorem dX11_best_14 : decode cX11_best 14 = .ok (.istore 4, 2) := by decide +kernel
theorem dX11_best_16 : decode cX11_best 16 = .ok (.iload 4, 2) := by decide +kernel
theorem dX11_best_18 : decode cX11_best 18 = .ok (.bipush 24, 2) := by decide +kernel
theorem dX11_best_20 : decode cX11_best 20 = .ok (.if_icmp .ge 43, 3) := by decide +kernel
theorem dX11_best_23 : decode cX11_best 23 = .ok (.aload_n 0, 1) := by decide +kernel
theorem dX11_best_24 : decode cX11_best 24 = .ok (.getfield 59, 3) := by decide +kernel
theorem dX11_best_27 : decode cX11_best 27 = .ok (.aload_n 0, 1) := by decide +kernel
theorem dX11_best_28 : decode cX11_best 28 = .ok (.getfield 93, 3) := by decide +kernel
theorem dX11_best_31 : decode cX11_best 31 = .ok (.getfield 135, 3) := by decide +kernel
theorem dX11_best_34 : decode cX11_best 34 = .ok (.iload_n 1, 1) := by decide +kernel
theorem dX11_best_35 : decode cX11_best 35 = .ok (.iload 4, 2) := by decide +kernel
theorem dX11_best_37 : decode cX11_best 37 = .ok (.invokevirtual 427, 3) := by decide +kernel
theorem dX11_best_40 : decode cX11_best 40 = .ok (.invokestatic 430, 3) := by decide +kernel
theorem dX11_best_43 : decode cX11_best 43 = .ok (.istore 5, 2) := by decide +kernel
theorem dX11_best_45 : decode cX11_best 45 = .ok (.iload 5, 2) := by decide +kernel
theorem dX11_best_47 : decode cX11_best 47 = .ok (.iload_n 3, 1) := by decide +kernel
theorem dX11_best_48 : decode cX11_best 48 = .ok (.if_icmp .le 9, 3) := by decide +kernel
theorem dX11_best_51 : decode cX11_best 51 = .ok (.iload 5, 2) := by decide +kernel
theorem dX11_best_53 : decode cX11_best 53 = .ok (.istore_n 3, 1) := by decide +kernel
theorem dX11_best_54 : decode cX11_best 54 = .ok (.iload 4, 2) := by decide +kernel
theorem dX11_best_56 : decode cX11_best 56 = .ok (.istore_n 2, 1) := by decide +kernel
theorem dX11_best_57 : decode cX11_best 57 = .ok (.iinc 4 1, 3) := by decide +kernel
theorem dX11_best_60 : decode cX11_best 60 = .ok (.goto (-44), 3) := by decide +kernel
theorem dX11_best_63 : decode cX11_best 63 = .ok (.iload_n 2, 1) := by decide +kernel
theorem dX11_best_64 : decode cX11_best 64 = .ok (.ireturn, 1) := by decide +kernel
theorem ct_X11_best {g : Gw} (hG : GF g) {z : Bool} (E : Mm) (s : Nat) (P : SP) (L : LW) (T K : LN) (d : Nat) (hI_E : CXI E s P L T K d) (x0 : Int) : CTX g yX11_best cX11_best 6 (some .int) 7 146 1 6 K2 z [mR 0, mI x0] (ov E) K2 z (fun r' D' => (0 ≤ x0 ∧ x0 ≤ (bN (sB P) : Int) - 1) ∧ r' = some (mI ((bsP (gNow P L d) (sB P) x0.toNat 24).1)) ∧ ∃ E1, D' = ov E1 ∧ CXI E1 s P L T K d ∧ CXF E E1) (fun X D' => (¬ (0 ≤ x0 ∧ x0 ≤ (bN (sB P) : Int) - 1) ∧ X = "java/util/NoSuchElementException" ∧ D' = ov (bumpE E 1))) := by
  refine CTX.mk hG (by decide +kernel) (Nat.le_of_ble_eq_true rfl) (fun κ X Rt Rx ok => ?_)
  have hs := hI_E.sa
  have hP := hI_E.WS
  have hW40 := hP.W
  have hN10 := hP.N
  have hN8 := hP.B.N
  have hX_E : CXF E E := CXF.rf
  have hwG := gNow_WG hI_E
  have hgw : gW (gNow P L d) = sW P := rfl
  have hgn : gN (gNow P L d) = sN P := rfl
  refine at_aload_n 1 X rfl rfl dX11_best_0 rfl ?_
  refine at_iload_n 2 X rfl rfl dX11_best_1 rfl ?_
  refine at_callVX 5 X Rt Rx _ 11 (ct_X11_needBeamP hG E s P L T K d hI_E x0) clX11 rfl k_0 mo_X11_needBeam w_1239 vo_X11_needBeam.1 vo_X11_needBeam.2 rfl rfl (by decide) (Nat.le_of_ble_eq_true rfl) dX11_best_2 rfl (fun _ _ h => ⟨h.1, h.2.1, h.2.2⟩) ?_
  rintro _ _ ⟨hc0, rfl, rfl⟩
  obtain ⟨b, rfl⟩ : ∃ b : Nat, x0 = (b : Int) := ⟨x0.toNat, by omega⟩
  refine at_aload_n 6 X rfl rfl dX11_best_5 rfl ?_
  refine at_callV 9 X _ 11 (ct_X11_refresh hG E s P L T K d hI_E) clX11 rfl k_0 mo_X11_refresh w_665 vo_X11_refresh.1 vo_X11_refresh.2 rfl rfl (crm Rt (by decide)) (Nat.le_of_ble_eq_true rfl) dX11_best_6 rfl ?_
  rintro _ _ ⟨rfl, F1, rfl, hI_F1, hF_F1, hXn_F1⟩
  have hX_F1 := hX_E.tr hXn_F1
  refine at_iconst 10 X (by decide) dX11_best_9 rfl ?_
  refine at_istore_n 11 X rfl dX11_best_10 rfl (by decide) ?_
  refine at_iconst 12 X (by decide) dX11_best_11 rfl ?_
  refine at_istore_n 13 X rfl dX11_best_12 rfl (by decide) ?_
  refine at_iconst 14 X (by decide) dX11_best_13 rfl ?_
  refine at_istore 16 X dX11_best_14 rfl (by decide) ?_
  have J16 : ∀ (f16 : Nat) (F : Mm) (h : Nat) (v : Int) (m : Int), 24 - h < f16 → (h ≤ 24) → (v = (bsP (gNow P L d) (sB P) b h).1) → (m = (bsP (gNow P L d) (sB P) b h).2) → (CXI F s P L T K d) → (FRS F P L T d) → (CXF E F) → AT g κ K2 z 1 6 16 [(0, mR 0), (1, mI ((b : Nat) : Int)), (2, mI v), (3, mI m), (4, mI ((h : Nat) : Int))] [] (ov F) := by
    intro f16
    induction f16 with
    | zero => intro F h v m hf16; omega
    | succ f16 ih16 =>
    intro F h v m hf16 hh hv hm hI_F hF_F hX_F
    refine at_iload 18 X rfl dX11_best_16 rfl ?_
    refine at_bipush 20 X (by decide) (by decide) dX11_best_18 rfl ?_
    refine at_icmp_ge 23 63 X dX11_best_20 rfl (by decide) (fun h20 => ?_) (fun h20 => ?_)
    · refine at_iload_n 64 X rfl rfl dX11_best_63 rfl ?_
      refine at_iret X Rt ?_ (by decide) (by decide) dX11_best_64
      exact ⟨hc0, (by (try simp only [Int.toNat_natCast]); rw [hv, show h = 24 by omega]), _, rfl, hI_F, hX_F⟩
    · refine at_aload_n 24 X rfl rfl dX11_best_23 rfl ?_
      refine m_getR 27 X f_X11_59 k_0 r_0_9 dX11_best_24 rfl ?_
      refine at_aload_n 28 X rfl rfl dX11_best_27 rfl ?_
      refine m_getM 31 X (s) f_X11_93 k_0 rn_0_15 hI_F.now dX11_best_28 rfl ?_
      refine m_getR 34 X f_X11_135 (kX9 hs) (rX9_7 hs) dX11_best_31 rfl ?_
      refine at_iload_n 35 X rfl rfl dX11_best_34 rfl ?_
      refine at_iload 37 X rfl dX11_best_35 rfl ?_
      refine at_callV 40 X _ 4 (ct_X4_placesFor hG F 30 (Or.inl rfl) (gNow P L d) hwG hF_F.1 hI_F.Lw (sB P) (s + 8) (iB_8 hs) hI_F.B hP.B b h (by omega) (by omega)) clX4 rfl k_30 mo_X4_placesFor w_1608 vo_X4_placesFor.1 vo_X4_placesFor.2 rfl rfl (crm Rt (by decide)) (Nat.le_of_ble_eq_true rfl) dX11_best_37 rfl ?_
      rintro _ _ ⟨rfl, F2, rfl, hg_F2, hq_F2⟩
      have hK3 := hI_F.known hF_F hg_F2 hq_F2
      have hI_F2 := hK3.1
      have hF_F2 := hK3.2.1
      have hX_F2 : CXF E F2 := hX_F.tr hK3.2.2
      have hlb := hP.B.L (b := b) (by omega)
      have : plcP (gNow P L d) (sB P) b h < 1099511627776 := mk40 (by omega)
      refine at_callS 43 X (ct_J13_bitCount_95d88 hG F2 (plcP (gNow P L d) (sB P) b h) (by omega)) mo_J13_bitCount_95d88 w_1613 so_J13_bitCount_95d88 rfl rfl (crm Rt (by decide)) (Nat.le_of_ble_eq_true rfl) dX11_best_40 rfl ?_
      rintro _ _ ⟨rfl, rfl⟩
      have := cntp_le (fun j => (plcP (gNow P L d) (sB P) b h).testBit j) 40
      have hpc : cntp (fun j => (plcP (gNow P L d) (sB P) b h).testBit j) 40 = pcN (gNow P L d) (sB P) b h := cntp_mk (by have : gW (gNow P L d) = sW P := rfl; have := hP.B.L (b := b) (by omega); omega)
      refine at_istore 45 X dX11_best_43 rfl (by decide) ?_
      refine at_iload 47 X rfl dX11_best_45 rfl ?_
      refine at_iload_n 48 X rfl rfl dX11_best_47 rfl ?_
      refine at_icmp_le 51 57 X dX11_best_48 rfl (by decide) (fun h48 => ?_) (fun h48 => ?_)
      · refine at_iincV 60 X ((h + 1 : Nat) : Int) (w32_v (by omega) (by omega) (by omega)) rfl dX11_best_57 rfl (by decide) ?_
        refine at_goto 16 X dX11_best_60 (by decide) ?_
        exact at_sub _ (by exact ⟨rfl, rfl, rfl, rfl, rfl, trivial⟩) (ih16 F2 (h + 1) v m (by first | omega | (simp only [] at *; omega)) (by first | omega | assumption) (by rw [bsP_s, ← hm, ← hpc]; first | (rw [if_pos (by omega)]; done) | (rw [if_neg (by omega)]; assumption)) (by rw [bsP_s, ← hm, ← hpc]; first | (rw [if_pos (by omega)]; done) | (rw [if_neg (by omega)]; assumption)) hI_F2 hF_F2 hX_F2)
      · refine at_iload 53 X rfl dX11_best_51 rfl ?_
        refine at_istore_n 54 X rfl dX11_best_53 rfl (by decide) ?_
        refine at_iload 56 X rfl dX11_best_54 rfl ?_
        refine at_istore_n 57 X rfl dX11_best_56 rfl (by decide) ?_
        refine at_iincV 60 X ((h + 1 : Nat) : Int) (w32_v (by omega) (by omega) (by omega)) rfl dX11_best_57 rfl (by decide) ?_
        refine at_goto 16 X dX11_best_60 (by decide) ?_
        exact at_sub _ (by exact ⟨rfl, rfl, rfl, rfl, rfl, trivial⟩) (ih16 F2 (h + 1) ((h : Nat) : Int) ((cntp (fun j => (plcP (gNow P L d) (sB P) b h).testBit j) 40 : Nat) : Int) (by first | omega | (simp only [] at *; omega)) (by first | omega | assumption) (by rw [bsP_s, ← hm, ← hpc]; first | (rw [if_pos (by omega)]; done) | (rw [if_neg (by omega)]; assumption)) (by rw [bsP_s, ← hm, ← hpc]; first | (rw [if_pos (by omega)]; done) | (rw [if_neg (by omega)]; assumption)) hI_F2 hF_F2 hX_F2)
  exact at_sub _ (by exact ⟨rfl, rfl, rfl, rfl, rfl, trivial⟩) (J16 _ F1 0 0 (-1) (Nat.lt_succ_self _) (by first | omega | assumption | rfl) rfl rfl hI_F1 hF_F1 hX_F1)
theorem dX11_bare_0 : decode cX11_bare 0 = .ok (.aload_n 0, 1) := by decide +kernel
theorem dX11_bare_1 : decode cX11_bare 1 = .ok (.iload_n 1, 1) := by decide +kernel
theorem dX11_bare_2 : decode cX11_bare 2 = .ok (.iload_n 2, 1) := by decide +kernel
theorem dX11_bare_3 : decode cX11_bare 3 = .ok (.invokevirtual 296, 3) := by decide +kernel
theorem dX11_bare_6 : decode cX11_bare 6 = .ok (.aload_n 0, 1) := by decide +kernel
theorem dX11_bare_7 : decode cX11_bare 7 = .ok (.invokevirtual 227, 3) := by decide +kernel
theorem dX11_bare_10 : decode cX11_bare 10 = .ok (.lconst 0, 1) := by decide +kernel
theorem dX11_bare_11 : decode cX11_bare 11 = .ok (.lstore_n 3, 1) := by decide +kernel
theorem dX11_bare_12 : decode cX11_bare 12 = .ok (.iload_n 1, 1) := by decide +kernel
theorem dX11_bare_13 : decode cX11_bare 13 = .ok (.istore 5, 2) := by decide +kernel
theorem dX11_bare_15 : decode cX11_bare 15 = .ok (.iload 5, 2) := by decide +kernel
theorem dX11_bare_17 : decode cX11_bare 17 = .ok (.iload_n 2, 1) := by decide +kernel
theorem dX11_bare_18 : decode cX11_bare 18 = .ok (.if_icmp .gt 21, 3) := by decide +kernel
theorem dX11_bare_21 : decode cX11_bare 21 = .ok (.lload_n 3, 1) := by decide +kernel
theorem dX11_bare_22 : decode cX11_bare 22 = .ok (.aload_n 0, 1) := by decide +kernel
theorem dX11_bare_23 : decode cX11_bare 23 = .ok (.getfield 59, 3) := by decide +kernel
theorem dX11_bare_26 : decode cX11_bare 26 = .ok (.iload 5, 2) := by decide +kernel
theorem dX11_bare_28 : decode cX11_bare 28 = .ok (.invokevirtual 375, 3) := by decide +kernel
theorem dX11_bare_31 : decode cX11_bare 31 = .ok (.lor, 1) := by decide +kernel
theorem dX11_bare_32 : decode cX11_bare 32 = .ok (.lstore_n 3, 1) := by decide +kernel
theorem dX11_bare_33 : decode cX11_bare 33 = .ok (.iinc 5 1, 3) := by decide +kernel
theorem dX11_bare_36 : decode cX11_bare 36 = .ok (.goto (-21), 3) := by decide +kernel
theorem dX11_bare_39 : decode cX11_bare 39 = .ok (.aload_n 0, 1) := by decide +kernel
theorem dX11_bare_40 : decode cX11_bare 40 = .ok (.getfield 93, 3) := by decide +kernel
theorem dX11_bare_43 : decode cX11_bare 43 = .ok (.getfield 181, 3) := by decide +kernel
theorem dX11_bare_46 : decode cX11_bare 46 = .ok (.lload_n 3, 1) := by decide +kernel
theorem dX11_bare_47 : decode cX11_bare 47 = .ok (.invokestatic 430, 3) := by decide +kernel
theorem dX11_bare_50 : decode cX11_bare 50 = .ok (.isub, 1) := by decide +kernel
theorem dX11_bare_51 : decode cX11_bare 51 = .ok (.ireturn, 1) := by decide +kernel
theorem ct_X11_bare {g : Gw} (hG : GF g) {z : Bool} (E : Mm) (s : Nat) (P : SP) (L : LW) (T K : LN) (d : Nat) (hI_E : CXI E s P L T K d) (x0 x1 : Int) : CTX g yX11_bare cX11_bare 6 (some .int) 8 146 1 6 K2 z [mR 0, mI x0, mI x1] (ov E) K2 z (fun r' D' => (0 ≤ x0 ∧ x0 ≤ x1 ∧ x1 < 24) ∧ r' = some (mI ((sW P : Int) - (cntp (fun c => brC (gNow P L d) x0.toNat c (x1.toNat + 1 - x0.toNat)) (sW P) : Nat))) ∧ ∃ E1, D' = ov E1 ∧ CXI E1 s P L T K d ∧ CXF E E1) (fun X D' => (¬ (0 ≤ x0 ∧ x0 ≤ x1 ∧ x1 < 24) ∧ X = "java/lang/IllegalArgumentException" ∧ D' = ov (bumpE E 2))) := by
  refine CTX.mk hG (by decide +kernel) (Nat.le_of_ble_eq_true rfl) (fun κ X Rt Rx ok => ?_)
  have hs := hI_E.sa
  have hP := hI_E.WS
  have hW40 := hP.W
  have hN10 := hP.N
  have hN8 := hP.B.N
  have hX_E : CXF E E := CXF.rf
  have hwG := gNow_WG hI_E
  have hgw : gW (gNow P L d) = sW P := rfl
  have hgn : gN (gNow P L d) = sN P := rfl
  refine at_aload_n 1 X rfl rfl dX11_bare_0 rfl ?_
  refine at_iload_n 2 X rfl rfl dX11_bare_1 rfl ?_
  refine at_iload_n 3 X rfl rfl dX11_bare_2 rfl ?_
  refine at_callVX 6 X Rt Rx _ 11 (ct_X11_needHours hG E x0 x1) clX11 rfl k_0 mo_X11_needHours w_1377 vo_X11_needHours.1 vo_X11_needHours.2 rfl rfl (by decide) (Nat.le_of_ble_eq_true rfl) dX11_bare_3 rfl (fun _ _ h => ⟨h.1, h.2.1, h.2.2⟩) ?_
  rintro _ _ ⟨hc0, rfl, rfl⟩
  obtain ⟨f, rfl⟩ : ∃ f : Nat, x0 = (f : Int) := ⟨x0.toNat, by omega⟩
  obtain ⟨t, rfl⟩ : ∃ t : Nat, x1 = (t : Int) := ⟨x1.toNat, by omega⟩
  refine at_aload_n 7 X rfl rfl dX11_bare_6 rfl ?_
  refine at_callV 10 X _ 11 (ct_X11_refresh hG E s P L T K d hI_E) clX11 rfl k_0 mo_X11_refresh w_665 vo_X11_refresh.1 vo_X11_refresh.2 rfl rfl (crm Rt (by decide)) (Nat.le_of_ble_eq_true rfl) dX11_bare_7 rfl ?_
  rintro _ _ ⟨rfl, F1, rfl, hI_F1, hF_F1, hXn_F1⟩
  have hX_F1 := hX_E.tr hXn_F1
  refine at_lconst 11 X (v := 0) (by decide) (by decide) dX11_bare_10 rfl ?_
  refine at_lstore_n 12 X rfl dX11_bare_11 rfl (by decide) ?_
  refine at_iload_n 13 X rfl rfl dX11_bare_12 rfl ?_
  refine at_istore 15 X dX11_bare_13 rfl (by decide) ?_
  have J15 : ∀ (f15 : Nat) (F : Mm) (h : Nat) (v : Nat), 25 - h < f15 → (f ≤ h ∧ h ≤ t + 1) → (v = mk (fun c => brC (gNow P L d) f c (h - f)) (sW P)) → (v < 1099511627776) → (CXI F s P L T K d) → (FRS F P L T d) → (CXF E F) → AT g κ K2 z 1 6 15 [(0, mR 0), (2, mI ((t : Nat) : Int)), (3, mL ((v : Nat) : Int)), (5, mI ((h : Nat) : Int))] [] (ov F) := by
    intro f15
    induction f15 with
    | zero => intro F h v hf15; omega
    | succ f15 ih15 =>
    intro F h v hf15 hh hv hvl hI_F hF_F hX_F
    refine at_iload 17 X rfl dX11_bare_15 rfl ?_
    refine at_iload_n 18 X rfl rfl dX11_bare_17 rfl ?_
    refine at_icmp_gt 21 39 X dX11_bare_18 rfl (by decide) (fun h18 => ?_) (fun h18 => ?_)
    · refine at_aload_n 40 X rfl rfl dX11_bare_39 rfl ?_
      refine m_getM 43 X (s) f_X11_93 k_0 rn_0_15 hI_F.now dX11_bare_40 rfl ?_
      refine m_getIV 46 X ((sW P : Nat) : Int) hI_F.S.W f_X11_181 (kX9 hs) (nX9_8 hs) dX11_bare_43 rfl ?_
      have := hP.W
      refine at_lload_n 47 X rfl rfl dX11_bare_46 rfl ?_
      refine at_callS 50 X (ct_J13_bitCount_95d88 hG F v (by omega)) mo_J13_bitCount_95d88 w_1613 so_J13_bitCount_95d88 rfl rfl (crm Rt (by decide)) (Nat.le_of_ble_eq_true rfl) dX11_bare_47 rfl ?_
      rintro _ _ ⟨rfl, rfl⟩
      have := cntp_le (fun j => (v).testBit j) 40
      refine at_isubV 51 X (((sW P : Nat) : Int) - ((cntp (fun j => (v).testBit j) 40 : Nat) : Int)) (w32_v rfl (by omega) (by omega)) dX11_bare_50 rfl ?_
      refine at_iret X Rt ?_ (by decide) (by decide) dX11_bare_51
      exact ⟨hc0, (by (try simp only [Int.toNat_natCast]); rw [hv, cntp_mk hW40.2, show h = t + 1 by omega]), _, rfl, hI_F, hX_F⟩
    · refine at_lload_n 22 X rfl rfl dX11_bare_21 rfl ?_
      refine at_aload_n 23 X rfl rfl dX11_bare_22 rfl ?_
      refine m_getR 26 X f_X11_59 k_0 r_0_9 dX11_bare_23 rfl ?_
      refine at_iload 28 X rfl dX11_bare_26 rfl ?_
      refine at_callV 31 X _ 4 (ct_X4_bearingCells hG F 30 (Or.inl rfl) (gNow P L d) hwG hF_F.1 hI_F.Lw h (by omega)) clX4 rfl k_30 mo_X4_bearingCells w_1536 vo_X4_bearingCells.1 vo_X4_bearingCells.2 rfl rfl (crm Rt (by decide)) (Nat.le_of_ble_eq_true rfl) dX11_bare_28 rfl ?_
      rintro _ _ ⟨rfl, F2, rfl, hg_F2, hq_F2⟩
      have hK3 := hI_F.known hF_F hg_F2 hq_F2
      have hI_F2 := hK3.1
      have hF_F2 := hK3.2.1
      have hX_F2 : CXF E F2 := hX_F.tr hK3.2.2
      have : bcl (gNow P L d) h < 1099511627776 := mk40 hwG.W
      refine at_lorV 32 X ((v ||| bcl (gNow P L d) h : Nat) : Int) (lor_nat (by omega) (by omega)) dX11_bare_31 rfl ?_
      refine at_lstore_n 33 X rfl dX11_bare_32 rfl (by decide) ?_
      refine at_iincV 36 X ((h + 1 : Nat) : Int) (w32_v (by omega) (by omega) (by omega)) rfl dX11_bare_33 rfl (by decide) ?_
      refine at_goto 15 X dX11_bare_36 (by decide) ?_
      exact at_sub _ (by exact ⟨rfl, rfl, rfl, rfl, trivial⟩) (ih15 F2 (h + 1) (v ||| bcl (gNow P L d) h) (by first | omega | (simp only [] at *; omega)) (by omega) (by rw [hv]; show mk _ (sW P) ||| mk (fun c => decide (0 < bOn (gNow P L d) h c)) (sW P) = _; rw [mk_or, show h + 1 - f = (h - f) + 1 by omega]; exact mk_congr (fun j _ => by show _ = (brC (gNow P L d) f j (h - f) || decide (0 < bOn (gNow P L d) (f + (h - f)) j)); rw [show f + (h - f) = h by omega])) (or40 hvl (by omega)) hI_F2 hF_F2 hX_F2)
  exact at_sub _ (by exact ⟨rfl, rfl, rfl, rfl, trivial⟩) (J15 _ F1 f 0 (Nat.lt_succ_self _) (by first | omega | assumption | rfl) (by rw [Nat.sub_self]; exact (mk_none (fun j _ => rfl)).symm) (by decide) hI_F1 hF_F1 hX_F1)
theorem dX11_walk_0 : decode cX11_walk 0 = .ok (.aload_n 0, 1) := by decide +kernel
theorem dX11_walk_1 : decode cX11_walk 1 = .ok (.iload_n 1, 1) := by decide +kernel
theorem dX11_walk_2 : decode cX11_walk 2 = .ok (.invokevirtual 243, 3) := by decide +kernel
theorem dX11_walk_5 : decode cX11_walk 5 = .ok (.aload_n 0, 1) := by decide +kernel
theorem dX11_walk_6 : decode cX11_walk 6 = .ok (.iload_n 2, 1) := by decide +kernel
theorem dX11_walk_7 : decode cX11_walk 7 = .ok (.invokevirtual 243, 3) := by decide +kernel
theorem dX11_walk_10 : decode cX11_walk 10 = .ok (.aload_n 0, 1) := by decide +kernel
theorem dX11_walk_11 : decode cX11_walk 11 = .ok (.iload_n 3, 1) := by decide +kernel
theorem dX11_walk_12 : decode cX11_walk 12 = .ok (.invokevirtual 224, 3) := by decide +kernel
theorem dX11_walk_15 : decode cX11_walk 15 = .ok (.aload_n 0, 1) := by decide +kernel
theorem dX11_walk_16 : decode cX11_walk 16 = .ok (.iload 4, 2) := by decide +kernel
theorem dX11_walk_18 : decode cX11_walk 18 = .ok (.iconst 1, 1) := by decide +kernel
theorem dX11_walk_19 : decode cX11_walk 19 = .ok (.bipush 9, 2) := by decide +kernel
theorem dX11_walk_21 : decode cX11_walk 21 = .ok (.invokestatic 253, 3) := by decide +kernel
theorem dX11_walk_24 : decode cX11_walk 24 = .ok (.invokevirtual 164, 3) := by decide +kernel
theorem dX11_walk_27 : decode cX11_walk 27 = .ok (.aload_n 0, 1) := by decide +kernel
theorem dX11_walk_28 : decode cX11_walk 28 = .ok (.invokevirtual 227, 3) := by decide +kernel
theorem dX11_walk_31 : decode cX11_walk 31 = .ok (.lconst 1, 1) := by decide +kernel
theorem dX11_walk_32 : decode cX11_walk 32 = .ok (.iload_n 1, 1) := by decide +kernel
theorem dX11_walk_33 : decode cX11_walk 33 = .ok (.lshl, 1) := by decide +kernel
theorem dX11_walk_34 : decode cX11_walk 34 = .ok (.aload_n 0, 1) := by decide +kernel
theorem dX11_walk_35 : decode cX11_walk 35 = .ok (.getfield 59, 3) := by decide +kernel
theorem dX11_walk_38 : decode cX11_walk 38 = .ok (.iload_n 3, 1) := by decide +kernel
theorem dX11_walk_39 : decode cX11_walk 39 = .ok (.invokevirtual 375, 3) := by decide +kernel
theorem dX11_walk_42 : decode cX11_walk 42 = .ok (.land, 1) := by decide +kernel
theorem dX11_walk_43 : decode cX11_walk 43 = .ok (.lstore 5, 2) := by decide +kernel
theorem dX11_walk_45 : decode cX11_walk 45 = .ok (.iload_n 3, 1) := by decide +kernel
theorem dX11_walk_46 : decode cX11_walk 46 = .ok (.istore 7, 2) := by decide +kernel
theorem dX11_walk_48 : decode cX11_walk 48 = .ok (.iload 7, 2) := by decide +kernel
theorem dX11_walk_50 : decode cX11_walk 50 = .ok (.bipush 24, 2) := by decide +kernel
theorem dX11_walk_52 : decode cX11_walk 52 = .ok (.if_icmp .ge 64, 3) := by decide +kernel
theorem dX11_walk_55 : decode cX11_walk 55 = .ok (.lload 5, 2) := by decide +kernel
theorem dX11_walk_57 : decode cX11_walk 57 = .ok (.lconst 0, 1) := by decide +kernel
theorem dX11_walk_58 : decode cX11_walk 58 = .ok (.lcmp, 1) := by decide +kernel
theorem dX11_walk_59 : decode cX11_walk 59 = .ok (.ifCond .eq 57, 3) := by decide +kernel
theorem dX11_walk_62 : decode cX11_walk 62 = .ok (.lload 5, 2) := by decide +kernel
theorem dX11_walk_64 : decode cX11_walk 64 = .ok (.iload_n 2, 1) := by decide +kernel
theorem dX11_walk_65 : decode cX11_walk 65 = .ok (.lshr, 1) := by decide +kernel
theorem dX11_walk_66 : decode cX11_walk 66 = .ok (.lconst 1, 1) := by decide +kernel
theorem dX11_walk_67 : decode cX11_walk 67 = .ok (.land, 1) := by decide +kernel
theorem dX11_walk_68 : decode cX11_walk 68 = .ok (.lconst 1, 1) := by decide +kernel
theorem dX11_walk_69 : decode cX11_walk 69 = .ok (.lcmp, 1) := by decide +kernel
theorem dX11_walk_70 : decode cX11_walk 70 = .ok (.ifCond .ne 6, 3) := by decide +kernel
theorem dX11_walk_73 : decode cX11_walk 73 = .ok (.iload 7, 2) := by decide +kernel
theorem dX11_walk_75 : decode cX11_walk 75 = .ok (.ireturn, 1) := by decide +kernel
theorem dX11_walk_76 : decode cX11_walk 76 = .ok (.iload 7, 2) := by decide +kernel
theorem dX11_walk_78 : decode cX11_walk 78 = .ok (.iconst 1, 1) := by decide +kernel
theorem dX11_walk_79 : decode cX11_walk 79 = .ok (.iadd, 1) := by decide +kernel
theorem dX11_walk_80 : decode cX11_walk 80 = .ok (.bipush 24, 2) := by decide +kernel
theorem dX11_walk_82 : decode cX11_walk 82 = .ok (.if_icmp .ge 25, 3) := by decide +kernel
theorem dX11_walk_85 : decode cX11_walk 85 = .ok (.lload 5, 2) := by decide +kernel
theorem dX11_walk_87 : decode cX11_walk 87 = .ok (.iload 4, 2) := by decide +kernel
theorem dX11_walk_89 : decode cX11_walk 89 = .ok (.invokestatic 379, 3) := by decide +kernel
theorem dX11_walk_92 : decode cX11_walk 92 = .ok (.aload_n 0, 1) := by decide +kernel
theorem dX11_walk_93 : decode cX11_walk 93 = .ok (.getfield 59, 3) := by decide +kernel
theorem dX11_walk_96 : decode cX11_walk 96 = .ok (.iload 7, 2) := by decide +kernel
theorem dX11_walk_98 : decode cX11_walk 98 = .ok (.iconst 1, 1) := by decide +kernel
theorem dX11_walk_99 : decode cX11_walk 99 = .ok (.iadd, 1) := by decide +kernel
theorem dX11_walk_100 : decode cX11_walk 100 = .ok (.invokevirtual 375, 3) := by decide +kernel
theorem dX11_walk_103 : decode cX11_walk 103 = .ok (.land, 1) := by decide +kernel
theorem dX11_walk_104 : decode cX11_walk 104 = .ok (.goto 4, 3) := by decide +kernel
theorem dX11_walk_107 : decode cX11_walk 107 = .ok (.lconst 0, 1) := by decide +kernel
theorem dX11_walk_108 : decode cX11_walk 108 = .ok (.lstore 5, 2) := by decide +kernel
theorem dX11_walk_110 : decode cX11_walk 110 = .ok (.iinc 7 1, 3) := by decide +kernel
theorem dX11_walk_113 : decode cX11_walk 113 = .ok (.goto (-65), 3) := by decide +kernel
theorem dX11_walk_116 : decode cX11_walk 116 = .ok (.iconst (-1), 1) := by decide +kernel
theorem dX11_walk_117 : decode cX11_walk 117 = .ok (.ireturn, 1) := by decide +kernel
theorem ct_X11_walk {g : Gw} (hG : GF g) {z : Bool} (E : Mm) (s : Nat) (P : SP) (L : LW) (T K : LN) (d : Nat) (hI_E : CXI E s P L T K d) (x0 x1 x2 x3 : Int) : CTX g yX11_walk cX11_walk 8 (some .int) 8 146 4 24 K2 z [mR 0, mI x0, mI x1, mI x2, mI x3] (ov E) K2 z (fun r' D' => (0 ≤ x0 ∧ x0 ≤ (sW P : Int) - 1) ∧ (0 ≤ x1 ∧ x1 ≤ (sW P : Int) - 1) ∧ (0 ≤ x2 ∧ x2 ≤ 23) ∧ (1 ≤ x3 ∧ x3 ≤ 9) ∧ r' = some (mI (wkA (gNow P L d) x3.toNat x2.toNat x0.toNat x1.toNat)) ∧ ∃ E1, D' = ov E1 ∧ CXI E1 s P L T K d ∧ CXF E E1) (fun X D' => (¬ (0 ≤ x0 ∧ x0 ≤ (sW P : Int) - 1) ∧ X = "java/lang/IndexOutOfBoundsException" ∧ D' = ov (bumpE E 0)) ∨ ((0 ≤ x0 ∧ x0 ≤ (sW P : Int) - 1) ∧ ¬ (0 ≤ x1 ∧ x1 ≤ (sW P : Int) - 1) ∧ X = "java/lang/IndexOutOfBoundsException" ∧ D' = ov (bumpE E 0)) ∨ ((0 ≤ x0 ∧ x0 ≤ (sW P : Int) - 1) ∧ (0 ≤ x1 ∧ x1 ≤ (sW P : Int) - 1) ∧ ¬ (0 ≤ x2 ∧ x2 ≤ 23) ∧ X = "java/lang/IllegalArgumentException" ∧ D' = ov (bumpE E 2)) ∨ ((0 ≤ x0 ∧ x0 ≤ (sW P : Int) - 1) ∧ (0 ≤ x1 ∧ x1 ≤ (sW P : Int) - 1) ∧ (0 ≤ x2 ∧ x2 ≤ 23) ∧ ¬ (1 ≤ x3 ∧ x3 ≤ 9) ∧ X = "java/lang/IllegalArgumentException" ∧ D' = ov (bumpE E 2))) := by
  refine CTX.mk hG (by decide +kernel) (Nat.le_of_ble_eq_true rfl) (fun κ X Rt Rx ok => ?_)
  have hs := hI_E.sa
  have hP := hI_E.WS
  have hW40 := hP.W
  have hN10 := hP.N
  have hN8 := hP.B.N
  have hX_E : CXF E E := CXF.rf
  have hwG := gNow_WG hI_E
  have hgw : gW (gNow P L d) = sW P := rfl
  have hgn : gN (gNow P L d) = sN P := rfl
  refine at_aload_n 1 X rfl rfl dX11_walk_0 rfl ?_
  refine at_iload_n 2 X rfl rfl dX11_walk_1 rfl ?_
  refine at_callVX 5 X Rt Rx _ 11 (ct_X11_needCellP hG E s P L T K d hI_E x0) clX11 rfl k_0 mo_X11_needCell w_1272 vo_X11_needCell.1 vo_X11_needCell.2 rfl rfl (by decide) (Nat.le_of_ble_eq_true rfl) dX11_walk_2 rfl (fun _ _ h => Or.inl ⟨h.1, h.2.1, h.2.2⟩) ?_
  rintro _ _ ⟨hc0, rfl, rfl⟩
  refine at_aload_n 6 X rfl rfl dX11_walk_5 rfl ?_
  refine at_iload_n 7 X rfl rfl dX11_walk_6 rfl ?_
  refine at_callVX 10 X Rt Rx _ 11 (ct_X11_needCellP hG E s P L T K d hI_E x1) clX11 rfl k_0 mo_X11_needCell w_1272 vo_X11_needCell.1 vo_X11_needCell.2 rfl rfl (by decide) (Nat.le_of_ble_eq_true rfl) dX11_walk_7 rfl (fun _ _ h => Or.inr (Or.inl ⟨hc0, h.1, h.2.1, h.2.2⟩)) ?_
  rintro _ _ ⟨hc1, rfl, rfl⟩
  refine at_aload_n 11 X rfl rfl dX11_walk_10 rfl ?_
  refine at_iload_n 12 X rfl rfl dX11_walk_11 rfl ?_
  refine at_callVX 15 X Rt Rx _ 11 (ct_X11_needHour hG E x2) clX11 rfl k_0 mo_X11_needHour w_1259 vo_X11_needHour.1 vo_X11_needHour.2 rfl rfl (by decide) (Nat.le_of_ble_eq_true rfl) dX11_walk_12 rfl (fun _ _ h => Or.inr (Or.inr (Or.inl ⟨hc0, hc1, h.1, h.2.1, h.2.2⟩))) ?_
  rintro _ _ ⟨hc2, rfl, rfl⟩
  refine at_aload_n 16 X rfl rfl dX11_walk_15 rfl ?_
  refine at_iload 18 X rfl dX11_walk_16 rfl ?_
  refine at_iconst 19 X (by decide) dX11_walk_18 rfl ?_
  refine at_bipush 21 X (by decide) (by decide) dX11_walk_19 rfl ?_
  refine at_callS 24 X (ct_X11_isWithin hG _ _ _) mo_X11_isWithin w_1211 so_X11_isWithin rfl rfl (crm Rt (by decide)) (Nat.le_of_ble_eq_true rfl) dX11_walk_21 rfl ?_
  rintro _ _ ⟨rfl, rfl⟩
  refine at_callVX 27 X Rt Rx _ 11 (ct_X11_need hG E (if 1 ≤ x3 ∧ x3 ≤ 9 then 1 else 0)) clX11 rfl k_0 mo_X11_need w_863 vo_X11_need.1 vo_X11_need.2 rfl rfl (by decide) (Nat.le_of_ble_eq_true rfl) dX11_walk_24 rfl (fun _ _ h => Or.inr (Or.inr (Or.inr (⟨hc0, hc1, hc2, (fun q => ite_no.mp h.1 (by omega)), h.2.1, h.2.2⟩)))) ?_
  rintro _ _ ⟨hq, rfl, rfl⟩
  have hc3 : 1 ≤ x3 ∧ x3 ≤ 9 := by have := ite_yes.mp hq; omega
  obtain ⟨c, rfl⟩ : ∃ c : Nat, x0 = (c : Int) := ⟨x0.toNat, by omega⟩
  obtain ⟨to, rfl⟩ : ∃ to : Nat, x1 = (to : Int) := ⟨x1.toNat, by omega⟩
  obtain ⟨h, rfl⟩ : ∃ h : Nat, x2 = (h : Int) := ⟨x2.toNat, by omega⟩
  obtain ⟨r, rfl⟩ : ∃ r : Nat, x3 = (r : Int) := ⟨x3.toNat, by omega⟩
  refine at_aload_n 28 X rfl rfl dX11_walk_27 rfl ?_
  refine at_callV 31 X _ 11 (ct_X11_refresh hG E s P L T K d hI_E) clX11 rfl k_0 mo_X11_refresh w_665 vo_X11_refresh.1 vo_X11_refresh.2 rfl rfl (crm Rt (by decide)) (Nat.le_of_ble_eq_true rfl) dX11_walk_28 rfl ?_
  rintro _ _ ⟨rfl, F1, rfl, hI_F1, hF_F1, hXn_F1⟩
  have hX_F1 := hX_E.tr hXn_F1
  refine at_lconst 32 X (v := 1) (by decide) (by decide) dX11_walk_31 rfl ?_
  refine at_iload_n 33 X rfl rfl dX11_walk_32 rfl ?_
  refine at_lshlV 34 X ((2 ^ c : Nat) : Int) (lshl1 (by omega)) dX11_walk_33 rfl ?_
  refine at_aload_n 35 X rfl rfl dX11_walk_34 rfl ?_
  refine m_getR 38 X f_X11_59 k_0 r_0_9 dX11_walk_35 rfl ?_
  refine at_iload_n 39 X rfl rfl dX11_walk_38 rfl ?_
  refine at_callV 42 X _ 4 (ct_X4_bearingCells hG F1 30 (Or.inl rfl) (gNow P L d) hwG hF_F1.1 hI_F1.Lw h (by omega)) clX4 rfl k_30 mo_X4_bearingCells w_1536 vo_X4_bearingCells.1 vo_X4_bearingCells.2 rfl rfl (crm Rt (by decide)) (Nat.le_of_ble_eq_true rfl) dX11_walk_39 rfl ?_
  rintro _ _ ⟨rfl, F2, rfl, hg_F2, hq_F2⟩
  have hK3 := hI_F1.known hF_F1 hg_F2 hq_F2
  have hI_F2 := hK3.1
  have hF_F2 := hK3.2.1
  have hX_F2 : CXF E F2 := hX_F1.tr hK3.2.2
  have : bcl (gNow P L d) h < 1099511627776 := mk40 hwG.W
  refine at_landV 43 X ((wkP (gNow P L d) r h c 0 : Nat) : Int) (land_nat (by have := p2_40 (x := c) (by omega); omega) (by omega)) dX11_walk_42 rfl ?_
  refine at_lstore 45 X dX11_walk_43 rfl (by decide) ?_
  refine at_iload_n 46 X rfl rfl dX11_walk_45 rfl ?_
  refine at_istore 48 X dX11_walk_46 rfl (by decide) ?_
  have J48 : ∀ (f48 : Nat) (F : Mm) (at_ : Nat) (i : Nat) (v : Nat), 24 - at_ < f48 → (at_ = h + i) → (at_ ≤ 24) → (v = wkP (gNow P L d) r h c i ∨ (at_ = 24 ∧ v = 0)) → ((∀ j, j < i → ¬ (wkP (gNow P L d) r h c j).testBit to = true)) → (CXI F s P L T K d) → (FRS F P L T d) → (CXF E F) → AT g κ K2 z 4 24 48 [(0, mR 0), (2, mI ((to : Nat) : Int)), (4, mI ((r : Nat) : Int)), (5, mL ((v : Nat) : Int)), (7, mI ((at_ : Nat) : Int))] [] (ov F) := by
    intro f48
    induction f48 with
    | zero => intro F at_ i v hf48; omega
    | succ f48 ih48 =>
    intro F at_ i v hf48 hat hi hv hno hI_F hF_F hX_F
    refine at_iload 50 X rfl dX11_walk_48 rfl ?_
    refine at_bipush 52 X (by decide) (by decide) dX11_walk_50 rfl ?_
    refine at_icmp_ge 55 116 X dX11_walk_52 rfl (by decide) (fun h52 => ?_) (fun h52 => ?_)
    · refine at_iconst 117 X (by decide) dX11_walk_116 rfl ?_
      refine at_iret X Rt ?_ (by decide) (by decide) dX11_walk_117
      exact ⟨hc0, hc1, hc2, hc3, (by (try simp only [Int.toNat_natCast]); unfold wkA; rw [if_pos (fst_none (fun j hj => if e : j < i then hno j e else by first | (rw [show j = i + (j - i) by omega, wkP_0 hv0 (j - i), Nat.zero_testBit]; decide) | omega))]), _, rfl, hI_F, hX_F⟩
    · have hv := hv.resolve_right (by omega)
      subst hv
      refine at_lload 57 X rfl dX11_walk_55 rfl ?_
      refine at_lconst 58 X (v := 0) (by decide) (by decide) dX11_walk_57 rfl ?_
      refine at_lif_eq 59 62 116 X dX11_walk_58 rfl dX11_walk_59 rfl (by decide) (fun h58 => ?_) (fun h58 => ?_)
      · have hv0 : wkP (gNow P L d) r h c i = 0 := by omega
        refine at_iconst 117 X (by decide) dX11_walk_116 rfl ?_
        refine at_iret X Rt ?_ (by decide) (by decide) dX11_walk_117
        exact ⟨hc0, hc1, hc2, hc3, (by (try simp only [Int.toNat_natCast]); unfold wkA; rw [if_pos (fst_none (fun j hj => if e : j < i then hno j e else by first | (rw [show j = i + (j - i) by omega, wkP_0 hv0 (j - i), Nat.zero_testBit]; decide) | omega))]), _, rfl, hI_F, hX_F⟩
      · refine at_lload 64 X rfl dX11_walk_62 rfl ?_
        refine at_iload_n 65 X rfl rfl dX11_walk_64 rfl ?_
        refine at_lshrV 66 X (lshr ((wkP (gNow P L d) r h c i : Nat) : Int) ((to : Nat) : Int)) rfl dX11_walk_65 rfl ?_
        refine at_lconst 67 X (v := 1) (by decide) (by decide) dX11_walk_66 rfl ?_
        refine at_landV 68 X (if (wkP (gNow P L d) r h c i).testBit to = true then 1 else 0) (lbit (by omega) (by have := wkP_lt hwG.W r h c i; omega)) dX11_walk_67 rfl ?_
        refine at_lconst 69 X (v := 1) (by decide) (by decide) dX11_walk_68 rfl ?_
        refine at_lif_ne 70 73 76 X dX11_walk_69 rfl dX11_walk_70 rfl (by decide) (fun h69 => ?_) (fun h69 => ?_)
        · have hnb : ¬ (wkP (gNow P L d) r h c i).testBit to = true := fun q => h69 (by rw [if_pos q])
          refine at_iload 78 X rfl dX11_walk_76 rfl ?_
          refine at_iconst 79 X (by decide) dX11_walk_78 rfl ?_
          refine at_iaddV 80 X ((at_ + 1 : Nat) : Int) (w32_v (by omega) (by omega) (by omega)) dX11_walk_79 rfl ?_
          refine at_bipush 82 X (by decide) (by decide) dX11_walk_80 rfl ?_
          refine at_icmp_ge 85 107 X dX11_walk_82 rfl (by decide) (fun h82 => ?_) (fun h82 => ?_)
          · refine at_lconst 108 X (v := 0) (by decide) (by decide) dX11_walk_107 rfl ?_
            refine at_lstore 110 X dX11_walk_108 rfl (by decide) ?_
            refine at_iincV 113 X ((at_ + 1 : Nat) : Int) (w32_v (by omega) (by omega) (by omega)) rfl dX11_walk_110 rfl (by decide) ?_
            refine at_goto 48 X dX11_walk_113 (by decide) ?_
            exact at_sub _ (by exact ⟨rfl, rfl, rfl, rfl, rfl, trivial⟩) (ih48 F (at_ + 1) (i + 1) 0 (by first | omega | (simp only [] at *; omega)) (by first | omega | assumption) (by first | omega | assumption) (by first | exact Or.inl rfl | exact Or.inr ⟨by omega, rfl⟩) (fun j hj => if e : j = i then by rw [e]; exact hnb else hno j (by omega)) hI_F hF_F hX_F)
          · refine at_lload 87 X rfl dX11_walk_85 rfl ?_
            refine at_iload 89 X rfl dX11_walk_87 rfl ?_
            refine at_callS 92 X (ct_X11_spread hG F (wkP (gNow P L d) r h c i) r (wkP_lt hwG.W _ _ _ _) (by omega)) mo_X11_spread w_1540 so_X11_spread rfl rfl (crm Rt (by decide)) (Nat.le_of_ble_eq_true rfl) dX11_walk_89 rfl ?_
            rintro _ _ ⟨rfl, rfl⟩
            have hsp := spr_lt (m := wkP (gNow P L d) r h c i) (wkP_lt hwG.W _ _ _ _) (r := r) (by omega)
            refine at_aload_n 93 X rfl rfl dX11_walk_92 rfl ?_
            refine m_getR 96 X f_X11_59 k_0 r_0_9 dX11_walk_93 rfl ?_
            refine at_iload 98 X rfl dX11_walk_96 rfl ?_
            refine at_iconst 99 X (by decide) dX11_walk_98 rfl ?_
            refine at_iaddV 100 X ((at_ + 1 : Nat) : Int) (w32_v (by omega) (by omega) (by omega)) dX11_walk_99 rfl ?_
            refine at_callV 103 X _ 4 (ct_X4_bearingCells hG F 30 (Or.inl rfl) (gNow P L d) hwG hF_F.1 hI_F.Lw (at_ + 1) (by omega)) clX4 rfl k_30 mo_X4_bearingCells w_1536 vo_X4_bearingCells.1 vo_X4_bearingCells.2 rfl rfl (crm Rt (by decide)) (Nat.le_of_ble_eq_true rfl) dX11_walk_100 rfl ?_
            rintro _ _ ⟨rfl, F3, rfl, hg_F3, hq_F3⟩
            have hK3 := hI_F.known hF_F hg_F3 hq_F3
            have hI_F3 := hK3.1
            have hF_F3 := hK3.2.1
            have hX_F3 : CXF E F3 := hX_F.tr hK3.2.2
            have : bcl (gNow P L d) (at_ + 1) < 1099511627776 := mk40 hwG.W
            refine at_landV 104 X ((wkP (gNow P L d) r h c (i + 1) : Nat) : Int) ((land_nat (by omega) (by omega)).trans (by show _ = ((sprP (wkP (gNow P L d) r h c i) r &&& bcl (gNow P L d) (h + i + 1) : Nat) : Int); rw [show h + i + 1 = at_ + 1 by omega])) dX11_walk_103 rfl ?_
            refine at_goto 108 X dX11_walk_104 (by decide) ?_
            refine at_lstore 110 X dX11_walk_108 rfl (by decide) ?_
            refine at_iincV 113 X ((at_ + 1 : Nat) : Int) (w32_v (by omega) (by omega) (by omega)) rfl dX11_walk_110 rfl (by decide) ?_
            refine at_goto 48 X dX11_walk_113 (by decide) ?_
            exact at_sub _ (by exact ⟨rfl, rfl, rfl, rfl, rfl, trivial⟩) (ih48 F3 (at_ + 1) (i + 1) (wkP (gNow P L d) r h c (i + 1)) (by first | omega | (simp only [] at *; omega)) (by first | omega | assumption) (by first | omega | assumption) (by first | exact Or.inl rfl | exact Or.inr ⟨by omega, rfl⟩) (fun j hj => if e : j = i then by rw [e]; exact hnb else hno j (by omega)) hI_F3 hF_F3 hX_F3)
        · have hyb : (wkP (gNow P L d) r h c i).testBit to = true := Decidable.byContradiction (fun q => by rw [if_neg q] at h69; exact absurd h69 (by decide))
          refine at_iload 75 X rfl dX11_walk_73 rfl ?_
          refine at_iret X Rt ?_ (by decide) (by decide) dX11_walk_75
          exact ⟨hc0, hc1, hc2, hc3, (by (try simp only [Int.toNat_natCast]); unfold wkA; have hf := fst_at (q := fun n => (wkP (gNow P L d) r h c n).testBit to) hno hyb (n := 24 - h) (by omega); rw [if_neg (by rw [hf]; omega), hf, hat]; rfl), _, rfl, hI_F, hX_F⟩
  exact at_sub _ (by exact ⟨rfl, rfl, rfl, rfl, rfl, trivial⟩) (J48 _ F2 h 0 (wkP (gNow P L d) r h c 0) (Nat.lt_succ_self _) (by first | omega | assumption | rfl) (by first | omega | assumption | rfl) (Or.inl rfl) (fun j hj => absurd hj (Nat.not_lt_zero j)) hI_F2 hF_F2 hX_F2)
