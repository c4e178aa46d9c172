/-- the reference after a refusal -/
def badR (E : Mm) (wh : Int) (k : Nat) : Mm := wr (wr E 125 0 wh) 127 k (w32 (E 127 k + 1))
theorem badR_of {E E0 : Mm} {wh : Int} {k : Nat} (h : wr E 125 0 0 = E0) : wr (wr E0 125 0 wh) 127 k (w32 (E0 127 k + 1)) = badR E wh k := by
  subst h
  unfold badR
  rw [wr_wr, wr_row (by omega)]
/-- the reference after an answer -/
def RXO (E E1 : Mm) (Q : RX) (P : SP) (L : LW) (T K : LN) (d st : Nat) : Prop := RXI E1 Q P L T K d st ∧ RXF P E E1 ∧ E1 125 0 = 0 ∧ E1 127 = E 127
theorem RXO.nx {E E1 E2 : Mm} {Q : RX} {P : SP} {L : LW} {T K : LN} {d st : Nat} (h : RXO E E1 Q P L T K d st) (hI : RXI E2 Q P L T K d st) (hX : RXF P E1 E2) (h0 : E2 125 0 = E1 125 0) (h7 : E2 127 = E1 127) : RXO E E2 Q P L T K d st := ⟨hI, h.2.1.tr hX, h0.trans h.2.2.1, h7.trans h.2.2.2⟩
theorem RXO.z {E : Mm} {Q : RX} {P : SP} {L : LW} {T K : LN} {d st : Nat} (hWf : WF P L T K d st) (h : RXI E Q P L T K d st) : RXO E (wr E 125 0 0) Q P L T K d st := by
  have hX : RXF P E (wr E 125 0 0) := ⟨fun q hq => wr_row (by omega), fun k hk => wr_o (by omega)⟩
  exact ⟨h.fr hWf hX (h.2.2.1.fr (wr_o (by omega)) (wr_row (by omega)) (wr_row (by omega))), hX, wr_s _ _ _ _, wr_row (by omega)⟩
theorem RXI.bad {E : Mm} {Q : RX} {P : SP} {L : LW} {T K : LN} {d st : Nat} (hWf : WF P L T K d st) (h : RXI E Q P L T K d st) (wh : Int) (k : Nat) : RXI (badR E wh k) Q P L T K d st ∧ RXF P E (badR E wh k) := by
  have hX : RXF P E (badR E wh k) := ⟨fun q hq => by unfold badR; rw [wr_row (by omega), wr_row (by omega)], fun j hj => by unfold badR; rw [wr_o (by omega), wr_o (by omega)]⟩
  exact ⟨h.fr hWf hX (h.2.2.1.fr (by unfold badR; rw [wr_o (by omega), wr_o (by omega)]) (by unfold badR; rw [wr_row (by omega), wr_row (by omega)]) (by unfold badR; rw [wr_row (by omega), wr_row (by omega)])), hX⟩
theorem dX12_least_0 : decode cX12_least 0 = .ok (.lload_n 2, 1) := by decide +kernel
theorem dX12_least_1 : decode cX12_least 1 = .ok (.lstore 5, 2) := by decide +kernel
theorem dX12_least_3 : decode cX12_least 3 = .ok (.lload_n 0, 1) := by decide +kernel
theorem dX12_least_4 : decode cX12_least 4 = .ok (.lconst 0, 1) := by decide +kernel
theorem dX12_least_5 : decode cX12_least 5 = .ok (.lcmp, 1) := by decide +kernel
theorem dX12_least_6 : decode cX12_least 6 = .ok (.ifCond .ge 8, 3) := by decide +kernel
theorem dX12_least_9 : decode cX12_least 9 = .ok (.lload_n 0, 1) := by decide +kernel
theorem dX12_least_10 : decode cX12_least 10 = .ok (.lneg, 1) := by decide +kernel
theorem dX12_least_11 : decode cX12_least 11 = .ok (.goto 4, 3) := by decide +kernel
theorem dX12_least_14 : decode cX12_least 14 = .ok (.lload_n 0, 1) := by decide +kernel
theorem dX12_least_15 : decode cX12_least 15 = .ok (.lstore 7, 2) := by decide +kernel
theorem dX12_least_17 : decode cX12_least 17 = .ok (.lload 7, 2) := by decide +kernel
theorem dX12_least_19 : decode cX12_least 19 = .ok (.lconst 0, 1) := by decide +kernel
theorem dX12_least_20 : decode cX12_least 20 = .ok (.lcmp, 1) := by decide +kernel
theorem dX12_least_21 : decode cX12_least 21 = .ok (.ifCond .eq 21, 3) := by decide +kernel
theorem dX12_least_24 : decode cX12_least 24 = .ok (.lload 5, 2) := by decide +kernel
theorem dX12_least_26 : decode cX12_least 26 = .ok (.lload 7, 2) := by decide +kernel
theorem dX12_least_28 : decode cX12_least 28 = .ok (.lrem, 1) := by decide +kernel
theorem dX12_least_29 : decode cX12_least 29 = .ok (.lstore 9, 2) := by decide +kernel
theorem dX12_least_31 : decode cX12_least 31 = .ok (.lload 7, 2) := by decide +kernel
theorem dX12_least_33 : decode cX12_least 33 = .ok (.lstore 5, 2) := by decide +kernel
theorem dX12_least_35 : decode cX12_least 35 = .ok (.lload 9, 2) := by decide +kernel
theorem dX12_least_37 : decode cX12_least 37 = .ok (.lstore 7, 2) := by decide +kernel
theorem dX12_least_39 : decode cX12_least 39 = .ok (.goto (-22), 3) := by decide +kernel
theorem dX12_least_42 : decode cX12_least 42 = .ok (.iload 4, 2) := by decide +kernel
theorem dX12_least_44 : decode cX12_least 44 = .ok (.ifCond .ne 10, 3) := by decide +kernel
theorem dX12_least_47 : decode cX12_least 47 = .ok (.lload_n 0, 1) := by decide +kernel
theorem dX12_least_48 : decode cX12_least 48 = .ok (.lload 5, 2) := by decide +kernel
theorem dX12_least_50 : decode cX12_least 50 = .ok (.ldiv, 1) := by decide +kernel
theorem dX12_least_51 : decode cX12_least 51 = .ok (.goto 7, 3) := by decide +kernel
theorem dX12_least_54 : decode cX12_least 54 = .ok (.lload_n 2, 1) := by decide +kernel
theorem dX12_least_55 : decode cX12_least 55 = .ok (.lload 5, 2) := by decide +kernel
theorem dX12_least_57 : decode cX12_least 57 = .ok (.ldiv, 1) := by decide +kernel
theorem dX12_least_58 : decode cX12_least 58 = .ok (.lreturn, 1) := by decide +kernel
theorem ct_X12_least {g : Gw} (hG : GF g) {z : Bool} (E : Mm) (u : Int) (l : Nat) (wh : Int) (hu : -4611686018427387904 ≤ u ∧ u ≤ 4611686018427387904) (hl0 : 0 < l) (hl : l ≤ 4611686018427387904) : CT g yX12_least cX12_least 11 (some .long) 0 0 0 0 K2 z [mL u, mL ((l : Nat) : Int), mI wh] (ov E) K2 z (fun r D' => r = some (mL (ltmP u l wh)) ∧ D' = ov E) := by
  refine CT.mk hG (by decide +kernel) (Nat.le_of_ble_eq_true rfl) (fun κ X Rt _ ok => ?_)
  refine at_lload_n 1 X rfl rfl dX12_least_0 rfl ?_
  refine at_lstore 3 X dX12_least_1 rfl (by decide) ?_
  have J15 : ∀ (v : Int), (v = ((u.natAbs : Nat) : Int)) → AT g κ K2 z 0 0 15 [(0, mL u), (2, mL ((l : Nat) : Int)), (4, mI wh), (5, mL ((l : Nat) : Int))] [mL v] (ov E) := by
    intro v hv
    subst hv
    refine at_lstore 17 X dX12_least_15 rfl (by decide) ?_
    have J17 : ∀ (f17 : Nat) (a : Nat) (b : Nat), b < f17 → (a ≤ 4611686018427387904) → (b ≤ 4611686018427387904) → (Nat.gcd a b = Nat.gcd u.natAbs l) → AT g κ K2 z 0 0 17 [(0, mL u), (2, mL ((l : Nat) : Int)), (4, mI wh), (5, mL ((a : Nat) : Int)), (7, mL ((b : Nat) : Int))] [] (ov E) := by
      intro f17
      induction f17 with
      | zero => intro a b hf17; omega
      | succ f17 ih17 =>
      intro a b hf17 ha hb hg
      refine at_lload 19 X rfl dX12_least_17 rfl ?_
      refine at_lconst 20 X (v := 0) (by decide) (by decide) dX12_least_19 rfl ?_
      refine at_lif_eq 21 24 42 X dX12_least_20 rfl dX12_least_21 rfl (by decide) (fun h20 => ?_) (fun h20 => ?_)
      · obtain rfl : b = 0 := by omega
        rw [Nat.gcd_zero_right] at hg
        subst hg
        have hgp : 0 < Nat.gcd u.natAbs l := Nat.gcd_pos_of_pos_right _ hl0
        refine at_iload 44 X rfl dX12_least_42 rfl ?_
        refine at_if_ne 47 54 X dX12_least_44 rfl (by decide) (fun h44 => ?_) (fun h44 => ?_)
        · refine at_lload_n 55 X rfl rfl dX12_least_54 rfl ?_
          refine at_lload 57 X rfl dX12_least_55 rfl ?_
          refine at_ldivV 58 X (by omega) ((l : Int).tdiv ((Nat.gcd u.natAbs l : Nat) : Int)) (by have := tdiv_in (u := (l : Int)) (d := ((Nat.gcd u.natAbs l : Nat) : Int)) 4611686018427387904 (by omega) (by omega); exact w64_id (by omega) (by omega)) dX12_least_57 rfl ?_
          refine at_lret X Rt ?_ (Nat.le_refl _) (Nat.le_refl _) dX12_least_58
          exact ⟨by unfold ltmP; first | rw [if_pos (by omega)] | rw [if_neg (by omega)], rfl⟩
        · refine at_lload_n 48 X rfl rfl dX12_least_47 rfl ?_
          refine at_lload 50 X rfl dX12_least_48 rfl ?_
          refine at_ldivV 51 X (by omega) (u.tdiv ((Nat.gcd u.natAbs l : Nat) : Int)) (by have := tdiv_in (u := u) (d := ((Nat.gcd u.natAbs l : Nat) : Int)) 4611686018427387904 (by omega) (by omega); exact w64_id (by omega) (by omega)) dX12_least_50 rfl ?_
          refine at_goto 58 X dX12_least_51 (by decide) ?_
          refine at_lret X Rt ?_ (Nat.le_refl _) (Nat.le_refl _) dX12_least_58
          exact ⟨by unfold ltmP; first | rw [if_pos (by omega)] | rw [if_neg (by omega)], rfl⟩
      · have hbp : 0 < b := by omega
        refine at_lload 26 X rfl dX12_least_24 rfl ?_
        refine at_lload 28 X rfl dX12_least_26 rfl ?_
        refine at_lremV 29 X (by omega) ((a % b : Nat) : Int) (w64_v (Int.ofNat_tmod a b).symm (by have := Nat.mod_lt a hbp; omega) (by have := Nat.mod_lt a hbp; omega)) dX12_least_28 rfl ?_
        refine at_lstore 31 X dX12_least_29 rfl (by decide) ?_
        refine at_lload 33 X rfl dX12_least_31 rfl ?_
        refine at_lstore 35 X dX12_least_33 rfl (by decide) ?_
        refine at_lload 37 X rfl dX12_least_35 rfl ?_
        refine at_lstore 39 X dX12_least_37 rfl (by decide) ?_
        refine at_goto 17 X dX12_least_39 (by decide) ?_
        exact at_sub _ (by exact ⟨rfl, rfl, rfl, rfl, rfl, trivial⟩) (ih17 b (a % b) (by have := Nat.mod_lt a hbp; omega) (by omega) (by have := Nat.mod_lt a hbp; omega) (by rw [← hg, Nat.gcd_comm a b]; exact (Nat.gcd_rec b a).symm ▸ (Nat.gcd_comm _ _)))
    exact at_sub _ (by exact ⟨rfl, rfl, rfl, rfl, rfl, trivial⟩) (J17 _ l u.natAbs (Nat.lt_succ_self _) (by first | omega | assumption | rfl) (by first | omega | assumption | rfl) (Nat.gcd_comm _ _))
  refine at_lload_n 4 X rfl rfl dX12_least_3 rfl ?_
  refine at_lconst 5 X (v := 0) (by decide) (by decide) dX12_least_4 rfl ?_
  refine at_lif_ge 6 9 14 X dX12_least_5 rfl dX12_least_6 rfl (by decide) (fun h5 => ?_) (fun h5 => ?_)
  · refine at_lload_n 15 X rfl rfl dX12_least_14 rfl ?_
    exact at_sub _ (by exact ⟨rfl, rfl, rfl, rfl, trivial⟩) (J15 u (by omega))
  · refine at_lload_n 10 X rfl rfl dX12_least_9 rfl ?_
    refine at_lnegV 11 X (-u) (w64_v rfl (by omega) (by omega)) dX12_least_10 rfl ?_
    refine at_goto 15 X dX12_least_11 (by decide) ?_
    exact at_sub _ (by exact ⟨rfl, rfl, rfl, rfl, trivial⟩) (J15 (-u) (by omega))
theorem allB_n (B : BM) (b : Nat) : ∀ n, bH B b * n + (allB B b n - bH B b * n) = allB B b n ∧ bH B b * n ≤ allB B b n
  | 0 => ⟨by show bH B b * 0 + (0 - _) = 0; omega, by show bH B b * 0 ≤ 0; omega⟩
  | n + 1 => by
    have h := allB_n B b n
    have e : allB B b (n + 1) = allB B b n + (bH B b + bD B b n) := rfl
    rw [Nat.mul_succ]
    omega
/-- the loads alone -/
def ldsB (B : BM) (b : Nat) : Nat → Nat := itr (fun p v => v + bD B b p) 0
theorem ldsB_all (B : BM) (b : Nat) : ∀ n, bH B b * n + ldsB B b n = allB B b n
  | 0 => by show bH B b * 0 + 0 = 0; omega
  | n + 1 => by
    have h := ldsB_all B b n
    show bH B b * (n + 1) + (ldsB B b n + bD B b n) = allB B b n + (bH B b + bD B b n)
    rw [Nat.mul_succ]
    omega
theorem ldsB_le {B : BM} {W b : Nat} (hW : WB W B) (hb : b < bN B) : ∀ {n : Nat}, n ≤ bL B b → ldsB B b n ≤ 999 * n
  | 0, _ => Nat.le_refl 0
  | n + 1, h => by
    have h1 := ldsB_le hW hb (n := n) (by omega)
    have h2 := hW.D (b := b) (p := n) hb (by omega)
    show ldsB B b n + bD B b n ≤ _
    omega
theorem dX12_weightOf_0 : decode cX12_weightOf 0 = .ok (.aload_n 0, 1) := by decide +kernel
theorem dX12_weightOf_1 : decode cX12_weightOf 1 = .ok (.getfield 61, 3) := by decide +kernel
theorem dX12_weightOf_4 : decode cX12_weightOf 4 = .ok (.iload_n 1, 1) := by decide +kernel
theorem dX12_weightOf_5 : decode cX12_weightOf 5 = .ok (.aaload, 1) := by decide +kernel
theorem dX12_weightOf_6 : decode cX12_weightOf 6 = .ok (.iconst 1, 1) := by decide +kernel
theorem dX12_weightOf_7 : decode cX12_weightOf 7 = .ok (.iaload, 1) := by decide +kernel
theorem dX12_weightOf_8 : decode cX12_weightOf 8 = .ok (.aload_n 0, 1) := by decide +kernel
theorem dX12_weightOf_9 : decode cX12_weightOf 9 = .ok (.getfield 61, 3) := by decide +kernel
theorem dX12_weightOf_12 : decode cX12_weightOf 12 = .ok (.iload_n 1, 1) := by decide +kernel
theorem dX12_weightOf_13 : decode cX12_weightOf 13 = .ok (.aaload, 1) := by decide +kernel
theorem dX12_weightOf_14 : decode cX12_weightOf 14 = .ok (.iconst 2, 1) := by decide +kernel
theorem dX12_weightOf_15 : decode cX12_weightOf 15 = .ok (.iaload, 1) := by decide +kernel
theorem dX12_weightOf_16 : decode cX12_weightOf 16 = .ok (.imul, 1) := by decide +kernel
theorem dX12_weightOf_17 : decode cX12_weightOf 17 = .ok (.istore_n 2, 1) := by decide +kernel
theorem dX12_weightOf_18 : decode cX12_weightOf 18 = .ok (.iconst 0, 1) := by decide +kernel
theorem dX12_weightOf_19 : decode cX12_weightOf 19 = .ok (.istore_n 3, 1) := by decide +kernel
theorem dX12_weightOf_20 : decode cX12_weightOf 20 = .ok (.iload_n 3, 1) := by decide +kernel
theorem dX12_weightOf_21 : decode cX12_weightOf 21 = .ok (.aload_n 0, 1) := by decide +kernel
theorem dX12_weightOf_22 : decode cX12_weightOf 22 = .ok (.getfield 61, 3) := by decide +kernel
theorem dX12_weightOf_25 : decode cX12_weightOf 25 = .ok (.iload_n 1, 1) := by decide +kernel
theorem dX12_weightOf_26 : decode cX12_weightOf 26 = .ok (.aaload, 1) := by decide +kernel
theorem dX12_weightOf_27 : decode cX12_weightOf 27 = .ok (.iconst 1, 1) := by decide +kernel
theorem dX12_weightOf_28 : decode cX12_weightOf 28 = .ok (.iaload, 1) := by decide +kernel
theorem dX12_weightOf_29 : decode cX12_weightOf 29 = .ok (.if_icmp .ge 20, 3) := by decide +kernel
theorem dX12_weightOf_32 : decode cX12_weightOf 32 = .ok (.iload_n 2, 1) := by decide +kernel
theorem dX12_weightOf_33 : decode cX12_weightOf 33 = .ok (.aload_n 0, 1) := by decide +kernel
theorem dX12_weightOf_34 : decode cX12_weightOf 34 = .ok (.getfield 67, 3) := by decide +kernel
theorem dX12_weightOf_37 : decode cX12_weightOf 37 = .ok (.iload_n 1, 1) := by decide +kernel
theorem dX12_weightOf_38 : decode cX12_weightOf 38 = .ok (.aaload, 1) := by decide +kernel
theorem dX12_weightOf_39 : decode cX12_weightOf 39 = .ok (.iload_n 3, 1) := by decide +kernel
theorem dX12_weightOf_40 : decode cX12_weightOf 40 = .ok (.iaload, 1) := by decide +kernel
theorem dX12_weightOf_41 : decode cX12_weightOf 41 = .ok (.iadd, 1) := by decide +kernel
theorem dX12_weightOf_42 : decode cX12_weightOf 42 = .ok (.istore_n 2, 1) := by decide +kernel
theorem dX12_weightOf_43 : decode cX12_weightOf 43 = .ok (.iinc 3 1, 3) := by decide +kernel
theorem dX12_weightOf_46 : decode cX12_weightOf 46 = .ok (.goto (-26), 3) := by decide +kernel
theorem dX12_weightOf_49 : decode cX12_weightOf 49 = .ok (.iload_n 2, 1) := by decide +kernel
theorem dX12_weightOf_50 : decode cX12_weightOf 50 = .ok (.ireturn, 1) := by decide +kernel
theorem ct_X12_weightOf {g : Gw} (hG : GF g) {z : Bool} (E : Mm) (P : SP) (Q : RX) (hP : WS P) (hR_E : RTS E P Q) (b : Nat) (hb : b < bN (sB P)) : CT g yX12_weightOf cX12_weightOf 4 (some .int) 0 0 0 0 K2 z [mR 125, mI ((b : Nat) : Int)] (ov E) K2 z (fun r D' => r = some (mI (allB (sB P) b (bL (sB P) b) : Nat)) ∧ D' = ov E) := by
  refine CT.mk hG (by decide +kernel) (Nat.le_of_ble_eq_true rfl) (fun κ X Rt _ ok => ?_)
  have hN8 := hP.B.N
  have hlb := hP.B.L (b := b) hb
  have hhb := hP.B.H (b := b) hb
  have hml : bL (sB P) b * bH (sB P) b ≤ 20 * 9 := Nat.mul_le_mul (by omega) (by omega)
  have hml2 := Nat.mul_comm (bL (sB P) b) (bH (sB P) b)
  refine at_aload_n 1 X rfl rfl dX12_weightOf_0 rfl ?_
  refine m_getR 4 X f_X12_61 k_125 r_125_24 dX12_weightOf_1 rfl ?_
  refine at_iload_n 5 X rfl rfl dX12_weightOf_4 rfl ?_
  refine m_aaloadV 6 X b (by omega) k_227 (by decide) (by omega) (rr_227 _ (by omega)) dX12_weightOf_5 rfl ?_
  refine at_iconst 7 X (by decide) dX12_weightOf_6 rfl ?_
  refine m_ialoadV 8 X 1 (by omega) ((bL (sB P) b : Nat) : Int) (hR_E.2.2.2.2.2.2 b (by omega)).2.1 (kr_227 _ (by omega)) (er_227 _ (by omega)) (by omega) dX12_weightOf_7 rfl ?_
  have := hP.B.L (b := b) (by omega)
  refine at_aload_n 9 X rfl rfl dX12_weightOf_8 rfl ?_
  refine m_getR 12 X f_X12_61 k_125 r_125_24 dX12_weightOf_9 rfl ?_
  refine at_iload_n 13 X rfl rfl dX12_weightOf_12 rfl ?_
  refine m_aaloadV 14 X b (by omega) k_227 (by decide) (by omega) (rr_227 _ (by omega)) dX12_weightOf_13 rfl ?_
  refine at_iconst 15 X (by decide) dX12_weightOf_14 rfl ?_
  refine m_ialoadV 16 X 2 (by omega) ((bH (sB P) b : Nat) : Int) (hR_E.2.2.2.2.2.2 b (by omega)).2.2.1 (kr_227 _ (by omega)) (er_227 _ (by omega)) (by omega) dX12_weightOf_15 rfl ?_
  have := hP.B.H (b := b) (by omega)
  refine at_imulV 17 X (((bL (sB P) b) * (bH (sB P) b) : Nat) : Int) (w32_v (Int.natCast_mul _ _).symm (by omega) (by omega)) dX12_weightOf_16 rfl ?_
  refine at_istore_n 18 X rfl dX12_weightOf_17 rfl (by decide) ?_
  refine at_iconst 19 X (by decide) dX12_weightOf_18 rfl ?_
  refine at_istore_n 20 X rfl dX12_weightOf_19 rfl (by decide) ?_
  have J20 : ∀ (f20 : Nat) (p : Nat) (v : Nat), 21 - p < f20 → (p ≤ bL (sB P) b) → (v = bH (sB P) b * bL (sB P) b + ldsB (sB P) b p) → AT g κ K2 z 0 0 20 [(0, mR 125), (1, mI ((b : Nat) : Int)), (2, mI ((v : Nat) : Int)), (3, mI ((p : Nat) : Int))] [] (ov E) := by
    intro f20
    induction f20 with
    | zero => intro p v hf20; omega
    | succ f20 ih20 =>
    intro p v hf20 hp hv
    refine at_iload_n 21 X rfl rfl dX12_weightOf_20 rfl ?_
    refine at_aload_n 22 X rfl rfl dX12_weightOf_21 rfl ?_
    have hld := ldsB_le hP.B hb (n := p) (by omega)
    have hdb := fun h => hP.B.D (b := b) (p := p) hb h
    refine m_getR 25 X f_X12_61 k_125 r_125_24 dX12_weightOf_22 rfl ?_
    refine at_iload_n 26 X rfl rfl dX12_weightOf_25 rfl ?_
    refine m_aaloadV 27 X b (by omega) k_227 (by decide) (by omega) (rr_227 _ (by omega)) dX12_weightOf_26 rfl ?_
    refine at_iconst 28 X (by decide) dX12_weightOf_27 rfl ?_
    refine m_ialoadV 29 X 1 (by omega) ((bL (sB P) b : Nat) : Int) (hR_E.2.2.2.2.2.2 b (by omega)).2.1 (kr_227 _ (by omega)) (er_227 _ (by omega)) (by omega) dX12_weightOf_28 rfl ?_
    have := hP.B.L (b := b) (by omega)
    refine at_icmp_ge 32 49 X dX12_weightOf_29 rfl (by decide) (fun h29 => ?_) (fun h29 => ?_)
    · refine at_iload_n 50 X rfl rfl dX12_weightOf_49 rfl ?_
      refine at_iret X Rt ?_ (Nat.le_refl _) (Nat.le_refl _) dX12_weightOf_50
      obtain rfl : p = bL (sB P) b := by omega
      exact ⟨by rw [hv, ldsB_all], rfl⟩
    · refine at_iload_n 33 X rfl rfl dX12_weightOf_32 rfl ?_
      refine at_aload_n 34 X rfl rfl dX12_weightOf_33 rfl ?_
      refine m_getR 37 X f_X12_67 k_125 r_125_26 dX12_weightOf_34 rfl ?_
      refine at_iload_n 38 X rfl rfl dX12_weightOf_37 rfl ?_
      refine m_aaloadV 39 X b (by omega) k_245 (by decide) (by omega) (rr_245 _ (by omega)) dX12_weightOf_38 rfl ?_
      refine at_iload_n 40 X rfl rfl dX12_weightOf_39 rfl ?_
      refine m_ialoadV 41 X p (by omega) ((bD (sB P) b p : Nat) : Int) ((hR_E.2.2.2.2.2.2 b (by omega)).2.2.2 p (by omega)) (kr_245 _ (by omega)) (er_245 _ (by omega)) (by omega) dX12_weightOf_40 rfl ?_
      have := hP.B.D (b := b) (p := p) (by omega) (by omega)
      refine at_iaddV 42 X ((v + bD (sB P) b p : Nat) : Int) (w32_v (by omega) (by omega) (by omega)) dX12_weightOf_41 rfl ?_
      refine at_istore_n 43 X rfl dX12_weightOf_42 rfl (by decide) ?_
      refine at_iincV 46 X ((p + 1 : Nat) : Int) (w32_v (by omega) (by omega) (by omega)) rfl dX12_weightOf_43 rfl (by decide) ?_
      refine at_goto 20 X dX12_weightOf_46 (by decide) ?_
      exact at_sub _ (by exact ⟨rfl, rfl, rfl, rfl, trivial⟩) (ih20 (p + 1) (v + bD (sB P) b p) (by first | omega | (simp only [] at *; omega)) (by first | omega | assumption) (by rw [hv, Nat.add_assoc]; rfl))
  exact at_sub _ (by exact ⟨rfl, rfl, rfl, rfl, trivial⟩) (J20 _ 0 ((bL (sB P) b) * (bH (sB P) b)) (Nat.lt_succ_self _) (by first | omega | assumption | rfl) (by rw [Nat.mul_comm]; rfl))
theorem dX12_post_0 : decode cX12_post 0 = .ok (.aload_n 0, 1) := by decide +kernel
theorem dX12_post_1 : decode cX12_post 1 = .ok (.iconst 0, 1) := by decide +kernel
theorem dX12_post_2 : decode cX12_post 2 = .ok (.putfield 152, 3) := by decide +kernel
theorem dX12_post_5 : decode cX12_post 5 = .ok (.aload_n 0, 1) := by decide +kernel
theorem dX12_post_6 : decode cX12_post 6 = .ok (.aload_n 0, 1) := by decide +kernel
theorem dX12_post_7 : decode cX12_post 7 = .ok (.iload_n 1, 1) := by decide +kernel
theorem dX12_post_8 : decode cX12_post 8 = .ok (.invokevirtual 321, 3) := by decide +kernel
theorem dX12_post_11 : decode cX12_post 11 = .ok (.ifCond .ne 7, 3) := by decide +kernel
theorem dX12_post_14 : decode cX12_post 14 = .ok (.iconst 1, 1) := by decide +kernel
theorem dX12_post_15 : decode cX12_post 15 = .ok (.goto 4, 3) := by decide +kernel
theorem dX12_post_18 : decode cX12_post 18 = .ok (.iconst 0, 1) := by decide +kernel
theorem dX12_post_19 : decode cX12_post 19 = .ok (.iconst 1, 1) := by decide +kernel
theorem dX12_post_20 : decode cX12_post 20 = .ok (.iconst 1, 1) := by decide +kernel
theorem dX12_post_21 : decode cX12_post 21 = .ok (.invokevirtual 244, 3) := by decide +kernel
theorem dX12_post_24 : decode cX12_post 24 = .ok (.ifCond .ne 26, 3) := by decide +kernel
theorem dX12_post_27 : decode cX12_post 27 = .ok (.aload_n 0, 1) := by decide +kernel
theorem dX12_post_28 : decode cX12_post 28 = .ok (.iload_n 2, 1) := by decide +kernel
theorem dX12_post_29 : decode cX12_post 29 = .ok (.iconst 0, 1) := by decide +kernel
theorem dX12_post_30 : decode cX12_post 30 = .ok (.iconst 1, 1) := by decide +kernel
theorem dX12_post_31 : decode cX12_post 31 = .ok (.invokestatic 186, 3) := by decide +kernel
theorem dX12_post_34 : decode cX12_post 34 = .ok (.ifCond .ne 7, 3) := by decide +kernel
theorem dX12_post_37 : decode cX12_post 37 = .ok (.iconst 1, 1) := by decide +kernel
theorem dX12_post_38 : decode cX12_post 38 = .ok (.goto 4, 3) := by decide +kernel
theorem dX12_post_41 : decode cX12_post 41 = .ok (.iconst 0, 1) := by decide +kernel
theorem dX12_post_42 : decode cX12_post 42 = .ok (.iconst 2, 1) := by decide +kernel
theorem dX12_post_43 : decode cX12_post 43 = .ok (.iconst 2, 1) := by decide +kernel
theorem dX12_post_44 : decode cX12_post 44 = .ok (.invokevirtual 244, 3) := by decide +kernel
theorem dX12_post_47 : decode cX12_post 47 = .ok (.ifCond .eq 5, 3) := by decide +kernel
theorem dX12_post_50 : decode cX12_post 50 = .ok (.iconst 0, 1) := by decide +kernel
theorem dX12_post_51 : decode cX12_post 51 = .ok (.ireturn, 1) := by decide +kernel
theorem dX12_post_52 : decode cX12_post 52 = .ok (.aload_n 0, 1) := by decide +kernel
theorem dX12_post_53 : decode cX12_post 53 = .ok (.getfield 31, 3) := by decide +kernel
theorem dX12_post_56 : decode cX12_post 56 = .ok (.iload_n 1, 1) := by decide +kernel
theorem dX12_post_57 : decode cX12_post 57 = .ok (.aaload, 1) := by decide +kernel
theorem dX12_post_58 : decode cX12_post 58 = .ok (.iload_n 2, 1) := by decide +kernel
theorem dX12_post_59 : decode cX12_post 59 = .ok (.iaload, 1) := by decide +kernel
theorem dX12_post_60 : decode cX12_post 60 = .ok (.ireturn, 1) := by decide +kernel
theorem ct_X12_post {g : Gw} (hG : GF g) {z : Bool} (E : Mm) (Q : RX) (P : SP) (L : LW) (T K : LN) (d st : Nat) (hWf : WF P L T K d st) (hI_E : RXI E Q P L T K d st) (x0 x1 : Int) : CT g yX12_post cX12_post 3 (some .int) 2 43 0 0 K2 z [mR 125, mI x0, mI x1] (ov E) K2 z (fun r' D' => ((0 ≤ x0 ∧ x0 ≤ (sN P : Int) - 1) ∧ (0 ≤ x1 ∧ x1 ≤ 1) ∧ r' = some (mI (if x1 = 0 then (sX P x0.toNat : Int) else (sH P x0.toNat : Int))) ∧ ∃ E1, D' = ov E1 ∧ RXO E E1 Q P L T K d st) ∨ (¬ (0 ≤ x0 ∧ x0 ≤ (sN P : Int) - 1) ∧ r' = some (mI 0) ∧ D' = ov (badR E 1 1)) ∨ ((0 ≤ x0 ∧ x0 ≤ (sN P : Int) - 1) ∧ ¬ (0 ≤ x1 ∧ x1 ≤ 1) ∧ r' = some (mI 0) ∧ D' = ov (badR E 2 2))) := by
  refine CT.mk hG (by decide +kernel) (Nat.le_of_ble_eq_true rfl) (fun κ X Rt _ ok => ?_)
  have hP := hWf.1
  have hN8 := hP.B.N
  have hW40 := hP.W
  have hN11 := hP.N
  have hwN : gN (gDay P L d) ≤ 11 := Nat.le_trans hP.N (by decide)
  have hgw : gW (gDay P L d) = sW P := rfl
  have hDI24 := dyP_DI (G := (gDay P L d)) hP.B hWf.2.2.2.1 (Nat.le_refl 24)
  refine at_aload_n 1 X rfl rfl dX12_post_0 rfl ?_
  refine at_iconst 2 X (by decide) dX12_post_1 rfl ?_
  refine m_putI 5 X f_X12_152 fw_12_0 k_125 rn_125_0 dX12_post_2 rfl ?_
  have hO_E0 := RXO.z hWf hI_E
  generalize hE0 : wr E 125 0 0 = E0 at hO_E0 ⊢
  have hR_E0 := hO_E0.1.1
  refine at_aload_n 6 X rfl rfl dX12_post_5 rfl ?_
  refine at_aload_n 7 X rfl rfl dX12_post_6 rfl ?_
  refine at_iload_n 8 X rfl rfl dX12_post_7 rfl ?_
  refine at_callV 11 X _ 12 (ct_X12_isPost hG E0 P Q hP hR_E0 x0) clX12 rfl k_125 mo_X12_isPost w_2114 vo_X12_isPost.1 vo_X12_isPost.2 rfl rfl (crm Rt (by decide)) (Nat.le_of_ble_eq_true rfl) dX12_post_8 rfl ?_
  rintro _ _ ⟨rfl, rfl⟩
  refine at_if_ne 14 18 X dX12_post_11 rfl (by decide) (fun h11 => ?_) (fun h11 => ?_)
  · have h11 : (0 ≤ x0 ∧ x0 ≤ (sN P : Int) - 1) := ite_yes.mp h11
    refine at_iconst 19 X (by decide) dX12_post_18 rfl ?_
    refine at_iconst 20 X (by decide) dX12_post_19 rfl ?_
    refine at_iconst 21 X (by decide) dX12_post_20 rfl ?_
    refine at_callV 24 X _ 12 (ct_bad0 hG E0 1 1 (by decide) hO_E0.2.2.1) clX12 rfl k_125 mo_X12_bad w_1960 vo_X12_bad.1 vo_X12_bad.2 rfl rfl (crm Rt (by decide)) (Nat.le_of_ble_eq_true rfl) dX12_post_21 rfl ?_
    rintro _ _ ⟨rfl, rfl⟩
    have hc0 : 0 ≤ x0 ∧ x0 ≤ (sN P : Int) - 1 := by omega
    refine at_if_ne 27 50 X dX12_post_24 rfl (by decide) (fun h24 => ?_) (fun h24 => ?_)
    · exact absurd h24 (by decide)
    · refine at_aload_n 28 X rfl rfl dX12_post_27 rfl ?_
      refine at_iload_n 29 X rfl rfl dX12_post_28 rfl ?_
      refine at_iconst 30 X (by decide) dX12_post_29 rfl ?_
      refine at_iconst 31 X (by decide) dX12_post_30 rfl ?_
      refine at_callS 34 X (ct_X12_in hG _ _ _) mo_X12_in w_1957 so_X12_in rfl rfl (crm Rt (by decide)) (Nat.le_of_ble_eq_true rfl) dX12_post_31 rfl ?_
      rintro _ _ ⟨rfl, rfl⟩
      refine at_if_ne 37 41 X dX12_post_34 rfl (by decide) (fun h34 => ?_) (fun h34 => ?_)
      · have h34 : (0 ≤ x1 ∧ x1 ≤ 1) := ite_yes.mp h34
        refine at_iconst 42 X (by decide) dX12_post_41 rfl ?_
        refine at_iconst 43 X (by decide) dX12_post_42 rfl ?_
        refine at_iconst 44 X (by decide) dX12_post_43 rfl ?_
        refine at_callV 47 X _ 12 (ct_bad0 hG E0 2 2 (by decide) hO_E0.2.2.1) clX12 rfl k_125 mo_X12_bad w_1960 vo_X12_bad.1 vo_X12_bad.2 rfl rfl (crm Rt (by decide)) (Nat.le_of_ble_eq_true rfl) dX12_post_44 rfl ?_
        rintro _ _ ⟨rfl, rfl⟩
        have hc1 : 0 ≤ x1 ∧ x1 ≤ 1 := by omega
        refine at_if_eq 50 52 X dX12_post_47 rfl (by decide) (fun h47 => ?_) (fun h47 => ?_)
        · obtain ⟨p, rfl⟩ : ∃ p : Nat, x0 = (p : Int) := ⟨x0.toNat, by omega⟩
          refine at_aload_n 53 X rfl rfl dX12_post_52 rfl ?_
          refine m_getR 56 X f_X12_31 k_125 r_125_14 dX12_post_53 rfl ?_
          refine at_iload_n 57 X rfl rfl dX12_post_56 rfl ?_
          refine m_aaloadV 58 X p (by omega) k_141 (by decide) (by omega) (rr_141 _ (by omega)) dX12_post_57 rfl ?_
          refine at_iload_n 59 X rfl rfl dX12_post_58 rfl ?_
          refine m_ialoadV 60 X x1.toNat (by omega) (E0 (142 + p) x1.toNat) rfl (kr_141 _ (by omega)) (er_141 _ (by omega)) (by omega) dX12_post_59 rfl ?_
          refine at_iret X Rt ?_ (Nat.le_refl _) (Nat.le_refl _) dX12_post_60
          exact Or.inl ⟨hc0, hc1, (by have hq := hR_E0.2.1 p (by omega); rcases (show x1 = 0 ∨ x1 = 1 by omega) with rfl | rfl <;> first | exact congrArg (fun q => some (mI q)) hq.1 | exact congrArg (fun q => some (mI q)) hq.2), _, rfl, hO_E0⟩
        · exact absurd h47 (by decide)
      · have h34 : ¬ (0 ≤ x1 ∧ x1 ≤ 1) := ite_no.mp h34
        refine at_iconst 38 X (by decide) dX12_post_37 rfl ?_
        refine at_goto 42 X dX12_post_38 (by decide) ?_
        refine at_iconst 43 X (by decide) dX12_post_42 rfl ?_
        refine at_iconst 44 X (by decide) dX12_post_43 rfl ?_
        refine at_callV 47 X _ 12 (ct_bad1 hG E0 2 2 (by decide) hO_E0.2.2.1 (by decide)) clX12 rfl k_125 mo_X12_bad w_1960 vo_X12_bad.1 vo_X12_bad.2 rfl rfl (crm Rt (by decide)) (Nat.le_of_ble_eq_true rfl) dX12_post_44 rfl ?_
        rintro _ _ ⟨rfl, rfl⟩
        have hb : ¬ (0 ≤ x1 ∧ x1 ≤ 1) := by omega
        refine at_if_eq 50 52 X dX12_post_47 rfl (by decide) (fun h47 => ?_) (fun h47 => ?_)
        · exact absurd h47 (by decide)
        · refine at_iconst 51 X (by decide) dX12_post_50 rfl ?_
          refine at_iret X Rt ?_ (Nat.le_refl _) (Nat.le_refl _) dX12_post_51
          exact Or.inr (Or.inr (⟨hc0, hb, rfl, congrArg ov (badR_of hE0)⟩))
  · have h11 : ¬ (0 ≤ x0 ∧ x0 ≤ (sN P : Int) - 1) := ite_no.mp h11
    refine at_iconst 15 X (by decide) dX12_post_14 rfl ?_
    refine at_goto 19 X dX12_post_15 (by decide) ?_
    refine at_iconst 20 X (by decide) dX12_post_19 rfl ?_
    refine at_iconst 21 X (by decide) dX12_post_20 rfl ?_
    refine at_callV 24 X _ 12 (ct_bad1 hG E0 1 1 (by decide) hO_E0.2.2.1 (by decide)) clX12 rfl k_125 mo_X12_bad w_1960 vo_X12_bad.1 vo_X12_bad.2 rfl rfl (crm Rt (by decide)) (Nat.le_of_ble_eq_true rfl) dX12_post_21 rfl ?_
    rintro _ _ ⟨rfl, rfl⟩
    have hb : ¬ (0 ≤ x0 ∧ x0 ≤ (sN P : Int) - 1) := by omega
    refine at_if_ne 27 50 X dX12_post_24 rfl (by decide) (fun h24 => ?_) (fun h24 => ?_)
    · refine at_iconst 51 X (by decide) dX12_post_50 rfl ?_
      refine at_iret X Rt ?_ (Nat.le_refl _) (Nat.le_refl _) dX12_post_51
      exact Or.inr (Or.inl ⟨hb, rfl, congrArg ov (badR_of hE0)⟩)
    · exact absurd h24 (by decide)
theorem dX12_beam_0 : decode cX12_beam 0 = .ok (.aload_n 0, 1) := by decide +kernel
theorem dX12_beam_1 : decode cX12_beam 1 = .ok (.iconst 0, 1) := by decide +kernel
theorem dX12_beam_2 : decode cX12_beam 2 = .ok (.putfield 152, 3) := by decide +kernel
theorem dX12_beam_5 : decode cX12_beam 5 = .ok (.aload_n 0, 1) := by decide +kernel
theorem dX12_beam_6 : decode cX12_beam 6 = .ok (.aload_n 0, 1) := by decide +kernel
theorem dX12_beam_7 : decode cX12_beam 7 = .ok (.iload_n 1, 1) := by decide +kernel
theorem dX12_beam_8 : decode cX12_beam 8 = .ok (.invokevirtual 324, 3) := by decide +kernel
theorem dX12_beam_11 : decode cX12_beam 11 = .ok (.ifCond .ne 7, 3) := by decide +kernel
theorem dX12_beam_14 : decode cX12_beam 14 = .ok (.iconst 1, 1) := by decide +kernel
theorem dX12_beam_15 : decode cX12_beam 15 = .ok (.goto 4, 3) := by decide +kernel
theorem dX12_beam_18 : decode cX12_beam 18 = .ok (.iconst 0, 1) := by decide +kernel
theorem dX12_beam_19 : decode cX12_beam 19 = .ok (.iconst 1, 1) := by decide +kernel
theorem dX12_beam_20 : decode cX12_beam 20 = .ok (.iconst 1, 1) := by decide +kernel
theorem dX12_beam_21 : decode cX12_beam 21 = .ok (.invokevirtual 244, 3) := by decide +kernel
theorem dX12_beam_24 : decode cX12_beam 24 = .ok (.ifCond .ne 26, 3) := by decide +kernel
theorem dX12_beam_27 : decode cX12_beam 27 = .ok (.aload_n 0, 1) := by decide +kernel
theorem dX12_beam_28 : decode cX12_beam 28 = .ok (.iload_n 2, 1) := by decide +kernel
theorem dX12_beam_29 : decode cX12_beam 29 = .ok (.iconst 0, 1) := by decide +kernel
theorem dX12_beam_30 : decode cX12_beam 30 = .ok (.iconst 3, 1) := by decide +kernel
theorem dX12_beam_31 : decode cX12_beam 31 = .ok (.invokestatic 186, 3) := by decide +kernel
theorem dX12_beam_34 : decode cX12_beam 34 = .ok (.ifCond .ne 7, 3) := by decide +kernel
theorem dX12_beam_37 : decode cX12_beam 37 = .ok (.iconst 1, 1) := by decide +kernel
theorem dX12_beam_38 : decode cX12_beam 38 = .ok (.goto 4, 3) := by decide +kernel
theorem dX12_beam_41 : decode cX12_beam 41 = .ok (.iconst 0, 1) := by decide +kernel
theorem dX12_beam_42 : decode cX12_beam 42 = .ok (.iconst 2, 1) := by decide +kernel
theorem dX12_beam_43 : decode cX12_beam 43 = .ok (.iconst 2, 1) := by decide +kernel
theorem dX12_beam_44 : decode cX12_beam 44 = .ok (.invokevirtual 244, 3) := by decide +kernel
theorem dX12_beam_47 : decode cX12_beam 47 = .ok (.ifCond .eq 5, 3) := by decide +kernel
theorem dX12_beam_50 : decode cX12_beam 50 = .ok (.iconst 0, 1) := by decide +kernel
theorem dX12_beam_51 : decode cX12_beam 51 = .ok (.ireturn, 1) := by decide +kernel
theorem dX12_beam_52 : decode cX12_beam 52 = .ok (.iload_n 2, 1) := by decide +kernel
theorem dX12_beam_53 : decode cX12_beam 53 = .ok (.iconst 3, 1) := by decide +kernel
theorem dX12_beam_54 : decode cX12_beam 54 = .ok (.if_icmp .ge 14, 3) := by decide +kernel
theorem dX12_beam_57 : decode cX12_beam 57 = .ok (.aload_n 0, 1) := by decide +kernel
theorem dX12_beam_58 : decode cX12_beam 58 = .ok (.getfield 61, 3) := by decide +kernel
theorem dX12_beam_61 : decode cX12_beam 61 = .ok (.iload_n 1, 1) := by decide +kernel
theorem dX12_beam_62 : decode cX12_beam 62 = .ok (.aaload, 1) := by decide +kernel
theorem dX12_beam_63 : decode cX12_beam 63 = .ok (.iload_n 2, 1) := by decide +kernel
theorem dX12_beam_64 : decode cX12_beam 64 = .ok (.iaload, 1) := by decide +kernel
theorem dX12_beam_65 : decode cX12_beam 65 = .ok (.goto 8, 3) := by decide +kernel
theorem dX12_beam_68 : decode cX12_beam 68 = .ok (.aload_n 0, 1) := by decide +kernel
theorem dX12_beam_69 : decode cX12_beam 69 = .ok (.iload_n 1, 1) := by decide +kernel
theorem dX12_beam_70 : decode cX12_beam 70 = .ok (.invokevirtual 327, 3) := by decide +kernel
theorem dX12_beam_73 : decode cX12_beam 73 = .ok (.ireturn, 1) := by decide +kernel
theorem ct_X12_beam {g : Gw} (hG : GF g) {z : Bool} (E : Mm) (Q : RX) (P : SP) (L : LW) (T K : LN) (d st : Nat) (hWf : WF P L T K d st) (hI_E : RXI E Q P L T K d st) (x0 x1 : Int) : CT g yX12_beam cX12_beam 3 (some .int) 2 43 0 0 K2 z [mR 125, mI x0, mI x1] (ov E) K2 z (fun r' D' => ((0 ≤ x0 ∧ x0 ≤ (bN (sB P) : Int) - 1) ∧ (0 ≤ x1 ∧ x1 ≤ 3) ∧ r' = some (mI (if x1 = 0 then (bX (sB P) x0.toNat : Int) else if x1 = 1 then (bL (sB P) x0.toNat : Int) else if x1 = 2 then (bH (sB P) x0.toNat : Int) else (allB (sB P) x0.toNat (bL (sB P) x0.toNat) : Int))) ∧ ∃ E1, D' = ov E1 ∧ RXO E E1 Q P L T K d st) ∨ (¬ (0 ≤ x0 ∧ x0 ≤ (bN (sB P) : Int) - 1) ∧ r' = some (mI 0) ∧ D' = ov (badR E 1 1)) ∨ ((0 ≤ x0 ∧ x0 ≤ (bN (sB P) : Int) - 1) ∧ ¬ (0 ≤ x1 ∧ x1 ≤ 3) ∧ r' = some (mI 0) ∧ D' = ov (badR E 2 2))) := by
  refine CT.mk hG (by decide +kernel) (Nat.le_of_ble_eq_true rfl) (fun κ X Rt _ ok => ?_)
  have hP := hWf.1
  have hN8 := hP.B.N
  have hW40 := hP.W
  have hN11 := hP.N
  have hwN : gN (gDay P L d) ≤ 11 := Nat.le_trans hP.N (by decide)
  have hgw : gW (gDay P L d) = sW P := rfl
  have hDI24 := dyP_DI (G := (gDay P L d)) hP.B hWf.2.2.2.1 (Nat.le_refl 24)
  refine at_aload_n 1 X rfl rfl dX12_beam_0 rfl ?_
  refine at_iconst 2 X (by decide) dX12_beam_1 rfl ?_
  refine m_putI 5 X f_X12_152 fw_12_0 k_125 rn_125_0 dX12_beam_2 rfl ?_
  have hO_E0 := RXO.z hWf hI_E
  generalize hE0 : wr E 125 0 0 = E0 at hO_E0 ⊢
  have hR_E0 := hO_E0.1.1
  refine at_aload_n 6 X rfl rfl dX12_beam_5 rfl ?_
  refine at_aload_n 7 X rfl rfl dX12_beam_6 rfl ?_
  refine at_iload_n 8 X rfl rfl dX12_beam_7 rfl ?_
  refine at_callV 11 X _ 12 (ct_X12_isBeam hG E0 P Q hP hR_E0 x0) clX12 rfl k_125 mo_X12_isBeam w_2122 vo_X12_isBeam.1 vo_X12_isBeam.2 rfl rfl (crm Rt (by decide)) (Nat.le_of_ble_eq_true rfl) dX12_beam_8 rfl ?_
  rintro _ _ ⟨rfl, rfl⟩
  refine at_if_ne 14 18 X dX12_beam_11 rfl (by decide) (fun h11 => ?_) (fun h11 => ?_)
  · have h11 : (0 ≤ x0 ∧ x0 ≤ (bN (sB P) : Int) - 1) := ite_yes.mp h11
    refine at_iconst 19 X (by decide) dX12_beam_18 rfl ?_
    refine at_iconst 20 X (by decide) dX12_beam_19 rfl ?_
    refine at_iconst 21 X (by decide) dX12_beam_20 rfl ?_
    refine at_callV 24 X _ 12 (ct_bad0 hG E0 1 1 (by decide) hO_E0.2.2.1) clX12 rfl k_125 mo_X12_bad w_1960 vo_X12_bad.1 vo_X12_bad.2 rfl rfl (crm Rt (by decide)) (Nat.le_of_ble_eq_true rfl) dX12_beam_21 rfl ?_
    rintro _ _ ⟨rfl, rfl⟩
    have hc0 : 0 ≤ x0 ∧ x0 ≤ (bN (sB P) : Int) - 1 := by omega
    refine at_if_ne 27 50 X dX12_beam_24 rfl (by decide) (fun h24 => ?_) (fun h24 => ?_)
    · exact absurd h24 (by decide)
    · refine at_aload_n 28 X rfl rfl dX12_beam_27 rfl ?_
      refine at_iload_n 29 X rfl rfl dX12_beam_28 rfl ?_
      refine at_iconst 30 X (by decide) dX12_beam_29 rfl ?_
      refine at_iconst 31 X (by decide) dX12_beam_30 rfl ?_
      refine at_callS 34 X (ct_X12_in hG _ _ _) mo_X12_in w_1957 so_X12_in rfl rfl (crm Rt (by decide)) (Nat.le_of_ble_eq_true rfl) dX12_beam_31 rfl ?_
      rintro _ _ ⟨rfl, rfl⟩
      refine at_if_ne 37 41 X dX12_beam_34 rfl (by decide) (fun h34 => ?_) (fun h34 => ?_)
      · have h34 : (0 ≤ x1 ∧ x1 ≤ 3) := ite_yes.mp h34
        refine at_iconst 42 X (by decide) dX12_beam_41 rfl ?_
        refine at_iconst 43 X (by decide) dX12_beam_42 rfl ?_
        refine at_iconst 44 X (by decide) dX12_beam_43 rfl ?_
        refine at_callV 47 X _ 12 (ct_bad0 hG E0 2 2 (by decide) hO_E0.2.2.1) clX12 rfl k_125 mo_X12_bad w_1960 vo_X12_bad.1 vo_X12_bad.2 rfl rfl (crm Rt (by decide)) (Nat.le_of_ble_eq_true rfl) dX12_beam_44 rfl ?_
        rintro _ _ ⟨rfl, rfl⟩
        have hc1 : 0 ≤ x1 ∧ x1 ≤ 3 := by omega
        refine at_if_eq 50 52 X dX12_beam_47 rfl (by decide) (fun h47 => ?_) (fun h47 => ?_)
        · obtain ⟨p, rfl⟩ : ∃ p : Nat, x0 = (p : Int) := ⟨x0.toNat, by omega⟩
          refine at_iload_n 53 X rfl rfl dX12_beam_52 rfl ?_
          refine at_iconst 54 X (by decide) dX12_beam_53 rfl ?_
          refine at_icmp_ge 57 68 X dX12_beam_54 rfl (by decide) (fun h54 => ?_) (fun h54 => ?_)
          · refine at_aload_n 69 X rfl rfl dX12_beam_68 rfl ?_
            refine at_iload_n 70 X rfl rfl dX12_beam_69 rfl ?_
            refine at_callV 73 X _ 12 (ct_X12_weightOf hG E0 P Q hP hR_E0 p (by omega)) clX12 rfl k_125 mo_X12_weightOf w_2126 vo_X12_weightOf.1 vo_X12_weightOf.2 rfl rfl (crm Rt (by decide)) (Nat.le_of_ble_eq_true rfl) dX12_beam_70 rfl ?_
            rintro _ _ ⟨rfl, rfl⟩
            refine at_iret X Rt ?_ (Nat.le_refl _) (Nat.le_refl _) dX12_beam_73
            exact Or.inl ⟨hc0, hc1, (by rw [if_neg (show ¬ x1 = 0 by omega), if_neg (show ¬ x1 = 1 by omega), if_neg (show ¬ x1 = 2 by omega)]; rfl), _, rfl, hO_E0⟩
          · refine at_aload_n 58 X rfl rfl dX12_beam_57 rfl ?_
            refine m_getR 61 X f_X12_61 k_125 r_125_24 dX12_beam_58 rfl ?_
            refine at_iload_n 62 X rfl rfl dX12_beam_61 rfl ?_
            refine m_aaloadV 63 X p (by omega) k_227 (by decide) (by omega) (rr_227 _ (by omega)) dX12_beam_62 rfl ?_
            refine at_iload_n 64 X rfl rfl dX12_beam_63 rfl ?_
            refine m_ialoadV 65 X x1.toNat (by omega) (E0 (228 + p) x1.toNat) rfl (kr_227 _ (by omega)) (er_227 _ (by omega)) (by omega) dX12_beam_64 rfl ?_
            refine at_goto 73 X dX12_beam_65 (by decide) ?_
            refine at_iret X Rt ?_ (Nat.le_refl _) (Nat.le_refl _) dX12_beam_73
            exact Or.inl ⟨hc0, hc1, (by have hq := hR_E0.2.2.2.2.2.2 p (by omega); rcases (show x1 = 0 ∨ x1 = 1 ∨ x1 = 2 by omega) with rfl | rfl | rfl <;> first | exact congrArg (fun q => some (mI q)) hq.1 | exact congrArg (fun q => some (mI q)) hq.2.1 | exact congrArg (fun q => some (mI q)) hq.2.2.1), _, rfl, hO_E0⟩
        · exact absurd h47 (by decide)
      · have h34 : ¬ (0 ≤ x1 ∧ x1 ≤ 3) := ite_no.mp h34
        refine at_iconst 38 X (by decide) dX12_beam_37 rfl ?_
        refine at_goto 42 X dX12_beam_38 (by decide) ?_
        refine at_iconst 43 X (by decide) dX12_beam_42 rfl ?_
        refine at_iconst 44 X (by decide) dX12_beam_43 rfl ?_
        refine at_callV 47 X _ 12 (ct_bad1 hG E0 2 2 (by decide) hO_E0.2.2.1 (by decide)) clX12 rfl k_125 mo_X12_bad w_1960 vo_X12_bad.1 vo_X12_bad.2 rfl rfl (crm Rt (by decide)) (Nat.le_of_ble_eq_true rfl) dX12_beam_44 rfl ?_
        rintro _ _ ⟨rfl, rfl⟩
        have hb : ¬ (0 ≤ x1 ∧ x1 ≤ 3) := by omega
        refine at_if_eq 50 52 X dX12_beam_47 rfl (by decide) (fun h47 => ?_) (fun h47 => ?_)
        · exact absurd h47 (by decide)
        · refine at_iconst 51 X (by decide) dX12_beam_50 rfl ?_
          refine at_iret X Rt ?_ (Nat.le_refl _) (Nat.le_refl _) dX12_beam_51
          exact Or.inr (Or.inr (⟨hc0, hb, rfl, congrArg ov (badR_of hE0)⟩))
  · have h11 : ¬ (0 ≤ x0 ∧ x0 ≤ (bN (sB P) : Int) - 1) := ite_no.mp h11
    refine at_iconst 15 X (by decide) dX12_beam_14 rfl ?_
    refine at_goto 19 X dX12_beam_15 (by decide) ?_
    refine at_iconst 20 X (by decide) dX12_beam_19 rfl ?_
    refine at_iconst 21 X (by decide) dX12_beam_20 rfl ?_
    refine at_callV 24 X _ 12 (ct_bad1 hG E0 1 1 (by decide) hO_E0.2.2.1 (by decide)) clX12 rfl k_125 mo_X12_bad w_1960 vo_X12_bad.1 vo_X12_bad.2 rfl rfl (crm Rt (by decide)) (Nat.le_of_ble_eq_true rfl) dX12_beam_21 rfl ?_
    rintro _ _ ⟨rfl, rfl⟩
    have hb : ¬ (0 ≤ x0 ∧ x0 ≤ (bN (sB P) : Int) - 1) := by omega
    refine at_if_ne 27 50 X dX12_beam_24 rfl (by decide) (fun h24 => ?_) (fun h24 => ?_)
    · refine at_iconst 51 X (by decide) dX12_beam_50 rfl ?_
      refine at_iret X Rt ?_ (Nat.le_refl _) (Nat.le_refl _) dX12_beam_51
      exact Or.inr (Or.inl ⟨hb, rfl, congrArg ov (badR_of hE0)⟩)
    · exact absurd h24 (by decide)
theorem ct_X12_lightOf {g : Gw} (hG : GF g) {z : Bool} (E : Mm) (P : SP) (Q : RX) (hP : WS P) (hR_E : RTS E P Q) (h d : Nat) (x : Int) (hh : h < 24) (hd : d < 400) (hx : 0 ≤ x ∧ x ≤ 2) : CT g yX12_lightOf cX12_lightOf 6 (some .int) 1 23 0 0 K2 z [mR 125, mI ((h : Nat) : Int), mI ((d : Nat) : Int), mI x] (ov E) K2 z (fun r D' => r = some (mI (if x = 0 then (lkP P (moonP P d) h : Int) else if x = 1 then (ltP P (moonP P d) h : Int) else if lrP P (moonP P d) h then 1 else 0)) ∧ D' = ov E) := by
  rcases (show x = 0 ∨ x = 1 ∨ x = 2 by omega) with rfl | rfl | rfl
  · exact ct_X12_lightOf0 hG E P Q hP hR_E h d hh hd
  · exact ct_X12_lightOf1 hG E P Q hP hR_E h d hh hd
  · exact ct_X12_lightOf2 hG E P Q hP hR_E h d hh hd
theorem dX12_light_0 : decode cX12_light 0 = .ok (.aload_n 0, 1) := by decide +kernel
theorem dX12_light_1 : decode cX12_light 1 = .ok (.iconst 0, 1) := by decide +kernel
theorem dX12_light_2 : decode cX12_light 2 = .ok (.putfield 152, 3) := by decide +kernel
theorem dX12_light_5 : decode cX12_light 5 = .ok (.aload_n 0, 1) := by decide +kernel
theorem dX12_light_6 : decode cX12_light 6 = .ok (.iload_n 1, 1) := by decide +kernel
theorem dX12_light_7 : decode cX12_light 7 = .ok (.invokestatic 314, 3) := by decide +kernel
theorem dX12_light_10 : decode cX12_light 10 = .ok (.ifCond .eq 12, 3) := by decide +kernel
theorem dX12_light_13 : decode cX12_light 13 = .ok (.iload_n 2, 1) := by decide +kernel
theorem dX12_light_14 : decode cX12_light 14 = .ok (.iconst 0, 1) := by decide +kernel
theorem dX12_light_15 : decode cX12_light 15 = .ok (.iconst 2, 1) := by decide +kernel
theorem dX12_light_16 : decode cX12_light 16 = .ok (.invokestatic 186, 3) := by decide +kernel
theorem dX12_light_19 : decode cX12_light 19 = .ok (.ifCond .ne 7, 3) := by decide +kernel
theorem dX12_light_22 : decode cX12_light 22 = .ok (.iconst 1, 1) := by decide +kernel
theorem dX12_light_23 : decode cX12_light 23 = .ok (.goto 4, 3) := by decide +kernel
theorem dX12_light_26 : decode cX12_light 26 = .ok (.iconst 0, 1) := by decide +kernel
theorem dX12_light_27 : decode cX12_light 27 = .ok (.iconst 1, 1) := by decide +kernel
theorem dX12_light_28 : decode cX12_light 28 = .ok (.iconst 2, 1) := by decide +kernel
theorem dX12_light_29 : decode cX12_light 29 = .ok (.invokevirtual 244, 3) := by decide +kernel
theorem dX12_light_32 : decode cX12_light 32 = .ok (.ifCond .eq 5, 3) := by decide +kernel
theorem dX12_light_35 : decode cX12_light 35 = .ok (.iconst 0, 1) := by decide +kernel
theorem dX12_light_36 : decode cX12_light 36 = .ok (.ireturn, 1) := by decide +kernel
theorem dX12_light_37 : decode cX12_light 37 = .ok (.aload_n 0, 1) := by decide +kernel
theorem dX12_light_38 : decode cX12_light 38 = .ok (.invokevirtual 336, 3) := by decide +kernel
theorem dX12_light_41 : decode cX12_light 41 = .ok (.iload_n 1, 1) := by decide +kernel
theorem dX12_light_42 : decode cX12_light 42 = .ok (.ishr, 1) := by decide +kernel
theorem dX12_light_43 : decode cX12_light 43 = .ok (.iconst 1, 1) := by decide +kernel
theorem dX12_light_44 : decode cX12_light 44 = .ok (.iand, 1) := by decide +kernel
theorem dX12_light_45 : decode cX12_light 45 = .ok (.iconst 1, 1) := by decide +kernel
theorem dX12_light_46 : decode cX12_light 46 = .ok (.if_icmp .ne 7, 3) := by decide +kernel
theorem dX12_light_49 : decode cX12_light 49 = .ok (.iconst 0, 1) := by decide +kernel
theorem dX12_light_50 : decode cX12_light 50 = .ok (.goto 13, 3) := by decide +kernel
theorem dX12_light_53 : decode cX12_light 53 = .ok (.aload_n 0, 1) := by decide +kernel
theorem dX12_light_54 : decode cX12_light 54 = .ok (.iload_n 1, 1) := by decide +kernel
theorem dX12_light_55 : decode cX12_light 55 = .ok (.aload_n 0, 1) := by decide +kernel
theorem dX12_light_56 : decode cX12_light 56 = .ok (.getfield 267, 3) := by decide +kernel
theorem dX12_light_59 : decode cX12_light 59 = .ok (.iload_n 2, 1) := by decide +kernel
theorem dX12_light_60 : decode cX12_light 60 = .ok (.invokevirtual 348, 3) := by decide +kernel
theorem dX12_light_63 : decode cX12_light 63 = .ok (.ireturn, 1) := by decide +kernel
theorem ct_X12_light {g : Gw} (hG : GF g) {z : Bool} (E : Mm) (Q : RX) (P : SP) (L : LW) (T K : LN) (d st : Nat) (hWf : WF P L T K d st) (hI_E : RXI E Q P L T K d st) (x0 x1 : Int) : CT g yX12_light cX12_light 3 (some .int) 2 48 0 0 K2 z [mR 125, mI x0, mI x1] (ov E) K2 z (fun r' D' => (((0 ≤ x0 ∧ x0 ≤ 23) ∧ (0 ≤ x1 ∧ x1 ≤ 2)) ∧ r' = some (mI (if sC P x0.toNat then 0 else if x1 = 0 then (lkP P (moonP P d) x0.toNat : Int) else if x1 = 1 then (ltP P (moonP P d) x0.toNat : Int) else if lrP P (moonP P d) x0.toNat then 1 else 0)) ∧ ∃ E1, D' = ov E1 ∧ RXO E E1 Q P L T K d st) ∨ (¬ ((0 ≤ x0 ∧ x0 ≤ 23) ∧ (0 ≤ x1 ∧ x1 ≤ 2)) ∧ r' = some (mI 0) ∧ D' = ov (badR E 1 2))) := by
  refine CT.mk hG (by decide +kernel) (Nat.le_of_ble_eq_true rfl) (fun κ X Rt _ ok => ?_)
  have hP := hWf.1
  have hN8 := hP.B.N
  have hW40 := hP.W
  have hN11 := hP.N
  have hwN : gN (gDay P L d) ≤ 11 := Nat.le_trans hP.N (by decide)
  have hgw : gW (gDay P L d) = sW P := rfl
  have hDI24 := dyP_DI (G := (gDay P L d)) hP.B hWf.2.2.2.1 (Nat.le_refl 24)
  refine at_aload_n 1 X rfl rfl dX12_light_0 rfl ?_
  refine at_iconst 2 X (by decide) dX12_light_1 rfl ?_
  refine m_putI 5 X f_X12_152 fw_12_0 k_125 rn_125_0 dX12_light_2 rfl ?_
  have hO_E0 := RXO.z hWf hI_E
  generalize hE0 : wr E 125 0 0 = E0 at hO_E0 ⊢
  have hR_E0 := hO_E0.1.1
  refine at_aload_n 6 X rfl rfl dX12_light_5 rfl ?_
  refine at_iload_n 7 X rfl rfl dX12_light_6 rfl ?_
  refine at_callS 10 X (ct_X12_isHour hG E0 x0) mo_X12_isHour w_2074 so_X12_isHour rfl rfl (crm Rt (by decide)) (Nat.le_of_ble_eq_true rfl) dX12_light_7 rfl ?_
  rintro _ _ ⟨rfl, rfl⟩
  refine at_if_eq 13 22 X dX12_light_10 rfl (by decide) (fun h10 => ?_) (fun h10 => ?_)
  · have h10 : ¬ (0 ≤ x0 ∧ x0 ≤ 23) := ite_no.mp h10
    refine at_iconst 23 X (by decide) dX12_light_22 rfl ?_
    refine at_goto 27 X dX12_light_23 (by decide) ?_
    refine at_iconst 28 X (by decide) dX12_light_27 rfl ?_
    refine at_iconst 29 X (by decide) dX12_light_28 rfl ?_
    refine at_callV 32 X _ 12 (ct_bad1 hG E0 1 2 (by decide) hO_E0.2.2.1 (by decide)) clX12 rfl k_125 mo_X12_bad w_1960 vo_X12_bad.1 vo_X12_bad.2 rfl rfl (crm Rt (by decide)) (Nat.le_of_ble_eq_true rfl) dX12_light_29 rfl ?_
    rintro _ _ ⟨rfl, rfl⟩
    have hb : ¬ ((0 ≤ x0 ∧ x0 ≤ 23) ∧ (0 ≤ x1 ∧ x1 ≤ 2)) := by omega
    refine at_if_eq 35 37 X dX12_light_32 rfl (by decide) (fun h32 => ?_) (fun h32 => ?_)
    · exact absurd h32 (by decide)
    · refine at_iconst 36 X (by decide) dX12_light_35 rfl ?_
      refine at_iret X Rt ?_ (Nat.le_refl _) (Nat.le_refl _) dX12_light_36
      exact Or.inr (⟨hb, rfl, congrArg ov (badR_of hE0)⟩)
  · have h10 : (0 ≤ x0 ∧ x0 ≤ 23) := ite_yes.mp h10
    refine at_iload_n 14 X rfl rfl dX12_light_13 rfl ?_
    refine at_iconst 15 X (by decide) dX12_light_14 rfl ?_
    refine at_iconst 16 X (by decide) dX12_light_15 rfl ?_
    refine at_callS 19 X (ct_X12_in hG _ _ _) mo_X12_in w_1957 so_X12_in rfl rfl (crm Rt (by decide)) (Nat.le_of_ble_eq_true rfl) dX12_light_16 rfl ?_
    rintro _ _ ⟨rfl, rfl⟩
    refine at_if_ne 22 26 X dX12_light_19 rfl (by decide) (fun h19 => ?_) (fun h19 => ?_)
    · have h19 : (0 ≤ x1 ∧ x1 ≤ 2) := ite_yes.mp h19
      refine at_iconst 27 X (by decide) dX12_light_26 rfl ?_
      refine at_iconst 28 X (by decide) dX12_light_27 rfl ?_
      refine at_iconst 29 X (by decide) dX12_light_28 rfl ?_
      refine at_callV 32 X _ 12 (ct_bad0 hG E0 1 2 (by decide) hO_E0.2.2.1) clX12 rfl k_125 mo_X12_bad w_1960 vo_X12_bad.1 vo_X12_bad.2 rfl rfl (crm Rt (by decide)) (Nat.le_of_ble_eq_true rfl) dX12_light_29 rfl ?_
      rintro _ _ ⟨rfl, rfl⟩
      have hc0 : (0 ≤ x0 ∧ x0 ≤ 23) ∧ (0 ≤ x1 ∧ x1 ≤ 2) := by omega
      refine at_if_eq 35 37 X dX12_light_32 rfl (by decide) (fun h32 => ?_) (fun h32 => ?_)
      · obtain ⟨h, rfl⟩ : ∃ h : Nat, x0 = (h : Int) := ⟨x0.toNat, by omega⟩
        refine at_aload_n 38 X rfl rfl dX12_light_37 rfl ?_
        refine at_callV 41 X _ 12 (ct_X12_cloudsTold hG E0 P Q hP hR_E0) clX12 rfl k_125 mo_X12_cloudsTold w_2134 vo_X12_cloudsTold.1 vo_X12_cloudsTold.2 rfl rfl (crm Rt (by decide)) (Nat.le_of_ble_eq_true rfl) dX12_light_38 rfl ?_
        rintro _ _ ⟨rfl, rfl⟩
        refine at_iload_n 42 X rfl rfl dX12_light_41 rfl ?_
        refine at_ishrV 43 X (ishr ((mk (sC P) 24 : Nat) : Int) ((h : Nat) : Int)) rfl dX12_light_42 rfl ?_
        refine at_iconst 44 X (by decide) dX12_light_43 rfl ?_
        refine at_iandV 45 X (if (mk (sC P) 24).testBit h = true then 1 else 0) (ibit (by omega) (Nat.lt_of_lt_of_le (mk24 (p := sC P) (n := 24) (by omega)) (by decide))) dX12_light_44 rfl ?_
        refine at_iconst 46 X (by decide) dX12_light_45 rfl ?_
        refine at_icmp_ne 49 53 X dX12_light_46 rfl (by decide) (fun h46 => ?_) (fun h46 => ?_)
        · have hcl : ¬ sC P h = true := by rw [mk_in (p := sC P) (n := 24) (j := h) (by omega)] at h46; split at h46 <;> first | assumption | omega
          refine at_aload_n 54 X rfl rfl dX12_light_53 rfl ?_
          refine at_iload_n 55 X rfl rfl dX12_light_54 rfl ?_
          refine at_aload_n 56 X rfl rfl dX12_light_55 rfl ?_
          refine m_getIV 59 X ((d : Nat) : Int) hO_E0.1.2.2.2.2.2 f_X12_267 k_125 rn_125_45 dX12_light_56 rfl ?_
          refine at_iload_n 60 X rfl rfl dX12_light_59 rfl ?_
          refine at_callV 63 X _ 12 (ct_X12_lightOf hG E0 P Q hP hR_E0 h d x1 (by omega) hWf.2.2.2.2.2.1 (by omega)) clX12 rfl k_125 mo_X12_lightOf w_2138 vo_X12_lightOf.1 vo_X12_lightOf.2 rfl rfl (crm Rt (by decide)) (Nat.le_of_ble_eq_true rfl) dX12_light_60 rfl ?_
          rintro _ _ ⟨rfl, rfl⟩
          refine at_iret X Rt ?_ (Nat.le_refl _) (Nat.le_refl _) dX12_light_63
          exact Or.inl ⟨hc0, (by rw [if_neg (show ¬ sC P (h : Int).toNat = true from hcl)]; rfl), _, rfl, hO_E0⟩
        · have hcl : sC P h = true := by rw [mk_in (p := sC P) (n := 24) (j := h) (by omega)] at h46; split at h46 <;> first | assumption | omega
          refine at_iconst 50 X (by decide) dX12_light_49 rfl ?_
          refine at_goto 63 X dX12_light_50 (by decide) ?_
          refine at_iret X Rt ?_ (Nat.le_refl _) (Nat.le_refl _) dX12_light_63
          exact Or.inl ⟨hc0, (by rw [if_pos (show sC P (h : Int).toNat = true from hcl)]), _, rfl, hO_E0⟩
      · exact absurd h32 (by decide)
    · have h19 : ¬ (0 ≤ x1 ∧ x1 ≤ 2) := ite_no.mp h19
      refine at_iconst 23 X (by decide) dX12_light_22 rfl ?_
      refine at_goto 27 X dX12_light_23 (by decide) ?_
      refine at_iconst 28 X (by decide) dX12_light_27 rfl ?_
      refine at_iconst 29 X (by decide) dX12_light_28 rfl ?_
      refine at_callV 32 X _ 12 (ct_bad1 hG E0 1 2 (by decide) hO_E0.2.2.1 (by decide)) clX12 rfl k_125 mo_X12_bad w_1960 vo_X12_bad.1 vo_X12_bad.2 rfl rfl (crm Rt (by decide)) (Nat.le_of_ble_eq_true rfl) dX12_light_29 rfl ?_
      rintro _ _ ⟨rfl, rfl⟩
      have hb : ¬ ((0 ≤ x0 ∧ x0 ≤ 23) ∧ (0 ≤ x1 ∧ x1 ≤ 2)) := by omega
      refine at_if_eq 35 37 X dX12_light_32 rfl (by decide) (fun h32 => ?_) (fun h32 => ?_)
      · exact absurd h32 (by decide)
      · refine at_iconst 36 X (by decide) dX12_light_35 rfl ?_
        refine at_iret X Rt ?_ (Nat.le_refl _) (Nat.le_refl _) dX12_light_36
        exact Or.inr (⟨hb, rfl, congrArg ov (badR_of hE0)⟩)
theorem dX12_shade_0 : decode cX12_shade 0 = .ok (.aload_n 0, 1) := by decide +kernel
theorem dX12_shade_1 : decode cX12_shade 1 = .ok (.iconst 0, 1) := by decide +kernel
theorem dX12_shade_2 : decode cX12_shade 2 = .ok (.putfield 152, 3) := by decide +kernel
theorem dX12_shade_5 : decode cX12_shade 5 = .ok (.aload_n 0, 1) := by decide +kernel
theorem dX12_shade_6 : decode cX12_shade 6 = .ok (.aload_n 0, 1) := by decide +kernel
theorem dX12_shade_7 : decode cX12_shade 7 = .ok (.iload_n 1, 1) := by decide +kernel
theorem dX12_shade_8 : decode cX12_shade 8 = .ok (.invokevirtual 351, 3) := by decide +kernel
theorem dX12_shade_11 : decode cX12_shade 11 = .ok (.ifCond .ne 7, 3) := by decide +kernel
theorem dX12_shade_14 : decode cX12_shade 14 = .ok (.iconst 1, 1) := by decide +kernel
theorem dX12_shade_15 : decode cX12_shade 15 = .ok (.goto 4, 3) := by decide +kernel
theorem dX12_shade_18 : decode cX12_shade 18 = .ok (.iconst 0, 1) := by decide +kernel
theorem dX12_shade_19 : decode cX12_shade 19 = .ok (.iconst 1, 1) := by decide +kernel
theorem dX12_shade_20 : decode cX12_shade 20 = .ok (.iconst 0, 1) := by decide +kernel
theorem dX12_shade_21 : decode cX12_shade 21 = .ok (.invokevirtual 244, 3) := by decide +kernel
theorem dX12_shade_24 : decode cX12_shade 24 = .ok (.ifCond .ne 46, 3) := by decide +kernel
theorem dX12_shade_27 : decode cX12_shade 27 = .ok (.aload_n 0, 1) := by decide +kernel
theorem dX12_shade_28 : decode cX12_shade 28 = .ok (.aload_n 0, 1) := by decide +kernel
theorem dX12_shade_29 : decode cX12_shade 29 = .ok (.iload_n 2, 1) := by decide +kernel
theorem dX12_shade_30 : decode cX12_shade 30 = .ok (.invokevirtual 321, 3) := by decide +kernel
theorem dX12_shade_33 : decode cX12_shade 33 = .ok (.ifCond .ne 7, 3) := by decide +kernel
theorem dX12_shade_36 : decode cX12_shade 36 = .ok (.iconst 1, 1) := by decide +kernel
theorem dX12_shade_37 : decode cX12_shade 37 = .ok (.goto 4, 3) := by decide +kernel
theorem dX12_shade_40 : decode cX12_shade 40 = .ok (.iconst 0, 1) := by decide +kernel
theorem dX12_shade_41 : decode cX12_shade 41 = .ok (.iconst 2, 1) := by decide +kernel
theorem dX12_shade_42 : decode cX12_shade 42 = .ok (.iconst 1, 1) := by decide +kernel
theorem dX12_shade_43 : decode cX12_shade 43 = .ok (.invokevirtual 244, 3) := by decide +kernel
theorem dX12_shade_46 : decode cX12_shade 46 = .ok (.ifCond .ne 24, 3) := by decide +kernel
theorem dX12_shade_49 : decode cX12_shade 49 = .ok (.aload_n 0, 1) := by decide +kernel
theorem dX12_shade_50 : decode cX12_shade 50 = .ok (.iload_n 3, 1) := by decide +kernel
theorem dX12_shade_51 : decode cX12_shade 51 = .ok (.invokestatic 314, 3) := by decide +kernel
theorem dX12_shade_54 : decode cX12_shade 54 = .ok (.ifCond .ne 7, 3) := by decide +kernel
theorem dX12_shade_57 : decode cX12_shade 57 = .ok (.iconst 1, 1) := by decide +kernel
theorem dX12_shade_58 : decode cX12_shade 58 = .ok (.goto 4, 3) := by decide +kernel
theorem dX12_shade_61 : decode cX12_shade 61 = .ok (.iconst 0, 1) := by decide +kernel
theorem dX12_shade_62 : decode cX12_shade 62 = .ok (.iconst 3, 1) := by decide +kernel
theorem dX12_shade_63 : decode cX12_shade 63 = .ok (.iconst 2, 1) := by decide +kernel
theorem dX12_shade_64 : decode cX12_shade 64 = .ok (.invokevirtual 244, 3) := by decide +kernel
theorem dX12_shade_67 : decode cX12_shade 67 = .ok (.ifCond .eq 5, 3) := by decide +kernel
theorem dX12_shade_70 : decode cX12_shade 70 = .ok (.iconst 0, 1) := by decide +kernel
theorem dX12_shade_71 : decode cX12_shade 71 = .ok (.ireturn, 1) := by decide +kernel
theorem dX12_shade_72 : decode cX12_shade 72 = .ok (.aload_n 0, 1) := by decide +kernel
theorem dX12_shade_73 : decode cX12_shade 73 = .ok (.invokevirtual 378, 3) := by decide +kernel
theorem dX12_shade_76 : decode cX12_shade 76 = .ok (.aload_n 0, 1) := by decide +kernel
theorem dX12_shade_77 : decode cX12_shade 77 = .ok (.getfield 113, 3) := by decide +kernel
theorem dX12_shade_80 : decode cX12_shade 80 = .ok (.iload_n 3, 1) := by decide +kernel
theorem dX12_shade_81 : decode cX12_shade 81 = .ok (.aaload, 1) := by decide +kernel
theorem dX12_shade_82 : decode cX12_shade 82 = .ok (.iload_n 1, 1) := by decide +kernel
theorem dX12_shade_83 : decode cX12_shade 83 = .ok (.iaload, 1) := by decide +kernel
theorem dX12_shade_84 : decode cX12_shade 84 = .ok (.iload_n 2, 1) := by decide +kernel
theorem dX12_shade_85 : decode cX12_shade 85 = .ok (.ishr, 1) := by decide +kernel
theorem dX12_shade_86 : decode cX12_shade 86 = .ok (.iconst 1, 1) := by decide +kernel
theorem dX12_shade_87 : decode cX12_shade 87 = .ok (.iand, 1) := by decide +kernel
theorem dX12_shade_88 : decode cX12_shade 88 = .ok (.iconst 1, 1) := by decide +kernel
theorem dX12_shade_89 : decode cX12_shade 89 = .ok (.if_icmp .ne 7, 3) := by decide +kernel
theorem dX12_shade_92 : decode cX12_shade 92 = .ok (.iconst 1, 1) := by decide +kernel
theorem dX12_shade_93 : decode cX12_shade 93 = .ok (.goto 4, 3) := by decide +kernel
theorem dX12_shade_96 : decode cX12_shade 96 = .ok (.iconst 0, 1) := by decide +kernel
theorem dX12_shade_97 : decode cX12_shade 97 = .ok (.ireturn, 1) := by decide +kernel
theorem ct_X12_shade {g : Gw} (hG : GF g) {z : Bool} (E : Mm) (Q : RX) (P : SP) (L : LW) (T K : LN) (d st : Nat) (hWf : WF P L T K d st) (hI_E : RXI E Q P L T K d st) (x0 x1 x2 : Int) : CT g yX12_shade cX12_shade 4 (some .boolean) 7 156 0 0 K2 z [mR 125, mI x0, mI x1, mI x2] (ov E) K2 z (fun r' D' => ((0 ≤ x0 ∧ x0 ≤ (sW P : Int) - 1) ∧ (0 ≤ x1 ∧ x1 ≤ (sN P : Int) - 1) ∧ (0 ≤ x2 ∧ x2 ≤ 23) ∧ r' = some (mI (if (shd (gDay P L d) (gLm (gDay P L d) x0.toNat) x2.toNat x0.toNat).testBit x1.toNat then 1 else 0)) ∧ ∃ E1, D' = ov E1 ∧ RXO E E1 Q P L T K d st) ∨ (¬ (0 ≤ x0 ∧ x0 ≤ (sW P : Int) - 1) ∧ r' = some (mI 0) ∧ D' = ov (badR E 1 0)) ∨ ((0 ≤ x0 ∧ x0 ≤ (sW P : Int) - 1) ∧ ¬ (0 ≤ x1 ∧ x1 ≤ (sN P : Int) - 1) ∧ r' = some (mI 0) ∧ D' = ov (badR E 2 1)) ∨ ((0 ≤ x0 ∧ x0 ≤ (sW P : Int) - 1) ∧ (0 ≤ x1 ∧ x1 ≤ (sN P : Int) - 1) ∧ ¬ (0 ≤ x2 ∧ x2 ≤ 23) ∧ r' = some (mI 0) ∧ D' = ov (badR E 3 2))) := by
  refine CT.mk hG (by decide +kernel) (Nat.le_of_ble_eq_true rfl) (fun κ X Rt _ ok => ?_)
  have hP := hWf.1
  have hN8 := hP.B.N
  have hW40 := hP.W
  have hN11 := hP.N
  have hwN : gN (gDay P L d) ≤ 11 := Nat.le_trans hP.N (by decide)
  have hgw : gW (gDay P L d) = sW P := rfl
  have hDI24 := dyP_DI (G := (gDay P L d)) hP.B hWf.2.2.2.1 (Nat.le_refl 24)
  refine at_aload_n 1 X rfl rfl dX12_shade_0 rfl ?_
  refine at_iconst 2 X (by decide) dX12_shade_1 rfl ?_
  refine m_putI 5 X f_X12_152 fw_12_0 k_125 rn_125_0 dX12_shade_2 rfl ?_
  have hO_E0 := RXO.z hWf hI_E
  generalize hE0 : wr E 125 0 0 = E0 at hO_E0 ⊢
  have hR_E0 := hO_E0.1.1
  refine at_aload_n 6 X rfl rfl dX12_shade_5 rfl ?_
  refine at_aload_n 7 X rfl rfl dX12_shade_6 rfl ?_
  refine at_iload_n 8 X rfl rfl dX12_shade_7 rfl ?_
  refine at_callV 11 X _ 12 (ct_X12_isCell hG E0 P Q hP hR_E0 x0) clX12 rfl k_125 mo_X12_isCell w_2154 vo_X12_isCell.1 vo_X12_isCell.2 rfl rfl (crm Rt (by decide)) (Nat.le_of_ble_eq_true rfl) dX12_shade_8 rfl ?_
  rintro _ _ ⟨rfl, rfl⟩
  refine at_if_ne 14 18 X dX12_shade_11 rfl (by decide) (fun h11 => ?_) (fun h11 => ?_)
  · have h11 : (0 ≤ x0 ∧ x0 ≤ (sW P : Int) - 1) := ite_yes.mp h11
    refine at_iconst 19 X (by decide) dX12_shade_18 rfl ?_
    refine at_iconst 20 X (by decide) dX12_shade_19 rfl ?_
    refine at_iconst 21 X (by decide) dX12_shade_20 rfl ?_
    refine at_callV 24 X _ 12 (ct_bad0 hG E0 1 0 (by decide) hO_E0.2.2.1) clX12 rfl k_125 mo_X12_bad w_1960 vo_X12_bad.1 vo_X12_bad.2 rfl rfl (crm Rt (by decide)) (Nat.le_of_ble_eq_true rfl) dX12_shade_21 rfl ?_
    rintro _ _ ⟨rfl, rfl⟩
    have hc0 : 0 ≤ x0 ∧ x0 ≤ (sW P : Int) - 1 := by omega
    refine at_if_ne 27 70 X dX12_shade_24 rfl (by decide) (fun h24 => ?_) (fun h24 => ?_)
    · exact absurd h24 (by decide)
    · refine at_aload_n 28 X rfl rfl dX12_shade_27 rfl ?_
      refine at_aload_n 29 X rfl rfl dX12_shade_28 rfl ?_
      refine at_iload_n 30 X rfl rfl dX12_shade_29 rfl ?_
      refine at_callV 33 X _ 12 (ct_X12_isPost hG E0 P Q hP hR_E0 x1) clX12 rfl k_125 mo_X12_isPost w_2114 vo_X12_isPost.1 vo_X12_isPost.2 rfl rfl (crm Rt (by decide)) (Nat.le_of_ble_eq_true rfl) dX12_shade_30 rfl ?_
      rintro _ _ ⟨rfl, rfl⟩
      refine at_if_ne 36 40 X dX12_shade_33 rfl (by decide) (fun h33 => ?_) (fun h33 => ?_)
      · have h33 : (0 ≤ x1 ∧ x1 ≤ (sN P : Int) - 1) := ite_yes.mp h33
        refine at_iconst 41 X (by decide) dX12_shade_40 rfl ?_
        refine at_iconst 42 X (by decide) dX12_shade_41 rfl ?_
        refine at_iconst 43 X (by decide) dX12_shade_42 rfl ?_
        refine at_callV 46 X _ 12 (ct_bad0 hG E0 2 1 (by decide) hO_E0.2.2.1) clX12 rfl k_125 mo_X12_bad w_1960 vo_X12_bad.1 vo_X12_bad.2 rfl rfl (crm Rt (by decide)) (Nat.le_of_ble_eq_true rfl) dX12_shade_43 rfl ?_
        rintro _ _ ⟨rfl, rfl⟩
        have hc1 : 0 ≤ x1 ∧ x1 ≤ (sN P : Int) - 1 := by omega
        refine at_if_ne 49 70 X dX12_shade_46 rfl (by decide) (fun h46 => ?_) (fun h46 => ?_)
        · exact absurd h46 (by decide)
        · refine at_aload_n 50 X rfl rfl dX12_shade_49 rfl ?_
          refine at_iload_n 51 X rfl rfl dX12_shade_50 rfl ?_
          refine at_callS 54 X (ct_X12_isHour hG E0 x2) mo_X12_isHour w_2074 so_X12_isHour rfl rfl (crm Rt (by decide)) (Nat.le_of_ble_eq_true rfl) dX12_shade_51 rfl ?_
          rintro _ _ ⟨rfl, rfl⟩
          refine at_if_ne 57 61 X dX12_shade_54 rfl (by decide) (fun h54 => ?_) (fun h54 => ?_)
          · have h54 : (0 ≤ x2 ∧ x2 ≤ 23) := ite_yes.mp h54
            refine at_iconst 62 X (by decide) dX12_shade_61 rfl ?_
            refine at_iconst 63 X (by decide) dX12_shade_62 rfl ?_
            refine at_iconst 64 X (by decide) dX12_shade_63 rfl ?_
            refine at_callV 67 X _ 12 (ct_bad0 hG E0 3 2 (by decide) hO_E0.2.2.1) clX12 rfl k_125 mo_X12_bad w_1960 vo_X12_bad.1 vo_X12_bad.2 rfl rfl (crm Rt (by decide)) (Nat.le_of_ble_eq_true rfl) dX12_shade_64 rfl ?_
            rintro _ _ ⟨rfl, rfl⟩
            have hc2 : 0 ≤ x2 ∧ x2 ≤ 23 := by omega
            refine at_if_eq 70 72 X dX12_shade_67 rfl (by decide) (fun h67 => ?_) (fun h67 => ?_)
            · obtain ⟨c, rfl⟩ : ∃ c : Nat, x0 = (c : Int) := ⟨x0.toNat, by omega⟩
              obtain ⟨p, rfl⟩ : ∃ p : Nat, x1 = (p : Int) := ⟨x1.toNat, by omega⟩
              obtain ⟨h, rfl⟩ : ∃ h : Nat, x2 = (h : Int) := ⟨x2.toNat, by omega⟩
              refine at_aload_n 73 X rfl rfl dX12_shade_72 rfl ?_
              refine at_callV 76 X _ 12 (ct_X12_laysNow hG E0 Q P L T K d st hWf hO_E0.1) clX12 rfl k_125 mo_X12_laysNow w_2158 vo_X12_laysNow.1 vo_X12_laysNow.2 rfl rfl (crm Rt (by decide)) (Nat.le_of_ble_eq_true rfl) dX12_shade_73 rfl ?_
              rintro _ _ ⟨rfl, F1, rfl, hI_F1, hY_F1, hs_F1, hz_F1, hv_F1, h0_F1, h7_F1⟩
              have hO_F1 := hO_E0.nx hI_F1 hY_F1 h0_F1 h7_F1
              have hR_F1 := hI_F1.1
              refine at_aload_n 77 X rfl rfl dX12_shade_76 rfl ?_
              refine m_getR 80 X f_X12_113 k_125 r_125_50 dX12_shade_77 rfl ?_
              refine at_iload_n 81 X rfl rfl dX12_shade_80 rfl ?_
              refine m_aaloadV 82 X h (by omega) k_682 (by decide) (by omega) (rr_682 _ (by omega)) dX12_shade_81 rfl ?_
              refine at_iload_n 83 X rfl rfl dX12_shade_82 rfl ?_
              refine m_ialoadV 84 X c (by omega) ((shd (gDay P L d) (gLm (gDay P L d) c) h c : Nat) : Int) (hs_F1 h c (by omega) (by omega)).1 (kr_682 _ (by omega)) (er_682 _ (by omega)) (by omega) dX12_shade_83 rfl ?_
              have := shd_lt (gDay P L d) hwN (gLm (gDay P L d) c) h c
              refine at_iload_n 85 X rfl rfl dX12_shade_84 rfl ?_
              refine at_ishrV 86 X (ishr ((shd (gDay P L d) (gLm (gDay P L d) c) h c : Nat) : Int) ((p : Nat) : Int)) rfl dX12_shade_85 rfl ?_
              refine at_iconst 87 X (by decide) dX12_shade_86 rfl ?_
              refine at_iandV 88 X (if (shd (gDay P L d) (gLm (gDay P L d) c) h c).testBit p = true then 1 else 0) (ibit (by omega) (by omega)) dX12_shade_87 rfl ?_
              refine at_iconst 89 X (by decide) dX12_shade_88 rfl ?_
              refine at_icmp_ne 92 96 X dX12_shade_89 rfl (by decide) (fun h89 => ?_) (fun h89 => ?_)
              · refine at_iconst 97 X (by decide) dX12_shade_96 rfl ?_
                refine at_zret X Rt ?_ (by first | decide | (split <;> decide)) (Nat.le_refl _) (Nat.le_refl _) dX12_shade_97
                exact Or.inl ⟨hc0, hc1, hc2, (by split at h89 <;> first | (exfalso; omega) | (rename_i k; exact congrArg (fun q => some (mI q)) (if_pos k).symm) | (rename_i k; exact congrArg (fun q => some (mI q)) (if_neg k).symm)), _, rfl, hO_F1⟩
              · refine at_iconst 93 X (by decide) dX12_shade_92 rfl ?_
                refine at_goto 97 X dX12_shade_93 (by decide) ?_
                refine at_zret X Rt ?_ (by first | decide | (split <;> decide)) (Nat.le_refl _) (Nat.le_refl _) dX12_shade_97
                exact Or.inl ⟨hc0, hc1, hc2, (by split at h89 <;> first | (exfalso; omega) | (rename_i k; exact congrArg (fun q => some (mI q)) (if_pos k).symm) | (rename_i k; exact congrArg (fun q => some (mI q)) (if_neg k).symm)), _, rfl, hO_F1⟩
            · exact absurd h67 (by decide)
          · have h54 : ¬ (0 ≤ x2 ∧ x2 ≤ 23) := ite_no.mp h54
            refine at_iconst 58 X (by decide) dX12_shade_57 rfl ?_
            refine at_goto 62 X dX12_shade_58 (by decide) ?_
            refine at_iconst 63 X (by decide) dX12_shade_62 rfl ?_
            refine at_iconst 64 X (by decide) dX12_shade_63 rfl ?_
            refine at_callV 67 X _ 12 (ct_bad1 hG E0 3 2 (by decide) hO_E0.2.2.1 (by decide)) clX12 rfl k_125 mo_X12_bad w_1960 vo_X12_bad.1 vo_X12_bad.2 rfl rfl (crm Rt (by decide)) (Nat.le_of_ble_eq_true rfl) dX12_shade_64 rfl ?_
            rintro _ _ ⟨rfl, rfl⟩
            have hb : ¬ (0 ≤ x2 ∧ x2 ≤ 23) := by omega
            refine at_if_eq 70 72 X dX12_shade_67 rfl (by decide) (fun h67 => ?_) (fun h67 => ?_)
            · exact absurd h67 (by decide)
            · refine at_iconst 71 X (by decide) dX12_shade_70 rfl ?_
              refine at_zret X Rt ?_ (by first | decide | (split <;> decide)) (Nat.le_refl _) (Nat.le_refl _) dX12_shade_71
              exact Or.inr (Or.inr (Or.inr (⟨hc0, hc1, hb, rfl, congrArg ov (badR_of hE0)⟩)))
      · have h33 : ¬ (0 ≤ x1 ∧ x1 ≤ (sN P : Int) - 1) := ite_no.mp h33
        refine at_iconst 37 X (by decide) dX12_shade_36 rfl ?_
        refine at_goto 41 X dX12_shade_37 (by decide) ?_
        refine at_iconst 42 X (by decide) dX12_shade_41 rfl ?_
        refine at_iconst 43 X (by decide) dX12_shade_42 rfl ?_
        refine at_callV 46 X _ 12 (ct_bad1 hG E0 2 1 (by decide) hO_E0.2.2.1 (by decide)) clX12 rfl k_125 mo_X12_bad w_1960 vo_X12_bad.1 vo_X12_bad.2 rfl rfl (crm Rt (by decide)) (Nat.le_of_ble_eq_true rfl) dX12_shade_43 rfl ?_
        rintro _ _ ⟨rfl, rfl⟩
        have hb : ¬ (0 ≤ x1 ∧ x1 ≤ (sN P : Int) - 1) := by omega
        refine at_if_ne 49 70 X dX12_shade_46 rfl (by decide) (fun h46 => ?_) (fun h46 => ?_)
        · refine at_iconst 71 X (by decide) dX12_shade_70 rfl ?_
          refine at_zret X Rt ?_ (by first | decide | (split <;> decide)) (Nat.le_refl _) (Nat.le_refl _) dX12_shade_71
          exact Or.inr (Or.inr (Or.inl ⟨hc0, hb, rfl, congrArg ov (badR_of hE0)⟩))
        · exact absurd h46 (by decide)
  · have h11 : ¬ (0 ≤ x0 ∧ x0 ≤ (sW P : Int) - 1) := ite_no.mp h11
    refine at_iconst 15 X (by decide) dX12_shade_14 rfl ?_
    refine at_goto 19 X dX12_shade_15 (by decide) ?_
    refine at_iconst 20 X (by decide) dX12_shade_19 rfl ?_
    refine at_iconst 21 X (by decide) dX12_shade_20 rfl ?_
    refine at_callV 24 X _ 12 (ct_bad1 hG E0 1 0 (by decide) hO_E0.2.2.1 (by decide)) clX12 rfl k_125 mo_X12_bad w_1960 vo_X12_bad.1 vo_X12_bad.2 rfl rfl (crm Rt (by decide)) (Nat.le_of_ble_eq_true rfl) dX12_shade_21 rfl ?_
    rintro _ _ ⟨rfl, rfl⟩
    have hb : ¬ (0 ≤ x0 ∧ x0 ≤ (sW P : Int) - 1) := by omega
    refine at_if_ne 27 70 X dX12_shade_24 rfl (by decide) (fun h24 => ?_) (fun h24 => ?_)
    · refine at_iconst 71 X (by decide) dX12_shade_70 rfl ?_
      refine at_zret X Rt ?_ (by first | decide | (split <;> decide)) (Nat.le_refl _) (Nat.le_refl _) dX12_shade_71
      exact Or.inr (Or.inl ⟨hb, rfl, congrArg ov (badR_of hE0)⟩)
    · exact absurd h24 (by decide)
theorem dX12_bears_0 : decode cX12_bears 0 = .ok (.aload_n 0, 1) := by decide +kernel
theorem dX12_bears_1 : decode cX12_bears 1 = .ok (.iconst 0, 1) := by decide +kernel
theorem dX12_bears_2 : decode cX12_bears 2 = .ok (.putfield 152, 3) := by decide +kernel
theorem dX12_bears_5 : decode cX12_bears 5 = .ok (.aload_n 0, 1) := by decide +kernel
theorem dX12_bears_6 : decode cX12_bears 6 = .ok (.aload_n 0, 1) := by decide +kernel
theorem dX12_bears_7 : decode cX12_bears 7 = .ok (.iload_n 1, 1) := by decide +kernel
theorem dX12_bears_8 : decode cX12_bears 8 = .ok (.invokevirtual 351, 3) := by decide +kernel
theorem dX12_bears_11 : decode cX12_bears 11 = .ok (.ifCond .ne 7, 3) := by decide +kernel
theorem dX12_bears_14 : decode cX12_bears 14 = .ok (.iconst 1, 1) := by decide +kernel
theorem dX12_bears_15 : decode cX12_bears 15 = .ok (.goto 4, 3) := by decide +kernel
theorem dX12_bears_18 : decode cX12_bears 18 = .ok (.iconst 0, 1) := by decide +kernel
theorem dX12_bears_19 : decode cX12_bears 19 = .ok (.iconst 1, 1) := by decide +kernel
theorem dX12_bears_20 : decode cX12_bears 20 = .ok (.iconst 0, 1) := by decide +kernel
theorem dX12_bears_21 : decode cX12_bears 21 = .ok (.invokevirtual 244, 3) := by decide +kernel
theorem dX12_bears_24 : decode cX12_bears 24 = .ok (.ifCond .ne 24, 3) := by decide +kernel
theorem dX12_bears_27 : decode cX12_bears 27 = .ok (.aload_n 0, 1) := by decide +kernel
theorem dX12_bears_28 : decode cX12_bears 28 = .ok (.iload_n 2, 1) := by decide +kernel
theorem dX12_bears_29 : decode cX12_bears 29 = .ok (.invokestatic 314, 3) := by decide +kernel
theorem dX12_bears_32 : decode cX12_bears 32 = .ok (.ifCond .ne 7, 3) := by decide +kernel
theorem dX12_bears_35 : decode cX12_bears 35 = .ok (.iconst 1, 1) := by decide +kernel
theorem dX12_bears_36 : decode cX12_bears 36 = .ok (.goto 4, 3) := by decide +kernel
theorem dX12_bears_39 : decode cX12_bears 39 = .ok (.iconst 0, 1) := by decide +kernel
theorem dX12_bears_40 : decode cX12_bears 40 = .ok (.iconst 2, 1) := by decide +kernel
theorem dX12_bears_41 : decode cX12_bears 41 = .ok (.iconst 2, 1) := by decide +kernel
theorem dX12_bears_42 : decode cX12_bears 42 = .ok (.invokevirtual 244, 3) := by decide +kernel
theorem dX12_bears_45 : decode cX12_bears 45 = .ok (.ifCond .eq 5, 3) := by decide +kernel
theorem dX12_bears_48 : decode cX12_bears 48 = .ok (.iconst 0, 1) := by decide +kernel
theorem dX12_bears_49 : decode cX12_bears 49 = .ok (.ireturn, 1) := by decide +kernel
theorem dX12_bears_50 : decode cX12_bears 50 = .ok (.aload_n 0, 1) := by decide +kernel
theorem dX12_bears_51 : decode cX12_bears 51 = .ok (.invokevirtual 378, 3) := by decide +kernel
theorem dX12_bears_54 : decode cX12_bears 54 = .ok (.aload_n 0, 1) := by decide +kernel
theorem dX12_bears_55 : decode cX12_bears 55 = .ok (.getfield 116, 3) := by decide +kernel
theorem dX12_bears_58 : decode cX12_bears 58 = .ok (.iload_n 2, 1) := by decide +kernel
theorem dX12_bears_59 : decode cX12_bears 59 = .ok (.aaload, 1) := by decide +kernel
theorem dX12_bears_60 : decode cX12_bears 60 = .ok (.iload_n 1, 1) := by decide +kernel
theorem dX12_bears_61 : decode cX12_bears 61 = .ok (.iaload, 1) := by decide +kernel
theorem dX12_bears_62 : decode cX12_bears 62 = .ok (.ireturn, 1) := by decide +kernel
theorem ct_X12_bears {g : Gw} (hG : GF g) {z : Bool} (E : Mm) (Q : RX) (P : SP) (L : LW) (T K : LN) (d st : Nat) (hWf : WF P L T K d st) (hI_E : RXI E Q P L T K d st) (x0 x1 : Int) : CT g yX12_bears cX12_bears 3 (some .int) 7 156 0 0 K2 z [mR 125, mI x0, mI x1] (ov E) K2 z (fun r' D' => ((0 ≤ x0 ∧ x0 ≤ (sW P : Int) - 1) ∧ (0 ≤ x1 ∧ x1 ≤ 23) ∧ r' = some (mI (bOn (gDay P L d) x1.toNat x0.toNat)) ∧ ∃ E1, D' = ov E1 ∧ RXO E E1 Q P L T K d st) ∨ (¬ (0 ≤ x0 ∧ x0 ≤ (sW P : Int) - 1) ∧ r' = some (mI 0) ∧ D' = ov (badR E 1 0)) ∨ ((0 ≤ x0 ∧ x0 ≤ (sW P : Int) - 1) ∧ ¬ (0 ≤ x1 ∧ x1 ≤ 23) ∧ r' = some (mI 0) ∧ D' = ov (badR E 2 2))) := by
  refine CT.mk hG (by decide +kernel) (Nat.le_of_ble_eq_true rfl) (fun κ X Rt _ ok => ?_)
  have hP := hWf.1
  have hN8 := hP.B.N
  have hW40 := hP.W
  have hN11 := hP.N
  have hwN : gN (gDay P L d) ≤ 11 := Nat.le_trans hP.N (by decide)
  have hgw : gW (gDay P L d) = sW P := rfl
  have hDI24 := dyP_DI (G := (gDay P L d)) hP.B hWf.2.2.2.1 (Nat.le_refl 24)
  refine at_aload_n 1 X rfl rfl dX12_bears_0 rfl ?_
  refine at_iconst 2 X (by decide) dX12_bears_1 rfl ?_
  refine m_putI 5 X f_X12_152 fw_12_0 k_125 rn_125_0 dX12_bears_2 rfl ?_
  have hO_E0 := RXO.z hWf hI_E
  generalize hE0 : wr E 125 0 0 = E0 at hO_E0 ⊢
  have hR_E0 := hO_E0.1.1
  refine at_aload_n 6 X rfl rfl dX12_bears_5 rfl ?_
  refine at_aload_n 7 X rfl rfl dX12_bears_6 rfl ?_
  refine at_iload_n 8 X rfl rfl dX12_bears_7 rfl ?_
  refine at_callV 11 X _ 12 (ct_X12_isCell hG E0 P Q hP hR_E0 x0) clX12 rfl k_125 mo_X12_isCell w_2154 vo_X12_isCell.1 vo_X12_isCell.2 rfl rfl (crm Rt (by decide)) (Nat.le_of_ble_eq_true rfl) dX12_bears_8 rfl ?_
  rintro _ _ ⟨rfl, rfl⟩
  refine at_if_ne 14 18 X dX12_bears_11 rfl (by decide) (fun h11 => ?_) (fun h11 => ?_)
  · have h11 : (0 ≤ x0 ∧ x0 ≤ (sW P : Int) - 1) := ite_yes.mp h11
    refine at_iconst 19 X (by decide) dX12_bears_18 rfl ?_
    refine at_iconst 20 X (by decide) dX12_bears_19 rfl ?_
    refine at_iconst 21 X (by decide) dX12_bears_20 rfl ?_
    refine at_callV 24 X _ 12 (ct_bad0 hG E0 1 0 (by decide) hO_E0.2.2.1) clX12 rfl k_125 mo_X12_bad w_1960 vo_X12_bad.1 vo_X12_bad.2 rfl rfl (crm Rt (by decide)) (Nat.le_of_ble_eq_true rfl) dX12_bears_21 rfl ?_
    rintro _ _ ⟨rfl, rfl⟩
    have hc0 : 0 ≤ x0 ∧ x0 ≤ (sW P : Int) - 1 := by omega
    refine at_if_ne 27 48 X dX12_bears_24 rfl (by decide) (fun h24 => ?_) (fun h24 => ?_)
    · exact absurd h24 (by decide)
    · refine at_aload_n 28 X rfl rfl dX12_bears_27 rfl ?_
      refine at_iload_n 29 X rfl rfl dX12_bears_28 rfl ?_
      refine at_callS 32 X (ct_X12_isHour hG E0 x1) mo_X12_isHour w_2074 so_X12_isHour rfl rfl (crm Rt (by decide)) (Nat.le_of_ble_eq_true rfl) dX12_bears_29 rfl ?_
      rintro _ _ ⟨rfl, rfl⟩
      refine at_if_ne 35 39 X dX12_bears_32 rfl (by decide) (fun h32 => ?_) (fun h32 => ?_)
      · have h32 : (0 ≤ x1 ∧ x1 ≤ 23) := ite_yes.mp h32
        refine at_iconst 40 X (by decide) dX12_bears_39 rfl ?_
        refine at_iconst 41 X (by decide) dX12_bears_40 rfl ?_
        refine at_iconst 42 X (by decide) dX12_bears_41 rfl ?_
        refine at_callV 45 X _ 12 (ct_bad0 hG E0 2 2 (by decide) hO_E0.2.2.1) clX12 rfl k_125 mo_X12_bad w_1960 vo_X12_bad.1 vo_X12_bad.2 rfl rfl (crm Rt (by decide)) (Nat.le_of_ble_eq_true rfl) dX12_bears_42 rfl ?_
        rintro _ _ ⟨rfl, rfl⟩
        have hc1 : 0 ≤ x1 ∧ x1 ≤ 23 := by omega
        refine at_if_eq 48 50 X dX12_bears_45 rfl (by decide) (fun h45 => ?_) (fun h45 => ?_)
        · obtain ⟨c, rfl⟩ : ∃ c : Nat, x0 = (c : Int) := ⟨x0.toNat, by omega⟩
          obtain ⟨h, rfl⟩ : ∃ h : Nat, x1 = (h : Int) := ⟨x1.toNat, by omega⟩
          refine at_aload_n 51 X rfl rfl dX12_bears_50 rfl ?_
          refine at_callV 54 X _ 12 (ct_X12_laysNow hG E0 Q P L T K d st hWf hO_E0.1) clX12 rfl k_125 mo_X12_laysNow w_2158 vo_X12_laysNow.1 vo_X12_laysNow.2 rfl rfl (crm Rt (by decide)) (Nat.le_of_ble_eq_true rfl) dX12_bears_51 rfl ?_
          rintro _ _ ⟨rfl, F1, rfl, hI_F1, hY_F1, hs_F1, hz_F1, hv_F1, h0_F1, h7_F1⟩
          have hO_F1 := hO_E0.nx hI_F1 hY_F1 h0_F1 h7_F1
          have hR_F1 := hI_F1.1
          refine at_aload_n 55 X rfl rfl dX12_bears_54 rfl ?_
          refine m_getR 58 X f_X12_116 k_125 r_125_51 dX12_bears_55 rfl ?_
          refine at_iload_n 59 X rfl rfl dX12_bears_58 rfl ?_
          refine m_aaloadV 60 X h (by omega) k_707 (by decide) (by omega) (rr_707 _ (by omega)) dX12_bears_59 rfl ?_
          refine at_iload_n 61 X rfl rfl dX12_bears_60 rfl ?_
          refine m_ialoadV 62 X c (by omega) (bOn (gDay P L d) h c) (hs_F1 h c (by omega) (by omega)).2 (kr_707 _ (by omega)) (er_707 _ (by omega)) (by omega) dX12_bears_61 rfl ?_
          have := bOn_in (gDay P L d) h c
          refine at_iret X Rt ?_ (Nat.le_refl _) (Nat.le_refl _) dX12_bears_62
          exact Or.inl ⟨hc0, hc1, (by rfl), _, rfl, hO_F1⟩
        · exact absurd h45 (by decide)
      · have h32 : ¬ (0 ≤ x1 ∧ x1 ≤ 23) := ite_no.mp h32
        refine at_iconst 36 X (by decide) dX12_bears_35 rfl ?_
        refine at_goto 40 X dX12_bears_36 (by decide) ?_
        refine at_iconst 41 X (by decide) dX12_bears_40 rfl ?_
        refine at_iconst 42 X (by decide) dX12_bears_41 rfl ?_
        refine at_callV 45 X _ 12 (ct_bad1 hG E0 2 2 (by decide) hO_E0.2.2.1 (by decide)) clX12 rfl k_125 mo_X12_bad w_1960 vo_X12_bad.1 vo_X12_bad.2 rfl rfl (crm Rt (by decide)) (Nat.le_of_ble_eq_true rfl) dX12_bears_42 rfl ?_
        rintro _ _ ⟨rfl, rfl⟩
        have hb : ¬ (0 ≤ x1 ∧ x1 ≤ 23) := by omega
        refine at_if_eq 48 50 X dX12_bears_45 rfl (by decide) (fun h45 => ?_) (fun h45 => ?_)
        · exact absurd h45 (by decide)
        · refine at_iconst 49 X (by decide) dX12_bears_48 rfl ?_
          refine at_iret X Rt ?_ (Nat.le_refl _) (Nat.le_refl _) dX12_bears_49
          exact Or.inr (Or.inr (⟨hc0, hb, rfl, congrArg ov (badR_of hE0)⟩))
  · have h11 : ¬ (0 ≤ x0 ∧ x0 ≤ (sW P : Int) - 1) := ite_no.mp h11
    refine at_iconst 15 X (by decide) dX12_bears_14 rfl ?_
    refine at_goto 19 X dX12_bears_15 (by decide) ?_
    refine at_iconst 20 X (by decide) dX12_bears_19 rfl ?_
    refine at_iconst 21 X (by decide) dX12_bears_20 rfl ?_
    refine at_callV 24 X _ 12 (ct_bad1 hG E0 1 0 (by decide) hO_E0.2.2.1 (by decide)) clX12 rfl k_125 mo_X12_bad w_1960 vo_X12_bad.1 vo_X12_bad.2 rfl rfl (crm Rt (by decide)) (Nat.le_of_ble_eq_true rfl) dX12_bears_21 rfl ?_
    rintro _ _ ⟨rfl, rfl⟩
    have hb : ¬ (0 ≤ x0 ∧ x0 ≤ (sW P : Int) - 1) := by omega
    refine at_if_ne 27 48 X dX12_bears_24 rfl (by decide) (fun h24 => ?_) (fun h24 => ?_)
    · refine at_iconst 49 X (by decide) dX12_bears_48 rfl ?_
      refine at_iret X Rt ?_ (Nat.le_refl _) (Nat.le_refl _) dX12_bears_49
      exact Or.inr (Or.inl ⟨hb, rfl, congrArg ov (badR_of hE0)⟩)
    · exact absurd h24 (by decide)
theorem dX12_rests_0 : decode cX12_rests 0 = .ok (.aload_n 0, 1) := by decide +kernel
theorem dX12_rests_1 : decode cX12_rests 1 = .ok (.iconst 0, 1) := by decide +kernel
theorem dX12_rests_2 : decode cX12_rests 2 = .ok (.putfield 152, 3) := by decide +kernel
theorem dX12_rests_5 : decode cX12_rests 5 = .ok (.aload_n 0, 1) := by decide +kernel
theorem dX12_rests_6 : decode cX12_rests 6 = .ok (.aload_n 0, 1) := by decide +kernel
theorem dX12_rests_7 : decode cX12_rests 7 = .ok (.iload_n 1, 1) := by decide +kernel
theorem dX12_rests_8 : decode cX12_rests 8 = .ok (.invokevirtual 351, 3) := by decide +kernel
theorem dX12_rests_11 : decode cX12_rests 11 = .ok (.ifCond .ne 7, 3) := by decide +kernel
theorem dX12_rests_14 : decode cX12_rests 14 = .ok (.iconst 1, 1) := by decide +kernel
theorem dX12_rests_15 : decode cX12_rests 15 = .ok (.goto 4, 3) := by decide +kernel
theorem dX12_rests_18 : decode cX12_rests 18 = .ok (.iconst 0, 1) := by decide +kernel
theorem dX12_rests_19 : decode cX12_rests 19 = .ok (.iconst 1, 1) := by decide +kernel
theorem dX12_rests_20 : decode cX12_rests 20 = .ok (.iconst 0, 1) := by decide +kernel
theorem dX12_rests_21 : decode cX12_rests 21 = .ok (.invokevirtual 244, 3) := by decide +kernel
theorem dX12_rests_24 : decode cX12_rests 24 = .ok (.ifCond .ne 33, 3) := by decide +kernel
theorem dX12_rests_27 : decode cX12_rests 27 = .ok (.aload_n 0, 1) := by decide +kernel
theorem dX12_rests_28 : decode cX12_rests 28 = .ok (.iload_n 2, 1) := by decide +kernel
theorem dX12_rests_29 : decode cX12_rests 29 = .ok (.invokestatic 314, 3) := by decide +kernel
theorem dX12_rests_32 : decode cX12_rests 32 = .ok (.ifCond .eq 12, 3) := by decide +kernel
theorem dX12_rests_35 : decode cX12_rests 35 = .ok (.iload_n 3, 1) := by decide +kernel
theorem dX12_rests_36 : decode cX12_rests 36 = .ok (.iconst 0, 1) := by decide +kernel
theorem dX12_rests_37 : decode cX12_rests 37 = .ok (.iconst 1, 1) := by decide +kernel
theorem dX12_rests_38 : decode cX12_rests 38 = .ok (.invokestatic 186, 3) := by decide +kernel
theorem dX12_rests_41 : decode cX12_rests 41 = .ok (.ifCond .ne 7, 3) := by decide +kernel
theorem dX12_rests_44 : decode cX12_rests 44 = .ok (.iconst 1, 1) := by decide +kernel
theorem dX12_rests_45 : decode cX12_rests 45 = .ok (.goto 4, 3) := by decide +kernel
theorem dX12_rests_48 : decode cX12_rests 48 = .ok (.iconst 0, 1) := by decide +kernel
theorem dX12_rests_49 : decode cX12_rests 49 = .ok (.iconst 2, 1) := by decide +kernel
theorem dX12_rests_50 : decode cX12_rests 50 = .ok (.iconst 2, 1) := by decide +kernel
theorem dX12_rests_51 : decode cX12_rests 51 = .ok (.invokevirtual 244, 3) := by decide +kernel
theorem dX12_rests_54 : decode cX12_rests 54 = .ok (.ifCond .eq 5, 3) := by decide +kernel
theorem dX12_rests_57 : decode cX12_rests 57 = .ok (.lconst 0, 1) := by decide +kernel
theorem dX12_rests_58 : decode cX12_rests 58 = .ok (.lreturn, 1) := by decide +kernel
theorem dX12_rests_59 : decode cX12_rests 59 = .ok (.aload_n 0, 1) := by decide +kernel
theorem dX12_rests_60 : decode cX12_rests 60 = .ok (.invokevirtual 400, 3) := by decide +kernel
theorem dX12_rests_63 : decode cX12_rests 63 = .ok (.pop, 1) := by decide +kernel
theorem dX12_rests_64 : decode cX12_rests 64 = .ok (.aload_n 0, 1) := by decide +kernel
theorem dX12_rests_65 : decode cX12_rests 65 = .ok (.getfield 121, 3) := by decide +kernel
theorem dX12_rests_68 : decode cX12_rests 68 = .ok (.iload_n 2, 1) := by decide +kernel
theorem dX12_rests_69 : decode cX12_rests 69 = .ok (.aaload, 1) := by decide +kernel
theorem dX12_rests_70 : decode cX12_rests 70 = .ok (.iload_n 1, 1) := by decide +kernel
theorem dX12_rests_71 : decode cX12_rests 71 = .ok (.laload, 1) := by decide +kernel
theorem dX12_rests_72 : decode cX12_rests 72 = .ok (.ldc2_w 381, 3) := by decide +kernel
theorem dX12_rests_75 : decode cX12_rests 75 = .ok (.iload_n 3, 1) := by decide +kernel
theorem dX12_rests_76 : decode cX12_rests 76 = .ok (.invokestatic 403, 3) := by decide +kernel
theorem dX12_rests_79 : decode cX12_rests 79 = .ok (.lreturn, 1) := by decide +kernel
theorem ct_X12_rests {g : Gw} (hG : GF g) {z : Bool} (E : Mm) (Q : RX) (P : SP) (L : LW) (T K : LN) (d st : Nat) (hWf : WF P L T K d st) (hI_E : RXI E Q P L T K d st) (x0 x1 x2 : Int) : CT g yX12_rests cX12_rests 4 (some .long) 8 176 0 0 K2 z [mR 125, mI x0, mI x1, mI x2] (ov E) K2 z (fun r' D' => ((0 ≤ x0 ∧ x0 ≤ (sW P : Int) - 1) ∧ ((0 ≤ x1 ∧ x1 ≤ 23) ∧ (0 ≤ x2 ∧ x2 ≤ 1)) ∧ r' = some (mL (ltmP (wtN (sB P) (dP (dyP (gDay P L d) (sB P) T (x1.toNat + 1))) x0.toNat (bN (sB P))) 232792560 x2)) ∧ ∃ E1, D' = ov E1 ∧ RXO E E1 Q P L T K d st) ∨ (¬ (0 ≤ x0 ∧ x0 ≤ (sW P : Int) - 1) ∧ r' = some (mL 0) ∧ D' = ov (badR E 1 0)) ∨ ((0 ≤ x0 ∧ x0 ≤ (sW P : Int) - 1) ∧ ¬ ((0 ≤ x1 ∧ x1 ≤ 23) ∧ (0 ≤ x2 ∧ x2 ≤ 1)) ∧ r' = some (mL 0) ∧ D' = ov (badR E 2 2))) := by
  refine CT.mk hG (by decide +kernel) (Nat.le_of_ble_eq_true rfl) (fun κ X Rt _ ok => ?_)
  have hP := hWf.1
  have hN8 := hP.B.N
  have hW40 := hP.W
  have hN11 := hP.N
  have hwN : gN (gDay P L d) ≤ 11 := Nat.le_trans hP.N (by decide)
  have hgw : gW (gDay P L d) = sW P := rfl
  have hDI24 := dyP_DI (G := (gDay P L d)) hP.B hWf.2.2.2.1 (Nat.le_refl 24)
  refine at_aload_n 1 X rfl rfl dX12_rests_0 rfl ?_
  refine at_iconst 2 X (by decide) dX12_rests_1 rfl ?_
  refine m_putI 5 X f_X12_152 fw_12_0 k_125 rn_125_0 dX12_rests_2 rfl ?_
  have hO_E0 := RXO.z hWf hI_E
  generalize hE0 : wr E 125 0 0 = E0 at hO_E0 ⊢
  have hR_E0 := hO_E0.1.1
  refine at_aload_n 6 X rfl rfl dX12_rests_5 rfl ?_
  refine at_aload_n 7 X rfl rfl dX12_rests_6 rfl ?_
  refine at_iload_n 8 X rfl rfl dX12_rests_7 rfl ?_
  refine at_callV 11 X _ 12 (ct_X12_isCell hG E0 P Q hP hR_E0 x0) clX12 rfl k_125 mo_X12_isCell w_2154 vo_X12_isCell.1 vo_X12_isCell.2 rfl rfl (crm Rt (by decide)) (Nat.le_of_ble_eq_true rfl) dX12_rests_8 rfl ?_
  rintro _ _ ⟨rfl, rfl⟩
  refine at_if_ne 14 18 X dX12_rests_11 rfl (by decide) (fun h11 => ?_) (fun h11 => ?_)
  · have h11 : (0 ≤ x0 ∧ x0 ≤ (sW P : Int) - 1) := ite_yes.mp h11
    refine at_iconst 19 X (by decide) dX12_rests_18 rfl ?_
    refine at_iconst 20 X (by decide) dX12_rests_19 rfl ?_
    refine at_iconst 21 X (by decide) dX12_rests_20 rfl ?_
    refine at_callV 24 X _ 12 (ct_bad0 hG E0 1 0 (by decide) hO_E0.2.2.1) clX12 rfl k_125 mo_X12_bad w_1960 vo_X12_bad.1 vo_X12_bad.2 rfl rfl (crm Rt (by decide)) (Nat.le_of_ble_eq_true rfl) dX12_rests_21 rfl ?_
    rintro _ _ ⟨rfl, rfl⟩
    have hc0 : 0 ≤ x0 ∧ x0 ≤ (sW P : Int) - 1 := by omega
    refine at_if_ne 27 57 X dX12_rests_24 rfl (by decide) (fun h24 => ?_) (fun h24 => ?_)
    · exact absurd h24 (by decide)
    · refine at_aload_n 28 X rfl rfl dX12_rests_27 rfl ?_
      refine at_iload_n 29 X rfl rfl dX12_rests_28 rfl ?_
      refine at_callS 32 X (ct_X12_isHour hG E0 x1) mo_X12_isHour w_2074 so_X12_isHour rfl rfl (crm Rt (by decide)) (Nat.le_of_ble_eq_true rfl) dX12_rests_29 rfl ?_
      rintro _ _ ⟨rfl, rfl⟩
      refine at_if_eq 35 44 X dX12_rests_32 rfl (by decide) (fun h32 => ?_) (fun h32 => ?_)
      · have h32 : ¬ (0 ≤ x1 ∧ x1 ≤ 23) := ite_no.mp h32
        refine at_iconst 45 X (by decide) dX12_rests_44 rfl ?_
        refine at_goto 49 X dX12_rests_45 (by decide) ?_
        refine at_iconst 50 X (by decide) dX12_rests_49 rfl ?_
        refine at_iconst 51 X (by decide) dX12_rests_50 rfl ?_
        refine at_callV 54 X _ 12 (ct_bad1 hG E0 2 2 (by decide) hO_E0.2.2.1 (by decide)) clX12 rfl k_125 mo_X12_bad w_1960 vo_X12_bad.1 vo_X12_bad.2 rfl rfl (crm Rt (by decide)) (Nat.le_of_ble_eq_true rfl) dX12_rests_51 rfl ?_
        rintro _ _ ⟨rfl, rfl⟩
        have hb : ¬ ((0 ≤ x1 ∧ x1 ≤ 23) ∧ (0 ≤ x2 ∧ x2 ≤ 1)) := by omega
        refine at_if_eq 57 59 X dX12_rests_54 rfl (by decide) (fun h54 => ?_) (fun h54 => ?_)
        · exact absurd h54 (by decide)
        · refine at_lconst 58 X (v := 0) (by decide) (by decide) dX12_rests_57 rfl ?_
          refine at_lret X Rt ?_ (Nat.le_refl _) (Nat.le_refl _) dX12_rests_58
          exact Or.inr (Or.inr (⟨hc0, hb, rfl, congrArg ov (badR_of hE0)⟩))
      · have h32 : (0 ≤ x1 ∧ x1 ≤ 23) := ite_yes.mp h32
        refine at_iload_n 36 X rfl rfl dX12_rests_35 rfl ?_
        refine at_iconst 37 X (by decide) dX12_rests_36 rfl ?_
        refine at_iconst 38 X (by decide) dX12_rests_37 rfl ?_
        refine at_callS 41 X (ct_X12_in hG _ _ _) mo_X12_in w_1957 so_X12_in rfl rfl (crm Rt (by decide)) (Nat.le_of_ble_eq_true rfl) dX12_rests_38 rfl ?_
        rintro _ _ ⟨rfl, rfl⟩
        refine at_if_ne 44 48 X dX12_rests_41 rfl (by decide) (fun h41 => ?_) (fun h41 => ?_)
        · have h41 : (0 ≤ x2 ∧ x2 ≤ 1) := ite_yes.mp h41
          refine at_iconst 49 X (by decide) dX12_rests_48 rfl ?_
          refine at_iconst 50 X (by decide) dX12_rests_49 rfl ?_
          refine at_iconst 51 X (by decide) dX12_rests_50 rfl ?_
          refine at_callV 54 X _ 12 (ct_bad0 hG E0 2 2 (by decide) hO_E0.2.2.1) clX12 rfl k_125 mo_X12_bad w_1960 vo_X12_bad.1 vo_X12_bad.2 rfl rfl (crm Rt (by decide)) (Nat.le_of_ble_eq_true rfl) dX12_rests_51 rfl ?_
          rintro _ _ ⟨rfl, rfl⟩
          have hc1 : (0 ≤ x1 ∧ x1 ≤ 23) ∧ (0 ≤ x2 ∧ x2 ≤ 1) := by omega
          refine at_if_eq 57 59 X dX12_rests_54 rfl (by decide) (fun h54 => ?_) (fun h54 => ?_)
          · obtain ⟨c, rfl⟩ : ∃ c : Nat, x0 = (c : Int) := ⟨x0.toNat, by omega⟩
            obtain ⟨h, rfl⟩ : ∃ h : Nat, x1 = (h : Int) := ⟨x1.toNat, by omega⟩
            refine at_aload_n 60 X rfl rfl dX12_rests_59 rfl ?_
            refine at_callV 63 X _ 12 (ct_X12_runsNow hG E0 Q P L T K d st hWf hO_E0.1) clX12 rfl k_125 mo_X12_runsNow w_2201 vo_X12_runsNow.1 vo_X12_runsNow.2 rfl rfl (crm Rt (by decide)) (Nat.le_of_ble_eq_true rfl) dX12_rests_60 rfl ?_
            rintro _ _ ⟨rfl, F1, rfl, hI_F1, hY_F1, hs_F1, hd_F1, hr_F1, h0_F1, h7_F1⟩
            have hO_F1 := hO_E0.nx hI_F1 hY_F1 h0_F1 h7_F1
            have hR_F1 := hI_F1.1
            refine at_pop 64 X (show ¬ (0 : Nat) = 1 by decide) dX12_rests_63 rfl ?_
            refine at_aload_n 65 X rfl rfl dX12_rests_64 rfl ?_
            refine m_getR 68 X f_X12_121 k_125 r_125_55 dX12_rests_65 rfl ?_
            refine at_iload_n 69 X rfl rfl dX12_rests_68 rfl ?_
            refine m_aaloadV 70 X h (by omega) k_732 (by decide) (by omega) (rr_732 _ (by omega)) dX12_rests_69 rfl ?_
            refine at_iload_n 71 X rfl rfl dX12_rests_70 rfl ?_
            refine m_laloadV 72 X c (by omega) (wtN (sB P) (dP (dyP (gDay P L d) (sB P) T (h + 1))) c (bN (sB P))) (hr_F1.2 h c (by omega) (by omega)) (kr_732 _ (by omega)) (er_732 _ (by omega)) (by omega) dX12_rests_71 rfl ?_
            have hwt := wtN_in hP.B (dP (dyP (gDay P L d) (sB P) T (h + 1))) c (Nat.le_refl (bN (sB P)))
            refine at_ldc2 75 X (n := 232792560) w_2217 (by decide) (by decide) dX12_rests_72 rfl ?_
            refine at_iload_n 76 X rfl rfl dX12_rests_75 rfl ?_
            refine at_callS 79 X (ct_X12_least hG F1 (wtN (sB P) (dP (dyP (gDay P L d) (sB P) T (h + 1))) c (bN (sB P))) 232792560 x2 (by omega) (by omega) (by omega)) mo_X12_least w_2222 so_X12_least rfl rfl (crm Rt (by decide)) (Nat.le_of_ble_eq_true rfl) dX12_rests_76 rfl ?_
            rintro _ _ ⟨rfl, rfl⟩
            refine at_lret X Rt ?_ (Nat.le_refl _) (Nat.le_refl _) dX12_rests_79
            exact Or.inl ⟨hc0, hc1, (by rfl), _, rfl, hO_F1⟩
          · exact absurd h54 (by decide)
        · have h41 : ¬ (0 ≤ x2 ∧ x2 ≤ 1) := ite_no.mp h41
          refine at_iconst 45 X (by decide) dX12_rests_44 rfl ?_
          refine at_goto 49 X dX12_rests_45 (by decide) ?_
          refine at_iconst 50 X (by decide) dX12_rests_49 rfl ?_
          refine at_iconst 51 X (by decide) dX12_rests_50 rfl ?_
          refine at_callV 54 X _ 12 (ct_bad1 hG E0 2 2 (by decide) hO_E0.2.2.1 (by decide)) clX12 rfl k_125 mo_X12_bad w_1960 vo_X12_bad.1 vo_X12_bad.2 rfl rfl (crm Rt (by decide)) (Nat.le_of_ble_eq_true rfl) dX12_rests_51 rfl ?_
          rintro _ _ ⟨rfl, rfl⟩
          have hb : ¬ ((0 ≤ x1 ∧ x1 ≤ 23) ∧ (0 ≤ x2 ∧ x2 ≤ 1)) := by omega
          refine at_if_eq 57 59 X dX12_rests_54 rfl (by decide) (fun h54 => ?_) (fun h54 => ?_)
          · exact absurd h54 (by decide)
          · refine at_lconst 58 X (v := 0) (by decide) (by decide) dX12_rests_57 rfl ?_
            refine at_lret X Rt ?_ (Nat.le_refl _) (Nat.le_refl _) dX12_rests_58
            exact Or.inr (Or.inr (⟨hc0, hb, rfl, congrArg ov (badR_of hE0)⟩))
  · have h11 : ¬ (0 ≤ x0 ∧ x0 ≤ (sW P : Int) - 1) := ite_no.mp h11
    refine at_iconst 15 X (by decide) dX12_rests_14 rfl ?_
    refine at_goto 19 X dX12_rests_15 (by decide) ?_
    refine at_iconst 20 X (by decide) dX12_rests_19 rfl ?_
    refine at_iconst 21 X (by decide) dX12_rests_20 rfl ?_
    refine at_callV 24 X _ 12 (ct_bad1 hG E0 1 0 (by decide) hO_E0.2.2.1 (by decide)) clX12 rfl k_125 mo_X12_bad w_1960 vo_X12_bad.1 vo_X12_bad.2 rfl rfl (crm Rt (by decide)) (Nat.le_of_ble_eq_true rfl) dX12_rests_21 rfl ?_
    rintro _ _ ⟨rfl, rfl⟩
    have hb : ¬ (0 ≤ x0 ∧ x0 ≤ (sW P : Int) - 1) := by omega
    refine at_if_ne 27 57 X dX12_rests_24 rfl (by decide) (fun h24 => ?_) (fun h24 => ?_)
    · refine at_lconst 58 X (v := 0) (by decide) (by decide) dX12_rests_57 rfl ?_
      refine at_lret X Rt ?_ (Nat.le_refl _) (Nat.le_refl _) dX12_rests_58
      exact Or.inr (Or.inl ⟨hb, rfl, congrArg ov (badR_of hE0)⟩)
    · exact absurd h24 (by decide)
theorem dX12_slack_0 : decode cX12_slack 0 = .ok (.aload_n 0, 1) := by decide +kernel
theorem dX12_slack_1 : decode cX12_slack 1 = .ok (.iconst 0, 1) := by decide +kernel
theorem dX12_slack_2 : decode cX12_slack 2 = .ok (.putfield 152, 3) := by decide +kernel
theorem dX12_slack_5 : decode cX12_slack 5 = .ok (.aload_n 0, 1) := by decide +kernel
theorem dX12_slack_6 : decode cX12_slack 6 = .ok (.aload_n 0, 1) := by decide +kernel
theorem dX12_slack_7 : decode cX12_slack 7 = .ok (.iload_n 1, 1) := by decide +kernel
theorem dX12_slack_8 : decode cX12_slack 8 = .ok (.invokevirtual 351, 3) := by decide +kernel
theorem dX12_slack_11 : decode cX12_slack 11 = .ok (.ifCond .ne 7, 3) := by decide +kernel
theorem dX12_slack_14 : decode cX12_slack 14 = .ok (.iconst 1, 1) := by decide +kernel
theorem dX12_slack_15 : decode cX12_slack 15 = .ok (.goto 4, 3) := by decide +kernel
theorem dX12_slack_18 : decode cX12_slack 18 = .ok (.iconst 0, 1) := by decide +kernel
theorem dX12_slack_19 : decode cX12_slack 19 = .ok (.iconst 1, 1) := by decide +kernel
theorem dX12_slack_20 : decode cX12_slack 20 = .ok (.iconst 0, 1) := by decide +kernel
theorem dX12_slack_21 : decode cX12_slack 21 = .ok (.invokevirtual 244, 3) := by decide +kernel
theorem dX12_slack_24 : decode cX12_slack 24 = .ok (.ifCond .ne 33, 3) := by decide +kernel
theorem dX12_slack_27 : decode cX12_slack 27 = .ok (.aload_n 0, 1) := by decide +kernel
theorem dX12_slack_28 : decode cX12_slack 28 = .ok (.iload_n 2, 1) := by decide +kernel
theorem dX12_slack_29 : decode cX12_slack 29 = .ok (.invokestatic 314, 3) := by decide +kernel
theorem dX12_slack_32 : decode cX12_slack 32 = .ok (.ifCond .eq 12, 3) := by decide +kernel
theorem dX12_slack_35 : decode cX12_slack 35 = .ok (.iload_n 3, 1) := by decide +kernel
theorem dX12_slack_36 : decode cX12_slack 36 = .ok (.iconst 0, 1) := by decide +kernel
theorem dX12_slack_37 : decode cX12_slack 37 = .ok (.iconst 1, 1) := by decide +kernel
theorem dX12_slack_38 : decode cX12_slack 38 = .ok (.invokestatic 186, 3) := by decide +kernel
theorem dX12_slack_41 : decode cX12_slack 41 = .ok (.ifCond .ne 7, 3) := by decide +kernel
theorem dX12_slack_44 : decode cX12_slack 44 = .ok (.iconst 1, 1) := by decide +kernel
theorem dX12_slack_45 : decode cX12_slack 45 = .ok (.goto 4, 3) := by decide +kernel
theorem dX12_slack_48 : decode cX12_slack 48 = .ok (.iconst 0, 1) := by decide +kernel
theorem dX12_slack_49 : decode cX12_slack 49 = .ok (.iconst 2, 1) := by decide +kernel
theorem dX12_slack_50 : decode cX12_slack 50 = .ok (.iconst 2, 1) := by decide +kernel
theorem dX12_slack_51 : decode cX12_slack 51 = .ok (.invokevirtual 244, 3) := by decide +kernel
theorem dX12_slack_54 : decode cX12_slack 54 = .ok (.ifCond .eq 5, 3) := by decide +kernel
theorem dX12_slack_57 : decode cX12_slack 57 = .ok (.lconst 0, 1) := by decide +kernel
theorem dX12_slack_58 : decode cX12_slack 58 = .ok (.lreturn, 1) := by decide +kernel
theorem dX12_slack_59 : decode cX12_slack 59 = .ok (.aload_n 0, 1) := by decide +kernel
theorem dX12_slack_60 : decode cX12_slack 60 = .ok (.invokevirtual 400, 3) := by decide +kernel
theorem dX12_slack_63 : decode cX12_slack 63 = .ok (.pop, 1) := by decide +kernel
theorem dX12_slack_64 : decode cX12_slack 64 = .ok (.aload_n 0, 1) := by decide +kernel
theorem dX12_slack_65 : decode cX12_slack 65 = .ok (.getfield 116, 3) := by decide +kernel
theorem dX12_slack_68 : decode cX12_slack 68 = .ok (.iload_n 2, 1) := by decide +kernel
theorem dX12_slack_69 : decode cX12_slack 69 = .ok (.aaload, 1) := by decide +kernel
theorem dX12_slack_70 : decode cX12_slack 70 = .ok (.iload_n 1, 1) := by decide +kernel
theorem dX12_slack_71 : decode cX12_slack 71 = .ok (.iaload, 1) := by decide +kernel
theorem dX12_slack_72 : decode cX12_slack 72 = .ok (.i2l, 1) := by decide +kernel
theorem dX12_slack_73 : decode cX12_slack 73 = .ok (.ldc2_w 381, 3) := by decide +kernel
theorem dX12_slack_76 : decode cX12_slack 76 = .ok (.lmul, 1) := by decide +kernel
theorem dX12_slack_77 : decode cX12_slack 77 = .ok (.aload_n 0, 1) := by decide +kernel
theorem dX12_slack_78 : decode cX12_slack 78 = .ok (.getfield 121, 3) := by decide +kernel
theorem dX12_slack_81 : decode cX12_slack 81 = .ok (.iload_n 2, 1) := by decide +kernel
theorem dX12_slack_82 : decode cX12_slack 82 = .ok (.aaload, 1) := by decide +kernel
theorem dX12_slack_83 : decode cX12_slack 83 = .ok (.iload_n 1, 1) := by decide +kernel
theorem dX12_slack_84 : decode cX12_slack 84 = .ok (.laload, 1) := by decide +kernel
theorem dX12_slack_85 : decode cX12_slack 85 = .ok (.lsub, 1) := by decide +kernel
theorem dX12_slack_86 : decode cX12_slack 86 = .ok (.ldc2_w 381, 3) := by decide +kernel
theorem dX12_slack_89 : decode cX12_slack 89 = .ok (.iload_n 3, 1) := by decide +kernel
theorem dX12_slack_90 : decode cX12_slack 90 = .ok (.invokestatic 403, 3) := by decide +kernel
theorem dX12_slack_93 : decode cX12_slack 93 = .ok (.lreturn, 1) := by decide +kernel
theorem ct_X12_slack {g : Gw} (hG : GF g) {z : Bool} (E : Mm) (Q : RX) (P : SP) (L : LW) (T K : LN) (d st : Nat) (hWf : WF P L T K d st) (hI_E : RXI E Q P L T K d st) (x0 x1 x2 : Int) : CT g yX12_slack cX12_slack 4 (some .long) 8 176 0 0 K2 z [mR 125, mI x0, mI x1, mI x2] (ov E) K2 z (fun r' D' => ((0 ≤ x0 ∧ x0 ≤ (sW P : Int) - 1) ∧ ((0 ≤ x1 ∧ x1 ≤ 23) ∧ (0 ≤ x2 ∧ x2 ≤ 1)) ∧ r' = some (mL (ltmP (bOn (gDay P L d) x1.toNat x0.toNat * 232792560 - wtN (sB P) (dP (dyP (gDay P L d) (sB P) T (x1.toNat + 1))) x0.toNat (bN (sB P))) 232792560 x2)) ∧ ∃ E1, D' = ov E1 ∧ RXO E E1 Q P L T K d st) ∨ (¬ (0 ≤ x0 ∧ x0 ≤ (sW P : Int) - 1) ∧ r' = some (mL 0) ∧ D' = ov (badR E 1 0)) ∨ ((0 ≤ x0 ∧ x0 ≤ (sW P : Int) - 1) ∧ ¬ ((0 ≤ x1 ∧ x1 ≤ 23) ∧ (0 ≤ x2 ∧ x2 ≤ 1)) ∧ r' = some (mL 0) ∧ D' = ov (badR E 2 2))) := by
  refine CT.mk hG (by decide +kernel) (Nat.le_of_ble_eq_true rfl) (fun κ X Rt _ ok => ?_)
  have hP := hWf.1
  have hN8 := hP.B.N
  have hW40 := hP.W
  have hN11 := hP.N
  have hwN : gN (gDay P L d) ≤ 11 := Nat.le_trans hP.N (by decide)
  have hgw : gW (gDay P L d) = sW P := rfl
  have hDI24 := dyP_DI (G := (gDay P L d)) hP.B hWf.2.2.2.1 (Nat.le_refl 24)
  refine at_aload_n 1 X rfl rfl dX12_slack_0 rfl ?_
  refine at_iconst 2 X (by decide) dX12_slack_1 rfl ?_
  refine m_putI 5 X f_X12_152 fw_12_0 k_125 rn_125_0 dX12_slack_2 rfl ?_
  have hO_E0 := RXO.z hWf hI_E
  generalize hE0 : wr E 125 0 0 = E0 at hO_E0 ⊢
  have hR_E0 := hO_E0.1.1
  refine at_aload_n 6 X rfl rfl dX12_slack_5 rfl ?_
  refine at_aload_n 7 X rfl rfl dX12_slack_6 rfl ?_
  refine at_iload_n 8 X rfl rfl dX12_slack_7 rfl ?_
  refine at_callV 11 X _ 12 (ct_X12_isCell hG E0 P Q hP hR_E0 x0) clX12 rfl k_125 mo_X12_isCell w_2154 vo_X12_isCell.1 vo_X12_isCell.2 rfl rfl (crm Rt (by decide)) (Nat.le_of_ble_eq_true rfl) dX12_slack_8 rfl ?_
  rintro _ _ ⟨rfl, rfl⟩
  refine at_if_ne 14 18 X dX12_slack_11 rfl (by decide) (fun h11 => ?_) (fun h11 => ?_)
  · have h11 : (0 ≤ x0 ∧ x0 ≤ (sW P : Int) - 1) := ite_yes.mp h11
    refine at_iconst 19 X (by decide) dX12_slack_18 rfl ?_
    refine at_iconst 20 X (by decide) dX12_slack_19 rfl ?_
    refine at_iconst 21 X (by decide) dX12_slack_20 rfl ?_
    refine at_callV 24 X _ 12 (ct_bad0 hG E0 1 0 (by decide) hO_E0.2.2.1) clX12 rfl k_125 mo_X12_bad w_1960 vo_X12_bad.1 vo_X12_bad.2 rfl rfl (crm Rt (by decide)) (Nat.le_of_ble_eq_true rfl) dX12_slack_21 rfl ?_
    rintro _ _ ⟨rfl, rfl⟩
    have hc0 : 0 ≤ x0 ∧ x0 ≤ (sW P : Int) - 1 := by omega
    refine at_if_ne 27 57 X dX12_slack_24 rfl (by decide) (fun h24 => ?_) (fun h24 => ?_)
    · exact absurd h24 (by decide)
    · refine at_aload_n 28 X rfl rfl dX12_slack_27 rfl ?_
      refine at_iload_n 29 X rfl rfl dX12_slack_28 rfl ?_
      refine at_callS 32 X (ct_X12_isHour hG E0 x1) mo_X12_isHour w_2074 so_X12_isHour rfl rfl (crm Rt (by decide)) (Nat.le_of_ble_eq_true rfl) dX12_slack_29 rfl ?_
      rintro _ _ ⟨rfl, rfl⟩
      refine at_if_eq 35 44 X dX12_slack_32 rfl (by decide) (fun h32 => ?_) (fun h32 => ?_)
      · have h32 : ¬ (0 ≤ x1 ∧ x1 ≤ 23) := ite_no.mp h32
        refine at_iconst 45 X (by decide) dX12_slack_44 rfl ?_
        refine at_goto 49 X dX12_slack_45 (by decide) ?_
        refine at_iconst 50 X (by decide) dX12_slack_49 rfl ?_
        refine at_iconst 51 X (by decide) dX12_slack_50 rfl ?_
        refine at_callV 54 X _ 12 (ct_bad1 hG E0 2 2 (by decide) hO_E0.2.2.1 (by decide)) clX12 rfl k_125 mo_X12_bad w_1960 vo_X12_bad.1 vo_X12_bad.2 rfl rfl (crm Rt (by decide)) (Nat.le_of_ble_eq_true rfl) dX12_slack_51 rfl ?_
        rintro _ _ ⟨rfl, rfl⟩
        have hb : ¬ ((0 ≤ x1 ∧ x1 ≤ 23) ∧ (0 ≤ x2 ∧ x2 ≤ 1)) := by omega
        refine at_if_eq 57 59 X dX12_slack_54 rfl (by decide) (fun h54 => ?_) (fun h54 => ?_)
        · exact absurd h54 (by decide)
        · refine at_lconst 58 X (v := 0) (by decide) (by decide) dX12_slack_57 rfl ?_
          refine at_lret X Rt ?_ (Nat.le_refl _) (Nat.le_refl _) dX12_slack_58
          exact Or.inr (Or.inr (⟨hc0, hb, rfl, congrArg ov (badR_of hE0)⟩))
      · have h32 : (0 ≤ x1 ∧ x1 ≤ 23) := ite_yes.mp h32
        refine at_iload_n 36 X rfl rfl dX12_slack_35 rfl ?_
        refine at_iconst 37 X (by decide) dX12_slack_36 rfl ?_
        refine at_iconst 38 X (by decide) dX12_slack_37 rfl ?_
        refine at_callS 41 X (ct_X12_in hG _ _ _) mo_X12_in w_1957 so_X12_in rfl rfl (crm Rt (by decide)) (Nat.le_of_ble_eq_true rfl) dX12_slack_38 rfl ?_
        rintro _ _ ⟨rfl, rfl⟩
        refine at_if_ne 44 48 X dX12_slack_41 rfl (by decide) (fun h41 => ?_) (fun h41 => ?_)
        · have h41 : (0 ≤ x2 ∧ x2 ≤ 1) := ite_yes.mp h41
          refine at_iconst 49 X (by decide) dX12_slack_48 rfl ?_
          refine at_iconst 50 X (by decide) dX12_slack_49 rfl ?_
          refine at_iconst 51 X (by decide) dX12_slack_50 rfl ?_
          refine at_callV 54 X _ 12 (ct_bad0 hG E0 2 2 (by decide) hO_E0.2.2.1) clX12 rfl k_125 mo_X12_bad w_1960 vo_X12_bad.1 vo_X12_bad.2 rfl rfl (crm Rt (by decide)) (Nat.le_of_ble_eq_true rfl) dX12_slack_51 rfl ?_
          rintro _ _ ⟨rfl, rfl⟩
          have hc1 : (0 ≤ x1 ∧ x1 ≤ 23) ∧ (0 ≤ x2 ∧ x2 ≤ 1) := by omega
          refine at_if_eq 57 59 X dX12_slack_54 rfl (by decide) (fun h54 => ?_) (fun h54 => ?_)
          · obtain ⟨c, rfl⟩ : ∃ c : Nat, x0 = (c : Int) := ⟨x0.toNat, by omega⟩
            obtain ⟨h, rfl⟩ : ∃ h : Nat, x1 = (h : Int) := ⟨x1.toNat, by omega⟩
            refine at_aload_n 60 X rfl rfl dX12_slack_59 rfl ?_
            refine at_callV 63 X _ 12 (ct_X12_runsNow hG E0 Q P L T K d st hWf hO_E0.1) clX12 rfl k_125 mo_X12_runsNow w_2201 vo_X12_runsNow.1 vo_X12_runsNow.2 rfl rfl (crm Rt (by decide)) (Nat.le_of_ble_eq_true rfl) dX12_slack_60 rfl ?_
            rintro _ _ ⟨rfl, F1, rfl, hI_F1, hY_F1, hs_F1, hd_F1, hr_F1, h0_F1, h7_F1⟩
            have hO_F1 := hO_E0.nx hI_F1 hY_F1 h0_F1 h7_F1
            have hR_F1 := hI_F1.1
            refine at_pop 64 X (show ¬ (0 : Nat) = 1 by decide) dX12_slack_63 rfl ?_
            refine at_aload_n 65 X rfl rfl dX12_slack_64 rfl ?_
            refine m_getR 68 X f_X12_116 k_125 r_125_51 dX12_slack_65 rfl ?_
            refine at_iload_n 69 X rfl rfl dX12_slack_68 rfl ?_
            refine m_aaloadV 70 X h (by omega) k_707 (by decide) (by omega) (rr_707 _ (by omega)) dX12_slack_69 rfl ?_
            refine at_iload_n 71 X rfl rfl dX12_slack_70 rfl ?_
            refine m_ialoadV 72 X c (by omega) (bOn (gDay P L d) h c) (hs_F1 h c (by omega) (by omega)).2 (kr_707 _ (by omega)) (er_707 _ (by omega)) (by omega) dX12_slack_71 rfl ?_
            have := bOn_in (gDay P L d) h c
            refine at_i2l 73 X dX12_slack_72 rfl ?_
            refine at_ldc2 76 X (n := 232792560) w_2217 (by decide) (by decide) dX12_slack_73 rfl ?_
            refine at_lmulV 77 X ((bOn (gDay P L d) h c) * 232792560) (w64_v rfl (by omega) (by omega)) dX12_slack_76 rfl ?_
            refine at_aload_n 78 X rfl rfl dX12_slack_77 rfl ?_
            refine m_getR 81 X f_X12_121 k_125 r_125_55 dX12_slack_78 rfl ?_
            refine at_iload_n 82 X rfl rfl dX12_slack_81 rfl ?_
            refine m_aaloadV 83 X h (by omega) k_732 (by decide) (by omega) (rr_732 _ (by omega)) dX12_slack_82 rfl ?_
            refine at_iload_n 84 X rfl rfl dX12_slack_83 rfl ?_
            refine m_laloadV 85 X c (by omega) (wtN (sB P) (dP (dyP (gDay P L d) (sB P) T (h + 1))) c (bN (sB P))) (hr_F1.2 h c (by omega) (by omega)) (kr_732 _ (by omega)) (er_732 _ (by omega)) (by omega) dX12_slack_84 rfl ?_
            have hwt := wtN_in hP.B (dP (dyP (gDay P L d) (sB P) T (h + 1))) c (Nat.le_refl (bN (sB P)))
            refine at_lsubV 86 X (((bOn (gDay P L d) h c) * 232792560) - (wtN (sB P) (dP (dyP (gDay P L d) (sB P) T (h + 1))) c (bN (sB P)))) (w64_v rfl (by omega) (by omega)) dX12_slack_85 rfl ?_
            refine at_ldc2 89 X (n := 232792560) w_2217 (by decide) (by decide) dX12_slack_86 rfl ?_
            refine at_iload_n 90 X rfl rfl dX12_slack_89 rfl ?_
            refine at_callS 93 X (ct_X12_least hG F1 (((bOn (gDay P L d) h c) * 232792560) - (wtN (sB P) (dP (dyP (gDay P L d) (sB P) T (h + 1))) c (bN (sB P)))) 232792560 x2 (by omega) (by omega) (by omega)) mo_X12_least w_2222 so_X12_least rfl rfl (crm Rt (by decide)) (Nat.le_of_ble_eq_true rfl) dX12_slack_90 rfl ?_
            rintro _ _ ⟨rfl, rfl⟩
            refine at_lret X Rt ?_ (Nat.le_refl _) (Nat.le_refl _) dX12_slack_93
            exact Or.inl ⟨hc0, hc1, (by rfl), _, rfl, hO_F1⟩
          · exact absurd h54 (by decide)
        · have h41 : ¬ (0 ≤ x2 ∧ x2 ≤ 1) := ite_no.mp h41
          refine at_iconst 45 X (by decide) dX12_slack_44 rfl ?_
          refine at_goto 49 X dX12_slack_45 (by decide) ?_
          refine at_iconst 50 X (by decide) dX12_slack_49 rfl ?_
          refine at_iconst 51 X (by decide) dX12_slack_50 rfl ?_
          refine at_callV 54 X _ 12 (ct_bad1 hG E0 2 2 (by decide) hO_E0.2.2.1 (by decide)) clX12 rfl k_125 mo_X12_bad w_1960 vo_X12_bad.1 vo_X12_bad.2 rfl rfl (crm Rt (by decide)) (Nat.le_of_ble_eq_true rfl) dX12_slack_51 rfl ?_
          rintro _ _ ⟨rfl, rfl⟩
          have hb : ¬ ((0 ≤ x1 ∧ x1 ≤ 23) ∧ (0 ≤ x2 ∧ x2 ≤ 1)) := by omega
          refine at_if_eq 57 59 X dX12_slack_54 rfl (by decide) (fun h54 => ?_) (fun h54 => ?_)
          · exact absurd h54 (by decide)
          · refine at_lconst 58 X (v := 0) (by decide) (by decide) dX12_slack_57 rfl ?_
            refine at_lret X Rt ?_ (Nat.le_refl _) (Nat.le_refl _) dX12_slack_58
            exact Or.inr (Or.inr (⟨hc0, hb, rfl, congrArg ov (badR_of hE0)⟩))
  · have h11 : ¬ (0 ≤ x0 ∧ x0 ≤ (sW P : Int) - 1) := ite_no.mp h11
    refine at_iconst 15 X (by decide) dX12_slack_14 rfl ?_
    refine at_goto 19 X dX12_slack_15 (by decide) ?_
    refine at_iconst 20 X (by decide) dX12_slack_19 rfl ?_
    refine at_iconst 21 X (by decide) dX12_slack_20 rfl ?_
    refine at_callV 24 X _ 12 (ct_bad1 hG E0 1 0 (by decide) hO_E0.2.2.1 (by decide)) clX12 rfl k_125 mo_X12_bad w_1960 vo_X12_bad.1 vo_X12_bad.2 rfl rfl (crm Rt (by decide)) (Nat.le_of_ble_eq_true rfl) dX12_slack_21 rfl ?_
    rintro _ _ ⟨rfl, rfl⟩
    have hb : ¬ (0 ≤ x0 ∧ x0 ≤ (sW P : Int) - 1) := by omega
    refine at_if_ne 27 57 X dX12_slack_24 rfl (by decide) (fun h24 => ?_) (fun h24 => ?_)
    · refine at_lconst 58 X (v := 0) (by decide) (by decide) dX12_slack_57 rfl ?_
      refine at_lret X Rt ?_ (Nat.le_refl _) (Nat.le_refl _) dX12_slack_58
      exact Or.inr (Or.inl ⟨hb, rfl, congrArg ov (badR_of hE0)⟩)
    · exact absurd h24 (by decide)
theorem dX12_puts_0 : decode cX12_puts 0 = .ok (.aload_n 0, 1) := by decide +kernel
theorem dX12_puts_1 : decode cX12_puts 1 = .ok (.iconst 0, 1) := by decide +kernel
theorem dX12_puts_2 : decode cX12_puts 2 = .ok (.putfield 152, 3) := by decide +kernel
theorem dX12_puts_5 : decode cX12_puts 5 = .ok (.aload_n 0, 1) := by decide +kernel
theorem dX12_puts_6 : decode cX12_puts 6 = .ok (.aload_n 0, 1) := by decide +kernel
theorem dX12_puts_7 : decode cX12_puts 7 = .ok (.iload_n 1, 1) := by decide +kernel
theorem dX12_puts_8 : decode cX12_puts 8 = .ok (.invokevirtual 324, 3) := by decide +kernel
theorem dX12_puts_11 : decode cX12_puts 11 = .ok (.ifCond .ne 7, 3) := by decide +kernel
theorem dX12_puts_14 : decode cX12_puts 14 = .ok (.iconst 1, 1) := by decide +kernel
theorem dX12_puts_15 : decode cX12_puts 15 = .ok (.goto 4, 3) := by decide +kernel
theorem dX12_puts_18 : decode cX12_puts 18 = .ok (.iconst 0, 1) := by decide +kernel
theorem dX12_puts_19 : decode cX12_puts 19 = .ok (.iconst 1, 1) := by decide +kernel
theorem dX12_puts_20 : decode cX12_puts 20 = .ok (.iconst 1, 1) := by decide +kernel
theorem dX12_puts_21 : decode cX12_puts 21 = .ok (.invokevirtual 244, 3) := by decide +kernel
theorem dX12_puts_24 : decode cX12_puts 24 = .ok (.ifCond .ne 35, 3) := by decide +kernel
theorem dX12_puts_27 : decode cX12_puts 27 = .ok (.aload_n 0, 1) := by decide +kernel
theorem dX12_puts_28 : decode cX12_puts 28 = .ok (.iload_n 2, 1) := by decide +kernel
theorem dX12_puts_29 : decode cX12_puts 29 = .ok (.iconst 0, 1) := by decide +kernel
theorem dX12_puts_30 : decode cX12_puts 30 = .ok (.iconst 1, 1) := by decide +kernel
theorem dX12_puts_31 : decode cX12_puts 31 = .ok (.invokestatic 186, 3) := by decide +kernel
theorem dX12_puts_34 : decode cX12_puts 34 = .ok (.ifCond .eq 12, 3) := by decide +kernel
theorem dX12_puts_37 : decode cX12_puts 37 = .ok (.iload_n 3, 1) := by decide +kernel
theorem dX12_puts_38 : decode cX12_puts 38 = .ok (.iconst 0, 1) := by decide +kernel
theorem dX12_puts_39 : decode cX12_puts 39 = .ok (.iconst 1, 1) := by decide +kernel
theorem dX12_puts_40 : decode cX12_puts 40 = .ok (.invokestatic 186, 3) := by decide +kernel
theorem dX12_puts_43 : decode cX12_puts 43 = .ok (.ifCond .ne 7, 3) := by decide +kernel
theorem dX12_puts_46 : decode cX12_puts 46 = .ok (.iconst 1, 1) := by decide +kernel
theorem dX12_puts_47 : decode cX12_puts 47 = .ok (.goto 4, 3) := by decide +kernel
theorem dX12_puts_50 : decode cX12_puts 50 = .ok (.iconst 0, 1) := by decide +kernel
theorem dX12_puts_51 : decode cX12_puts 51 = .ok (.iconst 2, 1) := by decide +kernel
theorem dX12_puts_52 : decode cX12_puts 52 = .ok (.iconst 2, 1) := by decide +kernel
theorem dX12_puts_53 : decode cX12_puts 53 = .ok (.invokevirtual 244, 3) := by decide +kernel
theorem dX12_puts_56 : decode cX12_puts 56 = .ok (.ifCond .eq 5, 3) := by decide +kernel
theorem dX12_puts_59 : decode cX12_puts 59 = .ok (.lconst 0, 1) := by decide +kernel
theorem dX12_puts_60 : decode cX12_puts 60 = .ok (.lreturn, 1) := by decide +kernel
theorem dX12_puts_61 : decode cX12_puts 61 = .ok (.aload_n 0, 1) := by decide +kernel
theorem dX12_puts_62 : decode cX12_puts 62 = .ok (.iload_n 1, 1) := by decide +kernel
theorem dX12_puts_63 : decode cX12_puts 63 = .ok (.iload_n 2, 1) := by decide +kernel
theorem dX12_puts_64 : decode cX12_puts 64 = .ok (.invokevirtual 383, 3) := by decide +kernel
theorem dX12_puts_67 : decode cX12_puts 67 = .ok (.ldc2_w 381, 3) := by decide +kernel
theorem dX12_puts_70 : decode cX12_puts 70 = .ok (.iload_n 3, 1) := by decide +kernel
theorem dX12_puts_71 : decode cX12_puts 71 = .ok (.invokestatic 403, 3) := by decide +kernel
theorem dX12_puts_74 : decode cX12_puts 74 = .ok (.lreturn, 1) := by decide +kernel
theorem ct_X12_puts {g : Gw} (hG : GF g) {z : Bool} (E : Mm) (Q : RX) (P : SP) (L : LW) (T K : LN) (d st : Nat) (hWf : WF P L T K d st) (hI_E : RXI E Q P L T K d st) (x0 x1 x2 : Int) : CT g yX12_puts cX12_puts 4 (some .long) 2 43 0 0 K2 z [mR 125, mI x0, mI x1, mI x2] (ov E) K2 z (fun r' D' => ((0 ≤ x0 ∧ x0 ≤ (bN (sB P) : Int) - 1) ∧ ((0 ≤ x1 ∧ x1 ≤ 1) ∧ (0 ≤ x2 ∧ x2 ≤ 1)) ∧ r' = some (mL (ltmP (if x1 = 0 then (onL (sB P) x0.toNat : Int) else (onR (sB P) x0.toNat : Int)) 232792560 x2)) ∧ ∃ E1, D' = ov E1 ∧ RXO E E1 Q P L T K d st) ∨ (¬ (0 ≤ x0 ∧ x0 ≤ (bN (sB P) : Int) - 1) ∧ r' = some (mL 0) ∧ D' = ov (badR E 1 1)) ∨ ((0 ≤ x0 ∧ x0 ≤ (bN (sB P) : Int) - 1) ∧ ¬ ((0 ≤ x1 ∧ x1 ≤ 1) ∧ (0 ≤ x2 ∧ x2 ≤ 1)) ∧ r' = some (mL 0) ∧ D' = ov (badR E 2 2))) := by
  refine CT.mk hG (by decide +kernel) (Nat.le_of_ble_eq_true rfl) (fun κ X Rt _ ok => ?_)
  have hP := hWf.1
  have hN8 := hP.B.N
  have hW40 := hP.W
  have hN11 := hP.N
  have hwN : gN (gDay P L d) ≤ 11 := Nat.le_trans hP.N (by decide)
  have hgw : gW (gDay P L d) = sW P := rfl
  have hDI24 := dyP_DI (G := (gDay P L d)) hP.B hWf.2.2.2.1 (Nat.le_refl 24)
  refine at_aload_n 1 X rfl rfl dX12_puts_0 rfl ?_
  refine at_iconst 2 X (by decide) dX12_puts_1 rfl ?_
  refine m_putI 5 X f_X12_152 fw_12_0 k_125 rn_125_0 dX12_puts_2 rfl ?_
  have hO_E0 := RXO.z hWf hI_E
  generalize hE0 : wr E 125 0 0 = E0 at hO_E0 ⊢
  have hR_E0 := hO_E0.1.1
  refine at_aload_n 6 X rfl rfl dX12_puts_5 rfl ?_
  refine at_aload_n 7 X rfl rfl dX12_puts_6 rfl ?_
  refine at_iload_n 8 X rfl rfl dX12_puts_7 rfl ?_
  refine at_callV 11 X _ 12 (ct_X12_isBeam hG E0 P Q hP hR_E0 x0) clX12 rfl k_125 mo_X12_isBeam w_2122 vo_X12_isBeam.1 vo_X12_isBeam.2 rfl rfl (crm Rt (by decide)) (Nat.le_of_ble_eq_true rfl) dX12_puts_8 rfl ?_
  rintro _ _ ⟨rfl, rfl⟩
  refine at_if_ne 14 18 X dX12_puts_11 rfl (by decide) (fun h11 => ?_) (fun h11 => ?_)
  · have h11 : (0 ≤ x0 ∧ x0 ≤ (bN (sB P) : Int) - 1) := ite_yes.mp h11
    refine at_iconst 19 X (by decide) dX12_puts_18 rfl ?_
    refine at_iconst 20 X (by decide) dX12_puts_19 rfl ?_
    refine at_iconst 21 X (by decide) dX12_puts_20 rfl ?_
    refine at_callV 24 X _ 12 (ct_bad0 hG E0 1 1 (by decide) hO_E0.2.2.1) clX12 rfl k_125 mo_X12_bad w_1960 vo_X12_bad.1 vo_X12_bad.2 rfl rfl (crm Rt (by decide)) (Nat.le_of_ble_eq_true rfl) dX12_puts_21 rfl ?_
    rintro _ _ ⟨rfl, rfl⟩
    have hc0 : 0 ≤ x0 ∧ x0 ≤ (bN (sB P) : Int) - 1 := by omega
    refine at_if_ne 27 59 X dX12_puts_24 rfl (by decide) (fun h24 => ?_) (fun h24 => ?_)
    · exact absurd h24 (by decide)
    · refine at_aload_n 28 X rfl rfl dX12_puts_27 rfl ?_
      refine at_iload_n 29 X rfl rfl dX12_puts_28 rfl ?_
      refine at_iconst 30 X (by decide) dX12_puts_29 rfl ?_
      refine at_iconst 31 X (by decide) dX12_puts_30 rfl ?_
      refine at_callS 34 X (ct_X12_in hG _ _ _) mo_X12_in w_1957 so_X12_in rfl rfl (crm Rt (by decide)) (Nat.le_of_ble_eq_true rfl) dX12_puts_31 rfl ?_
      rintro _ _ ⟨rfl, rfl⟩
      refine at_if_eq 37 46 X dX12_puts_34 rfl (by decide) (fun h34 => ?_) (fun h34 => ?_)
      · have h34 : ¬ (0 ≤ x1 ∧ x1 ≤ 1) := ite_no.mp h34
        refine at_iconst 47 X (by decide) dX12_puts_46 rfl ?_
        refine at_goto 51 X dX12_puts_47 (by decide) ?_
        refine at_iconst 52 X (by decide) dX12_puts_51 rfl ?_
        refine at_iconst 53 X (by decide) dX12_puts_52 rfl ?_
        refine at_callV 56 X _ 12 (ct_bad1 hG E0 2 2 (by decide) hO_E0.2.2.1 (by decide)) clX12 rfl k_125 mo_X12_bad w_1960 vo_X12_bad.1 vo_X12_bad.2 rfl rfl (crm Rt (by decide)) (Nat.le_of_ble_eq_true rfl) dX12_puts_53 rfl ?_
        rintro _ _ ⟨rfl, rfl⟩
        have hb : ¬ ((0 ≤ x1 ∧ x1 ≤ 1) ∧ (0 ≤ x2 ∧ x2 ≤ 1)) := by omega
        refine at_if_eq 59 61 X dX12_puts_56 rfl (by decide) (fun h56 => ?_) (fun h56 => ?_)
        · exact absurd h56 (by decide)
        · refine at_lconst 60 X (v := 0) (by decide) (by decide) dX12_puts_59 rfl ?_
          refine at_lret X Rt ?_ (Nat.le_refl _) (Nat.le_refl _) dX12_puts_60
          exact Or.inr (Or.inr (⟨hc0, hb, rfl, congrArg ov (badR_of hE0)⟩))
      · have h34 : (0 ≤ x1 ∧ x1 ≤ 1) := ite_yes.mp h34
        refine at_iload_n 38 X rfl rfl dX12_puts_37 rfl ?_
        refine at_iconst 39 X (by decide) dX12_puts_38 rfl ?_
        refine at_iconst 40 X (by decide) dX12_puts_39 rfl ?_
        refine at_callS 43 X (ct_X12_in hG _ _ _) mo_X12_in w_1957 so_X12_in rfl rfl (crm Rt (by decide)) (Nat.le_of_ble_eq_true rfl) dX12_puts_40 rfl ?_
        rintro _ _ ⟨rfl, rfl⟩
        refine at_if_ne 46 50 X dX12_puts_43 rfl (by decide) (fun h43 => ?_) (fun h43 => ?_)
        · have h43 : (0 ≤ x2 ∧ x2 ≤ 1) := ite_yes.mp h43
          refine at_iconst 51 X (by decide) dX12_puts_50 rfl ?_
          refine at_iconst 52 X (by decide) dX12_puts_51 rfl ?_
          refine at_iconst 53 X (by decide) dX12_puts_52 rfl ?_
          refine at_callV 56 X _ 12 (ct_bad0 hG E0 2 2 (by decide) hO_E0.2.2.1) clX12 rfl k_125 mo_X12_bad w_1960 vo_X12_bad.1 vo_X12_bad.2 rfl rfl (crm Rt (by decide)) (Nat.le_of_ble_eq_true rfl) dX12_puts_53 rfl ?_
          rintro _ _ ⟨rfl, rfl⟩
          have hc1 : (0 ≤ x1 ∧ x1 ≤ 1) ∧ (0 ≤ x2 ∧ x2 ≤ 1) := by omega
          refine at_if_eq 59 61 X dX12_puts_56 rfl (by decide) (fun h56 => ?_) (fun h56 => ?_)
          · obtain ⟨b, rfl⟩ : ∃ b : Nat, x0 = (b : Int) := ⟨x0.toNat, by omega⟩
            refine at_aload_n 62 X rfl rfl dX12_puts_61 rfl ?_
            refine at_iload_n 63 X rfl rfl dX12_puts_62 rfl ?_
            refine at_iload_n 64 X rfl rfl dX12_puts_63 rfl ?_
            refine at_callV 67 X _ 12 (ct_X12_putsOf hG E0 P Q hP hR_E0 b x1 (by omega)) clX12 rfl k_125 mo_X12_putsOf w_2213 vo_X12_putsOf.1 vo_X12_putsOf.2 rfl rfl (crm Rt (by decide)) (Nat.le_of_ble_eq_true rfl) dX12_puts_64 rfl ?_
            rintro _ _ ⟨rfl, rfl⟩
            have hLle := onL_le hP.B (b := b) (by omega)
            have hRle := onR_le hP.B (b := b) (by omega)
            have hlr : -4611686018427387904 ≤ (if x1 = 0 then (onL (sB P) b : Int) else (onR (sB P) b : Int)) ∧ (if x1 = 0 then (onL (sB P) b : Int) else (onR (sB P) b : Int)) ≤ 4611686018427387904 := by split <;> omega
            refine at_ldc2 70 X (n := 232792560) w_2217 (by decide) (by decide) dX12_puts_67 rfl ?_
            refine at_iload_n 71 X rfl rfl dX12_puts_70 rfl ?_
            refine at_callS 74 X (ct_X12_least hG E0 (if x1 = 0 then (onL (sB P) b : Int) else (onR (sB P) b : Int)) 232792560 x2 (by omega) (by omega) (by omega)) mo_X12_least w_2222 so_X12_least rfl rfl (crm Rt (by decide)) (Nat.le_of_ble_eq_true rfl) dX12_puts_71 rfl ?_
            rintro _ _ ⟨rfl, rfl⟩
            refine at_lret X Rt ?_ (Nat.le_refl _) (Nat.le_refl _) dX12_puts_74
            exact Or.inl ⟨hc0, hc1, (by rfl), _, rfl, hO_E0⟩
          · exact absurd h56 (by decide)
        · have h43 : ¬ (0 ≤ x2 ∧ x2 ≤ 1) := ite_no.mp h43
          refine at_iconst 47 X (by decide) dX12_puts_46 rfl ?_
          refine at_goto 51 X dX12_puts_47 (by decide) ?_
          refine at_iconst 52 X (by decide) dX12_puts_51 rfl ?_
          refine at_iconst 53 X (by decide) dX12_puts_52 rfl ?_
          refine at_callV 56 X _ 12 (ct_bad1 hG E0 2 2 (by decide) hO_E0.2.2.1 (by decide)) clX12 rfl k_125 mo_X12_bad w_1960 vo_X12_bad.1 vo_X12_bad.2 rfl rfl (crm Rt (by decide)) (Nat.le_of_ble_eq_true rfl) dX12_puts_53 rfl ?_
          rintro _ _ ⟨rfl, rfl⟩
          have hb : ¬ ((0 ≤ x1 ∧ x1 ≤ 1) ∧ (0 ≤ x2 ∧ x2 ≤ 1)) := by omega
          refine at_if_eq 59 61 X dX12_puts_56 rfl (by decide) (fun h56 => ?_) (fun h56 => ?_)
          · exact absurd h56 (by decide)
          · refine at_lconst 60 X (v := 0) (by decide) (by decide) dX12_puts_59 rfl ?_
            refine at_lret X Rt ?_ (Nat.le_refl _) (Nat.le_refl _) dX12_puts_60
            exact Or.inr (Or.inr (⟨hc0, hb, rfl, congrArg ov (badR_of hE0)⟩))
  · have h11 : ¬ (0 ≤ x0 ∧ x0 ≤ (bN (sB P) : Int) - 1) := ite_no.mp h11
    refine at_iconst 15 X (by decide) dX12_puts_14 rfl ?_
    refine at_goto 19 X dX12_puts_15 (by decide) ?_
    refine at_iconst 20 X (by decide) dX12_puts_19 rfl ?_
    refine at_iconst 21 X (by decide) dX12_puts_20 rfl ?_
    refine at_callV 24 X _ 12 (ct_bad1 hG E0 1 1 (by decide) hO_E0.2.2.1 (by decide)) clX12 rfl k_125 mo_X12_bad w_1960 vo_X12_bad.1 vo_X12_bad.2 rfl rfl (crm Rt (by decide)) (Nat.le_of_ble_eq_true rfl) dX12_puts_21 rfl ?_
    rintro _ _ ⟨rfl, rfl⟩
    have hb : ¬ (0 ≤ x0 ∧ x0 ≤ (bN (sB P) : Int) - 1) := by omega
    refine at_if_ne 27 59 X dX12_puts_24 rfl (by decide) (fun h24 => ?_) (fun h24 => ?_)
    · refine at_lconst 60 X (v := 0) (by decide) (by decide) dX12_puts_59 rfl ?_
      refine at_lret X Rt ?_ (Nat.le_refl _) (Nat.le_refl _) dX12_puts_60
      exact Or.inr (Or.inl ⟨hb, rfl, congrArg ov (badR_of hE0)⟩)
    · exact absurd h24 (by decide)
theorem dX12_falls_0 : decode cX12_falls 0 = .ok (.aload_n 0, 1) := by decide +kernel
theorem dX12_falls_1 : decode cX12_falls 1 = .ok (.iconst 0, 1) := by decide +kernel
theorem dX12_falls_2 : decode cX12_falls 2 = .ok (.putfield 152, 3) := by decide +kernel
theorem dX12_falls_5 : decode cX12_falls 5 = .ok (.aload_n 0, 1) := by decide +kernel
theorem dX12_falls_6 : decode cX12_falls 6 = .ok (.aload_n 0, 1) := by decide +kernel
theorem dX12_falls_7 : decode cX12_falls 7 = .ok (.iload_n 1, 1) := by decide +kernel
theorem dX12_falls_8 : decode cX12_falls 8 = .ok (.invokevirtual 324, 3) := by decide +kernel
theorem dX12_falls_11 : decode cX12_falls 11 = .ok (.ifCond .ne 7, 3) := by decide +kernel
theorem dX12_falls_14 : decode cX12_falls 14 = .ok (.iconst 1, 1) := by decide +kernel
theorem dX12_falls_15 : decode cX12_falls 15 = .ok (.goto 4, 3) := by decide +kernel
theorem dX12_falls_18 : decode cX12_falls 18 = .ok (.iconst 0, 1) := by decide +kernel
theorem dX12_falls_19 : decode cX12_falls 19 = .ok (.iconst 1, 1) := by decide +kernel
theorem dX12_falls_20 : decode cX12_falls 20 = .ok (.iconst 1, 1) := by decide +kernel
theorem dX12_falls_21 : decode cX12_falls 21 = .ok (.invokevirtual 244, 3) := by decide +kernel
theorem dX12_falls_24 : decode cX12_falls 24 = .ok (.ifCond .eq 5, 3) := by decide +kernel
theorem dX12_falls_27 : decode cX12_falls 27 = .ok (.iconst 0, 1) := by decide +kernel
theorem dX12_falls_28 : decode cX12_falls 28 = .ok (.ireturn, 1) := by decide +kernel
theorem dX12_falls_29 : decode cX12_falls 29 = .ok (.aload_n 0, 1) := by decide +kernel
theorem dX12_falls_30 : decode cX12_falls 30 = .ok (.invokevirtual 400, 3) := by decide +kernel
theorem dX12_falls_33 : decode cX12_falls 33 = .ok (.pop, 1) := by decide +kernel
theorem dX12_falls_34 : decode cX12_falls 34 = .ok (.aload_n 0, 1) := by decide +kernel
theorem dX12_falls_35 : decode cX12_falls 35 = .ok (.getfield 130, 3) := by decide +kernel
theorem dX12_falls_38 : decode cX12_falls 38 = .ok (.iload_n 1, 1) := by decide +kernel
theorem dX12_falls_39 : decode cX12_falls 39 = .ok (.iaload, 1) := by decide +kernel
theorem dX12_falls_40 : decode cX12_falls 40 = .ok (.ireturn, 1) := by decide +kernel
theorem ct_X12_falls {g : Gw} (hG : GF g) {z : Bool} (E : Mm) (Q : RX) (P : SP) (L : LW) (T K : LN) (d st : Nat) (hWf : WF P L T K d st) (hI_E : RXI E Q P L T K d st) (x0 : Int) : CT g yX12_falls cX12_falls 2 (some .int) 8 176 0 0 K2 z [mR 125, mI x0] (ov E) K2 z (fun r' D' => ((0 ≤ x0 ∧ x0 ≤ (bN (sB P) : Int) - 1) ∧ r' = some (mI (dF (dyP (gDay P L d) (sB P) T 24) x0.toNat)) ∧ ∃ E1, D' = ov E1 ∧ RXO E E1 Q P L T K d st) ∨ (¬ (0 ≤ x0 ∧ x0 ≤ (bN (sB P) : Int) - 1) ∧ r' = some (mI 0) ∧ D' = ov (badR E 1 1))) := by
  refine CT.mk hG (by decide +kernel) (Nat.le_of_ble_eq_true rfl) (fun κ X Rt _ ok => ?_)
  have hP := hWf.1
  have hN8 := hP.B.N
  have hW40 := hP.W
  have hN11 := hP.N
  have hwN : gN (gDay P L d) ≤ 11 := Nat.le_trans hP.N (by decide)
  have hgw : gW (gDay P L d) = sW P := rfl
  have hDI24 := dyP_DI (G := (gDay P L d)) hP.B hWf.2.2.2.1 (Nat.le_refl 24)
  refine at_aload_n 1 X rfl rfl dX12_falls_0 rfl ?_
  refine at_iconst 2 X (by decide) dX12_falls_1 rfl ?_
  refine m_putI 5 X f_X12_152 fw_12_0 k_125 rn_125_0 dX12_falls_2 rfl ?_
  have hO_E0 := RXO.z hWf hI_E
  generalize hE0 : wr E 125 0 0 = E0 at hO_E0 ⊢
  have hR_E0 := hO_E0.1.1
  refine at_aload_n 6 X rfl rfl dX12_falls_5 rfl ?_
  refine at_aload_n 7 X rfl rfl dX12_falls_6 rfl ?_
  refine at_iload_n 8 X rfl rfl dX12_falls_7 rfl ?_
  refine at_callV 11 X _ 12 (ct_X12_isBeam hG E0 P Q hP hR_E0 x0) clX12 rfl k_125 mo_X12_isBeam w_2122 vo_X12_isBeam.1 vo_X12_isBeam.2 rfl rfl (crm Rt (by decide)) (Nat.le_of_ble_eq_true rfl) dX12_falls_8 rfl ?_
  rintro _ _ ⟨rfl, rfl⟩
  refine at_if_ne 14 18 X dX12_falls_11 rfl (by decide) (fun h11 => ?_) (fun h11 => ?_)
  · have h11 : (0 ≤ x0 ∧ x0 ≤ (bN (sB P) : Int) - 1) := ite_yes.mp h11
    refine at_iconst 19 X (by decide) dX12_falls_18 rfl ?_
    refine at_iconst 20 X (by decide) dX12_falls_19 rfl ?_
    refine at_iconst 21 X (by decide) dX12_falls_20 rfl ?_
    refine at_callV 24 X _ 12 (ct_bad0 hG E0 1 1 (by decide) hO_E0.2.2.1) clX12 rfl k_125 mo_X12_bad w_1960 vo_X12_bad.1 vo_X12_bad.2 rfl rfl (crm Rt (by decide)) (Nat.le_of_ble_eq_true rfl) dX12_falls_21 rfl ?_
    rintro _ _ ⟨rfl, rfl⟩
    have hc0 : 0 ≤ x0 ∧ x0 ≤ (bN (sB P) : Int) - 1 := by omega
    refine at_if_eq 27 29 X dX12_falls_24 rfl (by decide) (fun h24 => ?_) (fun h24 => ?_)
    · obtain ⟨b, rfl⟩ : ∃ b : Nat, x0 = (b : Int) := ⟨x0.toNat, by omega⟩
      refine at_aload_n 30 X rfl rfl dX12_falls_29 rfl ?_
      refine at_callV 33 X _ 12 (ct_X12_runsNow hG E0 Q P L T K d st hWf hO_E0.1) clX12 rfl k_125 mo_X12_runsNow w_2201 vo_X12_runsNow.1 vo_X12_runsNow.2 rfl rfl (crm Rt (by decide)) (Nat.le_of_ble_eq_true rfl) dX12_falls_30 rfl ?_
      rintro _ _ ⟨rfl, F1, rfl, hI_F1, hY_F1, hs_F1, hd_F1, hr_F1, h0_F1, h7_F1⟩
      have hO_F1 := hO_E0.nx hI_F1 hY_F1 h0_F1 h7_F1
      have hR_F1 := hI_F1.1
      refine at_pop 34 X (show ¬ (0 : Nat) = 1 by decide) dX12_falls_33 rfl ?_
      refine at_aload_n 35 X rfl rfl dX12_falls_34 rfl ?_
      refine m_getR 38 X f_X12_130 k_125 r_125_58 dX12_falls_35 rfl ?_
      refine at_iload_n 39 X rfl rfl dX12_falls_38 rfl ?_
      refine m_ialoadV 40 X b (by omega) (dF (dyP (gDay P L d) (sB P) T 24) b) (hd_F1.2.1 b (by omega)) k_783 e_783 (by omega) dX12_falls_39 rfl ?_
      have := hDI24.2.2.2.2.1 b (by omega)
      refine at_iret X Rt ?_ (Nat.le_refl _) (Nat.le_refl _) dX12_falls_40
      exact Or.inl ⟨hc0, (by rfl), _, rfl, hO_F1⟩
    · exact absurd h24 (by decide)
  · have h11 : ¬ (0 ≤ x0 ∧ x0 ≤ (bN (sB P) : Int) - 1) := ite_no.mp h11
    refine at_iconst 15 X (by decide) dX12_falls_14 rfl ?_
    refine at_goto 19 X dX12_falls_15 (by decide) ?_
    refine at_iconst 20 X (by decide) dX12_falls_19 rfl ?_
    refine at_iconst 21 X (by decide) dX12_falls_20 rfl ?_
    refine at_callV 24 X _ 12 (ct_bad1 hG E0 1 1 (by decide) hO_E0.2.2.1 (by decide)) clX12 rfl k_125 mo_X12_bad w_1960 vo_X12_bad.1 vo_X12_bad.2 rfl rfl (crm Rt (by decide)) (Nat.le_of_ble_eq_true rfl) dX12_falls_21 rfl ?_
    rintro _ _ ⟨rfl, rfl⟩
    have hb : ¬ (0 ≤ x0 ∧ x0 ≤ (bN (sB P) : Int) - 1) := by omega
    refine at_if_eq 27 29 X dX12_falls_24 rfl (by decide) (fun h24 => ?_) (fun h24 => ?_)
    · exact absurd h24 (by decide)
    · refine at_iconst 28 X (by decide) dX12_falls_27 rfl ?_
      refine at_iret X Rt ?_ (Nat.le_refl _) (Nat.le_refl _) dX12_falls_28
      exact Or.inr (⟨hb, rfl, congrArg ov (badR_of hE0)⟩)
theorem dX12_lasts_0 : decode cX12_lasts 0 = .ok (.aload_n 0, 1) := by decide +kernel
theorem dX12_lasts_1 : decode cX12_lasts 1 = .ok (.iconst 0, 1) := by decide +kernel
theorem dX12_lasts_2 : decode cX12_lasts 2 = .ok (.putfield 152, 3) := by decide +kernel
theorem dX12_lasts_5 : decode cX12_lasts 5 = .ok (.aload_n 0, 1) := by decide +kernel
theorem dX12_lasts_6 : decode cX12_lasts 6 = .ok (.aload_n 0, 1) := by decide +kernel
theorem dX12_lasts_7 : decode cX12_lasts 7 = .ok (.iload_n 1, 1) := by decide +kernel
theorem dX12_lasts_8 : decode cX12_lasts 8 = .ok (.invokevirtual 324, 3) := by decide +kernel
theorem dX12_lasts_11 : decode cX12_lasts 11 = .ok (.ifCond .ne 7, 3) := by decide +kernel
theorem dX12_lasts_14 : decode cX12_lasts 14 = .ok (.iconst 1, 1) := by decide +kernel
theorem dX12_lasts_15 : decode cX12_lasts 15 = .ok (.goto 4, 3) := by decide +kernel
theorem dX12_lasts_18 : decode cX12_lasts 18 = .ok (.iconst 0, 1) := by decide +kernel
theorem dX12_lasts_19 : decode cX12_lasts 19 = .ok (.iconst 1, 1) := by decide +kernel
theorem dX12_lasts_20 : decode cX12_lasts 20 = .ok (.iconst 1, 1) := by decide +kernel
theorem dX12_lasts_21 : decode cX12_lasts 21 = .ok (.invokevirtual 244, 3) := by decide +kernel
theorem dX12_lasts_24 : decode cX12_lasts 24 = .ok (.ifCond .eq 5, 3) := by decide +kernel
theorem dX12_lasts_27 : decode cX12_lasts 27 = .ok (.iconst 0, 1) := by decide +kernel
theorem dX12_lasts_28 : decode cX12_lasts 28 = .ok (.ireturn, 1) := by decide +kernel
theorem dX12_lasts_29 : decode cX12_lasts 29 = .ok (.aload_n 0, 1) := by decide +kernel
theorem dX12_lasts_30 : decode cX12_lasts 30 = .ok (.invokevirtual 400, 3) := by decide +kernel
theorem dX12_lasts_33 : decode cX12_lasts 33 = .ok (.pop, 1) := by decide +kernel
theorem dX12_lasts_34 : decode cX12_lasts 34 = .ok (.aload_n 0, 1) := by decide +kernel
theorem dX12_lasts_35 : decode cX12_lasts 35 = .ok (.getfield 130, 3) := by decide +kernel
theorem dX12_lasts_38 : decode cX12_lasts 38 = .ok (.iload_n 1, 1) := by decide +kernel
theorem dX12_lasts_39 : decode cX12_lasts 39 = .ok (.iaload, 1) := by decide +kernel
theorem dX12_lasts_40 : decode cX12_lasts 40 = .ok (.iconst (-1), 1) := by decide +kernel
theorem dX12_lasts_41 : decode cX12_lasts 41 = .ok (.if_icmp .ne 8, 3) := by decide +kernel
theorem dX12_lasts_44 : decode cX12_lasts 44 = .ok (.bipush 24, 2) := by decide +kernel
theorem dX12_lasts_46 : decode cX12_lasts 46 = .ok (.goto 9, 3) := by decide +kernel
theorem dX12_lasts_49 : decode cX12_lasts 49 = .ok (.aload_n 0, 1) := by decide +kernel
theorem dX12_lasts_50 : decode cX12_lasts 50 = .ok (.getfield 130, 3) := by decide +kernel
theorem dX12_lasts_53 : decode cX12_lasts 53 = .ok (.iload_n 1, 1) := by decide +kernel
theorem dX12_lasts_54 : decode cX12_lasts 54 = .ok (.iaload, 1) := by decide +kernel
theorem dX12_lasts_55 : decode cX12_lasts 55 = .ok (.ireturn, 1) := by decide +kernel
theorem ct_X12_lasts {g : Gw} (hG : GF g) {z : Bool} (E : Mm) (Q : RX) (P : SP) (L : LW) (T K : LN) (d st : Nat) (hWf : WF P L T K d st) (hI_E : RXI E Q P L T K d st) (x0 : Int) : CT g yX12_lasts cX12_lasts 2 (some .int) 8 176 0 0 K2 z [mR 125, mI x0] (ov E) K2 z (fun r' D' => ((0 ≤ x0 ∧ x0 ≤ (bN (sB P) : Int) - 1) ∧ r' = some (mI (if dF (dyP (gDay P L d) (sB P) T 24) x0.toNat = -1 then 24 else dF (dyP (gDay P L d) (sB P) T 24) x0.toNat)) ∧ ∃ E1, D' = ov E1 ∧ RXO E E1 Q P L T K d st) ∨ (¬ (0 ≤ x0 ∧ x0 ≤ (bN (sB P) : Int) - 1) ∧ r' = some (mI 0) ∧ D' = ov (badR E 1 1))) := by
  refine CT.mk hG (by decide +kernel) (Nat.le_of_ble_eq_true rfl) (fun κ X Rt _ ok => ?_)
  have hP := hWf.1
  have hN8 := hP.B.N
  have hW40 := hP.W
  have hN11 := hP.N
  have hwN : gN (gDay P L d) ≤ 11 := Nat.le_trans hP.N (by decide)
  have hgw : gW (gDay P L d) = sW P := rfl
  have hDI24 := dyP_DI (G := (gDay P L d)) hP.B hWf.2.2.2.1 (Nat.le_refl 24)
  refine at_aload_n 1 X rfl rfl dX12_lasts_0 rfl ?_
  refine at_iconst 2 X (by decide) dX12_lasts_1 rfl ?_
  refine m_putI 5 X f_X12_152 fw_12_0 k_125 rn_125_0 dX12_lasts_2 rfl ?_
  have hO_E0 := RXO.z hWf hI_E
  generalize hE0 : wr E 125 0 0 = E0 at hO_E0 ⊢
  have hR_E0 := hO_E0.1.1
  refine at_aload_n 6 X rfl rfl dX12_lasts_5 rfl ?_
  refine at_aload_n 7 X rfl rfl dX12_lasts_6 rfl ?_
  refine at_iload_n 8 X rfl rfl dX12_lasts_7 rfl ?_
  refine at_callV 11 X _ 12 (ct_X12_isBeam hG E0 P Q hP hR_E0 x0) clX12 rfl k_125 mo_X12_isBeam w_2122 vo_X12_isBeam.1 vo_X12_isBeam.2 rfl rfl (crm Rt (by decide)) (Nat.le_of_ble_eq_true rfl) dX12_lasts_8 rfl ?_
  rintro _ _ ⟨rfl, rfl⟩
  refine at_if_ne 14 18 X dX12_lasts_11 rfl (by decide) (fun h11 => ?_) (fun h11 => ?_)
  · have h11 : (0 ≤ x0 ∧ x0 ≤ (bN (sB P) : Int) - 1) := ite_yes.mp h11
    refine at_iconst 19 X (by decide) dX12_lasts_18 rfl ?_
    refine at_iconst 20 X (by decide) dX12_lasts_19 rfl ?_
    refine at_iconst 21 X (by decide) dX12_lasts_20 rfl ?_
    refine at_callV 24 X _ 12 (ct_bad0 hG E0 1 1 (by decide) hO_E0.2.2.1) clX12 rfl k_125 mo_X12_bad w_1960 vo_X12_bad.1 vo_X12_bad.2 rfl rfl (crm Rt (by decide)) (Nat.le_of_ble_eq_true rfl) dX12_lasts_21 rfl ?_
    rintro _ _ ⟨rfl, rfl⟩
    have hc0 : 0 ≤ x0 ∧ x0 ≤ (bN (sB P) : Int) - 1 := by omega
    refine at_if_eq 27 29 X dX12_lasts_24 rfl (by decide) (fun h24 => ?_) (fun h24 => ?_)
    · obtain ⟨b, rfl⟩ : ∃ b : Nat, x0 = (b : Int) := ⟨x0.toNat, by omega⟩
      refine at_aload_n 30 X rfl rfl dX12_lasts_29 rfl ?_
      refine at_callV 33 X _ 12 (ct_X12_runsNow hG E0 Q P L T K d st hWf hO_E0.1) clX12 rfl k_125 mo_X12_runsNow w_2201 vo_X12_runsNow.1 vo_X12_runsNow.2 rfl rfl (crm Rt (by decide)) (Nat.le_of_ble_eq_true rfl) dX12_lasts_30 rfl ?_
      rintro _ _ ⟨rfl, F1, rfl, hI_F1, hY_F1, hs_F1, hd_F1, hr_F1, h0_F1, h7_F1⟩
      have hO_F1 := hO_E0.nx hI_F1 hY_F1 h0_F1 h7_F1
      have hR_F1 := hI_F1.1
      refine at_pop 34 X (show ¬ (0 : Nat) = 1 by decide) dX12_lasts_33 rfl ?_
      refine at_aload_n 35 X rfl rfl dX12_lasts_34 rfl ?_
      refine m_getR 38 X f_X12_130 k_125 r_125_58 dX12_lasts_35 rfl ?_
      refine at_iload_n 39 X rfl rfl dX12_lasts_38 rfl ?_
      refine m_ialoadV 40 X b (by omega) (dF (dyP (gDay P L d) (sB P) T 24) b) (hd_F1.2.1 b (by omega)) k_783 e_783 (by omega) dX12_lasts_39 rfl ?_
      have := hDI24.2.2.2.2.1 b (by omega)
      refine at_iconst 41 X (by decide) dX12_lasts_40 rfl ?_
      refine at_icmp_ne 44 49 X dX12_lasts_41 rfl (by decide) (fun h41 => ?_) (fun h41 => ?_)
      · refine at_aload_n 50 X rfl rfl dX12_lasts_49 rfl ?_
        refine m_getR 53 X f_X12_130 k_125 r_125_58 dX12_lasts_50 rfl ?_
        refine at_iload_n 54 X rfl rfl dX12_lasts_53 rfl ?_
        refine m_ialoadV 55 X b (by omega) (dF (dyP (gDay P L d) (sB P) T 24) b) (hd_F1.2.1 b (by omega)) k_783 e_783 (by omega) dX12_lasts_54 rfl ?_
        have := hDI24.2.2.2.2.1 b (by omega)
        refine at_iret X Rt ?_ (Nat.le_refl _) (Nat.le_refl _) dX12_lasts_55
        exact Or.inl ⟨hc0, (by (try simp only [Int.toNat_natCast]); first | rw [if_pos (by assumption)] | rw [if_neg (by assumption)]), _, rfl, hO_F1⟩
      · refine at_bipush 46 X (by decide) (by decide) dX12_lasts_44 rfl ?_
        refine at_goto 55 X dX12_lasts_46 (by decide) ?_
        refine at_iret X Rt ?_ (Nat.le_refl _) (Nat.le_refl _) dX12_lasts_55
        exact Or.inl ⟨hc0, (by (try simp only [Int.toNat_natCast]); first | rw [if_pos (by assumption)] | rw [if_neg (by assumption)]), _, rfl, hO_F1⟩
    · exact absurd h24 (by decide)
  · have h11 : ¬ (0 ≤ x0 ∧ x0 ≤ (bN (sB P) : Int) - 1) := ite_no.mp h11
    refine at_iconst 15 X (by decide) dX12_lasts_14 rfl ?_
    refine at_goto 19 X dX12_lasts_15 (by decide) ?_
    refine at_iconst 20 X (by decide) dX12_lasts_19 rfl ?_
    refine at_iconst 21 X (by decide) dX12_lasts_20 rfl ?_
    refine at_callV 24 X _ 12 (ct_bad1 hG E0 1 1 (by decide) hO_E0.2.2.1 (by decide)) clX12 rfl k_125 mo_X12_bad w_1960 vo_X12_bad.1 vo_X12_bad.2 rfl rfl (crm Rt (by decide)) (Nat.le_of_ble_eq_true rfl) dX12_lasts_21 rfl ?_
    rintro _ _ ⟨rfl, rfl⟩
    have hb : ¬ (0 ≤ x0 ∧ x0 ≤ (bN (sB P) : Int) - 1) := by omega
    refine at_if_eq 27 29 X dX12_lasts_24 rfl (by decide) (fun h24 => ?_) (fun h24 => ?_)
    · exact absurd h24 (by decide)
    · refine at_iconst 28 X (by decide) dX12_lasts_27 rfl ?_
      refine at_iret X Rt ?_ (Nat.le_refl _) (Nat.le_refl _) dX12_lasts_28
      exact Or.inr (⟨hb, rfl, congrArg ov (badR_of hE0)⟩)
theorem dX12_lies_0 : decode cX12_lies 0 = .ok (.aload_n 0, 1) := by decide +kernel
theorem dX12_lies_1 : decode cX12_lies 1 = .ok (.iconst 0, 1) := by decide +kernel
theorem dX12_lies_2 : decode cX12_lies 2 = .ok (.putfield 152, 3) := by decide +kernel
theorem dX12_lies_5 : decode cX12_lies 5 = .ok (.aload_n 0, 1) := by decide +kernel
theorem dX12_lies_6 : decode cX12_lies 6 = .ok (.aload_n 0, 1) := by decide +kernel
theorem dX12_lies_7 : decode cX12_lies 7 = .ok (.iload_n 1, 1) := by decide +kernel
theorem dX12_lies_8 : decode cX12_lies 8 = .ok (.invokevirtual 324, 3) := by decide +kernel
theorem dX12_lies_11 : decode cX12_lies 11 = .ok (.ifCond .ne 7, 3) := by decide +kernel
theorem dX12_lies_14 : decode cX12_lies 14 = .ok (.iconst 1, 1) := by decide +kernel
theorem dX12_lies_15 : decode cX12_lies 15 = .ok (.goto 4, 3) := by decide +kernel
theorem dX12_lies_18 : decode cX12_lies 18 = .ok (.iconst 0, 1) := by decide +kernel
theorem dX12_lies_19 : decode cX12_lies 19 = .ok (.iconst 1, 1) := by decide +kernel
theorem dX12_lies_20 : decode cX12_lies 20 = .ok (.iconst 1, 1) := by decide +kernel
theorem dX12_lies_21 : decode cX12_lies 21 = .ok (.invokevirtual 244, 3) := by decide +kernel
theorem dX12_lies_24 : decode cX12_lies 24 = .ok (.ifCond .ne 24, 3) := by decide +kernel
theorem dX12_lies_27 : decode cX12_lies 27 = .ok (.aload_n 0, 1) := by decide +kernel
theorem dX12_lies_28 : decode cX12_lies 28 = .ok (.iload_n 2, 1) := by decide +kernel
theorem dX12_lies_29 : decode cX12_lies 29 = .ok (.invokestatic 314, 3) := by decide +kernel
theorem dX12_lies_32 : decode cX12_lies 32 = .ok (.ifCond .ne 7, 3) := by decide +kernel
theorem dX12_lies_35 : decode cX12_lies 35 = .ok (.iconst 1, 1) := by decide +kernel
theorem dX12_lies_36 : decode cX12_lies 36 = .ok (.goto 4, 3) := by decide +kernel
theorem dX12_lies_39 : decode cX12_lies 39 = .ok (.iconst 0, 1) := by decide +kernel
theorem dX12_lies_40 : decode cX12_lies 40 = .ok (.iconst 2, 1) := by decide +kernel
theorem dX12_lies_41 : decode cX12_lies 41 = .ok (.iconst 2, 1) := by decide +kernel
theorem dX12_lies_42 : decode cX12_lies 42 = .ok (.invokevirtual 244, 3) := by decide +kernel
theorem dX12_lies_45 : decode cX12_lies 45 = .ok (.ifCond .eq 5, 3) := by decide +kernel
theorem dX12_lies_48 : decode cX12_lies 48 = .ok (.iconst 0, 1) := by decide +kernel
theorem dX12_lies_49 : decode cX12_lies 49 = .ok (.ireturn, 1) := by decide +kernel
theorem dX12_lies_50 : decode cX12_lies 50 = .ok (.aload_n 0, 1) := by decide +kernel
theorem dX12_lies_51 : decode cX12_lies 51 = .ok (.invokevirtual 400, 3) := by decide +kernel
theorem dX12_lies_54 : decode cX12_lies 54 = .ok (.pop, 1) := by decide +kernel
theorem dX12_lies_55 : decode cX12_lies 55 = .ok (.aload_n 0, 1) := by decide +kernel
theorem dX12_lies_56 : decode cX12_lies 56 = .ok (.getfield 124, 3) := by decide +kernel
theorem dX12_lies_59 : decode cX12_lies 59 = .ok (.iload_n 2, 1) := by decide +kernel
theorem dX12_lies_60 : decode cX12_lies 60 = .ok (.aaload, 1) := by decide +kernel
theorem dX12_lies_61 : decode cX12_lies 61 = .ok (.iload_n 1, 1) := by decide +kernel
theorem dX12_lies_62 : decode cX12_lies 62 = .ok (.iaload, 1) := by decide +kernel
theorem dX12_lies_63 : decode cX12_lies 63 = .ok (.ireturn, 1) := by decide +kernel
theorem ct_X12_lies {g : Gw} (hG : GF g) {z : Bool} (E : Mm) (Q : RX) (P : SP) (L : LW) (T K : LN) (d st : Nat) (hWf : WF P L T K d st) (hI_E : RXI E Q P L T K d st) (x0 x1 : Int) : CT g yX12_lies cX12_lies 3 (some .int) 8 176 0 0 K2 z [mR 125, mI x0, mI x1] (ov E) K2 z (fun r' D' => ((0 ≤ x0 ∧ x0 ≤ (bN (sB P) : Int) - 1) ∧ (0 ≤ x1 ∧ x1 ≤ 23) ∧ r' = some (mI (dP (dyP (gDay P L d) (sB P) T (x1.toNat + 1)) x0.toNat)) ∧ ∃ E1, D' = ov E1 ∧ RXO E E1 Q P L T K d st) ∨ (¬ (0 ≤ x0 ∧ x0 ≤ (bN (sB P) : Int) - 1) ∧ r' = some (mI 0) ∧ D' = ov (badR E 1 1)) ∨ ((0 ≤ x0 ∧ x0 ≤ (bN (sB P) : Int) - 1) ∧ ¬ (0 ≤ x1 ∧ x1 ≤ 23) ∧ r' = some (mI 0) ∧ D' = ov (badR E 2 2))) := by
  refine CT.mk hG (by decide +kernel) (Nat.le_of_ble_eq_true rfl) (fun κ X Rt _ ok => ?_)
  have hP := hWf.1
  have hN8 := hP.B.N
  have hW40 := hP.W
  have hN11 := hP.N
  have hwN : gN (gDay P L d) ≤ 11 := Nat.le_trans hP.N (by decide)
  have hgw : gW (gDay P L d) = sW P := rfl
  have hDI24 := dyP_DI (G := (gDay P L d)) hP.B hWf.2.2.2.1 (Nat.le_refl 24)
  refine at_aload_n 1 X rfl rfl dX12_lies_0 rfl ?_
  refine at_iconst 2 X (by decide) dX12_lies_1 rfl ?_
  refine m_putI 5 X f_X12_152 fw_12_0 k_125 rn_125_0 dX12_lies_2 rfl ?_
  have hO_E0 := RXO.z hWf hI_E
  generalize hE0 : wr E 125 0 0 = E0 at hO_E0 ⊢
  have hR_E0 := hO_E0.1.1
  refine at_aload_n 6 X rfl rfl dX12_lies_5 rfl ?_
  refine at_aload_n 7 X rfl rfl dX12_lies_6 rfl ?_
  refine at_iload_n 8 X rfl rfl dX12_lies_7 rfl ?_
  refine at_callV 11 X _ 12 (ct_X12_isBeam hG E0 P Q hP hR_E0 x0) clX12 rfl k_125 mo_X12_isBeam w_2122 vo_X12_isBeam.1 vo_X12_isBeam.2 rfl rfl (crm Rt (by decide)) (Nat.le_of_ble_eq_true rfl) dX12_lies_8 rfl ?_
  rintro _ _ ⟨rfl, rfl⟩
  refine at_if_ne 14 18 X dX12_lies_11 rfl (by decide) (fun h11 => ?_) (fun h11 => ?_)
  · have h11 : (0 ≤ x0 ∧ x0 ≤ (bN (sB P) : Int) - 1) := ite_yes.mp h11
    refine at_iconst 19 X (by decide) dX12_lies_18 rfl ?_
    refine at_iconst 20 X (by decide) dX12_lies_19 rfl ?_
    refine at_iconst 21 X (by decide) dX12_lies_20 rfl ?_
    refine at_callV 24 X _ 12 (ct_bad0 hG E0 1 1 (by decide) hO_E0.2.2.1) clX12 rfl k_125 mo_X12_bad w_1960 vo_X12_bad.1 vo_X12_bad.2 rfl rfl (crm Rt (by decide)) (Nat.le_of_ble_eq_true rfl) dX12_lies_21 rfl ?_
    rintro _ _ ⟨rfl, rfl⟩
    have hc0 : 0 ≤ x0 ∧ x0 ≤ (bN (sB P) : Int) - 1 := by omega
    refine at_if_ne 27 48 X dX12_lies_24 rfl (by decide) (fun h24 => ?_) (fun h24 => ?_)
    · exact absurd h24 (by decide)
    · refine at_aload_n 28 X rfl rfl dX12_lies_27 rfl ?_
      refine at_iload_n 29 X rfl rfl dX12_lies_28 rfl ?_
      refine at_callS 32 X (ct_X12_isHour hG E0 x1) mo_X12_isHour w_2074 so_X12_isHour rfl rfl (crm Rt (by decide)) (Nat.le_of_ble_eq_true rfl) dX12_lies_29 rfl ?_
      rintro _ _ ⟨rfl, rfl⟩
      refine at_if_ne 35 39 X dX12_lies_32 rfl (by decide) (fun h32 => ?_) (fun h32 => ?_)
      · have h32 : (0 ≤ x1 ∧ x1 ≤ 23) := ite_yes.mp h32
        refine at_iconst 40 X (by decide) dX12_lies_39 rfl ?_
        refine at_iconst 41 X (by decide) dX12_lies_40 rfl ?_
        refine at_iconst 42 X (by decide) dX12_lies_41 rfl ?_
        refine at_callV 45 X _ 12 (ct_bad0 hG E0 2 2 (by decide) hO_E0.2.2.1) clX12 rfl k_125 mo_X12_bad w_1960 vo_X12_bad.1 vo_X12_bad.2 rfl rfl (crm Rt (by decide)) (Nat.le_of_ble_eq_true rfl) dX12_lies_42 rfl ?_
        rintro _ _ ⟨rfl, rfl⟩
        have hc1 : 0 ≤ x1 ∧ x1 ≤ 23 := by omega
        refine at_if_eq 48 50 X dX12_lies_45 rfl (by decide) (fun h45 => ?_) (fun h45 => ?_)
        · obtain ⟨b, rfl⟩ : ∃ b : Nat, x0 = (b : Int) := ⟨x0.toNat, by omega⟩
          obtain ⟨h, rfl⟩ : ∃ h : Nat, x1 = (h : Int) := ⟨x1.toNat, by omega⟩
          refine at_aload_n 51 X rfl rfl dX12_lies_50 rfl ?_
          refine at_callV 54 X _ 12 (ct_X12_runsNow hG E0 Q P L T K d st hWf hO_E0.1) clX12 rfl k_125 mo_X12_runsNow w_2201 vo_X12_runsNow.1 vo_X12_runsNow.2 rfl rfl (crm Rt (by decide)) (Nat.le_of_ble_eq_true rfl) dX12_lies_51 rfl ?_
          rintro _ _ ⟨rfl, F1, rfl, hI_F1, hY_F1, hs_F1, hd_F1, hr_F1, h0_F1, h7_F1⟩
          have hO_F1 := hO_E0.nx hI_F1 hY_F1 h0_F1 h7_F1
          have hR_F1 := hI_F1.1
          refine at_pop 55 X (show ¬ (0 : Nat) = 1 by decide) dX12_lies_54 rfl ?_
          refine at_aload_n 56 X rfl rfl dX12_lies_55 rfl ?_
          refine m_getR 59 X f_X12_124 k_125 r_125_56 dX12_lies_56 rfl ?_
          refine at_iload_n 60 X rfl rfl dX12_lies_59 rfl ?_
          refine m_aaloadV 61 X h (by omega) k_757 (by decide) (by omega) (rr_757 _ (by omega)) dX12_lies_60 rfl ?_
          refine at_iload_n 62 X rfl rfl dX12_lies_61 rfl ?_
          refine m_ialoadV 63 X b (by omega) (dP (dyP (gDay P L d) (sB P) T (h + 1)) b) (hr_F1.1 h b (by omega) (by omega)) (kr_757 _ (by omega)) (er_757 _ (by omega)) (by omega) dX12_lies_62 rfl ?_
          refine at_iret X Rt ?_ (Nat.le_refl _) (Nat.le_refl _) dX12_lies_63
          exact Or.inl ⟨hc0, hc1, (by rfl), _, rfl, hO_F1⟩
        · exact absurd h45 (by decide)
      · have h32 : ¬ (0 ≤ x1 ∧ x1 ≤ 23) := ite_no.mp h32
        refine at_iconst 36 X (by decide) dX12_lies_35 rfl ?_
        refine at_goto 40 X dX12_lies_36 (by decide) ?_
        refine at_iconst 41 X (by decide) dX12_lies_40 rfl ?_
        refine at_iconst 42 X (by decide) dX12_lies_41 rfl ?_
        refine at_callV 45 X _ 12 (ct_bad1 hG E0 2 2 (by decide) hO_E0.2.2.1 (by decide)) clX12 rfl k_125 mo_X12_bad w_1960 vo_X12_bad.1 vo_X12_bad.2 rfl rfl (crm Rt (by decide)) (Nat.le_of_ble_eq_true rfl) dX12_lies_42 rfl ?_
        rintro _ _ ⟨rfl, rfl⟩
        have hb : ¬ (0 ≤ x1 ∧ x1 ≤ 23) := by omega
        refine at_if_eq 48 50 X dX12_lies_45 rfl (by decide) (fun h45 => ?_) (fun h45 => ?_)
        · exact absurd h45 (by decide)
        · refine at_iconst 49 X (by decide) dX12_lies_48 rfl ?_
          refine at_iret X Rt ?_ (Nat.le_refl _) (Nat.le_refl _) dX12_lies_49
          exact Or.inr (Or.inr (⟨hc0, hb, rfl, congrArg ov (badR_of hE0)⟩))
  · have h11 : ¬ (0 ≤ x0 ∧ x0 ≤ (bN (sB P) : Int) - 1) := ite_no.mp h11
    refine at_iconst 15 X (by decide) dX12_lies_14 rfl ?_
    refine at_goto 19 X dX12_lies_15 (by decide) ?_
    refine at_iconst 20 X (by decide) dX12_lies_19 rfl ?_
    refine at_iconst 21 X (by decide) dX12_lies_20 rfl ?_
    refine at_callV 24 X _ 12 (ct_bad1 hG E0 1 1 (by decide) hO_E0.2.2.1 (by decide)) clX12 rfl k_125 mo_X12_bad w_1960 vo_X12_bad.1 vo_X12_bad.2 rfl rfl (crm Rt (by decide)) (Nat.le_of_ble_eq_true rfl) dX12_lies_21 rfl ?_
    rintro _ _ ⟨rfl, rfl⟩
    have hb : ¬ (0 ≤ x0 ∧ x0 ≤ (bN (sB P) : Int) - 1) := by omega
    refine at_if_ne 27 48 X dX12_lies_24 rfl (by decide) (fun h24 => ?_) (fun h24 => ?_)
    · refine at_iconst 49 X (by decide) dX12_lies_48 rfl ?_
      refine at_iret X Rt ?_ (Nat.le_refl _) (Nat.le_refl _) dX12_lies_49
      exact Or.inr (Or.inl ⟨hb, rfl, congrArg ov (badR_of hE0)⟩)
    · exact absurd h24 (by decide)
