section RAW
variable {g : Gw} {κ : Kp} {cc : ByteArray} {own : String} {nL : Nat} {K : Shp} {z : Bool} {cells slots pc : Nat} {l : List (Nat × MV)} {st : List MV} {D : Mm}
/-! fields of cells as they are, with no fixed references -/
theorem r_getI (pc' : Nat) (X : CX g κ cc own nL) {a ci k n ix : Nat} (hf : FOk own ix ci k 0) (hK : K[a]? = some (ci + 7, n)) (d : decode cc pc = .ok (.getfield ix, 3)) (e0 : pc + 3 = pc') (kk : AT g κ K z cells slots pc' l (mI (D a k) :: st) D) : AT g κ K z cells slots pc l (mR a :: st) D := by
  obtain ⟨C, T, N, ty, hc, hk, hl, ht⟩ := hf
  rcases hl with hl | ⟨h, hl⟩
  · exact at_getf pc' X a ci k hc hk hl hK ht d e0 kk
  · exact at_getfN pc' X a ci k hc hk hl hK ht d e0 kk
theorem r_getR (pc' : Nat) (X : CX g κ cc own nL) {a ci k n ix b : Nat} (hf : FOk own ix ci k 2) (hK : K[a]? = some (ci + 7, n)) (hb : D a k = (b : Int)) (d : decode cc pc = .ok (.getfield ix, 3)) (e0 : pc + 3 = pc') (kk : AT g κ K z cells slots pc' l (mR b :: st) D) : AT g κ K z cells slots pc l (mR a :: st) D := by
  obtain ⟨C, T, N, ty, hc, hk, hl, ht⟩ := hf
  have e : mR b = (2, D a k) := by rw [hb]
  rw [e] at kk
  rcases hl with hl | ⟨h, hl⟩
  · exact at_getf pc' X a ci k hc hk hl hK ht d e0 kk
  · exact at_getfN pc' X a ci k hc hk hl hK ht d e0 kk
theorem r_put (pc' : Nat) (X : CX g κ cc own nL) {a ci k n ix t : Nat} {x : Int} (h2 : t ≤ 2) (hf : FOk own ix ci k t) (hw : FWr ci k) (hK : K[a]? = some (ci + 7, n)) (d : decode cc pc = .ok (.putfield ix, 3)) (e0 : pc + 3 = pc') (kk : AT g κ K z cells slots pc' l st (wr D a k x)) : AT g κ K z cells slots pc l ((t, x) :: mR a :: st) D := by
  obtain ⟨C, T, N, ty, hc, hk, hl, ht⟩ := hf
  obtain ⟨C', T', N', ty', hc', hfin, hnb⟩ := hw
  have e1 := hc.1.symm.trans hc'.1
  cases e1
  have ety : ty k = ty' k := Option.some.inj ((hc.2.2.1 k hk).symm.trans (hc'.2.2.1 k hk))
  rcases hl with hl | ⟨h, hl⟩
  · exact at_putf pc' X a ci k hc hk hl hK ht h2 hfin (fun q => absurd (ety ▸ q) hnb) d e0 kk
  · exact at_putfN pc' X a ci k hc hk hl hK ht h2 hfin (fun q => absurd (ety ▸ q) hnb) d e0 kk
end RAW
/-- Arrays.fill -/
def fil (D : Mm) (a n : Nat) (v : Int) : Mm := fun q j => if q = a ∧ j < n then v else D q j
theorem fil_succ (D : Mm) (a n : Nat) (v : Int) : wr (fil D a n v) a n v = fil D a (n + 1) v := by
  funext q j
  unfold wr fil
  by_cases c : q = a
  · subst c
    rcases Nat.lt_trichotomy j n with h | h | h
    · simp [h, Nat.ne_of_lt h, Nat.lt_succ_of_lt h]
    · subst h; simp
    · simp [show ¬ j < n by omega, show ¬ j < n + 1 by omega, show j ≠ n by omega]
  · simp [c]
theorem fil_zero (D : Mm) (a : Nat) (v : Int) : fil D a 0 v = D := by funext q j; simp [fil]
theorem dJ7_fill_53178_0 : decode cJ7_fill_53178 0 = .ok (.iconst 0, 1) := by decide +kernel
theorem dJ7_fill_53178_1 : decode cJ7_fill_53178 1 = .ok (.istore_n 2, 1) := by decide +kernel
theorem dJ7_fill_53178_2 : decode cJ7_fill_53178 2 = .ok (.aload_n 0, 1) := by decide +kernel
theorem dJ7_fill_53178_3 : decode cJ7_fill_53178 3 = .ok (.arraylength, 1) := by decide +kernel
theorem dJ7_fill_53178_4 : decode cJ7_fill_53178 4 = .ok (.istore_n 3, 1) := by decide +kernel
theorem dJ7_fill_53178_5 : decode cJ7_fill_53178 5 = .ok (.iload_n 2, 1) := by decide +kernel
theorem dJ7_fill_53178_6 : decode cJ7_fill_53178 6 = .ok (.iload_n 3, 1) := by decide +kernel
theorem dJ7_fill_53178_7 : decode cJ7_fill_53178 7 = .ok (.if_icmp .ge 13, 3) := by decide +kernel
theorem dJ7_fill_53178_10 : decode cJ7_fill_53178 10 = .ok (.aload_n 0, 1) := by decide +kernel
theorem dJ7_fill_53178_11 : decode cJ7_fill_53178 11 = .ok (.iload_n 2, 1) := by decide +kernel
theorem dJ7_fill_53178_12 : decode cJ7_fill_53178 12 = .ok (.iload_n 1, 1) := by decide +kernel
theorem dJ7_fill_53178_13 : decode cJ7_fill_53178 13 = .ok (.iastore, 1) := by decide +kernel
theorem dJ7_fill_53178_14 : decode cJ7_fill_53178 14 = .ok (.iinc 2 1, 3) := by decide +kernel
theorem dJ7_fill_53178_17 : decode cJ7_fill_53178 17 = .ok (.goto (-12), 3) := by decide +kernel
theorem dJ7_fill_53178_20 : decode cJ7_fill_53178 20 = .ok (.return_, 1) := by decide +kernel
theorem ct_fillI {g : Gw} (hG : GF g) {K : Shp} {z : Bool} (D : Mm) (a n : Nat) (v : Int) (hK : K[a]? = some (0, n)) (hn : n ≤ 60000) : CT g yJ7_fill_53178 cJ7_fill_53178 4 none 0 0 0 0 K z [mR a, mI v] (D) K z (fun r D' => r = none ∧ D' = fil D a n v) := by
  refine CT.mk hG (by decide +kernel) (Nat.le_of_ble_eq_true rfl) (fun κ X Rt _ ok => ?_)
  have L0 : ∀ (f i : Nat), n - i < f → i ≤ n → AT g κ K z 0 0 5 [(0, mR a), (1, mI v), (2, mI ((i : Int))), (3, mI (n : Int))] [] (fil D a i v) := by
    intro f
    induction f with
    | zero => intro i h; omega
    | succ f ih =>
    intro i hf hi
    refine at_iload_n 6 X rfl rfl dJ7_fill_53178_5 rfl ?_
    refine at_iload_n 7 X rfl rfl dJ7_fill_53178_6 rfl ?_
    refine at_icmp_ge 10 20 X dJ7_fill_53178_7 rfl (by decide) (fun h => ?_) (fun h => ?_)
    · refine at_vret X Rt ⟨rfl, ?_⟩ (Nat.le_refl _) (Nat.le_refl _) dJ7_fill_53178_20
      rw [show i = n by omega]
    · refine at_aload_n 11 X rfl rfl dJ7_fill_53178_10 rfl ?_
      refine at_iload_n 12 X rfl rfl dJ7_fill_53178_11 rfl ?_
      refine at_iload_n 13 X rfl rfl dJ7_fill_53178_12 rfl ?_
      refine at_iastore 14 X a hK (by omega) (by omega) dJ7_fill_53178_13 rfl ?_
      refine at_iinc 17 X rfl dJ7_fill_53178_14 rfl (by decide) ?_
      refine at_goto 5 X dJ7_fill_53178_17 (by decide) ?_
      rw [Int.toNat_natCast, fil_succ, w32_id (by omega) (by omega), show (i : Int) + 1 = ((i + 1 : Nat) : Int) from rfl]
      exact at_sub [(0, mR a), (1, mI v), (2, mI (((i + 1 : Nat) : Int))), (3, mI (n : Int))] ⟨rfl, rfl, rfl, rfl, trivial⟩ (ih (i + 1) (by omega) (by omega))
  refine at_iconst 1 X (by decide) dJ7_fill_53178_0 rfl ?_
  refine at_istore_n 2 X rfl dJ7_fill_53178_1 rfl (by decide) ?_
  refine at_aload_n 3 X rfl rfl dJ7_fill_53178_2 rfl ?_
  refine at_alen 4 X a hK (by decide) (by omega) dJ7_fill_53178_3 rfl ?_
  refine at_istore_n 5 X rfl dJ7_fill_53178_4 rfl (by decide) ?_
  have h := L0 (n + 1) 0 (by omega) (by omega)
  rw [fil_zero] at h
  exact at_sub [(0, mR a), (1, mI v), (2, mI (((0 : Nat) : Int))), (3, mI (n : Int))] ⟨rfl, rfl, rfl, rfl, trivial⟩ h
theorem dJ7_fill_d0a16_0 : decode cJ7_fill_d0a16 0 = .ok (.iconst 0, 1) := by decide +kernel
theorem dJ7_fill_d0a16_1 : decode cJ7_fill_d0a16 1 = .ok (.istore_n 3, 1) := by decide +kernel
theorem dJ7_fill_d0a16_2 : decode cJ7_fill_d0a16 2 = .ok (.aload_n 0, 1) := by decide +kernel
theorem dJ7_fill_d0a16_3 : decode cJ7_fill_d0a16 3 = .ok (.arraylength, 1) := by decide +kernel
theorem dJ7_fill_d0a16_4 : decode cJ7_fill_d0a16 4 = .ok (.istore 4, 2) := by decide +kernel
theorem dJ7_fill_d0a16_6 : decode cJ7_fill_d0a16 6 = .ok (.iload_n 3, 1) := by decide +kernel
theorem dJ7_fill_d0a16_7 : decode cJ7_fill_d0a16 7 = .ok (.iload 4, 2) := by decide +kernel
theorem dJ7_fill_d0a16_9 : decode cJ7_fill_d0a16 9 = .ok (.if_icmp .ge 13, 3) := by decide +kernel
theorem dJ7_fill_d0a16_12 : decode cJ7_fill_d0a16 12 = .ok (.aload_n 0, 1) := by decide +kernel
theorem dJ7_fill_d0a16_13 : decode cJ7_fill_d0a16 13 = .ok (.iload_n 3, 1) := by decide +kernel
theorem dJ7_fill_d0a16_14 : decode cJ7_fill_d0a16 14 = .ok (.lload_n 1, 1) := by decide +kernel
theorem dJ7_fill_d0a16_15 : decode cJ7_fill_d0a16 15 = .ok (.lastore, 1) := by decide +kernel
theorem dJ7_fill_d0a16_16 : decode cJ7_fill_d0a16 16 = .ok (.iinc 3 1, 3) := by decide +kernel
theorem dJ7_fill_d0a16_19 : decode cJ7_fill_d0a16 19 = .ok (.goto (-13), 3) := by decide +kernel
theorem dJ7_fill_d0a16_22 : decode cJ7_fill_d0a16 22 = .ok (.return_, 1) := by decide +kernel
theorem ct_fillJ {g : Gw} (hG : GF g) {K : Shp} {z : Bool} (D : Mm) (a n : Nat) (v : Int) (hK : K[a]? = some (3, n)) (hn : n ≤ 60000) : CT g yJ7_fill_d0a16 cJ7_fill_d0a16 5 none 0 0 0 0 K z [mR a, mL v] (D) K z (fun r D' => r = none ∧ D' = fil D a n v) := by
  refine CT.mk hG (by decide +kernel) (Nat.le_of_ble_eq_true rfl) (fun κ X Rt _ ok => ?_)
  have L0 : ∀ (f i : Nat), n - i < f → i ≤ n → AT g κ K z 0 0 6 [(0, mR a), (1, mL v), (3, mI ((i : Int))), (4, mI (n : Int))] [] (fil D a i v) := by
    intro f
    induction f with
    | zero => intro i h; omega
    | succ f ih =>
    intro i hf hi
    refine at_iload_n 7 X rfl rfl dJ7_fill_d0a16_6 rfl ?_
    refine at_iload 9 X rfl dJ7_fill_d0a16_7 rfl ?_
    refine at_icmp_ge 12 22 X dJ7_fill_d0a16_9 rfl (by decide) (fun h => ?_) (fun h => ?_)
    · refine at_vret X Rt ⟨rfl, ?_⟩ (Nat.le_refl _) (Nat.le_refl _) dJ7_fill_d0a16_22
      rw [show i = n by omega]
    · refine at_aload_n 13 X rfl rfl dJ7_fill_d0a16_12 rfl ?_
      refine at_iload_n 14 X rfl rfl dJ7_fill_d0a16_13 rfl ?_
      refine at_lload_n 15 X rfl rfl dJ7_fill_d0a16_14 rfl ?_
      refine at_lastore 16 X a hK (by omega) (by omega) dJ7_fill_d0a16_15 rfl ?_
      refine at_iinc 19 X rfl dJ7_fill_d0a16_16 rfl (by decide) ?_
      refine at_goto 6 X dJ7_fill_d0a16_19 (by decide) ?_
      rw [Int.toNat_natCast, fil_succ, w32_id (by omega) (by omega), show (i : Int) + 1 = ((i + 1 : Nat) : Int) from rfl]
      exact at_sub [(0, mR a), (1, mL v), (3, mI (((i + 1 : Nat) : Int))), (4, mI (n : Int))] ⟨rfl, rfl, rfl, rfl, trivial⟩ (ih (i + 1) (by omega) (by omega))
  refine at_iconst 1 X (by decide) dJ7_fill_d0a16_0 rfl ?_
  refine at_istore_n 2 X rfl dJ7_fill_d0a16_1 rfl (by decide) ?_
  refine at_aload_n 3 X rfl rfl dJ7_fill_d0a16_2 rfl ?_
  refine at_alen 4 X a hK (by decide) (by omega) dJ7_fill_d0a16_3 rfl ?_
  refine at_istore 6 X dJ7_fill_d0a16_4 rfl (by decide) ?_
  have h := L0 (n + 1) 0 (by omega) (by omega)
  rw [fil_zero] at h
  exact at_sub [(0, mR a), (1, mL v), (3, mI (((0 : Nat) : Int))), (4, mI (n : Int))] ⟨rfl, rfl, rfl, rfl, trivial⟩ h
theorem dX7_add_0 : decode cX7_add 0 = .ok (.aload_n 0, 1) := by decide +kernel
theorem dX7_add_1 : decode cX7_add 1 = .ok (.getfield 24, 3) := by decide +kernel
theorem dX7_add_4 : decode cX7_add 4 = .ok (.sipush 150, 3) := by decide +kernel
theorem dX7_add_7 : decode cX7_add 7 = .ok (.if_icmp .ge 33, 3) := by decide +kernel
theorem dX7_add_10 : decode cX7_add 10 = .ok (.aload_n 0, 1) := by decide +kernel
theorem dX7_add_11 : decode cX7_add 11 = .ok (.getfield 9, 3) := by decide +kernel
theorem dX7_add_14 : decode cX7_add 14 = .ok (.aload_n 0, 1) := by decide +kernel
theorem dX7_add_15 : decode cX7_add 15 = .ok (.getfield 24, 3) := by decide +kernel
theorem dX7_add_18 : decode cX7_add 18 = .ok (.iload_n 1, 1) := by decide +kernel
theorem dX7_add_19 : decode cX7_add 19 = .ok (.iastore, 1) := by decide +kernel
theorem dX7_add_20 : decode cX7_add 20 = .ok (.aload_n 0, 1) := by decide +kernel
theorem dX7_add_21 : decode cX7_add 21 = .ok (.getfield 15, 3) := by decide +kernel
theorem dX7_add_24 : decode cX7_add 24 = .ok (.aload_n 0, 1) := by decide +kernel
theorem dX7_add_25 : decode cX7_add 25 = .ok (.getfield 24, 3) := by decide +kernel
theorem dX7_add_28 : decode cX7_add 28 = .ok (.iload_n 2, 1) := by decide +kernel
theorem dX7_add_29 : decode cX7_add 29 = .ok (.iastore, 1) := by decide +kernel
theorem dX7_add_30 : decode cX7_add 30 = .ok (.aload_n 0, 1) := by decide +kernel
theorem dX7_add_31 : decode cX7_add 31 = .ok (.dup, 1) := by decide +kernel
theorem dX7_add_32 : decode cX7_add 32 = .ok (.getfield 24, 3) := by decide +kernel
theorem dX7_add_35 : decode cX7_add 35 = .ok (.iconst 1, 1) := by decide +kernel
theorem dX7_add_36 : decode cX7_add 36 = .ok (.iadd, 1) := by decide +kernel
theorem dX7_add_37 : decode cX7_add 37 = .ok (.putfield 24, 3) := by decide +kernel
theorem dX7_add_40 : decode cX7_add 40 = .ok (.return_, 1) := by decide +kernel
theorem dX7_setPlain_0 : decode cX7_setPlain 0 = .ok (.aload_n 0, 1) := by decide +kernel
theorem dX7_setPlain_1 : decode cX7_setPlain 1 = .ok (.iconst 0, 1) := by decide +kernel
theorem dX7_setPlain_2 : decode cX7_setPlain 2 = .ok (.putfield 24, 3) := by decide +kernel
theorem dX7_setPlain_5 : decode cX7_setPlain 5 = .ok (.aload_n 0, 1) := by decide +kernel
theorem dX7_setPlain_6 : decode cX7_setPlain 6 = .ok (.iconst 1, 1) := by decide +kernel
theorem dX7_setPlain_7 : decode cX7_setPlain 7 = .ok (.iconst 0, 1) := by decide +kernel
theorem dX7_setPlain_8 : decode cX7_setPlain 8 = .ok (.invokevirtual 28, 3) := by decide +kernel
theorem dX7_setPlain_11 : decode cX7_setPlain 11 = .ok (.aload_n 0, 1) := by decide +kernel
theorem dX7_setPlain_12 : decode cX7_setPlain 12 = .ok (.iconst 0, 1) := by decide +kernel
theorem dX7_setPlain_13 : decode cX7_setPlain 13 = .ok (.bipush 20, 2) := by decide +kernel
theorem dX7_setPlain_15 : decode cX7_setPlain 15 = .ok (.invokevirtual 28, 3) := by decide +kernel
theorem dX7_setPlain_18 : decode cX7_setPlain 18 = .ok (.aload_n 0, 1) := by decide +kernel
theorem dX7_setPlain_19 : decode cX7_setPlain 19 = .ok (.bipush 7, 2) := by decide +kernel
theorem dX7_setPlain_21 : decode cX7_setPlain 21 = .ok (.iconst 0, 1) := by decide +kernel
theorem dX7_setPlain_22 : decode cX7_setPlain 22 = .ok (.invokevirtual 28, 3) := by decide +kernel
theorem dX7_setPlain_25 : decode cX7_setPlain 25 = .ok (.return_, 1) := by decide +kernel
theorem dX0_clear_0 : decode cX0_clear 0 = .ok (.aload_n 0, 1) := by decide +kernel
theorem dX0_clear_1 : decode cX0_clear 1 = .ok (.iconst 0, 1) := by decide +kernel
theorem dX0_clear_2 : decode cX0_clear 2 = .ok (.putfield 31, 3) := by decide +kernel
theorem dX0_clear_5 : decode cX0_clear 5 = .ok (.aload_n 0, 1) := by decide +kernel
theorem dX0_clear_6 : decode cX0_clear 6 = .ok (.getfield 21, 3) := by decide +kernel
theorem dX0_clear_9 : decode cX0_clear 9 = .ok (.iconst 0, 1) := by decide +kernel
theorem dX0_clear_10 : decode cX0_clear 10 = .ok (.invokestatic 35, 3) := by decide +kernel
theorem dX0_clear_13 : decode cX0_clear 13 = .ok (.return_, 1) := by decide +kernel
theorem dX9_clear_0 : decode cX9_clear 0 = .ok (.aload_n 0, 1) := by decide +kernel
theorem dX9_clear_1 : decode cX9_clear 1 = .ok (.bipush 20, 2) := by decide +kernel
theorem dX9_clear_3 : decode cX9_clear 3 = .ok (.putfield 43, 3) := by decide +kernel
theorem dX9_clear_6 : decode cX9_clear 6 = .ok (.aload_n 0, 1) := by decide +kernel
theorem dX9_clear_7 : decode cX9_clear 7 = .ok (.bipush 24, 2) := by decide +kernel
theorem dX9_clear_9 : decode cX9_clear 9 = .ok (.putfield 47, 3) := by decide +kernel
theorem dX9_clear_12 : decode cX9_clear 12 = .ok (.aload_n 0, 1) := by decide +kernel
theorem dX9_clear_13 : decode cX9_clear 13 = .ok (.iconst 0, 1) := by decide +kernel
theorem dX9_clear_14 : decode cX9_clear 14 = .ok (.putfield 50, 3) := by decide +kernel
theorem dX9_clear_17 : decode cX9_clear 17 = .ok (.aload_n 0, 1) := by decide +kernel
theorem dX9_clear_18 : decode cX9_clear 18 = .ok (.iconst 0, 1) := by decide +kernel
theorem dX9_clear_19 : decode cX9_clear 19 = .ok (.putfield 53, 3) := by decide +kernel
theorem dX9_clear_22 : decode cX9_clear 22 = .ok (.aload_n 0, 1) := by decide +kernel
theorem dX9_clear_23 : decode cX9_clear 23 = .ok (.iconst 0, 1) := by decide +kernel
theorem dX9_clear_24 : decode cX9_clear 24 = .ok (.putfield 56, 3) := by decide +kernel
theorem dX9_clear_27 : decode cX9_clear 27 = .ok (.aload_n 0, 1) := by decide +kernel
theorem dX9_clear_28 : decode cX9_clear 28 = .ok (.iconst 0, 1) := by decide +kernel
theorem dX9_clear_29 : decode cX9_clear 29 = .ok (.putfield 59, 3) := by decide +kernel
theorem dX9_clear_32 : decode cX9_clear 32 = .ok (.aload_n 0, 1) := by decide +kernel
theorem dX9_clear_33 : decode cX9_clear 33 = .ok (.iconst 0, 1) := by decide +kernel
theorem dX9_clear_34 : decode cX9_clear 34 = .ok (.putfield 62, 3) := by decide +kernel
theorem dX9_clear_37 : decode cX9_clear 37 = .ok (.aload_n 0, 1) := by decide +kernel
theorem dX9_clear_38 : decode cX9_clear 38 = .ok (.iconst 0, 1) := by decide +kernel
theorem dX9_clear_39 : decode cX9_clear 39 = .ok (.putfield 65, 3) := by decide +kernel
theorem dX9_clear_42 : decode cX9_clear 42 = .ok (.aload_n 0, 1) := by decide +kernel
theorem dX9_clear_43 : decode cX9_clear 43 = .ok (.lconst 0, 1) := by decide +kernel
theorem dX9_clear_44 : decode cX9_clear 44 = .ok (.putfield 68, 3) := by decide +kernel
theorem dX9_clear_47 : decode cX9_clear 47 = .ok (.aload_n 0, 1) := by decide +kernel
theorem dX9_clear_48 : decode cX9_clear 48 = .ok (.getfield 18, 3) := by decide +kernel
theorem dX9_clear_51 : decode cX9_clear 51 = .ok (.iconst (-1), 1) := by decide +kernel
theorem dX9_clear_52 : decode cX9_clear 52 = .ok (.invokestatic 72, 3) := by decide +kernel
theorem dX9_clear_55 : decode cX9_clear 55 = .ok (.aload_n 0, 1) := by decide +kernel
theorem dX9_clear_56 : decode cX9_clear 56 = .ok (.getfield 36, 3) := by decide +kernel
theorem dX9_clear_59 : decode cX9_clear 59 = .ok (.invokevirtual 78, 3) := by decide +kernel
theorem dX9_clear_62 : decode cX9_clear 62 = .ok (.return_, 1) := by decide +kernel
/-- one step more in a law -/
def addL (D : Mm) (a n : Nat) (w v : Int) : Mm := if n < 150 then wr (wr (wr D (a + 1) n w) (a + 2) n v) a 3 ((n + 1 : Nat) : Int) else D
theorem addL_a {D : Mm} {a n j : Nat} {w v : Int} (h : n < 150) (hj : j ≠ 3) : addL D a n w v a j = D a j := by
  unfold addL
  rw [if_pos h]
  simp (disch := omega) only [wr_o]
theorem addL_3 {D : Mm} {a n : Nat} {w v : Int} (h : n < 150) : addL D a n w v a 3 = ((n + 1 : Nat) : Int) := by
  unfold addL
  rw [if_pos h, wr_s]
theorem ct_X7_add {g : Gw} (hG : GF g) {K : Shp} {z : Bool} (D : Mm) (a n : Nat) (w v : Int) (hK : K[a]? = some (14, 0)) (h5 : K[a + 1]? = some (0, 150)) (h6 : K[a + 2]? = some (0, 150)) (e0 : D a 0 = ((a + 1 : Nat) : Int)) (e1 : D a 1 = ((a + 2 : Nat) : Int)) (hs : D a 3 = (n : Int)) (hn : n ≤ 150) : CT g yX7_add cX7_add 3 none 0 0 0 0 K z [mR a, mI w, mI v] (D) K z (fun r D' => r = none ∧ D' = addL D a n w v) := by
  refine CT.mk hG (by decide +kernel) (Nat.le_of_ble_eq_true rfl) (fun κ X Rt _ ok => ?_)
  refine at_aload_n 1 X rfl rfl dX7_add_0 rfl ?_
  refine r_getI 4 X f_X7_24 hK dX7_add_1 rfl ?_
  rw [hs]
  refine at_sipush 7 X (by decide) (by decide) dX7_add_4 rfl ?_
  refine at_icmp_ge 10 40 X dX7_add_7 rfl (by decide) (fun h => ?_) (fun h => ?_)
  · try rw [Int.toNat_natCast, w32_id (by omega) (by omega)]
    refine at_vret X Rt ⟨rfl, ?_⟩ (Nat.le_refl _) (Nat.le_refl _) dX7_add_40
    first
    | (unfold addL; rw [if_pos (by omega)]; rfl)
    | (unfold addL; rw [if_neg (by omega)])
  · refine at_aload_n 11 X rfl rfl dX7_add_10 rfl ?_
    refine r_getR 14 X (b := a + 1) f_X7_9 hK e0 dX7_add_11 rfl ?_
    refine at_aload_n 15 X rfl rfl dX7_add_14 rfl ?_
    refine r_getI 18 X f_X7_24 hK dX7_add_15 rfl ?_
    rw [hs]
    refine at_iload_n 19 X rfl rfl dX7_add_18 rfl ?_
    refine at_iastore 20 X (a + 1) h5 (by omega) (by omega) dX7_add_19 rfl ?_
    refine at_aload_n 21 X rfl rfl dX7_add_20 rfl ?_
    refine r_getR 24 X (b := a + 2) f_X7_15 hK ((wr_o (Or.inl (by omega))).trans e1) dX7_add_21 rfl ?_
    refine at_aload_n 25 X rfl rfl dX7_add_24 rfl ?_
    refine r_getI 28 X f_X7_24 hK dX7_add_25 rfl ?_
    rw [wr_o (Or.inl (by omega)), hs]
    refine at_iload_n 29 X rfl rfl dX7_add_28 rfl ?_
    refine at_iastore 30 X (a + 2) h6 (by omega) (by omega) dX7_add_29 rfl ?_
    refine at_aload_n 31 X rfl rfl dX7_add_30 rfl ?_
    refine at_dup 32 X (show ¬ (2 : Nat) = 1 by decide) dX7_add_31 rfl ?_
    refine r_getI 35 X f_X7_24 hK dX7_add_32 rfl ?_
    simp (disch := omega) only [wr_s, wr_o]
    rw [hs]
    refine at_iconst 36 X (by decide) dX7_add_35 rfl ?_
    refine at_iadd 37 X dX7_add_36 rfl ?_
    refine r_put 40 X (by decide) f_X7_24 fw_7_3 hK dX7_add_37 rfl ?_
    try rw [Int.toNat_natCast, w32_id (by omega) (by omega)]
    refine at_vret X Rt ⟨rfl, ?_⟩ (Nat.le_refl _) (Nat.le_refl _) dX7_add_40
    first
    | (unfold addL; rw [if_pos (by omega)]; rfl)
    | (unfold addL; rw [if_neg (by omega)])
/-- the plain law -/
def plainL (D : Mm) (a : Nat) : Mm := addL (addL (addL (wr D a 3 0) a 0 1 0) a 1 0 20) a 2 7 0
theorem ct_X7_setPlain {g : Gw} (hG : GF g) {K : Shp} {z : Bool} (D : Mm) (a : Nat) (hK : K[a]? = some (14, 0)) (h5 : K[a + 1]? = some (0, 150)) (h6 : K[a + 2]? = some (0, 150)) (e0 : D a 0 = ((a + 1 : Nat) : Int)) (e1 : D a 1 = ((a + 2 : Nat) : Int)) : CT g yX7_setPlain cX7_setPlain 1 none 1 22 0 0 K z [mR a] (D) K z (fun r D' => r = none ∧ D' = plainL D a) := by
  refine CT.mk hG (by decide +kernel) (Nat.le_of_ble_eq_true rfl) (fun κ X Rt _ ok => ?_)
  refine at_aload_n 1 X rfl rfl dX7_setPlain_0 rfl ?_
  refine at_iconst 2 X (by decide) dX7_setPlain_1 rfl ?_
  refine r_put 5 X (by decide) f_X7_24 fw_7_3 hK dX7_setPlain_2 rfl ?_
  refine at_aload_n 6 X rfl rfl dX7_setPlain_5 rfl ?_
  refine at_iconst 7 X (by decide) dX7_setPlain_6 rfl ?_
  refine at_iconst 8 X (by decide) dX7_setPlain_7 rfl ?_
  refine at_callV 11 X _ 7 (ct_X7_add hG _ a 0 1 0 hK h5 h6 ((wr_o (Or.inr (by decide))).trans e0) ((wr_o (Or.inr (by decide))).trans e1) (wr_s _ _ _ _) (by decide)) clX7 rfl hK mo_X7_add w_199 vo_X7_add.1 vo_X7_add.2 rfl rfl (crm Rt (by decide)) (Nat.le_of_ble_eq_true rfl) dX7_setPlain_8 rfl ?_
  rintro _ _ ⟨rfl, rfl⟩
  refine at_aload_n 12 X rfl rfl dX7_setPlain_11 rfl ?_
  refine at_iconst 13 X (by decide) dX7_setPlain_12 rfl ?_
  refine at_bipush 15 X (by decide) (by decide) dX7_setPlain_13 rfl ?_
  refine at_callV 18 X _ 7 (ct_X7_add hG _ a 1 0 20 hK h5 h6 ((addL_a (by decide) (by decide)).trans ((wr_o (Or.inr (by decide))).trans e0)) ((addL_a (by decide) (by decide)).trans ((wr_o (Or.inr (by decide))).trans e1)) (addL_3 (by decide)) (by decide)) clX7 rfl hK mo_X7_add w_199 vo_X7_add.1 vo_X7_add.2 rfl rfl (crm Rt (by decide)) (Nat.le_of_ble_eq_true rfl) dX7_setPlain_15 rfl ?_
  rintro _ _ ⟨rfl, rfl⟩
  refine at_aload_n 19 X rfl rfl dX7_setPlain_18 rfl ?_
  refine at_bipush 21 X (by decide) (by decide) dX7_setPlain_19 rfl ?_
  refine at_iconst 22 X (by decide) dX7_setPlain_21 rfl ?_
  refine at_callV 25 X _ 7 (ct_X7_add hG _ a 2 7 0 hK h5 h6 ((addL_a (by decide) (by decide)).trans ((addL_a (by decide) (by decide)).trans ((wr_o (Or.inr (by decide))).trans e0))) ((addL_a (by decide) (by decide)).trans ((addL_a (by decide) (by decide)).trans ((wr_o (Or.inr (by decide))).trans e1))) (addL_3 (by decide)) (by decide)) clX7 rfl hK mo_X7_add w_199 vo_X7_add.1 vo_X7_add.2 rfl rfl (crm Rt (by decide)) (Nat.le_of_ble_eq_true rfl) dX7_setPlain_22 rfl ?_
  rintro _ _ ⟨rfl, rfl⟩
  refine at_vret X Rt ⟨rfl, rfl⟩ (Nat.le_refl _) (Nat.le_refl _) dX7_setPlain_25
/-- no beams -/
def clrB (D : Mm) (a : Nat) : Mm := fil (wr D a 6 0) (a + 4) 160 0
theorem ct_X0_clear {g : Gw} (hG : GF g) {K : Shp} {z : Bool} (D : Mm) (a : Nat) (hK : K[a]? = some (7, 0)) (h4 : K[a + 4]? = some (0, 160)) (e3 : D a 3 = ((a + 4 : Nat) : Int)) : CT g yX0_clear cX0_clear 1 none 1 23 0 0 K z [mR a] (D) K z (fun r D' => r = none ∧ D' = clrB D a) := by
  refine CT.mk hG (by decide +kernel) (Nat.le_of_ble_eq_true rfl) (fun κ X Rt _ ok => ?_)
  refine at_aload_n 1 X rfl rfl dX0_clear_0 rfl ?_
  refine at_iconst 2 X (by decide) dX0_clear_1 rfl ?_
  refine r_put 5 X (by decide) f_X0_31 fw_0_6 hK dX0_clear_2 rfl ?_
  refine at_aload_n 6 X rfl rfl dX0_clear_5 rfl ?_
  refine r_getR 9 X (b := a + 4) f_X0_21 hK ((wr_o (Or.inr (by decide))).trans e3) dX0_clear_6 rfl ?_
  refine at_iconst 10 X (by decide) dX0_clear_9 rfl ?_
  refine at_callS 13 X (ct_fillI hG _ (a + 4) 160 0 h4 (by decide)) mo_J7_fill_53178 w_483 so_J7_fill_53178 rfl rfl (crm Rt (by decide)) (Nat.le_of_ble_eq_true rfl) dX0_clear_10 rfl ?_
  rintro _ _ ⟨rfl, rfl⟩
  refine at_vret X Rt ⟨rfl, rfl⟩ (Nat.le_refl _) (Nat.le_refl _) dX0_clear_13
/-- a street with nothing told -/
def clrS (D : Mm) (a : Nat) : Mm := clrB (fil (wr (wr (wr (wr (wr (wr (wr (wr (wr D a 8 20) a 9 24) a 10 0) a 11 0) a 12 0) a 13 0) a 14 0) a 15 0) a 16 0) (a + 3) 24 (-1)) (a + 8)
theorem ct_X9_clear {g : Gw} (hG : GF g) {K : Shp} {z : Bool} (D : Mm) (a : Nat) (hK : K[a]? = some (16, 0)) (h3 : K[a + 3]? = some (0, 24)) (h8 : K[a + 8]? = some (7, 0)) (h12 : K[a + 8 + 4]? = some (0, 160)) (e2 : D a 2 = ((a + 3 : Nat) : Int)) (e7 : D a 7 = ((a + 8 : Nat) : Int)) (e8 : D (a + 8) 3 = ((a + 8 + 4 : Nat) : Int)) : CT g yX9_clear cX9_clear 1 none 2 43 0 0 K z [mR a] (D) K z (fun r D' => r = none ∧ D' = clrS D a) := by
  refine CT.mk hG (by decide +kernel) (Nat.le_of_ble_eq_true rfl) (fun κ X Rt _ ok => ?_)
  refine at_aload_n 1 X rfl rfl dX9_clear_0 rfl ?_
  refine at_bipush 3 X (by decide) (by decide) dX9_clear_1 rfl ?_
  refine r_put 6 X (by decide) f_X9_43 fw_9_8 hK dX9_clear_3 rfl ?_
  refine at_aload_n 7 X rfl rfl dX9_clear_6 rfl ?_
  refine at_bipush 9 X (by decide) (by decide) dX9_clear_7 rfl ?_
  refine r_put 12 X (by decide) f_X9_47 fw_9_9 hK dX9_clear_9 rfl ?_
  refine at_aload_n 13 X rfl rfl dX9_clear_12 rfl ?_
  refine at_iconst 14 X (by decide) dX9_clear_13 rfl ?_
  refine r_put 17 X (by decide) f_X9_50 fw_9_10 hK dX9_clear_14 rfl ?_
  refine at_aload_n 18 X rfl rfl dX9_clear_17 rfl ?_
  refine at_iconst 19 X (by decide) dX9_clear_18 rfl ?_
  refine r_put 22 X (by decide) f_X9_53 fw_9_11 hK dX9_clear_19 rfl ?_
  refine at_aload_n 23 X rfl rfl dX9_clear_22 rfl ?_
  refine at_iconst 24 X (by decide) dX9_clear_23 rfl ?_
  refine r_put 27 X (by decide) f_X9_56 fw_9_12 hK dX9_clear_24 rfl ?_
  refine at_aload_n 28 X rfl rfl dX9_clear_27 rfl ?_
  refine at_iconst 29 X (by decide) dX9_clear_28 rfl ?_
  refine r_put 32 X (by decide) f_X9_59 fw_9_13 hK dX9_clear_29 rfl ?_
  refine at_aload_n 33 X rfl rfl dX9_clear_32 rfl ?_
  refine at_iconst 34 X (by decide) dX9_clear_33 rfl ?_
  refine r_put 37 X (by decide) f_X9_62 fw_9_14 hK dX9_clear_34 rfl ?_
  refine at_aload_n 38 X rfl rfl dX9_clear_37 rfl ?_
  refine at_iconst 39 X (by decide) dX9_clear_38 rfl ?_
  refine r_put 42 X (by decide) f_X9_65 fw_9_15 hK dX9_clear_39 rfl ?_
  refine at_aload_n 43 X rfl rfl dX9_clear_42 rfl ?_
  refine at_lconst 44 X (v := 0) (by decide) (by decide) dX9_clear_43 rfl ?_
  refine r_put 47 X (by decide) f_X9_68 fw_9_16 hK dX9_clear_44 rfl ?_
  refine at_aload_n 48 X rfl rfl dX9_clear_47 rfl ?_
  refine r_getR 51 X (b := a + 3) f_X9_18 hK (by simp (disch := omega) only [wr_o]; exact e2) dX9_clear_48 rfl ?_
  refine at_iconst 52 X (by decide) dX9_clear_51 rfl ?_
  refine at_callS 55 X (ct_fillI hG _ (a + 3) 24 (-1) h3 (by decide)) mo_J7_fill_53178 w_476 so_J7_fill_53178 rfl rfl (crm Rt (by decide)) (Nat.le_of_ble_eq_true rfl) dX9_clear_52 rfl ?_
  rintro _ _ ⟨rfl, rfl⟩
  refine at_aload_n 56 X rfl rfl dX9_clear_55 rfl ?_
  refine r_getR 59 X (b := a + 8) f_X9_36 hK (by unfold fil; rw [if_neg (by omega)]; simp (disch := omega) only [wr_o]; exact e7) dX9_clear_56 rfl ?_
  refine at_callV 62 X _ 0 (ct_X0_clear hG _ (a + 8) h8 h12 (by unfold fil; rw [if_neg (by omega)]; simp (disch := omega) only [wr_o]; exact e8)) clX0 rfl h8 mo_X0_clear w_479 vo_X0_clear.1 vo_X0_clear.2 rfl rfl (crm Rt (by decide)) (Nat.le_of_ble_eq_true rfl) dX9_clear_59 rfl ?_
  rintro _ _ ⟨rfl, rfl⟩
  refine at_vret X Rt ⟨rfl, rfl⟩ (Nat.le_refl _) (Nat.le_refl _) dX9_clear_62
