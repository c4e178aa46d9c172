/-- shadows and what cells bear, as the reference has laid them for the first hours -/
def RSh (E : Mm) (G : GP) (n : Nat) : Prop := ∀ h c, h < n → c < gW G → E (683 + h) c = (shd G (gLm G c) h c : Nat) ∧ E (708 + h) c = bOn G h c
theorem cnt_24 (G : GP) (hN : gN G ≤ 11) (m : Bool) (h c : Nat) : cntp (fun j => (shd G m h c).testBit j) 24 = cntp (fun j => (shd G m h c).testBit j) 11 := cntp_z (n := 11) (k := 13) (fun j hj => Nat.testBit_lt_two_pow (Nat.lt_of_lt_of_le (shd_lt G hN m h c) (Nat.pow_le_pow_right (n := 2) (by decide) hj)))
theorem shd_clear {G : GP} {m : Bool} {h c : Nat} (k : ¬ gC G h = true) : shd G m h c = mk (fun p => shG G h p c) (gN G) := by
  unfold shd
  rw [lcl_now k, if_neg (by rintro (q | q); omega; exact k q.1), Int.toNat_natCast]
theorem shd_cloud {G : GP} {h c l : Nat} (e : lcl (gC G) h = (l : Int)) : shd G true h c = mk (fun p => shG G l p c) (gN G) := by
  unfold shd
  rw [e, if_neg (by rintro (q | q); omega; exact q.2 rfl), Int.toNat_natCast]
theorem shd_dark {G : GP} {m : Bool} {h c : Nat} (k : gC G h = true) (q : lcl (gC G) h = -1 ∨ ¬ m = true) : shd G m h c = 0 := by
  unfold shd
  rw [if_pos (by rcases q with q | q; exact Or.inl (by omega); exact Or.inr ⟨k, q⟩)]
theorem bOn_p {G : GP} {h c : Nat} (k : isP G c = true) : bOn G h c = 999 := if_pos k
theorem bOn_n {G : GP} {h c : Nat} (k : ¬ isP G c = true) : bOn G h c = borP (gLw G) (cntp (fun p => (shd G (gLm G c) h c).testBit p) 11 : Nat) (talG G (shd G (gLm G c) h c) : Nat) (h : Nat) (if gLm G c then 1 else 0) := if_neg k
theorem dX12_laysShades_0 : decode cX12_laysShades 0 = .ok (.iconst (-1), 1) := by decide +kernel
theorem dX12_laysShades_1 : decode cX12_laysShades 1 = .ok (.istore_n 1, 1) := by decide +kernel
theorem dX12_laysShades_2 : decode cX12_laysShades 2 = .ok (.iconst 0, 1) := by decide +kernel
theorem dX12_laysShades_3 : decode cX12_laysShades 3 = .ok (.istore_n 2, 1) := by decide +kernel
theorem dX12_laysShades_4 : decode cX12_laysShades 4 = .ok (.iload_n 2, 1) := by decide +kernel
theorem dX12_laysShades_5 : decode cX12_laysShades 5 = .ok (.bipush 24, 2) := by decide +kernel
theorem dX12_laysShades_7 : decode cX12_laysShades 7 = .ok (.if_icmp .ge 177, 3) := by decide +kernel
theorem dX12_laysShades_10 : decode cX12_laysShades 10 = .ok (.aload_n 0, 1) := by decide +kernel
theorem dX12_laysShades_11 : decode cX12_laysShades 11 = .ok (.getfield 339, 3) := by decide +kernel
theorem dX12_laysShades_14 : decode cX12_laysShades 14 = .ok (.iload_n 2, 1) := by decide +kernel
theorem dX12_laysShades_15 : decode cX12_laysShades 15 = .ok (.ishr, 1) := by decide +kernel
theorem dX12_laysShades_16 : decode cX12_laysShades 16 = .ok (.iconst 1, 1) := by decide +kernel
theorem dX12_laysShades_17 : decode cX12_laysShades 17 = .ok (.iand, 1) := by decide +kernel
theorem dX12_laysShades_18 : decode cX12_laysShades 18 = .ok (.iconst 1, 1) := by decide +kernel
theorem dX12_laysShades_19 : decode cX12_laysShades 19 = .ok (.if_icmp .ne 7, 3) := by decide +kernel
theorem dX12_laysShades_22 : decode cX12_laysShades 22 = .ok (.iconst 1, 1) := by decide +kernel
theorem dX12_laysShades_23 : decode cX12_laysShades 23 = .ok (.goto 4, 3) := by decide +kernel
theorem dX12_laysShades_26 : decode cX12_laysShades 26 = .ok (.iconst 0, 1) := by decide +kernel
theorem dX12_laysShades_27 : decode cX12_laysShades 27 = .ok (.istore_n 3, 1) := by decide +kernel
theorem dX12_laysShades_28 : decode cX12_laysShades 28 = .ok (.iload_n 3, 1) := by decide +kernel
theorem dX12_laysShades_29 : decode cX12_laysShades 29 = .ok (.ifCond .eq 7, 3) := by decide +kernel
theorem dX12_laysShades_32 : decode cX12_laysShades 32 = .ok (.iload_n 1, 1) := by decide +kernel
theorem dX12_laysShades_33 : decode cX12_laysShades 33 = .ok (.goto 4, 3) := by decide +kernel
theorem dX12_laysShades_36 : decode cX12_laysShades 36 = .ok (.iload_n 2, 1) := by decide +kernel
theorem dX12_laysShades_37 : decode cX12_laysShades 37 = .ok (.istore_n 1, 1) := by decide +kernel
theorem dX12_laysShades_38 : decode cX12_laysShades 38 = .ok (.iconst 0, 1) := by decide +kernel
theorem dX12_laysShades_39 : decode cX12_laysShades 39 = .ok (.istore 4, 2) := by decide +kernel
theorem dX12_laysShades_41 : decode cX12_laysShades 41 = .ok (.iload 4, 2) := by decide +kernel
theorem dX12_laysShades_43 : decode cX12_laysShades 43 = .ok (.aload_n 0, 1) := by decide +kernel
theorem dX12_laysShades_44 : decode cX12_laysShades 44 = .ok (.getfield 23, 3) := by decide +kernel
theorem dX12_laysShades_47 : decode cX12_laysShades 47 = .ok (.iconst 0, 1) := by decide +kernel
theorem dX12_laysShades_48 : decode cX12_laysShades 48 = .ok (.iaload, 1) := by decide +kernel
theorem dX12_laysShades_49 : decode cX12_laysShades 49 = .ok (.if_icmp .ge 129, 3) := by decide +kernel
theorem dX12_laysShades_52 : decode cX12_laysShades 52 = .ok (.aload_n 0, 1) := by decide +kernel
theorem dX12_laysShades_53 : decode cX12_laysShades 53 = .ok (.iload 4, 2) := by decide +kernel
theorem dX12_laysShades_55 : decode cX12_laysShades 55 = .ok (.invokevirtual 354, 3) := by decide +kernel
theorem dX12_laysShades_58 : decode cX12_laysShades 58 = .ok (.istore 5, 2) := by decide +kernel
theorem dX12_laysShades_60 : decode cX12_laysShades 60 = .ok (.aload_n 0, 1) := by decide +kernel
theorem dX12_laysShades_61 : decode cX12_laysShades 61 = .ok (.getfield 113, 3) := by decide +kernel
theorem dX12_laysShades_64 : decode cX12_laysShades 64 = .ok (.iload_n 2, 1) := by decide +kernel
theorem dX12_laysShades_65 : decode cX12_laysShades 65 = .ok (.aaload, 1) := by decide +kernel
theorem dX12_laysShades_66 : decode cX12_laysShades 66 = .ok (.iload 4, 2) := by decide +kernel
theorem dX12_laysShades_68 : decode cX12_laysShades 68 = .ok (.iload_n 3, 1) := by decide +kernel
theorem dX12_laysShades_69 : decode cX12_laysShades 69 = .ok (.ifCond .ne 15, 3) := by decide +kernel
theorem dX12_laysShades_72 : decode cX12_laysShades 72 = .ok (.aload_n 0, 1) := by decide +kernel
theorem dX12_laysShades_73 : decode cX12_laysShades 73 = .ok (.getfield 110, 3) := by decide +kernel
theorem dX12_laysShades_76 : decode cX12_laysShades 76 = .ok (.iload_n 2, 1) := by decide +kernel
theorem dX12_laysShades_77 : decode cX12_laysShades 77 = .ok (.aaload, 1) := by decide +kernel
theorem dX12_laysShades_78 : decode cX12_laysShades 78 = .ok (.iload 4, 2) := by decide +kernel
theorem dX12_laysShades_80 : decode cX12_laysShades 80 = .ok (.iaload, 1) := by decide +kernel
theorem dX12_laysShades_81 : decode cX12_laysShades 81 = .ok (.goto 26, 3) := by decide +kernel
theorem dX12_laysShades_84 : decode cX12_laysShades 84 = .ok (.iload 5, 2) := by decide +kernel
theorem dX12_laysShades_86 : decode cX12_laysShades 86 = .ok (.ifCond .eq 20, 3) := by decide +kernel
theorem dX12_laysShades_89 : decode cX12_laysShades 89 = .ok (.iload_n 1, 1) := by decide +kernel
theorem dX12_laysShades_90 : decode cX12_laysShades 90 = .ok (.iconst (-1), 1) := by decide +kernel
theorem dX12_laysShades_91 : decode cX12_laysShades 91 = .ok (.if_icmp .eq 15, 3) := by decide +kernel
theorem dX12_laysShades_94 : decode cX12_laysShades 94 = .ok (.aload_n 0, 1) := by decide +kernel
theorem dX12_laysShades_95 : decode cX12_laysShades 95 = .ok (.getfield 110, 3) := by decide +kernel
theorem dX12_laysShades_98 : decode cX12_laysShades 98 = .ok (.iload_n 1, 1) := by decide +kernel
theorem dX12_laysShades_99 : decode cX12_laysShades 99 = .ok (.aaload, 1) := by decide +kernel
theorem dX12_laysShades_100 : decode cX12_laysShades 100 = .ok (.iload 4, 2) := by decide +kernel
theorem dX12_laysShades_102 : decode cX12_laysShades 102 = .ok (.iaload, 1) := by decide +kernel
theorem dX12_laysShades_103 : decode cX12_laysShades 103 = .ok (.goto 4, 3) := by decide +kernel
theorem dX12_laysShades_106 : decode cX12_laysShades 106 = .ok (.iconst 0, 1) := by decide +kernel
theorem dX12_laysShades_107 : decode cX12_laysShades 107 = .ok (.iastore, 1) := by decide +kernel
theorem dX12_laysShades_108 : decode cX12_laysShades 108 = .ok (.aload_n 0, 1) := by decide +kernel
theorem dX12_laysShades_109 : decode cX12_laysShades 109 = .ok (.getfield 116, 3) := by decide +kernel
theorem dX12_laysShades_112 : decode cX12_laysShades 112 = .ok (.iload_n 2, 1) := by decide +kernel
theorem dX12_laysShades_113 : decode cX12_laysShades 113 = .ok (.aaload, 1) := by decide +kernel
theorem dX12_laysShades_114 : decode cX12_laysShades 114 = .ok (.iload 4, 2) := by decide +kernel
theorem dX12_laysShades_116 : decode cX12_laysShades 116 = .ok (.aload_n 0, 1) := by decide +kernel
theorem dX12_laysShades_117 : decode cX12_laysShades 117 = .ok (.iload 4, 2) := by decide +kernel
theorem dX12_laysShades_119 : decode cX12_laysShades 119 = .ok (.invokevirtual 357, 3) := by decide +kernel
theorem dX12_laysShades_122 : decode cX12_laysShades 122 = .ok (.ifCond .eq 9, 3) := by decide +kernel
theorem dX12_laysShades_125 : decode cX12_laysShades 125 = .ok (.sipush 999, 3) := by decide +kernel
theorem dX12_laysShades_128 : decode cX12_laysShades 128 = .ok (.goto 43, 3) := by decide +kernel
theorem dX12_laysShades_131 : decode cX12_laysShades 131 = .ok (.aload_n 0, 1) := by decide +kernel
theorem dX12_laysShades_132 : decode cX12_laysShades 132 = .ok (.aload_n 0, 1) := by decide +kernel
theorem dX12_laysShades_133 : decode cX12_laysShades 133 = .ok (.getfield 113, 3) := by decide +kernel
theorem dX12_laysShades_136 : decode cX12_laysShades 136 = .ok (.iload_n 2, 1) := by decide +kernel
theorem dX12_laysShades_137 : decode cX12_laysShades 137 = .ok (.aaload, 1) := by decide +kernel
theorem dX12_laysShades_138 : decode cX12_laysShades 138 = .ok (.iload 4, 2) := by decide +kernel
theorem dX12_laysShades_140 : decode cX12_laysShades 140 = .ok (.iaload, 1) := by decide +kernel
theorem dX12_laysShades_141 : decode cX12_laysShades 141 = .ok (.invokestatic 360, 3) := by decide +kernel
theorem dX12_laysShades_144 : decode cX12_laysShades 144 = .ok (.aload_n 0, 1) := by decide +kernel
theorem dX12_laysShades_145 : decode cX12_laysShades 145 = .ok (.aload_n 0, 1) := by decide +kernel
theorem dX12_laysShades_146 : decode cX12_laysShades 146 = .ok (.getfield 113, 3) := by decide +kernel
theorem dX12_laysShades_149 : decode cX12_laysShades 149 = .ok (.iload_n 2, 1) := by decide +kernel
theorem dX12_laysShades_150 : decode cX12_laysShades 150 = .ok (.aaload, 1) := by decide +kernel
theorem dX12_laysShades_151 : decode cX12_laysShades 151 = .ok (.iload 4, 2) := by decide +kernel
theorem dX12_laysShades_153 : decode cX12_laysShades 153 = .ok (.iaload, 1) := by decide +kernel
theorem dX12_laysShades_154 : decode cX12_laysShades 154 = .ok (.invokevirtual 363, 3) := by decide +kernel
theorem dX12_laysShades_157 : decode cX12_laysShades 157 = .ok (.iload_n 2, 1) := by decide +kernel
theorem dX12_laysShades_158 : decode cX12_laysShades 158 = .ok (.iload 5, 2) := by decide +kernel
theorem dX12_laysShades_160 : decode cX12_laysShades 160 = .ok (.ifCond .eq 7, 3) := by decide +kernel
theorem dX12_laysShades_163 : decode cX12_laysShades 163 = .ok (.iconst 1, 1) := by decide +kernel
theorem dX12_laysShades_164 : decode cX12_laysShades 164 = .ok (.goto 4, 3) := by decide +kernel
theorem dX12_laysShades_167 : decode cX12_laysShades 167 = .ok (.iconst 0, 1) := by decide +kernel
theorem dX12_laysShades_168 : decode cX12_laysShades 168 = .ok (.invokevirtual 317, 3) := by decide +kernel
theorem dX12_laysShades_171 : decode cX12_laysShades 171 = .ok (.iastore, 1) := by decide +kernel
theorem dX12_laysShades_172 : decode cX12_laysShades 172 = .ok (.iinc 4 1, 3) := by decide +kernel
theorem dX12_laysShades_175 : decode cX12_laysShades 175 = .ok (.goto (-134), 3) := by decide +kernel
theorem dX12_laysShades_178 : decode cX12_laysShades 178 = .ok (.iinc 2 1, 3) := by decide +kernel
theorem dX12_laysShades_181 : decode cX12_laysShades 181 = .ok (.goto (-177), 3) := by decide +kernel
theorem dX12_laysShades_184 : decode cX12_laysShades 184 = .ok (.return_, 1) := by decide +kernel
theorem ct_X12_laysShades {g : Gw} (hG : GF g) {z : Bool} (E : Mm) (P : SP) (Q : RX) (hP : WS P) (hR_E : RTS E P Q) (G : GP) (hW : WR G) (hgw : gW G = sW P) (hp_E : RPg E G) (nl : Nat) (lx lr : Nat → Nat) (hl_E : RLg E G nl lx lr) (hc_E : E 125 54 = (mk (gC G) 24 : Nat)) (hrw_E : RRw E G 24) (hlw_E : RLw E (gLw G)) (st : Nat) (hst : st < 2147483648) (hK_E : RKn E (gLw G) st) : CT g yX12_laysShades cX12_laysShades 6 none 4 90 0 0 K2 z [mR 125] (ov E) K2 z (fun r D' => r = none ∧ ∃ E1, D' = ov E1 ∧ RSh E1 G 24 ∧ RKn E1 (gLw G) st ∧ (∀ q, ¬ (576 ≤ q ∧ q ≤ 579) → ¬ (683 ≤ q ∧ q ≤ 706) → ¬ (708 ≤ q ∧ q ≤ 731) → E1 q = E q)) := by
  refine CT.mk hG (by decide +kernel) (Nat.le_of_ble_eq_true rfl) (fun κ X Rt _ ok => ?_)
  have hN11 := hW.2.1
  have hW40 := hW.1
  refine at_iconst 1 X (by decide) dX12_laysShades_0 rfl ?_
  refine at_istore_n 2 X rfl dX12_laysShades_1 rfl (by decide) ?_
  refine at_iconst 3 X (by decide) dX12_laysShades_2 rfl ?_
  refine at_istore_n 4 X rfl dX12_laysShades_3 rfl (by decide) ?_
  have J4 : ∀ (f4 : Nat) (F : Mm) (h : Nat) (la : Int), 24 - h < f4 → (h ≤ 24) → (la = itr (fun i v => if gC G i then v else (i : Int)) (-1) h) → (RSh F G h) → (RKn F (gLw G) st) → ((∀ q, ¬ (576 ≤ q ∧ q ≤ 579) → ¬ (683 ≤ q ∧ q ≤ 706) → ¬ (708 ≤ q ∧ q ≤ 731) → F q = E q)) → AT g κ K2 z 0 0 4 [(0, mR 125), (1, mI la), (2, mI ((h : Nat) : Int))] [] (ov F) := by
    intro f4
    induction f4 with
    | zero => intro F h la hf4; omega
    | succ f4 ih4 =>
    intro F h la hf4 hh hla hs_F hK_F hf_F
    refine at_iload_n 5 X rfl rfl dX12_laysShades_4 rfl ?_
    refine at_bipush 7 X (by decide) (by decide) dX12_laysShades_5 rfl ?_
    refine at_icmp_ge 10 184 X dX12_laysShades_7 rfl (by decide) (fun h7 => ?_) (fun h7 => ?_)
    · refine at_vret X Rt ?_ (Nat.le_refl _) (Nat.le_refl _) dX12_laysShades_184
      have h24 : h = 24 := by omega
      subst h24
      exact ⟨rfl, F, rfl, hs_F, hK_F, hf_F⟩
    · have hc_F : F 125 54 = (mk (gC G) 24 : Nat) := by rw [hf_F 125 (by omega) (by omega) (by omega)]; exact hc_E
      have J38 : ∀ (cl : Int) (lb : Int), (cl = if gC G h = true then 1 else 0) → (lb = lcl (gC G) h) → AT g κ K2 z 0 0 38 [(0, mR 125), (1, mI lb), (2, mI ((h : Nat) : Int)), (3, mI cl)] [] (ov F) := by
        intro cl lb hcl hlb
        refine at_iconst 39 X (by decide) dX12_laysShades_38 rfl ?_
        refine at_istore 41 X dX12_laysShades_39 rfl (by decide) ?_
        have J41 : ∀ (f41 : Nat) (F2 : Mm) (x : Nat), 40 - x < f41 → (x ≤ sW P) → (RSh F2 G h) → ((∀ c, c < x → F2 (683 + h) c = (shd G (gLm G c) h c : Nat) ∧ F2 (708 + h) c = bOn G h c)) → (RKn F2 (gLw G) st) → ((∀ q, ¬ (576 ≤ q ∧ q ≤ 579) → ¬ (683 ≤ q ∧ q ≤ 706) → ¬ (708 ≤ q ∧ q ≤ 731) → F2 q = E q)) → AT g κ K2 z 0 0 41 [(0, mR 125), (1, mI lb), (2, mI ((h : Nat) : Int)), (3, mI cl), (4, mI ((x : Nat) : Int))] [] (ov F2) := by
          intro f41
          induction f41 with
          | zero => intro F2 x hf41; omega
          | succ f41 ih41 =>
          intro F2 x hf41 hx hs_F2 hn_F2 hK_F2 hf_F2
          refine at_iload 43 X rfl dX12_laysShades_41 rfl ?_
          have hR_F2 : RTS F2 P Q := hR_E.fr (fun q hq => hf_F2 q (by omega) (by omega) (by omega)) hP
          have hp_F2 : RPg F2 G := ⟨by rw [hf_F2 125 (by omega) (by omega) (by omega)]; exact hp_E.1, fun p hp => by rw [hf_F2 (142 + p) (by omega) (by omega) (by omega)]; exact hp_E.2 p hp⟩
          have hl_F2 : RLg F2 G nl lx lr := ⟨by rw [hf_F2 125 (by omega) (by omega) (by omega)]; exact hl_E.1, hl_E.2.1, fun k hk => by have := hl_E.2.1; rw [hf_F2 (209 + k) (by omega) (by omega) (by omega)]; exact hl_E.2.2.1 k hk, hl_E.2.2.2⟩
          have hlw_F2 : RLw F2 (gLw G) := hlw_E.fr hW.2.2.2.2.2.1 (by rw [hf_F2 125 (by omega) (by omega) (by omega)]) (fun q h1 h2 => hf_F2 q (by omega) (by omega) (by omega))
          have hrw_F2 : RRw F2 G 24 := fun h c hh hc => by rw [hf_F2 (658 + h) (by omega) (by omega) (by omega)]; exact hrw_E h c hh hc
          have hc_F2 : F2 125 54 = (mk (gC G) 24 : Nat) := by rw [hf_F2 125 (by omega) (by omega) (by omega)]; exact hc_E
          refine at_aload_n 44 X rfl rfl dX12_laysShades_43 rfl ?_
          refine m_getR 47 X f_X12_23 k_125 r_125_12 dX12_laysShades_44 rfl ?_
          refine at_iconst 48 X (by decide) dX12_laysShades_47 rfl ?_
          refine m_ialoadV 49 X 0 (by omega) ((sW P : Nat) : Int) hR_F2.1.1 k_129 e_129 (by omega) dX12_laysShades_48 rfl ?_
          have := hP.W
          refine at_icmp_ge 52 178 X dX12_laysShades_49 rfl (by decide) (fun h49 => ?_) (fun h49 => ?_)
          · refine at_iincV 181 X ((h + 1 : Nat) : Int) (w32_v (by omega) (by omega) (by omega)) rfl dX12_laysShades_178 rfl (by decide) ?_
            refine at_goto 4 X dX12_laysShades_181 (by decide) ?_
            exact at_sub _ (by exact ⟨rfl, rfl, rfl, trivial⟩) (ih4 F2 (h + 1) lb (by first | omega | (simp only [] at *; omega)) (by first | omega | assumption) hlb (fun t c ht hc => if e : t = h then by subst e; exact hn_F2 c (by omega) else hs_F2 t c (by omega) hc) hK_F2 hf_F2)
          · refine at_aload_n 53 X rfl rfl dX12_laysShades_52 rfl ?_
            refine at_iload 55 X rfl dX12_laysShades_53 rfl ?_
            refine at_callV 58 X _ 12 (ct_X12_isLit hG F2 G hW nl lx lr hl_F2 x (by omega)) clX12 rfl k_125 mo_X12_isLit w_2178 vo_X12_isLit.1 vo_X12_isLit.2 rfl rfl (crm Rt (by decide)) (Nat.le_of_ble_eq_true rfl) dX12_laysShades_55 rfl ?_
            rintro _ _ ⟨rfl, rfl⟩
            refine at_istore 60 X dX12_laysShades_58 rfl (by decide) ?_
            refine at_aload_n 61 X rfl rfl dX12_laysShades_60 rfl ?_
            refine m_getR 64 X f_X12_113 k_125 r_125_50 dX12_laysShades_61 rfl ?_
            refine at_iload_n 65 X rfl rfl dX12_laysShades_64 rfl ?_
            refine m_aaloadV 66 X h (by omega) k_682 (by decide) (by omega) (rr_682 _ (by omega)) dX12_laysShades_65 rfl ?_
            refine at_iload 68 X rfl dX12_laysShades_66 rfl ?_
            have J107 : ∀ (n : Nat), (n = shd G (gLm G x) h x) → AT g κ K2 z 0 0 107 [(0, mR 125), (1, mI lb), (2, mI ((h : Nat) : Int)), (3, mI cl), (4, mI ((x : Nat) : Int)), (5, mI (if gLm G x = true then 1 else 0))] [mI ((n : Nat) : Int), mI ((x : Nat) : Int), mR (683 + h)] (ov F2) := by
              intro n hn
              have hn2 := shd_lt G hN11 (gLm G x) h x
              have hcn := cntp_le (fun j => n.testBit j) 24
              have hc11 : cntp (fun j => n.testBit j) 24 ≤ 11 := by rw [hn, cnt_24 G hN11]; exact cntp_le _ _
              refine m_iastoreV 108 X x (by omega) (kr_682 _ (by omega)) (er_682 _ (by omega)) (by omega) dX12_laysShades_107 rfl ?_
              refine at_aload_n 109 X rfl rfl dX12_laysShades_108 rfl ?_
              refine m_getR 112 X f_X12_116 k_125 r_125_51 dX12_laysShades_109 rfl ?_
              refine at_iload_n 113 X rfl rfl dX12_laysShades_112 rfl ?_
              refine m_aaloadV 114 X h (by omega) k_707 (by decide) (by omega) (rr_707 _ (by omega)) dX12_laysShades_113 rfl ?_
              refine at_iload 116 X rfl dX12_laysShades_114 rfl ?_
              refine at_aload_n 117 X rfl rfl dX12_laysShades_116 rfl ?_
              refine at_iload 119 X rfl dX12_laysShades_117 rfl ?_
              refine at_callV 122 X _ 12 (ct_X12_isPosted hG (wr F2 (683 + h) x ((n : Nat) : Int)) G hW ⟨by rw [wr_row (by omega)]; exact hp_F2.1, fun p hp => by rw [wr_row (by omega)]; exact hp_F2.2 p hp⟩ x (by omega)) clX12 rfl k_125 mo_X12_isPosted w_2182 vo_X12_isPosted.1 vo_X12_isPosted.2 rfl rfl (crm Rt (by decide)) (Nat.le_of_ble_eq_true rfl) dX12_laysShades_119 rfl ?_
              rintro _ _ ⟨rfl, rfl⟩
              refine at_if_eq 125 131 X dX12_laysShades_122 rfl (by decide) (fun h122 => ?_) (fun h122 => ?_)
              · have h122 : ¬ (isP G x = true) := ite_no.mp h122
                refine at_aload_n 132 X rfl rfl dX12_laysShades_131 rfl ?_
                refine at_aload_n 133 X rfl rfl dX12_laysShades_132 rfl ?_
                refine m_getR 136 X f_X12_113 k_125 r_125_50 dX12_laysShades_133 rfl ?_
                refine at_iload_n 137 X rfl rfl dX12_laysShades_136 rfl ?_
                refine m_aaloadV 138 X h (by omega) k_682 (by decide) (by omega) (rr_682 _ (by omega)) dX12_laysShades_137 rfl ?_
                refine at_iload 140 X rfl dX12_laysShades_138 rfl ?_
                refine m_ialoadV 141 X x (by omega) ((n : Nat) : Int) (wr_s _ _ _ _) (kr_682 _ (by omega)) (er_682 _ (by omega)) (by omega) dX12_laysShades_140 rfl ?_
                refine at_callS 144 X (ct_X12_ones hG (wr F2 (683 + h) x ((n : Nat) : Int)) n (by omega)) mo_X12_ones w_2186 so_X12_ones rfl rfl (crm Rt (by decide)) (Nat.le_of_ble_eq_true rfl) dX12_laysShades_141 rfl ?_
                rintro _ _ ⟨rfl, rfl⟩
                have := cntp_le (fun j => (n).testBit j) 24
                refine at_aload_n 145 X rfl rfl dX12_laysShades_144 rfl ?_
                refine at_aload_n 146 X rfl rfl dX12_laysShades_145 rfl ?_
                refine m_getR 149 X f_X12_113 k_125 r_125_50 dX12_laysShades_146 rfl ?_
                refine at_iload_n 150 X rfl rfl dX12_laysShades_149 rfl ?_
                refine m_aaloadV 151 X h (by omega) k_682 (by decide) (by omega) (rr_682 _ (by omega)) dX12_laysShades_150 rfl ?_
                refine at_iload 153 X rfl dX12_laysShades_151 rfl ?_
                refine m_ialoadV 154 X x (by omega) ((n : Nat) : Int) (wr_s _ _ _ _) (kr_682 _ (by omega)) (er_682 _ (by omega)) (by omega) dX12_laysShades_153 rfl ?_
                refine at_callV 157 X _ 12 (ct_X12_tallOf hG (wr F2 (683 + h) x ((n : Nat) : Int)) G hW ⟨by rw [wr_row (by omega)]; exact hp_F2.1, fun p hp => by rw [wr_row (by omega)]; exact hp_F2.2 p hp⟩ n (by omega)) clX12 rfl k_125 mo_X12_tallOf w_2189 vo_X12_tallOf.1 vo_X12_tallOf.2 rfl rfl (crm Rt (by decide)) (Nat.le_of_ble_eq_true rfl) dX12_laysShades_154 rfl ?_
                rintro _ _ ⟨rfl, rfl⟩
                have htl : talG G n ≤ 99 := talG_le G (fun p hp => (hW.2.2.1 p hp).1) _
                refine at_iload_n 158 X rfl rfl dX12_laysShades_157 rfl ?_
                refine at_iload 160 X rfl dX12_laysShades_158 rfl ?_
                refine at_if_eq 163 167 X dX12_laysShades_160 rfl (by decide) (fun h160 => ?_) (fun h160 => ?_)
                · have h160 : ¬ (gLm G x = true) := ite_no.mp h160
                  refine at_iconst 168 X (by decide) dX12_laysShades_167 rfl ?_
                  refine at_callV 171 X _ 12 (ct_X12_bearingOf hG (wr F2 (683 + h) x ((n : Nat) : Int)) (gLw G) (hlw_F2.fr hW.2.2.2.2.2.1 (by rw [wr_row (by omega)]) (fun q h1 h2 => wr_row (by omega))) hW.2.2.2.2 st hst ⟨by rw [wr_row (by omega)]; exact hK_F2.1, by rw [wr_row (by omega), wr_row (by omega)]; exact hK_F2.2⟩ (cntp (fun j => (n).testBit j) 24) (talG G n) h 0 (by omega) (by omega) (by omega) (by omega)) clX12 rfl k_125 mo_X12_bearingOf w_2077 vo_X12_bearingOf.1 vo_X12_bearingOf.2 rfl rfl (crm Rt (by decide)) (Nat.le_of_ble_eq_true rfl) dX12_laysShades_168 rfl ?_
                  rintro _ _ ⟨rfl, F6, rfl, hK_F6, hq_F6⟩
                  have hbv : borP (gLw G) ((cntp (fun j => (n).testBit j) 24 : Nat) : Int) ((talG G n : Nat) : Int) ((h : Nat) : Int) 0 = bOn G h x := by rw [bOn_n h122, hn, cnt_24 G hN11]; first | (rw [if_pos h160]; done) | (rw [if_neg h160]; done) | (rw [if_pos h160]; rfl) | (rw [if_neg h160]; rfl)
                  refine m_iastoreV 172 X x (by omega) (kr_707 _ (by omega)) (er_707 _ (by omega)) (by omega) dX12_laysShades_171 rfl ?_
                  refine at_iincV 175 X ((x + 1 : Nat) : Int) (w32_v (by omega) (by omega) (by omega)) rfl dX12_laysShades_172 rfl (by decide) ?_
                  refine at_goto 41 X dX12_laysShades_175 (by decide) ?_
                  exact at_sub _ (by exact ⟨rfl, rfl, rfl, rfl, rfl, trivial⟩) (ih41 (wr F6 (708 + h) x (borP (gLw G) ((cntp (fun j => (n).testBit j) 24 : Nat) : Int) ((talG G n : Nat) : Int) ((h : Nat) : Int) 0)) (x + 1) (by first | omega | (simp only [] at *; omega)) (by first | omega | assumption) (fun t c ht hc => by rw [wr_row (by omega), wr_row (by omega), hq_F6 (683 + t) (by omega) (by omega) (by omega) (by omega), hq_F6 (708 + t) (by omega) (by omega) (by omega) (by omega), wr_row (by omega), wr_row (by omega)]; exact hs_F2 t c ht hc) (fun c hc => if e : c = x then by subst e; rw [wr_row (by omega), wr_s, hq_F6 (683 + h) (by omega) (by omega) (by omega) (by omega), wr_s]; exact ⟨congrArg (fun q : Nat => (q : Int)) hn, hbv⟩ else by rw [wr_row (by omega), wr_o (Or.inr e), hq_F6 (683 + h) (by omega) (by omega) (by omega) (by omega), hq_F6 (708 + h) (by omega) (by omega) (by omega) (by omega), wr_o (Or.inr e), wr_row (by omega)]; exact hn_F2 c (by omega)) ⟨by rw [wr_row (by omega)]; exact hK_F6.1, by rw [wr_row (by omega), wr_row (by omega)]; exact hK_F6.2⟩ (fun q h1 h2 h3 => by rw [wr_row (by omega), hq_F6 q (by omega) (by omega) (by omega) (by omega), wr_row (by omega)]; exact hf_F2 q h1 h2 h3))
                · have h160 : (gLm G x = true) := ite_yes.mp h160
                  refine at_iconst 164 X (by decide) dX12_laysShades_163 rfl ?_
                  refine at_goto 168 X dX12_laysShades_164 (by decide) ?_
                  refine at_callV 171 X _ 12 (ct_X12_bearingOf hG (wr F2 (683 + h) x ((n : Nat) : Int)) (gLw G) (hlw_F2.fr hW.2.2.2.2.2.1 (by rw [wr_row (by omega)]) (fun q h1 h2 => wr_row (by omega))) hW.2.2.2.2 st hst ⟨by rw [wr_row (by omega)]; exact hK_F2.1, by rw [wr_row (by omega), wr_row (by omega)]; exact hK_F2.2⟩ (cntp (fun j => (n).testBit j) 24) (talG G n) h 1 (by omega) (by omega) (by omega) (by omega)) clX12 rfl k_125 mo_X12_bearingOf w_2077 vo_X12_bearingOf.1 vo_X12_bearingOf.2 rfl rfl (crm Rt (by decide)) (Nat.le_of_ble_eq_true rfl) dX12_laysShades_168 rfl ?_
                  rintro _ _ ⟨rfl, F6, rfl, hK_F6, hq_F6⟩
                  have hbv : borP (gLw G) ((cntp (fun j => (n).testBit j) 24 : Nat) : Int) ((talG G n : Nat) : Int) ((h : Nat) : Int) 1 = bOn G h x := by rw [bOn_n h122, hn, cnt_24 G hN11]; first | (rw [if_pos h160]; done) | (rw [if_neg h160]; done) | (rw [if_pos h160]; rfl) | (rw [if_neg h160]; rfl)
                  refine m_iastoreV 172 X x (by omega) (kr_707 _ (by omega)) (er_707 _ (by omega)) (by omega) dX12_laysShades_171 rfl ?_
                  refine at_iincV 175 X ((x + 1 : Nat) : Int) (w32_v (by omega) (by omega) (by omega)) rfl dX12_laysShades_172 rfl (by decide) ?_
                  refine at_goto 41 X dX12_laysShades_175 (by decide) ?_
                  exact at_sub _ (by exact ⟨rfl, rfl, rfl, rfl, rfl, trivial⟩) (ih41 (wr F6 (708 + h) x (borP (gLw G) ((cntp (fun j => (n).testBit j) 24 : Nat) : Int) ((talG G n : Nat) : Int) ((h : Nat) : Int) 1)) (x + 1) (by first | omega | (simp only [] at *; omega)) (by first | omega | assumption) (fun t c ht hc => by rw [wr_row (by omega), wr_row (by omega), hq_F6 (683 + t) (by omega) (by omega) (by omega) (by omega), hq_F6 (708 + t) (by omega) (by omega) (by omega) (by omega), wr_row (by omega), wr_row (by omega)]; exact hs_F2 t c ht hc) (fun c hc => if e : c = x then by subst e; rw [wr_row (by omega), wr_s, hq_F6 (683 + h) (by omega) (by omega) (by omega) (by omega), wr_s]; exact ⟨congrArg (fun q : Nat => (q : Int)) hn, hbv⟩ else by rw [wr_row (by omega), wr_o (Or.inr e), hq_F6 (683 + h) (by omega) (by omega) (by omega) (by omega), hq_F6 (708 + h) (by omega) (by omega) (by omega) (by omega), wr_o (Or.inr e), wr_row (by omega)]; exact hn_F2 c (by omega)) ⟨by rw [wr_row (by omega)]; exact hK_F6.1, by rw [wr_row (by omega), wr_row (by omega)]; exact hK_F6.2⟩ (fun q h1 h2 h3 => by rw [wr_row (by omega), hq_F6 q (by omega) (by omega) (by omega) (by omega), wr_row (by omega)]; exact hf_F2 q h1 h2 h3))
              · have h122 : (isP G x = true) := ite_yes.mp h122
                refine at_sipush 128 X (by decide) (by decide) dX12_laysShades_125 rfl ?_
                refine at_goto 171 X dX12_laysShades_128 (by decide) ?_
                refine m_iastoreV 172 X x (by omega) (kr_707 _ (by omega)) (er_707 _ (by omega)) (by omega) dX12_laysShades_171 rfl ?_
                refine at_iincV 175 X ((x + 1 : Nat) : Int) (w32_v (by omega) (by omega) (by omega)) rfl dX12_laysShades_172 rfl (by decide) ?_
                refine at_goto 41 X dX12_laysShades_175 (by decide) ?_
                exact at_sub _ (by exact ⟨rfl, rfl, rfl, rfl, rfl, trivial⟩) (ih41 (wr (wr F2 (683 + h) x ((n : Nat) : Int)) (708 + h) x 999) (x + 1) (by first | omega | (simp only [] at *; omega)) (by first | omega | assumption) (fun t c ht hc => by rw [wr_row (by omega), wr_row (by omega), wr_row (by omega), wr_row (by omega)]; exact hs_F2 t c ht hc) (fun c hc => if e : c = x then by subst e; rw [wr_row (by omega), wr_s, wr_s]; exact ⟨congrArg (fun q : Nat => (q : Int)) hn, (bOn_p h122).symm⟩ else by rw [wr_row (by omega), wr_o (Or.inr e), wr_o (Or.inr e), wr_row (by omega)]; exact hn_F2 c (by omega)) ⟨by rw [wr_row (by omega), wr_row (by omega)]; exact hK_F2.1, by rw [wr_row (by omega), wr_row (by omega), wr_row (by omega), wr_row (by omega)]; exact hK_F2.2⟩ (fun q h1 h2 h3 => by rw [wr_row (by omega), wr_row (by omega)]; exact hf_F2 q h1 h2 h3))
            refine at_iload_n 69 X rfl rfl dX12_laysShades_68 rfl ?_
            refine at_if_ne 72 84 X dX12_laysShades_69 rfl (by decide) (fun h69 => ?_) (fun h69 => ?_)
            · refine at_iload 86 X rfl dX12_laysShades_84 rfl ?_
              refine at_if_eq 89 106 X dX12_laysShades_86 rfl (by decide) (fun h86 => ?_) (fun h86 => ?_)
              · have h86 : ¬ (gLm G x = true) := ite_no.mp h86
                refine at_iconst 107 X (by decide) dX12_laysShades_106 rfl ?_
                exact at_sub _ (by exact ⟨rfl, rfl, rfl, rfl, rfl, rfl, trivial⟩) (J107 0 (by first | exact (shd_clear (fun q => by rw [if_pos q] at hcl; omega)).symm | exact ((congrArg (fun m => shd G m h x) h86).trans (shd_cloud hl)).symm | exact (shd_dark (Decidable.byContradiction (fun q => by rw [if_neg q] at hcl; omega)) (by first | exact Or.inr h86 | exact Or.inl (by omega))).symm))
              · have h86 : (gLm G x = true) := ite_yes.mp h86
                have hlin := lcl_in (gC G) h
                rw [hlb]
                refine at_iload_n 90 X rfl rfl dX12_laysShades_89 rfl ?_
                refine at_iconst 91 X (by decide) dX12_laysShades_90 rfl ?_
                refine at_icmp_eq 94 106 X dX12_laysShades_91 rfl (by decide) (fun h91 => ?_) (fun h91 => ?_)
                · refine at_iconst 107 X (by decide) dX12_laysShades_106 rfl ?_
                  rw [← hlb]
                  exact at_sub _ (by exact ⟨rfl, rfl, rfl, rfl, rfl, rfl, trivial⟩) (J107 0 (by first | exact (shd_clear (fun q => by rw [if_pos q] at hcl; omega)).symm | exact ((congrArg (fun m => shd G m h x) h86).trans (shd_cloud hl)).symm | exact (shd_dark (Decidable.byContradiction (fun q => by rw [if_neg q] at hcl; omega)) (by first | exact Or.inr h86 | exact Or.inl (by omega))).symm))
                · obtain ⟨l, hl⟩ : ∃ l : Nat, lcl (gC G) h = (l : Int) := ⟨(lcl (gC G) h).toNat, by omega⟩
                  rw [hl]
                  refine at_aload_n 95 X rfl rfl dX12_laysShades_94 rfl ?_
                  refine m_getR 98 X f_X12_110 k_125 r_125_49 dX12_laysShades_95 rfl ?_
                  refine at_iload_n 99 X rfl rfl dX12_laysShades_98 rfl ?_
                  refine m_aaloadV 100 X l (by omega) k_657 (by decide) (by omega) (rr_657 _ (by omega)) dX12_laysShades_99 rfl ?_
                  refine at_iload 102 X rfl dX12_laysShades_100 rfl ?_
                  refine m_ialoadV 103 X x (by omega) ((mk (fun p => shG G l p x) (gN G) : Nat) : Int) (hrw_F2 l x (by omega) (by omega)) (kr_657 _ (by omega)) (er_657 _ (by omega)) (by omega) dX12_laysShades_102 rfl ?_
                  have := mk11 (p := fun p => shG G l p x) hN11
                  refine at_goto 107 X dX12_laysShades_103 (by decide) ?_
                  rw [← hl, ← hlb]
                  exact at_sub _ (by exact ⟨rfl, rfl, rfl, rfl, rfl, rfl, trivial⟩) (J107 (mk (fun p => shG G l p x) (gN G)) (by first | exact (shd_clear (fun q => by rw [if_pos q] at hcl; omega)).symm | exact ((congrArg (fun m => shd G m h x) h86).trans (shd_cloud hl)).symm | exact (shd_dark (Decidable.byContradiction (fun q => by rw [if_neg q] at hcl; omega)) (by first | exact Or.inr h86 | exact Or.inl (by omega))).symm))
            · refine at_aload_n 73 X rfl rfl dX12_laysShades_72 rfl ?_
              refine m_getR 76 X f_X12_110 k_125 r_125_49 dX12_laysShades_73 rfl ?_
              refine at_iload_n 77 X rfl rfl dX12_laysShades_76 rfl ?_
              refine m_aaloadV 78 X h (by omega) k_657 (by decide) (by omega) (rr_657 _ (by omega)) dX12_laysShades_77 rfl ?_
              refine at_iload 80 X rfl dX12_laysShades_78 rfl ?_
              refine m_ialoadV 81 X x (by omega) ((mk (fun p => shG G h p x) (gN G) : Nat) : Int) (hrw_F2 h x (by omega) (by omega)) (kr_657 _ (by omega)) (er_657 _ (by omega)) (by omega) dX12_laysShades_80 rfl ?_
              have := mk11 (p := fun p => shG G h p x) hN11
              refine at_goto 107 X dX12_laysShades_81 (by decide) ?_
              exact at_sub _ (by exact ⟨rfl, rfl, rfl, rfl, rfl, rfl, trivial⟩) (J107 (mk (fun p => shG G h p x) (gN G)) (by first | exact (shd_clear (fun q => by rw [if_pos q] at hcl; omega)).symm | exact ((congrArg (fun m => shd G m h x) h86).trans (shd_cloud hl)).symm | exact (shd_dark (Decidable.byContradiction (fun q => by rw [if_neg q] at hcl; omega)) (by first | exact Or.inr h86 | exact Or.inl (by omega))).symm))
        exact at_sub _ (by exact ⟨rfl, rfl, rfl, rfl, rfl, trivial⟩) (J41 _ F 0 (Nat.lt_succ_self _) (by first | omega | assumption | rfl) hs_F (fun c hc => absurd hc (Nat.not_lt_zero c)) hK_F hf_F)
      refine at_aload_n 11 X rfl rfl dX12_laysShades_10 rfl ?_
      refine m_getIV 14 X ((mk (gC G) 24 : Nat) : Int) hc_F f_X12_339 k_125 rn_125_54 dX12_laysShades_11 rfl ?_
      have := mk24 (p := gC G) (Nat.le_refl 24)
      refine at_iload_n 15 X rfl rfl dX12_laysShades_14 rfl ?_
      refine at_ishrV 16 X (ishr ((mk (gC G) 24 : Nat) : Int) ((h : Nat) : Int)) rfl dX12_laysShades_15 rfl ?_
      refine at_iconst 17 X (by decide) dX12_laysShades_16 rfl ?_
      refine at_iandV 18 X (if gC G h = true then 1 else 0) ((ibit (by omega) (by omega)).trans (by rw [mk_in (by omega)])) dX12_laysShades_17 rfl ?_
      refine at_iconst 19 X (by decide) dX12_laysShades_18 rfl ?_
      refine at_icmp_ne 22 26 X dX12_laysShades_19 rfl (by decide) (fun h19 => ?_) (fun h19 => ?_)
      · have hC : ¬ gC G h = true := fun q => h19 (by rw [if_pos q])
        refine at_iconst 27 X (by decide) dX12_laysShades_26 rfl ?_
        refine at_istore_n 28 X rfl dX12_laysShades_27 rfl (by decide) ?_
        refine at_iload_n 29 X rfl rfl dX12_laysShades_28 rfl ?_
        refine at_if_eq 32 36 X dX12_laysShades_29 rfl (by decide) (fun h29 => ?_) (fun h29 => ?_)
        · refine at_iload_n 37 X rfl rfl dX12_laysShades_36 rfl ?_
          refine at_istore_n 38 X rfl dX12_laysShades_37 rfl (by decide) ?_
          exact at_sub _ (by exact ⟨rfl, rfl, rfl, rfl, trivial⟩) (J38 0 ((h : Nat) : Int) (by first | (rw [if_pos hC]; done) | (rw [if_neg hC]; done)) (by unfold lcl; rw [itr_s]; first | (rw [if_pos hC]; exact hla) | (rw [if_neg hC]; done)))
        · exact absurd h29 (by decide)
      · have hC : gC G h = true := Decidable.byContradiction (fun q => by rw [if_neg q] at h19; exact absurd h19 (by decide))
        refine at_iconst 23 X (by decide) dX12_laysShades_22 rfl ?_
        refine at_goto 27 X dX12_laysShades_23 (by decide) ?_
        refine at_istore_n 28 X rfl dX12_laysShades_27 rfl (by decide) ?_
        refine at_iload_n 29 X rfl rfl dX12_laysShades_28 rfl ?_
        refine at_if_eq 32 36 X dX12_laysShades_29 rfl (by decide) (fun h29 => ?_) (fun h29 => ?_)
        · exact absurd h29 (by decide)
        · refine at_iload_n 33 X rfl rfl dX12_laysShades_32 rfl ?_
          refine at_goto 37 X dX12_laysShades_33 (by decide) ?_
          refine at_istore_n 38 X rfl dX12_laysShades_37 rfl (by decide) ?_
          exact at_sub _ (by exact ⟨rfl, rfl, rfl, rfl, trivial⟩) (J38 1 la (by first | (rw [if_pos hC]; done) | (rw [if_neg hC]; done)) (by unfold lcl; rw [itr_s]; first | (rw [if_pos hC]; exact hla) | (rw [if_neg hC]; done)))
  exact at_sub _ (by exact ⟨rfl, rfl, rfl, trivial⟩) (J4 _ E 0 (-1) (Nat.lt_succ_self _) (by first | omega | assumption | rfl) rfl (fun t c ht => absurd ht (Nat.not_lt_zero t)) hK_E (fun _ _ _ _ => rfl))
