/-- as the reference writes what is yet to be carried: none is -1 -/
def nvC (n : Nat) : Int := if 1000000 ≤ n then -1 else n
def nxC (f : Nat → Nat) (l : Prop) [Decidable l] (y : Nat) : Int := if l then 0 else nvC (f y)
def mvC (f : Nat → Nat) (x : Nat) (l : Prop) [Decidable l] (y : Nat) : Int := if l then (if y = 0 then -1 else 0) else nvC (chN f x y)
def dvC (l : Prop) [Decidable l] (x y : Nat) : Int := if l then 0 else (dst x y : Nat)
theorem chN_s (f : Nat → Nat) (a y : Nat) : chN f a (y + 1) = if chN f a y ≤ csN a y (f y) then chN f a y else csN a y (f y) := rfl
theorem mvC_s {f : Nat → Nat} {x y : Nat} {l : Prop} [Decidable l] (hf : f y = 1000000 ∨ f y ≤ 960) (hd : dst x y ≤ 40) : mvC f x l (y + 1) = if nxC f l y = -1 then mvC f x l y else if mvC f x l y = -1 ∨ nxC f l y + dvC l x y < mvC f x l y then nxC f l y + dvC l x y else mvC f x l y := by
  have hc := chN_le f x y
  unfold mvC nxC dvC
  by_cases e : l
  · simp only [if_pos e]
    rw [if_neg (by omega), if_neg (by decide)]
    by_cases c : y = 0
    · rw [if_pos c, if_pos (Or.inl rfl)]; rfl
    · rw [if_neg c, if_neg (by decide)]
  · simp only [if_neg e]
    rw [chN_s]
    unfold nvC csN
    rcases hf with h | h
    · have e1 : (if 1000000 ≤ dst x y + 1000000 then 1000000 else dst x y + 1000000) = 1000000 := if_pos (by omega)
      rw [h, e1, if_pos hc, if_pos (show (if 1000000 ≤ 1000000 then (-1 : Int) else ((1000000 : Nat) : Int)) = -1 from if_pos (Nat.le_refl _))]
    · rw [if_neg (show ¬ 1000000 ≤ f y by omega), if_neg (show ¬ ((f y : Nat) : Int) = -1 by omega), if_neg (show ¬ 1000000 ≤ dst x y + f y by omega)]
      by_cases c : chN f x y ≤ dst x y + f y
      · rw [if_pos c, if_neg (show ¬ 1000000 ≤ chN f x y by omega), if_neg (by omega)]
      · rw [if_neg c, if_neg (show ¬ 1000000 ≤ dst x y + f y by omega)]
        by_cases c2 : 1000000 ≤ chN f x y
        · rw [if_pos c2, if_pos (Or.inl rfl)]; omega
        · rw [if_neg c2, if_pos (Or.inr (by omega))]; omega
theorem chN_fin {f : Nat → Nat} {a B : Nat} (hB : B ≤ 920) : ∀ {n : Nat}, a + n ≤ 80 → a ≤ 40 → n ≤ 40 → (∀ y, y < n → f y = 1000000 ∨ f y ≤ B) → chN f a n = 1000000 ∨ chN f a n ≤ B + 40
  | 0, _, _, _, _ => Or.inl rfl
  | n + 1, h1, h2, h3, h => by
    have k := chN_fin hB (n := n) (by omega) h2 (by omega) (fun y hy => h y (by omega))
    have hd : dst a n ≤ 40 := by unfold dst; split <;> omega
    rw [chN_s]
    unfold csN
    rcases h n (by omega) with e | e
    · rw [e, if_pos (show 1000000 ≤ dst a n + 1000000 by omega), if_pos (chN_le f a n)]; exact k
    · rw [if_neg (show ¬ 1000000 ≤ dst a n + f n by omega)]
      split <;> omega
theorem crk_fin {G : GP} {B : BM} {b last : Nat} (hl : gW G + 1 - bL B b ≤ 40) : ∀ {k x : Nat}, k ≤ 23 → x ≤ 40 → crk G B b last k x = 1000000 ∨ crk G B b last k x ≤ 40 * k
  | 0, x, _, _ => by
    show (if stP G B b x last then 0 else 1000000) = 1000000 ∨ (if stP G B b x last then 0 else 1000000) ≤ 40 * 0
    split
    · exact Or.inr (Nat.le_refl _)
    · exact Or.inl rfl
  | k + 1, x, h, hx => by
    show (if stP G B b x (last - (k + 1)) then chN (crk G B b last k) x (gW G + 1 - bL B b) else 1000000) = 1000000 ∨ (if stP G B b x (last - (k + 1)) then chN (crk G B b last k) x (gW G + 1 - bL B b) else 1000000) ≤ 40 * (k + 1)
    have := chN_fin (f := crk G B b last k) (a := x) (B := 40 * k) (by omega) (n := gW G + 1 - bL B b) (by omega) hx hl (fun y hy => crk_fin hl (k := k) (by omega) (by omega))
    split
    · omega
    · exact Or.inl rfl
theorem dX12_laysCarries_0 : decode cX12_laysCarries 0 = .ok (.iconst 0, 1) := by decide +kernel
theorem dX12_laysCarries_1 : decode cX12_laysCarries 1 = .ok (.istore 4, 2) := by decide +kernel
theorem dX12_laysCarries_3 : decode cX12_laysCarries 3 = .ok (.iload 4, 2) := by decide +kernel
theorem dX12_laysCarries_5 : decode cX12_laysCarries 5 = .ok (.aload_n 0, 1) := by decide +kernel
theorem dX12_laysCarries_6 : decode cX12_laysCarries 6 = .ok (.iload_n 1, 1) := by decide +kernel
theorem dX12_laysCarries_7 : decode cX12_laysCarries 7 = .ok (.invokevirtual 410, 3) := by decide +kernel
theorem dX12_laysCarries_10 : decode cX12_laysCarries 10 = .ok (.if_icmp .ge 21, 3) := by decide +kernel
theorem dX12_laysCarries_13 : decode cX12_laysCarries 13 = .ok (.aload_n 0, 1) := by decide +kernel
theorem dX12_laysCarries_14 : decode cX12_laysCarries 14 = .ok (.getfield 136, 3) := by decide +kernel
theorem dX12_laysCarries_17 : decode cX12_laysCarries 17 = .ok (.iload_n 3, 1) := by decide +kernel
theorem dX12_laysCarries_18 : decode cX12_laysCarries 18 = .ok (.iconst 1, 1) := by decide +kernel
theorem dX12_laysCarries_19 : decode cX12_laysCarries 19 = .ok (.iadd, 1) := by decide +kernel
theorem dX12_laysCarries_20 : decode cX12_laysCarries 20 = .ok (.aaload, 1) := by decide +kernel
theorem dX12_laysCarries_21 : decode cX12_laysCarries 21 = .ok (.iload 4, 2) := by decide +kernel
theorem dX12_laysCarries_23 : decode cX12_laysCarries 23 = .ok (.iconst 0, 1) := by decide +kernel
theorem dX12_laysCarries_24 : decode cX12_laysCarries 24 = .ok (.iastore, 1) := by decide +kernel
theorem dX12_laysCarries_25 : decode cX12_laysCarries 25 = .ok (.iinc 4 1, 3) := by decide +kernel
theorem dX12_laysCarries_28 : decode cX12_laysCarries 28 = .ok (.goto (-25), 3) := by decide +kernel
theorem dX12_laysCarries_31 : decode cX12_laysCarries 31 = .ok (.iload_n 3, 1) := by decide +kernel
theorem dX12_laysCarries_32 : decode cX12_laysCarries 32 = .ok (.istore 4, 2) := by decide +kernel
theorem dX12_laysCarries_34 : decode cX12_laysCarries 34 = .ok (.iload 4, 2) := by decide +kernel
theorem dX12_laysCarries_36 : decode cX12_laysCarries 36 = .ok (.iload_n 2, 1) := by decide +kernel
theorem dX12_laysCarries_37 : decode cX12_laysCarries 37 = .ok (.if_icmp .lt 184, 3) := by decide +kernel
theorem dX12_laysCarries_40 : decode cX12_laysCarries 40 = .ok (.iconst 0, 1) := by decide +kernel
theorem dX12_laysCarries_41 : decode cX12_laysCarries 41 = .ok (.istore 5, 2) := by decide +kernel
theorem dX12_laysCarries_43 : decode cX12_laysCarries 43 = .ok (.iload 5, 2) := by decide +kernel
theorem dX12_laysCarries_45 : decode cX12_laysCarries 45 = .ok (.aload_n 0, 1) := by decide +kernel
theorem dX12_laysCarries_46 : decode cX12_laysCarries 46 = .ok (.iload_n 1, 1) := by decide +kernel
theorem dX12_laysCarries_47 : decode cX12_laysCarries 47 = .ok (.invokevirtual 410, 3) := by decide +kernel
theorem dX12_laysCarries_50 : decode cX12_laysCarries 50 = .ok (.if_icmp .ge 165, 3) := by decide +kernel
theorem dX12_laysCarries_53 : decode cX12_laysCarries 53 = .ok (.aload_n 0, 1) := by decide +kernel
theorem dX12_laysCarries_54 : decode cX12_laysCarries 54 = .ok (.getfield 136, 3) := by decide +kernel
theorem dX12_laysCarries_57 : decode cX12_laysCarries 57 = .ok (.iload 4, 2) := by decide +kernel
theorem dX12_laysCarries_59 : decode cX12_laysCarries 59 = .ok (.aaload, 1) := by decide +kernel
theorem dX12_laysCarries_60 : decode cX12_laysCarries 60 = .ok (.iload 5, 2) := by decide +kernel
theorem dX12_laysCarries_62 : decode cX12_laysCarries 62 = .ok (.iconst (-1), 1) := by decide +kernel
theorem dX12_laysCarries_63 : decode cX12_laysCarries 63 = .ok (.iastore, 1) := by decide +kernel
theorem dX12_laysCarries_64 : decode cX12_laysCarries 64 = .ok (.aload_n 0, 1) := by decide +kernel
theorem dX12_laysCarries_65 : decode cX12_laysCarries 65 = .ok (.iload_n 1, 1) := by decide +kernel
theorem dX12_laysCarries_66 : decode cX12_laysCarries 66 = .ok (.iload 5, 2) := by decide +kernel
theorem dX12_laysCarries_68 : decode cX12_laysCarries 68 = .ok (.iload 4, 2) := by decide +kernel
theorem dX12_laysCarries_70 : decode cX12_laysCarries 70 = .ok (.invokevirtual 413, 3) := by decide +kernel
theorem dX12_laysCarries_73 : decode cX12_laysCarries 73 = .ok (.ifCond .ne 6, 3) := by decide +kernel
theorem dX12_laysCarries_76 : decode cX12_laysCarries 76 = .ok (.goto 133, 3) := by decide +kernel
theorem dX12_laysCarries_79 : decode cX12_laysCarries 79 = .ok (.iconst 0, 1) := by decide +kernel
theorem dX12_laysCarries_80 : decode cX12_laysCarries 80 = .ok (.istore 6, 2) := by decide +kernel
theorem dX12_laysCarries_82 : decode cX12_laysCarries 82 = .ok (.iload 6, 2) := by decide +kernel
theorem dX12_laysCarries_84 : decode cX12_laysCarries 84 = .ok (.aload_n 0, 1) := by decide +kernel
theorem dX12_laysCarries_85 : decode cX12_laysCarries 85 = .ok (.iload_n 1, 1) := by decide +kernel
theorem dX12_laysCarries_86 : decode cX12_laysCarries 86 = .ok (.invokevirtual 410, 3) := by decide +kernel
theorem dX12_laysCarries_89 : decode cX12_laysCarries 89 = .ok (.if_icmp .ge 120, 3) := by decide +kernel
theorem dX12_laysCarries_92 : decode cX12_laysCarries 92 = .ok (.aload_n 0, 1) := by decide +kernel
theorem dX12_laysCarries_93 : decode cX12_laysCarries 93 = .ok (.getfield 136, 3) := by decide +kernel
theorem dX12_laysCarries_96 : decode cX12_laysCarries 96 = .ok (.iload 4, 2) := by decide +kernel
theorem dX12_laysCarries_98 : decode cX12_laysCarries 98 = .ok (.iconst 1, 1) := by decide +kernel
theorem dX12_laysCarries_99 : decode cX12_laysCarries 99 = .ok (.iadd, 1) := by decide +kernel
theorem dX12_laysCarries_100 : decode cX12_laysCarries 100 = .ok (.aaload, 1) := by decide +kernel
theorem dX12_laysCarries_101 : decode cX12_laysCarries 101 = .ok (.iload 6, 2) := by decide +kernel
theorem dX12_laysCarries_103 : decode cX12_laysCarries 103 = .ok (.iaload, 1) := by decide +kernel
theorem dX12_laysCarries_104 : decode cX12_laysCarries 104 = .ok (.iconst (-1), 1) := by decide +kernel
theorem dX12_laysCarries_105 : decode cX12_laysCarries 105 = .ok (.if_icmp .ne 6, 3) := by decide +kernel
theorem dX12_laysCarries_108 : decode cX12_laysCarries 108 = .ok (.goto 95, 3) := by decide +kernel
theorem dX12_laysCarries_111 : decode cX12_laysCarries 111 = .ok (.aload_n 0, 1) := by decide +kernel
theorem dX12_laysCarries_112 : decode cX12_laysCarries 112 = .ok (.getfield 136, 3) := by decide +kernel
theorem dX12_laysCarries_115 : decode cX12_laysCarries 115 = .ok (.iload 4, 2) := by decide +kernel
theorem dX12_laysCarries_117 : decode cX12_laysCarries 117 = .ok (.iconst 1, 1) := by decide +kernel
theorem dX12_laysCarries_118 : decode cX12_laysCarries 118 = .ok (.iadd, 1) := by decide +kernel
theorem dX12_laysCarries_119 : decode cX12_laysCarries 119 = .ok (.aaload, 1) := by decide +kernel
theorem dX12_laysCarries_120 : decode cX12_laysCarries 120 = .ok (.iload 6, 2) := by decide +kernel
theorem dX12_laysCarries_122 : decode cX12_laysCarries 122 = .ok (.iaload, 1) := by decide +kernel
theorem dX12_laysCarries_123 : decode cX12_laysCarries 123 = .ok (.iload 4, 2) := by decide +kernel
theorem dX12_laysCarries_125 : decode cX12_laysCarries 125 = .ok (.iload_n 3, 1) := by decide +kernel
theorem dX12_laysCarries_126 : decode cX12_laysCarries 126 = .ok (.if_icmp .ne 7, 3) := by decide +kernel
theorem dX12_laysCarries_129 : decode cX12_laysCarries 129 = .ok (.iconst 0, 1) := by decide +kernel
theorem dX12_laysCarries_130 : decode cX12_laysCarries 130 = .ok (.goto 16, 3) := by decide +kernel
theorem dX12_laysCarries_133 : decode cX12_laysCarries 133 = .ok (.iload 5, 2) := by decide +kernel
theorem dX12_laysCarries_135 : decode cX12_laysCarries 135 = .ok (.iload 6, 2) := by decide +kernel
theorem dX12_laysCarries_137 : decode cX12_laysCarries 137 = .ok (.isub, 1) := by decide +kernel
theorem dX12_laysCarries_138 : decode cX12_laysCarries 138 = .ok (.iload 6, 2) := by decide +kernel
theorem dX12_laysCarries_140 : decode cX12_laysCarries 140 = .ok (.iload 5, 2) := by decide +kernel
theorem dX12_laysCarries_142 : decode cX12_laysCarries 142 = .ok (.isub, 1) := by decide +kernel
theorem dX12_laysCarries_143 : decode cX12_laysCarries 143 = .ok (.invokestatic 304, 3) := by decide +kernel
theorem dX12_laysCarries_146 : decode cX12_laysCarries 146 = .ok (.iadd, 1) := by decide +kernel
theorem dX12_laysCarries_147 : decode cX12_laysCarries 147 = .ok (.istore 7, 2) := by decide +kernel
theorem dX12_laysCarries_149 : decode cX12_laysCarries 149 = .ok (.aload_n 0, 1) := by decide +kernel
theorem dX12_laysCarries_150 : decode cX12_laysCarries 150 = .ok (.getfield 136, 3) := by decide +kernel
theorem dX12_laysCarries_153 : decode cX12_laysCarries 153 = .ok (.iload 4, 2) := by decide +kernel
theorem dX12_laysCarries_155 : decode cX12_laysCarries 155 = .ok (.aaload, 1) := by decide +kernel
theorem dX12_laysCarries_156 : decode cX12_laysCarries 156 = .ok (.iload 5, 2) := by decide +kernel
theorem dX12_laysCarries_158 : decode cX12_laysCarries 158 = .ok (.aload_n 0, 1) := by decide +kernel
theorem dX12_laysCarries_159 : decode cX12_laysCarries 159 = .ok (.getfield 136, 3) := by decide +kernel
theorem dX12_laysCarries_162 : decode cX12_laysCarries 162 = .ok (.iload 4, 2) := by decide +kernel
theorem dX12_laysCarries_164 : decode cX12_laysCarries 164 = .ok (.aaload, 1) := by decide +kernel
theorem dX12_laysCarries_165 : decode cX12_laysCarries 165 = .ok (.iload 5, 2) := by decide +kernel
theorem dX12_laysCarries_167 : decode cX12_laysCarries 167 = .ok (.iaload, 1) := by decide +kernel
theorem dX12_laysCarries_168 : decode cX12_laysCarries 168 = .ok (.iconst (-1), 1) := by decide +kernel
theorem dX12_laysCarries_169 : decode cX12_laysCarries 169 = .ok (.if_icmp .eq 18, 3) := by decide +kernel
theorem dX12_laysCarries_172 : decode cX12_laysCarries 172 = .ok (.iload 7, 2) := by decide +kernel
theorem dX12_laysCarries_174 : decode cX12_laysCarries 174 = .ok (.aload_n 0, 1) := by decide +kernel
theorem dX12_laysCarries_175 : decode cX12_laysCarries 175 = .ok (.getfield 136, 3) := by decide +kernel
theorem dX12_laysCarries_178 : decode cX12_laysCarries 178 = .ok (.iload 4, 2) := by decide +kernel
theorem dX12_laysCarries_180 : decode cX12_laysCarries 180 = .ok (.aaload, 1) := by decide +kernel
theorem dX12_laysCarries_181 : decode cX12_laysCarries 181 = .ok (.iload 5, 2) := by decide +kernel
theorem dX12_laysCarries_183 : decode cX12_laysCarries 183 = .ok (.iaload, 1) := by decide +kernel
theorem dX12_laysCarries_184 : decode cX12_laysCarries 184 = .ok (.if_icmp .ge 8, 3) := by decide +kernel
theorem dX12_laysCarries_187 : decode cX12_laysCarries 187 = .ok (.iload 7, 2) := by decide +kernel
theorem dX12_laysCarries_189 : decode cX12_laysCarries 189 = .ok (.goto 13, 3) := by decide +kernel
theorem dX12_laysCarries_192 : decode cX12_laysCarries 192 = .ok (.aload_n 0, 1) := by decide +kernel
theorem dX12_laysCarries_193 : decode cX12_laysCarries 193 = .ok (.getfield 136, 3) := by decide +kernel
theorem dX12_laysCarries_196 : decode cX12_laysCarries 196 = .ok (.iload 4, 2) := by decide +kernel
theorem dX12_laysCarries_198 : decode cX12_laysCarries 198 = .ok (.aaload, 1) := by decide +kernel
theorem dX12_laysCarries_199 : decode cX12_laysCarries 199 = .ok (.iload 5, 2) := by decide +kernel
theorem dX12_laysCarries_201 : decode cX12_laysCarries 201 = .ok (.iaload, 1) := by decide +kernel
theorem dX12_laysCarries_202 : decode cX12_laysCarries 202 = .ok (.iastore, 1) := by decide +kernel
theorem dX12_laysCarries_203 : decode cX12_laysCarries 203 = .ok (.iinc 6 1, 3) := by decide +kernel
theorem dX12_laysCarries_206 : decode cX12_laysCarries 206 = .ok (.goto (-124), 3) := by decide +kernel
theorem dX12_laysCarries_209 : decode cX12_laysCarries 209 = .ok (.iinc 5 1, 3) := by decide +kernel
theorem dX12_laysCarries_212 : decode cX12_laysCarries 212 = .ok (.goto (-169), 3) := by decide +kernel
theorem dX12_laysCarries_215 : decode cX12_laysCarries 215 = .ok (.iinc 4 (-1), 3) := by decide +kernel
theorem dX12_laysCarries_218 : decode cX12_laysCarries 218 = .ok (.goto (-184), 3) := by decide +kernel
theorem dX12_laysCarries_221 : decode cX12_laysCarries 221 = .ok (.return_, 1) := by decide +kernel
theorem ct_X12_laysCarries {g : Gw} (hG : GF g) {z : Bool} (E : Mm) (P : SP) (Q : RX) (hP : WS P) (hR_E : RTS E P Q) (G : GP) (hgw : gW G = sW P) (hbr : ∀ h, h < 24 → ∀ c, c < sW P → E (708 + h) c = bOn G h c) (b f t : Nat) (hb : b < bN (sB P)) (hl : bL (sB P) b ≤ sW P) (hft : f ≤ t) (ht : t < 24) : CT g yX12_laysCarries cX12_laysCarries 8 none 2 48 0 0 K2 z [mR 125, mI ((b : Nat) : Int), mI ((f : Nat) : Int), mI ((t : Nat) : Int)] (ov E) K2 z (fun r D' => r = none ∧ ∃ E1, D' = ov E1 ∧ (∀ y x : Nat, f ≤ y → y ≤ t → x < (sW P + 1 - bL (sB P) b) → E1 (786 + y) x = nvC (crk G (sB P) b t (t - y) x)) ∧ (∀ q, ¬ (786 ≤ q ∧ q ≤ 810) → E1 q = E q)) := by
  refine CT.mk hG (by decide +kernel) (Nat.le_of_ble_eq_true rfl) (fun κ X Rt _ ok => ?_)
  have hN8 := hP.B.N
  have hW40 := hP.W
  have hlb := hP.B.L (b := b) hb
  refine at_iconst 1 X (by decide) dX12_laysCarries_0 rfl ?_
  refine at_istore 3 X dX12_laysCarries_1 rfl (by decide) ?_
  have J3 : ∀ (f3 : Nat) (F0 : Mm) (x : Nat), 42 - x < f3 → (x ≤ (sW P + 1 - bL (sB P) b)) → ((∀ z : Nat, z < x → F0 (786 + (t + 1)) z = 0)) → ((∀ q, ¬ (786 ≤ q ∧ q ≤ 810) → F0 q = E q)) → AT g κ K2 z 0 0 3 [(0, mR 125), (1, mI ((b : Nat) : Int)), (2, mI ((f : Nat) : Int)), (3, mI ((t : Nat) : Int)), (4, mI ((x : Nat) : Int))] [] (ov F0) := by
    intro f3
    induction f3 with
    | zero => intro F0 x hf3; omega
    | succ f3 ih3 =>
    intro F0 x hf3 hx hz0 hq_F0
    refine at_iload 5 X rfl dX12_laysCarries_3 rfl ?_
    have hR_F0 : RTS F0 P Q := hR_E.fr (fun q hq => hq_F0 q (by omega)) hP
    have hbr_F0 : ∀ h, h < 24 → ∀ c, c < sW P → F0 (708 + h) c = bOn G h c := fun h hh c hc => by rw [hq_F0 (708 + h) (by omega)]; exact hbr h hh c hc
    refine at_aload_n 6 X rfl rfl dX12_laysCarries_5 rfl ?_
    refine at_iload_n 7 X rfl rfl dX12_laysCarries_6 rfl ?_
    refine at_callV 10 X _ 12 (ct_X12_endsOf hG F0 P Q hP hR_F0 b hb hl) clX12 rfl k_125 mo_X12_endsOf w_2269 vo_X12_endsOf.1 vo_X12_endsOf.2 rfl rfl (crm Rt (by decide)) (Nat.le_of_ble_eq_true rfl) dX12_laysCarries_7 rfl ?_
    rintro _ _ ⟨rfl, rfl⟩
    refine at_icmp_ge 13 31 X dX12_laysCarries_10 rfl (by decide) (fun h10 => ?_) (fun h10 => ?_)
    · refine at_iload_n 32 X rfl rfl dX12_laysCarries_31 rfl ?_
      refine at_istore 34 X dX12_laysCarries_32 rfl (by decide) ?_
      have J34 : ∀ (f34 : Nat) (F : Mm) (hr : Int), (hr + 1).toNat < f34 → ((f : Int) - 1 ≤ hr ∧ hr ≤ t) → ((∀ y x : Nat, hr < (y : Int) → y ≤ t → x < (sW P + 1 - bL (sB P) b) → F (786 + y) x = nvC (crk G (sB P) b t (t - y) x))) → ((∀ x : Nat, x < (sW P + 1 - bL (sB P) b) → F (786 + (t + 1)) x = 0)) → ((∀ q, ¬ (786 ≤ q ∧ q ≤ 810) → F q = E q)) → AT g κ K2 z 0 0 34 [(0, mR 125), (1, mI ((b : Nat) : Int)), (2, mI ((f : Nat) : Int)), (3, mI ((t : Nat) : Int)), (4, mI hr)] [] (ov F) := by
        intro f34
        induction f34 with
        | zero => intro F hr hf34; omega
        | succ f34 ih34 =>
        intro F hr hf34 hh hrw_F hz_F hq_F
        refine at_iload 36 X rfl dX12_laysCarries_34 rfl ?_
        refine at_iload_n 37 X rfl rfl dX12_laysCarries_36 rfl ?_
        refine at_icmp_lt 40 221 X dX12_laysCarries_37 rfl (by decide) (fun h37 => ?_) (fun h37 => ?_)
        · refine at_vret X Rt ?_ (Nat.le_refl _) (Nat.le_refl _) dX12_laysCarries_221
          exact ⟨rfl, F, rfl, fun y z h1 h2 h3 => hrw_F y z (by omega) h2 h3, hq_F⟩
        · obtain ⟨h, rfl⟩ : ∃ h : Nat, hr = (h : Int) := ⟨hr.toNat, by omega⟩
          refine at_iconst 41 X (by decide) dX12_laysCarries_40 rfl ?_
          refine at_istore 43 X dX12_laysCarries_41 rfl (by decide) ?_
          have J43 : ∀ (f43 : Nat) (F2 : Mm) (x : Nat), 42 - x < f43 → (x ≤ (sW P + 1 - bL (sB P) b)) → ((∀ y x : Nat, h < y → y ≤ t → x < (sW P + 1 - bL (sB P) b) → F2 (786 + y) x = nvC (crk G (sB P) b t (t - y) x))) → ((∀ z : Nat, z < x → F2 (786 + h) z = nvC (crk G (sB P) b t (t - h) z))) → ((∀ x : Nat, x < (sW P + 1 - bL (sB P) b) → F2 (786 + (t + 1)) x = 0)) → ((∀ q, ¬ (786 ≤ q ∧ q ≤ 810) → F2 q = E q)) → AT g κ K2 z 0 0 43 [(0, mR 125), (1, mI ((b : Nat) : Int)), (2, mI ((f : Nat) : Int)), (3, mI ((t : Nat) : Int)), (4, mI ((h : Nat) : Int)), (5, mI ((x : Nat) : Int))] [] (ov F2) := by
            intro f43
            induction f43 with
            | zero => intro F2 x hf43; omega
            | succ f43 ih43 =>
            intro F2 x hf43 hx hrw_F2 hrn_F2 hz_F2 hq_F2
            refine at_iload 45 X rfl dX12_laysCarries_43 rfl ?_
            have hR_F2 : RTS F2 P Q := hR_E.fr (fun q hq => hq_F2 q (by omega)) hP
            have hbr_F2 : ∀ h, h < 24 → ∀ c, c < sW P → F2 (708 + h) c = bOn G h c := fun h hh c hc => by rw [hq_F2 (708 + h) (by omega)]; exact hbr h hh c hc
            refine at_aload_n 46 X rfl rfl dX12_laysCarries_45 rfl ?_
            refine at_iload_n 47 X rfl rfl dX12_laysCarries_46 rfl ?_
            refine at_callV 50 X _ 12 (ct_X12_endsOf hG F2 P Q hP hR_F2 b hb hl) clX12 rfl k_125 mo_X12_endsOf w_2269 vo_X12_endsOf.1 vo_X12_endsOf.2 rfl rfl (crm Rt (by decide)) (Nat.le_of_ble_eq_true rfl) dX12_laysCarries_47 rfl ?_
            rintro _ _ ⟨rfl, rfl⟩
            refine at_icmp_ge 53 215 X dX12_laysCarries_50 rfl (by decide) (fun h50 => ?_) (fun h50 => ?_)
            · refine at_iincV 218 X (((h : Nat) : Int) - 1) (w32_v (by omega) (by omega) (by omega)) rfl dX12_laysCarries_215 rfl (by decide) ?_
              refine at_goto 34 X dX12_laysCarries_218 (by decide) ?_
              exact at_sub _ (by exact ⟨rfl, rfl, rfl, rfl, rfl, trivial⟩) (ih34 F2 (((h : Nat) : Int) - 1) (by first | omega | (simp only [] at *; omega)) (by omega) (fun y z h1 h2 h3 => if e : y = h then by rw [e]; exact hrn_F2 z (by omega) else hrw_F2 y z (by omega) h2 h3) hz_F2 hq_F2)
            · refine at_aload_n 54 X rfl rfl dX12_laysCarries_53 rfl ?_
              refine m_getR 57 X f_X12_136 k_125 r_125_61 dX12_laysCarries_54 rfl ?_
              refine at_iload 59 X rfl dX12_laysCarries_57 rfl ?_
              refine m_aaloadV 60 X h (by omega) k_785 (by decide) (by omega) (rr_785 _ (by omega)) dX12_laysCarries_59 rfl ?_
              refine at_iload 62 X rfl dX12_laysCarries_60 rfl ?_
              refine at_iconst 63 X (by decide) dX12_laysCarries_62 rfl ?_
              refine m_iastoreV 64 X x (by omega) (kr_785 _ (by omega)) (er_785 _ (by omega)) (by omega) dX12_laysCarries_63 rfl ?_
              refine at_aload_n 65 X rfl rfl dX12_laysCarries_64 rfl ?_
              refine at_iload_n 66 X rfl rfl dX12_laysCarries_65 rfl ?_
              refine at_iload 68 X rfl dX12_laysCarries_66 rfl ?_
              refine at_iload 70 X rfl dX12_laysCarries_68 rfl ?_
              refine at_callV 73 X _ 12 (ct_X12_standsAt hG (wr F2 (786 + h) x (-1)) P Q hP (hR_F2.fr (fun q hq => wr_row (by omega)) hP) G hgw b x h (by omega) (fun c hc => by rw [wr_row (by omega)]; exact hbr_F2 h (by omega) c hc) hb (by omega)) clX12 rfl k_125 mo_X12_standsAt w_2273 vo_X12_standsAt.1 vo_X12_standsAt.2 rfl rfl (crm Rt (by decide)) (Nat.le_of_ble_eq_true rfl) dX12_laysCarries_70 rfl ?_
              rintro _ _ ⟨rfl, rfl⟩
              refine at_if_ne 76 79 X dX12_laysCarries_73 rfl (by decide) (fun h73 => ?_) (fun h73 => ?_)
              · have h73 : (stP G (sB P) b x h = true) := ite_yes.mp h73
                refine at_iconst 80 X (by decide) dX12_laysCarries_79 rfl ?_
                refine at_istore 82 X dX12_laysCarries_80 rfl (by decide) ?_
                have J82 : ∀ (f82 : Nat) (F3 : Mm) (y : Nat), 42 - y < f82 → (y ≤ (sW P + 1 - bL (sB P) b)) → ((∀ y x : Nat, h < y → y ≤ t → x < (sW P + 1 - bL (sB P) b) → F3 (786 + y) x = nvC (crk G (sB P) b t (t - y) x))) → ((∀ z : Nat, z < x → F3 (786 + h) z = nvC (crk G (sB P) b t (t - h) z))) → (F3 (786 + h) x = mvC (crk G (sB P) b t (t - (h + 1))) x (h = t) y) → ((∀ x : Nat, x < (sW P + 1 - bL (sB P) b) → F3 (786 + (t + 1)) x = 0)) → ((∀ q, ¬ (786 ≤ q ∧ q ≤ 810) → F3 q = E q)) → AT g κ K2 z 0 0 82 [(0, mR 125), (1, mI ((b : Nat) : Int)), (2, mI ((f : Nat) : Int)), (3, mI ((t : Nat) : Int)), (4, mI ((h : Nat) : Int)), (5, mI ((x : Nat) : Int)), (6, mI ((y : Nat) : Int))] [] (ov F3) := by
                  intro f82
                  induction f82 with
                  | zero => intro F3 y hf82; omega
                  | succ f82 ih82 =>
                  intro F3 y hf82 hy hrw_F3 hrn_F3 hce_F3 hz_F3 hq_F3
                  refine at_iload 84 X rfl dX12_laysCarries_82 rfl ?_
                  have hR_F3 : RTS F3 P Q := hR_E.fr (fun q hq => hq_F3 q (by omega)) hP
                  have hbr_F3 : ∀ h, h < 24 → ∀ c, c < sW P → F3 (708 + h) c = bOn G h c := fun h hh c hc => by rw [hq_F3 (708 + h) (by omega)]; exact hbr h hh c hc
                  have hnx_F3 : ∀ y, y < (sW P + 1 - bL (sB P) b) → F3 (786 + (h + 1)) y = nxC (crk G (sB P) b t (t - (h + 1))) (h = t) y := fun y hy => by
                    unfold nxC
                    by_cases e : h = t
                    · rw [if_pos e, e]; exact hz_F3 y hy
                    · rw [if_neg e]; exact hrw_F3 (h + 1) y (by omega) (by omega) hy
                  have hst : y < (sW P + 1 - bL (sB P) b) → mvC (crk G (sB P) b t (t - (h + 1))) x (h = t) (y + 1) = _ := fun hy => mvC_s (x := x) (l := h = t) (by have := crk_fin (G := G) (B := sB P) (b := b) (last := t) (by omega) (k := t - (h + 1)) (x := y) (by omega) (by omega); omega) (by unfold dst; split <;> omega)
                  refine at_aload_n 85 X rfl rfl dX12_laysCarries_84 rfl ?_
                  refine at_iload_n 86 X rfl rfl dX12_laysCarries_85 rfl ?_
                  refine at_callV 89 X _ 12 (ct_X12_endsOf hG F3 P Q hP hR_F3 b hb hl) clX12 rfl k_125 mo_X12_endsOf w_2269 vo_X12_endsOf.1 vo_X12_endsOf.2 rfl rfl (crm Rt (by decide)) (Nat.le_of_ble_eq_true rfl) dX12_laysCarries_86 rfl ?_
                  rintro _ _ ⟨rfl, rfl⟩
                  refine at_icmp_ge 92 209 X dX12_laysCarries_89 rfl (by decide) (fun h89 => ?_) (fun h89 => ?_)
                  · have hfin : F3 (786 + h) x = nvC (crk G (sB P) b t (t - h) x) := by
                      rw [hce_F3, show y = (sW P + 1 - bL (sB P) b) by omega]
                      unfold mvC
                      by_cases c : h = t
                      · rw [if_pos c, if_neg (by omega), c, Nat.sub_self]
                        rw [show crk G (sB P) b t 0 x = 0 from if_pos (by rw [← c]; exact h73)]; rfl
                      · rw [if_neg c, show t - h = (t - (h + 1)) + 1 by omega]
                        rw [show crk G (sB P) b t (t - (h + 1) + 1) x = chN (crk G (sB P) b t (t - (h + 1))) x (gW G + 1 - bL (sB P) b) from if_pos (by rw [show t - (t - (h + 1) + 1) = h by omega]; exact h73), hgw]
                    refine at_iincV 212 X ((x + 1 : Nat) : Int) (w32_v (by omega) (by omega) (by omega)) rfl dX12_laysCarries_209 rfl (by decide) ?_
                    refine at_goto 43 X dX12_laysCarries_212 (by decide) ?_
                    exact at_sub _ (by exact ⟨rfl, rfl, rfl, rfl, rfl, rfl, trivial⟩) (ih43 F3 (x + 1) (by first | omega | (simp only [] at *; omega)) (by first | omega | assumption) (by first | exact (fun y z h1 h2 h3 => hrw_F3 y z h1 h2 h3) | exact (fun y z h1 h2 h3 => by rw [wr_row (by omega)]; exact hrw_F2 y z h1 h2 h3)) (by first | exact (fun z hz => if e : z = x then by rw [e]; exact hfin else hrn_F3 z (by omega)) | exact (fun z hz => if e : z = x then by rw [e, wr_s]; exact hfin else by rw [wr_o (Or.inr e)]; exact hrn_F2 z (by omega))) (by first | exact hz_F3 | exact (fun z hz => by rw [wr_row (by omega)]; exact hz_F2 z hz)) (by first | exact hq_F3 | exact (fun q hq => by rw [wr_row (by omega)]; exact hq_F2 q hq)))
                  · have hst := hst (by omega)
                    refine at_aload_n 93 X rfl rfl dX12_laysCarries_92 rfl ?_
                    refine m_getR 96 X f_X12_136 k_125 r_125_61 dX12_laysCarries_93 rfl ?_
                    refine at_iload 98 X rfl dX12_laysCarries_96 rfl ?_
                    refine at_iconst 99 X (by decide) dX12_laysCarries_98 rfl ?_
                    refine at_iaddV 100 X ((h + 1 : Nat) : Int) (w32_v (by omega) (by omega) (by omega)) dX12_laysCarries_99 rfl ?_
                    refine m_aaloadV 101 X (h + 1) (by omega) k_785 (by decide) (by omega) (rr_785 _ (by omega)) dX12_laysCarries_100 rfl ?_
                    refine at_iload 103 X rfl dX12_laysCarries_101 rfl ?_
                    refine m_ialoadV 104 X y (by omega) (nxC (crk G (sB P) b t (t - (h + 1))) (h = t) y) (hnx_F3 y (by omega)) (kr_785 _ (by omega)) (er_785 _ (by omega)) (by omega) dX12_laysCarries_103 rfl ?_
                    have hnxl : -1 ≤ nxC (crk G (sB P) b t (t - (h + 1))) (h = t) y ∧ nxC (crk G (sB P) b t (t - (h + 1))) (h = t) y ≤ 1000000 := by unfold nxC nvC; split <;> (try split) <;> omega
                    refine at_iconst 105 X (by decide) dX12_laysCarries_104 rfl ?_
                    refine at_icmp_ne 108 111 X dX12_laysCarries_105 rfl (by decide) (fun h105 => ?_) (fun h105 => ?_)
                    · refine at_aload_n 112 X rfl rfl dX12_laysCarries_111 rfl ?_
                      refine m_getR 115 X f_X12_136 k_125 r_125_61 dX12_laysCarries_112 rfl ?_
                      refine at_iload 117 X rfl dX12_laysCarries_115 rfl ?_
                      refine at_iconst 118 X (by decide) dX12_laysCarries_117 rfl ?_
                      refine at_iaddV 119 X ((h + 1 : Nat) : Int) (w32_v (by omega) (by omega) (by omega)) dX12_laysCarries_118 rfl ?_
                      refine m_aaloadV 120 X (h + 1) (by omega) k_785 (by decide) (by omega) (rr_785 _ (by omega)) dX12_laysCarries_119 rfl ?_
                      refine at_iload 122 X rfl dX12_laysCarries_120 rfl ?_
                      refine m_ialoadV 123 X y (by omega) (nxC (crk G (sB P) b t (t - (h + 1))) (h = t) y) (hnx_F3 y (by omega)) (kr_785 _ (by omega)) (er_785 _ (by omega)) (by omega) dX12_laysCarries_122 rfl ?_
                      have hnxl : -1 ≤ nxC (crk G (sB P) b t (t - (h + 1))) (h = t) y ∧ nxC (crk G (sB P) b t (t - (h + 1))) (h = t) y ≤ 1000000 := by unfold nxC nvC; split <;> (try split) <;> omega
                      refine at_iload 125 X rfl dX12_laysCarries_123 rfl ?_
                      refine at_iload_n 126 X rfl rfl dX12_laysCarries_125 rfl ?_
                      refine at_icmp_ne 129 133 X dX12_laysCarries_126 rfl (by decide) (fun h126 => ?_) (fun h126 => ?_)
                      · refine at_iload 135 X rfl dX12_laysCarries_133 rfl ?_
                        refine at_iload 137 X rfl dX12_laysCarries_135 rfl ?_
                        refine at_isubV 138 X (((x : Nat) : Int) - ((y : Nat) : Int)) (w32_v rfl (by omega) (by omega)) dX12_laysCarries_137 rfl ?_
                        refine at_iload 140 X rfl dX12_laysCarries_138 rfl ?_
                        refine at_iload 142 X rfl dX12_laysCarries_140 rfl ?_
                        refine at_isubV 143 X (((y : Nat) : Int) - ((x : Nat) : Int)) (w32_v rfl (by omega) (by omega)) dX12_laysCarries_142 rfl ?_
                        refine at_callS 146 X (ct_X12_more hG F3 (((x : Nat) : Int) - ((y : Nat) : Int)) (((y : Nat) : Int) - ((x : Nat) : Int))) mo_X12_more w_2091 so_X12_more rfl rfl (crm Rt (by decide)) (Nat.le_of_ble_eq_true rfl) dX12_laysCarries_143 rfl ?_
                        rintro _ _ ⟨rfl, rfl⟩
                        rw [show (if (((y : Nat) : Int) - ((x : Nat) : Int)) < (((x : Nat) : Int) - ((y : Nat) : Int)) then (((x : Nat) : Int) - ((y : Nat) : Int)) else (((y : Nat) : Int) - ((x : Nat) : Int))) = ((dst x y : Nat) : Int) from by unfold dst; split <;> split <;> omega]
                        have hdl : dst x y ≤ 40 := by unfold dst; split <;> omega
                        refine at_iaddV 147 X (nxC (crk G (sB P) b t (t - (h + 1))) (h = t) y + dvC (h = t) x y) (by unfold dvC; first | (rw [if_pos (show h = t by omega)]; exact w32_v rfl (by omega) (by omega)) | (rw [if_neg (show ¬ h = t by omega)]; exact w32_v rfl (by omega) (by omega))) dX12_laysCarries_146 rfl ?_
                        refine at_istore 149 X dX12_laysCarries_147 rfl (by decide) ?_
                        refine at_aload_n 150 X rfl rfl dX12_laysCarries_149 rfl ?_
                        refine m_getR 153 X f_X12_136 k_125 r_125_61 dX12_laysCarries_150 rfl ?_
                        refine at_iload 155 X rfl dX12_laysCarries_153 rfl ?_
                        refine m_aaloadV 156 X h (by omega) k_785 (by decide) (by omega) (rr_785 _ (by omega)) dX12_laysCarries_155 rfl ?_
                        refine at_iload 158 X rfl dX12_laysCarries_156 rfl ?_
                        refine at_aload_n 159 X rfl rfl dX12_laysCarries_158 rfl ?_
                        refine m_getR 162 X f_X12_136 k_125 r_125_61 dX12_laysCarries_159 rfl ?_
                        refine at_iload 164 X rfl dX12_laysCarries_162 rfl ?_
                        refine m_aaloadV 165 X h (by omega) k_785 (by decide) (by omega) (rr_785 _ (by omega)) dX12_laysCarries_164 rfl ?_
                        refine at_iload 167 X rfl dX12_laysCarries_165 rfl ?_
                        refine m_ialoadV 168 X x (by omega) (mvC (crk G (sB P) b t (t - (h + 1))) x (h = t) y) hce_F3 (kr_785 _ (by omega)) (er_785 _ (by omega)) (by omega) dX12_laysCarries_167 rfl ?_
                        refine at_iconst 169 X (by decide) dX12_laysCarries_168 rfl ?_
                        refine at_icmp_eq 172 187 X dX12_laysCarries_169 rfl (by decide) (fun h169 => ?_) (fun h169 => ?_)
                        · refine at_iload 189 X rfl dX12_laysCarries_187 rfl ?_
                          refine at_goto 202 X dX12_laysCarries_189 (by decide) ?_
                          refine m_iastoreV 203 X x (by omega) (kr_785 _ (by omega)) (er_785 _ (by omega)) (by omega) dX12_laysCarries_202 rfl ?_
                          refine at_iincV 206 X ((y + 1 : Nat) : Int) (w32_v (by omega) (by omega) (by omega)) rfl dX12_laysCarries_203 rfl (by decide) ?_
                          refine at_goto 82 X dX12_laysCarries_206 (by decide) ?_
                          exact at_sub _ (by exact ⟨rfl, rfl, rfl, rfl, rfl, rfl, rfl, trivial⟩) (ih82 (wr F3 (786 + h) x (nxC (crk G (sB P) b t (t - (h + 1))) (h = t) y + dvC (h = t) x y)) (y + 1) (by first | omega | (simp only [] at *; omega)) (by first | omega | assumption) (by first | exact hrw_F3 | exact (fun y z h1 h2 h3 => by rw [wr_row (by omega)]; exact hrw_F3 y z h1 h2 h3)) (by first | exact hrn_F3 | exact (fun z hz => by rw [wr_o (by omega)]; exact hrn_F3 z hz)) (by rw [hst]; first | (rw [if_pos h105]; exact hce_F3) | (rw [if_neg h105, if_pos (Or.inl h169)]; exact wr_s _ _ _ _) | (rw [if_neg h105, if_pos (Or.inr h184)]; exact wr_s _ _ _ _) | (rw [if_neg h105, if_neg (fun q => q.elim h169 (fun q => by omega))]; exact wr_s _ _ _ _)) (by first | exact hz_F3 | exact (fun z hz => by rw [wr_row (by omega)]; exact hz_F3 z hz)) (by first | exact hq_F3 | exact (fun q hq => by rw [wr_row (by omega)]; exact hq_F3 q hq)))
                        · refine at_iload 174 X rfl dX12_laysCarries_172 rfl ?_
                          refine at_aload_n 175 X rfl rfl dX12_laysCarries_174 rfl ?_
                          refine m_getR 178 X f_X12_136 k_125 r_125_61 dX12_laysCarries_175 rfl ?_
                          refine at_iload 180 X rfl dX12_laysCarries_178 rfl ?_
                          refine m_aaloadV 181 X h (by omega) k_785 (by decide) (by omega) (rr_785 _ (by omega)) dX12_laysCarries_180 rfl ?_
                          refine at_iload 183 X rfl dX12_laysCarries_181 rfl ?_
                          refine m_ialoadV 184 X x (by omega) (mvC (crk G (sB P) b t (t - (h + 1))) x (h = t) y) hce_F3 (kr_785 _ (by omega)) (er_785 _ (by omega)) (by omega) dX12_laysCarries_183 rfl ?_
                          refine at_icmp_ge 187 192 X dX12_laysCarries_184 rfl (by decide) (fun h184 => ?_) (fun h184 => ?_)
                          · refine at_aload_n 193 X rfl rfl dX12_laysCarries_192 rfl ?_
                            refine m_getR 196 X f_X12_136 k_125 r_125_61 dX12_laysCarries_193 rfl ?_
                            refine at_iload 198 X rfl dX12_laysCarries_196 rfl ?_
                            refine m_aaloadV 199 X h (by omega) k_785 (by decide) (by omega) (rr_785 _ (by omega)) dX12_laysCarries_198 rfl ?_
                            refine at_iload 201 X rfl dX12_laysCarries_199 rfl ?_
                            refine m_ialoadV 202 X x (by omega) (mvC (crk G (sB P) b t (t - (h + 1))) x (h = t) y) hce_F3 (kr_785 _ (by omega)) (er_785 _ (by omega)) (by omega) dX12_laysCarries_201 rfl ?_
                            refine m_iastoreV 203 X x (by omega) (kr_785 _ (by omega)) (er_785 _ (by omega)) (by omega) dX12_laysCarries_202 rfl ?_
                            refine at_iincV 206 X ((y + 1 : Nat) : Int) (w32_v (by omega) (by omega) (by omega)) rfl dX12_laysCarries_203 rfl (by decide) ?_
                            refine at_goto 82 X dX12_laysCarries_206 (by decide) ?_
                            exact at_sub _ (by exact ⟨rfl, rfl, rfl, rfl, rfl, rfl, rfl, trivial⟩) (ih82 (wr F3 (786 + h) x (mvC (crk G (sB P) b t (t - (h + 1))) x (h = t) y)) (y + 1) (by first | omega | (simp only [] at *; omega)) (by first | omega | assumption) (by first | exact hrw_F3 | exact (fun y z h1 h2 h3 => by rw [wr_row (by omega)]; exact hrw_F3 y z h1 h2 h3)) (by first | exact hrn_F3 | exact (fun z hz => by rw [wr_o (by omega)]; exact hrn_F3 z hz)) (by rw [hst]; first | (rw [if_pos h105]; exact hce_F3) | (rw [if_neg h105, if_pos (Or.inl h169)]; exact wr_s _ _ _ _) | (rw [if_neg h105, if_pos (Or.inr h184)]; exact wr_s _ _ _ _) | (rw [if_neg h105, if_neg (fun q => q.elim h169 (fun q => by omega))]; exact wr_s _ _ _ _)) (by first | exact hz_F3 | exact (fun z hz => by rw [wr_row (by omega)]; exact hz_F3 z hz)) (by first | exact hq_F3 | exact (fun q hq => by rw [wr_row (by omega)]; exact hq_F3 q hq)))
                          · refine at_iload 189 X rfl dX12_laysCarries_187 rfl ?_
                            refine at_goto 202 X dX12_laysCarries_189 (by decide) ?_
                            refine m_iastoreV 203 X x (by omega) (kr_785 _ (by omega)) (er_785 _ (by omega)) (by omega) dX12_laysCarries_202 rfl ?_
                            refine at_iincV 206 X ((y + 1 : Nat) : Int) (w32_v (by omega) (by omega) (by omega)) rfl dX12_laysCarries_203 rfl (by decide) ?_
                            refine at_goto 82 X dX12_laysCarries_206 (by decide) ?_
                            exact at_sub _ (by exact ⟨rfl, rfl, rfl, rfl, rfl, rfl, rfl, trivial⟩) (ih82 (wr F3 (786 + h) x (nxC (crk G (sB P) b t (t - (h + 1))) (h = t) y + dvC (h = t) x y)) (y + 1) (by first | omega | (simp only [] at *; omega)) (by first | omega | assumption) (by first | exact hrw_F3 | exact (fun y z h1 h2 h3 => by rw [wr_row (by omega)]; exact hrw_F3 y z h1 h2 h3)) (by first | exact hrn_F3 | exact (fun z hz => by rw [wr_o (by omega)]; exact hrn_F3 z hz)) (by rw [hst]; first | (rw [if_pos h105]; exact hce_F3) | (rw [if_neg h105, if_pos (Or.inl h169)]; exact wr_s _ _ _ _) | (rw [if_neg h105, if_pos (Or.inr h184)]; exact wr_s _ _ _ _) | (rw [if_neg h105, if_neg (fun q => q.elim h169 (fun q => by omega))]; exact wr_s _ _ _ _)) (by first | exact hz_F3 | exact (fun z hz => by rw [wr_row (by omega)]; exact hz_F3 z hz)) (by first | exact hq_F3 | exact (fun q hq => by rw [wr_row (by omega)]; exact hq_F3 q hq)))
                      · refine at_iconst 130 X (by decide) dX12_laysCarries_129 rfl ?_
                        refine at_goto 146 X dX12_laysCarries_130 (by decide) ?_
                        refine at_iaddV 147 X (nxC (crk G (sB P) b t (t - (h + 1))) (h = t) y + dvC (h = t) x y) (by unfold dvC; first | (rw [if_pos (show h = t by omega)]; exact w32_v rfl (by omega) (by omega)) | (rw [if_neg (show ¬ h = t by omega)]; exact w32_v rfl (by omega) (by omega))) dX12_laysCarries_146 rfl ?_
                        refine at_istore 149 X dX12_laysCarries_147 rfl (by decide) ?_
                        refine at_aload_n 150 X rfl rfl dX12_laysCarries_149 rfl ?_
                        refine m_getR 153 X f_X12_136 k_125 r_125_61 dX12_laysCarries_150 rfl ?_
                        refine at_iload 155 X rfl dX12_laysCarries_153 rfl ?_
                        refine m_aaloadV 156 X h (by omega) k_785 (by decide) (by omega) (rr_785 _ (by omega)) dX12_laysCarries_155 rfl ?_
                        refine at_iload 158 X rfl dX12_laysCarries_156 rfl ?_
                        refine at_aload_n 159 X rfl rfl dX12_laysCarries_158 rfl ?_
                        refine m_getR 162 X f_X12_136 k_125 r_125_61 dX12_laysCarries_159 rfl ?_
                        refine at_iload 164 X rfl dX12_laysCarries_162 rfl ?_
                        refine m_aaloadV 165 X h (by omega) k_785 (by decide) (by omega) (rr_785 _ (by omega)) dX12_laysCarries_164 rfl ?_
                        refine at_iload 167 X rfl dX12_laysCarries_165 rfl ?_
                        refine m_ialoadV 168 X x (by omega) (mvC (crk G (sB P) b t (t - (h + 1))) x (h = t) y) hce_F3 (kr_785 _ (by omega)) (er_785 _ (by omega)) (by omega) dX12_laysCarries_167 rfl ?_
                        refine at_iconst 169 X (by decide) dX12_laysCarries_168 rfl ?_
                        refine at_icmp_eq 172 187 X dX12_laysCarries_169 rfl (by decide) (fun h169 => ?_) (fun h169 => ?_)
                        · refine at_iload 189 X rfl dX12_laysCarries_187 rfl ?_
                          refine at_goto 202 X dX12_laysCarries_189 (by decide) ?_
                          refine m_iastoreV 203 X x (by omega) (kr_785 _ (by omega)) (er_785 _ (by omega)) (by omega) dX12_laysCarries_202 rfl ?_
                          refine at_iincV 206 X ((y + 1 : Nat) : Int) (w32_v (by omega) (by omega) (by omega)) rfl dX12_laysCarries_203 rfl (by decide) ?_
                          refine at_goto 82 X dX12_laysCarries_206 (by decide) ?_
                          exact at_sub _ (by exact ⟨rfl, rfl, rfl, rfl, rfl, rfl, rfl, trivial⟩) (ih82 (wr F3 (786 + h) x (nxC (crk G (sB P) b t (t - (h + 1))) (h = t) y + dvC (h = t) x y)) (y + 1) (by first | omega | (simp only [] at *; omega)) (by first | omega | assumption) (by first | exact hrw_F3 | exact (fun y z h1 h2 h3 => by rw [wr_row (by omega)]; exact hrw_F3 y z h1 h2 h3)) (by first | exact hrn_F3 | exact (fun z hz => by rw [wr_o (by omega)]; exact hrn_F3 z hz)) (by rw [hst]; first | (rw [if_pos h105]; exact hce_F3) | (rw [if_neg h105, if_pos (Or.inl h169)]; exact wr_s _ _ _ _) | (rw [if_neg h105, if_pos (Or.inr h184)]; exact wr_s _ _ _ _) | (rw [if_neg h105, if_neg (fun q => q.elim h169 (fun q => by omega))]; exact wr_s _ _ _ _)) (by first | exact hz_F3 | exact (fun z hz => by rw [wr_row (by omega)]; exact hz_F3 z hz)) (by first | exact hq_F3 | exact (fun q hq => by rw [wr_row (by omega)]; exact hq_F3 q hq)))
                        · refine at_iload 174 X rfl dX12_laysCarries_172 rfl ?_
                          refine at_aload_n 175 X rfl rfl dX12_laysCarries_174 rfl ?_
                          refine m_getR 178 X f_X12_136 k_125 r_125_61 dX12_laysCarries_175 rfl ?_
                          refine at_iload 180 X rfl dX12_laysCarries_178 rfl ?_
                          refine m_aaloadV 181 X h (by omega) k_785 (by decide) (by omega) (rr_785 _ (by omega)) dX12_laysCarries_180 rfl ?_
                          refine at_iload 183 X rfl dX12_laysCarries_181 rfl ?_
                          refine m_ialoadV 184 X x (by omega) (mvC (crk G (sB P) b t (t - (h + 1))) x (h = t) y) hce_F3 (kr_785 _ (by omega)) (er_785 _ (by omega)) (by omega) dX12_laysCarries_183 rfl ?_
                          refine at_icmp_ge 187 192 X dX12_laysCarries_184 rfl (by decide) (fun h184 => ?_) (fun h184 => ?_)
                          · refine at_aload_n 193 X rfl rfl dX12_laysCarries_192 rfl ?_
                            refine m_getR 196 X f_X12_136 k_125 r_125_61 dX12_laysCarries_193 rfl ?_
                            refine at_iload 198 X rfl dX12_laysCarries_196 rfl ?_
                            refine m_aaloadV 199 X h (by omega) k_785 (by decide) (by omega) (rr_785 _ (by omega)) dX12_laysCarries_198 rfl ?_
                            refine at_iload 201 X rfl dX12_laysCarries_199 rfl ?_
                            refine m_ialoadV 202 X x (by omega) (mvC (crk G (sB P) b t (t - (h + 1))) x (h = t) y) hce_F3 (kr_785 _ (by omega)) (er_785 _ (by omega)) (by omega) dX12_laysCarries_201 rfl ?_
                            refine m_iastoreV 203 X x (by omega) (kr_785 _ (by omega)) (er_785 _ (by omega)) (by omega) dX12_laysCarries_202 rfl ?_
                            refine at_iincV 206 X ((y + 1 : Nat) : Int) (w32_v (by omega) (by omega) (by omega)) rfl dX12_laysCarries_203 rfl (by decide) ?_
                            refine at_goto 82 X dX12_laysCarries_206 (by decide) ?_
                            exact at_sub _ (by exact ⟨rfl, rfl, rfl, rfl, rfl, rfl, rfl, trivial⟩) (ih82 (wr F3 (786 + h) x (mvC (crk G (sB P) b t (t - (h + 1))) x (h = t) y)) (y + 1) (by first | omega | (simp only [] at *; omega)) (by first | omega | assumption) (by first | exact hrw_F3 | exact (fun y z h1 h2 h3 => by rw [wr_row (by omega)]; exact hrw_F3 y z h1 h2 h3)) (by first | exact hrn_F3 | exact (fun z hz => by rw [wr_o (by omega)]; exact hrn_F3 z hz)) (by rw [hst]; first | (rw [if_pos h105]; exact hce_F3) | (rw [if_neg h105, if_pos (Or.inl h169)]; exact wr_s _ _ _ _) | (rw [if_neg h105, if_pos (Or.inr h184)]; exact wr_s _ _ _ _) | (rw [if_neg h105, if_neg (fun q => q.elim h169 (fun q => by omega))]; exact wr_s _ _ _ _)) (by first | exact hz_F3 | exact (fun z hz => by rw [wr_row (by omega)]; exact hz_F3 z hz)) (by first | exact hq_F3 | exact (fun q hq => by rw [wr_row (by omega)]; exact hq_F3 q hq)))
                          · refine at_iload 189 X rfl dX12_laysCarries_187 rfl ?_
                            refine at_goto 202 X dX12_laysCarries_189 (by decide) ?_
                            refine m_iastoreV 203 X x (by omega) (kr_785 _ (by omega)) (er_785 _ (by omega)) (by omega) dX12_laysCarries_202 rfl ?_
                            refine at_iincV 206 X ((y + 1 : Nat) : Int) (w32_v (by omega) (by omega) (by omega)) rfl dX12_laysCarries_203 rfl (by decide) ?_
                            refine at_goto 82 X dX12_laysCarries_206 (by decide) ?_
                            exact at_sub _ (by exact ⟨rfl, rfl, rfl, rfl, rfl, rfl, rfl, trivial⟩) (ih82 (wr F3 (786 + h) x (nxC (crk G (sB P) b t (t - (h + 1))) (h = t) y + dvC (h = t) x y)) (y + 1) (by first | omega | (simp only [] at *; omega)) (by first | omega | assumption) (by first | exact hrw_F3 | exact (fun y z h1 h2 h3 => by rw [wr_row (by omega)]; exact hrw_F3 y z h1 h2 h3)) (by first | exact hrn_F3 | exact (fun z hz => by rw [wr_o (by omega)]; exact hrn_F3 z hz)) (by rw [hst]; first | (rw [if_pos h105]; exact hce_F3) | (rw [if_neg h105, if_pos (Or.inl h169)]; exact wr_s _ _ _ _) | (rw [if_neg h105, if_pos (Or.inr h184)]; exact wr_s _ _ _ _) | (rw [if_neg h105, if_neg (fun q => q.elim h169 (fun q => by omega))]; exact wr_s _ _ _ _)) (by first | exact hz_F3 | exact (fun z hz => by rw [wr_row (by omega)]; exact hz_F3 z hz)) (by first | exact hq_F3 | exact (fun q hq => by rw [wr_row (by omega)]; exact hq_F3 q hq)))
                    · refine at_goto 203 X dX12_laysCarries_108 (by decide) ?_
                      refine at_iincV 206 X ((y + 1 : Nat) : Int) (w32_v (by omega) (by omega) (by omega)) rfl dX12_laysCarries_203 rfl (by decide) ?_
                      refine at_goto 82 X dX12_laysCarries_206 (by decide) ?_
                      exact at_sub _ (by exact ⟨rfl, rfl, rfl, rfl, rfl, rfl, rfl, trivial⟩) (ih82 F3 (y + 1) (by first | omega | (simp only [] at *; omega)) (by first | omega | assumption) (by first | exact hrw_F3 | exact (fun y z h1 h2 h3 => by rw [wr_row (by omega)]; exact hrw_F3 y z h1 h2 h3)) (by first | exact hrn_F3 | exact (fun z hz => by rw [wr_o (by omega)]; exact hrn_F3 z hz)) (by rw [hst]; first | (rw [if_pos h105]; exact hce_F3) | (rw [if_neg h105, if_pos (Or.inl h169)]; exact wr_s _ _ _ _) | (rw [if_neg h105, if_pos (Or.inr h184)]; exact wr_s _ _ _ _) | (rw [if_neg h105, if_neg (fun q => q.elim h169 (fun q => by omega))]; exact wr_s _ _ _ _)) (by first | exact hz_F3 | exact (fun z hz => by rw [wr_row (by omega)]; exact hz_F3 z hz)) (by first | exact hq_F3 | exact (fun q hq => by rw [wr_row (by omega)]; exact hq_F3 q hq)))
                exact at_sub _ (by exact ⟨rfl, rfl, rfl, rfl, rfl, rfl, rfl, trivial⟩) (J82 _ (wr F2 (786 + h) x (-1)) 0 (Nat.lt_succ_self _) (by first | omega | assumption | rfl) (fun y z h1 h2 h3 => by rw [wr_row (by omega)]; exact hrw_F2 y z h1 h2 h3) (fun z hz => by rw [wr_o (by omega)]; exact hrn_F2 z hz) (by rw [wr_s]; unfold mvC; split <;> rfl) (fun z hz => by rw [wr_row (by omega)]; exact hz_F2 z hz) (fun q hq => by rw [wr_row (by omega)]; exact hq_F2 q hq))
              · have h73 : ¬ (stP G (sB P) b x h = true) := ite_no.mp h73
                have hfin : (-1 : Int) = nvC (crk G (sB P) b t (t - h) x) := by
                  have : crk G (sB P) b t (t - h) x = 1000000 := by
                    by_cases c : h = t
                    · rw [c, Nat.sub_self]; exact if_neg (by rw [← c]; exact h73)
                    · rw [show t - h = (t - (h + 1)) + 1 by omega]; exact if_neg (by rw [show t - (t - (h + 1) + 1) = h by omega]; exact h73)
                  rw [this]; rfl
                refine at_goto 209 X dX12_laysCarries_76 (by decide) ?_
                refine at_iincV 212 X ((x + 1 : Nat) : Int) (w32_v (by omega) (by omega) (by omega)) rfl dX12_laysCarries_209 rfl (by decide) ?_
                refine at_goto 43 X dX12_laysCarries_212 (by decide) ?_
                exact at_sub _ (by exact ⟨rfl, rfl, rfl, rfl, rfl, rfl, trivial⟩) (ih43 (wr F2 (786 + h) x (-1)) (x + 1) (by first | omega | (simp only [] at *; omega)) (by first | omega | assumption) (by first | exact (fun y z h1 h2 h3 => hrw_F3 y z h1 h2 h3) | exact (fun y z h1 h2 h3 => by rw [wr_row (by omega)]; exact hrw_F2 y z h1 h2 h3)) (by first | exact (fun z hz => if e : z = x then by rw [e]; exact hfin else hrn_F3 z (by omega)) | exact (fun z hz => if e : z = x then by rw [e, wr_s]; exact hfin else by rw [wr_o (Or.inr e)]; exact hrn_F2 z (by omega))) (by first | exact hz_F3 | exact (fun z hz => by rw [wr_row (by omega)]; exact hz_F2 z hz)) (by first | exact hq_F3 | exact (fun q hq => by rw [wr_row (by omega)]; exact hq_F2 q hq)))
          exact at_sub _ (by exact ⟨rfl, rfl, rfl, rfl, rfl, rfl, trivial⟩) (J43 _ F 0 (Nat.lt_succ_self _) (by first | omega | assumption | rfl) (fun y z h1 h2 h3 => hrw_F y z (by omega) h2 h3) (fun z hz => absurd hz (Nat.not_lt_zero z)) hz_F hq_F)
      exact at_sub _ (by exact ⟨rfl, rfl, rfl, rfl, rfl, trivial⟩) (J34 _ F0 ((t : Nat) : Int) (Nat.lt_succ_self _) (by first | omega | assumption | rfl) (fun y x h1 h2 _ => by omega) (fun z hz => hz0 z (by omega)) hq_F0)
    · refine at_aload_n 14 X rfl rfl dX12_laysCarries_13 rfl ?_
      refine m_getR 17 X f_X12_136 k_125 r_125_61 dX12_laysCarries_14 rfl ?_
      refine at_iload_n 18 X rfl rfl dX12_laysCarries_17 rfl ?_
      refine at_iconst 19 X (by decide) dX12_laysCarries_18 rfl ?_
      refine at_iaddV 20 X ((t + 1 : Nat) : Int) (w32_v (by omega) (by omega) (by omega)) dX12_laysCarries_19 rfl ?_
      refine m_aaloadV 21 X (t + 1) (by omega) k_785 (by decide) (by omega) (rr_785 _ (by omega)) dX12_laysCarries_20 rfl ?_
      refine at_iload 23 X rfl dX12_laysCarries_21 rfl ?_
      refine at_iconst 24 X (by decide) dX12_laysCarries_23 rfl ?_
      refine m_iastoreV 25 X x (by omega) (kr_785 _ (by omega)) (er_785 _ (by omega)) (by omega) dX12_laysCarries_24 rfl ?_
      refine at_iincV 28 X ((x + 1 : Nat) : Int) (w32_v (by omega) (by omega) (by omega)) rfl dX12_laysCarries_25 rfl (by decide) ?_
      refine at_goto 3 X dX12_laysCarries_28 (by decide) ?_
      exact at_sub _ (by exact ⟨rfl, rfl, rfl, rfl, rfl, trivial⟩) (ih3 (wr F0 (786 + (t + 1)) x 0) (x + 1) (by first | omega | (simp only [] at *; omega)) (by first | omega | assumption) (row_ext (F := fun _ => (0 : Int)) hz0 rfl) (fun q hq => by rw [wr_row (by omega)]; exact hq_F0 q hq))
  exact at_sub _ (by exact ⟨rfl, rfl, rfl, rfl, rfl, trivial⟩) (J3 _ E 0 (Nat.lt_succ_self _) (by first | omega | assumption | rfl) (fun z hz => absurd hz (Nat.not_lt_zero z)) (fun _ _ => rfl))
