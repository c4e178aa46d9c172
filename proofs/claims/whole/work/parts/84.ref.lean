theorem ovr_keep {G : GP} {B : BM} {W h b j : Nat} {pl : Nat → Int} (hW : WB W B) (hb : b < bN B) (hj : ¬ ovr G B h pl j) : ¬ ovr G B h (updf pl b (-1)) j := by
  rintro ⟨h1, h2⟩
  by_cases c : j = b
  · subst c; rw [updf_s] at h1; exact h1 rfl
  · rw [updf_o c] at h1 h2
    refine hj ⟨h1, ?_⟩
    rw [wtN_drop hb, wtN_drop hb] at h2
    have k1 := wt1_in hW pl hb (pl j).toNat
    have k2 := wt1_in hW pl hb ((pl j).toNat + bL B j - 1)
    omega
/-- a day's state as the reference holds it -/
def RD (E : Mm) (B : BM) (d : DS) : Prop := (∀ k, k < bN B → E 782 k = dP d k) ∧ (∀ k, k < bN B → E 783 k = dF d k) ∧ (∀ i, i < dN d → E 784 i = (dO d i : Int)) ∧ E 125 60 = (dN d : Int)
def RMv (E : Mm) (T : LN) : Prop := E 125 43 = (T.1 : Int) ∧ ∀ i, i < T.1 → E (581 + i) 0 = (T.2.1 i : Int) ∧ E (581 + i) 1 = (T.2.2.1 i : Int) ∧ E (581 + i) 2 = (T.2.2.2 i : Int)
theorem RD.fr {E E1 : Mm} {B : BM} {d : DS} (h : RD E B d) (h1 : E1 782 = E 782) (h2 : E1 783 = E 783) (h3 : E1 784 = E 784) (h4 : E1 125 60 = E 125 60) : RD E1 B d := by
  unfold RD at h ⊢
  rw [h1, h2, h3, h4]
  exact h
theorem RD_drop {F : Mm} {B : BM} {d : DS} {b h : Nat} (hd : RD F B d) : RD (wr (wr (wr (wr F 782 b (-1)) 783 b (h : Int)) 784 (dN d) (b : Int)) 125 60 ((dN d + 1 : Nat) : Int)) B (updf (dP d) b (-1), updf (dF d) b (h : Int), (fun i => if i = dN d then b else dO d i), dN d + 1) := by
  obtain ⟨h1, h2, h3, h4⟩ := hd
  refine ⟨fun k hk => ?_, fun k hk => ?_, fun i hi => ?_, wr_s _ _ _ _⟩
  · rw [wr_o (by omega), wr_o (by omega), wr_o (by omega)]
    show _ = updf (dP d) b (-1) k
    by_cases c : k = b
    · subst c; rw [wr_s, updf_s]
    · rw [wr_o (Or.inr c), updf_o c]; exact h1 k hk
  · rw [wr_o (by omega), wr_o (by omega)]
    show _ = updf (dF d) b (h : Int) k
    by_cases c : k = b
    · subst c; rw [wr_s, updf_s]
    · rw [wr_o (Or.inr c), wr_o (by omega), updf_o c]; exact h2 k hk
  · have hi' : i < dN d + 1 := hi
    rw [wr_o (by omega)]
    show _ = ((if i = dN d then b else dO d i : Nat) : Int)
    by_cases c : i = dN d
    · subst c; rw [wr_s, if_pos rfl]
    · rw [wr_o (Or.inr c), wr_o (by omega), wr_o (by omega), if_neg c]; exact h3 i (by omega)
/-- the hours gone through -/
def RHr (E : Mm) (G : GP) (B : BM) (T : LN) (W n : Nat) : Prop := (∀ t k, t < n → k < bN B → E (758 + t) k = dP (dyP G B T (t + 1)) k) ∧ ∀ t c, t < n → c < W → E (733 + t) c = wtN B (dP (dyP G B T (t + 1))) c (bN B)
theorem mv_rowN {F : Mm} {q b n : Nat} {f : Nat → Int} {x : Int} (h : ∀ k, k < n → F q k = f k) : ∀ k, k < n → wr F q b x q k = updf f b x k := by
  intro k hk
  by_cases c : k = b
  · subst c; rw [wr_s, updf_s]
  · rw [wr_o (Or.inr c), updf_o c]; exact h k hk
theorem dX12_runs_0 : decode cX12_runs 0 = .ok (.aload_n 0, 1) := by decide +kernel
theorem dX12_runs_1 : decode cX12_runs 1 = .ok (.iconst 0, 1) := by decide +kernel
theorem dX12_runs_2 : decode cX12_runs 2 = .ok (.putfield 387, 3) := by decide +kernel
theorem dX12_runs_5 : decode cX12_runs 5 = .ok (.iconst 0, 1) := by decide +kernel
theorem dX12_runs_6 : decode cX12_runs 6 = .ok (.istore_n 1, 1) := by decide +kernel
theorem dX12_runs_7 : decode cX12_runs 7 = .ok (.iload_n 1, 1) := by decide +kernel
theorem dX12_runs_8 : decode cX12_runs 8 = .ok (.aload_n 0, 1) := by decide +kernel
theorem dX12_runs_9 : decode cX12_runs 9 = .ok (.getfield 23, 3) := by decide +kernel
theorem dX12_runs_12 : decode cX12_runs 12 = .ok (.bipush 6, 2) := by decide +kernel
theorem dX12_runs_14 : decode cX12_runs 14 = .ok (.iaload, 1) := by decide +kernel
theorem dX12_runs_15 : decode cX12_runs 15 = .ok (.if_icmp .ge 30, 3) := by decide +kernel
theorem dX12_runs_18 : decode cX12_runs 18 = .ok (.aload_n 0, 1) := by decide +kernel
theorem dX12_runs_19 : decode cX12_runs 19 = .ok (.getfield 127, 3) := by decide +kernel
theorem dX12_runs_22 : decode cX12_runs 22 = .ok (.iload_n 1, 1) := by decide +kernel
theorem dX12_runs_23 : decode cX12_runs 23 = .ok (.aload_n 0, 1) := by decide +kernel
theorem dX12_runs_24 : decode cX12_runs 24 = .ok (.getfield 61, 3) := by decide +kernel
theorem dX12_runs_27 : decode cX12_runs 27 = .ok (.iload_n 1, 1) := by decide +kernel
theorem dX12_runs_28 : decode cX12_runs 28 = .ok (.aaload, 1) := by decide +kernel
theorem dX12_runs_29 : decode cX12_runs 29 = .ok (.iconst 0, 1) := by decide +kernel
theorem dX12_runs_30 : decode cX12_runs 30 = .ok (.iaload, 1) := by decide +kernel
theorem dX12_runs_31 : decode cX12_runs 31 = .ok (.iastore, 1) := by decide +kernel
theorem dX12_runs_32 : decode cX12_runs 32 = .ok (.aload_n 0, 1) := by decide +kernel
theorem dX12_runs_33 : decode cX12_runs 33 = .ok (.getfield 130, 3) := by decide +kernel
theorem dX12_runs_36 : decode cX12_runs 36 = .ok (.iload_n 1, 1) := by decide +kernel
theorem dX12_runs_37 : decode cX12_runs 37 = .ok (.iconst (-1), 1) := by decide +kernel
theorem dX12_runs_38 : decode cX12_runs 38 = .ok (.iastore, 1) := by decide +kernel
theorem dX12_runs_39 : decode cX12_runs 39 = .ok (.iinc 1 1, 3) := by decide +kernel
theorem dX12_runs_42 : decode cX12_runs 42 = .ok (.goto (-35), 3) := by decide +kernel
theorem dX12_runs_45 : decode cX12_runs 45 = .ok (.iconst 0, 1) := by decide +kernel
theorem dX12_runs_46 : decode cX12_runs 46 = .ok (.istore_n 1, 1) := by decide +kernel
theorem dX12_runs_47 : decode cX12_runs 47 = .ok (.iload_n 1, 1) := by decide +kernel
theorem dX12_runs_48 : decode cX12_runs 48 = .ok (.bipush 24, 2) := by decide +kernel
theorem dX12_runs_50 : decode cX12_runs 50 = .ok (.if_icmp .ge 225, 3) := by decide +kernel
theorem dX12_runs_53 : decode cX12_runs 53 = .ok (.iconst 0, 1) := by decide +kernel
theorem dX12_runs_54 : decode cX12_runs 54 = .ok (.istore_n 2, 1) := by decide +kernel
theorem dX12_runs_55 : decode cX12_runs 55 = .ok (.iload_n 2, 1) := by decide +kernel
theorem dX12_runs_56 : decode cX12_runs 56 = .ok (.aload_n 0, 1) := by decide +kernel
theorem dX12_runs_57 : decode cX12_runs 57 = .ok (.getfield 261, 3) := by decide +kernel
theorem dX12_runs_60 : decode cX12_runs 60 = .ok (.if_icmp .ge 59, 3) := by decide +kernel
theorem dX12_runs_63 : decode cX12_runs 63 = .ok (.aload_n 0, 1) := by decide +kernel
theorem dX12_runs_64 : decode cX12_runs 64 = .ok (.getfield 92, 3) := by decide +kernel
theorem dX12_runs_67 : decode cX12_runs 67 = .ok (.iload_n 2, 1) := by decide +kernel
theorem dX12_runs_68 : decode cX12_runs 68 = .ok (.aaload, 1) := by decide +kernel
theorem dX12_runs_69 : decode cX12_runs 69 = .ok (.iconst 0, 1) := by decide +kernel
theorem dX12_runs_70 : decode cX12_runs 70 = .ok (.iaload, 1) := by decide +kernel
theorem dX12_runs_71 : decode cX12_runs 71 = .ok (.iload_n 1, 1) := by decide +kernel
theorem dX12_runs_72 : decode cX12_runs 72 = .ok (.if_icmp .ne 41, 3) := by decide +kernel
theorem dX12_runs_75 : decode cX12_runs 75 = .ok (.aload_n 0, 1) := by decide +kernel
theorem dX12_runs_76 : decode cX12_runs 76 = .ok (.getfield 127, 3) := by decide +kernel
theorem dX12_runs_79 : decode cX12_runs 79 = .ok (.aload_n 0, 1) := by decide +kernel
theorem dX12_runs_80 : decode cX12_runs 80 = .ok (.getfield 92, 3) := by decide +kernel
theorem dX12_runs_83 : decode cX12_runs 83 = .ok (.iload_n 2, 1) := by decide +kernel
theorem dX12_runs_84 : decode cX12_runs 84 = .ok (.aaload, 1) := by decide +kernel
theorem dX12_runs_85 : decode cX12_runs 85 = .ok (.iconst 1, 1) := by decide +kernel
theorem dX12_runs_86 : decode cX12_runs 86 = .ok (.iaload, 1) := by decide +kernel
theorem dX12_runs_87 : decode cX12_runs 87 = .ok (.iaload, 1) := by decide +kernel
theorem dX12_runs_88 : decode cX12_runs 88 = .ok (.iconst (-1), 1) := by decide +kernel
theorem dX12_runs_89 : decode cX12_runs 89 = .ok (.if_icmp .eq 24, 3) := by decide +kernel
theorem dX12_runs_92 : decode cX12_runs 92 = .ok (.aload_n 0, 1) := by decide +kernel
theorem dX12_runs_93 : decode cX12_runs 93 = .ok (.getfield 127, 3) := by decide +kernel
theorem dX12_runs_96 : decode cX12_runs 96 = .ok (.aload_n 0, 1) := by decide +kernel
theorem dX12_runs_97 : decode cX12_runs 97 = .ok (.getfield 92, 3) := by decide +kernel
theorem dX12_runs_100 : decode cX12_runs 100 = .ok (.iload_n 2, 1) := by decide +kernel
theorem dX12_runs_101 : decode cX12_runs 101 = .ok (.aaload, 1) := by decide +kernel
theorem dX12_runs_102 : decode cX12_runs 102 = .ok (.iconst 1, 1) := by decide +kernel
theorem dX12_runs_103 : decode cX12_runs 103 = .ok (.iaload, 1) := by decide +kernel
theorem dX12_runs_104 : decode cX12_runs 104 = .ok (.aload_n 0, 1) := by decide +kernel
theorem dX12_runs_105 : decode cX12_runs 105 = .ok (.getfield 92, 3) := by decide +kernel
theorem dX12_runs_108 : decode cX12_runs 108 = .ok (.iload_n 2, 1) := by decide +kernel
theorem dX12_runs_109 : decode cX12_runs 109 = .ok (.aaload, 1) := by decide +kernel
theorem dX12_runs_110 : decode cX12_runs 110 = .ok (.iconst 2, 1) := by decide +kernel
theorem dX12_runs_111 : decode cX12_runs 111 = .ok (.iaload, 1) := by decide +kernel
theorem dX12_runs_112 : decode cX12_runs 112 = .ok (.iastore, 1) := by decide +kernel
theorem dX12_runs_113 : decode cX12_runs 113 = .ok (.iinc 2 1, 3) := by decide +kernel
theorem dX12_runs_116 : decode cX12_runs 116 = .ok (.goto (-61), 3) := by decide +kernel
theorem dX12_runs_119 : decode cX12_runs 119 = .ok (.aload_n 0, 1) := by decide +kernel
theorem dX12_runs_120 : decode cX12_runs 120 = .ok (.iload_n 1, 1) := by decide +kernel
theorem dX12_runs_121 : decode cX12_runs 121 = .ok (.invokevirtual 390, 3) := by decide +kernel
theorem dX12_runs_124 : decode cX12_runs 124 = .ok (.iconst 0, 1) := by decide +kernel
theorem dX12_runs_125 : decode cX12_runs 125 = .ok (.istore_n 2, 1) := by decide +kernel
theorem dX12_runs_126 : decode cX12_runs 126 = .ok (.iload_n 2, 1) := by decide +kernel
theorem dX12_runs_127 : decode cX12_runs 127 = .ok (.aload_n 0, 1) := by decide +kernel
theorem dX12_runs_128 : decode cX12_runs 128 = .ok (.getfield 23, 3) := by decide +kernel
theorem dX12_runs_131 : decode cX12_runs 131 = .ok (.bipush 6, 2) := by decide +kernel
theorem dX12_runs_133 : decode cX12_runs 133 = .ok (.iaload, 1) := by decide +kernel
theorem dX12_runs_134 : decode cX12_runs 134 = .ok (.if_icmp .ge 102, 3) := by decide +kernel
theorem dX12_runs_137 : decode cX12_runs 137 = .ok (.aload_n 0, 1) := by decide +kernel
theorem dX12_runs_138 : decode cX12_runs 138 = .ok (.getfield 127, 3) := by decide +kernel
theorem dX12_runs_141 : decode cX12_runs 141 = .ok (.iload_n 2, 1) := by decide +kernel
theorem dX12_runs_142 : decode cX12_runs 142 = .ok (.iaload, 1) := by decide +kernel
theorem dX12_runs_143 : decode cX12_runs 143 = .ok (.iconst (-1), 1) := by decide +kernel
theorem dX12_runs_144 : decode cX12_runs 144 = .ok (.if_icmp .eq 86, 3) := by decide +kernel
theorem dX12_runs_147 : decode cX12_runs 147 = .ok (.aload_n 0, 1) := by decide +kernel
theorem dX12_runs_148 : decode cX12_runs 148 = .ok (.iload_n 1, 1) := by decide +kernel
theorem dX12_runs_149 : decode cX12_runs 149 = .ok (.aload_n 0, 1) := by decide +kernel
theorem dX12_runs_150 : decode cX12_runs 150 = .ok (.getfield 127, 3) := by decide +kernel
theorem dX12_runs_153 : decode cX12_runs 153 = .ok (.iload_n 2, 1) := by decide +kernel
theorem dX12_runs_154 : decode cX12_runs 154 = .ok (.iaload, 1) := by decide +kernel
theorem dX12_runs_155 : decode cX12_runs 155 = .ok (.invokevirtual 393, 3) := by decide +kernel
theorem dX12_runs_158 : decode cX12_runs 158 = .ok (.ifCond .ne 31, 3) := by decide +kernel
theorem dX12_runs_161 : decode cX12_runs 161 = .ok (.aload_n 0, 1) := by decide +kernel
theorem dX12_runs_162 : decode cX12_runs 162 = .ok (.iload_n 1, 1) := by decide +kernel
theorem dX12_runs_163 : decode cX12_runs 163 = .ok (.aload_n 0, 1) := by decide +kernel
theorem dX12_runs_164 : decode cX12_runs 164 = .ok (.getfield 127, 3) := by decide +kernel
theorem dX12_runs_167 : decode cX12_runs 167 = .ok (.iload_n 2, 1) := by decide +kernel
theorem dX12_runs_168 : decode cX12_runs 168 = .ok (.iaload, 1) := by decide +kernel
theorem dX12_runs_169 : decode cX12_runs 169 = .ok (.aload_n 0, 1) := by decide +kernel
theorem dX12_runs_170 : decode cX12_runs 170 = .ok (.getfield 61, 3) := by decide +kernel
theorem dX12_runs_173 : decode cX12_runs 173 = .ok (.iload_n 2, 1) := by decide +kernel
theorem dX12_runs_174 : decode cX12_runs 174 = .ok (.aaload, 1) := by decide +kernel
theorem dX12_runs_175 : decode cX12_runs 175 = .ok (.iconst 1, 1) := by decide +kernel
theorem dX12_runs_176 : decode cX12_runs 176 = .ok (.iaload, 1) := by decide +kernel
theorem dX12_runs_177 : decode cX12_runs 177 = .ok (.iadd, 1) := by decide +kernel
theorem dX12_runs_178 : decode cX12_runs 178 = .ok (.iconst 1, 1) := by decide +kernel
theorem dX12_runs_179 : decode cX12_runs 179 = .ok (.isub, 1) := by decide +kernel
theorem dX12_runs_180 : decode cX12_runs 180 = .ok (.invokevirtual 393, 3) := by decide +kernel
theorem dX12_runs_183 : decode cX12_runs 183 = .ok (.ifCond .ne 6, 3) := by decide +kernel
theorem dX12_runs_186 : decode cX12_runs 186 = .ok (.goto 44, 3) := by decide +kernel
theorem dX12_runs_189 : decode cX12_runs 189 = .ok (.aload_n 0, 1) := by decide +kernel
theorem dX12_runs_190 : decode cX12_runs 190 = .ok (.getfield 127, 3) := by decide +kernel
theorem dX12_runs_193 : decode cX12_runs 193 = .ok (.iload_n 2, 1) := by decide +kernel
theorem dX12_runs_194 : decode cX12_runs 194 = .ok (.iconst (-1), 1) := by decide +kernel
theorem dX12_runs_195 : decode cX12_runs 195 = .ok (.iastore, 1) := by decide +kernel
theorem dX12_runs_196 : decode cX12_runs 196 = .ok (.aload_n 0, 1) := by decide +kernel
theorem dX12_runs_197 : decode cX12_runs 197 = .ok (.getfield 130, 3) := by decide +kernel
theorem dX12_runs_200 : decode cX12_runs 200 = .ok (.iload_n 2, 1) := by decide +kernel
theorem dX12_runs_201 : decode cX12_runs 201 = .ok (.iload_n 1, 1) := by decide +kernel
theorem dX12_runs_202 : decode cX12_runs 202 = .ok (.iastore, 1) := by decide +kernel
theorem dX12_runs_203 : decode cX12_runs 203 = .ok (.aload_n 0, 1) := by decide +kernel
theorem dX12_runs_204 : decode cX12_runs 204 = .ok (.getfield 133, 3) := by decide +kernel
theorem dX12_runs_207 : decode cX12_runs 207 = .ok (.aload_n 0, 1) := by decide +kernel
theorem dX12_runs_208 : decode cX12_runs 208 = .ok (.getfield 387, 3) := by decide +kernel
theorem dX12_runs_211 : decode cX12_runs 211 = .ok (.iload_n 2, 1) := by decide +kernel
theorem dX12_runs_212 : decode cX12_runs 212 = .ok (.iastore, 1) := by decide +kernel
theorem dX12_runs_213 : decode cX12_runs 213 = .ok (.aload_n 0, 1) := by decide +kernel
theorem dX12_runs_214 : decode cX12_runs 214 = .ok (.dup, 1) := by decide +kernel
theorem dX12_runs_215 : decode cX12_runs 215 = .ok (.getfield 387, 3) := by decide +kernel
theorem dX12_runs_218 : decode cX12_runs 218 = .ok (.iconst 1, 1) := by decide +kernel
theorem dX12_runs_219 : decode cX12_runs 219 = .ok (.iadd, 1) := by decide +kernel
theorem dX12_runs_220 : decode cX12_runs 220 = .ok (.putfield 387, 3) := by decide +kernel
theorem dX12_runs_223 : decode cX12_runs 223 = .ok (.aload_n 0, 1) := by decide +kernel
theorem dX12_runs_224 : decode cX12_runs 224 = .ok (.iload_n 1, 1) := by decide +kernel
theorem dX12_runs_225 : decode cX12_runs 225 = .ok (.invokevirtual 390, 3) := by decide +kernel
theorem dX12_runs_228 : decode cX12_runs 228 = .ok (.iconst (-1), 1) := by decide +kernel
theorem dX12_runs_229 : decode cX12_runs 229 = .ok (.istore_n 2, 1) := by decide +kernel
theorem dX12_runs_230 : decode cX12_runs 230 = .ok (.iinc 2 1, 3) := by decide +kernel
theorem dX12_runs_233 : decode cX12_runs 233 = .ok (.goto (-107), 3) := by decide +kernel
theorem dX12_runs_236 : decode cX12_runs 236 = .ok (.iconst 0, 1) := by decide +kernel
theorem dX12_runs_237 : decode cX12_runs 237 = .ok (.istore_n 2, 1) := by decide +kernel
theorem dX12_runs_238 : decode cX12_runs 238 = .ok (.iload_n 2, 1) := by decide +kernel
theorem dX12_runs_239 : decode cX12_runs 239 = .ok (.aload_n 0, 1) := by decide +kernel
theorem dX12_runs_240 : decode cX12_runs 240 = .ok (.getfield 23, 3) := by decide +kernel
theorem dX12_runs_243 : decode cX12_runs 243 = .ok (.bipush 6, 2) := by decide +kernel
theorem dX12_runs_245 : decode cX12_runs 245 = .ok (.iaload, 1) := by decide +kernel
theorem dX12_runs_246 : decode cX12_runs 246 = .ok (.if_icmp .ge 23, 3) := by decide +kernel
theorem dX12_runs_249 : decode cX12_runs 249 = .ok (.aload_n 0, 1) := by decide +kernel
theorem dX12_runs_250 : decode cX12_runs 250 = .ok (.getfield 124, 3) := by decide +kernel
theorem dX12_runs_253 : decode cX12_runs 253 = .ok (.iload_n 1, 1) := by decide +kernel
theorem dX12_runs_254 : decode cX12_runs 254 = .ok (.aaload, 1) := by decide +kernel
theorem dX12_runs_255 : decode cX12_runs 255 = .ok (.iload_n 2, 1) := by decide +kernel
theorem dX12_runs_256 : decode cX12_runs 256 = .ok (.aload_n 0, 1) := by decide +kernel
theorem dX12_runs_257 : decode cX12_runs 257 = .ok (.getfield 127, 3) := by decide +kernel
theorem dX12_runs_260 : decode cX12_runs 260 = .ok (.iload_n 2, 1) := by decide +kernel
theorem dX12_runs_261 : decode cX12_runs 261 = .ok (.iaload, 1) := by decide +kernel
theorem dX12_runs_262 : decode cX12_runs 262 = .ok (.iastore, 1) := by decide +kernel
theorem dX12_runs_263 : decode cX12_runs 263 = .ok (.iinc 2 1, 3) := by decide +kernel
theorem dX12_runs_266 : decode cX12_runs 266 = .ok (.goto (-28), 3) := by decide +kernel
theorem dX12_runs_269 : decode cX12_runs 269 = .ok (.iinc 1 1, 3) := by decide +kernel
theorem dX12_runs_272 : decode cX12_runs 272 = .ok (.goto (-225), 3) := by decide +kernel
theorem dX12_runs_275 : decode cX12_runs 275 = .ok (.aload_n 0, 1) := by decide +kernel
theorem dX12_runs_276 : decode cX12_runs 276 = .ok (.getfield 387, 3) := by decide +kernel
theorem dX12_runs_279 : decode cX12_runs 279 = .ok (.ireturn, 1) := by decide +kernel
theorem ct_X12_runs {g : Gw} (hG : GF g) {z : Bool} (E : Mm) (P : SP) (Q : RX) (hP : WS P) (hR_E : RTS E P Q) (G : GP) (T : LN) (hm_E : RMv E T) (hT : WT (sW P) (sB P) T) (hbr_E : ∀ h c, h < 24 → c < sW P → E (708 + h) c = bOn G h c) : CT g yX12_runs cX12_runs 3 (some .int) 2 47 0 0 K2 z [mR 125] (ov E) K2 z (fun r D' => r = some (mI (dN (dyP G (sB P) T 24) : Nat)) ∧ ∃ E1, D' = ov E1 ∧ RD E1 (sB P) (dyP G (sB P) T 24) ∧ RHr E1 G (sB P) T (sW P) 24 ∧ ((∀ q, ¬ (733 ≤ q ∧ q ≤ 756) → ¬ (758 ≤ q ∧ q ≤ 784) → q ≠ 125 → E1 q = E q) ∧ ∀ k, k ≠ 60 → E1 125 k = E 125 k)) := by
  refine CT.mk hG (by decide +kernel) (Nat.le_of_ble_eq_true rfl) (fun κ X Rt _ ok => ?_)
  have hN8 := hP.B.N
  have hW40 := hP.W
  have hT16 := hT.1
  refine at_aload_n 1 X rfl rfl dX12_runs_0 rfl ?_
  refine at_iconst 2 X (by decide) dX12_runs_1 rfl ?_
  refine m_putI 5 X f_X12_387 fw_12_60 k_125 rn_125_60 dX12_runs_2 rfl ?_
  refine at_iconst 6 X (by decide) dX12_runs_5 rfl ?_
  refine at_istore_n 7 X rfl dX12_runs_6 rfl (by decide) ?_
  have J7 : ∀ (f7 : Nat) (F0 : Mm) (b : Nat), 8 - b < f7 → (b ≤ bN (sB P)) → (F0 125 60 = 0) → ((∀ k, k < b → F0 782 k = (bX (sB P) k : Int))) → ((∀ k, k < b → F0 783 k = -1)) → (((∀ q, q ≠ 782 → q ≠ 783 → q ≠ 125 → F0 q = E q) ∧ ∀ k, k ≠ 60 → F0 125 k = E 125 k)) → AT g κ K2 z 0 0 7 [(0, mR 125), (1, mI ((b : Nat) : Int))] [] (ov F0) := by
    intro f7
    induction f7 with
    | zero => intro F0 b hf7; omega
    | succ f7 ih7 =>
    intro F0 b hf7 hb h60 hz1 hz2 hf_F0
    refine at_iload_n 8 X rfl rfl dX12_runs_7 rfl ?_
    have hR_F0 : RTS F0 P Q := hR_E.fr (fun q hq => hf_F0.1 q (by omega) (by omega) (by omega)) hP
    refine at_aload_n 9 X rfl rfl dX12_runs_8 rfl ?_
    refine m_getR 12 X f_X12_23 k_125 r_125_12 dX12_runs_9 rfl ?_
    refine at_bipush 14 X (by decide) (by decide) dX12_runs_12 rfl ?_
    refine m_ialoadV 15 X 6 (by omega) ((bN (sB P) : Nat) : Int) hR_F0.1.2.2.2.2.2.2.1 k_129 e_129 (by omega) dX12_runs_14 rfl ?_
    have := hP.B.N
    refine at_icmp_ge 18 45 X dX12_runs_15 rfl (by decide) (fun h15 => ?_) (fun h15 => ?_)
    · refine at_iconst 46 X (by decide) dX12_runs_45 rfl ?_
      refine at_istore_n 47 X rfl dX12_runs_46 rfl (by decide) ?_
      have J47 : ∀ (f47 : Nat) (F : Mm) (h : Nat), 24 - h < f47 → (h ≤ 24) → (RD F (sB P) (dyP G (sB P) T h)) → (RHr F G (sB P) T (sW P) h) → (((∀ q, ¬ (733 ≤ q ∧ q ≤ 756) → ¬ (758 ≤ q ∧ q ≤ 784) → q ≠ 125 → F q = E q) ∧ ∀ k, k ≠ 60 → F 125 k = E 125 k)) → AT g κ K2 z 0 0 47 [(0, mR 125), (1, mI ((h : Nat) : Int))] [] (ov F) := by
        intro f47
        induction f47 with
        | zero => intro F h hf47; omega
        | succ f47 ih47 =>
        intro F h hf47 hh hd_F hh_F hf_F
        refine at_iload_n 48 X rfl rfl dX12_runs_47 rfl ?_
        refine at_bipush 50 X (by decide) (by decide) dX12_runs_48 rfl ?_
        refine at_icmp_ge 53 275 X dX12_runs_50 rfl (by decide) (fun h50 => ?_) (fun h50 => ?_)
        · refine at_aload_n 276 X rfl rfl dX12_runs_275 rfl ?_
          refine m_getIV 279 X ((dN (dyP G (sB P) T h) : Nat) : Int) hd_F.2.2.2 f_X12_387 k_125 rn_125_60 dX12_runs_276 rfl ?_
          refine at_iret X Rt ?_ (Nat.le_refl _) (Nat.le_refl _) dX12_runs_279
          have h24 : h = 24 := by omega
          subst h24
          exact ⟨rfl, F, rfl, hd_F, hh_F, hf_F⟩
        · have hDI := dyP_DI (G := G) hP.B hT (n := h) (by omega)
          have hDM := mvD_DI (h := h) hT hDI
          have hbr_F : ∀ h c, h < 24 → c < sW P → F (708 + h) c = bOn G h c := fun h c hh hc => by rw [hf_F.1 (708 + h) (by omega) (by omega) (by omega)]; exact hbr_E h c hh hc
          refine at_iconst 54 X (by decide) dX12_runs_53 rfl ?_
          refine at_istore_n 55 X rfl dX12_runs_54 rfl (by decide) ?_
          have J55 : ∀ (f55 : Nat) (F2 : Mm) (k : Nat), 16 - k < f55 → (k ≤ T.1) → ((∀ b, b < bN (sB P) → F2 782 b = mvN T h (dP (dyP G (sB P) T h)) k b)) → ((∀ q, q ≠ 782 → F2 q = F q)) → AT g κ K2 z 0 0 55 [(0, mR 125), (1, mI ((h : Nat) : Int)), (2, mI ((k : Nat) : Int))] [] (ov F2) := by
            intro f55
            induction f55 with
            | zero => intro F2 k hf55; omega
            | succ f55 ih55 =>
            intro F2 k hf55 hk hpl_F2 hq2
            refine at_iload_n 56 X rfl rfl dX12_runs_55 rfl ?_
            have hm_F2 : RMv F2 T := ⟨by rw [hq2 125 (by decide)]; exact (hf_F.2 43 (by decide)).trans hm_E.1, fun i hi => by rw [hq2 (581 + i) (by have := hT.1; omega), hf_F.1 (581 + i) (by have := hT.1; omega) (by have := hT.1; omega) (by have := hT.1; omega)]; exact hm_E.2 i hi⟩
            have hR_F2 : RTS F2 P Q := hR_E.fr (fun q hq => (hq2 q (by omega)).trans (hf_F.1 q (by omega) (by omega) (by omega))) hP
            refine at_aload_n 57 X rfl rfl dX12_runs_56 rfl ?_
            refine m_getIV 60 X ((T.1 : Nat) : Int) hm_F2.1 f_X12_261 k_125 rn_125_43 dX12_runs_57 rfl ?_
            refine at_icmp_ge 63 119 X dX12_runs_60 rfl (by decide) (fun h60 => ?_) (fun h60 => ?_)
            · refine at_aload_n 120 X rfl rfl dX12_runs_119 rfl ?_
              refine at_iload_n 121 X rfl rfl dX12_runs_120 rfl ?_
              have hpl2 : ∀ b, b < bN (sB P) → F2 782 b = mvP T h (dP (dyP G (sB P) T h)) b := fun b hb => by unfold mvP; rw [show T.1 = k by omega]; exact hpl_F2 b hb
              refine at_callV 124 X _ 12 (ct_X12_rest hG F2 P Q hP hR_F2 (mvP T h (dP (dyP G (sB P) T h))) hpl2 hDM.1 h (by omega)) clX12 rfl k_125 mo_X12_rest w_2209 vo_X12_rest.1 vo_X12_rest.2 rfl rfl (crm Rt (by decide)) (Nat.le_of_ble_eq_true rfl) dX12_runs_121 rfl ?_
              rintro _ _ ⟨rfl, F3, rfl, hr_F3, hq_F3⟩
              refine at_iconst 125 X (by decide) dX12_runs_124 rfl ?_
              refine at_istore_n 126 X rfl dX12_runs_125 rfl (by decide) ?_
              have J126 : ∀ (f126 : Nat) (F4 : Mm) (b : Nat) (f : Nat), (8 - f) * 9 + (9 - b) < f126 → (b ≤ f) → (f ≤ bN (sB P)) → ((∀ j, j < f → ¬ ovr G (sB P) h (dP (drN G (sB P) h (mvD T h (dyP G (sB P) T h)) f)) j)) → (RD F4 (sB P) (drN G (sB P) h (mvD T h (dyP G (sB P) T h)) f)) → ((∀ c, c < sW P → F4 (733 + h) c = wtN (sB P) (dP (drN G (sB P) h (mvD T h (dyP G (sB P) T h)) f)) c (bN (sB P)))) → (((∀ q, q ≠ 733 + h → q ≠ 782 → q ≠ 783 → q ≠ 784 → q ≠ 125 → F4 q = F q) ∧ ∀ k, k ≠ 60 → F4 125 k = F 125 k)) → AT g κ K2 z 0 0 126 [(0, mR 125), (1, mI ((h : Nat) : Int)), (2, mI ((b : Nat) : Int))] [] (ov F4) := by
                intro f126
                induction f126 with
                | zero => intro F4 b f hf126; omega
                | succ f126 ih126 =>
                intro F4 b f hf126 hbf hfn hno hd_F4 hr_F4 hf4
                refine at_iload_n 127 X rfl rfl dX12_runs_126 rfl ?_
                have hR_F4 : RTS F4 P Q := hR_E.fr (fun q hq => (hf4.1 q (by omega) (by omega) (by omega) (by omega) (by omega)).trans (hf_F.1 q (by omega) (by omega) (by omega))) hP
                refine at_aload_n 128 X rfl rfl dX12_runs_127 rfl ?_
                refine m_getR 131 X f_X12_23 k_125 r_125_12 dX12_runs_128 rfl ?_
                refine at_bipush 133 X (by decide) (by decide) dX12_runs_131 rfl ?_
                refine m_ialoadV 134 X 6 (by omega) ((bN (sB P) : Nat) : Int) hR_F4.1.2.2.2.2.2.2.1 k_129 e_129 (by omega) dX12_runs_133 rfl ?_
                have := hP.B.N
                refine at_icmp_ge 137 236 X dX12_runs_134 rfl (by decide) (fun h134 => ?_) (fun h134 => ?_)
                · refine at_iconst 237 X (by decide) dX12_runs_236 rfl ?_
                  refine at_istore_n 238 X rfl dX12_runs_237 rfl (by decide) ?_
                  have J238 : ∀ (f238 : Nat) (F5 : Mm) (b2 : Nat), 8 - b2 < f238 → (b2 ≤ bN (sB P)) → (RD F5 (sB P) (dyP G (sB P) T (h + 1))) → ((∀ k, k < b2 → F5 (758 + h) k = dP (dyP G (sB P) T (h + 1)) k)) → ((∀ q, q ≠ 758 + h → F5 q = F4 q)) → AT g κ K2 z 0 0 238 [(0, mR 125), (1, mI ((h : Nat) : Int)), (2, mI ((b2 : Nat) : Int))] [] (ov F5) := by
                    intro f238
                    induction f238 with
                    | zero => intro F5 b2 hf238; omega
                    | succ f238 ih238 =>
                    intro F5 b2 hf238 hb2 hd_F5 hz5 hq5
                    refine at_iload_n 239 X rfl rfl dX12_runs_238 rfl ?_
                    have hR_F5 : RTS F5 P Q := hR_F4.fr (fun q hq => hq5 q (by omega)) hP
                    refine at_aload_n 240 X rfl rfl dX12_runs_239 rfl ?_
                    refine m_getR 243 X f_X12_23 k_125 r_125_12 dX12_runs_240 rfl ?_
                    refine at_bipush 245 X (by decide) (by decide) dX12_runs_243 rfl ?_
                    refine m_ialoadV 246 X 6 (by omega) ((bN (sB P) : Nat) : Int) hR_F5.1.2.2.2.2.2.2.1 k_129 e_129 (by omega) dX12_runs_245 rfl ?_
                    have := hP.B.N
                    refine at_icmp_ge 249 269 X dX12_runs_246 rfl (by decide) (fun h246 => ?_) (fun h246 => ?_)
                    · refine at_iincV 272 X ((h + 1 : Nat) : Int) (w32_v (by omega) (by omega) (by omega)) rfl dX12_runs_269 rfl (by decide) ?_
                      refine at_goto 47 X dX12_runs_272 (by decide) ?_
                      exact at_sub _ (by exact ⟨rfl, rfl, trivial⟩) (ih47 F5 (h + 1) (by first | omega | (simp only [] at *; omega)) (by first | omega | assumption) hd_F5 ⟨fun t k ht hk => if e : t = h then by subst e; exact hz5 k (by omega) else by rw [hq5 (758 + t) (by omega), hf4.1 (758 + t) (by omega) (by omega) (by omega) (by omega) (by omega)]; exact hh_F.1 t k (by omega) hk, fun t c ht hc => if e : t = h then by subst e; rw [hq5 (733 + t) (by omega)]; have := hr_F4 c hc; rw [show f = bN (sB P) by omega] at this; exact this else by rw [hq5 (733 + t) (by omega), hf4.1 (733 + t) (by omega) (by omega) (by omega) (by omega) (by omega)]; exact hh_F.2 t c (by omega) hc⟩ ⟨fun q h1 h2 h3 => by rw [hq5 q (by omega), hf4.1 q (by omega) (by omega) (by omega) (by omega) h3]; exact hf_F.1 q h1 h2 h3, fun k hk => by rw [hq5 125 (by omega)]; exact (hf4.2 k hk).trans (hf_F.2 k hk)⟩)
                    · refine at_aload_n 250 X rfl rfl dX12_runs_249 rfl ?_
                      refine m_getR 253 X f_X12_124 k_125 r_125_56 dX12_runs_250 rfl ?_
                      refine at_iload_n 254 X rfl rfl dX12_runs_253 rfl ?_
                      refine m_aaloadV 255 X h (by omega) k_757 (by decide) (by omega) (rr_757 _ (by omega)) dX12_runs_254 rfl ?_
                      refine at_iload_n 256 X rfl rfl dX12_runs_255 rfl ?_
                      refine at_aload_n 257 X rfl rfl dX12_runs_256 rfl ?_
                      refine m_getR 260 X f_X12_127 k_125 r_125_57 dX12_runs_257 rfl ?_
                      refine at_iload_n 261 X rfl rfl dX12_runs_260 rfl ?_
                      refine m_ialoadV 262 X b2 (by omega) (dP (dyP G (sB P) T (h + 1)) b2) (hd_F5.1 b2 (by omega)) k_782 e_782 (by omega) dX12_runs_261 rfl ?_
                      refine m_iastoreV 263 X b2 (by omega) (kr_757 _ (by omega)) (er_757 _ (by omega)) (by omega) dX12_runs_262 rfl ?_
                      refine at_iincV 266 X ((b2 + 1 : Nat) : Int) (w32_v (by omega) (by omega) (by omega)) rfl dX12_runs_263 rfl (by decide) ?_
                      refine at_goto 238 X dX12_runs_266 (by decide) ?_
                      exact at_sub _ (by exact ⟨rfl, rfl, rfl, trivial⟩) (ih238 (wr F5 (758 + h) b2 (dP (dyP G (sB P) T (h + 1)) b2)) (b2 + 1) (by first | omega | (simp only [] at *; omega)) (by first | omega | assumption) (hd_F5.fr (wr_row (by omega)) (wr_row (by omega)) (wr_row (by omega)) (wr_o (Or.inl (by omega)))) (row_ext hz5 rfl) (fun q hq => by rw [wr_row hq]; exact hq5 q hq))
                  exact at_sub _ (by exact ⟨rfl, rfl, rfl, trivial⟩) (J238 _ F4 0 (Nat.lt_succ_self _) (by first | omega | assumption | rfl) (by have e := hd_F4; rw [show f = bN (sB P) by omega] at e; exact e) (fun j hj => absurd hj (Nat.not_lt_zero j)) (fun _ _ => rfl))
                · have hDIf := drN_DI (G := G) (h := h) (d := (mvD T h (dyP G (sB P) T h))) (by omega) hP.B hDM (n := f) (by omega)
                  have hPb := hDIf.1 b (by omega)
                  have hbr_F4 : ∀ h c, h < 24 → c < sW P → F4 (708 + h) c = bOn G h c := fun h c hh hc => by rw [hf4.1 (708 + h) (by omega) (by omega) (by omega) (by omega) (by omega)]; exact hbr_F h c hh hc
                  refine at_aload_n 138 X rfl rfl dX12_runs_137 rfl ?_
                  refine m_getR 141 X f_X12_127 k_125 r_125_57 dX12_runs_138 rfl ?_
                  refine at_iload_n 142 X rfl rfl dX12_runs_141 rfl ?_
                  refine m_ialoadV 143 X b (by omega) (dP (drN G (sB P) h (mvD T h (dyP G (sB P) T h)) f) b) (hd_F4.1 b (by omega)) k_782 e_782 (by omega) dX12_runs_142 rfl ?_
                  refine at_iconst 144 X (by decide) dX12_runs_143 rfl ?_
                  refine at_icmp_eq 147 230 X dX12_runs_144 rfl (by decide) (fun h144 => ?_) (fun h144 => ?_)
                  · have hnb : ¬ ovr G (sB P) h (dP (drN G (sB P) h (mvD T h (dyP G (sB P) T h)) f)) b := by
                      rintro ⟨q1, q2⟩
                      exact q1 (by omega)
                    have e1 : drN G (sB P) h (mvD T h (dyP G (sB P) T h)) (if b < f then f else f + 1) = (drN G (sB P) h (mvD T h (dyP G (sB P) T h)) f) := by
                      by_cases c : b < f
                      · rw [if_pos c]
                      · rw [if_neg c, drN_s, drS_no (by rw [show f = b by omega] at hnb ⊢; exact hnb)]
                    refine at_iincV 233 X ((b + 1 : Nat) : Int) (w32_v (by omega) (by omega) (by omega)) rfl dX12_runs_230 rfl (by decide) ?_
                    refine at_goto 126 X dX12_runs_233 (by decide) ?_
                    exact at_sub _ (by exact ⟨rfl, rfl, rfl, trivial⟩) (ih126 F4 (b + 1) (if b < f then f else f + 1) (by split <;> omega) (by split <;> omega) (by split <;> omega) (fun j hj => by rw [e1]; exact if c : b < f then hno j (by rw [if_pos c] at hj; exact hj) else if c2 : j = f then (by rw [show j = b by omega]; exact hnb) else hno j (by rw [if_neg c] at hj; omega)) (by rw [e1]; exact hd_F4) (fun c hc => by rw [e1]; exact hr_F4 c hc) hf4)
                  · obtain ⟨x, hx⟩ : ∃ x : Nat, dP (drN G (sB P) h (mvD T h (dyP G (sB P) T h)) f) b = (x : Int) := ⟨(dP (drN G (sB P) h (mvD T h (dyP G (sB P) T h)) f) b).toNat, by omega⟩
                    have hl2 := hP.B.L (b := b) (by omega)
                    have J189 : (ovr G (sB P) h (dP (drN G (sB P) h (mvD T h (dyP G (sB P) T h)) f)) b) → AT g κ K2 z 0 0 189 [(0, mR 125), (1, mI ((h : Nat) : Int)), (2, mI ((b : Nat) : Int))] [] (ov F4) := by
                      intro hov
                      have hbf2 : b = f := by
                        rcases Nat.lt_or_ge b f with c | c
                        · exact absurd hov (hno b c)
                        · omega
                      have e1 : drN G (sB P) h (mvD T h (dyP G (sB P) T h)) (f + 1) = (updf (dP (drN G (sB P) h (mvD T h (dyP G (sB P) T h)) f)) b (-1), updf (dF (drN G (sB P) h (mvD T h (dyP G (sB P) T h)) f)) b (h : Int), (fun i => if i = dN (drN G (sB P) h (mvD T h (dyP G (sB P) T h)) f) then b else dO (drN G (sB P) h (mvD T h (dyP G (sB P) T h)) f) i), dN (drN G (sB P) h (mvD T h (dyP G (sB P) T h)) f) + 1) := by rw [drN_s, ← hbf2, drS_yes (by rw [← hbf2] at hov; exact hov)]
                      have hdn : dN (drN G (sB P) h (mvD T h (dyP G (sB P) T h)) f) < 8 := by
                        have h1 := cntp_lt (p := fun b' => decide (dP (drN G (sB P) h (mvD T h (dyP G (sB P) T h)) f) b' = -1)) (b := b) (n := bN (sB P)) (by omega) (by simp only [decide_eq_true_eq]; exact hov.1)
                        have h2 := hDIf.2.1
                        omega
                      refine at_aload_n 190 X rfl rfl dX12_runs_189 rfl ?_
                      refine m_getR 193 X f_X12_127 k_125 r_125_57 dX12_runs_190 rfl ?_
                      refine at_iload_n 194 X rfl rfl dX12_runs_193 rfl ?_
                      refine at_iconst 195 X (by decide) dX12_runs_194 rfl ?_
                      refine m_iastoreV 196 X b (by omega) k_782 e_782 (by omega) dX12_runs_195 rfl ?_
                      refine at_aload_n 197 X rfl rfl dX12_runs_196 rfl ?_
                      refine m_getR 200 X f_X12_130 k_125 r_125_58 dX12_runs_197 rfl ?_
                      refine at_iload_n 201 X rfl rfl dX12_runs_200 rfl ?_
                      refine at_iload_n 202 X rfl rfl dX12_runs_201 rfl ?_
                      refine m_iastoreV 203 X b (by omega) k_783 e_783 (by omega) dX12_runs_202 rfl ?_
                      refine at_aload_n 204 X rfl rfl dX12_runs_203 rfl ?_
                      refine m_getR 207 X f_X12_133 k_125 r_125_59 dX12_runs_204 rfl ?_
                      refine at_aload_n 208 X rfl rfl dX12_runs_207 rfl ?_
                      refine m_getIV 211 X ((dN (drN G (sB P) h (mvD T h (dyP G (sB P) T h)) f) : Nat) : Int) ((wr_o (by omega)).trans ((wr_o (by omega)).trans hd_F4.2.2.2)) f_X12_387 k_125 rn_125_60 dX12_runs_208 rfl ?_
                      refine at_iload_n 212 X rfl rfl dX12_runs_211 rfl ?_
                      refine m_iastoreV 213 X (dN (drN G (sB P) h (mvD T h (dyP G (sB P) T h)) f)) (by omega) k_784 e_784 (by omega) dX12_runs_212 rfl ?_
                      refine at_aload_n 214 X rfl rfl dX12_runs_213 rfl ?_
                      refine at_dup 215 X (show ¬ (2 : Nat) = 1 by decide) dX12_runs_214 rfl ?_
                      refine m_getIV 218 X ((dN (drN G (sB P) h (mvD T h (dyP G (sB P) T h)) f) : Nat) : Int) ((wr_o (by omega)).trans ((wr_o (by omega)).trans ((wr_o (by omega)).trans hd_F4.2.2.2))) f_X12_387 k_125 rn_125_60 dX12_runs_215 rfl ?_
                      refine at_iconst 219 X (by decide) dX12_runs_218 rfl ?_
                      refine at_iaddV 220 X ((dN (drN G (sB P) h (mvD T h (dyP G (sB P) T h)) f) + 1 : Nat) : Int) (w32_v (by omega) (by omega) (by omega)) dX12_runs_219 rfl ?_
                      refine m_putI 223 X f_X12_387 fw_12_60 k_125 rn_125_60 dX12_runs_220 rfl ?_
                      refine at_aload_n 224 X rfl rfl dX12_runs_223 rfl ?_
                      refine at_iload_n 225 X rfl rfl dX12_runs_224 rfl ?_
                      generalize hF8 : wr (wr (wr (wr F4 782 b (-1)) 783 b ((h : Nat) : Int)) 784 (dN (drN G (sB P) h (mvD T h (dyP G (sB P) T h)) f)) ((b : Nat) : Int)) 125 60 ((dN (drN G (sB P) h (mvD T h (dyP G (sB P) T h)) f) + 1 : Nat) : Int) = F8
                      have hq8 : ∀ q, q ≠ 782 → q ≠ 783 → q ≠ 784 → q ≠ 125 → F8 q = F4 q := fun q h1 h2 h3 h4 => by rw [← hF8]; simp (disch := omega) only [wr_row]
                      have h125 : ∀ k, k ≠ 60 → F8 125 k = F4 125 k := fun k hk => by rw [← hF8]; simp (disch := omega) only [wr_o]
                      have hR8 : RTS F8 P Q := hR_F4.fr (fun q hq => hq8 q (by omega) (by omega) (by omega) (by omega)) hP
                      have hD8 : RD F8 (sB P) (updf (dP (drN G (sB P) h (mvD T h (dyP G (sB P) T h)) f)) b (-1), updf (dF (drN G (sB P) h (mvD T h (dyP G (sB P) T h)) f)) b (h : Int), (fun i => if i = dN (drN G (sB P) h (mvD T h (dyP G (sB P) T h)) f) then b else dO (drN G (sB P) h (mvD T h (dyP G (sB P) T h)) f) i), dN (drN G (sB P) h (mvD T h (dyP G (sB P) T h)) f) + 1) := by rw [← hF8]; exact RD_drop hd_F4
                      have hP8 : PLo (sW P) (sB P) (updf (dP (drN G (sB P) h (mvD T h (dyP G (sB P) T h)) f)) b (-1)) := by
                        have h := drN_DI (G := G) (h := h) (d := (mvD T h (dyP G (sB P) T h))) (by omega) hP.B hDM (n := f + 1) (by omega)
                        rw [e1] at h
                        exact h.1
                      refine at_callV 228 X _ 12 (ct_X12_rest hG F8 P Q hP hR8 (updf (dP (drN G (sB P) h (mvD T h (dyP G (sB P) T h)) f)) b (-1)) hD8.1 hP8 h (by omega)) clX12 rfl k_125 mo_X12_rest w_2209 vo_X12_rest.1 vo_X12_rest.2 rfl rfl (crm Rt (by decide)) (Nat.le_of_ble_eq_true rfl) dX12_runs_225 rfl ?_
                      rintro _ _ ⟨rfl, F6, rfl, hr_F6, hq_F6⟩
                      refine at_iconst 229 X (by decide) dX12_runs_228 rfl ?_
                      refine at_istore_n 230 X rfl dX12_runs_229 rfl (by decide) ?_
                      refine at_iincV 233 X 0 (w32_v (by decide) (by decide) (by decide)) rfl dX12_runs_230 rfl (by decide) ?_
                      refine at_goto 126 X dX12_runs_233 (by decide) ?_
                      exact at_sub _ (by exact ⟨rfl, rfl, rfl, trivial⟩) (ih126 F6 0 (if b < f then f else f + 1) (by split <;> omega) (Nat.zero_le _) (by split <;> omega) (fun j hj => by rw [if_neg (show ¬ b < f by omega)] at hj ⊢; rw [e1]; exact if c : j = b then (by subst c; rintro ⟨q1, -⟩; exact q1 (updf_s _ _ _)) else ovr_keep hP.B (by omega) (hno j (by omega))) (by rw [if_neg (show ¬ b < f by omega), e1]; exact hD8.fr (hq_F6 782 (by omega)) (hq_F6 783 (by omega)) (hq_F6 784 (by omega)) (by rw [hq_F6 125 (by omega)])) (fun c hc => by rw [if_neg (show ¬ b < f by omega), e1]; exact hr_F6 c hc) ⟨fun q h1 h2 h3 h4 h5 => (hq_F6 q h1).trans ((hq8 q h2 h3 h4 h5).trans (hf4.1 q h1 h2 h3 h4 h5)), fun k hk => by rw [hq_F6 125 (by omega)]; exact (h125 k hk).trans (hf4.2 k hk)⟩)
                    refine at_aload_n 148 X rfl rfl dX12_runs_147 rfl ?_
                    refine at_iload_n 149 X rfl rfl dX12_runs_148 rfl ?_
                    refine at_aload_n 150 X rfl rfl dX12_runs_149 rfl ?_
                    refine m_getR 153 X f_X12_127 k_125 r_125_57 dX12_runs_150 rfl ?_
                    refine at_iload_n 154 X rfl rfl dX12_runs_153 rfl ?_
                    refine m_ialoadV 155 X b (by omega) ((x : Nat) : Int) ((hd_F4.1 b (by omega)).trans hx) k_782 e_782 (by omega) dX12_runs_154 rfl ?_
                    refine at_callV 158 X _ 12 (ct_X12_isOver hG F4 P hP G (dP (drN G (sB P) h (mvD T h (dyP G (sB P) T h)) f)) h x (by omega) (by omega) (hr_F4 x (by omega)) (hbr_F4 h x (by omega) (by omega))) clX12 rfl k_125 mo_X12_isOver w_2218 vo_X12_isOver.1 vo_X12_isOver.2 rfl rfl (crm Rt (by decide)) (Nat.le_of_ble_eq_true rfl) dX12_runs_155 rfl ?_
                    rintro _ _ ⟨rfl, rfl⟩
                    refine at_if_ne 161 189 X dX12_runs_158 rfl (by decide) (fun h158 => ?_) (fun h158 => ?_)
                    · have h158 : (bOn G h x * 232792560 < wtN (sB P) (dP (drN G (sB P) h (mvD T h (dyP G (sB P) T h)) f)) x (bN (sB P))) := ite_yes.mp h158
                      exact at_sub _ (by exact ⟨rfl, rfl, rfl, trivial⟩) (J189  ⟨by rw [hx]; omega, by rw [hx, Int.toNat_natCast]; omega⟩)
                    · have h158 : ¬ (bOn G h x * 232792560 < wtN (sB P) (dP (drN G (sB P) h (mvD T h (dyP G (sB P) T h)) f)) x (bN (sB P))) := ite_no.mp h158
                      refine at_aload_n 162 X rfl rfl dX12_runs_161 rfl ?_
                      refine at_iload_n 163 X rfl rfl dX12_runs_162 rfl ?_
                      refine at_aload_n 164 X rfl rfl dX12_runs_163 rfl ?_
                      refine m_getR 167 X f_X12_127 k_125 r_125_57 dX12_runs_164 rfl ?_
                      refine at_iload_n 168 X rfl rfl dX12_runs_167 rfl ?_
                      refine m_ialoadV 169 X b (by omega) ((x : Nat) : Int) ((hd_F4.1 b (by omega)).trans hx) k_782 e_782 (by omega) dX12_runs_168 rfl ?_
                      refine at_aload_n 170 X rfl rfl dX12_runs_169 rfl ?_
                      refine m_getR 173 X f_X12_61 k_125 r_125_24 dX12_runs_170 rfl ?_
                      refine at_iload_n 174 X rfl rfl dX12_runs_173 rfl ?_
                      refine m_aaloadV 175 X b (by omega) k_227 (by decide) (by omega) (rr_227 _ (by omega)) dX12_runs_174 rfl ?_
                      refine at_iconst 176 X (by decide) dX12_runs_175 rfl ?_
                      refine m_ialoadV 177 X 1 (by omega) ((bL (sB P) b : Nat) : Int) (hR_F4.2.2.2.2.2.2 b (by omega)).2.1 (kr_227 _ (by omega)) (er_227 _ (by omega)) (by omega) dX12_runs_176 rfl ?_
                      have := hP.B.L (b := b) (by omega)
                      refine at_iaddV 178 X ((x + bL (sB P) b : Nat) : Int) (w32_v (by omega) (by omega) (by omega)) dX12_runs_177 rfl ?_
                      refine at_iconst 179 X (by decide) dX12_runs_178 rfl ?_
                      refine at_isubV 180 X ((x + bL (sB P) b - 1 : Nat) : Int) (w32_v (by omega) (by omega) (by omega)) dX12_runs_179 rfl ?_
                      refine at_callV 183 X _ 12 (ct_X12_isOver hG F4 P hP G (dP (drN G (sB P) h (mvD T h (dyP G (sB P) T h)) f)) h (x + bL (sB P) b - 1) (by omega) (by omega) (hr_F4 (x + bL (sB P) b - 1) (by omega)) (hbr_F4 h (x + bL (sB P) b - 1) (by omega) (by omega))) clX12 rfl k_125 mo_X12_isOver w_2218 vo_X12_isOver.1 vo_X12_isOver.2 rfl rfl (crm Rt (by decide)) (Nat.le_of_ble_eq_true rfl) dX12_runs_180 rfl ?_
                      rintro _ _ ⟨rfl, rfl⟩
                      refine at_if_ne 186 189 X dX12_runs_183 rfl (by decide) (fun h183 => ?_) (fun h183 => ?_)
                      · have h183 : (bOn G h (x + bL (sB P) b - 1) * 232792560 < wtN (sB P) (dP (drN G (sB P) h (mvD T h (dyP G (sB P) T h)) f)) (x + bL (sB P) b - 1) (bN (sB P))) := ite_yes.mp h183
                        exact at_sub _ (by exact ⟨rfl, rfl, rfl, trivial⟩) (J189  ⟨by rw [hx]; omega, by rw [hx, Int.toNat_natCast]; omega⟩)
                      · have h183 : ¬ (bOn G h (x + bL (sB P) b - 1) * 232792560 < wtN (sB P) (dP (drN G (sB P) h (mvD T h (dyP G (sB P) T h)) f)) (x + bL (sB P) b - 1) (bN (sB P))) := ite_no.mp h183
                        have hnb : ¬ ovr G (sB P) h (dP (drN G (sB P) h (mvD T h (dyP G (sB P) T h)) f)) b := by
                          rintro ⟨q1, q2⟩
                          rw [hx, Int.toNat_natCast] at q2; omega
                        have e1 : drN G (sB P) h (mvD T h (dyP G (sB P) T h)) (if b < f then f else f + 1) = (drN G (sB P) h (mvD T h (dyP G (sB P) T h)) f) := by
                          by_cases c : b < f
                          · rw [if_pos c]
                          · rw [if_neg c, drN_s, drS_no (by rw [show f = b by omega] at hnb ⊢; exact hnb)]
                        refine at_goto 230 X dX12_runs_186 (by decide) ?_
                        refine at_iincV 233 X ((b + 1 : Nat) : Int) (w32_v (by omega) (by omega) (by omega)) rfl dX12_runs_230 rfl (by decide) ?_
                        refine at_goto 126 X dX12_runs_233 (by decide) ?_
                        exact at_sub _ (by exact ⟨rfl, rfl, rfl, trivial⟩) (ih126 F4 (b + 1) (if b < f then f else f + 1) (by split <;> omega) (by split <;> omega) (by split <;> omega) (fun j hj => by rw [e1]; exact if c : b < f then hno j (by rw [if_pos c] at hj; exact hj) else if c2 : j = f then (by rw [show j = b by omega]; exact hnb) else hno j (by rw [if_neg c] at hj; omega)) (by rw [e1]; exact hd_F4) (fun c hc => by rw [e1]; exact hr_F4 c hc) hf4)
              exact at_sub _ (by exact ⟨rfl, rfl, rfl, trivial⟩) (J126 _ F3 0 0 (Nat.lt_succ_self _) (by first | omega | assumption | rfl) (by first | omega | assumption | rfl) (fun j hj => absurd hj (Nat.not_lt_zero j)) ⟨fun k hk => by rw [hq_F3 782 (by omega)]; exact hpl2 k hk, by rw [hq_F3 783 (by omega), hq2 783 (by decide)]; exact hd_F.2.1, by rw [hq_F3 784 (by omega), hq2 784 (by decide)]; exact hd_F.2.2.1, by rw [hq_F3 125 (by omega), hq2 125 (by decide)]; exact hd_F.2.2.2⟩ hr_F3 ⟨fun q h1 h2 h3 h4 h5 => (hq_F3 q h1).trans (hq2 q h2), fun k hk => by rw [hq_F3 125 (by omega), hq2 125 (by decide)]⟩)
            · refine at_aload_n 64 X rfl rfl dX12_runs_63 rfl ?_
              refine m_getR 67 X f_X12_92 k_125 r_125_37 dX12_runs_64 rfl ?_
              refine at_iload_n 68 X rfl rfl dX12_runs_67 rfl ?_
              refine m_aaloadV 69 X k (by omega) k_580 (by decide) (by omega) (rr_580 _ (by omega)) dX12_runs_68 rfl ?_
              refine at_iconst 70 X (by decide) dX12_runs_69 rfl ?_
              refine m_ialoadV 71 X 0 (by omega) ((T.2.1 k : Nat) : Int) (hm_F2.2 k (by omega)).1 (kr_580 _ (by omega)) (er_580 _ (by omega)) (by omega) dX12_runs_70 rfl ?_
              have := hT.2 k (by omega)
              refine at_iload_n 72 X rfl rfl dX12_runs_71 rfl ?_
              refine at_icmp_ne 75 113 X dX12_runs_72 rfl (by decide) (fun h72 => ?_) (fun h72 => ?_)
              · refine at_iincV 116 X ((k + 1 : Nat) : Int) (w32_v (by omega) (by omega) (by omega)) rfl dX12_runs_113 rfl (by decide) ?_
                refine at_goto 55 X dX12_runs_116 (by decide) ?_
                exact at_sub _ (by exact ⟨rfl, rfl, rfl, trivial⟩) (ih55 F2 (k + 1) (by first | omega | (simp only [] at *; omega)) (by first | omega | assumption) (by first | (rw [mvN_s, if_neg (fun q => h72 (by omega))]; exact hpl_F2) | (rw [mvN_s, if_neg (fun q => q.2 h89)]; exact hpl_F2) | (rw [mvN_s, if_pos ⟨by omega, h89⟩]; exact mv_rowN hpl_F2)) (by first | exact hq2 | exact (fun q hq => by rw [wr_row hq]; exact hq2 q hq)))
              · refine at_aload_n 76 X rfl rfl dX12_runs_75 rfl ?_
                refine m_getR 79 X f_X12_127 k_125 r_125_57 dX12_runs_76 rfl ?_
                refine at_aload_n 80 X rfl rfl dX12_runs_79 rfl ?_
                refine m_getR 83 X f_X12_92 k_125 r_125_37 dX12_runs_80 rfl ?_
                refine at_iload_n 84 X rfl rfl dX12_runs_83 rfl ?_
                refine m_aaloadV 85 X k (by omega) k_580 (by decide) (by omega) (rr_580 _ (by omega)) dX12_runs_84 rfl ?_
                refine at_iconst 86 X (by decide) dX12_runs_85 rfl ?_
                refine m_ialoadV 87 X 1 (by omega) ((T.2.2.1 k : Nat) : Int) (hm_F2.2 k (by omega)).2.1 (kr_580 _ (by omega)) (er_580 _ (by omega)) (by omega) dX12_runs_86 rfl ?_
                have := hT.2 k (by omega)
                refine m_ialoadV 88 X (T.2.2.1 k) (by omega) (mvN T h (dP (dyP G (sB P) T h)) k (T.2.2.1 k)) (hpl_F2 (T.2.2.1 k) (by omega)) k_782 e_782 (by omega) dX12_runs_87 rfl ?_
                refine at_iconst 89 X (by decide) dX12_runs_88 rfl ?_
                refine at_icmp_eq 92 113 X dX12_runs_89 rfl (by decide) (fun h89 => ?_) (fun h89 => ?_)
                · refine at_iincV 116 X ((k + 1 : Nat) : Int) (w32_v (by omega) (by omega) (by omega)) rfl dX12_runs_113 rfl (by decide) ?_
                  refine at_goto 55 X dX12_runs_116 (by decide) ?_
                  exact at_sub _ (by exact ⟨rfl, rfl, rfl, trivial⟩) (ih55 F2 (k + 1) (by first | omega | (simp only [] at *; omega)) (by first | omega | assumption) (by first | (rw [mvN_s, if_neg (fun q => h72 (by omega))]; exact hpl_F2) | (rw [mvN_s, if_neg (fun q => q.2 h89)]; exact hpl_F2) | (rw [mvN_s, if_pos ⟨by omega, h89⟩]; exact mv_rowN hpl_F2)) (by first | exact hq2 | exact (fun q hq => by rw [wr_row hq]; exact hq2 q hq)))
                · refine at_aload_n 93 X rfl rfl dX12_runs_92 rfl ?_
                  refine m_getR 96 X f_X12_127 k_125 r_125_57 dX12_runs_93 rfl ?_
                  refine at_aload_n 97 X rfl rfl dX12_runs_96 rfl ?_
                  refine m_getR 100 X f_X12_92 k_125 r_125_37 dX12_runs_97 rfl ?_
                  refine at_iload_n 101 X rfl rfl dX12_runs_100 rfl ?_
                  refine m_aaloadV 102 X k (by omega) k_580 (by decide) (by omega) (rr_580 _ (by omega)) dX12_runs_101 rfl ?_
                  refine at_iconst 103 X (by decide) dX12_runs_102 rfl ?_
                  refine m_ialoadV 104 X 1 (by omega) ((T.2.2.1 k : Nat) : Int) (hm_F2.2 k (by omega)).2.1 (kr_580 _ (by omega)) (er_580 _ (by omega)) (by omega) dX12_runs_103 rfl ?_
                  have := hT.2 k (by omega)
                  refine at_aload_n 105 X rfl rfl dX12_runs_104 rfl ?_
                  refine m_getR 108 X f_X12_92 k_125 r_125_37 dX12_runs_105 rfl ?_
                  refine at_iload_n 109 X rfl rfl dX12_runs_108 rfl ?_
                  refine m_aaloadV 110 X k (by omega) k_580 (by decide) (by omega) (rr_580 _ (by omega)) dX12_runs_109 rfl ?_
                  refine at_iconst 111 X (by decide) dX12_runs_110 rfl ?_
                  refine m_ialoadV 112 X 2 (by omega) ((T.2.2.2 k : Nat) : Int) (hm_F2.2 k (by omega)).2.2 (kr_580 _ (by omega)) (er_580 _ (by omega)) (by omega) dX12_runs_111 rfl ?_
                  have := hT.2 k (by omega)
                  refine m_iastoreV 113 X (T.2.2.1 k) (by omega) k_782 e_782 (by omega) dX12_runs_112 rfl ?_
                  refine at_iincV 116 X ((k + 1 : Nat) : Int) (w32_v (by omega) (by omega) (by omega)) rfl dX12_runs_113 rfl (by decide) ?_
                  refine at_goto 55 X dX12_runs_116 (by decide) ?_
                  exact at_sub _ (by exact ⟨rfl, rfl, rfl, trivial⟩) (ih55 (wr F2 782 (T.2.2.1 k) ((T.2.2.2 k : Nat) : Int)) (k + 1) (by first | omega | (simp only [] at *; omega)) (by first | omega | assumption) (by first | (rw [mvN_s, if_neg (fun q => h72 (by omega))]; exact hpl_F2) | (rw [mvN_s, if_neg (fun q => q.2 h89)]; exact hpl_F2) | (rw [mvN_s, if_pos ⟨by omega, h89⟩]; exact mv_rowN hpl_F2)) (by first | exact hq2 | exact (fun q hq => by rw [wr_row hq]; exact hq2 q hq)))
          exact at_sub _ (by exact ⟨rfl, rfl, rfl, trivial⟩) (J55 _ F 0 (Nat.lt_succ_self _) (by first | omega | assumption | rfl) hd_F.1 (fun _ _ => rfl))
      exact at_sub _ (by exact ⟨rfl, rfl, trivial⟩) (J47 _ F0 0 (Nat.lt_succ_self _) (by first | omega | assumption | rfl) ⟨fun k hk => (hz1 k (by omega)).trans (if_pos hk).symm, fun k hk => hz2 k (by omega), fun i hi => absurd hi (Nat.not_lt_zero i), h60⟩ ⟨fun t k ht => absurd ht (Nat.not_lt_zero t), fun t k ht => absurd ht (Nat.not_lt_zero t)⟩ ⟨fun q h1 h2 h3 => hf_F0.1 q (by omega) (by omega) h3, hf_F0.2⟩)
    · refine at_aload_n 19 X rfl rfl dX12_runs_18 rfl ?_
      refine m_getR 22 X f_X12_127 k_125 r_125_57 dX12_runs_19 rfl ?_
      refine at_iload_n 23 X rfl rfl dX12_runs_22 rfl ?_
      refine at_aload_n 24 X rfl rfl dX12_runs_23 rfl ?_
      refine m_getR 27 X f_X12_61 k_125 r_125_24 dX12_runs_24 rfl ?_
      refine at_iload_n 28 X rfl rfl dX12_runs_27 rfl ?_
      refine m_aaloadV 29 X b (by omega) k_227 (by decide) (by omega) (rr_227 _ (by omega)) dX12_runs_28 rfl ?_
      refine at_iconst 30 X (by decide) dX12_runs_29 rfl ?_
      refine m_ialoadV 31 X 0 (by omega) ((bX (sB P) b : Nat) : Int) (hR_F0.2.2.2.2.2.2 b (by omega)).1 (kr_227 _ (by omega)) (er_227 _ (by omega)) (by omega) dX12_runs_30 rfl ?_
      have := hP.B.X (b := b) (by omega)
      refine m_iastoreV 32 X b (by omega) k_782 e_782 (by omega) dX12_runs_31 rfl ?_
      refine at_aload_n 33 X rfl rfl dX12_runs_32 rfl ?_
      refine m_getR 36 X f_X12_130 k_125 r_125_58 dX12_runs_33 rfl ?_
      refine at_iload_n 37 X rfl rfl dX12_runs_36 rfl ?_
      refine at_iconst 38 X (by decide) dX12_runs_37 rfl ?_
      refine m_iastoreV 39 X b (by omega) k_783 e_783 (by omega) dX12_runs_38 rfl ?_
      refine at_iincV 42 X ((b + 1 : Nat) : Int) (w32_v (by omega) (by omega) (by omega)) rfl dX12_runs_39 rfl (by decide) ?_
      refine at_goto 7 X dX12_runs_42 (by decide) ?_
      exact at_sub _ (by exact ⟨rfl, rfl, trivial⟩) (ih7 (wr (wr F0 782 b ((bX (sB P) b : Nat) : Int)) 783 b (-1)) (b + 1) (by first | omega | (simp only [] at *; omega)) (by first | omega | assumption) (by rw [wr_o (by omega), wr_o (by omega)]; exact h60) (by rw [wr_row (by decide)]; exact row_ext (F := fun k => (bX (sB P) k : Int)) hz1 rfl) (row_ext (F := fun _ => -1) (by rw [wr_row (by decide)]; exact hz2) rfl) ⟨fun q h1 h2 h3 => by rw [wr_row h2, wr_row h1]; exact hf_F0.1 q h1 h2 h3, fun k hk => by rw [wr_row (by decide), wr_row (by decide)]; exact hf_F0.2 k hk⟩)
  exact at_sub _ (by exact ⟨rfl, rfl, trivial⟩) (J7 _ (wr E 125 60 0) 0 (Nat.lt_succ_self _) (by first | omega | assumption | rfl) (wr_s _ _ _ _) (fun j hj => absurd hj (Nat.not_lt_zero j)) (fun j hj => absurd hj (Nat.not_lt_zero j)) ⟨fun q h1 h2 h3 => wr_row h3, fun k hk => wr_o (Or.inr hk)⟩)
