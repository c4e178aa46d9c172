theorem less_ex (a b : Nat) : ∃ u : Nat, (if (a : Int) < (b : Int) then (a : Int) else (b : Int)) = (u : Int) ∧ u ≤ a ∧ u ≤ b ∧ (u = a ∨ u = b) := by
  by_cases c : (a : Int) < (b : Int)
  · exact ⟨a, if_pos c, by omega, by omega, Or.inl rfl⟩
  · exact ⟨b, if_neg c, by omega, by omega, Or.inr rfl⟩
theorem bcl_tb (G : GP) (h y : Nat) : (bcl G h).testBit y = true ↔ y < gW G ∧ 0 < bOn G h y := by
  unfold bcl
  rw [mk_tb, Bool.and_eq_true, decide_eq_true_iff, decide_eq_true_iff]
theorem wk_0 (G : GP) (r h c y : Nat) : (wkP G r h c 0).testBit y = true ↔ y = c ∧ y < gW G ∧ 0 < bOn G h y := by
  show (2 ^ c &&& bcl G h).testBit y = true ↔ _
  rw [Nat.testBit_and, Bool.and_eq_true, bcl_tb, Nat.testBit_two_pow, decide_eq_true_iff]
  exact ⟨fun q => ⟨q.1.symm, q.2⟩, fun q => ⟨q.1.symm, q.2⟩⟩
/-- whether one came from a cell before z -/
def wkQ (G : GP) (r h c n y z : Nat) : Prop := ∃ i, (wkP G r h c n).testBit i = true ∧ i < z ∧ i ≤ y + r ∧ y ≤ i + r ∧ 0 < bOn G (h + n + 1) y
theorem wk_s {G : GP} {r h c n y z : Nat} (hW : gW G ≤ z ∨ y + r < z) (hy : y < gW G) : (wkP G r h c (n + 1)).testBit y = true ↔ wkQ G r h c n y z := by
  show (sprP (wkP G r h c n) r &&& bcl G (h + n + 1)).testBit y = true ↔ _
  rw [Nat.testBit_and, Bool.and_eq_true, bcl_tb, spr_tb]
  constructor
  · rintro ⟨⟨i, h1, h2, h3⟩, -, h4⟩
    refine ⟨i, h1, ?_, h2, h3, h4⟩
    have hi : i < gW G := by
      cases n with
      | zero => exact ((wk_0 G r h c i).mp h1).2.1
      | succ n =>
        have h5 : (sprP (wkP G r h c n) r &&& bcl G (h + n + 1)).testBit i = true := h1
        rw [Nat.testBit_and, Bool.and_eq_true, bcl_tb] at h5
        exact h5.2.1
    omega
  · rintro ⟨i, h1, h2, h3, h4, h5⟩
    exact ⟨⟨i, h1, h3, h4⟩, hy, h5⟩
theorem wkQ_0 {G : GP} {r h c n y z : Nat} (hz : z + r ≤ y ∨ z = 0) : ¬ wkQ G r h c n y z := by
  rintro ⟨i, h1, h2, h3, h4, h5⟩
  omega
theorem wkQ_s {G : GP} {r h c n y z : Nat} (h1 : z ≤ y + r) (h2 : y ≤ z + r) : wkQ G r h c n y (z + 1) ↔ wkQ G r h c n y z ∨ ((wkP G r h c n).testBit z = true ∧ 0 < bOn G (h + n + 1) y) := by
  constructor
  · rintro ⟨i, k1, k2, k3, k4, k5⟩
    by_cases e : i = z
    · subst e; exact Or.inr ⟨k1, k5⟩
    · exact Or.inl ⟨i, k1, by omega, k3, k4, k5⟩
  · rintro (⟨i, k1, k2, k3, k4, k5⟩ | ⟨k1, k2⟩)
    · exact ⟨i, k1, by omega, k3, k4, k5⟩
    · exact ⟨z, k1, by omega, h1, h2, k2⟩
def is1 (v : Int) (p : Prop) : Prop := (v = 0 ∨ v = 1) ∧ (v = 1 ↔ p)
theorem is1.t {p : Prop} (h : p) : is1 1 p := ⟨Or.inr rfl, ⟨fun _ => h, fun _ => rfl⟩⟩
theorem is1.f {p : Prop} (h : ¬ p) : is1 0 p := ⟨Or.inl rfl, ⟨fun q => absurd q (by decide), fun q => absurd q h⟩⟩
theorem is1.y {v : Int} {p : Prop} (h : is1 v p) (q : ¬ v = 0) : p := h.2.mp (h.1.elim (fun e => absurd e q) id)
theorem is1.n {v : Int} {p : Prop} (h : is1 v p) (q : v = 0) : ¬ p := fun e => by have := h.2.mpr e; omega
theorem dX12_walk_0 : decode cX12_walk 0 = .ok (.aload_n 0, 1) := by decide +kernel
theorem dX12_walk_1 : decode cX12_walk 1 = .ok (.iconst 0, 1) := by decide +kernel
theorem dX12_walk_2 : decode cX12_walk 2 = .ok (.putfield 152, 3) := by decide +kernel
theorem dX12_walk_5 : decode cX12_walk 5 = .ok (.aload_n 0, 1) := by decide +kernel
theorem dX12_walk_6 : decode cX12_walk 6 = .ok (.aload_n 0, 1) := by decide +kernel
theorem dX12_walk_7 : decode cX12_walk 7 = .ok (.iload_n 1, 1) := by decide +kernel
theorem dX12_walk_8 : decode cX12_walk 8 = .ok (.invokevirtual 351, 3) := by decide +kernel
theorem dX12_walk_11 : decode cX12_walk 11 = .ok (.ifCond .eq 11, 3) := by decide +kernel
theorem dX12_walk_14 : decode cX12_walk 14 = .ok (.aload_n 0, 1) := by decide +kernel
theorem dX12_walk_15 : decode cX12_walk 15 = .ok (.iload_n 2, 1) := by decide +kernel
theorem dX12_walk_16 : decode cX12_walk 16 = .ok (.invokevirtual 351, 3) := by decide +kernel
theorem dX12_walk_19 : decode cX12_walk 19 = .ok (.ifCond .ne 7, 3) := by decide +kernel
theorem dX12_walk_22 : decode cX12_walk 22 = .ok (.iconst 1, 1) := by decide +kernel
theorem dX12_walk_23 : decode cX12_walk 23 = .ok (.goto 4, 3) := by decide +kernel
theorem dX12_walk_26 : decode cX12_walk 26 = .ok (.iconst 0, 1) := by decide +kernel
theorem dX12_walk_27 : decode cX12_walk 27 = .ok (.iconst 1, 1) := by decide +kernel
theorem dX12_walk_28 : decode cX12_walk 28 = .ok (.iconst 0, 1) := by decide +kernel
theorem dX12_walk_29 : decode cX12_walk 29 = .ok (.invokevirtual 244, 3) := by decide +kernel
theorem dX12_walk_32 : decode cX12_walk 32 = .ok (.ifCond .ne 35, 3) := by decide +kernel
theorem dX12_walk_35 : decode cX12_walk 35 = .ok (.aload_n 0, 1) := by decide +kernel
theorem dX12_walk_36 : decode cX12_walk 36 = .ok (.iload_n 3, 1) := by decide +kernel
theorem dX12_walk_37 : decode cX12_walk 37 = .ok (.invokestatic 314, 3) := by decide +kernel
theorem dX12_walk_40 : decode cX12_walk 40 = .ok (.ifCond .eq 14, 3) := by decide +kernel
theorem dX12_walk_43 : decode cX12_walk 43 = .ok (.iload 4, 2) := by decide +kernel
theorem dX12_walk_45 : decode cX12_walk 45 = .ok (.iconst 1, 1) := by decide +kernel
theorem dX12_walk_46 : decode cX12_walk 46 = .ok (.bipush 9, 2) := by decide +kernel
theorem dX12_walk_48 : decode cX12_walk 48 = .ok (.invokestatic 186, 3) := by decide +kernel
theorem dX12_walk_51 : decode cX12_walk 51 = .ok (.ifCond .ne 7, 3) := by decide +kernel
theorem dX12_walk_54 : decode cX12_walk 54 = .ok (.iconst 1, 1) := by decide +kernel
theorem dX12_walk_55 : decode cX12_walk 55 = .ok (.goto 4, 3) := by decide +kernel
theorem dX12_walk_58 : decode cX12_walk 58 = .ok (.iconst 0, 1) := by decide +kernel
theorem dX12_walk_59 : decode cX12_walk 59 = .ok (.iconst 2, 1) := by decide +kernel
theorem dX12_walk_60 : decode cX12_walk 60 = .ok (.iconst 2, 1) := by decide +kernel
theorem dX12_walk_61 : decode cX12_walk 61 = .ok (.invokevirtual 244, 3) := by decide +kernel
theorem dX12_walk_64 : decode cX12_walk 64 = .ok (.ifCond .eq 5, 3) := by decide +kernel
theorem dX12_walk_67 : decode cX12_walk 67 = .ok (.iconst 0, 1) := by decide +kernel
theorem dX12_walk_68 : decode cX12_walk 68 = .ok (.ireturn, 1) := by decide +kernel
theorem dX12_walk_69 : decode cX12_walk 69 = .ok (.aload_n 0, 1) := by decide +kernel
theorem dX12_walk_70 : decode cX12_walk 70 = .ok (.invokevirtual 378, 3) := by decide +kernel
theorem dX12_walk_73 : decode cX12_walk 73 = .ok (.iconst 0, 1) := by decide +kernel
theorem dX12_walk_74 : decode cX12_walk 74 = .ok (.istore 5, 2) := by decide +kernel
theorem dX12_walk_76 : decode cX12_walk 76 = .ok (.iload 5, 2) := by decide +kernel
theorem dX12_walk_78 : decode cX12_walk 78 = .ok (.aload_n 0, 1) := by decide +kernel
theorem dX12_walk_79 : decode cX12_walk 79 = .ok (.getfield 23, 3) := by decide +kernel
theorem dX12_walk_82 : decode cX12_walk 82 = .ok (.iconst 0, 1) := by decide +kernel
theorem dX12_walk_83 : decode cX12_walk 83 = .ok (.iaload, 1) := by decide +kernel
theorem dX12_walk_84 : decode cX12_walk 84 = .ok (.if_icmp .ge 39, 3) := by decide +kernel
theorem dX12_walk_87 : decode cX12_walk 87 = .ok (.aload_n 0, 1) := by decide +kernel
theorem dX12_walk_88 : decode cX12_walk 88 = .ok (.getfield 139, 3) := by decide +kernel
theorem dX12_walk_91 : decode cX12_walk 91 = .ok (.iload 5, 2) := by decide +kernel
theorem dX12_walk_93 : decode cX12_walk 93 = .ok (.iload 5, 2) := by decide +kernel
theorem dX12_walk_95 : decode cX12_walk 95 = .ok (.iload_n 1, 1) := by decide +kernel
theorem dX12_walk_96 : decode cX12_walk 96 = .ok (.if_icmp .ne 19, 3) := by decide +kernel
theorem dX12_walk_99 : decode cX12_walk 99 = .ok (.aload_n 0, 1) := by decide +kernel
theorem dX12_walk_100 : decode cX12_walk 100 = .ok (.getfield 116, 3) := by decide +kernel
theorem dX12_walk_103 : decode cX12_walk 103 = .ok (.iload_n 3, 1) := by decide +kernel
theorem dX12_walk_104 : decode cX12_walk 104 = .ok (.aaload, 1) := by decide +kernel
theorem dX12_walk_105 : decode cX12_walk 105 = .ok (.iload 5, 2) := by decide +kernel
theorem dX12_walk_107 : decode cX12_walk 107 = .ok (.iaload, 1) := by decide +kernel
theorem dX12_walk_108 : decode cX12_walk 108 = .ok (.ifCond .le 7, 3) := by decide +kernel
theorem dX12_walk_111 : decode cX12_walk 111 = .ok (.iconst 1, 1) := by decide +kernel
theorem dX12_walk_112 : decode cX12_walk 112 = .ok (.goto 4, 3) := by decide +kernel
theorem dX12_walk_115 : decode cX12_walk 115 = .ok (.iconst 0, 1) := by decide +kernel
theorem dX12_walk_116 : decode cX12_walk 116 = .ok (.bastore, 1) := by decide +kernel
theorem dX12_walk_117 : decode cX12_walk 117 = .ok (.iinc 5 1, 3) := by decide +kernel
theorem dX12_walk_120 : decode cX12_walk 120 = .ok (.goto (-44), 3) := by decide +kernel
theorem dX12_walk_123 : decode cX12_walk 123 = .ok (.iload_n 3, 1) := by decide +kernel
theorem dX12_walk_124 : decode cX12_walk 124 = .ok (.istore 5, 2) := by decide +kernel
theorem dX12_walk_126 : decode cX12_walk 126 = .ok (.iload 5, 2) := by decide +kernel
theorem dX12_walk_128 : decode cX12_walk 128 = .ok (.bipush 24, 2) := by decide +kernel
theorem dX12_walk_130 : decode cX12_walk 130 = .ok (.if_icmp .ge 177, 3) := by decide +kernel
theorem dX12_walk_133 : decode cX12_walk 133 = .ok (.aload_n 0, 1) := by decide +kernel
theorem dX12_walk_134 : decode cX12_walk 134 = .ok (.getfield 139, 3) := by decide +kernel
theorem dX12_walk_137 : decode cX12_walk 137 = .ok (.iload_n 2, 1) := by decide +kernel
theorem dX12_walk_138 : decode cX12_walk 138 = .ok (.baload, 1) := by decide +kernel
theorem dX12_walk_139 : decode cX12_walk 139 = .ok (.ifCond .eq 6, 3) := by decide +kernel
theorem dX12_walk_142 : decode cX12_walk 142 = .ok (.iload 5, 2) := by decide +kernel
theorem dX12_walk_144 : decode cX12_walk 144 = .ok (.ireturn, 1) := by decide +kernel
theorem dX12_walk_145 : decode cX12_walk 145 = .ok (.iconst 0, 1) := by decide +kernel
theorem dX12_walk_146 : decode cX12_walk 146 = .ok (.istore 6, 2) := by decide +kernel
theorem dX12_walk_148 : decode cX12_walk 148 = .ok (.iload 6, 2) := by decide +kernel
theorem dX12_walk_150 : decode cX12_walk 150 = .ok (.aload_n 0, 1) := by decide +kernel
theorem dX12_walk_151 : decode cX12_walk 151 = .ok (.getfield 23, 3) := by decide +kernel
theorem dX12_walk_154 : decode cX12_walk 154 = .ok (.iconst 0, 1) := by decide +kernel
theorem dX12_walk_155 : decode cX12_walk 155 = .ok (.iaload, 1) := by decide +kernel
theorem dX12_walk_156 : decode cX12_walk 156 = .ok (.if_icmp .ge 23, 3) := by decide +kernel
theorem dX12_walk_159 : decode cX12_walk 159 = .ok (.aload_n 0, 1) := by decide +kernel
theorem dX12_walk_160 : decode cX12_walk 160 = .ok (.getfield 143, 3) := by decide +kernel
theorem dX12_walk_163 : decode cX12_walk 163 = .ok (.iload 6, 2) := by decide +kernel
theorem dX12_walk_165 : decode cX12_walk 165 = .ok (.aload_n 0, 1) := by decide +kernel
theorem dX12_walk_166 : decode cX12_walk 166 = .ok (.getfield 139, 3) := by decide +kernel
theorem dX12_walk_169 : decode cX12_walk 169 = .ok (.iload 6, 2) := by decide +kernel
theorem dX12_walk_171 : decode cX12_walk 171 = .ok (.baload, 1) := by decide +kernel
theorem dX12_walk_172 : decode cX12_walk 172 = .ok (.bastore, 1) := by decide +kernel
theorem dX12_walk_173 : decode cX12_walk 173 = .ok (.iinc 6 1, 3) := by decide +kernel
theorem dX12_walk_176 : decode cX12_walk 176 = .ok (.goto (-28), 3) := by decide +kernel
theorem dX12_walk_179 : decode cX12_walk 179 = .ok (.iconst 0, 1) := by decide +kernel
theorem dX12_walk_180 : decode cX12_walk 180 = .ok (.istore 6, 2) := by decide +kernel
theorem dX12_walk_182 : decode cX12_walk 182 = .ok (.iload 6, 2) := by decide +kernel
theorem dX12_walk_184 : decode cX12_walk 184 = .ok (.aload_n 0, 1) := by decide +kernel
theorem dX12_walk_185 : decode cX12_walk 185 = .ok (.getfield 23, 3) := by decide +kernel
theorem dX12_walk_188 : decode cX12_walk 188 = .ok (.iconst 0, 1) := by decide +kernel
theorem dX12_walk_189 : decode cX12_walk 189 = .ok (.iaload, 1) := by decide +kernel
theorem dX12_walk_190 : decode cX12_walk 190 = .ok (.if_icmp .ge 111, 3) := by decide +kernel
theorem dX12_walk_193 : decode cX12_walk 193 = .ok (.iload 5, 2) := by decide +kernel
theorem dX12_walk_195 : decode cX12_walk 195 = .ok (.iconst 1, 1) := by decide +kernel
theorem dX12_walk_196 : decode cX12_walk 196 = .ok (.iadd, 1) := by decide +kernel
theorem dX12_walk_197 : decode cX12_walk 197 = .ok (.bipush 24, 2) := by decide +kernel
theorem dX12_walk_199 : decode cX12_walk 199 = .ok (.if_icmp .ge 102, 3) := by decide +kernel
theorem dX12_walk_202 : decode cX12_walk 202 = .ok (.aload_n 0, 1) := by decide +kernel
theorem dX12_walk_203 : decode cX12_walk 203 = .ok (.getfield 139, 3) := by decide +kernel
theorem dX12_walk_206 : decode cX12_walk 206 = .ok (.iload 6, 2) := by decide +kernel
theorem dX12_walk_208 : decode cX12_walk 208 = .ok (.iconst 0, 1) := by decide +kernel
theorem dX12_walk_209 : decode cX12_walk 209 = .ok (.bastore, 1) := by decide +kernel
theorem dX12_walk_210 : decode cX12_walk 210 = .ok (.iconst 0, 1) := by decide +kernel
theorem dX12_walk_211 : decode cX12_walk 211 = .ok (.iload 6, 2) := by decide +kernel
theorem dX12_walk_213 : decode cX12_walk 213 = .ok (.iload 4, 2) := by decide +kernel
theorem dX12_walk_215 : decode cX12_walk 215 = .ok (.isub, 1) := by decide +kernel
theorem dX12_walk_216 : decode cX12_walk 216 = .ok (.invokestatic 304, 3) := by decide +kernel
theorem dX12_walk_219 : decode cX12_walk 219 = .ok (.istore 7, 2) := by decide +kernel
theorem dX12_walk_221 : decode cX12_walk 221 = .ok (.iload 7, 2) := by decide +kernel
theorem dX12_walk_223 : decode cX12_walk 223 = .ok (.aload_n 0, 1) := by decide +kernel
theorem dX12_walk_224 : decode cX12_walk 224 = .ok (.getfield 23, 3) := by decide +kernel
theorem dX12_walk_227 : decode cX12_walk 227 = .ok (.iconst 0, 1) := by decide +kernel
theorem dX12_walk_228 : decode cX12_walk 228 = .ok (.iaload, 1) := by decide +kernel
theorem dX12_walk_229 : decode cX12_walk 229 = .ok (.iconst 1, 1) := by decide +kernel
theorem dX12_walk_230 : decode cX12_walk 230 = .ok (.isub, 1) := by decide +kernel
theorem dX12_walk_231 : decode cX12_walk 231 = .ok (.iload 6, 2) := by decide +kernel
theorem dX12_walk_233 : decode cX12_walk 233 = .ok (.iload 4, 2) := by decide +kernel
theorem dX12_walk_235 : decode cX12_walk 235 = .ok (.iadd, 1) := by decide +kernel
theorem dX12_walk_236 : decode cX12_walk 236 = .ok (.invokestatic 301, 3) := by decide +kernel
theorem dX12_walk_239 : decode cX12_walk 239 = .ok (.if_icmp .gt 56, 3) := by decide +kernel
theorem dX12_walk_242 : decode cX12_walk 242 = .ok (.aload_n 0, 1) := by decide +kernel
theorem dX12_walk_243 : decode cX12_walk 243 = .ok (.getfield 139, 3) := by decide +kernel
theorem dX12_walk_246 : decode cX12_walk 246 = .ok (.iload 6, 2) := by decide +kernel
theorem dX12_walk_248 : decode cX12_walk 248 = .ok (.aload_n 0, 1) := by decide +kernel
theorem dX12_walk_249 : decode cX12_walk 249 = .ok (.getfield 139, 3) := by decide +kernel
theorem dX12_walk_252 : decode cX12_walk 252 = .ok (.iload 6, 2) := by decide +kernel
theorem dX12_walk_254 : decode cX12_walk 254 = .ok (.baload, 1) := by decide +kernel
theorem dX12_walk_255 : decode cX12_walk 255 = .ok (.ifCond .ne 28, 3) := by decide +kernel
theorem dX12_walk_258 : decode cX12_walk 258 = .ok (.aload_n 0, 1) := by decide +kernel
theorem dX12_walk_259 : decode cX12_walk 259 = .ok (.getfield 143, 3) := by decide +kernel
theorem dX12_walk_262 : decode cX12_walk 262 = .ok (.iload 7, 2) := by decide +kernel
theorem dX12_walk_264 : decode cX12_walk 264 = .ok (.baload, 1) := by decide +kernel
theorem dX12_walk_265 : decode cX12_walk 265 = .ok (.ifCond .eq 22, 3) := by decide +kernel
theorem dX12_walk_268 : decode cX12_walk 268 = .ok (.aload_n 0, 1) := by decide +kernel
theorem dX12_walk_269 : decode cX12_walk 269 = .ok (.getfield 116, 3) := by decide +kernel
theorem dX12_walk_272 : decode cX12_walk 272 = .ok (.iload 5, 2) := by decide +kernel
theorem dX12_walk_274 : decode cX12_walk 274 = .ok (.iconst 1, 1) := by decide +kernel
theorem dX12_walk_275 : decode cX12_walk 275 = .ok (.iadd, 1) := by decide +kernel
theorem dX12_walk_276 : decode cX12_walk 276 = .ok (.aaload, 1) := by decide +kernel
theorem dX12_walk_277 : decode cX12_walk 277 = .ok (.iload 6, 2) := by decide +kernel
theorem dX12_walk_279 : decode cX12_walk 279 = .ok (.iaload, 1) := by decide +kernel
theorem dX12_walk_280 : decode cX12_walk 280 = .ok (.ifCond .le 7, 3) := by decide +kernel
theorem dX12_walk_283 : decode cX12_walk 283 = .ok (.iconst 1, 1) := by decide +kernel
theorem dX12_walk_284 : decode cX12_walk 284 = .ok (.goto 4, 3) := by decide +kernel
theorem dX12_walk_287 : decode cX12_walk 287 = .ok (.iconst 0, 1) := by decide +kernel
theorem dX12_walk_288 : decode cX12_walk 288 = .ok (.bastore, 1) := by decide +kernel
theorem dX12_walk_289 : decode cX12_walk 289 = .ok (.iinc 7 1, 3) := by decide +kernel
theorem dX12_walk_292 : decode cX12_walk 292 = .ok (.goto (-71), 3) := by decide +kernel
theorem dX12_walk_295 : decode cX12_walk 295 = .ok (.iinc 6 1, 3) := by decide +kernel
theorem dX12_walk_298 : decode cX12_walk 298 = .ok (.goto (-116), 3) := by decide +kernel
theorem dX12_walk_301 : decode cX12_walk 301 = .ok (.iinc 5 1, 3) := by decide +kernel
theorem dX12_walk_304 : decode cX12_walk 304 = .ok (.goto (-178), 3) := by decide +kernel
theorem dX12_walk_307 : decode cX12_walk 307 = .ok (.iconst (-1), 1) := by decide +kernel
theorem dX12_walk_308 : decode cX12_walk 308 = .ok (.ireturn, 1) := by decide +kernel
theorem ct_X12_walk {g : Gw} (hG : GF g) {z : Bool} (E : Mm) (Q : RX) (P : SP) (L : LW) (T K : LN) (d st : Nat) (hWf : WF P L T K d st) (hI_E : RXI E Q P L T K d st) (x0 x1 x2 x3 : Int) : CT g yX12_walk cX12_walk 8 (some .int) 7 156 0 0 K2 z [mR 125, mI x0, mI x1, mI x2, mI x3] (ov E) K2 z (fun r' D' => (((0 ≤ x0 ∧ x0 ≤ (sW P : Int) - 1) ∧ (0 ≤ x1 ∧ x1 ≤ (sW P : Int) - 1)) ∧ ((0 ≤ x2 ∧ x2 ≤ 23) ∧ (1 ≤ x3 ∧ x3 ≤ 9)) ∧ r' = some (mI (wkA (gDay P L d) x3.toNat x2.toNat x0.toNat x1.toNat)) ∧ ∃ E1, D' = ov E1 ∧ RXO E E1 Q P L T K d st) ∨ (¬ ((0 ≤ x0 ∧ x0 ≤ (sW P : Int) - 1) ∧ (0 ≤ x1 ∧ x1 ≤ (sW P : Int) - 1)) ∧ r' = some (mI 0) ∧ D' = ov (badR E 1 0)) ∨ (((0 ≤ x0 ∧ x0 ≤ (sW P : Int) - 1) ∧ (0 ≤ x1 ∧ x1 ≤ (sW P : Int) - 1)) ∧ ¬ ((0 ≤ x2 ∧ x2 ≤ 23) ∧ (1 ≤ x3 ∧ x3 ≤ 9)) ∧ r' = some (mI 0) ∧ D' = ov (badR E 2 2))) := by
  refine CT.mk hG (by decide +kernel) (Nat.le_of_ble_eq_true rfl) (fun κ X Rt _ ok => ?_)
  have hP := hWf.1
  have hN8 := hP.B.N
  have hW40 := hP.W
  have hN11 := hP.N
  have hwN : gN (gDay P L d) ≤ 11 := Nat.le_trans hP.N (by decide)
  have hgw : gW (gDay P L d) = sW P := rfl
  have hDI24 := dyP_DI (G := (gDay P L d)) hP.B hWf.2.2.2.1 (Nat.le_refl 24)
  refine at_aload_n 1 X rfl rfl dX12_walk_0 rfl ?_
  refine at_iconst 2 X (by decide) dX12_walk_1 rfl ?_
  refine m_putI 5 X f_X12_152 fw_12_0 k_125 rn_125_0 dX12_walk_2 rfl ?_
  have hO_E0 := RXO.z hWf hI_E
  generalize hE0 : wr E 125 0 0 = E0 at hO_E0 ⊢
  have hR_E0 := hO_E0.1.1
  refine at_aload_n 6 X rfl rfl dX12_walk_5 rfl ?_
  refine at_aload_n 7 X rfl rfl dX12_walk_6 rfl ?_
  refine at_iload_n 8 X rfl rfl dX12_walk_7 rfl ?_
  refine at_callV 11 X _ 12 (ct_X12_isCell hG E0 P Q hP hR_E0 x0) clX12 rfl k_125 mo_X12_isCell w_2154 vo_X12_isCell.1 vo_X12_isCell.2 rfl rfl (crm Rt (by decide)) (Nat.le_of_ble_eq_true rfl) dX12_walk_8 rfl ?_
  rintro _ _ ⟨rfl, rfl⟩
  refine at_if_eq 14 22 X dX12_walk_11 rfl (by decide) (fun h11 => ?_) (fun h11 => ?_)
  · have h11 : ¬ (0 ≤ x0 ∧ x0 ≤ (sW P : Int) - 1) := ite_no.mp h11
    refine at_iconst 23 X (by decide) dX12_walk_22 rfl ?_
    refine at_goto 27 X dX12_walk_23 (by decide) ?_
    refine at_iconst 28 X (by decide) dX12_walk_27 rfl ?_
    refine at_iconst 29 X (by decide) dX12_walk_28 rfl ?_
    refine at_callV 32 X _ 12 (ct_bad1 hG E0 1 0 (by decide) hO_E0.2.2.1 (by decide)) clX12 rfl k_125 mo_X12_bad w_1960 vo_X12_bad.1 vo_X12_bad.2 rfl rfl (crm Rt (by decide)) (Nat.le_of_ble_eq_true rfl) dX12_walk_29 rfl ?_
    rintro _ _ ⟨rfl, rfl⟩
    have hb : ¬ ((0 ≤ x0 ∧ x0 ≤ (sW P : Int) - 1) ∧ (0 ≤ x1 ∧ x1 ≤ (sW P : Int) - 1)) := by omega
    refine at_if_ne 35 67 X dX12_walk_32 rfl (by decide) (fun h32 => ?_) (fun h32 => ?_)
    · refine at_iconst 68 X (by decide) dX12_walk_67 rfl ?_
      refine at_iret X Rt ?_ (Nat.le_refl _) (Nat.le_refl _) dX12_walk_68
      exact Or.inr (Or.inl ⟨hb, rfl, congrArg ov (badR_of hE0)⟩)
    · exact absurd h32 (by decide)
  · have h11 : (0 ≤ x0 ∧ x0 ≤ (sW P : Int) - 1) := ite_yes.mp h11
    refine at_aload_n 15 X rfl rfl dX12_walk_14 rfl ?_
    refine at_iload_n 16 X rfl rfl dX12_walk_15 rfl ?_
    refine at_callV 19 X _ 12 (ct_X12_isCell hG E0 P Q hP hR_E0 x1) clX12 rfl k_125 mo_X12_isCell w_2154 vo_X12_isCell.1 vo_X12_isCell.2 rfl rfl (crm Rt (by decide)) (Nat.le_of_ble_eq_true rfl) dX12_walk_16 rfl ?_
    rintro _ _ ⟨rfl, rfl⟩
    refine at_if_ne 22 26 X dX12_walk_19 rfl (by decide) (fun h19 => ?_) (fun h19 => ?_)
    · have h19 : (0 ≤ x1 ∧ x1 ≤ (sW P : Int) - 1) := ite_yes.mp h19
      refine at_iconst 27 X (by decide) dX12_walk_26 rfl ?_
      refine at_iconst 28 X (by decide) dX12_walk_27 rfl ?_
      refine at_iconst 29 X (by decide) dX12_walk_28 rfl ?_
      refine at_callV 32 X _ 12 (ct_bad0 hG E0 1 0 (by decide) hO_E0.2.2.1) clX12 rfl k_125 mo_X12_bad w_1960 vo_X12_bad.1 vo_X12_bad.2 rfl rfl (crm Rt (by decide)) (Nat.le_of_ble_eq_true rfl) dX12_walk_29 rfl ?_
      rintro _ _ ⟨rfl, rfl⟩
      have hc0 : (0 ≤ x0 ∧ x0 ≤ (sW P : Int) - 1) ∧ (0 ≤ x1 ∧ x1 ≤ (sW P : Int) - 1) := by omega
      refine at_if_ne 35 67 X dX12_walk_32 rfl (by decide) (fun h32 => ?_) (fun h32 => ?_)
      · exact absurd h32 (by decide)
      · refine at_aload_n 36 X rfl rfl dX12_walk_35 rfl ?_
        refine at_iload_n 37 X rfl rfl dX12_walk_36 rfl ?_
        refine at_callS 40 X (ct_X12_isHour hG E0 x2) mo_X12_isHour w_2074 so_X12_isHour rfl rfl (crm Rt (by decide)) (Nat.le_of_ble_eq_true rfl) dX12_walk_37 rfl ?_
        rintro _ _ ⟨rfl, rfl⟩
        refine at_if_eq 43 54 X dX12_walk_40 rfl (by decide) (fun h40 => ?_) (fun h40 => ?_)
        · have h40 : ¬ (0 ≤ x2 ∧ x2 ≤ 23) := ite_no.mp h40
          refine at_iconst 55 X (by decide) dX12_walk_54 rfl ?_
          refine at_goto 59 X dX12_walk_55 (by decide) ?_
          refine at_iconst 60 X (by decide) dX12_walk_59 rfl ?_
          refine at_iconst 61 X (by decide) dX12_walk_60 rfl ?_
          refine at_callV 64 X _ 12 (ct_bad1 hG E0 2 2 (by decide) hO_E0.2.2.1 (by decide)) clX12 rfl k_125 mo_X12_bad w_1960 vo_X12_bad.1 vo_X12_bad.2 rfl rfl (crm Rt (by decide)) (Nat.le_of_ble_eq_true rfl) dX12_walk_61 rfl ?_
          rintro _ _ ⟨rfl, rfl⟩
          have hb : ¬ ((0 ≤ x2 ∧ x2 ≤ 23) ∧ (1 ≤ x3 ∧ x3 ≤ 9)) := by omega
          refine at_if_eq 67 69 X dX12_walk_64 rfl (by decide) (fun h64 => ?_) (fun h64 => ?_)
          · exact absurd h64 (by decide)
          · refine at_iconst 68 X (by decide) dX12_walk_67 rfl ?_
            refine at_iret X Rt ?_ (Nat.le_refl _) (Nat.le_refl _) dX12_walk_68
            exact Or.inr (Or.inr (⟨hc0, hb, rfl, congrArg ov (badR_of hE0)⟩))
        · have h40 : (0 ≤ x2 ∧ x2 ≤ 23) := ite_yes.mp h40
          refine at_iload 45 X rfl dX12_walk_43 rfl ?_
          refine at_iconst 46 X (by decide) dX12_walk_45 rfl ?_
          refine at_bipush 48 X (by decide) (by decide) dX12_walk_46 rfl ?_
          refine at_callS 51 X (ct_X12_in hG _ _ _) mo_X12_in w_1957 so_X12_in rfl rfl (crm Rt (by decide)) (Nat.le_of_ble_eq_true rfl) dX12_walk_48 rfl ?_
          rintro _ _ ⟨rfl, rfl⟩
          refine at_if_ne 54 58 X dX12_walk_51 rfl (by decide) (fun h51 => ?_) (fun h51 => ?_)
          · have h51 : (1 ≤ x3 ∧ x3 ≤ 9) := ite_yes.mp h51
            refine at_iconst 59 X (by decide) dX12_walk_58 rfl ?_
            refine at_iconst 60 X (by decide) dX12_walk_59 rfl ?_
            refine at_iconst 61 X (by decide) dX12_walk_60 rfl ?_
            refine at_callV 64 X _ 12 (ct_bad0 hG E0 2 2 (by decide) hO_E0.2.2.1) clX12 rfl k_125 mo_X12_bad w_1960 vo_X12_bad.1 vo_X12_bad.2 rfl rfl (crm Rt (by decide)) (Nat.le_of_ble_eq_true rfl) dX12_walk_61 rfl ?_
            rintro _ _ ⟨rfl, rfl⟩
            have hc1 : (0 ≤ x2 ∧ x2 ≤ 23) ∧ (1 ≤ x3 ∧ x3 ≤ 9) := by omega
            refine at_if_eq 67 69 X dX12_walk_64 rfl (by decide) (fun h64 => ?_) (fun h64 => ?_)
            · obtain ⟨c, rfl⟩ : ∃ c : Nat, x0 = (c : Int) := ⟨x0.toNat, by omega⟩
              obtain ⟨to, rfl⟩ : ∃ to : Nat, x1 = (to : Int) := ⟨x1.toNat, by omega⟩
              obtain ⟨h, rfl⟩ : ∃ h : Nat, x2 = (h : Int) := ⟨x2.toNat, by omega⟩
              obtain ⟨r, rfl⟩ : ∃ r : Nat, x3 = (r : Int) := ⟨x3.toNat, by omega⟩
              refine at_aload_n 70 X rfl rfl dX12_walk_69 rfl ?_
              refine at_callV 73 X _ 12 (ct_X12_laysNow hG E0 Q P L T K d st hWf hO_E0.1) clX12 rfl k_125 mo_X12_laysNow w_2158 vo_X12_laysNow.1 vo_X12_laysNow.2 rfl rfl (crm Rt (by decide)) (Nat.le_of_ble_eq_true rfl) dX12_walk_70 rfl ?_
              rintro _ _ ⟨rfl, F1, rfl, hI_F1, hY_F1, hs_F1, hz_F1, hv_F1, h0_F1, h7_F1⟩
              have hO_F1 := hO_E0.nx hI_F1 hY_F1 h0_F1 h7_F1
              have hR_F1 := hI_F1.1
              refine at_iconst 74 X (by decide) dX12_walk_73 rfl ?_
              refine at_istore 76 X dX12_walk_74 rfl (by decide) ?_
              have J76 : ∀ (f76 : Nat) (F0 : Mm) (y : Nat), 42 - y < f76 → (y ≤ sW P) → ((∀ z, z < y → is1 (F0 811 z) ((wkP (gDay P L d) r h c (0)).testBit z = true))) → (((∀ q, q ≠ 811 → q ≠ 812 → F0 q = F1 q))) → AT g κ K2 z 0 0 76 [(0, mR 125), (1, mI ((c : Nat) : Int)), (2, mI ((to : Nat) : Int)), (3, mI ((h : Nat) : Int)), (4, mI ((r : Nat) : Int)), (5, mI ((y : Nat) : Int))] [] (ov F0) := by
                intro f76
                induction f76 with
                | zero => intro F0 y hf76; omega
                | succ f76 ih76 =>
                intro F0 y hf76 hy hi0 hfq_F0
                refine at_iload 78 X rfl dX12_walk_76 rfl ?_
                have hR_F0 : RTS F0 P Q := hR_F1.fr (fun q hq => hfq_F0 q (by omega) (by omega)) hP
                have hbe_F0 : ∀ h c, h < 24 → c < sW P → F0 (708 + h) c = bOn (gDay P L d) h c := fun h c hh hc => by rw [hfq_F0 (708 + h) (by omega) (by omega)]; exact (hs_F1 h c hh hc).2
                refine at_aload_n 79 X rfl rfl dX12_walk_78 rfl ?_
                refine m_getR 82 X f_X12_23 k_125 r_125_12 dX12_walk_79 rfl ?_
                refine at_iconst 83 X (by decide) dX12_walk_82 rfl ?_
                refine m_ialoadV 84 X 0 (by omega) ((sW P : Nat) : Int) hR_F0.1.1 k_129 e_129 (by omega) dX12_walk_83 rfl ?_
                have := hP.W
                refine at_icmp_ge 87 123 X dX12_walk_84 rfl (by decide) (fun h84 => ?_) (fun h84 => ?_)
                · refine at_iload_n 124 X rfl rfl dX12_walk_123 rfl ?_
                  refine at_istore 126 X dX12_walk_124 rfl (by decide) ?_
                  have J126 : ∀ (f126 : Nat) (F : Mm) (e : Nat), 25 - e < f126 → (h ≤ e ∧ e ≤ 24) → ((e < 24 → ∀ z, z < sW P → is1 (F 811 z) ((wkP (gDay P L d) r h c (e - h)).testBit z = true))) → ((∀ j, j < e - h → ¬ (wkP (gDay P L d) r h c (j)).testBit to = true)) → (((∀ q, q ≠ 811 → q ≠ 812 → F q = F1 q))) → AT g κ K2 z 0 0 126 [(0, mR 125), (2, mI ((to : Nat) : Int)), (4, mI ((r : Nat) : Int)), (5, mI ((e : Nat) : Int))] [] (ov F) := by
                    intro f126
                    induction f126 with
                    | zero => intro F e hf126; omega
                    | succ f126 ih126 =>
                    intro F e hf126 he hit_F hno hfq_F
                    refine at_iload 128 X rfl dX12_walk_126 rfl ?_
                    have hR_F : RTS F P Q := hR_F1.fr (fun q hq => hfq_F q (by omega) (by omega)) hP
                    have hbe_F : ∀ h c, h < 24 → c < sW P → F (708 + h) c = bOn (gDay P L d) h c := fun h c hh hc => by rw [hfq_F (708 + h) (by omega) (by omega)]; exact (hs_F1 h c hh hc).2
                    refine at_bipush 130 X (by decide) (by decide) dX12_walk_128 rfl ?_
                    refine at_icmp_ge 133 307 X dX12_walk_130 rfl (by decide) (fun h130 => ?_) (fun h130 => ?_)
                    · refine at_iconst 308 X (by decide) dX12_walk_307 rfl ?_
                      refine at_iret X Rt ?_ (Nat.le_refl _) (Nat.le_refl _) dX12_walk_308
                      have hY : RXF P F1 F := ⟨fun q h => hfq_F q (by omega) (by omega), fun k h => by rw [hfq_F 125 (by omega) (by omega)]⟩
                      have hO_F := hO_F1.nx (hO_F1.1.fr hWf hY (hO_F1.1.2.2.1.fr (by rw [hfq_F 125 (by omega) (by omega)]) (hfq_F 578 (by omega) (by omega)) (hfq_F 579 (by omega) (by omega)))) hY (by rw [hfq_F 125 (by omega) (by omega)]) (hfq_F 127 (by omega) (by omega))
                      exact Or.inl ⟨hc0, hc1, (by show _ = some (mI (wkA (gDay P L d) r h c to)); unfold wkA; rw [if_pos (fst_none (fun j hj => hno j (by omega)))]), _, rfl, hO_F⟩
                    · refine at_aload_n 134 X rfl rfl dX12_walk_133 rfl ?_
                      refine m_getR 137 X f_X12_139 k_125 r_125_64 dX12_walk_134 rfl ?_
                      refine at_iload_n 138 X rfl rfl dX12_walk_137 rfl ?_
                      refine m_zaloadV 139 X to (by omega) (F 811 to) rfl k_811 e_811 (by omega) dX12_walk_138 rfl ?_
                      have hi811 := hit_F (by omega) to (by omega)
                      have hi01 := hi811.1
                      refine at_if_eq 142 145 X dX12_walk_139 rfl (by decide) (fun h139 => ?_) (fun h139 => ?_)
                      · refine at_iconst 146 X (by decide) dX12_walk_145 rfl ?_
                        refine at_istore 148 X dX12_walk_146 rfl (by decide) ?_
                        have J148 : ∀ (f148 : Nat) (F2 : Mm) (y : Nat), 42 - y < f148 → (y ≤ sW P) → ((e < 24 → ∀ z, z < sW P → is1 (F2 811 z) ((wkP (gDay P L d) r h c (e - h)).testBit z = true))) → ((∀ z, z < y → is1 (F2 812 z) ((wkP (gDay P L d) r h c (e - h)).testBit z = true))) → (((∀ q, q ≠ 811 → q ≠ 812 → F2 q = F1 q))) → AT g κ K2 z 0 0 148 [(0, mR 125), (2, mI ((to : Nat) : Int)), (4, mI ((r : Nat) : Int)), (5, mI ((e : Nat) : Int)), (6, mI ((y : Nat) : Int))] [] (ov F2) := by
                          intro f148
                          induction f148 with
                          | zero => intro F2 y hf148; omega
                          | succ f148 ih148 =>
                          intro F2 y hf148 hy hit_F2 hw2 hfq_F2
                          refine at_iload 150 X rfl dX12_walk_148 rfl ?_
                          have hR_F2 : RTS F2 P Q := hR_F1.fr (fun q hq => hfq_F2 q (by omega) (by omega)) hP
                          have hbe_F2 : ∀ h c, h < 24 → c < sW P → F2 (708 + h) c = bOn (gDay P L d) h c := fun h c hh hc => by rw [hfq_F2 (708 + h) (by omega) (by omega)]; exact (hs_F1 h c hh hc).2
                          refine at_aload_n 151 X rfl rfl dX12_walk_150 rfl ?_
                          refine m_getR 154 X f_X12_23 k_125 r_125_12 dX12_walk_151 rfl ?_
                          refine at_iconst 155 X (by decide) dX12_walk_154 rfl ?_
                          refine m_ialoadV 156 X 0 (by omega) ((sW P : Nat) : Int) hR_F2.1.1 k_129 e_129 (by omega) dX12_walk_155 rfl ?_
                          have := hP.W
                          refine at_icmp_ge 159 179 X dX12_walk_156 rfl (by decide) (fun h156 => ?_) (fun h156 => ?_)
                          · refine at_iconst 180 X (by decide) dX12_walk_179 rfl ?_
                            refine at_istore 182 X dX12_walk_180 rfl (by decide) ?_
                            have J182 : ∀ (f182 : Nat) (F3 : Mm) (y : Nat), 42 - y < f182 → (y ≤ sW P) → ((∀ z, z < sW P → is1 (F3 812 z) ((wkP (gDay P L d) r h c (e - h)).testBit z = true))) → ((e + 1 < 24 → ∀ z, z < y → is1 (F3 811 z) ((wkP (gDay P L d) r h c (e + 1 - h)).testBit z = true))) → (((∀ q, q ≠ 811 → q ≠ 812 → F3 q = F1 q))) → AT g κ K2 z 0 0 182 [(0, mR 125), (2, mI ((to : Nat) : Int)), (4, mI ((r : Nat) : Int)), (5, mI ((e : Nat) : Int)), (6, mI ((y : Nat) : Int))] [] (ov F3) := by
                              intro f182
                              induction f182 with
                              | zero => intro F3 y hf182; omega
                              | succ f182 ih182 =>
                              intro F3 y hf182 hy hws_F3 hi3 hfq_F3
                              refine at_iload 184 X rfl dX12_walk_182 rfl ?_
                              have hR_F3 : RTS F3 P Q := hR_F1.fr (fun q hq => hfq_F3 q (by omega) (by omega)) hP
                              have hbe_F3 : ∀ h c, h < 24 → c < sW P → F3 (708 + h) c = bOn (gDay P L d) h c := fun h c hh hc => by rw [hfq_F3 (708 + h) (by omega) (by omega)]; exact (hs_F1 h c hh hc).2
                              refine at_aload_n 185 X rfl rfl dX12_walk_184 rfl ?_
                              refine m_getR 188 X f_X12_23 k_125 r_125_12 dX12_walk_185 rfl ?_
                              refine at_iconst 189 X (by decide) dX12_walk_188 rfl ?_
                              refine m_ialoadV 190 X 0 (by omega) ((sW P : Nat) : Int) hR_F3.1.1 k_129 e_129 (by omega) dX12_walk_189 rfl ?_
                              have := hP.W
                              refine at_icmp_ge 193 301 X dX12_walk_190 rfl (by decide) (fun h190 => ?_) (fun h190 => ?_)
                              · refine at_iincV 304 X ((e + 1 : Nat) : Int) (w32_v (by omega) (by omega) (by omega)) rfl dX12_walk_301 rfl (by decide) ?_
                                refine at_goto 126 X dX12_walk_304 (by decide) ?_
                                exact at_sub _ (by exact ⟨rfl, rfl, rfl, rfl, trivial⟩) (ih126 F3 (e + 1) (by first | omega | (simp only [] at *; omega)) (by omega) (fun q z hz => hi3 q z (by omega)) (fun j hj => if k : j < e - h then hno j k else by rw [show j = e - h by omega]; exact hi811.n h139) hfq_F3)
                              · refine at_iload 195 X rfl dX12_walk_193 rfl ?_
                                refine at_iconst 196 X (by decide) dX12_walk_195 rfl ?_
                                refine at_iaddV 197 X ((e + 1 : Nat) : Int) (w32_v (by omega) (by omega) (by omega)) dX12_walk_196 rfl ?_
                                refine at_bipush 199 X (by decide) (by decide) dX12_walk_197 rfl ?_
                                refine at_icmp_ge 202 301 X dX12_walk_199 rfl (by decide) (fun h199 => ?_) (fun h199 => ?_)
                                · refine at_iincV 304 X ((e + 1 : Nat) : Int) (w32_v (by omega) (by omega) (by omega)) rfl dX12_walk_301 rfl (by decide) ?_
                                  refine at_goto 126 X dX12_walk_304 (by decide) ?_
                                  exact at_sub _ (by exact ⟨rfl, rfl, rfl, rfl, trivial⟩) (ih126 F3 (e + 1) (by first | omega | (simp only [] at *; omega)) (by omega) (fun q z hz => hi3 q z (by omega)) (fun j hj => if k : j < e - h then hno j k else by rw [show j = e - h by omega]; exact hi811.n h139) hfq_F3)
                                · refine at_aload_n 203 X rfl rfl dX12_walk_202 rfl ?_
                                  refine m_getR 206 X f_X12_139 k_125 r_125_64 dX12_walk_203 rfl ?_
                                  refine at_iload 208 X rfl dX12_walk_206 rfl ?_
                                  refine at_iconst 209 X (by decide) dX12_walk_208 rfl ?_
                                  refine m_zastoreV 210 X y (by omega) k_811 e_811 (by omega) (by omega) dX12_walk_209 rfl ?_
                                  refine at_iconst 211 X (by decide) dX12_walk_210 rfl ?_
                                  refine at_iload 213 X rfl dX12_walk_211 rfl ?_
                                  refine at_iload 215 X rfl dX12_walk_213 rfl ?_
                                  refine at_isubV 216 X (((y : Nat) : Int) - ((r : Nat) : Int)) (w32_v rfl (by omega) (by omega)) dX12_walk_215 rfl ?_
                                  refine at_callS 219 X (ct_X12_more hG (wr F3 811 y 0) 0 (((y : Nat) : Int) - ((r : Nat) : Int))) mo_X12_more w_2091 so_X12_more rfl rfl (crm Rt (by decide)) (Nat.le_of_ble_eq_true rfl) dX12_walk_216 rfl ?_
                                  rintro _ _ ⟨rfl, rfl⟩
                                  rw [show (if (((y : Nat) : Int) - ((r : Nat) : Int)) < 0 then 0 else (((y : Nat) : Int) - ((r : Nat) : Int))) = ((y - r : Nat) : Int) from by split <;> omega]
                                  refine at_istore 221 X dX12_walk_219 rfl (by decide) ?_
                                  have J221 : ∀ (f221 : Nat) (F4 : Mm) (z0 : Nat), 42 - z0 < f221 → (y - r ≤ z0 ∧ z0 ≤ sW P ∧ z0 ≤ y + r + 1) → ((∀ z, z < sW P → is1 (F4 812 z) ((wkP (gDay P L d) r h c (e - h)).testBit z = true))) → ((e + 1 < 24 → ∀ z, z < y → is1 (F4 811 z) ((wkP (gDay P L d) r h c (e + 1 - h)).testBit z = true))) → (is1 (F4 811 y) (wkQ (gDay P L d) r h c (e - h) y z0)) → (((∀ q, q ≠ 811 → q ≠ 812 → F4 q = F1 q))) → AT g κ K2 z 0 0 221 [(0, mR 125), (2, mI ((to : Nat) : Int)), (4, mI ((r : Nat) : Int)), (5, mI ((e : Nat) : Int)), (6, mI ((y : Nat) : Int)), (7, mI ((z0 : Nat) : Int))] [] (ov F4) := by
                                    intro f221
                                    induction f221 with
                                    | zero => intro F4 z0 hf221; omega
                                    | succ f221 ih221 =>
                                    intro F4 z0 hf221 hz0 hws_F4 hi4 hce_F4 hfq_F4
                                    refine at_iload 223 X rfl dX12_walk_221 rfl ?_
                                    have hR_F4 : RTS F4 P Q := hR_F1.fr (fun q hq => hfq_F4 q (by omega) (by omega)) hP
                                    have hbe_F4 : ∀ h c, h < 24 → c < sW P → F4 (708 + h) c = bOn (gDay P L d) h c := fun h c hh hc => by rw [hfq_F4 (708 + h) (by omega) (by omega)]; exact (hs_F1 h c hh hc).2
                                    refine at_aload_n 224 X rfl rfl dX12_walk_223 rfl ?_
                                    refine m_getR 227 X f_X12_23 k_125 r_125_12 dX12_walk_224 rfl ?_
                                    refine at_iconst 228 X (by decide) dX12_walk_227 rfl ?_
                                    refine m_ialoadV 229 X 0 (by omega) ((sW P : Nat) : Int) hR_F4.1.1 k_129 e_129 (by omega) dX12_walk_228 rfl ?_
                                    have := hP.W
                                    refine at_iconst 230 X (by decide) dX12_walk_229 rfl ?_
                                    refine at_isubV 231 X ((sW P - 1 : Nat) : Int) (w32_v (by omega) (by omega) (by omega)) dX12_walk_230 rfl ?_
                                    refine at_iload 233 X rfl dX12_walk_231 rfl ?_
                                    refine at_iload 235 X rfl dX12_walk_233 rfl ?_
                                    refine at_iaddV 236 X ((y + r : Nat) : Int) (w32_v (by omega) (by omega) (by omega)) dX12_walk_235 rfl ?_
                                    refine at_callS 239 X (ct_X12_less hG F4 ((sW P - 1 : Nat) : Int) ((y + r : Nat) : Int)) mo_X12_less w_2088 so_X12_less rfl rfl (crm Rt (by decide)) (Nat.le_of_ble_eq_true rfl) dX12_walk_236 rfl ?_
                                    rintro _ _ ⟨rfl, rfl⟩
                                    obtain ⟨u, hu, hu1, hu2, hu3⟩ := less_ex (sW P - 1) (y + r)
                                    rw [show (if ((sW P - 1 : Nat) : Int) < ((y + r : Nat) : Int) then ((sW P - 1 : Nat) : Int) else ((y + r : Nat) : Int)) = ((u : Nat) : Int) from hu]
                                    refine at_icmp_gt 242 295 X dX12_walk_239 rfl (by decide) (fun h239 => ?_) (fun h239 => ?_)
                                    · refine at_iincV 298 X ((y + 1 : Nat) : Int) (w32_v (by omega) (by omega) (by omega)) rfl dX12_walk_295 rfl (by decide) ?_
                                      refine at_goto 182 X dX12_walk_298 (by decide) ?_
                                      exact at_sub _ (by exact ⟨rfl, rfl, rfl, rfl, rfl, trivial⟩) (ih182 F4 (y + 1) (by first | omega | (simp only [] at *; omega)) (by first | omega | assumption) hws_F4 (fun q z hz => if k : z = y then by rw [k, show e + 1 - h = (e - h) + 1 by omega, wk_s (z := z0) (by omega) (by omega)]; exact hce_F4 else hi4 q z (by omega)) hfq_F4)
                                    · refine at_aload_n 243 X rfl rfl dX12_walk_242 rfl ?_
                                      refine m_getR 246 X f_X12_139 k_125 r_125_64 dX12_walk_243 rfl ?_
                                      refine at_iload 248 X rfl dX12_walk_246 rfl ?_
                                      refine at_aload_n 249 X rfl rfl dX12_walk_248 rfl ?_
                                      refine m_getR 252 X f_X12_139 k_125 r_125_64 dX12_walk_249 rfl ?_
                                      refine at_iload 254 X rfl dX12_walk_252 rfl ?_
                                      refine m_zaloadV 255 X y (by omega) (F4 811 y) rfl k_811 e_811 (by omega) dX12_walk_254 rfl ?_
                                      have hi01 := hce_F4.1
                                      refine at_if_ne 258 283 X dX12_walk_255 rfl (by decide) (fun h255 => ?_) (fun h255 => ?_)
                                      · refine at_iconst 284 X (by decide) dX12_walk_283 rfl ?_
                                        refine at_goto 288 X dX12_walk_284 (by decide) ?_
                                        refine m_zastoreV 289 X y (by omega) k_811 e_811 (by omega) (by first | decide | omega) dX12_walk_288 rfl ?_
                                        refine at_iincV 292 X ((z0 + 1 : Nat) : Int) (w32_v (by omega) (by omega) (by omega)) rfl dX12_walk_289 rfl (by decide) ?_
                                        refine at_goto 221 X dX12_walk_292 (by decide) ?_
                                        exact at_sub _ (by exact ⟨rfl, rfl, rfl, rfl, rfl, rfl, trivial⟩) (ih221 (wr F4 811 y 1) (z0 + 1) (by first | omega | (simp only [] at *; omega)) (by omega) (fun z hz => by rw [wr_row (by decide)]; exact hws_F4 z hz) (fun q z hz => by rw [wr_o (Or.inr (by omega))]; exact hi4 q z hz) (by rw [wr_s, wkQ_s (by omega) (by omega)]; first | exact is1.t (Or.inl (hce_F4.y h255)) | exact is1.f (fun q => q.elim (hce_F4.n h255) (fun q => hw812.n h265 q.1)) | exact is1.t (Or.inr ⟨hw812.y h265, by rw [show h + (e - h) + 1 = e + 1 by omega]; omega⟩) | exact is1.f (fun q => q.elim (hce_F4.n h255) (fun q => by have := q.2; rw [show h + (e - h) + 1 = e + 1 by omega] at this; omega))) (fun q h1 h2 => by rw [wr_row h1]; exact hfq_F4 q h1 h2))
                                      · refine at_aload_n 259 X rfl rfl dX12_walk_258 rfl ?_
                                        refine m_getR 262 X f_X12_143 k_125 r_125_65 dX12_walk_259 rfl ?_
                                        refine at_iload 264 X rfl dX12_walk_262 rfl ?_
                                        refine m_zaloadV 265 X z0 (by omega) (F4 812 z0) rfl k_812 e_812 (by omega) dX12_walk_264 rfl ?_
                                        have hw812 := hws_F4 z0 (by omega)
                                        have hw01 := hw812.1
                                        refine at_if_eq 268 287 X dX12_walk_265 rfl (by decide) (fun h265 => ?_) (fun h265 => ?_)
                                        · refine at_iconst 288 X (by decide) dX12_walk_287 rfl ?_
                                          refine m_zastoreV 289 X y (by omega) k_811 e_811 (by omega) (by first | decide | omega) dX12_walk_288 rfl ?_
                                          refine at_iincV 292 X ((z0 + 1 : Nat) : Int) (w32_v (by omega) (by omega) (by omega)) rfl dX12_walk_289 rfl (by decide) ?_
                                          refine at_goto 221 X dX12_walk_292 (by decide) ?_
                                          exact at_sub _ (by exact ⟨rfl, rfl, rfl, rfl, rfl, rfl, trivial⟩) (ih221 (wr F4 811 y 0) (z0 + 1) (by first | omega | (simp only [] at *; omega)) (by omega) (fun z hz => by rw [wr_row (by decide)]; exact hws_F4 z hz) (fun q z hz => by rw [wr_o (Or.inr (by omega))]; exact hi4 q z hz) (by rw [wr_s, wkQ_s (by omega) (by omega)]; first | exact is1.t (Or.inl (hce_F4.y h255)) | exact is1.f (fun q => q.elim (hce_F4.n h255) (fun q => hw812.n h265 q.1)) | exact is1.t (Or.inr ⟨hw812.y h265, by rw [show h + (e - h) + 1 = e + 1 by omega]; omega⟩) | exact is1.f (fun q => q.elim (hce_F4.n h255) (fun q => by have := q.2; rw [show h + (e - h) + 1 = e + 1 by omega] at this; omega))) (fun q h1 h2 => by rw [wr_row h1]; exact hfq_F4 q h1 h2))
                                        · refine at_aload_n 269 X rfl rfl dX12_walk_268 rfl ?_
                                          refine m_getR 272 X f_X12_116 k_125 r_125_51 dX12_walk_269 rfl ?_
                                          refine at_iload 274 X rfl dX12_walk_272 rfl ?_
                                          refine at_iconst 275 X (by decide) dX12_walk_274 rfl ?_
                                          refine at_iaddV 276 X ((e + 1 : Nat) : Int) (w32_v (by omega) (by omega) (by omega)) dX12_walk_275 rfl ?_
                                          refine m_aaloadV 277 X (e + 1) (by omega) k_707 (by decide) (by omega) (rr_707 _ (by omega)) dX12_walk_276 rfl ?_
                                          refine at_iload 279 X rfl dX12_walk_277 rfl ?_
                                          refine m_ialoadV 280 X y (by omega) (bOn (gDay P L d) (e + 1) y) (hbe_F4 (e + 1) y (by omega) (by omega)) (kr_707 _ (by omega)) (er_707 _ (by omega)) (by omega) dX12_walk_279 rfl ?_
                                          have := bOn_in (gDay P L d) (e + 1) y
                                          refine at_if_le 283 287 X dX12_walk_280 rfl (by decide) (fun h280 => ?_) (fun h280 => ?_)
                                          · refine at_iconst 288 X (by decide) dX12_walk_287 rfl ?_
                                            refine m_zastoreV 289 X y (by omega) k_811 e_811 (by omega) (by first | decide | omega) dX12_walk_288 rfl ?_
                                            refine at_iincV 292 X ((z0 + 1 : Nat) : Int) (w32_v (by omega) (by omega) (by omega)) rfl dX12_walk_289 rfl (by decide) ?_
                                            refine at_goto 221 X dX12_walk_292 (by decide) ?_
                                            exact at_sub _ (by exact ⟨rfl, rfl, rfl, rfl, rfl, rfl, trivial⟩) (ih221 (wr F4 811 y 0) (z0 + 1) (by first | omega | (simp only [] at *; omega)) (by omega) (fun z hz => by rw [wr_row (by decide)]; exact hws_F4 z hz) (fun q z hz => by rw [wr_o (Or.inr (by omega))]; exact hi4 q z hz) (by rw [wr_s, wkQ_s (by omega) (by omega)]; first | exact is1.t (Or.inl (hce_F4.y h255)) | exact is1.f (fun q => q.elim (hce_F4.n h255) (fun q => hw812.n h265 q.1)) | exact is1.t (Or.inr ⟨hw812.y h265, by rw [show h + (e - h) + 1 = e + 1 by omega]; omega⟩) | exact is1.f (fun q => q.elim (hce_F4.n h255) (fun q => by have := q.2; rw [show h + (e - h) + 1 = e + 1 by omega] at this; omega))) (fun q h1 h2 => by rw [wr_row h1]; exact hfq_F4 q h1 h2))
                                          · refine at_iconst 284 X (by decide) dX12_walk_283 rfl ?_
                                            refine at_goto 288 X dX12_walk_284 (by decide) ?_
                                            refine m_zastoreV 289 X y (by omega) k_811 e_811 (by omega) (by first | decide | omega) dX12_walk_288 rfl ?_
                                            refine at_iincV 292 X ((z0 + 1 : Nat) : Int) (w32_v (by omega) (by omega) (by omega)) rfl dX12_walk_289 rfl (by decide) ?_
                                            refine at_goto 221 X dX12_walk_292 (by decide) ?_
                                            exact at_sub _ (by exact ⟨rfl, rfl, rfl, rfl, rfl, rfl, trivial⟩) (ih221 (wr F4 811 y 1) (z0 + 1) (by first | omega | (simp only [] at *; omega)) (by omega) (fun z hz => by rw [wr_row (by decide)]; exact hws_F4 z hz) (fun q z hz => by rw [wr_o (Or.inr (by omega))]; exact hi4 q z hz) (by rw [wr_s, wkQ_s (by omega) (by omega)]; first | exact is1.t (Or.inl (hce_F4.y h255)) | exact is1.f (fun q => q.elim (hce_F4.n h255) (fun q => hw812.n h265 q.1)) | exact is1.t (Or.inr ⟨hw812.y h265, by rw [show h + (e - h) + 1 = e + 1 by omega]; omega⟩) | exact is1.f (fun q => q.elim (hce_F4.n h255) (fun q => by have := q.2; rw [show h + (e - h) + 1 = e + 1 by omega] at this; omega))) (fun q h1 h2 => by rw [wr_row h1]; exact hfq_F4 q h1 h2))
                                  exact at_sub _ (by exact ⟨rfl, rfl, rfl, rfl, rfl, rfl, trivial⟩) (J221 _ (wr F3 811 y 0) (y - r) (Nat.lt_succ_self _) (by omega) (fun z hz => by rw [wr_row (by decide)]; exact hws_F3 z hz) (fun q z hz => by rw [wr_o (Or.inr (by omega))]; exact hi3 q z hz) (by rw [wr_s]; exact is1.f (wkQ_0 (by omega))) (fun q h1 h2 => by rw [wr_row h1]; exact hfq_F3 q h1 h2))
                            exact at_sub _ (by exact ⟨rfl, rfl, rfl, rfl, rfl, trivial⟩) (J182 _ F2 0 (Nat.lt_succ_self _) (by first | omega | assumption | rfl) (fun z hz => hw2 z (by omega)) (fun _ z hz => absurd hz (Nat.not_lt_zero z)) hfq_F2)
                          · refine at_aload_n 160 X rfl rfl dX12_walk_159 rfl ?_
                            refine m_getR 163 X f_X12_143 k_125 r_125_65 dX12_walk_160 rfl ?_
                            refine at_iload 165 X rfl dX12_walk_163 rfl ?_
                            refine at_aload_n 166 X rfl rfl dX12_walk_165 rfl ?_
                            refine m_getR 169 X f_X12_139 k_125 r_125_64 dX12_walk_166 rfl ?_
                            refine at_iload 171 X rfl dX12_walk_169 rfl ?_
                            refine m_zaloadV 172 X y (by omega) (F2 811 y) rfl k_811 e_811 (by omega) dX12_walk_171 rfl ?_
                            have hi811 := hit_F2 (by omega) y (by omega)
                            have hi01 := hi811.1
                            refine m_zastoreV 173 X y (by omega) k_812 e_812 (by omega) (by omega) dX12_walk_172 rfl ?_
                            refine at_iincV 176 X ((y + 1 : Nat) : Int) (w32_v (by omega) (by omega) (by omega)) rfl dX12_walk_173 rfl (by decide) ?_
                            refine at_goto 148 X dX12_walk_176 (by decide) ?_
                            exact at_sub _ (by exact ⟨rfl, rfl, rfl, rfl, rfl, trivial⟩) (ih148 (wr F2 812 y (F2 811 y)) (y + 1) (by first | omega | (simp only [] at *; omega)) (by first | omega | assumption) (fun q z hz => by rw [wr_row (by decide)]; exact hit_F2 q z hz) (fun z hz => if k : z = y then by rw [k, wr_s]; exact hi811 else by rw [wr_o (Or.inr k)]; exact hw2 z (by omega)) (fun q h1 h2 => by rw [wr_row h2]; exact hfq_F2 q h1 h2))
                        exact at_sub _ (by exact ⟨rfl, rfl, rfl, rfl, rfl, trivial⟩) (J148 _ F 0 (Nat.lt_succ_self _) (by first | omega | assumption | rfl) hit_F (fun z hz => absurd hz (Nat.not_lt_zero z)) hfq_F)
                      · refine at_iload 144 X rfl dX12_walk_142 rfl ?_
                        refine at_iret X Rt ?_ (Nat.le_refl _) (Nat.le_refl _) dX12_walk_144
                        have hY : RXF P F1 F := ⟨fun q h => hfq_F q (by omega) (by omega), fun k h => by rw [hfq_F 125 (by omega) (by omega)]⟩
                        have hO_F := hO_F1.nx (hO_F1.1.fr hWf hY (hO_F1.1.2.2.1.fr (by rw [hfq_F 125 (by omega) (by omega)]) (hfq_F 578 (by omega) (by omega)) (hfq_F 579 (by omega) (by omega)))) hY (by rw [hfq_F 125 (by omega) (by omega)]) (hfq_F 127 (by omega) (by omega))
                        exact Or.inl ⟨hc0, hc1, (by have hf := fst_at (q := fun n => (wkP (gDay P L d) r h c n).testBit to) hno (hi811.y h139) (n := 24 - h) (by omega); show _ = some (mI (wkA (gDay P L d) r h c to)); unfold wkA; rw [if_neg (by rw [hf]; omega), hf]; exact congrArg (fun q => some (mI q)) (by omega)), _, rfl, hO_F⟩
                  exact at_sub _ (by exact ⟨rfl, rfl, rfl, rfl, trivial⟩) (J126 _ F0 h (Nat.lt_succ_self _) (by omega) (fun _ z hz => by rw [Nat.sub_self]; exact hi0 z (by omega)) (fun j hj => by omega) hfq_F0)
                · refine at_aload_n 88 X rfl rfl dX12_walk_87 rfl ?_
                  refine m_getR 91 X f_X12_139 k_125 r_125_64 dX12_walk_88 rfl ?_
                  refine at_iload 93 X rfl dX12_walk_91 rfl ?_
                  refine at_iload 95 X rfl dX12_walk_93 rfl ?_
                  refine at_iload_n 96 X rfl rfl dX12_walk_95 rfl ?_
                  refine at_icmp_ne 99 115 X dX12_walk_96 rfl (by decide) (fun h96 => ?_) (fun h96 => ?_)
                  · refine at_iconst 116 X (by decide) dX12_walk_115 rfl ?_
                    refine m_zastoreV 117 X y (by omega) k_811 e_811 (by omega) (by first | decide | omega) dX12_walk_116 rfl ?_
                    refine at_iincV 120 X ((y + 1 : Nat) : Int) (w32_v (by omega) (by omega) (by omega)) rfl dX12_walk_117 rfl (by decide) ?_
                    refine at_goto 76 X dX12_walk_120 (by decide) ?_
                    exact at_sub _ (by exact ⟨rfl, rfl, rfl, rfl, rfl, rfl, trivial⟩) (ih76 (wr F0 811 y 0) (y + 1) (by first | omega | (simp only [] at *; omega)) (by first | omega | assumption) (fun z hz => if k : z = y then by rw [k, wr_s, wk_0]; first | exact is1.t ⟨by omega, by omega, by omega⟩ | exact is1.f (fun q => by have := q.1; have := q.2.2; omega) else by rw [wr_o (Or.inr k)]; exact hi0 z (by omega)) (fun q h1 h2 => by rw [wr_row h1]; exact hfq_F0 q h1 h2))
                  · refine at_aload_n 100 X rfl rfl dX12_walk_99 rfl ?_
                    refine m_getR 103 X f_X12_116 k_125 r_125_51 dX12_walk_100 rfl ?_
                    refine at_iload_n 104 X rfl rfl dX12_walk_103 rfl ?_
                    refine m_aaloadV 105 X h (by omega) k_707 (by decide) (by omega) (rr_707 _ (by omega)) dX12_walk_104 rfl ?_
                    refine at_iload 107 X rfl dX12_walk_105 rfl ?_
                    refine m_ialoadV 108 X y (by omega) (bOn (gDay P L d) h y) (hbe_F0 h y (by omega) (by omega)) (kr_707 _ (by omega)) (er_707 _ (by omega)) (by omega) dX12_walk_107 rfl ?_
                    have := bOn_in (gDay P L d) h y
                    refine at_if_le 111 115 X dX12_walk_108 rfl (by decide) (fun h108 => ?_) (fun h108 => ?_)
                    · refine at_iconst 116 X (by decide) dX12_walk_115 rfl ?_
                      refine m_zastoreV 117 X y (by omega) k_811 e_811 (by omega) (by first | decide | omega) dX12_walk_116 rfl ?_
                      refine at_iincV 120 X ((y + 1 : Nat) : Int) (w32_v (by omega) (by omega) (by omega)) rfl dX12_walk_117 rfl (by decide) ?_
                      refine at_goto 76 X dX12_walk_120 (by decide) ?_
                      exact at_sub _ (by exact ⟨rfl, rfl, rfl, rfl, rfl, rfl, trivial⟩) (ih76 (wr F0 811 y 0) (y + 1) (by first | omega | (simp only [] at *; omega)) (by first | omega | assumption) (fun z hz => if k : z = y then by rw [k, wr_s, wk_0]; first | exact is1.t ⟨by omega, by omega, by omega⟩ | exact is1.f (fun q => by have := q.1; have := q.2.2; omega) else by rw [wr_o (Or.inr k)]; exact hi0 z (by omega)) (fun q h1 h2 => by rw [wr_row h1]; exact hfq_F0 q h1 h2))
                    · refine at_iconst 112 X (by decide) dX12_walk_111 rfl ?_
                      refine at_goto 116 X dX12_walk_112 (by decide) ?_
                      refine m_zastoreV 117 X y (by omega) k_811 e_811 (by omega) (by first | decide | omega) dX12_walk_116 rfl ?_
                      refine at_iincV 120 X ((y + 1 : Nat) : Int) (w32_v (by omega) (by omega) (by omega)) rfl dX12_walk_117 rfl (by decide) ?_
                      refine at_goto 76 X dX12_walk_120 (by decide) ?_
                      exact at_sub _ (by exact ⟨rfl, rfl, rfl, rfl, rfl, rfl, trivial⟩) (ih76 (wr F0 811 y 1) (y + 1) (by first | omega | (simp only [] at *; omega)) (by first | omega | assumption) (fun z hz => if k : z = y then by rw [k, wr_s, wk_0]; first | exact is1.t ⟨by omega, by omega, by omega⟩ | exact is1.f (fun q => by have := q.1; have := q.2.2; omega) else by rw [wr_o (Or.inr k)]; exact hi0 z (by omega)) (fun q h1 h2 => by rw [wr_row h1]; exact hfq_F0 q h1 h2))
              exact at_sub _ (by exact ⟨rfl, rfl, rfl, rfl, rfl, rfl, trivial⟩) (J76 _ F1 0 (Nat.lt_succ_self _) (by first | omega | assumption | rfl) (fun z hz => absurd hz (Nat.not_lt_zero z)) (fun _ _ _ => rfl))
            · exact absurd h64 (by decide)
          · have h51 : ¬ (1 ≤ x3 ∧ x3 ≤ 9) := ite_no.mp h51
            refine at_iconst 55 X (by decide) dX12_walk_54 rfl ?_
            refine at_goto 59 X dX12_walk_55 (by decide) ?_
            refine at_iconst 60 X (by decide) dX12_walk_59 rfl ?_
            refine at_iconst 61 X (by decide) dX12_walk_60 rfl ?_
            refine at_callV 64 X _ 12 (ct_bad1 hG E0 2 2 (by decide) hO_E0.2.2.1 (by decide)) clX12 rfl k_125 mo_X12_bad w_1960 vo_X12_bad.1 vo_X12_bad.2 rfl rfl (crm Rt (by decide)) (Nat.le_of_ble_eq_true rfl) dX12_walk_61 rfl ?_
            rintro _ _ ⟨rfl, rfl⟩
            have hb : ¬ ((0 ≤ x2 ∧ x2 ≤ 23) ∧ (1 ≤ x3 ∧ x3 ≤ 9)) := by omega
            refine at_if_eq 67 69 X dX12_walk_64 rfl (by decide) (fun h64 => ?_) (fun h64 => ?_)
            · exact absurd h64 (by decide)
            · refine at_iconst 68 X (by decide) dX12_walk_67 rfl ?_
              refine at_iret X Rt ?_ (Nat.le_refl _) (Nat.le_refl _) dX12_walk_68
              exact Or.inr (Or.inr (⟨hc0, hb, rfl, congrArg ov (badR_of hE0)⟩))
    · have h19 : ¬ (0 ≤ x1 ∧ x1 ≤ (sW P : Int) - 1) := ite_no.mp h19
      refine at_iconst 23 X (by decide) dX12_walk_22 rfl ?_
      refine at_goto 27 X dX12_walk_23 (by decide) ?_
      refine at_iconst 28 X (by decide) dX12_walk_27 rfl ?_
      refine at_iconst 29 X (by decide) dX12_walk_28 rfl ?_
      refine at_callV 32 X _ 12 (ct_bad1 hG E0 1 0 (by decide) hO_E0.2.2.1 (by decide)) clX12 rfl k_125 mo_X12_bad w_1960 vo_X12_bad.1 vo_X12_bad.2 rfl rfl (crm Rt (by decide)) (Nat.le_of_ble_eq_true rfl) dX12_walk_29 rfl ?_
      rintro _ _ ⟨rfl, rfl⟩
      have hb : ¬ ((0 ≤ x0 ∧ x0 ≤ (sW P : Int) - 1) ∧ (0 ≤ x1 ∧ x1 ≤ (sW P : Int) - 1)) := by omega
      refine at_if_ne 35 67 X dX12_walk_32 rfl (by decide) (fun h32 => ?_) (fun h32 => ?_)
      · refine at_iconst 68 X (by decide) dX12_walk_67 rfl ?_
        refine at_iret X Rt ?_ (Nat.le_refl _) (Nat.le_refl _) dX12_walk_68
        exact Or.inr (Or.inl ⟨hb, rfl, congrArg ov (badR_of hE0)⟩)
      · exact absurd h32 (by decide)
