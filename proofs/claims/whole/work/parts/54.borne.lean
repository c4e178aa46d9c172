theorem step_op {E1 : Mm} {L : LW} {s t h m v : Int} {i : Nat} (h5 : 5 ≤ L.2.1 i) (h2 : 2 ≤ hgt L i) (hst : ∀ j, j < hgt L i → E1 7 j = stk L s t h m i j) (hv : v = lop (L.2.1 i) (stk L s t h m i (hgt L i - 1 - 1)) (stk L s t h m i (hgt L i - 1))) : ∀ j, j < hgt L (i + 1) → wr E1 7 (hgt L i - 1 - 1) v 7 j = stk L s t h m (i + 1) j := by
  intro j hj
  rw [hgt_s, if_pos h5] at hj
  rw [stk_s, if_pos h5]
  by_cases c : j = hgt L i - 2
  · subst c
    rw [updf_s, show hgt L i - 1 - 1 = hgt L i - 2 by omega, wr_s, hv, show hgt L i - 1 - 1 = hgt L i - 2 by omega]
  · rw [updf_o c, wr_o (by omega)]
    exact hst j (by omega)
theorem step_val {E1 : Mm} {L : LW} {s t h m v : Int} {i : Nat} (h5 : L.2.1 i < 5) (hst : ∀ j, j < hgt L i → E1 7 j = stk L s t h m i j) (hv : v = lvl (L.2.1 i) (L.2.2 i) s t h m) : ∀ j, j < hgt L (i + 1) → wr E1 7 (hgt L i) v 7 j = stk L s t h m (i + 1) j := by
  intro j hj
  rw [hgt_s, if_neg (by omega)] at hj
  rw [stk_s, if_neg (by omega)]
  by_cases c : j = hgt L i
  · subst c
    rw [updf_s, wr_s, hv]
  · rw [updf_o c, wr_o (by omega)]
    exact hst j (by omega)
theorem hgt_op {L : LW} {i : Nat} (h : 5 ≤ L.2.1 i) : hgt L (i + 1) = hgt L i - 1 := by rw [hgt_s, if_pos h]
theorem hgt_val {L : LW} {i : Nat} (h : L.2.1 i < 5) : hgt L (i + 1) = hgt L i + 1 := by rw [hgt_s, if_neg (by omega)]
theorem dX7_borne_0 : decode cX7_borne 0 = .ok (.iload_n 1, 1) := by decide +kernel
theorem dX7_borne_1 : decode cX7_borne 1 = .ok (.ifCond .ne 5, 3) := by decide +kernel
theorem dX7_borne_4 : decode cX7_borne 4 = .ok (.iconst 0, 1) := by decide +kernel
theorem dX7_borne_5 : decode cX7_borne 5 = .ok (.ireturn, 1) := by decide +kernel
theorem dX7_borne_6 : decode cX7_borne 6 = .ok (.iconst 0, 1) := by decide +kernel
theorem dX7_borne_7 : decode cX7_borne 7 = .ok (.istore 5, 2) := by decide +kernel
theorem dX7_borne_9 : decode cX7_borne 9 = .ok (.iconst 0, 1) := by decide +kernel
theorem dX7_borne_10 : decode cX7_borne 10 = .ok (.istore 6, 2) := by decide +kernel
theorem dX7_borne_12 : decode cX7_borne 12 = .ok (.iload 6, 2) := by decide +kernel
theorem dX7_borne_14 : decode cX7_borne 14 = .ok (.aload_n 0, 1) := by decide +kernel
theorem dX7_borne_15 : decode cX7_borne 15 = .ok (.getfield 24, 3) := by decide +kernel
theorem dX7_borne_18 : decode cX7_borne 18 = .ok (.if_icmp .ge 330, 3) := by decide +kernel
theorem dX7_borne_21 : decode cX7_borne 21 = .ok (.aload_n 0, 1) := by decide +kernel
theorem dX7_borne_22 : decode cX7_borne 22 = .ok (.getfield 9, 3) := by decide +kernel
theorem dX7_borne_25 : decode cX7_borne 25 = .ok (.iload 6, 2) := by decide +kernel
theorem dX7_borne_27 : decode cX7_borne 27 = .ok (.iaload, 1) := by decide +kernel
theorem dX7_borne_28 : decode cX7_borne 28 = .ok (.iconst 5, 1) := by decide +kernel
theorem dX7_borne_29 : decode cX7_borne 29 = .ok (.if_icmp .lt 204, 3) := by decide +kernel
theorem dX7_borne_32 : decode cX7_borne 32 = .ok (.iload 5, 2) := by decide +kernel
theorem dX7_borne_34 : decode cX7_borne 34 = .ok (.iconst 2, 1) := by decide +kernel
theorem dX7_borne_35 : decode cX7_borne 35 = .ok (.if_icmp .lt 198, 3) := by decide +kernel
theorem dX7_borne_38 : decode cX7_borne 38 = .ok (.iinc 5 (-1), 3) := by decide +kernel
theorem dX7_borne_41 : decode cX7_borne 41 = .ok (.aload_n 0, 1) := by decide +kernel
theorem dX7_borne_42 : decode cX7_borne 42 = .ok (.getfield 18, 3) := by decide +kernel
theorem dX7_borne_45 : decode cX7_borne 45 = .ok (.iload 5, 2) := by decide +kernel
theorem dX7_borne_47 : decode cX7_borne 47 = .ok (.iconst 1, 1) := by decide +kernel
theorem dX7_borne_48 : decode cX7_borne 48 = .ok (.isub, 1) := by decide +kernel
theorem dX7_borne_49 : decode cX7_borne 49 = .ok (.iaload, 1) := by decide +kernel
theorem dX7_borne_50 : decode cX7_borne 50 = .ok (.istore 7, 2) := by decide +kernel
theorem dX7_borne_52 : decode cX7_borne 52 = .ok (.aload_n 0, 1) := by decide +kernel
theorem dX7_borne_53 : decode cX7_borne 53 = .ok (.getfield 18, 3) := by decide +kernel
theorem dX7_borne_56 : decode cX7_borne 56 = .ok (.iload 5, 2) := by decide +kernel
theorem dX7_borne_58 : decode cX7_borne 58 = .ok (.iaload, 1) := by decide +kernel
theorem dX7_borne_59 : decode cX7_borne 59 = .ok (.istore 8, 2) := by decide +kernel
theorem dX7_borne_61 : decode cX7_borne 61 = .ok (.aload_n 0, 1) := by decide +kernel
theorem dX7_borne_62 : decode cX7_borne 62 = .ok (.getfield 9, 3) := by decide +kernel
theorem dX7_borne_65 : decode cX7_borne 65 = .ok (.iload 6, 2) := by decide +kernel
theorem dX7_borne_67 : decode cX7_borne 67 = .ok (.iaload, 1) := by decide +kernel
theorem dX7_borne_68 : decode cX7_borne 68 = .ok (.tableswitch 139 5 9 #[36, 53, 70, 87, 113], 36) := by decide +kernel
theorem dX7_borne_104 : decode cX7_borne 104 = .ok (.aload_n 0, 1) := by decide +kernel
theorem dX7_borne_105 : decode cX7_borne 105 = .ok (.getfield 18, 3) := by decide +kernel
theorem dX7_borne_108 : decode cX7_borne 108 = .ok (.iload 5, 2) := by decide +kernel
theorem dX7_borne_110 : decode cX7_borne 110 = .ok (.iconst 1, 1) := by decide +kernel
theorem dX7_borne_111 : decode cX7_borne 111 = .ok (.isub, 1) := by decide +kernel
theorem dX7_borne_112 : decode cX7_borne 112 = .ok (.iload 7, 2) := by decide +kernel
theorem dX7_borne_114 : decode cX7_borne 114 = .ok (.iload 8, 2) := by decide +kernel
theorem dX7_borne_116 : decode cX7_borne 116 = .ok (.iadd, 1) := by decide +kernel
theorem dX7_borne_117 : decode cX7_borne 117 = .ok (.iastore, 1) := by decide +kernel
theorem dX7_borne_118 : decode cX7_borne 118 = .ok (.goto 112, 3) := by decide +kernel
theorem dX7_borne_121 : decode cX7_borne 121 = .ok (.aload_n 0, 1) := by decide +kernel
theorem dX7_borne_122 : decode cX7_borne 122 = .ok (.getfield 18, 3) := by decide +kernel
theorem dX7_borne_125 : decode cX7_borne 125 = .ok (.iload 5, 2) := by decide +kernel
theorem dX7_borne_127 : decode cX7_borne 127 = .ok (.iconst 1, 1) := by decide +kernel
theorem dX7_borne_128 : decode cX7_borne 128 = .ok (.isub, 1) := by decide +kernel
theorem dX7_borne_129 : decode cX7_borne 129 = .ok (.iload 7, 2) := by decide +kernel
theorem dX7_borne_131 : decode cX7_borne 131 = .ok (.iload 8, 2) := by decide +kernel
theorem dX7_borne_133 : decode cX7_borne 133 = .ok (.isub, 1) := by decide +kernel
theorem dX7_borne_134 : decode cX7_borne 134 = .ok (.iastore, 1) := by decide +kernel
theorem dX7_borne_135 : decode cX7_borne 135 = .ok (.goto 95, 3) := by decide +kernel
theorem dX7_borne_138 : decode cX7_borne 138 = .ok (.aload_n 0, 1) := by decide +kernel
theorem dX7_borne_139 : decode cX7_borne 139 = .ok (.getfield 18, 3) := by decide +kernel
theorem dX7_borne_142 : decode cX7_borne 142 = .ok (.iload 5, 2) := by decide +kernel
theorem dX7_borne_144 : decode cX7_borne 144 = .ok (.iconst 1, 1) := by decide +kernel
theorem dX7_borne_145 : decode cX7_borne 145 = .ok (.isub, 1) := by decide +kernel
theorem dX7_borne_146 : decode cX7_borne 146 = .ok (.iload 7, 2) := by decide +kernel
theorem dX7_borne_148 : decode cX7_borne 148 = .ok (.iload 8, 2) := by decide +kernel
theorem dX7_borne_150 : decode cX7_borne 150 = .ok (.imul, 1) := by decide +kernel
theorem dX7_borne_151 : decode cX7_borne 151 = .ok (.iastore, 1) := by decide +kernel
theorem dX7_borne_152 : decode cX7_borne 152 = .ok (.goto 78, 3) := by decide +kernel
theorem dX7_borne_155 : decode cX7_borne 155 = .ok (.aload_n 0, 1) := by decide +kernel
theorem dX7_borne_156 : decode cX7_borne 156 = .ok (.getfield 18, 3) := by decide +kernel
theorem dX7_borne_159 : decode cX7_borne 159 = .ok (.iload 5, 2) := by decide +kernel
theorem dX7_borne_161 : decode cX7_borne 161 = .ok (.iconst 1, 1) := by decide +kernel
theorem dX7_borne_162 : decode cX7_borne 162 = .ok (.isub, 1) := by decide +kernel
theorem dX7_borne_163 : decode cX7_borne 163 = .ok (.iload 8, 2) := by decide +kernel
theorem dX7_borne_165 : decode cX7_borne 165 = .ok (.ifCond .ne 7, 3) := by decide +kernel
theorem dX7_borne_168 : decode cX7_borne 168 = .ok (.iconst 0, 1) := by decide +kernel
theorem dX7_borne_169 : decode cX7_borne 169 = .ok (.goto 8, 3) := by decide +kernel
theorem dX7_borne_172 : decode cX7_borne 172 = .ok (.iload 7, 2) := by decide +kernel
theorem dX7_borne_174 : decode cX7_borne 174 = .ok (.iload 8, 2) := by decide +kernel
theorem dX7_borne_176 : decode cX7_borne 176 = .ok (.idiv, 1) := by decide +kernel
theorem dX7_borne_177 : decode cX7_borne 177 = .ok (.iastore, 1) := by decide +kernel
theorem dX7_borne_178 : decode cX7_borne 178 = .ok (.goto 52, 3) := by decide +kernel
theorem dX7_borne_181 : decode cX7_borne 181 = .ok (.aload_n 0, 1) := by decide +kernel
theorem dX7_borne_182 : decode cX7_borne 182 = .ok (.getfield 18, 3) := by decide +kernel
theorem dX7_borne_185 : decode cX7_borne 185 = .ok (.iload 5, 2) := by decide +kernel
theorem dX7_borne_187 : decode cX7_borne 187 = .ok (.iconst 1, 1) := by decide +kernel
theorem dX7_borne_188 : decode cX7_borne 188 = .ok (.isub, 1) := by decide +kernel
theorem dX7_borne_189 : decode cX7_borne 189 = .ok (.iload 7, 2) := by decide +kernel
theorem dX7_borne_191 : decode cX7_borne 191 = .ok (.iload 8, 2) := by decide +kernel
theorem dX7_borne_193 : decode cX7_borne 193 = .ok (.if_icmp .ge 8, 3) := by decide +kernel
theorem dX7_borne_196 : decode cX7_borne 196 = .ok (.iload 7, 2) := by decide +kernel
theorem dX7_borne_198 : decode cX7_borne 198 = .ok (.goto 5, 3) := by decide +kernel
theorem dX7_borne_201 : decode cX7_borne 201 = .ok (.iload 8, 2) := by decide +kernel
theorem dX7_borne_203 : decode cX7_borne 203 = .ok (.iastore, 1) := by decide +kernel
theorem dX7_borne_204 : decode cX7_borne 204 = .ok (.goto 26, 3) := by decide +kernel
theorem dX7_borne_207 : decode cX7_borne 207 = .ok (.aload_n 0, 1) := by decide +kernel
theorem dX7_borne_208 : decode cX7_borne 208 = .ok (.getfield 18, 3) := by decide +kernel
theorem dX7_borne_211 : decode cX7_borne 211 = .ok (.iload 5, 2) := by decide +kernel
theorem dX7_borne_213 : decode cX7_borne 213 = .ok (.iconst 1, 1) := by decide +kernel
theorem dX7_borne_214 : decode cX7_borne 214 = .ok (.isub, 1) := by decide +kernel
theorem dX7_borne_215 : decode cX7_borne 215 = .ok (.iload 7, 2) := by decide +kernel
theorem dX7_borne_217 : decode cX7_borne 217 = .ok (.iload 8, 2) := by decide +kernel
theorem dX7_borne_219 : decode cX7_borne 219 = .ok (.if_icmp .le 8, 3) := by decide +kernel
theorem dX7_borne_222 : decode cX7_borne 222 = .ok (.iload 7, 2) := by decide +kernel
theorem dX7_borne_224 : decode cX7_borne 224 = .ok (.goto 5, 3) := by decide +kernel
theorem dX7_borne_227 : decode cX7_borne 227 = .ok (.iload 8, 2) := by decide +kernel
theorem dX7_borne_229 : decode cX7_borne 229 = .ok (.iastore, 1) := by decide +kernel
theorem dX7_borne_230 : decode cX7_borne 230 = .ok (.goto 112, 3) := by decide +kernel
theorem dX7_borne_233 : decode cX7_borne 233 = .ok (.iload 5, 2) := by decide +kernel
theorem dX7_borne_235 : decode cX7_borne 235 = .ok (.sipush 150, 3) := by decide +kernel
theorem dX7_borne_238 : decode cX7_borne 238 = .ok (.if_icmp .ge 104, 3) := by decide +kernel
theorem dX7_borne_241 : decode cX7_borne 241 = .ok (.aload_n 0, 1) := by decide +kernel
theorem dX7_borne_242 : decode cX7_borne 242 = .ok (.getfield 9, 3) := by decide +kernel
theorem dX7_borne_245 : decode cX7_borne 245 = .ok (.iload 6, 2) := by decide +kernel
theorem dX7_borne_247 : decode cX7_borne 247 = .ok (.iaload, 1) := by decide +kernel
theorem dX7_borne_248 : decode cX7_borne 248 = .ok (.tableswitch 77 1 4 #[32, 43, 54, 65], 32) := by decide +kernel
theorem dX7_borne_280 : decode cX7_borne 280 = .ok (.aload_n 0, 1) := by decide +kernel
theorem dX7_borne_281 : decode cX7_borne 281 = .ok (.getfield 18, 3) := by decide +kernel
theorem dX7_borne_284 : decode cX7_borne 284 = .ok (.iload 5, 2) := by decide +kernel
theorem dX7_borne_286 : decode cX7_borne 286 = .ok (.iload_n 1, 1) := by decide +kernel
theorem dX7_borne_287 : decode cX7_borne 287 = .ok (.iastore, 1) := by decide +kernel
theorem dX7_borne_288 : decode cX7_borne 288 = .ok (.goto 51, 3) := by decide +kernel
theorem dX7_borne_291 : decode cX7_borne 291 = .ok (.aload_n 0, 1) := by decide +kernel
theorem dX7_borne_292 : decode cX7_borne 292 = .ok (.getfield 18, 3) := by decide +kernel
theorem dX7_borne_295 : decode cX7_borne 295 = .ok (.iload 5, 2) := by decide +kernel
theorem dX7_borne_297 : decode cX7_borne 297 = .ok (.iload_n 2, 1) := by decide +kernel
theorem dX7_borne_298 : decode cX7_borne 298 = .ok (.iastore, 1) := by decide +kernel
theorem dX7_borne_299 : decode cX7_borne 299 = .ok (.goto 40, 3) := by decide +kernel
theorem dX7_borne_302 : decode cX7_borne 302 = .ok (.aload_n 0, 1) := by decide +kernel
theorem dX7_borne_303 : decode cX7_borne 303 = .ok (.getfield 18, 3) := by decide +kernel
theorem dX7_borne_306 : decode cX7_borne 306 = .ok (.iload 5, 2) := by decide +kernel
theorem dX7_borne_308 : decode cX7_borne 308 = .ok (.iload_n 3, 1) := by decide +kernel
theorem dX7_borne_309 : decode cX7_borne 309 = .ok (.iastore, 1) := by decide +kernel
theorem dX7_borne_310 : decode cX7_borne 310 = .ok (.goto 29, 3) := by decide +kernel
theorem dX7_borne_313 : decode cX7_borne 313 = .ok (.aload_n 0, 1) := by decide +kernel
theorem dX7_borne_314 : decode cX7_borne 314 = .ok (.getfield 18, 3) := by decide +kernel
theorem dX7_borne_317 : decode cX7_borne 317 = .ok (.iload 5, 2) := by decide +kernel
theorem dX7_borne_319 : decode cX7_borne 319 = .ok (.iload 4, 2) := by decide +kernel
theorem dX7_borne_321 : decode cX7_borne 321 = .ok (.iastore, 1) := by decide +kernel
theorem dX7_borne_322 : decode cX7_borne 322 = .ok (.goto 17, 3) := by decide +kernel
theorem dX7_borne_325 : decode cX7_borne 325 = .ok (.aload_n 0, 1) := by decide +kernel
theorem dX7_borne_326 : decode cX7_borne 326 = .ok (.getfield 18, 3) := by decide +kernel
theorem dX7_borne_329 : decode cX7_borne 329 = .ok (.iload 5, 2) := by decide +kernel
theorem dX7_borne_331 : decode cX7_borne 331 = .ok (.aload_n 0, 1) := by decide +kernel
theorem dX7_borne_332 : decode cX7_borne 332 = .ok (.getfield 15, 3) := by decide +kernel
theorem dX7_borne_335 : decode cX7_borne 335 = .ok (.iload 6, 2) := by decide +kernel
theorem dX7_borne_337 : decode cX7_borne 337 = .ok (.iaload, 1) := by decide +kernel
theorem dX7_borne_338 : decode cX7_borne 338 = .ok (.iastore, 1) := by decide +kernel
theorem dX7_borne_339 : decode cX7_borne 339 = .ok (.iinc 5 1, 3) := by decide +kernel
theorem dX7_borne_342 : decode cX7_borne 342 = .ok (.iinc 6 1, 3) := by decide +kernel
theorem dX7_borne_345 : decode cX7_borne 345 = .ok (.goto (-333), 3) := by decide +kernel
theorem dX7_borne_348 : decode cX7_borne 348 = .ok (.aload_n 0, 1) := by decide +kernel
theorem dX7_borne_349 : decode cX7_borne 349 = .ok (.getfield 18, 3) := by decide +kernel
theorem dX7_borne_352 : decode cX7_borne 352 = .ok (.iconst 0, 1) := by decide +kernel
theorem dX7_borne_353 : decode cX7_borne 353 = .ok (.iaload, 1) := by decide +kernel
theorem dX7_borne_354 : decode cX7_borne 354 = .ok (.istore 6, 2) := by decide +kernel
theorem dX7_borne_356 : decode cX7_borne 356 = .ok (.iload 6, 2) := by decide +kernel
theorem dX7_borne_358 : decode cX7_borne 358 = .ok (.ifCond .ge 7, 3) := by decide +kernel
theorem dX7_borne_361 : decode cX7_borne 361 = .ok (.iconst 0, 1) := by decide +kernel
theorem dX7_borne_362 : decode cX7_borne 362 = .ok (.goto 19, 3) := by decide +kernel
theorem dX7_borne_365 : decode cX7_borne 365 = .ok (.iload 6, 2) := by decide +kernel
theorem dX7_borne_367 : decode cX7_borne 367 = .ok (.sipush 999, 3) := by decide +kernel
theorem dX7_borne_370 : decode cX7_borne 370 = .ok (.if_icmp .le 9, 3) := by decide +kernel
theorem dX7_borne_373 : decode cX7_borne 373 = .ok (.sipush 999, 3) := by decide +kernel
theorem dX7_borne_376 : decode cX7_borne 376 = .ok (.goto 5, 3) := by decide +kernel
theorem dX7_borne_379 : decode cX7_borne 379 = .ok (.iload 6, 2) := by decide +kernel
theorem dX7_borne_381 : decode cX7_borne 381 = .ok (.ireturn, 1) := by decide +kernel
theorem ct_X7_borne {g : Gw} (hG : GF g) {z : Bool} (E : Mm) (L : LW) (hL : CL E 4 L) (hw : WL L) (s t h m : Int) : CT g yX7_borne cX7_borne 9 (some .int) 0 0 0 0 K2 z [mR 4, mI s, mI t, mI h, mI m] (ov E) K2 z (fun r D' => r = some (mI (borP L s t h m)) ∧ ∃ E1, D' = ov E1 ∧ ∀ q, q ≠ 7 → E1 q = E q) := by
  refine CT.mk hG (by decide +kernel) (Nat.le_of_ble_eq_true rfl) (fun κ X Rt _ ok => ?_)
  refine at_iload_n 1 X rfl rfl dX7_borne_0 rfl ?_
  refine at_if_ne 4 6 X dX7_borne_1 rfl (by decide) (fun h1 => ?_) (fun h1 => ?_)
  · refine at_iconst 7 X (by decide) dX7_borne_6 rfl ?_
    refine at_istore 9 X dX7_borne_7 rfl (by decide) ?_
    refine at_iconst 10 X (by decide) dX7_borne_9 rfl ?_
    refine at_istore 12 X dX7_borne_10 rfl (by decide) ?_
    have J12 : ∀ (f12 : Nat) (E1 : Mm) (i : Nat) (n : Nat), 150 - i < f12 → i ≤ L.1 → n = hgt L i → (∀ q, q ≠ 7 → E1 q = E q) → (∀ j, j < hgt L i → E1 7 j = stk L s t h m i j) → AT g κ K2 z 0 0 12 [(0, mR 4), (1, mI s), (2, mI t), (3, mI h), (4, mI m), (5, mI ((n : Nat) : Int)), (6, mI ((i : Nat) : Int))] [] (ov E1) := by
      intro f12
      induction f12 with
      | zero => intro E1 i n hf12; omega
      | succ f12 ih12 =>
      intro E1 i n hf12 hi hn hf hst
      refine at_iload 14 X rfl dX7_borne_12 rfl ?_
      have hL1 : CL E1 4 L := hL.fr (fun q _ _ => hf q (by omega))
      have := hw.2.1
      have := hgt_le L i
      have hlast := hw.2.2.2
      subst hn
      refine at_aload_n 15 X rfl rfl dX7_borne_14 rfl ?_
      refine m_getIV 18 X ((L.1 : Nat) : Int) hL1.n f_X7_24 k_4 rn_4_3 dX7_borne_15 rfl ?_
      refine at_icmp_ge 21 348 X dX7_borne_18 rfl (by decide) (fun h18 => ?_) (fun h18 => ?_)
      · have hiL : hgt L i = hgt L L.1 := by rw [show L.1 = i by omega]
        refine at_aload_n 349 X rfl rfl dX7_borne_348 rfl ?_
        refine m_getR 352 X f_X7_18 k_4 r_4_2 dX7_borne_349 rfl ?_
        refine at_iconst 353 X (by decide) dX7_borne_352 rfl ?_
        refine m_ialoadV 354 X 0 (by omega) (stk L s t h m i 0) (hst 0 (by omega)) k_7 e_7 (by omega) dX7_borne_353 rfl ?_
        refine at_istore 356 X dX7_borne_354 rfl (by decide) ?_
        refine at_iload 358 X rfl dX7_borne_356 rfl ?_
        refine at_if_ge 361 365 X dX7_borne_358 rfl (by decide) (fun h358 => ?_) (fun h358 => ?_)
        · refine at_iload 367 X rfl dX7_borne_365 rfl ?_
          refine at_sipush 370 X (by decide) (by decide) dX7_borne_367 rfl ?_
          refine at_icmp_le 373 379 X dX7_borne_370 rfl (by decide) (fun h370 => ?_) (fun h370 => ?_)
          · refine at_iload 381 X rfl dX7_borne_379 rfl ?_
            refine at_iret X Rt ?_ (Nat.le_refl _) (Nat.le_refl _) dX7_borne_381
            exact ⟨by
              rw [borP, if_neg (by omega), clampB, show L.1 = i by omega]
              repeat (first | rfl | rw [if_pos (by omega)] | rw [if_neg (by omega)]), E1, rfl, hf⟩
          · refine at_sipush 376 X (by decide) (by decide) dX7_borne_373 rfl ?_
            refine at_goto 381 X dX7_borne_376 (by decide) ?_
            refine at_iret X Rt ?_ (Nat.le_refl _) (Nat.le_refl _) dX7_borne_381
            exact ⟨by
              rw [borP, if_neg (by omega), clampB, show L.1 = i by omega]
              repeat (first | rfl | rw [if_pos (by omega)] | rw [if_neg (by omega)]), E1, rfl, hf⟩
        · refine at_iconst 362 X (by decide) dX7_borne_361 rfl ?_
          refine at_goto 381 X dX7_borne_362 (by decide) ?_
          refine at_iret X Rt ?_ (Nat.le_refl _) (Nat.le_refl _) dX7_borne_381
          exact ⟨by
            rw [borP, if_neg (by omega), clampB, show L.1 = i by omega]
            repeat (first | rfl | rw [if_pos (by omega)] | rw [if_neg (by omega)]), E1, rfl, hf⟩
      · refine at_aload_n 22 X rfl rfl dX7_borne_21 rfl ?_
        refine m_getR 25 X f_X7_9 k_4 r_4_0 dX7_borne_22 rfl ?_
        refine at_iload 27 X rfl dX7_borne_25 rfl ?_
        refine m_ialoadV 28 X i (by omega) (L.2.1 i) (hL1.s (i := i) (by omega)) k_5 e_5 (by omega) dX7_borne_27 rfl ?_
        have := hw.2.2.1 i (by omega)
        refine at_iconst 29 X (by decide) dX7_borne_28 rfl ?_
        refine at_icmp_lt 32 233 X dX7_borne_29 rfl (by decide) (fun h29 => ?_) (fun h29 => ?_)
        · refine at_iload 235 X rfl dX7_borne_233 rfl ?_
          refine at_sipush 238 X (by decide) (by decide) dX7_borne_235 rfl ?_
          refine at_icmp_ge 241 342 X dX7_borne_238 rfl (by decide) (fun h238 => ?_) (fun h238 => ?_)
          · exfalso; omega
          · refine at_aload_n 242 X rfl rfl dX7_borne_241 rfl ?_
            refine m_getR 245 X f_X7_9 k_4 r_4_0 dX7_borne_242 rfl ?_
            refine at_iload 247 X rfl dX7_borne_245 rfl ?_
            refine m_ialoadV 248 X i (by omega) (L.2.1 i) (hL1.s (i := i) (by omega)) k_5 e_5 (by omega) dX7_borne_247 rfl ?_
            have := hw.2.2.1 i (by omega)
            rcases (show (L.2.1 i) = 1 ∨ (L.2.1 i) = 2 ∨ (L.2.1 i) = 3 ∨ (L.2.1 i) = 4 ∨ ((L.2.1 i) < 1 ∨ 4 < (L.2.1 i)) by omega) with h248 | h248 | h248 | h248 | h248
            · refine at_tswIn 280 X dX7_borne_248 (by omega) (by rw [h248]; rfl) (by decide) ?_
              refine at_aload_n 281 X rfl rfl dX7_borne_280 rfl ?_
              refine m_getR 284 X f_X7_18 k_4 r_4_2 dX7_borne_281 rfl ?_
              refine at_iload 286 X rfl dX7_borne_284 rfl ?_
              refine at_iload_n 287 X rfl rfl dX7_borne_286 rfl ?_
              refine m_iastoreV 288 X (hgt L i) (by omega) k_7 e_7 (by omega) dX7_borne_287 rfl ?_
              refine at_goto 339 X dX7_borne_288 (by decide) ?_
              refine at_iincV 342 X ((hgt L i + 1 : Nat) : Int) (w32_v (by omega) (by omega) (by omega)) rfl dX7_borne_339 rfl (by decide) ?_
              refine at_iincV 345 X ((i + 1 : Nat) : Int) (w32_v (by omega) (by omega) (by omega)) rfl dX7_borne_342 rfl (by decide) ?_
              refine at_goto 12 X dX7_borne_345 (by decide) ?_
              exact at_sub _ (by exact ⟨rfl, rfl, rfl, rfl, rfl, rfl, rfl, trivial⟩) (ih12 (wr E1 7 (hgt L i) s) (i + 1) (hgt L i + 1) (by first | omega | (simp only [] at *; omega)) (by omega) (by first | rw [hgt_op (by omega)] | rw [hgt_val (by omega)]) (fun q hq => funext fun j => by rw [wr_o (Or.inl hq)]; exact congrFun (hf q hq) j) (by first | exact step_op (by omega) (by omega) hst (by unfold lop; repeat (first | rfl | rw [if_pos (by omega)] | rw [if_neg (by omega)])) | exact step_val (by omega) hst (by unfold lvl; repeat (first | rfl | rw [if_pos (by omega)] | rw [if_neg (by omega)]))))
            · refine at_tswIn 291 X dX7_borne_248 (by omega) (by rw [h248]; rfl) (by decide) ?_
              refine at_aload_n 292 X rfl rfl dX7_borne_291 rfl ?_
              refine m_getR 295 X f_X7_18 k_4 r_4_2 dX7_borne_292 rfl ?_
              refine at_iload 297 X rfl dX7_borne_295 rfl ?_
              refine at_iload_n 298 X rfl rfl dX7_borne_297 rfl ?_
              refine m_iastoreV 299 X (hgt L i) (by omega) k_7 e_7 (by omega) dX7_borne_298 rfl ?_
              refine at_goto 339 X dX7_borne_299 (by decide) ?_
              refine at_iincV 342 X ((hgt L i + 1 : Nat) : Int) (w32_v (by omega) (by omega) (by omega)) rfl dX7_borne_339 rfl (by decide) ?_
              refine at_iincV 345 X ((i + 1 : Nat) : Int) (w32_v (by omega) (by omega) (by omega)) rfl dX7_borne_342 rfl (by decide) ?_
              refine at_goto 12 X dX7_borne_345 (by decide) ?_
              exact at_sub _ (by exact ⟨rfl, rfl, rfl, rfl, rfl, rfl, rfl, trivial⟩) (ih12 (wr E1 7 (hgt L i) t) (i + 1) (hgt L i + 1) (by first | omega | (simp only [] at *; omega)) (by omega) (by first | rw [hgt_op (by omega)] | rw [hgt_val (by omega)]) (fun q hq => funext fun j => by rw [wr_o (Or.inl hq)]; exact congrFun (hf q hq) j) (by first | exact step_op (by omega) (by omega) hst (by unfold lop; repeat (first | rfl | rw [if_pos (by omega)] | rw [if_neg (by omega)])) | exact step_val (by omega) hst (by unfold lvl; repeat (first | rfl | rw [if_pos (by omega)] | rw [if_neg (by omega)]))))
            · refine at_tswIn 302 X dX7_borne_248 (by omega) (by rw [h248]; rfl) (by decide) ?_
              refine at_aload_n 303 X rfl rfl dX7_borne_302 rfl ?_
              refine m_getR 306 X f_X7_18 k_4 r_4_2 dX7_borne_303 rfl ?_
              refine at_iload 308 X rfl dX7_borne_306 rfl ?_
              refine at_iload_n 309 X rfl rfl dX7_borne_308 rfl ?_
              refine m_iastoreV 310 X (hgt L i) (by omega) k_7 e_7 (by omega) dX7_borne_309 rfl ?_
              refine at_goto 339 X dX7_borne_310 (by decide) ?_
              refine at_iincV 342 X ((hgt L i + 1 : Nat) : Int) (w32_v (by omega) (by omega) (by omega)) rfl dX7_borne_339 rfl (by decide) ?_
              refine at_iincV 345 X ((i + 1 : Nat) : Int) (w32_v (by omega) (by omega) (by omega)) rfl dX7_borne_342 rfl (by decide) ?_
              refine at_goto 12 X dX7_borne_345 (by decide) ?_
              exact at_sub _ (by exact ⟨rfl, rfl, rfl, rfl, rfl, rfl, rfl, trivial⟩) (ih12 (wr E1 7 (hgt L i) h) (i + 1) (hgt L i + 1) (by first | omega | (simp only [] at *; omega)) (by omega) (by first | rw [hgt_op (by omega)] | rw [hgt_val (by omega)]) (fun q hq => funext fun j => by rw [wr_o (Or.inl hq)]; exact congrFun (hf q hq) j) (by first | exact step_op (by omega) (by omega) hst (by unfold lop; repeat (first | rfl | rw [if_pos (by omega)] | rw [if_neg (by omega)])) | exact step_val (by omega) hst (by unfold lvl; repeat (first | rfl | rw [if_pos (by omega)] | rw [if_neg (by omega)]))))
            · refine at_tswIn 313 X dX7_borne_248 (by omega) (by rw [h248]; rfl) (by decide) ?_
              refine at_aload_n 314 X rfl rfl dX7_borne_313 rfl ?_
              refine m_getR 317 X f_X7_18 k_4 r_4_2 dX7_borne_314 rfl ?_
              refine at_iload 319 X rfl dX7_borne_317 rfl ?_
              refine at_iload 321 X rfl dX7_borne_319 rfl ?_
              refine m_iastoreV 322 X (hgt L i) (by omega) k_7 e_7 (by omega) dX7_borne_321 rfl ?_
              refine at_goto 339 X dX7_borne_322 (by decide) ?_
              refine at_iincV 342 X ((hgt L i + 1 : Nat) : Int) (w32_v (by omega) (by omega) (by omega)) rfl dX7_borne_339 rfl (by decide) ?_
              refine at_iincV 345 X ((i + 1 : Nat) : Int) (w32_v (by omega) (by omega) (by omega)) rfl dX7_borne_342 rfl (by decide) ?_
              refine at_goto 12 X dX7_borne_345 (by decide) ?_
              exact at_sub _ (by exact ⟨rfl, rfl, rfl, rfl, rfl, rfl, rfl, trivial⟩) (ih12 (wr E1 7 (hgt L i) m) (i + 1) (hgt L i + 1) (by first | omega | (simp only [] at *; omega)) (by omega) (by first | rw [hgt_op (by omega)] | rw [hgt_val (by omega)]) (fun q hq => funext fun j => by rw [wr_o (Or.inl hq)]; exact congrFun (hf q hq) j) (by first | exact step_op (by omega) (by omega) hst (by unfold lop; repeat (first | rfl | rw [if_pos (by omega)] | rw [if_neg (by omega)])) | exact step_val (by omega) hst (by unfold lvl; repeat (first | rfl | rw [if_pos (by omega)] | rw [if_neg (by omega)]))))
            · refine at_tswOut 325 X dX7_borne_248 h248 (by decide) ?_
              refine at_aload_n 326 X rfl rfl dX7_borne_325 rfl ?_
              refine m_getR 329 X f_X7_18 k_4 r_4_2 dX7_borne_326 rfl ?_
              refine at_iload 331 X rfl dX7_borne_329 rfl ?_
              refine at_aload_n 332 X rfl rfl dX7_borne_331 rfl ?_
              refine m_getR 335 X f_X7_15 k_4 r_4_1 dX7_borne_332 rfl ?_
              refine at_iload 337 X rfl dX7_borne_335 rfl ?_
              refine m_ialoadV 338 X i (by omega) (L.2.2 i) (hL1.v (i := i) (by omega)) k_6 e_6 (by omega) dX7_borne_337 rfl ?_
              refine m_iastoreV 339 X (hgt L i) (by omega) k_7 e_7 (by omega) dX7_borne_338 rfl ?_
              refine at_iincV 342 X ((hgt L i + 1 : Nat) : Int) (w32_v (by omega) (by omega) (by omega)) rfl dX7_borne_339 rfl (by decide) ?_
              refine at_iincV 345 X ((i + 1 : Nat) : Int) (w32_v (by omega) (by omega) (by omega)) rfl dX7_borne_342 rfl (by decide) ?_
              refine at_goto 12 X dX7_borne_345 (by decide) ?_
              exact at_sub _ (by exact ⟨rfl, rfl, rfl, rfl, rfl, rfl, rfl, trivial⟩) (ih12 (wr E1 7 (hgt L i) (L.2.2 i)) (i + 1) (hgt L i + 1) (by first | omega | (simp only [] at *; omega)) (by omega) (by first | rw [hgt_op (by omega)] | rw [hgt_val (by omega)]) (fun q hq => funext fun j => by rw [wr_o (Or.inl hq)]; exact congrFun (hf q hq) j) (by first | exact step_op (by omega) (by omega) hst (by unfold lop; repeat (first | rfl | rw [if_pos (by omega)] | rw [if_neg (by omega)])) | exact step_val (by omega) hst (by unfold lvl; repeat (first | rfl | rw [if_pos (by omega)] | rw [if_neg (by omega)]))))
        · refine at_iload 34 X rfl dX7_borne_32 rfl ?_
          refine at_iconst 35 X (by decide) dX7_borne_34 rfl ?_
          refine at_icmp_lt 38 233 X dX7_borne_35 rfl (by decide) (fun h35 => ?_) (fun h35 => ?_)
          · exfalso; have := (hw.2.2.1 i (by omega)).2; omega
          · refine at_iincV 41 X ((hgt L i - 1 : Nat) : Int) (w32_v (by omega) (by omega) (by omega)) rfl dX7_borne_38 rfl (by decide) ?_
            refine at_aload_n 42 X rfl rfl dX7_borne_41 rfl ?_
            refine m_getR 45 X f_X7_18 k_4 r_4_2 dX7_borne_42 rfl ?_
            refine at_iload 47 X rfl dX7_borne_45 rfl ?_
            refine at_iconst 48 X (by decide) dX7_borne_47 rfl ?_
            refine at_isubV 49 X ((hgt L i - 1 - 1 : Nat) : Int) (w32_v (by omega) (by omega) (by omega)) dX7_borne_48 rfl ?_
            refine m_ialoadV 50 X (hgt L i - 1 - 1) (by omega) (stk L s t h m i (hgt L i - 1 - 1)) (hst (hgt L i - 1 - 1) (by omega)) k_7 e_7 (by omega) dX7_borne_49 rfl ?_
            refine at_istore 52 X dX7_borne_50 rfl (by decide) ?_
            refine at_aload_n 53 X rfl rfl dX7_borne_52 rfl ?_
            refine m_getR 56 X f_X7_18 k_4 r_4_2 dX7_borne_53 rfl ?_
            refine at_iload 58 X rfl dX7_borne_56 rfl ?_
            refine m_ialoadV 59 X (hgt L i - 1) (by omega) (stk L s t h m i (hgt L i - 1)) (hst (hgt L i - 1) (by omega)) k_7 e_7 (by omega) dX7_borne_58 rfl ?_
            refine at_istore 61 X dX7_borne_59 rfl (by decide) ?_
            refine at_aload_n 62 X rfl rfl dX7_borne_61 rfl ?_
            refine m_getR 65 X f_X7_9 k_4 r_4_0 dX7_borne_62 rfl ?_
            refine at_iload 67 X rfl dX7_borne_65 rfl ?_
            refine m_ialoadV 68 X i (by omega) (L.2.1 i) (hL1.s (i := i) (by omega)) k_5 e_5 (by omega) dX7_borne_67 rfl ?_
            have := hw.2.2.1 i (by omega)
            rcases (show (L.2.1 i) = 5 ∨ (L.2.1 i) = 6 ∨ (L.2.1 i) = 7 ∨ (L.2.1 i) = 8 ∨ (L.2.1 i) = 9 ∨ ((L.2.1 i) < 5 ∨ 9 < (L.2.1 i)) by omega) with h68 | h68 | h68 | h68 | h68 | h68
            · refine at_tswIn 104 X dX7_borne_68 (by omega) (by rw [h68]; rfl) (by decide) ?_
              refine at_aload_n 105 X rfl rfl dX7_borne_104 rfl ?_
              refine m_getR 108 X f_X7_18 k_4 r_4_2 dX7_borne_105 rfl ?_
              refine at_iload 110 X rfl dX7_borne_108 rfl ?_
              refine at_iconst 111 X (by decide) dX7_borne_110 rfl ?_
              refine at_isubV 112 X ((hgt L i - 1 - 1 : Nat) : Int) (w32_v (by omega) (by omega) (by omega)) dX7_borne_111 rfl ?_
              refine at_iload 114 X rfl dX7_borne_112 rfl ?_
              refine at_iload 116 X rfl dX7_borne_114 rfl ?_
              refine at_iaddV 117 X (w32 (stk L s t h m i (hgt L i - 1 - 1) + stk L s t h m i (hgt L i - 1))) rfl dX7_borne_116 rfl ?_
              refine m_iastoreV 118 X (hgt L i - 1 - 1) (by omega) k_7 e_7 (by omega) dX7_borne_117 rfl ?_
              refine at_goto 230 X dX7_borne_118 (by decide) ?_
              refine at_goto 342 X dX7_borne_230 (by decide) ?_
              refine at_iincV 345 X ((i + 1 : Nat) : Int) (w32_v (by omega) (by omega) (by omega)) rfl dX7_borne_342 rfl (by decide) ?_
              refine at_goto 12 X dX7_borne_345 (by decide) ?_
              exact at_sub _ (by exact ⟨rfl, rfl, rfl, rfl, rfl, rfl, rfl, trivial⟩) (ih12 (wr E1 7 (hgt L i - 1 - 1) (w32 (stk L s t h m i (hgt L i - 1 - 1) + stk L s t h m i (hgt L i - 1)))) (i + 1) (hgt L i - 1) (by first | omega | (simp only [] at *; omega)) (by omega) (by first | rw [hgt_op (by omega)] | rw [hgt_val (by omega)]) (fun q hq => funext fun j => by rw [wr_o (Or.inl hq)]; exact congrFun (hf q hq) j) (by first | exact step_op (by omega) (by omega) hst (by unfold lop; repeat (first | rfl | rw [if_pos (by omega)] | rw [if_neg (by omega)])) | exact step_val (by omega) hst (by unfold lvl; repeat (first | rfl | rw [if_pos (by omega)] | rw [if_neg (by omega)]))))
            · refine at_tswIn 121 X dX7_borne_68 (by omega) (by rw [h68]; rfl) (by decide) ?_
              refine at_aload_n 122 X rfl rfl dX7_borne_121 rfl ?_
              refine m_getR 125 X f_X7_18 k_4 r_4_2 dX7_borne_122 rfl ?_
              refine at_iload 127 X rfl dX7_borne_125 rfl ?_
              refine at_iconst 128 X (by decide) dX7_borne_127 rfl ?_
              refine at_isubV 129 X ((hgt L i - 1 - 1 : Nat) : Int) (w32_v (by omega) (by omega) (by omega)) dX7_borne_128 rfl ?_
              refine at_iload 131 X rfl dX7_borne_129 rfl ?_
              refine at_iload 133 X rfl dX7_borne_131 rfl ?_
              refine at_isubV 134 X (w32 (stk L s t h m i (hgt L i - 1 - 1) - stk L s t h m i (hgt L i - 1))) rfl dX7_borne_133 rfl ?_
              refine m_iastoreV 135 X (hgt L i - 1 - 1) (by omega) k_7 e_7 (by omega) dX7_borne_134 rfl ?_
              refine at_goto 230 X dX7_borne_135 (by decide) ?_
              refine at_goto 342 X dX7_borne_230 (by decide) ?_
              refine at_iincV 345 X ((i + 1 : Nat) : Int) (w32_v (by omega) (by omega) (by omega)) rfl dX7_borne_342 rfl (by decide) ?_
              refine at_goto 12 X dX7_borne_345 (by decide) ?_
              exact at_sub _ (by exact ⟨rfl, rfl, rfl, rfl, rfl, rfl, rfl, trivial⟩) (ih12 (wr E1 7 (hgt L i - 1 - 1) (w32 (stk L s t h m i (hgt L i - 1 - 1) - stk L s t h m i (hgt L i - 1)))) (i + 1) (hgt L i - 1) (by first | omega | (simp only [] at *; omega)) (by omega) (by first | rw [hgt_op (by omega)] | rw [hgt_val (by omega)]) (fun q hq => funext fun j => by rw [wr_o (Or.inl hq)]; exact congrFun (hf q hq) j) (by first | exact step_op (by omega) (by omega) hst (by unfold lop; repeat (first | rfl | rw [if_pos (by omega)] | rw [if_neg (by omega)])) | exact step_val (by omega) hst (by unfold lvl; repeat (first | rfl | rw [if_pos (by omega)] | rw [if_neg (by omega)]))))
            · refine at_tswIn 138 X dX7_borne_68 (by omega) (by rw [h68]; rfl) (by decide) ?_
              refine at_aload_n 139 X rfl rfl dX7_borne_138 rfl ?_
              refine m_getR 142 X f_X7_18 k_4 r_4_2 dX7_borne_139 rfl ?_
              refine at_iload 144 X rfl dX7_borne_142 rfl ?_
              refine at_iconst 145 X (by decide) dX7_borne_144 rfl ?_
              refine at_isubV 146 X ((hgt L i - 1 - 1 : Nat) : Int) (w32_v (by omega) (by omega) (by omega)) dX7_borne_145 rfl ?_
              refine at_iload 148 X rfl dX7_borne_146 rfl ?_
              refine at_iload 150 X rfl dX7_borne_148 rfl ?_
              refine at_imulV 151 X (w32 (stk L s t h m i (hgt L i - 1 - 1) * stk L s t h m i (hgt L i - 1))) rfl dX7_borne_150 rfl ?_
              refine m_iastoreV 152 X (hgt L i - 1 - 1) (by omega) k_7 e_7 (by omega) dX7_borne_151 rfl ?_
              refine at_goto 230 X dX7_borne_152 (by decide) ?_
              refine at_goto 342 X dX7_borne_230 (by decide) ?_
              refine at_iincV 345 X ((i + 1 : Nat) : Int) (w32_v (by omega) (by omega) (by omega)) rfl dX7_borne_342 rfl (by decide) ?_
              refine at_goto 12 X dX7_borne_345 (by decide) ?_
              exact at_sub _ (by exact ⟨rfl, rfl, rfl, rfl, rfl, rfl, rfl, trivial⟩) (ih12 (wr E1 7 (hgt L i - 1 - 1) (w32 (stk L s t h m i (hgt L i - 1 - 1) * stk L s t h m i (hgt L i - 1)))) (i + 1) (hgt L i - 1) (by first | omega | (simp only [] at *; omega)) (by omega) (by first | rw [hgt_op (by omega)] | rw [hgt_val (by omega)]) (fun q hq => funext fun j => by rw [wr_o (Or.inl hq)]; exact congrFun (hf q hq) j) (by first | exact step_op (by omega) (by omega) hst (by unfold lop; repeat (first | rfl | rw [if_pos (by omega)] | rw [if_neg (by omega)])) | exact step_val (by omega) hst (by unfold lvl; repeat (first | rfl | rw [if_pos (by omega)] | rw [if_neg (by omega)]))))
            · refine at_tswIn 155 X dX7_borne_68 (by omega) (by rw [h68]; rfl) (by decide) ?_
              refine at_aload_n 156 X rfl rfl dX7_borne_155 rfl ?_
              refine m_getR 159 X f_X7_18 k_4 r_4_2 dX7_borne_156 rfl ?_
              refine at_iload 161 X rfl dX7_borne_159 rfl ?_
              refine at_iconst 162 X (by decide) dX7_borne_161 rfl ?_
              refine at_isubV 163 X ((hgt L i - 1 - 1 : Nat) : Int) (w32_v (by omega) (by omega) (by omega)) dX7_borne_162 rfl ?_
              refine at_iload 165 X rfl dX7_borne_163 rfl ?_
              refine at_if_ne 168 172 X dX7_borne_165 rfl (by decide) (fun h165 => ?_) (fun h165 => ?_)
              · refine at_iload 174 X rfl dX7_borne_172 rfl ?_
                refine at_iload 176 X rfl dX7_borne_174 rfl ?_
                refine at_idivV 177 X (by omega) (w32 ((stk L s t h m i (hgt L i - 1 - 1)).tdiv (stk L s t h m i (hgt L i - 1)))) rfl dX7_borne_176 rfl ?_
                refine m_iastoreV 178 X (hgt L i - 1 - 1) (by omega) k_7 e_7 (by omega) dX7_borne_177 rfl ?_
                refine at_goto 230 X dX7_borne_178 (by decide) ?_
                refine at_goto 342 X dX7_borne_230 (by decide) ?_
                refine at_iincV 345 X ((i + 1 : Nat) : Int) (w32_v (by omega) (by omega) (by omega)) rfl dX7_borne_342 rfl (by decide) ?_
                refine at_goto 12 X dX7_borne_345 (by decide) ?_
                exact at_sub _ (by exact ⟨rfl, rfl, rfl, rfl, rfl, rfl, rfl, trivial⟩) (ih12 (wr E1 7 (hgt L i - 1 - 1) (w32 ((stk L s t h m i (hgt L i - 1 - 1)).tdiv (stk L s t h m i (hgt L i - 1))))) (i + 1) (hgt L i - 1) (by first | omega | (simp only [] at *; omega)) (by omega) (by first | rw [hgt_op (by omega)] | rw [hgt_val (by omega)]) (fun q hq => funext fun j => by rw [wr_o (Or.inl hq)]; exact congrFun (hf q hq) j) (by first | exact step_op (by omega) (by omega) hst (by unfold lop; repeat (first | rfl | rw [if_pos (by omega)] | rw [if_neg (by omega)])) | exact step_val (by omega) hst (by unfold lvl; repeat (first | rfl | rw [if_pos (by omega)] | rw [if_neg (by omega)]))))
              · refine at_iconst 169 X (by decide) dX7_borne_168 rfl ?_
                refine at_goto 177 X dX7_borne_169 (by decide) ?_
                refine m_iastoreV 178 X (hgt L i - 1 - 1) (by omega) k_7 e_7 (by omega) dX7_borne_177 rfl ?_
                refine at_goto 230 X dX7_borne_178 (by decide) ?_
                refine at_goto 342 X dX7_borne_230 (by decide) ?_
                refine at_iincV 345 X ((i + 1 : Nat) : Int) (w32_v (by omega) (by omega) (by omega)) rfl dX7_borne_342 rfl (by decide) ?_
                refine at_goto 12 X dX7_borne_345 (by decide) ?_
                exact at_sub _ (by exact ⟨rfl, rfl, rfl, rfl, rfl, rfl, rfl, trivial⟩) (ih12 (wr E1 7 (hgt L i - 1 - 1) 0) (i + 1) (hgt L i - 1) (by first | omega | (simp only [] at *; omega)) (by omega) (by first | rw [hgt_op (by omega)] | rw [hgt_val (by omega)]) (fun q hq => funext fun j => by rw [wr_o (Or.inl hq)]; exact congrFun (hf q hq) j) (by first | exact step_op (by omega) (by omega) hst (by unfold lop; repeat (first | rfl | rw [if_pos (by omega)] | rw [if_neg (by omega)])) | exact step_val (by omega) hst (by unfold lvl; repeat (first | rfl | rw [if_pos (by omega)] | rw [if_neg (by omega)]))))
            · refine at_tswIn 181 X dX7_borne_68 (by omega) (by rw [h68]; rfl) (by decide) ?_
              refine at_aload_n 182 X rfl rfl dX7_borne_181 rfl ?_
              refine m_getR 185 X f_X7_18 k_4 r_4_2 dX7_borne_182 rfl ?_
              refine at_iload 187 X rfl dX7_borne_185 rfl ?_
              refine at_iconst 188 X (by decide) dX7_borne_187 rfl ?_
              refine at_isubV 189 X ((hgt L i - 1 - 1 : Nat) : Int) (w32_v (by omega) (by omega) (by omega)) dX7_borne_188 rfl ?_
              refine at_iload 191 X rfl dX7_borne_189 rfl ?_
              refine at_iload 193 X rfl dX7_borne_191 rfl ?_
              refine at_icmp_ge 196 201 X dX7_borne_193 rfl (by decide) (fun h193 => ?_) (fun h193 => ?_)
              · refine at_iload 203 X rfl dX7_borne_201 rfl ?_
                refine m_iastoreV 204 X (hgt L i - 1 - 1) (by omega) k_7 e_7 (by omega) dX7_borne_203 rfl ?_
                refine at_goto 230 X dX7_borne_204 (by decide) ?_
                refine at_goto 342 X dX7_borne_230 (by decide) ?_
                refine at_iincV 345 X ((i + 1 : Nat) : Int) (w32_v (by omega) (by omega) (by omega)) rfl dX7_borne_342 rfl (by decide) ?_
                refine at_goto 12 X dX7_borne_345 (by decide) ?_
                exact at_sub _ (by exact ⟨rfl, rfl, rfl, rfl, rfl, rfl, rfl, trivial⟩) (ih12 (wr E1 7 (hgt L i - 1 - 1) (stk L s t h m i (hgt L i - 1))) (i + 1) (hgt L i - 1) (by first | omega | (simp only [] at *; omega)) (by omega) (by first | rw [hgt_op (by omega)] | rw [hgt_val (by omega)]) (fun q hq => funext fun j => by rw [wr_o (Or.inl hq)]; exact congrFun (hf q hq) j) (by first | exact step_op (by omega) (by omega) hst (by unfold lop; repeat (first | rfl | rw [if_pos (by omega)] | rw [if_neg (by omega)])) | exact step_val (by omega) hst (by unfold lvl; repeat (first | rfl | rw [if_pos (by omega)] | rw [if_neg (by omega)]))))
              · refine at_iload 198 X rfl dX7_borne_196 rfl ?_
                refine at_goto 203 X dX7_borne_198 (by decide) ?_
                refine m_iastoreV 204 X (hgt L i - 1 - 1) (by omega) k_7 e_7 (by omega) dX7_borne_203 rfl ?_
                refine at_goto 230 X dX7_borne_204 (by decide) ?_
                refine at_goto 342 X dX7_borne_230 (by decide) ?_
                refine at_iincV 345 X ((i + 1 : Nat) : Int) (w32_v (by omega) (by omega) (by omega)) rfl dX7_borne_342 rfl (by decide) ?_
                refine at_goto 12 X dX7_borne_345 (by decide) ?_
                exact at_sub _ (by exact ⟨rfl, rfl, rfl, rfl, rfl, rfl, rfl, trivial⟩) (ih12 (wr E1 7 (hgt L i - 1 - 1) (stk L s t h m i (hgt L i - 1 - 1))) (i + 1) (hgt L i - 1) (by first | omega | (simp only [] at *; omega)) (by omega) (by first | rw [hgt_op (by omega)] | rw [hgt_val (by omega)]) (fun q hq => funext fun j => by rw [wr_o (Or.inl hq)]; exact congrFun (hf q hq) j) (by first | exact step_op (by omega) (by omega) hst (by unfold lop; repeat (first | rfl | rw [if_pos (by omega)] | rw [if_neg (by omega)])) | exact step_val (by omega) hst (by unfold lvl; repeat (first | rfl | rw [if_pos (by omega)] | rw [if_neg (by omega)]))))
            · refine at_tswOut 207 X dX7_borne_68 h68 (by decide) ?_
              refine at_aload_n 208 X rfl rfl dX7_borne_207 rfl ?_
              refine m_getR 211 X f_X7_18 k_4 r_4_2 dX7_borne_208 rfl ?_
              refine at_iload 213 X rfl dX7_borne_211 rfl ?_
              refine at_iconst 214 X (by decide) dX7_borne_213 rfl ?_
              refine at_isubV 215 X ((hgt L i - 1 - 1 : Nat) : Int) (w32_v (by omega) (by omega) (by omega)) dX7_borne_214 rfl ?_
              refine at_iload 217 X rfl dX7_borne_215 rfl ?_
              refine at_iload 219 X rfl dX7_borne_217 rfl ?_
              refine at_icmp_le 222 227 X dX7_borne_219 rfl (by decide) (fun h219 => ?_) (fun h219 => ?_)
              · refine at_iload 229 X rfl dX7_borne_227 rfl ?_
                refine m_iastoreV 230 X (hgt L i - 1 - 1) (by omega) k_7 e_7 (by omega) dX7_borne_229 rfl ?_
                refine at_goto 342 X dX7_borne_230 (by decide) ?_
                refine at_iincV 345 X ((i + 1 : Nat) : Int) (w32_v (by omega) (by omega) (by omega)) rfl dX7_borne_342 rfl (by decide) ?_
                refine at_goto 12 X dX7_borne_345 (by decide) ?_
                exact at_sub _ (by exact ⟨rfl, rfl, rfl, rfl, rfl, rfl, rfl, trivial⟩) (ih12 (wr E1 7 (hgt L i - 1 - 1) (stk L s t h m i (hgt L i - 1))) (i + 1) (hgt L i - 1) (by first | omega | (simp only [] at *; omega)) (by omega) (by first | rw [hgt_op (by omega)] | rw [hgt_val (by omega)]) (fun q hq => funext fun j => by rw [wr_o (Or.inl hq)]; exact congrFun (hf q hq) j) (by first | exact step_op (by omega) (by omega) hst (by unfold lop; repeat (first | rfl | rw [if_pos (by omega)] | rw [if_neg (by omega)])) | exact step_val (by omega) hst (by unfold lvl; repeat (first | rfl | rw [if_pos (by omega)] | rw [if_neg (by omega)]))))
              · refine at_iload 224 X rfl dX7_borne_222 rfl ?_
                refine at_goto 229 X dX7_borne_224 (by decide) ?_
                refine m_iastoreV 230 X (hgt L i - 1 - 1) (by omega) k_7 e_7 (by omega) dX7_borne_229 rfl ?_
                refine at_goto 342 X dX7_borne_230 (by decide) ?_
                refine at_iincV 345 X ((i + 1 : Nat) : Int) (w32_v (by omega) (by omega) (by omega)) rfl dX7_borne_342 rfl (by decide) ?_
                refine at_goto 12 X dX7_borne_345 (by decide) ?_
                exact at_sub _ (by exact ⟨rfl, rfl, rfl, rfl, rfl, rfl, rfl, trivial⟩) (ih12 (wr E1 7 (hgt L i - 1 - 1) (stk L s t h m i (hgt L i - 1 - 1))) (i + 1) (hgt L i - 1) (by first | omega | (simp only [] at *; omega)) (by omega) (by first | rw [hgt_op (by omega)] | rw [hgt_val (by omega)]) (fun q hq => funext fun j => by rw [wr_o (Or.inl hq)]; exact congrFun (hf q hq) j) (by first | exact step_op (by omega) (by omega) hst (by unfold lop; repeat (first | rfl | rw [if_pos (by omega)] | rw [if_neg (by omega)])) | exact step_val (by omega) hst (by unfold lvl; repeat (first | rfl | rw [if_pos (by omega)] | rw [if_neg (by omega)]))))
    exact at_sub _ (by exact ⟨rfl, rfl, rfl, rfl, rfl, rfl, rfl, trivial⟩) (J12 _ E 0 0 (Nat.lt_succ_self _) (by first | omega | assumption | rfl) rfl (fun _ _ => rfl) (fun j hj => absurd hj (Nat.not_lt_zero j)))
  · refine at_iconst 5 X (by decide) dX7_borne_4 rfl ?_
    refine at_iret X Rt ?_ (Nat.le_refl _) (Nat.le_refl _) dX7_borne_5
    exact ⟨by unfold borP; rw [if_pos (by omega)], E, rfl, fun _ _ => rfl⟩
