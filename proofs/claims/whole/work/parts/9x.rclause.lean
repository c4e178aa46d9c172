theorem flT_tw {B : Nat → Int} {n : Nat} {t : TS} (h : t.2.2.1 = 0) (k : Int) : (flT (twT B n t) k).2.2 = (k, ((sk B n t.1 : Nat) : Int)) := by
  have e : twT B n t = (wdE B n (sk B n t.1), sk B n t.1, t.2.2) := if_pos h
  rw [e]
  unfold flT
  rw [if_pos (show t.2.2.1 = 0 from h)]
theorem mo_eq {B : Nat → Int} {n : Nat} {t : TS} : nuT B n (nuT B n t 1 60) 0 (((nuR B n t 1 60 : Nat) : Int) - 1) = moU B n t := by
  unfold moU
  by_cases h : (nuT B n t 1 60).2.2.1 = 0
  · rw [nuR_eq h]
  · rw [nu_bad h, nu_bad h]
theorem cl_eq {B : Nat → Int} {n : Nat} {t : TS} {P : SP} : nuT B n (nuT B n t 0 23) ((nuR B n t 0 23 : Nat) : Int) 23 = (clC B n t P).1 := by
  show _ = nuT B n (nuT B n t 0 23) ((nuV B n t 0 23 : Nat) : Int) 23
  by_cases h : (nuT B n t 0 23).2.2.1 = 0
  · rw [nuR_eq h]
  · rw [nu_bad h, nu_bad h]
theorem rkW_1 {k : Int} (h : 1 ≤ k ∧ k ≤ 9) : rkW k = 0 ↔ k = 1 := by
  rcases (show k = 1 ∨ k = 2 ∨ k = 3 ∨ k = 4 ∨ k = 5 ∨ k = 6 ∨ k = 7 ∨ k = 8 ∨ k = 9 by omega) with rfl | rfl | rfl | rfl | rfl | rfl | rfl | rfl | rfl <;> decide
theorem lo_eq {B : Nat → Int} {n : Nat} {t : TS} {P : SP} (h : ¬ (loT B n t P).2.2.1 = 0) : loC B n t P = (loT B n t P, P) := if_neg h
theorem lo_eq1 {B : Nat → Int} {n : Nat} {t : TS} {P : SP} (h : (loT B n t P).2.2.1 = 0) : loC B n t P = (nuT B n (nuT B n (loT B n t P) 0 (((bL (sB P) (loV B n t P) : Nat) : Int) - 1)) 0 99, setB P (setD (sB P) (loV B n t P) (nuV B n (loT B n t P) 0 (((bL (sB P) (loV B n t P) : Nat) : Int) - 1)) (nuV B n (nuT B n (loT B n t P) 0 (((bL (sB P) (loV B n t P) : Nat) : Int) - 1)) 0 99))) := if_pos h
theorem dX12_clause_0 : decode cX12_clause 0 = .ok (.aload_n 0, 1) := by decide +kernel
theorem dX12_clause_1 : decode cX12_clause 1 = .ok (.invokevirtual 221, 3) := by decide +kernel
theorem dX12_clause_4 : decode cX12_clause 4 = .ok (.istore_n 1, 1) := by decide +kernel
theorem dX12_clause_5 : decode cX12_clause 5 = .ok (.iload_n 1, 1) := by decide +kernel
theorem dX12_clause_6 : decode cX12_clause 6 = .ok (.iconst (-1), 1) := by decide +kernel
theorem dX12_clause_7 : decode cX12_clause 7 = .ok (.if_icmp .ne 15, 3) := by decide +kernel
theorem dX12_clause_10 : decode cX12_clause 10 = .ok (.aload_n 0, 1) := by decide +kernel
theorem dX12_clause_11 : decode cX12_clause 11 = .ok (.iconst 1, 1) := by decide +kernel
theorem dX12_clause_12 : decode cX12_clause 12 = .ok (.aload_n 0, 1) := by decide +kernel
theorem dX12_clause_13 : decode cX12_clause 13 = .ok (.getfield 161, 3) := by decide +kernel
theorem dX12_clause_16 : decode cX12_clause 16 = .ok (.invokevirtual 181, 3) := by decide +kernel
theorem dX12_clause_19 : decode cX12_clause 19 = .ok (.goto 52, 3) := by decide +kernel
theorem dX12_clause_22 : decode cX12_clause 22 = .ok (.aload_n 0, 1) := by decide +kernel
theorem dX12_clause_23 : decode cX12_clause 23 = .ok (.getfield 208, 3) := by decide +kernel
theorem dX12_clause_26 : decode cX12_clause 26 = .ok (.bipush 60, 2) := by decide +kernel
theorem dX12_clause_28 : decode cX12_clause 28 = .ok (.if_icmp .eq 11, 3) := by decide +kernel
theorem dX12_clause_31 : decode cX12_clause 31 = .ok (.aload_n 0, 1) := by decide +kernel
theorem dX12_clause_32 : decode cX12_clause 32 = .ok (.iload_n 1, 1) := by decide +kernel
theorem dX12_clause_33 : decode cX12_clause 33 = .ok (.invokevirtual 224, 3) := by decide +kernel
theorem dX12_clause_36 : decode cX12_clause 36 = .ok (.ifCond .eq 15, 3) := by decide +kernel
theorem dX12_clause_39 : decode cX12_clause 39 = .ok (.aload_n 0, 1) := by decide +kernel
theorem dX12_clause_40 : decode cX12_clause 40 = .ok (.iconst 3, 1) := by decide +kernel
theorem dX12_clause_41 : decode cX12_clause 41 = .ok (.aload_n 0, 1) := by decide +kernel
theorem dX12_clause_42 : decode cX12_clause 42 = .ok (.getfield 161, 3) := by decide +kernel
theorem dX12_clause_45 : decode cX12_clause 45 = .ok (.invokevirtual 181, 3) := by decide +kernel
theorem dX12_clause_48 : decode cX12_clause 48 = .ok (.goto 23, 3) := by decide +kernel
theorem dX12_clause_51 : decode cX12_clause 51 = .ok (.iload_n 1, 1) := by decide +kernel
theorem dX12_clause_52 : decode cX12_clause 52 = .ok (.ifCond .ne 19, 3) := by decide +kernel
theorem dX12_clause_55 : decode cX12_clause 55 = .ok (.aload_n 0, 1) := by decide +kernel
theorem dX12_clause_56 : decode cX12_clause 56 = .ok (.getfield 208, 3) := by decide +kernel
theorem dX12_clause_59 : decode cX12_clause 59 = .ok (.ifCond .le 12, 3) := by decide +kernel
theorem dX12_clause_62 : decode cX12_clause 62 = .ok (.aload_n 0, 1) := by decide +kernel
theorem dX12_clause_63 : decode cX12_clause 63 = .ok (.iconst 4, 1) := by decide +kernel
theorem dX12_clause_64 : decode cX12_clause 64 = .ok (.aload_n 0, 1) := by decide +kernel
theorem dX12_clause_65 : decode cX12_clause 65 = .ok (.getfield 161, 3) := by decide +kernel
theorem dX12_clause_68 : decode cX12_clause 68 = .ok (.invokevirtual 181, 3) := by decide +kernel
theorem dX12_clause_71 : decode cX12_clause 71 = .ok (.aload_n 0, 1) := by decide +kernel
theorem dX12_clause_72 : decode cX12_clause 72 = .ok (.getfield 168, 3) := by decide +kernel
theorem dX12_clause_75 : decode cX12_clause 75 = .ok (.ifCond .eq 4, 3) := by decide +kernel
theorem dX12_clause_78 : decode cX12_clause 78 = .ok (.return_, 1) := by decide +kernel
theorem dX12_clause_79 : decode cX12_clause 79 = .ok (.aload_n 0, 1) := by decide +kernel
theorem dX12_clause_80 : decode cX12_clause 80 = .ok (.invokevirtual 205, 3) := by decide +kernel
theorem dX12_clause_83 : decode cX12_clause 83 = .ok (.aload_n 0, 1) := by decide +kernel
theorem dX12_clause_84 : decode cX12_clause 84 = .ok (.dup, 1) := by decide +kernel
theorem dX12_clause_85 : decode cX12_clause 85 = .ok (.getfield 208, 3) := by decide +kernel
theorem dX12_clause_88 : decode cX12_clause 88 = .ok (.iconst 1, 1) := by decide +kernel
theorem dX12_clause_89 : decode cX12_clause 89 = .ok (.iadd, 1) := by decide +kernel
theorem dX12_clause_90 : decode cX12_clause 90 = .ok (.putfield 208, 3) := by decide +kernel
theorem dX12_clause_93 : decode cX12_clause 93 = .ok (.iload_n 1, 1) := by decide +kernel
theorem dX12_clause_94 : decode cX12_clause 94 = .ok (.tableswitch 240 0 7 #[46, 62, 80, 87, 135, 172, 204, 223], 46) := by decide +kernel
theorem dX12_clause_140 : decode cX12_clause 140 = .ok (.aload_n 0, 1) := by decide +kernel
theorem dX12_clause_141 : decode cX12_clause 141 = .ok (.getfield 20, 3) := by decide +kernel
theorem dX12_clause_144 : decode cX12_clause 144 = .ok (.iconst 0, 1) := by decide +kernel
theorem dX12_clause_145 : decode cX12_clause 145 = .ok (.aload_n 0, 1) := by decide +kernel
theorem dX12_clause_146 : decode cX12_clause 146 = .ok (.iconst 4, 1) := by decide +kernel
theorem dX12_clause_147 : decode cX12_clause 147 = .ok (.bipush 40, 2) := by decide +kernel
theorem dX12_clause_149 : decode cX12_clause 149 = .ok (.invokevirtual 217, 3) := by decide +kernel
theorem dX12_clause_152 : decode cX12_clause 152 = .ok (.iastore, 1) := by decide +kernel
theorem dX12_clause_153 : decode cX12_clause 153 = .ok (.goto 251, 3) := by decide +kernel
theorem dX12_clause_156 : decode cX12_clause 156 = .ok (.aload_n 0, 1) := by decide +kernel
theorem dX12_clause_157 : decode cX12_clause 157 = .ok (.aload_n 0, 1) := by decide +kernel
theorem dX12_clause_158 : decode cX12_clause 158 = .ok (.getfield 28, 3) := by decide +kernel
theorem dX12_clause_161 : decode cX12_clause 161 = .ok (.aload_n 0, 1) := by decide +kernel
theorem dX12_clause_162 : decode cX12_clause 162 = .ok (.getfield 20, 3) := by decide +kernel
theorem dX12_clause_165 : decode cX12_clause 165 = .ok (.iconst 1, 1) := by decide +kernel
theorem dX12_clause_166 : decode cX12_clause 166 = .ok (.iaload, 1) := by decide +kernel
theorem dX12_clause_167 : decode cX12_clause 167 = .ok (.aaload, 1) := by decide +kernel
theorem dX12_clause_168 : decode cX12_clause 168 = .ok (.invokevirtual 227, 3) := by decide +kernel
theorem dX12_clause_171 : decode cX12_clause 171 = .ok (.goto 233, 3) := by decide +kernel
theorem dX12_clause_174 : decode cX12_clause 174 = .ok (.aload_n 0, 1) := by decide +kernel
theorem dX12_clause_175 : decode cX12_clause 175 = .ok (.invokevirtual 231, 3) := by decide +kernel
theorem dX12_clause_178 : decode cX12_clause 178 = .ok (.goto 226, 3) := by decide +kernel
theorem dX12_clause_181 : decode cX12_clause 181 = .ok (.aload_n 0, 1) := by decide +kernel
theorem dX12_clause_182 : decode cX12_clause 182 = .ok (.getfield 40, 3) := by decide +kernel
theorem dX12_clause_185 : decode cX12_clause 185 = .ok (.aload_n 0, 1) := by decide +kernel
theorem dX12_clause_186 : decode cX12_clause 186 = .ok (.getfield 20, 3) := by decide +kernel
theorem dX12_clause_189 : decode cX12_clause 189 = .ok (.iconst 3, 1) := by decide +kernel
theorem dX12_clause_190 : decode cX12_clause 190 = .ok (.iaload, 1) := by decide +kernel
theorem dX12_clause_191 : decode cX12_clause 191 = .ok (.aaload, 1) := by decide +kernel
theorem dX12_clause_192 : decode cX12_clause 192 = .ok (.astore_n 2, 1) := by decide +kernel
theorem dX12_clause_193 : decode cX12_clause 193 = .ok (.aload_n 2, 1) := by decide +kernel
theorem dX12_clause_194 : decode cX12_clause 194 = .ok (.iconst 0, 1) := by decide +kernel
theorem dX12_clause_195 : decode cX12_clause 195 = .ok (.aload_n 0, 1) := by decide +kernel
theorem dX12_clause_196 : decode cX12_clause 196 = .ok (.iconst 1, 1) := by decide +kernel
theorem dX12_clause_197 : decode cX12_clause 197 = .ok (.bipush 60, 2) := by decide +kernel
theorem dX12_clause_199 : decode cX12_clause 199 = .ok (.invokevirtual 217, 3) := by decide +kernel
theorem dX12_clause_202 : decode cX12_clause 202 = .ok (.iastore, 1) := by decide +kernel
theorem dX12_clause_203 : decode cX12_clause 203 = .ok (.aload_n 2, 1) := by decide +kernel
theorem dX12_clause_204 : decode cX12_clause 204 = .ok (.iconst 1, 1) := by decide +kernel
theorem dX12_clause_205 : decode cX12_clause 205 = .ok (.aload_n 0, 1) := by decide +kernel
theorem dX12_clause_206 : decode cX12_clause 206 = .ok (.iconst 0, 1) := by decide +kernel
theorem dX12_clause_207 : decode cX12_clause 207 = .ok (.aload_n 2, 1) := by decide +kernel
theorem dX12_clause_208 : decode cX12_clause 208 = .ok (.iconst 0, 1) := by decide +kernel
theorem dX12_clause_209 : decode cX12_clause 209 = .ok (.iaload, 1) := by decide +kernel
theorem dX12_clause_210 : decode cX12_clause 210 = .ok (.iconst 1, 1) := by decide +kernel
theorem dX12_clause_211 : decode cX12_clause 211 = .ok (.isub, 1) := by decide +kernel
theorem dX12_clause_212 : decode cX12_clause 212 = .ok (.invokevirtual 217, 3) := by decide +kernel
theorem dX12_clause_215 : decode cX12_clause 215 = .ok (.iastore, 1) := by decide +kernel
theorem dX12_clause_216 : decode cX12_clause 216 = .ok (.aload_n 2, 1) := by decide +kernel
theorem dX12_clause_217 : decode cX12_clause 217 = .ok (.iconst 2, 1) := by decide +kernel
theorem dX12_clause_218 : decode cX12_clause 218 = .ok (.aload_n 0, 1) := by decide +kernel
theorem dX12_clause_219 : decode cX12_clause 219 = .ok (.iconst 1, 1) := by decide +kernel
theorem dX12_clause_220 : decode cX12_clause 220 = .ok (.bipush 99, 2) := by decide +kernel
theorem dX12_clause_222 : decode cX12_clause 222 = .ok (.invokevirtual 217, 3) := by decide +kernel
theorem dX12_clause_225 : decode cX12_clause 225 = .ok (.iastore, 1) := by decide +kernel
theorem dX12_clause_226 : decode cX12_clause 226 = .ok (.goto 178, 3) := by decide +kernel
theorem dX12_clause_229 : decode cX12_clause 229 = .ok (.aload_n 0, 1) := by decide +kernel
theorem dX12_clause_230 : decode cX12_clause 230 = .ok (.getfield 46, 3) := by decide +kernel
theorem dX12_clause_233 : decode cX12_clause 233 = .ok (.aload_n 0, 1) := by decide +kernel
theorem dX12_clause_234 : decode cX12_clause 234 = .ok (.getfield 20, 3) := by decide +kernel
theorem dX12_clause_237 : decode cX12_clause 237 = .ok (.iconst 4, 1) := by decide +kernel
theorem dX12_clause_238 : decode cX12_clause 238 = .ok (.iaload, 1) := by decide +kernel
theorem dX12_clause_239 : decode cX12_clause 239 = .ok (.aaload, 1) := by decide +kernel
theorem dX12_clause_240 : decode cX12_clause 240 = .ok (.astore_n 2, 1) := by decide +kernel
theorem dX12_clause_241 : decode cX12_clause 241 = .ok (.aload_n 2, 1) := by decide +kernel
theorem dX12_clause_242 : decode cX12_clause 242 = .ok (.iconst 0, 1) := by decide +kernel
theorem dX12_clause_243 : decode cX12_clause 243 = .ok (.aload_n 0, 1) := by decide +kernel
theorem dX12_clause_244 : decode cX12_clause 244 = .ok (.iconst 0, 1) := by decide +kernel
theorem dX12_clause_245 : decode cX12_clause 245 = .ok (.bipush 23, 2) := by decide +kernel
theorem dX12_clause_247 : decode cX12_clause 247 = .ok (.invokevirtual 217, 3) := by decide +kernel
theorem dX12_clause_250 : decode cX12_clause 250 = .ok (.iastore, 1) := by decide +kernel
theorem dX12_clause_251 : decode cX12_clause 251 = .ok (.aload_n 2, 1) := by decide +kernel
theorem dX12_clause_252 : decode cX12_clause 252 = .ok (.iconst 1, 1) := by decide +kernel
theorem dX12_clause_253 : decode cX12_clause 253 = .ok (.aload_n 0, 1) := by decide +kernel
theorem dX12_clause_254 : decode cX12_clause 254 = .ok (.aload_n 2, 1) := by decide +kernel
theorem dX12_clause_255 : decode cX12_clause 255 = .ok (.iconst 0, 1) := by decide +kernel
theorem dX12_clause_256 : decode cX12_clause 256 = .ok (.iaload, 1) := by decide +kernel
theorem dX12_clause_257 : decode cX12_clause 257 = .ok (.bipush 23, 2) := by decide +kernel
theorem dX12_clause_259 : decode cX12_clause 259 = .ok (.invokevirtual 217, 3) := by decide +kernel
theorem dX12_clause_262 : decode cX12_clause 262 = .ok (.iastore, 1) := by decide +kernel
theorem dX12_clause_263 : decode cX12_clause 263 = .ok (.goto 141, 3) := by decide +kernel
theorem dX12_clause_266 : decode cX12_clause 266 = .ok (.aload_n 0, 1) := by decide +kernel
theorem dX12_clause_267 : decode cX12_clause 267 = .ok (.getfield 52, 3) := by decide +kernel
theorem dX12_clause_270 : decode cX12_clause 270 = .ok (.aload_n 0, 1) := by decide +kernel
theorem dX12_clause_271 : decode cX12_clause 271 = .ok (.getfield 20, 3) := by decide +kernel
theorem dX12_clause_274 : decode cX12_clause 274 = .ok (.iconst 5, 1) := by decide +kernel
theorem dX12_clause_275 : decode cX12_clause 275 = .ok (.iaload, 1) := by decide +kernel
theorem dX12_clause_276 : decode cX12_clause 276 = .ok (.aaload, 1) := by decide +kernel
theorem dX12_clause_277 : decode cX12_clause 277 = .ok (.astore_n 2, 1) := by decide +kernel
theorem dX12_clause_278 : decode cX12_clause 278 = .ok (.aload_n 2, 1) := by decide +kernel
theorem dX12_clause_279 : decode cX12_clause 279 = .ok (.iconst 0, 1) := by decide +kernel
theorem dX12_clause_280 : decode cX12_clause 280 = .ok (.aload_n 0, 1) := by decide +kernel
theorem dX12_clause_281 : decode cX12_clause 281 = .ok (.invokevirtual 234, 3) := by decide +kernel
theorem dX12_clause_284 : decode cX12_clause 284 = .ok (.iastore, 1) := by decide +kernel
theorem dX12_clause_285 : decode cX12_clause 285 = .ok (.aload_n 2, 1) := by decide +kernel
theorem dX12_clause_286 : decode cX12_clause 286 = .ok (.iconst 1, 1) := by decide +kernel
theorem dX12_clause_287 : decode cX12_clause 287 = .ok (.aload_n 0, 1) := by decide +kernel
theorem dX12_clause_288 : decode cX12_clause 288 = .ok (.iconst 0, 1) := by decide +kernel
theorem dX12_clause_289 : decode cX12_clause 289 = .ok (.bipush 9, 2) := by decide +kernel
theorem dX12_clause_291 : decode cX12_clause 291 = .ok (.invokevirtual 217, 3) := by decide +kernel
theorem dX12_clause_294 : decode cX12_clause 294 = .ok (.iastore, 1) := by decide +kernel
theorem dX12_clause_295 : decode cX12_clause 295 = .ok (.goto 109, 3) := by decide +kernel
theorem dX12_clause_298 : decode cX12_clause 298 = .ok (.aload_n 0, 1) := by decide +kernel
theorem dX12_clause_299 : decode cX12_clause 299 = .ok (.aload_n 0, 1) := by decide +kernel
theorem dX12_clause_300 : decode cX12_clause 300 = .ok (.getfield 58, 3) := by decide +kernel
theorem dX12_clause_303 : decode cX12_clause 303 = .ok (.aload_n 0, 1) := by decide +kernel
theorem dX12_clause_304 : decode cX12_clause 304 = .ok (.getfield 20, 3) := by decide +kernel
theorem dX12_clause_307 : decode cX12_clause 307 = .ok (.bipush 6, 2) := by decide +kernel
theorem dX12_clause_309 : decode cX12_clause 309 = .ok (.iaload, 1) := by decide +kernel
theorem dX12_clause_310 : decode cX12_clause 310 = .ok (.aaload, 1) := by decide +kernel
theorem dX12_clause_311 : decode cX12_clause 311 = .ok (.invokevirtual 237, 3) := by decide +kernel
theorem dX12_clause_314 : decode cX12_clause 314 = .ok (.goto 90, 3) := by decide +kernel
theorem dX12_clause_317 : decode cX12_clause 317 = .ok (.aload_n 0, 1) := by decide +kernel
theorem dX12_clause_318 : decode cX12_clause 318 = .ok (.getfield 20, 3) := by decide +kernel
theorem dX12_clause_321 : decode cX12_clause 321 = .ok (.bipush 7, 2) := by decide +kernel
theorem dX12_clause_323 : decode cX12_clause 323 = .ok (.aload_n 0, 1) := by decide +kernel
theorem dX12_clause_324 : decode cX12_clause 324 = .ok (.iconst 1, 1) := by decide +kernel
theorem dX12_clause_325 : decode cX12_clause 325 = .ok (.bipush 24, 2) := by decide +kernel
theorem dX12_clause_327 : decode cX12_clause 327 = .ok (.invokevirtual 217, 3) := by decide +kernel
theorem dX12_clause_330 : decode cX12_clause 330 = .ok (.iastore, 1) := by decide +kernel
theorem dX12_clause_331 : decode cX12_clause 331 = .ok (.goto 73, 3) := by decide +kernel
theorem dX12_clause_334 : decode cX12_clause 334 = .ok (.aload_n 0, 1) := by decide +kernel
theorem dX12_clause_335 : decode cX12_clause 335 = .ok (.iconst 0, 1) := by decide +kernel
theorem dX12_clause_336 : decode cX12_clause 336 = .ok (.aload_n 0, 1) := by decide +kernel
theorem dX12_clause_337 : decode cX12_clause 337 = .ok (.getfield 20, 3) := by decide +kernel
theorem dX12_clause_340 : decode cX12_clause 340 = .ok (.bipush 6, 2) := by decide +kernel
theorem dX12_clause_342 : decode cX12_clause 342 = .ok (.iaload, 1) := by decide +kernel
theorem dX12_clause_343 : decode cX12_clause 343 = .ok (.iconst 1, 1) := by decide +kernel
theorem dX12_clause_344 : decode cX12_clause 344 = .ok (.isub, 1) := by decide +kernel
theorem dX12_clause_345 : decode cX12_clause 345 = .ok (.invokevirtual 217, 3) := by decide +kernel
theorem dX12_clause_348 : decode cX12_clause 348 = .ok (.istore_n 2, 1) := by decide +kernel
theorem dX12_clause_349 : decode cX12_clause 349 = .ok (.aload_n 0, 1) := by decide +kernel
theorem dX12_clause_350 : decode cX12_clause 350 = .ok (.getfield 168, 3) := by decide +kernel
theorem dX12_clause_353 : decode cX12_clause 353 = .ok (.ifCond .eq 6, 3) := by decide +kernel
theorem dX12_clause_356 : decode cX12_clause 356 = .ok (.goto 48, 3) := by decide +kernel
theorem dX12_clause_359 : decode cX12_clause 359 = .ok (.aload_n 0, 1) := by decide +kernel
theorem dX12_clause_360 : decode cX12_clause 360 = .ok (.iconst 0, 1) := by decide +kernel
theorem dX12_clause_361 : decode cX12_clause 361 = .ok (.aload_n 0, 1) := by decide +kernel
theorem dX12_clause_362 : decode cX12_clause 362 = .ok (.getfield 58, 3) := by decide +kernel
theorem dX12_clause_365 : decode cX12_clause 365 = .ok (.iload_n 2, 1) := by decide +kernel
theorem dX12_clause_366 : decode cX12_clause 366 = .ok (.aaload, 1) := by decide +kernel
theorem dX12_clause_367 : decode cX12_clause 367 = .ok (.iconst 1, 1) := by decide +kernel
theorem dX12_clause_368 : decode cX12_clause 368 = .ok (.iaload, 1) := by decide +kernel
theorem dX12_clause_369 : decode cX12_clause 369 = .ok (.iconst 1, 1) := by decide +kernel
theorem dX12_clause_370 : decode cX12_clause 370 = .ok (.isub, 1) := by decide +kernel
theorem dX12_clause_371 : decode cX12_clause 371 = .ok (.invokevirtual 217, 3) := by decide +kernel
theorem dX12_clause_374 : decode cX12_clause 374 = .ok (.istore_n 3, 1) := by decide +kernel
theorem dX12_clause_375 : decode cX12_clause 375 = .ok (.aload_n 0, 1) := by decide +kernel
theorem dX12_clause_376 : decode cX12_clause 376 = .ok (.iconst 0, 1) := by decide +kernel
theorem dX12_clause_377 : decode cX12_clause 377 = .ok (.bipush 99, 2) := by decide +kernel
theorem dX12_clause_379 : decode cX12_clause 379 = .ok (.invokevirtual 217, 3) := by decide +kernel
theorem dX12_clause_382 : decode cX12_clause 382 = .ok (.istore 4, 2) := by decide +kernel
theorem dX12_clause_384 : decode cX12_clause 384 = .ok (.aload_n 0, 1) := by decide +kernel
theorem dX12_clause_385 : decode cX12_clause 385 = .ok (.getfield 168, 3) := by decide +kernel
theorem dX12_clause_388 : decode cX12_clause 388 = .ok (.ifCond .ne 16, 3) := by decide +kernel
theorem dX12_clause_391 : decode cX12_clause 391 = .ok (.aload_n 0, 1) := by decide +kernel
theorem dX12_clause_392 : decode cX12_clause 392 = .ok (.getfield 64, 3) := by decide +kernel
theorem dX12_clause_395 : decode cX12_clause 395 = .ok (.iload_n 2, 1) := by decide +kernel
theorem dX12_clause_396 : decode cX12_clause 396 = .ok (.aaload, 1) := by decide +kernel
theorem dX12_clause_397 : decode cX12_clause 397 = .ok (.iload_n 3, 1) := by decide +kernel
theorem dX12_clause_398 : decode cX12_clause 398 = .ok (.iload 4, 2) := by decide +kernel
theorem dX12_clause_400 : decode cX12_clause 400 = .ok (.iastore, 1) := by decide +kernel
theorem dX12_clause_401 : decode cX12_clause 401 = .ok (.goto 3, 3) := by decide +kernel
theorem dX12_clause_404 : decode cX12_clause 404 = .ok (.iload_n 1, 1) := by decide +kernel
theorem dX12_clause_405 : decode cX12_clause 405 = .ok (.iconst 1, 1) := by decide +kernel
theorem dX12_clause_406 : decode cX12_clause 406 = .ok (.if_icmp .eq 14, 3) := by decide +kernel
theorem dX12_clause_409 : decode cX12_clause 409 = .ok (.iload_n 1, 1) := by decide +kernel
theorem dX12_clause_410 : decode cX12_clause 410 = .ok (.iconst 2, 1) := by decide +kernel
theorem dX12_clause_411 : decode cX12_clause 411 = .ok (.if_icmp .le 30, 3) := by decide +kernel
theorem dX12_clause_414 : decode cX12_clause 414 = .ok (.iload_n 1, 1) := by decide +kernel
theorem dX12_clause_415 : decode cX12_clause 415 = .ok (.bipush 7, 2) := by decide +kernel
theorem dX12_clause_417 : decode cX12_clause 417 = .ok (.if_icmp .ge 24, 3) := by decide +kernel
theorem dX12_clause_420 : decode cX12_clause 420 = .ok (.aload_n 0, 1) := by decide +kernel
theorem dX12_clause_421 : decode cX12_clause 421 = .ok (.getfield 20, 3) := by decide +kernel
theorem dX12_clause_424 : decode cX12_clause 424 = .ok (.iload_n 1, 1) := by decide +kernel
theorem dX12_clause_425 : decode cX12_clause 425 = .ok (.dup2, 1) := by decide +kernel
theorem dX12_clause_426 : decode cX12_clause 426 = .ok (.iaload, 1) := by decide +kernel
theorem dX12_clause_427 : decode cX12_clause 427 = .ok (.aload_n 0, 1) := by decide +kernel
theorem dX12_clause_428 : decode cX12_clause 428 = .ok (.getfield 168, 3) := by decide +kernel
theorem dX12_clause_431 : decode cX12_clause 431 = .ok (.ifCond .ne 7, 3) := by decide +kernel
theorem dX12_clause_434 : decode cX12_clause 434 = .ok (.iconst 1, 1) := by decide +kernel
theorem dX12_clause_435 : decode cX12_clause 435 = .ok (.goto 4, 3) := by decide +kernel
theorem dX12_clause_438 : decode cX12_clause 438 = .ok (.iconst 0, 1) := by decide +kernel
theorem dX12_clause_439 : decode cX12_clause 439 = .ok (.iadd, 1) := by decide +kernel
theorem dX12_clause_440 : decode cX12_clause 440 = .ok (.iastore, 1) := by decide +kernel
theorem dX12_clause_441 : decode cX12_clause 441 = .ok (.aload_n 0, 1) := by decide +kernel
theorem dX12_clause_442 : decode cX12_clause 442 = .ok (.bipush 59, 2) := by decide +kernel
theorem dX12_clause_444 : decode cX12_clause 444 = .ok (.invokevirtual 240, 3) := by decide +kernel
theorem dX12_clause_447 : decode cX12_clause 447 = .ok (.return_, 1) := by decide +kernel
set_option maxHeartbeats 8000000 in
theorem X12cl_b0 {g : Gw} (hG : GF g) {z : Bool} {κ : Kp} {Post : Option MV → Mm → Prop} (X : CX g κ cX12_clause yX12_clause.cls 5) (Rt : RT g κ none 5 109 0 0 K2 z Post) (E : Mm) (B : Nat → Int) (n : Nat) (t : TS) (P : SP) (Q : RX) (hP : WS P) (hD : RTD E P Q) (ns : Nat) (k : Nat) (hB : RBd P Q) (hxn : xNs Q ≤ ns) (hn12 : ns ≤ 12) (hns : E 125 27 = ((ns : Nat) : Int)) (G8 : Mm) (htw : (twT B n t).1 ≤ n) (ht0 : (twT B n t).2.2.1 = 0) (hP_G8 : RTp G8 B n (twT B n t)) (hq_G8 : ∀ q, q ≠ 125 → G8 q = E q) (hs8 : ∀ j, ¬ (4 ≤ j ∧ j ≤ 7) → G8 125 j = E 125 j) (hc8 : G8 125 7 = ((k + 1 : Nat) : Int)) (hD8 : RTD G8 P Q) (kd : Int) (hfu : ¬ fuW P ns kd = true) (hkv : kd = 1) (J441 : ∀ (G9 : Mm), (RTp G9 B n (nbT B n kd (twT B n t) P ns).1) → ((nbT B n kd (twT B n t) P ns).1.2.2.1 = 0 → G9 125 27 = (((nbT B n kd (twT B n t) P ns).2.2 : Nat) : Int) ∧ ∃ Q2, RTD G9 (nbT B n kd (twT B n t) P ns).2.1 Q2 ∧ xNs Q2 ≤ (nbT B n kd (twT B n t) P ns).2.2) → (RFr E G9) → (G9 125 7 = ((k + 1 : Nat) : Int)) → AT g κ K2 z 0 0 441 [(0, mR 125)] [] (ov G9)) : AT g κ K2 z 0 0 140 [(0, mR 125), (1, mI 0)] [] (ov G8) := by
  have hW40 := hP.W
  obtain ⟨b1, b2, b3, b4, b5, b6⟩ := id hB
  obtain ⟨f2, f3, f5, f6, f7, f8⟩ := fuW_no hfu
  refine at_aload_n 141 X rfl rfl dX12_clause_140 rfl ?_
  refine m_getR 144 X f_X12_20 k_125 r_125_11 dX12_clause_141 rfl ?_
  refine at_iconst 145 X (by decide) dX12_clause_144 rfl ?_
  refine at_aload_n 146 X rfl rfl dX12_clause_145 rfl ?_
  refine at_iconst 147 X (by decide) dX12_clause_146 rfl ?_
  refine at_bipush 149 X (by decide) (by decide) dX12_clause_147 rfl ?_
  refine at_callV 152 X _ 12 (c12_nu hG G8 B n (twT B n t) hP_G8 4 40 (by omega) (by omega)) clX12 rfl k_125 mo_X12_number w_2010 vo_X12_number.1 vo_X12_number.2 rfl rfl (crm Rt (by decide)) (Nat.le_of_ble_eq_true rfl) dX12_clause_149 rfl ?_
  rintro _ _ ⟨rfl, F11, rfl, hP_F11, hf_F11⟩
  have hq_F11 : ∀ q, q ≠ 125 → F11 q = E q := fun q h0 => (hf_F11.1 q h0).trans (hq_G8 q h0)
  have := nuR_in (B := B) (n := n) (t := (twT B n t)) (lo := 4) (hi := 40) (by omega)
  refine m_iastoreV 153 X 0 (by omega) k_128 e_128 (by omega) dX12_clause_152 rfl ?_
  refine at_goto 404 X dX12_clause_153 (by decide) ?_
  refine at_iload_n 405 X rfl rfl dX12_clause_404 rfl ?_
  refine at_iconst 406 X (by decide) dX12_clause_405 rfl ?_
  refine at_icmp_eq 409 420 X dX12_clause_406 rfl (by decide) (fun h406 => ?_) (fun h406 => ?_)
  · exact absurd h406 (by decide)
  · refine at_iload_n 410 X rfl rfl dX12_clause_409 rfl ?_
    refine at_iconst 411 X (by decide) dX12_clause_410 rfl ?_
    refine at_icmp_le 414 441 X dX12_clause_411 rfl (by decide) (fun h411 => ?_) (fun h411 => ?_)
    · exact at_sub _ (by exact ⟨rfl, trivial⟩) (J441 (wr F11 128 0 ((nuR B n (twT B n t) 4 40 : Nat) : Int)) (by rw [hkv, nbT_1]; show RTp _ B n _; exact (hP_F11.w (fun k hk => by simp (disch := omega) only [wr_o]) (by simp (disch := omega) only [wr_row]))) (fun q0 => by
        rw [hkv, nbT_1] at q0 ⊢
        have e1 := nuR_eq (show (nuT B n (twT B n t) 4 40).2.2.1 = 0 from q0)
        exact ⟨(((wr_o (by omega)).trans ((hf_F11.2 27 (by omega)).trans rfl))).trans ((hs8 27 (by omega)).trans hns), Q, by show RTD _ (setW P (nuV B n (twT B n t) 4 40)) Q; rw [← e1]; exact (RTD_W hD8 hB).fr (fun q hq => (wr_cong ((hf_F11.1 q hq).trans rfl))), hxn⟩) (⟨fun q hq => by rw [(fun q hq => (wr_cong ((hf_F11.1 q hq).trans rfl)) : ∀ q, q ≠ 125 → (wr F11 128 0 ((nuR B n (twT B n t) 4 40 : Nat) : Int)) q = (wr G8 128 0 ((nuR B n (twT B n t) 4 40 : Nat) : Int)) q) q (by omega)]; simp (disch := omega) only [wr_row]; exact hq_G8 q (by omega), fun k hk => (((wr_o (by omega)).trans ((hf_F11.2 k (by omega)).trans rfl))).trans (hs8 k (by omega))⟩) ((((wr_o (by omega)).trans ((hf_F11.2 7 (by omega)).trans rfl))).trans hc8))
    · exact absurd h411 (by decide)
set_option maxHeartbeats 8000000 in
theorem X12cl_b1 {g : Gw} (hG : GF g) {z : Bool} {κ : Kp} {Post : Option MV → Mm → Prop} (X : CX g κ cX12_clause yX12_clause.cls 5) (Rt : RT g κ none 5 109 0 0 K2 z Post) (E : Mm) (B : Nat → Int) (n : Nat) (t : TS) (P : SP) (Q : RX) (hP : WS P) (hD : RTD E P Q) (ns : Nat) (k : Nat) (hB : RBd P Q) (hxn : xNs Q ≤ ns) (hn12 : ns ≤ 12) (hns : E 125 27 = ((ns : Nat) : Int)) (G8 : Mm) (htw : (twT B n t).1 ≤ n) (ht0 : (twT B n t).2.2.1 = 0) (hP_G8 : RTp G8 B n (twT B n t)) (hq_G8 : ∀ q, q ≠ 125 → G8 q = E q) (hs8 : ∀ j, ¬ (4 ≤ j ∧ j ≤ 7) → G8 125 j = E 125 j) (hc8 : G8 125 7 = ((k + 1 : Nat) : Int)) (hD8 : RTD G8 P Q) (kd : Int) (hfu : ¬ fuW P ns kd = true) (hkv : kd = 2) (J441 : ∀ (G9 : Mm), (RTp G9 B n (nbT B n kd (twT B n t) P ns).1) → ((nbT B n kd (twT B n t) P ns).1.2.2.1 = 0 → G9 125 27 = (((nbT B n kd (twT B n t) P ns).2.2 : Nat) : Int) ∧ ∃ Q2, RTD G9 (nbT B n kd (twT B n t) P ns).2.1 Q2 ∧ xNs Q2 ≤ (nbT B n kd (twT B n t) P ns).2.2) → (RFr E G9) → (G9 125 7 = ((k + 1 : Nat) : Int)) → AT g κ K2 z 0 0 441 [(0, mR 125)] [] (ov G9)) : AT g κ K2 z 0 0 156 [(0, mR 125), (1, mI 1)] [] (ov G8) := by
  have hW40 := hP.W
  obtain ⟨b1, b2, b3, b4, b5, b6⟩ := id hB
  obtain ⟨f2, f3, f5, f6, f7, f8⟩ := fuW_no hfu
  refine at_aload_n 157 X rfl rfl dX12_clause_156 rfl ?_
  refine at_aload_n 158 X rfl rfl dX12_clause_157 rfl ?_
  refine m_getR 161 X f_X12_28 k_125 r_125_13 dX12_clause_158 rfl ?_
  refine at_aload_n 162 X rfl rfl dX12_clause_161 rfl ?_
  refine m_getR 165 X f_X12_20 k_125 r_125_11 dX12_clause_162 rfl ?_
  refine at_iconst 166 X (by decide) dX12_clause_165 rfl ?_
  refine m_ialoadV 167 X 1 (by omega) ((sN P : Nat) : Int) ((congrFun (hq_G8 128 (by omega)) 1).trans hD.1.2.1) k_128 e_128 (by omega) dX12_clause_166 rfl ?_
  refine m_aaloadV 168 X (sN P) (by omega) k_130 (by decide) (by omega) (rr_130 _ (by omega)) dX12_clause_167 rfl ?_
  refine at_callV 171 X _ 12 (ct_X12_postHere hG G8 B n (twT B n t) htw hP_G8 ht0 P Q hP hD8 hB (f2 hkv)) clX12 rfl k_125 mo_X12_postHere w_2018 vo_X12_postHere.1 vo_X12_postHere.2 rfl rfl (crm Rt (by decide)) (Nat.le_of_ble_eq_true rfl) dX12_clause_168 rfl ?_
  rintro _ _ ⟨rfl, A1, rfl, hP_A1, hg_A1, hs_A1⟩
  refine at_goto 404 X dX12_clause_171 (by decide) ?_
  refine at_iload_n 405 X rfl rfl dX12_clause_404 rfl ?_
  refine at_iconst 406 X (by decide) dX12_clause_405 rfl ?_
  refine at_icmp_eq 409 420 X dX12_clause_406 rfl (by decide) (fun h406 => ?_) (fun h406 => ?_)
  · refine at_aload_n 421 X rfl rfl dX12_clause_420 rfl ?_
    refine m_getR 424 X f_X12_20 k_125 r_125_11 dX12_clause_421 rfl ?_
    refine at_iload_n 425 X rfl rfl dX12_clause_424 rfl ?_
    refine at_dup2 426 X (show ¬ (0 : Nat) = 1 by decide) (show ¬ (2 : Nat) = 1 by decide) dX12_clause_425 rfl ?_
    refine m_ialoadV 427 X 1 (by omega) ((sN P : Nat) : Int) ((congrFun (hg_A1 128 (by omega)) 1).trans ((wr_o (by omega)).trans ((wr_o (by omega)).trans ((congrFun (hq_G8 128 (by omega)) 1).trans hD.1.2.1)))) k_128 e_128 (by omega) dX12_clause_426 rfl ?_
    refine at_aload_n 428 X rfl rfl dX12_clause_427 rfl ?_
    refine m_getIV 431 X (((poC B n (twT B n t) P).1).2.2.1) (rfk hP_A1) f_X12_168 k_125 rn_125_5 dX12_clause_428 rfl ?_
    refine at_if_ne 434 438 X dX12_clause_431 rfl (by decide) (fun h431 => ?_) (fun h431 => ?_)
    · have hff := h431
      refine at_iconst 439 X (by decide) dX12_clause_438 rfl ?_
      refine at_iaddV 440 X ((sN P + 0 : Nat) : Int) (w32_v (by omega) (by omega) (by omega)) dX12_clause_439 rfl ?_
      refine m_iastoreV 441 X 1 (by omega) k_128 e_128 (by omega) dX12_clause_440 rfl ?_
      exact at_sub _ (by exact ⟨rfl, trivial⟩) (J441 (wr A1 128 1 ((sN P + 0 : Nat) : Int)) (by rw [hkv, nbT_2]; show RTp _ B n _; exact (hP_A1.w (fun k hk => by simp (disch := omega) only [wr_o]) (by simp (disch := omega) only [wr_row]))) (fun q0 => by
        rw [hkv, nbT_2] at q0 ⊢
        have q1 := nu_ok (show (nuT B n (poU B n (twT B n t) P) 1 99).2.2.1 = 0 from q0)
        have e2 := nuR_eq (show (nuT B n (poU B n (twT B n t) P) 1 99).2.2.1 = 0 from q0)
        have hq1 : (nuT B n (twT B n t) 0 (((sW P : Nat) : Int) - 1)).2.2.1 = 0 := by
          have h := q1.1
          unfold poU at h
          split at h
          · exact absurd h (flT_fk (by decide))
          · exact h
        have e1 := nuR_eq hq1
        exact absurd q0 hff) (⟨fun q hq => by first | (rw [wr_row (by omega)]; rw [hg_A1 q (by omega), wr_row (by omega), wr_row (by omega)]; exact hq_G8 q (by omega)), fun k hk => by rw [wr_o (by omega), hs_A1 k (by omega)]; exact hs8 k (by omega)⟩) ((wr_o (by omega)).trans ((hs_A1 7 (by omega)).trans hc8)))
    · have hff := h431
      refine at_iconst 435 X (by decide) dX12_clause_434 rfl ?_
      refine at_goto 439 X dX12_clause_435 (by decide) ?_
      refine at_iaddV 440 X ((sN P + 1 : Nat) : Int) (w32_v (by omega) (by omega) (by omega)) dX12_clause_439 rfl ?_
      refine m_iastoreV 441 X 1 (by omega) k_128 e_128 (by omega) dX12_clause_440 rfl ?_
      exact at_sub _ (by exact ⟨rfl, trivial⟩) (J441 (wr A1 128 1 ((sN P + 1 : Nat) : Int)) (by rw [hkv, nbT_2]; show RTp _ B n _; exact (hP_A1.w (fun k hk => by simp (disch := omega) only [wr_o]) (by simp (disch := omega) only [wr_row]))) (fun q0 => by
        rw [hkv, nbT_2] at q0 ⊢
        have q1 := nu_ok (show (nuT B n (poU B n (twT B n t) P) 1 99).2.2.1 = 0 from q0)
        have e2 := nuR_eq (show (nuT B n (poU B n (twT B n t) P) 1 99).2.2.1 = 0 from q0)
        have hq1 : (nuT B n (twT B n t) 0 (((sW P : Nat) : Int) - 1)).2.2.1 = 0 := by
          have h := q1.1
          unfold poU at h
          split at h
          · exact absurd h (flT_fk (by decide))
          · exact h
        have e1 := nuR_eq hq1
        exact ⟨(wr_o (by omega)).trans ((hs_A1 27 (by omega)).trans ((hs8 27 (by omega)).trans hns)), Q, by show RTD _ (addPo P (nuV B n (twT B n t) 0 (((sW P : Nat) : Int) - 1)) (nuV B n (poU B n (twT B n t) P) 1 99)) Q; rw [← e1, ← e2]; exact (RTD_Po hD8 hB (f2 hkv)).fr (fun q hq => wr_cong (hg_A1 q hq)), hxn⟩) (⟨fun q hq => by first | (rw [wr_row (by omega)]; rw [hg_A1 q (by omega), wr_row (by omega), wr_row (by omega)]; exact hq_G8 q (by omega)), fun k hk => by rw [wr_o (by omega), hs_A1 k (by omega)]; exact hs8 k (by omega)⟩) ((wr_o (by omega)).trans ((hs_A1 7 (by omega)).trans hc8)))
  · exact absurd h406 (by decide)
set_option maxHeartbeats 8000000 in
theorem X12cl_b2 {g : Gw} (hG : GF g) {z : Bool} {κ : Kp} {Post : Option MV → Mm → Prop} (X : CX g κ cX12_clause yX12_clause.cls 5) (Rt : RT g κ none 5 109 0 0 K2 z Post) (E : Mm) (B : Nat → Int) (n : Nat) (t : TS) (P : SP) (Q : RX) (hP : WS P) (hD : RTD E P Q) (ns : Nat) (k : Nat) (hB : RBd P Q) (hxn : xNs Q ≤ ns) (hn12 : ns ≤ 12) (hns : E 125 27 = ((ns : Nat) : Int)) (G8 : Mm) (htw : (twT B n t).1 ≤ n) (ht0 : (twT B n t).2.2.1 = 0) (hP_G8 : RTp G8 B n (twT B n t)) (hq_G8 : ∀ q, q ≠ 125 → G8 q = E q) (hs8 : ∀ j, ¬ (4 ≤ j ∧ j ≤ 7) → G8 125 j = E 125 j) (hc8 : G8 125 7 = ((k + 1 : Nat) : Int)) (hD8 : RTD G8 P Q) (kd : Int) (hfu : ¬ fuW P ns kd = true) (hkv : kd = 3) (J441 : ∀ (G9 : Mm), (RTp G9 B n (nbT B n kd (twT B n t) P ns).1) → ((nbT B n kd (twT B n t) P ns).1.2.2.1 = 0 → G9 125 27 = (((nbT B n kd (twT B n t) P ns).2.2 : Nat) : Int) ∧ ∃ Q2, RTD G9 (nbT B n kd (twT B n t) P ns).2.1 Q2 ∧ xNs Q2 ≤ (nbT B n kd (twT B n t) P ns).2.2) → (RFr E G9) → (G9 125 7 = ((k + 1 : Nat) : Int)) → AT g κ K2 z 0 0 441 [(0, mR 125)] [] (ov G9)) : AT g κ K2 z 0 0 174 [(0, mR 125), (1, mI 2)] [] (ov G8) := by
  have hW40 := hP.W
  obtain ⟨b1, b2, b3, b4, b5, b6⟩ := id hB
  obtain ⟨f2, f3, f5, f6, f7, f8⟩ := fuW_no hfu
  refine at_aload_n 175 X rfl rfl dX12_clause_174 rfl ?_
  refine at_callV 178 X _ 12 (ct_X12_sunHere hG G8 B n (twT B n t) htw hP_G8 ht0 P Q hP hD8 hB ns ((hs8 27 (by omega)).trans hns) (f3 hkv) hxn) clX12 rfl k_125 mo_X12_sunHere w_2026 vo_X12_sunHere.1 vo_X12_sunHere.2 rfl rfl (crm Rt (by decide)) (Nat.le_of_ble_eq_true rfl) dX12_clause_175 rfl ?_
  rintro _ _ ⟨rfl, A2, rfl, hP_A2, hD_A2, hr_A2, h7_A2⟩
  refine at_goto 404 X dX12_clause_178 (by decide) ?_
  refine at_iload_n 405 X rfl rfl dX12_clause_404 rfl ?_
  refine at_iconst 406 X (by decide) dX12_clause_405 rfl ?_
  refine at_icmp_eq 409 420 X dX12_clause_406 rfl (by decide) (fun h406 => ?_) (fun h406 => ?_)
  · exact absurd h406 (by decide)
  · refine at_iload_n 410 X rfl rfl dX12_clause_409 rfl ?_
    refine at_iconst 411 X (by decide) dX12_clause_410 rfl ?_
    refine at_icmp_le 414 441 X dX12_clause_411 rfl (by decide) (fun h411 => ?_) (fun h411 => ?_)
    · exact at_sub _ (by exact ⟨rfl, trivial⟩) (J441 A2 (by rw [hkv, nbT_3]; show RTp _ B n _; exact hP_A2) (fun q0 => by
        rw [hkv, nbT_3] at q0 ⊢
        obtain ⟨g1, Q2, g2, g3⟩ := hD_A2 q0
        exact ⟨g1, Q2, g2, g3⟩) (⟨fun q hq => (hr_A2.1 q hq).trans (hq_G8 q (by omega)), fun k hk => (hr_A2.2 k hk).trans (hs8 k (by omega))⟩) (h7_A2.trans hc8))
    · exact absurd h411 (by decide)
set_option maxHeartbeats 8000000 in
theorem X12cl_b3 {g : Gw} (hG : GF g) {z : Bool} {κ : Kp} {Post : Option MV → Mm → Prop} (X : CX g κ cX12_clause yX12_clause.cls 5) (Rt : RT g κ none 5 109 0 0 K2 z Post) (E : Mm) (B : Nat → Int) (n : Nat) (t : TS) (P : SP) (Q : RX) (hP : WS P) (hD : RTD E P Q) (ns : Nat) (k : Nat) (hB : RBd P Q) (hxn : xNs Q ≤ ns) (hn12 : ns ≤ 12) (hns : E 125 27 = ((ns : Nat) : Int)) (G8 : Mm) (htw : (twT B n t).1 ≤ n) (ht0 : (twT B n t).2.2.1 = 0) (hP_G8 : RTp G8 B n (twT B n t)) (hq_G8 : ∀ q, q ≠ 125 → G8 q = E q) (hs8 : ∀ j, ¬ (4 ≤ j ∧ j ≤ 7) → G8 125 j = E 125 j) (hc8 : G8 125 7 = ((k + 1 : Nat) : Int)) (hD8 : RTD G8 P Q) (kd : Int) (hfu : ¬ fuW P ns kd = true) (hkv : kd = 5) (J441 : ∀ (G9 : Mm), (RTp G9 B n (nbT B n kd (twT B n t) P ns).1) → ((nbT B n kd (twT B n t) P ns).1.2.2.1 = 0 → G9 125 27 = (((nbT B n kd (twT B n t) P ns).2.2 : Nat) : Int) ∧ ∃ Q2, RTD G9 (nbT B n kd (twT B n t) P ns).2.1 Q2 ∧ xNs Q2 ≤ (nbT B n kd (twT B n t) P ns).2.2) → (RFr E G9) → (G9 125 7 = ((k + 1 : Nat) : Int)) → AT g κ K2 z 0 0 441 [(0, mR 125)] [] (ov G9)) : AT g κ K2 z 0 0 181 [(0, mR 125), (1, mI 3)] [] (ov G8) := by
  have hW40 := hP.W
  obtain ⟨b1, b2, b3, b4, b5, b6⟩ := id hB
  obtain ⟨f2, f3, f5, f6, f7, f8⟩ := fuW_no hfu
  refine at_aload_n 182 X rfl rfl dX12_clause_181 rfl ?_
  refine m_getR 185 X f_X12_40 k_125 r_125_17 dX12_clause_182 rfl ?_
  refine at_aload_n 186 X rfl rfl dX12_clause_185 rfl ?_
  refine m_getR 189 X f_X12_20 k_125 r_125_11 dX12_clause_186 rfl ?_
  refine at_iconst 190 X (by decide) dX12_clause_189 rfl ?_
  refine m_ialoadV 191 X 3 (by omega) ((sM P : Nat) : Int) ((congrFun (hq_G8 128 (by omega)) 3).trans hD.1.2.2.2.1) k_128 e_128 (by omega) dX12_clause_190 rfl ?_
  refine m_aaloadV 192 X (sM P) (by omega) k_179 (by decide) (by omega) (rr_179 _ (by omega)) dX12_clause_191 rfl ?_
  refine at_astore_n 193 X rfl dX12_clause_192 rfl (by decide) ?_
  refine at_aload_n 194 X rfl rfl dX12_clause_193 rfl ?_
  refine at_iconst 195 X (by decide) dX12_clause_194 rfl ?_
  refine at_aload_n 196 X rfl rfl dX12_clause_195 rfl ?_
  refine at_iconst 197 X (by decide) dX12_clause_196 rfl ?_
  refine at_bipush 199 X (by decide) (by decide) dX12_clause_197 rfl ?_
  refine at_callV 202 X _ 12 (c12_nu hG G8 B n (twT B n t) hP_G8 1 60 (by omega) (by omega)) clX12 rfl k_125 mo_X12_number w_2010 vo_X12_number.1 vo_X12_number.2 rfl rfl (crm Rt (by decide)) (Nat.le_of_ble_eq_true rfl) dX12_clause_199 rfl ?_
  rintro _ _ ⟨rfl, F11, rfl, hP_F11, hf_F11⟩
  have hq_F11 : ∀ q, q ≠ 125 → F11 q = E q := fun q h0 => (hf_F11.1 q h0).trans (hq_G8 q h0)
  have := nuR_in (B := B) (n := n) (t := (twT B n t)) (lo := 1) (hi := 60) (by omega)
  refine m_iastoreV 203 X 0 (by omega) (kr_179 _ (by omega)) (er_179 _ (by omega)) (by omega) dX12_clause_202 rfl ?_
  refine at_aload_n 204 X rfl rfl dX12_clause_203 rfl ?_
  refine at_iconst 205 X (by decide) dX12_clause_204 rfl ?_
  refine at_aload_n 206 X rfl rfl dX12_clause_205 rfl ?_
  refine at_iconst 207 X (by decide) dX12_clause_206 rfl ?_
  refine at_aload_n 208 X rfl rfl dX12_clause_207 rfl ?_
  refine at_iconst 209 X (by decide) dX12_clause_208 rfl ?_
  refine m_ialoadV 210 X 0 (by omega) ((nuR B n (twT B n t) 1 60 : Nat) : Int) (wr_s _ _ _ _) (kr_179 _ (by omega)) (er_179 _ (by omega)) (by omega) dX12_clause_209 rfl ?_
  refine at_iconst 211 X (by decide) dX12_clause_210 rfl ?_
  refine at_isubV 212 X (((nuR B n (twT B n t) 1 60 : Nat) : Int) - 1) (w32_v rfl (by omega) (by omega)) dX12_clause_211 rfl ?_
  refine at_callV 215 X _ 12 (c12_nu hG (wr F11 (180 + (sM P)) 0 ((nuR B n (twT B n t) 1 60 : Nat) : Int)) B n (nuT B n (twT B n t) 1 60) (hP_F11.w (fun k hk => by simp (disch := omega) only [wr_o]) (by simp (disch := omega) only [wr_row])) 0 (((nuR B n (twT B n t) 1 60 : Nat) : Int) - 1) (by omega) (by omega)) clX12 rfl k_125 mo_X12_number w_2010 vo_X12_number.1 vo_X12_number.2 rfl rfl (crm Rt (by decide)) (Nat.le_of_ble_eq_true rfl) dX12_clause_212 rfl ?_
  rintro _ _ ⟨rfl, F12, rfl, hP_F12, hf_F12⟩
  have hq_F12 : ∀ q, q ≠ 125 → q ≠ (180 + (sM P)) → F12 q = E q := fun q h0 h1 => ((hf_F12.1 q h0).trans (wr_row h1)).trans (hq_F11 q h0)
  rw [mo_eq] at hP_F12
  have := nuR_in (B := B) (n := n) (t := (nuT B n (twT B n t) 1 60)) (lo := 0) (hi := (((nuR B n (twT B n t) 1 60 : Nat) : Int) - 1)) (by omega)
  refine m_iastoreV 216 X 1 (by omega) (kr_179 _ (by omega)) (er_179 _ (by omega)) (by omega) dX12_clause_215 rfl ?_
  refine at_aload_n 217 X rfl rfl dX12_clause_216 rfl ?_
  refine at_iconst 218 X (by decide) dX12_clause_217 rfl ?_
  refine at_aload_n 219 X rfl rfl dX12_clause_218 rfl ?_
  refine at_iconst 220 X (by decide) dX12_clause_219 rfl ?_
  refine at_bipush 222 X (by decide) (by decide) dX12_clause_220 rfl ?_
  refine at_callV 225 X _ 12 (c12_nu hG (wr F12 (180 + (sM P)) 1 ((nuR B n (nuT B n (twT B n t) 1 60) 0 (((nuR B n (twT B n t) 1 60 : Nat) : Int) - 1) : Nat) : Int)) B n (moU B n (twT B n t)) (hP_F12.w (fun k hk => by simp (disch := omega) only [wr_o]) (by simp (disch := omega) only [wr_row])) 1 99 (by omega) (by omega)) clX12 rfl k_125 mo_X12_number w_2010 vo_X12_number.1 vo_X12_number.2 rfl rfl (crm Rt (by decide)) (Nat.le_of_ble_eq_true rfl) dX12_clause_222 rfl ?_
  rintro _ _ ⟨rfl, F13, rfl, hP_F13, hf_F13⟩
  have hq_F13 : ∀ q, q ≠ 125 → q ≠ (180 + (sM P)) → F13 q = E q := fun q h0 h1 => ((hf_F13.1 q h0).trans (wr_row h1)).trans (hq_F12 q h0 h1)
  have := nuR_in (B := B) (n := n) (t := (moU B n (twT B n t))) (lo := 1) (hi := 99) (by omega)
  refine m_iastoreV 226 X 2 (by omega) (kr_179 _ (by omega)) (er_179 _ (by omega)) (by omega) dX12_clause_225 rfl ?_
  refine at_goto 404 X dX12_clause_226 (by decide) ?_
  refine at_iload_n 405 X rfl rfl dX12_clause_404 rfl ?_
  refine at_iconst 406 X (by decide) dX12_clause_405 rfl ?_
  refine at_icmp_eq 409 420 X dX12_clause_406 rfl (by decide) (fun h406 => ?_) (fun h406 => ?_)
  · exact absurd h406 (by decide)
  · refine at_iload_n 410 X rfl rfl dX12_clause_409 rfl ?_
    refine at_iconst 411 X (by decide) dX12_clause_410 rfl ?_
    refine at_icmp_le 414 441 X dX12_clause_411 rfl (by decide) (fun h411 => ?_) (fun h411 => ?_)
    · exact absurd h411 (by decide)
    · refine at_iload_n 415 X rfl rfl dX12_clause_414 rfl ?_
      refine at_bipush 417 X (by decide) (by decide) dX12_clause_415 rfl ?_
      refine at_icmp_ge 420 441 X dX12_clause_417 rfl (by decide) (fun h417 => ?_) (fun h417 => ?_)
      · exact absurd h417 (by decide)
      · refine at_aload_n 421 X rfl rfl dX12_clause_420 rfl ?_
        refine m_getR 424 X f_X12_20 k_125 r_125_11 dX12_clause_421 rfl ?_
        refine at_iload_n 425 X rfl rfl dX12_clause_424 rfl ?_
        refine at_dup2 426 X (show ¬ (0 : Nat) = 1 by decide) (show ¬ (2 : Nat) = 1 by decide) dX12_clause_425 rfl ?_
        refine m_ialoadV 427 X 3 (by omega) ((sM P : Nat) : Int) ((wr_o (by omega)).trans ((congrFun (hq_F13 128 (by omega) (by omega)) 3).trans hD.1.2.2.2.1)) k_128 e_128 (by omega) dX12_clause_426 rfl ?_
        refine at_aload_n 428 X rfl rfl dX12_clause_427 rfl ?_
        refine m_getIV 431 X ((nuT B n (moU B n (twT B n t)) 1 99).2.2.1) ((wr_o (by omega)).trans (rfk hP_F13)) f_X12_168 k_125 rn_125_5 dX12_clause_428 rfl ?_
        refine at_if_ne 434 438 X dX12_clause_431 rfl (by decide) (fun h431 => ?_) (fun h431 => ?_)
        · have hff := h431
          refine at_iconst 439 X (by decide) dX12_clause_438 rfl ?_
          refine at_iaddV 440 X ((sM P + 0 : Nat) : Int) (w32_v (by omega) (by omega) (by omega)) dX12_clause_439 rfl ?_
          refine m_iastoreV 441 X 3 (by omega) k_128 e_128 (by omega) dX12_clause_440 rfl ?_
          exact at_sub _ (by exact ⟨rfl, trivial⟩) (J441 (wr (wr F13 (180 + (sM P)) 2 ((nuR B n (moU B n (twT B n t)) 1 99 : Nat) : Int)) 128 3 ((sM P + 0 : Nat) : Int)) (by rw [hkv, nbT_5]; show RTp _ B n _; exact (hP_F13.w (fun k hk => by simp (disch := omega) only [wr_o]) (by simp (disch := omega) only [wr_row]))) (fun q0 => by
            rw [hkv, nbT_5] at q0 ⊢
            exact absurd q0 hff) (⟨fun q hq => by rw [(fun q hq => (wr_cong (wr_cong ((hf_F13.1 q hq).trans (wr_cong ((hf_F12.1 q hq).trans (wr_cong ((hf_F11.1 q hq).trans rfl))))))) : ∀ q, q ≠ 125 → (wr (wr F13 (180 + (sM P)) 2 ((nuR B n (moU B n (twT B n t)) 1 99 : Nat) : Int)) 128 3 ((sM P + 0 : Nat) : Int)) q = (wr (wr (wr (wr G8 (180 + (sM P)) 0 ((nuR B n (twT B n t) 1 60 : Nat) : Int)) (180 + (sM P)) 1 ((nuR B n (nuT B n (twT B n t) 1 60) 0 (((nuR B n (twT B n t) 1 60 : Nat) : Int) - 1) : Nat) : Int)) (180 + (sM P)) 2 ((nuR B n (moU B n (twT B n t)) 1 99 : Nat) : Int)) 128 3 ((sM P + 0 : Nat) : Int)) q) q (by omega)]; simp (disch := omega) only [wr_row]; exact hq_G8 q (by omega), fun k hk => (((wr_o (by omega)).trans ((wr_o (by omega)).trans ((hf_F13.2 k (by omega)).trans ((wr_o (by omega)).trans ((hf_F12.2 k (by omega)).trans ((wr_o (by omega)).trans ((hf_F11.2 k (by omega)).trans rfl)))))))).trans (hs8 k (by omega))⟩) ((((wr_o (by omega)).trans ((wr_o (by omega)).trans ((hf_F13.2 7 (by omega)).trans ((wr_o (by omega)).trans ((hf_F12.2 7 (by omega)).trans ((wr_o (by omega)).trans ((hf_F11.2 7 (by omega)).trans rfl)))))))).trans hc8))
        · have hff := h431
          refine at_iconst 435 X (by decide) dX12_clause_434 rfl ?_
          refine at_goto 439 X dX12_clause_435 (by decide) ?_
          refine at_iaddV 440 X ((sM P + 1 : Nat) : Int) (w32_v (by omega) (by omega) (by omega)) dX12_clause_439 rfl ?_
          refine m_iastoreV 441 X 3 (by omega) k_128 e_128 (by omega) dX12_clause_440 rfl ?_
          exact at_sub _ (by exact ⟨rfl, trivial⟩) (J441 (wr (wr F13 (180 + (sM P)) 2 ((nuR B n (moU B n (twT B n t)) 1 99 : Nat) : Int)) 128 3 ((sM P + 1 : Nat) : Int)) (by rw [hkv, nbT_5]; show RTp _ B n _; exact (hP_F13.w (fun k hk => by simp (disch := omega) only [wr_o]) (by simp (disch := omega) only [wr_row]))) (fun q0 => by
            rw [hkv, nbT_5] at q0 ⊢
            have q3 := nu_ok (show (nuT B n (moU B n (twT B n t)) 1 99).2.2.1 = 0 from q0)
            have q2 := nu_ok (show (nuT B n (nuT B n (twT B n t) 1 60) 0 (((nuV B n (twT B n t) 1 60 : Nat) : Int) - 1)).2.2.1 = 0 from q3.1)
            have e1 := nuR_eq q2.1
            have e2 : nuR B n (nuT B n (twT B n t) 1 60) 0 (((nuR B n (twT B n t) 1 60 : Nat) : Int) - 1) = nuV B n (nuT B n (twT B n t) 1 60) 0 (((nuV B n (twT B n t) 1 60 : Nat) : Int) - 1) := by rw [e1]; exact nuR_eq q3.1
            have e3 := nuR_eq (show (nuT B n (moU B n (twT B n t)) 1 99).2.2.1 = 0 from q0)
            exact ⟨(((wr_o (by omega)).trans ((wr_o (by omega)).trans ((hf_F13.2 27 (by omega)).trans ((wr_o (by omega)).trans ((hf_F12.2 27 (by omega)).trans ((wr_o (by omega)).trans ((hf_F11.2 27 (by omega)).trans rfl)))))))).trans ((hs8 27 (by omega)).trans hns), Q, by show RTD _ (addMo P (nuV B n (twT B n t) 1 60) (nuV B n (nuT B n (twT B n t) 1 60) 0 (((nuV B n (twT B n t) 1 60 : Nat) : Int) - 1)) (nuV B n (moU B n (twT B n t)) 1 99)) Q; rw [← e2, ← e3, ← e1]; exact (RTD_Mo hD8 hB (f5 hkv)).fr (fun q hq => (wr_cong (wr_cong ((hf_F13.1 q hq).trans (wr_cong ((hf_F12.1 q hq).trans (wr_cong ((hf_F11.1 q hq).trans rfl)))))))), hxn⟩) (⟨fun q hq => by rw [(fun q hq => (wr_cong (wr_cong ((hf_F13.1 q hq).trans (wr_cong ((hf_F12.1 q hq).trans (wr_cong ((hf_F11.1 q hq).trans rfl))))))) : ∀ q, q ≠ 125 → (wr (wr F13 (180 + (sM P)) 2 ((nuR B n (moU B n (twT B n t)) 1 99 : Nat) : Int)) 128 3 ((sM P + 1 : Nat) : Int)) q = (wr (wr (wr (wr G8 (180 + (sM P)) 0 ((nuR B n (twT B n t) 1 60 : Nat) : Int)) (180 + (sM P)) 1 ((nuR B n (nuT B n (twT B n t) 1 60) 0 (((nuR B n (twT B n t) 1 60 : Nat) : Int) - 1) : Nat) : Int)) (180 + (sM P)) 2 ((nuR B n (moU B n (twT B n t)) 1 99 : Nat) : Int)) 128 3 ((sM P + 1 : Nat) : Int)) q) q (by omega)]; simp (disch := omega) only [wr_row]; exact hq_G8 q (by omega), fun k hk => (((wr_o (by omega)).trans ((wr_o (by omega)).trans ((hf_F13.2 k (by omega)).trans ((wr_o (by omega)).trans ((hf_F12.2 k (by omega)).trans ((wr_o (by omega)).trans ((hf_F11.2 k (by omega)).trans rfl)))))))).trans (hs8 k (by omega))⟩) ((((wr_o (by omega)).trans ((wr_o (by omega)).trans ((hf_F13.2 7 (by omega)).trans ((wr_o (by omega)).trans ((hf_F12.2 7 (by omega)).trans ((wr_o (by omega)).trans ((hf_F11.2 7 (by omega)).trans rfl)))))))).trans hc8))
set_option maxHeartbeats 8000000 in
theorem X12cl_b4 {g : Gw} (hG : GF g) {z : Bool} {κ : Kp} {Post : Option MV → Mm → Prop} (X : CX g κ cX12_clause yX12_clause.cls 5) (Rt : RT g κ none 5 109 0 0 K2 z Post) (E : Mm) (B : Nat → Int) (n : Nat) (t : TS) (P : SP) (Q : RX) (hP : WS P) (hD : RTD E P Q) (ns : Nat) (k : Nat) (hB : RBd P Q) (hxn : xNs Q ≤ ns) (hn12 : ns ≤ 12) (hns : E 125 27 = ((ns : Nat) : Int)) (G8 : Mm) (htw : (twT B n t).1 ≤ n) (ht0 : (twT B n t).2.2.1 = 0) (hP_G8 : RTp G8 B n (twT B n t)) (hq_G8 : ∀ q, q ≠ 125 → G8 q = E q) (hs8 : ∀ j, ¬ (4 ≤ j ∧ j ≤ 7) → G8 125 j = E 125 j) (hc8 : G8 125 7 = ((k + 1 : Nat) : Int)) (hD8 : RTD G8 P Q) (kd : Int) (hfu : ¬ fuW P ns kd = true) (hkv : kd = 6) (J441 : ∀ (G9 : Mm), (RTp G9 B n (nbT B n kd (twT B n t) P ns).1) → ((nbT B n kd (twT B n t) P ns).1.2.2.1 = 0 → G9 125 27 = (((nbT B n kd (twT B n t) P ns).2.2 : Nat) : Int) ∧ ∃ Q2, RTD G9 (nbT B n kd (twT B n t) P ns).2.1 Q2 ∧ xNs Q2 ≤ (nbT B n kd (twT B n t) P ns).2.2) → (RFr E G9) → (G9 125 7 = ((k + 1 : Nat) : Int)) → AT g κ K2 z 0 0 441 [(0, mR 125)] [] (ov G9)) : AT g κ K2 z 0 0 229 [(0, mR 125), (1, mI 4)] [] (ov G8) := by
  have hW40 := hP.W
  obtain ⟨b1, b2, b3, b4, b5, b6⟩ := id hB
  obtain ⟨f2, f3, f5, f6, f7, f8⟩ := fuW_no hfu
  refine at_aload_n 230 X rfl rfl dX12_clause_229 rfl ?_
  refine m_getR 233 X f_X12_46 k_125 r_125_19 dX12_clause_230 rfl ?_
  refine at_aload_n 234 X rfl rfl dX12_clause_233 rfl ?_
  refine m_getR 237 X f_X12_20 k_125 r_125_11 dX12_clause_234 rfl ?_
  refine at_iconst 238 X (by decide) dX12_clause_237 rfl ?_
  refine m_ialoadV 239 X 4 (by omega) ((sCn P : Nat) : Int) ((congrFun (hq_G8 128 (by omega)) 4).trans hD.1.2.2.2.2.1) k_128 e_128 (by omega) dX12_clause_238 rfl ?_
  refine m_aaloadV 240 X (sCn P) (by omega) k_187 (by decide) (by omega) (rr_187 _ (by omega)) dX12_clause_239 rfl ?_
  refine at_astore_n 241 X rfl dX12_clause_240 rfl (by decide) ?_
  refine at_aload_n 242 X rfl rfl dX12_clause_241 rfl ?_
  refine at_iconst 243 X (by decide) dX12_clause_242 rfl ?_
  refine at_aload_n 244 X rfl rfl dX12_clause_243 rfl ?_
  refine at_iconst 245 X (by decide) dX12_clause_244 rfl ?_
  refine at_bipush 247 X (by decide) (by decide) dX12_clause_245 rfl ?_
  refine at_callV 250 X _ 12 (c12_nu hG G8 B n (twT B n t) hP_G8 0 23 (by omega) (by omega)) clX12 rfl k_125 mo_X12_number w_2010 vo_X12_number.1 vo_X12_number.2 rfl rfl (crm Rt (by decide)) (Nat.le_of_ble_eq_true rfl) dX12_clause_247 rfl ?_
  rintro _ _ ⟨rfl, F11, rfl, hP_F11, hf_F11⟩
  have hq_F11 : ∀ q, q ≠ 125 → F11 q = E q := fun q h0 => (hf_F11.1 q h0).trans (hq_G8 q h0)
  have := nuR_in (B := B) (n := n) (t := (twT B n t)) (lo := 0) (hi := 23) (by omega)
  refine m_iastoreV 251 X 0 (by omega) (kr_187 _ (by omega)) (er_187 _ (by omega)) (by omega) dX12_clause_250 rfl ?_
  refine at_aload_n 252 X rfl rfl dX12_clause_251 rfl ?_
  refine at_iconst 253 X (by decide) dX12_clause_252 rfl ?_
  refine at_aload_n 254 X rfl rfl dX12_clause_253 rfl ?_
  refine at_aload_n 255 X rfl rfl dX12_clause_254 rfl ?_
  refine at_iconst 256 X (by decide) dX12_clause_255 rfl ?_
  refine m_ialoadV 257 X 0 (by omega) ((nuR B n (twT B n t) 0 23 : Nat) : Int) (wr_s _ _ _ _) (kr_187 _ (by omega)) (er_187 _ (by omega)) (by omega) dX12_clause_256 rfl ?_
  refine at_bipush 259 X (by decide) (by decide) dX12_clause_257 rfl ?_
  refine at_callV 262 X _ 12 (c12_nu hG (wr F11 (188 + (sCn P)) 0 ((nuR B n (twT B n t) 0 23 : Nat) : Int)) B n (nuT B n (twT B n t) 0 23) (hP_F11.w (fun k hk => by simp (disch := omega) only [wr_o]) (by simp (disch := omega) only [wr_row])) ((nuR B n (twT B n t) 0 23 : Nat) : Int) 23 (by omega) (by omega)) clX12 rfl k_125 mo_X12_number w_2010 vo_X12_number.1 vo_X12_number.2 rfl rfl (crm Rt (by decide)) (Nat.le_of_ble_eq_true rfl) dX12_clause_259 rfl ?_
  rintro _ _ ⟨rfl, F12, rfl, hP_F12, hf_F12⟩
  have hq_F12 : ∀ q, q ≠ 125 → q ≠ (188 + (sCn P)) → F12 q = E q := fun q h0 h1 => ((hf_F12.1 q h0).trans (wr_row h1)).trans (hq_F11 q h0)
  rw [(cl_eq (P := P))] at hP_F12
  have := nuR_in (B := B) (n := n) (t := (nuT B n (twT B n t) 0 23)) (lo := ((nuR B n (twT B n t) 0 23 : Nat) : Int)) (hi := 23) (by omega)
  refine m_iastoreV 263 X 1 (by omega) (kr_187 _ (by omega)) (er_187 _ (by omega)) (by omega) dX12_clause_262 rfl ?_
  refine at_goto 404 X dX12_clause_263 (by decide) ?_
  refine at_iload_n 405 X rfl rfl dX12_clause_404 rfl ?_
  refine at_iconst 406 X (by decide) dX12_clause_405 rfl ?_
  refine at_icmp_eq 409 420 X dX12_clause_406 rfl (by decide) (fun h406 => ?_) (fun h406 => ?_)
  · exact absurd h406 (by decide)
  · refine at_iload_n 410 X rfl rfl dX12_clause_409 rfl ?_
    refine at_iconst 411 X (by decide) dX12_clause_410 rfl ?_
    refine at_icmp_le 414 441 X dX12_clause_411 rfl (by decide) (fun h411 => ?_) (fun h411 => ?_)
    · exact absurd h411 (by decide)
    · refine at_iload_n 415 X rfl rfl dX12_clause_414 rfl ?_
      refine at_bipush 417 X (by decide) (by decide) dX12_clause_415 rfl ?_
      refine at_icmp_ge 420 441 X dX12_clause_417 rfl (by decide) (fun h417 => ?_) (fun h417 => ?_)
      · exact absurd h417 (by decide)
      · refine at_aload_n 421 X rfl rfl dX12_clause_420 rfl ?_
        refine m_getR 424 X f_X12_20 k_125 r_125_11 dX12_clause_421 rfl ?_
        refine at_iload_n 425 X rfl rfl dX12_clause_424 rfl ?_
        refine at_dup2 426 X (show ¬ (0 : Nat) = 1 by decide) (show ¬ (2 : Nat) = 1 by decide) dX12_clause_425 rfl ?_
        refine m_ialoadV 427 X 4 (by omega) ((sCn P : Nat) : Int) ((wr_o (by omega)).trans ((congrFun (hq_F12 128 (by omega) (by omega)) 4).trans hD.1.2.2.2.2.1)) k_128 e_128 (by omega) dX12_clause_426 rfl ?_
        refine at_aload_n 428 X rfl rfl dX12_clause_427 rfl ?_
        refine m_getIV 431 X (((clC B n (twT B n t) P).1).2.2.1) ((wr_o (by omega)).trans (rfk hP_F12)) f_X12_168 k_125 rn_125_5 dX12_clause_428 rfl ?_
        refine at_if_ne 434 438 X dX12_clause_431 rfl (by decide) (fun h431 => ?_) (fun h431 => ?_)
        · have hff := h431
          refine at_iconst 439 X (by decide) dX12_clause_438 rfl ?_
          refine at_iaddV 440 X ((sCn P + 0 : Nat) : Int) (w32_v (by omega) (by omega) (by omega)) dX12_clause_439 rfl ?_
          refine m_iastoreV 441 X 4 (by omega) k_128 e_128 (by omega) dX12_clause_440 rfl ?_
          exact at_sub _ (by exact ⟨rfl, trivial⟩) (J441 (wr (wr F12 (188 + (sCn P)) 1 ((nuR B n (nuT B n (twT B n t) 0 23) ((nuR B n (twT B n t) 0 23 : Nat) : Int) 23 : Nat) : Int)) 128 4 ((sCn P + 0 : Nat) : Int)) (by rw [hkv, nbT_6]; show RTp _ B n _; exact (hP_F12.w (fun k hk => by simp (disch := omega) only [wr_o]) (by simp (disch := omega) only [wr_row]))) (fun q0 => by
            rw [hkv, nbT_6] at q0 ⊢
            exact absurd q0 hff) (⟨fun q hq => by rw [(fun q hq => (wr_cong (wr_cong ((hf_F12.1 q hq).trans (wr_cong ((hf_F11.1 q hq).trans rfl))))) : ∀ q, q ≠ 125 → (wr (wr F12 (188 + (sCn P)) 1 ((nuR B n (nuT B n (twT B n t) 0 23) ((nuR B n (twT B n t) 0 23 : Nat) : Int) 23 : Nat) : Int)) 128 4 ((sCn P + 0 : Nat) : Int)) q = (wr (wr (wr G8 (188 + (sCn P)) 0 ((nuR B n (twT B n t) 0 23 : Nat) : Int)) (188 + (sCn P)) 1 ((nuR B n (nuT B n (twT B n t) 0 23) ((nuR B n (twT B n t) 0 23 : Nat) : Int) 23 : Nat) : Int)) 128 4 ((sCn P + 0 : Nat) : Int)) q) q (by omega)]; simp (disch := omega) only [wr_row]; exact hq_G8 q (by omega), fun k hk => (((wr_o (by omega)).trans ((wr_o (by omega)).trans ((hf_F12.2 k (by omega)).trans ((wr_o (by omega)).trans ((hf_F11.2 k (by omega)).trans rfl)))))).trans (hs8 k (by omega))⟩) ((((wr_o (by omega)).trans ((wr_o (by omega)).trans ((hf_F12.2 7 (by omega)).trans ((wr_o (by omega)).trans ((hf_F11.2 7 (by omega)).trans rfl)))))).trans hc8))
        · have hff := h431
          refine at_iconst 435 X (by decide) dX12_clause_434 rfl ?_
          refine at_goto 439 X dX12_clause_435 (by decide) ?_
          refine at_iaddV 440 X ((sCn P + 1 : Nat) : Int) (w32_v (by omega) (by omega) (by omega)) dX12_clause_439 rfl ?_
          refine m_iastoreV 441 X 4 (by omega) k_128 e_128 (by omega) dX12_clause_440 rfl ?_
          exact at_sub _ (by exact ⟨rfl, trivial⟩) (J441 (wr (wr F12 (188 + (sCn P)) 1 ((nuR B n (nuT B n (twT B n t) 0 23) ((nuR B n (twT B n t) 0 23 : Nat) : Int) 23 : Nat) : Int)) 128 4 ((sCn P + 1 : Nat) : Int)) (by rw [hkv, nbT_6]; show RTp _ B n _; exact (hP_F12.w (fun k hk => by simp (disch := omega) only [wr_o]) (by simp (disch := omega) only [wr_row]))) (fun q0 => by
            rw [hkv, nbT_6] at q0 ⊢
            have q2 := nu_ok (show (nuT B n (nuT B n (twT B n t) 0 23) ((nuV B n (twT B n t) 0 23 : Nat) : Int) 23).2.2.1 = 0 from q0)
            have e1 := nuR_eq q2.1
            have q1 := nu_ok q2.1
            have r1 := q1.2.1 (by decide)
            have r2 := q2.2.1 (by omega)
            have e2 : nuR B n (nuT B n (twT B n t) 0 23) ((nuR B n (twT B n t) 0 23 : Nat) : Int) 23 = nuV B n (nuT B n (twT B n t) 0 23) ((nuV B n (twT B n t) 0 23 : Nat) : Int) 23 := by rw [e1]; exact nuR_eq (show (nuT B n (nuT B n (twT B n t) 0 23) ((nuV B n (twT B n t) 0 23 : Nat) : Int) 23).2.2.1 = 0 from q0)
            have hfin := (RTD_Cl (f := nuR B n (twT B n t) 0 23) (t := nuR B n (nuT B n (twT B n t) 0 23) ((nuR B n (twT B n t) 0 23 : Nat) : Int) 23) hD8 hB (f6 hkv) (by rw [e2, e1]; omega))
            exact ⟨(((wr_o (by omega)).trans ((wr_o (by omega)).trans ((hf_F12.2 27 (by omega)).trans ((wr_o (by omega)).trans ((hf_F11.2 27 (by omega)).trans rfl)))))).trans ((hs8 27 (by omega)).trans hns), (Q.1, (pt1 (xCf Q) (sCn P) (nuR B n (twT B n t) 0 23), pt1 (xCt Q) (sCn P) (nuR B n (nuT B n (twT B n t) 0 23) ((nuR B n (twT B n t) 0 23 : Nat) : Int) 23)), Q.2.2), by show RTD _ (addCl P (nuV B n (twT B n t) 0 23) (nuV B n (nuT B n (twT B n t) 0 23) ((nuV B n (twT B n t) 0 23 : Nat) : Int) 23)) _; rw [← e2, ← e1]; exact hfin.fr (fun q hq => (wr_cong (wr_cong ((hf_F12.1 q hq).trans (wr_cong ((hf_F11.1 q hq).trans rfl)))))), (show xNs Q ≤ _ from hxn)⟩) (⟨fun q hq => by rw [(fun q hq => (wr_cong (wr_cong ((hf_F12.1 q hq).trans (wr_cong ((hf_F11.1 q hq).trans rfl))))) : ∀ q, q ≠ 125 → (wr (wr F12 (188 + (sCn P)) 1 ((nuR B n (nuT B n (twT B n t) 0 23) ((nuR B n (twT B n t) 0 23 : Nat) : Int) 23 : Nat) : Int)) 128 4 ((sCn P + 1 : Nat) : Int)) q = (wr (wr (wr G8 (188 + (sCn P)) 0 ((nuR B n (twT B n t) 0 23 : Nat) : Int)) (188 + (sCn P)) 1 ((nuR B n (nuT B n (twT B n t) 0 23) ((nuR B n (twT B n t) 0 23 : Nat) : Int) 23 : Nat) : Int)) 128 4 ((sCn P + 1 : Nat) : Int)) q) q (by omega)]; simp (disch := omega) only [wr_row]; exact hq_G8 q (by omega), fun k hk => (((wr_o (by omega)).trans ((wr_o (by omega)).trans ((hf_F12.2 k (by omega)).trans ((wr_o (by omega)).trans ((hf_F11.2 k (by omega)).trans rfl)))))).trans (hs8 k (by omega))⟩) ((((wr_o (by omega)).trans ((wr_o (by omega)).trans ((hf_F12.2 7 (by omega)).trans ((wr_o (by omega)).trans ((hf_F11.2 7 (by omega)).trans rfl)))))).trans hc8))
set_option maxHeartbeats 8000000 in
theorem X12cl_b5 {g : Gw} (hG : GF g) {z : Bool} {κ : Kp} {Post : Option MV → Mm → Prop} (X : CX g κ cX12_clause yX12_clause.cls 5) (Rt : RT g κ none 5 109 0 0 K2 z Post) (E : Mm) (B : Nat → Int) (n : Nat) (t : TS) (P : SP) (Q : RX) (hP : WS P) (hD : RTD E P Q) (ns : Nat) (k : Nat) (hB : RBd P Q) (hxn : xNs Q ≤ ns) (hn12 : ns ≤ 12) (hns : E 125 27 = ((ns : Nat) : Int)) (G8 : Mm) (htw : (twT B n t).1 ≤ n) (ht0 : (twT B n t).2.2.1 = 0) (hP_G8 : RTp G8 B n (twT B n t)) (hq_G8 : ∀ q, q ≠ 125 → G8 q = E q) (hs8 : ∀ j, ¬ (4 ≤ j ∧ j ≤ 7) → G8 125 j = E 125 j) (hc8 : G8 125 7 = ((k + 1 : Nat) : Int)) (hD8 : RTD G8 P Q) (kd : Int) (hfu : ¬ fuW P ns kd = true) (hkv : kd = 7) (J441 : ∀ (G9 : Mm), (RTp G9 B n (nbT B n kd (twT B n t) P ns).1) → ((nbT B n kd (twT B n t) P ns).1.2.2.1 = 0 → G9 125 27 = (((nbT B n kd (twT B n t) P ns).2.2 : Nat) : Int) ∧ ∃ Q2, RTD G9 (nbT B n kd (twT B n t) P ns).2.1 Q2 ∧ xNs Q2 ≤ (nbT B n kd (twT B n t) P ns).2.2) → (RFr E G9) → (G9 125 7 = ((k + 1 : Nat) : Int)) → AT g κ K2 z 0 0 441 [(0, mR 125)] [] (ov G9)) : AT g κ K2 z 0 0 266 [(0, mR 125), (1, mI 5)] [] (ov G8) := by
  have hW40 := hP.W
  obtain ⟨b1, b2, b3, b4, b5, b6⟩ := id hB
  obtain ⟨f2, f3, f5, f6, f7, f8⟩ := fuW_no hfu
  refine at_aload_n 267 X rfl rfl dX12_clause_266 rfl ?_
  refine m_getR 270 X f_X12_52 k_125 r_125_21 dX12_clause_267 rfl ?_
  refine at_aload_n 271 X rfl rfl dX12_clause_270 rfl ?_
  refine m_getR 274 X f_X12_20 k_125 r_125_11 dX12_clause_271 rfl ?_
  refine at_iconst 275 X (by decide) dX12_clause_274 rfl ?_
  refine m_ialoadV 276 X 5 (by omega) ((sLn P : Nat) : Int) ((congrFun (hq_G8 128 (by omega)) 5).trans hD.1.2.2.2.2.2.1) k_128 e_128 (by omega) dX12_clause_275 rfl ?_
  refine m_aaloadV 277 X (sLn P) (by omega) k_201 (by decide) (by omega) (rr_201 _ (by omega)) dX12_clause_276 rfl ?_
  refine at_astore_n 278 X rfl dX12_clause_277 rfl (by decide) ?_
  refine at_aload_n 279 X rfl rfl dX12_clause_278 rfl ?_
  refine at_iconst 280 X (by decide) dX12_clause_279 rfl ?_
  refine at_aload_n 281 X rfl rfl dX12_clause_280 rfl ?_
  refine at_callV 284 X _ 12 (c12_cell hG G8 B n (twT B n t) hP_G8 P hP.W.2 ((congrFun (hq_G8 128 (by omega)) 0).trans hD.1.1)) clX12 rfl k_125 mo_X12_cellHere w_2022 vo_X12_cellHere.1 vo_X12_cellHere.2 rfl rfl (crm Rt (by decide)) (Nat.le_of_ble_eq_true rfl) dX12_clause_281 rfl ?_
  rintro _ _ ⟨rfl, F11, rfl, hP_F11, hf_F11⟩
  have hq_F11 : ∀ q, q ≠ 125 → F11 q = E q := fun q h0 => (hf_F11.1 q h0).trans (hq_G8 q h0)
  have := nuR_in (B := B) (n := n) (t := (twT B n t)) (lo := 0) (hi := ((sW P : Nat) : Int) - 1) (by omega)
  refine m_iastoreV 285 X 0 (by omega) (kr_201 _ (by omega)) (er_201 _ (by omega)) (by omega) dX12_clause_284 rfl ?_
  refine at_aload_n 286 X rfl rfl dX12_clause_285 rfl ?_
  refine at_iconst 287 X (by decide) dX12_clause_286 rfl ?_
  refine at_aload_n 288 X rfl rfl dX12_clause_287 rfl ?_
  refine at_iconst 289 X (by decide) dX12_clause_288 rfl ?_
  refine at_bipush 291 X (by decide) (by decide) dX12_clause_289 rfl ?_
  refine at_callV 294 X _ 12 (c12_nu hG (wr F11 (202 + (sLn P)) 0 ((nuR B n (twT B n t) 0 (((sW P : Nat) : Int) - 1) : Nat) : Int)) B n (nuT B n (twT B n t) 0 (((sW P : Nat) : Int) - 1)) (hP_F11.w (fun k hk => by simp (disch := omega) only [wr_o]) (by simp (disch := omega) only [wr_row])) 0 9 (by omega) (by omega)) clX12 rfl k_125 mo_X12_number w_2010 vo_X12_number.1 vo_X12_number.2 rfl rfl (crm Rt (by decide)) (Nat.le_of_ble_eq_true rfl) dX12_clause_291 rfl ?_
  rintro _ _ ⟨rfl, F12, rfl, hP_F12, hf_F12⟩
  have hq_F12 : ∀ q, q ≠ 125 → q ≠ (202 + (sLn P)) → F12 q = E q := fun q h0 h1 => ((hf_F12.1 q h0).trans (wr_row h1)).trans (hq_F11 q h0)
  have := nuR_in (B := B) (n := n) (t := (nuT B n (twT B n t) 0 (((sW P : Nat) : Int) - 1))) (lo := 0) (hi := 9) (by omega)
  refine m_iastoreV 295 X 1 (by omega) (kr_201 _ (by omega)) (er_201 _ (by omega)) (by omega) dX12_clause_294 rfl ?_
  refine at_goto 404 X dX12_clause_295 (by decide) ?_
  refine at_iload_n 405 X rfl rfl dX12_clause_404 rfl ?_
  refine at_iconst 406 X (by decide) dX12_clause_405 rfl ?_
  refine at_icmp_eq 409 420 X dX12_clause_406 rfl (by decide) (fun h406 => ?_) (fun h406 => ?_)
  · exact absurd h406 (by decide)
  · refine at_iload_n 410 X rfl rfl dX12_clause_409 rfl ?_
    refine at_iconst 411 X (by decide) dX12_clause_410 rfl ?_
    refine at_icmp_le 414 441 X dX12_clause_411 rfl (by decide) (fun h411 => ?_) (fun h411 => ?_)
    · exact absurd h411 (by decide)
    · refine at_iload_n 415 X rfl rfl dX12_clause_414 rfl ?_
      refine at_bipush 417 X (by decide) (by decide) dX12_clause_415 rfl ?_
      refine at_icmp_ge 420 441 X dX12_clause_417 rfl (by decide) (fun h417 => ?_) (fun h417 => ?_)
      · exact absurd h417 (by decide)
      · refine at_aload_n 421 X rfl rfl dX12_clause_420 rfl ?_
        refine m_getR 424 X f_X12_20 k_125 r_125_11 dX12_clause_421 rfl ?_
        refine at_iload_n 425 X rfl rfl dX12_clause_424 rfl ?_
        refine at_dup2 426 X (show ¬ (0 : Nat) = 1 by decide) (show ¬ (2 : Nat) = 1 by decide) dX12_clause_425 rfl ?_
        refine m_ialoadV 427 X 5 (by omega) ((sLn P : Nat) : Int) ((wr_o (by omega)).trans ((congrFun (hq_F12 128 (by omega) (by omega)) 5).trans hD.1.2.2.2.2.2.1)) k_128 e_128 (by omega) dX12_clause_426 rfl ?_
        refine at_aload_n 428 X rfl rfl dX12_clause_427 rfl ?_
        refine m_getIV 431 X ((nuT B n (nuT B n (twT B n t) 0 (((sW P : Nat) : Int) - 1)) 0 9).2.2.1) ((wr_o (by omega)).trans (rfk hP_F12)) f_X12_168 k_125 rn_125_5 dX12_clause_428 rfl ?_
        refine at_if_ne 434 438 X dX12_clause_431 rfl (by decide) (fun h431 => ?_) (fun h431 => ?_)
        · have hff := h431
          refine at_iconst 439 X (by decide) dX12_clause_438 rfl ?_
          refine at_iaddV 440 X ((sLn P + 0 : Nat) : Int) (w32_v (by omega) (by omega) (by omega)) dX12_clause_439 rfl ?_
          refine m_iastoreV 441 X 5 (by omega) k_128 e_128 (by omega) dX12_clause_440 rfl ?_
          exact at_sub _ (by exact ⟨rfl, trivial⟩) (J441 (wr (wr F12 (202 + (sLn P)) 1 ((nuR B n (nuT B n (twT B n t) 0 (((sW P : Nat) : Int) - 1)) 0 9 : Nat) : Int)) 128 5 ((sLn P + 0 : Nat) : Int)) (by rw [hkv, nbT_7]; show RTp _ B n _; exact (hP_F12.w (fun k hk => by simp (disch := omega) only [wr_o]) (by simp (disch := omega) only [wr_row]))) (fun q0 => by
            rw [hkv, nbT_7] at q0 ⊢
            exact absurd q0 hff) (⟨fun q hq => by rw [(fun q hq => (wr_cong (wr_cong ((hf_F12.1 q hq).trans (wr_cong ((hf_F11.1 q hq).trans rfl))))) : ∀ q, q ≠ 125 → (wr (wr F12 (202 + (sLn P)) 1 ((nuR B n (nuT B n (twT B n t) 0 (((sW P : Nat) : Int) - 1)) 0 9 : Nat) : Int)) 128 5 ((sLn P + 0 : Nat) : Int)) q = (wr (wr (wr G8 (202 + (sLn P)) 0 ((nuR B n (twT B n t) 0 (((sW P : Nat) : Int) - 1) : Nat) : Int)) (202 + (sLn P)) 1 ((nuR B n (nuT B n (twT B n t) 0 (((sW P : Nat) : Int) - 1)) 0 9 : Nat) : Int)) 128 5 ((sLn P + 0 : Nat) : Int)) q) q (by omega)]; simp (disch := omega) only [wr_row]; exact hq_G8 q (by omega), fun k hk => (((wr_o (by omega)).trans ((wr_o (by omega)).trans ((hf_F12.2 k (by omega)).trans ((wr_o (by omega)).trans ((hf_F11.2 k (by omega)).trans rfl)))))).trans (hs8 k (by omega))⟩) ((((wr_o (by omega)).trans ((wr_o (by omega)).trans ((hf_F12.2 7 (by omega)).trans ((wr_o (by omega)).trans ((hf_F11.2 7 (by omega)).trans rfl)))))).trans hc8))
        · have hff := h431
          refine at_iconst 435 X (by decide) dX12_clause_434 rfl ?_
          refine at_goto 439 X dX12_clause_435 (by decide) ?_
          refine at_iaddV 440 X ((sLn P + 1 : Nat) : Int) (w32_v (by omega) (by omega) (by omega)) dX12_clause_439 rfl ?_
          refine m_iastoreV 441 X 5 (by omega) k_128 e_128 (by omega) dX12_clause_440 rfl ?_
          exact at_sub _ (by exact ⟨rfl, trivial⟩) (J441 (wr (wr F12 (202 + (sLn P)) 1 ((nuR B n (nuT B n (twT B n t) 0 (((sW P : Nat) : Int) - 1)) 0 9 : Nat) : Int)) 128 5 ((sLn P + 1 : Nat) : Int)) (by rw [hkv, nbT_7]; show RTp _ B n _; exact (hP_F12.w (fun k hk => by simp (disch := omega) only [wr_o]) (by simp (disch := omega) only [wr_row]))) (fun q0 => by
            rw [hkv, nbT_7] at q0 ⊢
            have q2 := nu_ok (show (nuT B n (nuT B n (twT B n t) 0 (((sW P : Nat) : Int) - 1)) 0 9).2.2.1 = 0 from q0)
            have e1 := nuR_eq q2.1
            have q1 := nu_ok q2.1
            have r1 := q1.2.1 (by decide)
            have r2 := q2.2.1 (by omega)
            have e2 := nuR_eq (show (nuT B n (nuT B n (twT B n t) 0 (((sW P : Nat) : Int) - 1)) 0 9).2.2.1 = 0 from q0)
            have hfin := (RTD_La (x := nuR B n (twT B n t) 0 (((sW P : Nat) : Int) - 1)) (r := nuR B n (nuT B n (twT B n t) 0 (((sW P : Nat) : Int) - 1)) 0 9) hD8 hB (f7 hkv) (by rw [e2, e1]; omega))
            exact ⟨(((wr_o (by omega)).trans ((wr_o (by omega)).trans ((hf_F12.2 27 (by omega)).trans ((wr_o (by omega)).trans ((hf_F11.2 27 (by omega)).trans rfl)))))).trans ((hs8 27 (by omega)).trans hns), (Q.1, Q.2.1, (pt1 (xLx Q) (sLn P) (nuR B n (twT B n t) 0 (((sW P : Nat) : Int) - 1)), pt1 (xLr Q) (sLn P) (nuR B n (nuT B n (twT B n t) 0 (((sW P : Nat) : Int) - 1)) 0 9))), by show RTD _ (addLa P (nuV B n (twT B n t) 0 (((sW P : Nat) : Int) - 1)) (nuV B n (nuT B n (twT B n t) 0 (((sW P : Nat) : Int) - 1)) 0 9)) _; rw [← e2, ← e1]; exact hfin.fr (fun q hq => (wr_cong (wr_cong ((hf_F12.1 q hq).trans (wr_cong ((hf_F11.1 q hq).trans rfl)))))), (show xNs Q ≤ _ from hxn)⟩) (⟨fun q hq => by rw [(fun q hq => (wr_cong (wr_cong ((hf_F12.1 q hq).trans (wr_cong ((hf_F11.1 q hq).trans rfl))))) : ∀ q, q ≠ 125 → (wr (wr F12 (202 + (sLn P)) 1 ((nuR B n (nuT B n (twT B n t) 0 (((sW P : Nat) : Int) - 1)) 0 9 : Nat) : Int)) 128 5 ((sLn P + 1 : Nat) : Int)) q = (wr (wr (wr G8 (202 + (sLn P)) 0 ((nuR B n (twT B n t) 0 (((sW P : Nat) : Int) - 1) : Nat) : Int)) (202 + (sLn P)) 1 ((nuR B n (nuT B n (twT B n t) 0 (((sW P : Nat) : Int) - 1)) 0 9 : Nat) : Int)) 128 5 ((sLn P + 1 : Nat) : Int)) q) q (by omega)]; simp (disch := omega) only [wr_row]; exact hq_G8 q (by omega), fun k hk => (((wr_o (by omega)).trans ((wr_o (by omega)).trans ((hf_F12.2 k (by omega)).trans ((wr_o (by omega)).trans ((hf_F11.2 k (by omega)).trans rfl)))))).trans (hs8 k (by omega))⟩) ((((wr_o (by omega)).trans ((wr_o (by omega)).trans ((hf_F12.2 7 (by omega)).trans ((wr_o (by omega)).trans ((hf_F11.2 7 (by omega)).trans rfl)))))).trans hc8))
set_option maxHeartbeats 8000000 in
theorem X12cl_b6 {g : Gw} (hG : GF g) {z : Bool} {κ : Kp} {Post : Option MV → Mm → Prop} (X : CX g κ cX12_clause yX12_clause.cls 5) (Rt : RT g κ none 5 109 0 0 K2 z Post) (E : Mm) (B : Nat → Int) (n : Nat) (t : TS) (P : SP) (Q : RX) (hP : WS P) (hD : RTD E P Q) (ns : Nat) (k : Nat) (hB : RBd P Q) (hxn : xNs Q ≤ ns) (hn12 : ns ≤ 12) (hns : E 125 27 = ((ns : Nat) : Int)) (G8 : Mm) (htw : (twT B n t).1 ≤ n) (ht0 : (twT B n t).2.2.1 = 0) (hP_G8 : RTp G8 B n (twT B n t)) (hq_G8 : ∀ q, q ≠ 125 → G8 q = E q) (hs8 : ∀ j, ¬ (4 ≤ j ∧ j ≤ 7) → G8 125 j = E 125 j) (hc8 : G8 125 7 = ((k + 1 : Nat) : Int)) (hD8 : RTD G8 P Q) (kd : Int) (hfu : ¬ fuW P ns kd = true) (hkv : kd = 8) (J441 : ∀ (G9 : Mm), (RTp G9 B n (nbT B n kd (twT B n t) P ns).1) → ((nbT B n kd (twT B n t) P ns).1.2.2.1 = 0 → G9 125 27 = (((nbT B n kd (twT B n t) P ns).2.2 : Nat) : Int) ∧ ∃ Q2, RTD G9 (nbT B n kd (twT B n t) P ns).2.1 Q2 ∧ xNs Q2 ≤ (nbT B n kd (twT B n t) P ns).2.2) → (RFr E G9) → (G9 125 7 = ((k + 1 : Nat) : Int)) → AT g κ K2 z 0 0 441 [(0, mR 125)] [] (ov G9)) : AT g κ K2 z 0 0 298 [(0, mR 125), (1, mI 6)] [] (ov G8) := by
  have hW40 := hP.W
  obtain ⟨b1, b2, b3, b4, b5, b6⟩ := id hB
  obtain ⟨f2, f3, f5, f6, f7, f8⟩ := fuW_no hfu
  refine at_aload_n 299 X rfl rfl dX12_clause_298 rfl ?_
  refine at_aload_n 300 X rfl rfl dX12_clause_299 rfl ?_
  refine m_getR 303 X f_X12_58 k_125 r_125_23 dX12_clause_300 rfl ?_
  refine at_aload_n 304 X rfl rfl dX12_clause_303 rfl ?_
  refine m_getR 307 X f_X12_20 k_125 r_125_11 dX12_clause_304 rfl ?_
  refine at_bipush 309 X (by decide) (by decide) dX12_clause_307 rfl ?_
  refine m_ialoadV 310 X 6 (by omega) ((bN (sB P) : Nat) : Int) ((congrFun (hq_G8 128 (by omega)) 6).trans hD.1.2.2.2.2.2.2.1) k_128 e_128 (by omega) dX12_clause_309 rfl ?_
  refine m_aaloadV 311 X (bN (sB P)) (by omega) k_218 (by decide) (by omega) (rr_218 _ (by omega)) dX12_clause_310 rfl ?_
  refine at_callV 314 X _ 12 (ct_X12_beamHere hG G8 B n (twT B n t) htw hP_G8 ht0 P Q hP hD8 hB (f8 hkv)) clX12 rfl k_125 mo_X12_beamHere w_2030 vo_X12_beamHere.1 vo_X12_beamHere.2 rfl rfl (crm Rt (by decide)) (Nat.le_of_ble_eq_true rfl) dX12_clause_311 rfl ?_
  rintro _ _ ⟨rfl, A6, rfl, hP_A6, hb_A6, hg_A6, hs_A6⟩
  have hq_A6 := hg_A6
  refine at_goto 404 X dX12_clause_314 (by decide) ?_
  refine at_iload_n 405 X rfl rfl dX12_clause_404 rfl ?_
  refine at_iconst 406 X (by decide) dX12_clause_405 rfl ?_
  refine at_icmp_eq 409 420 X dX12_clause_406 rfl (by decide) (fun h406 => ?_) (fun h406 => ?_)
  · exact absurd h406 (by decide)
  · refine at_iload_n 410 X rfl rfl dX12_clause_409 rfl ?_
    refine at_iconst 411 X (by decide) dX12_clause_410 rfl ?_
    refine at_icmp_le 414 441 X dX12_clause_411 rfl (by decide) (fun h411 => ?_) (fun h411 => ?_)
    · exact absurd h411 (by decide)
    · refine at_iload_n 415 X rfl rfl dX12_clause_414 rfl ?_
      refine at_bipush 417 X (by decide) (by decide) dX12_clause_415 rfl ?_
      refine at_icmp_ge 420 441 X dX12_clause_417 rfl (by decide) (fun h417 => ?_) (fun h417 => ?_)
      · exact absurd h417 (by decide)
      · refine at_aload_n 421 X rfl rfl dX12_clause_420 rfl ?_
        refine m_getR 424 X f_X12_20 k_125 r_125_11 dX12_clause_421 rfl ?_
        refine at_iload_n 425 X rfl rfl dX12_clause_424 rfl ?_
        refine at_dup2 426 X (show ¬ (0 : Nat) = 1 by decide) (show ¬ (2 : Nat) = 1 by decide) dX12_clause_425 rfl ?_
        refine m_ialoadV 427 X 6 (by omega) ((bN (sB P) : Nat) : Int) ((congrFun (hq_A6 128 (by omega) (by omega) (by omega)) 6).trans ((congrFun (hq_G8 128 (by omega)) 6).trans hD.1.2.2.2.2.2.2.1)) k_128 e_128 (by omega) dX12_clause_426 rfl ?_
        refine at_aload_n 428 X rfl rfl dX12_clause_427 rfl ?_
        refine m_getIV 431 X (((beC B n (twT B n t) P).1).2.2.1) (rfk hP_A6) f_X12_168 k_125 rn_125_5 dX12_clause_428 rfl ?_
        refine at_if_ne 434 438 X dX12_clause_431 rfl (by decide) (fun h431 => ?_) (fun h431 => ?_)
        · have hff := h431
          refine at_iconst 439 X (by decide) dX12_clause_438 rfl ?_
          refine at_iaddV 440 X ((bN (sB P) + 0 : Nat) : Int) (w32_v (by omega) (by omega) (by omega)) dX12_clause_439 rfl ?_
          refine m_iastoreV 441 X 6 (by omega) k_128 e_128 (by omega) dX12_clause_440 rfl ?_
          exact at_sub _ (by exact ⟨rfl, trivial⟩) (J441 (wr A6 128 6 ((bN (sB P) + 0 : Nat) : Int)) (by rw [hkv, nbT_8]; show RTp _ B n _; exact (hP_A6.w (fun k hk => by simp (disch := omega) only [wr_o]) (by simp (disch := omega) only [wr_row]))) (fun q0 => by
            rw [hkv, nbT_8] at q0 ⊢
            exact absurd q0 hff) (⟨fun q hq => by rw [wr_row (by omega), hg_A6 q (by omega) (by omega) (by omega)]; exact hq_G8 q (by omega), fun k hk => by rw [wr_o (by omega), hs_A6 k (by omega)]; exact hs8 k (by omega)⟩) ((wr_o (by omega)).trans ((hs_A6 7 (by omega)).trans hc8)))
        · have hff := h431
          refine at_iconst 435 X (by decide) dX12_clause_434 rfl ?_
          refine at_goto 439 X dX12_clause_435 (by decide) ?_
          refine at_iaddV 440 X ((bN (sB P) + 1 : Nat) : Int) (w32_v (by omega) (by omega) (by omega)) dX12_clause_439 rfl ?_
          refine m_iastoreV 441 X 6 (by omega) k_128 e_128 (by omega) dX12_clause_440 rfl ?_
          exact at_sub _ (by exact ⟨rfl, trivial⟩) (J441 (wr A6 128 6 ((bN (sB P) + 1 : Nat) : Int)) (by rw [hkv, nbT_8]; show RTp _ B n _; exact (hP_A6.w (fun k hk => by simp (disch := omega) only [wr_o]) (by simp (disch := omega) only [wr_row]))) (fun q0 => by
            rw [hkv, nbT_8] at q0 ⊢
            have q1 := nu_ok (show (nuT B n (beU B n (twT B n t) P) 1 9).2.2.1 = 0 from q0)
            have q2 := nu_ok (show (nuT B n (nuT B n (twT B n t) 0 (((sW P : Nat) : Int) - 1)) 2 (beH B n (twT B n t) P)).2.2.1 = 0 from q1.1)
            have hbv := q2.2.1 (by decide)
            have hbv2 : ((beV B n (twT B n t) P : Nat) : Int) = ((nuV B n (nuT B n (twT B n t) 0 (((sW P : Nat) : Int) - 1)) 2 (beH B n (twT B n t) P) : Nat) : Int) := rfl
            have hbh : beH B n (twT B n t) P ≤ 20 := by unfold beH; split <;> omega
            obtain ⟨⟨r1, r2, r3⟩, r4⟩ := hb_A6 q0
            exact ⟨(wr_o (by omega)).trans ((hs_A6 27 (by omega)).trans ((hs8 27 (by omega)).trans hns)), Q, by
              refine RTD_Be (E := fun q => if q = 125 then A6 125 else G8 q) (x := nuV B n (twT B n t) 0 (((sW P : Nat) : Int) - 1)) (l := beV B n (twT B n t) P) (m := nuV B n (beU B n (twT B n t) P) 1 9) (hD8.fr (fun q hq => if_neg hq)) hB (f8 hkv) (by omega) (fun q a b c => ?_) (fun k hk => ?_) (wr_s _ _ _ _) ⟨(wr_o (by omega)).trans r1, (wr_o (by omega)).trans r2, (wr_o (by omega)).trans r3⟩ (fun p hp => (wr_o (by omega)).trans (r4 p hp))
              · rw [wr_row a]
                by_cases c5 : q = 125
                · rw [c5]; exact (if_pos rfl).symm
                · exact (hg_A6 q c5 b c).trans (if_neg c5).symm
              · rw [wr_o (by omega)]; exact (congrFun (hg_A6 128 (by omega) (by omega) (by omega)) k).trans (congrFun (if_neg (show ¬ (128 : Nat) = 125 by decide)).symm k), hxn⟩) (⟨fun q hq => by rw [wr_row (by omega), hg_A6 q (by omega) (by omega) (by omega)]; exact hq_G8 q (by omega), fun k hk => by rw [wr_o (by omega), hs_A6 k (by omega)]; exact hs8 k (by omega)⟩) ((wr_o (by omega)).trans ((hs_A6 7 (by omega)).trans hc8)))
set_option maxHeartbeats 8000000 in
theorem X12cl_b7 {g : Gw} (hG : GF g) {z : Bool} {κ : Kp} {Post : Option MV → Mm → Prop} (X : CX g κ cX12_clause yX12_clause.cls 5) (Rt : RT g κ none 5 109 0 0 K2 z Post) (E : Mm) (B : Nat → Int) (n : Nat) (t : TS) (P : SP) (Q : RX) (hP : WS P) (hD : RTD E P Q) (ns : Nat) (k : Nat) (hB : RBd P Q) (hxn : xNs Q ≤ ns) (hn12 : ns ≤ 12) (hns : E 125 27 = ((ns : Nat) : Int)) (G8 : Mm) (htw : (twT B n t).1 ≤ n) (ht0 : (twT B n t).2.2.1 = 0) (hP_G8 : RTp G8 B n (twT B n t)) (hq_G8 : ∀ q, q ≠ 125 → G8 q = E q) (hs8 : ∀ j, ¬ (4 ≤ j ∧ j ≤ 7) → G8 125 j = E 125 j) (hc8 : G8 125 7 = ((k + 1 : Nat) : Int)) (hD8 : RTD G8 P Q) (kd : Int) (hfu : ¬ fuW P ns kd = true) (hkv : kd = 4) (J441 : ∀ (G9 : Mm), (RTp G9 B n (nbT B n kd (twT B n t) P ns).1) → ((nbT B n kd (twT B n t) P ns).1.2.2.1 = 0 → G9 125 27 = (((nbT B n kd (twT B n t) P ns).2.2 : Nat) : Int) ∧ ∃ Q2, RTD G9 (nbT B n kd (twT B n t) P ns).2.1 Q2 ∧ xNs Q2 ≤ (nbT B n kd (twT B n t) P ns).2.2) → (RFr E G9) → (G9 125 7 = ((k + 1 : Nat) : Int)) → AT g κ K2 z 0 0 441 [(0, mR 125)] [] (ov G9)) : AT g κ K2 z 0 0 317 [(0, mR 125), (1, mI 7)] [] (ov G8) := by
  have hW40 := hP.W
  obtain ⟨b1, b2, b3, b4, b5, b6⟩ := id hB
  obtain ⟨f2, f3, f5, f6, f7, f8⟩ := fuW_no hfu
  refine at_aload_n 318 X rfl rfl dX12_clause_317 rfl ?_
  refine m_getR 321 X f_X12_20 k_125 r_125_11 dX12_clause_318 rfl ?_
  refine at_bipush 323 X (by decide) (by decide) dX12_clause_321 rfl ?_
  refine at_aload_n 324 X rfl rfl dX12_clause_323 rfl ?_
  refine at_iconst 325 X (by decide) dX12_clause_324 rfl ?_
  refine at_bipush 327 X (by decide) (by decide) dX12_clause_325 rfl ?_
  refine at_callV 330 X _ 12 (c12_nu hG G8 B n (twT B n t) hP_G8 1 24 (by omega) (by omega)) clX12 rfl k_125 mo_X12_number w_2010 vo_X12_number.1 vo_X12_number.2 rfl rfl (crm Rt (by decide)) (Nat.le_of_ble_eq_true rfl) dX12_clause_327 rfl ?_
  rintro _ _ ⟨rfl, F11, rfl, hP_F11, hf_F11⟩
  have hq_F11 : ∀ q, q ≠ 125 → F11 q = E q := fun q h0 => (hf_F11.1 q h0).trans (hq_G8 q h0)
  have := nuR_in (B := B) (n := n) (t := (twT B n t)) (lo := 1) (hi := 24) (by omega)
  refine m_iastoreV 331 X 7 (by omega) k_128 e_128 (by omega) dX12_clause_330 rfl ?_
  refine at_goto 404 X dX12_clause_331 (by decide) ?_
  refine at_iload_n 405 X rfl rfl dX12_clause_404 rfl ?_
  refine at_iconst 406 X (by decide) dX12_clause_405 rfl ?_
  refine at_icmp_eq 409 420 X dX12_clause_406 rfl (by decide) (fun h406 => ?_) (fun h406 => ?_)
  · exact absurd h406 (by decide)
  · refine at_iload_n 410 X rfl rfl dX12_clause_409 rfl ?_
    refine at_iconst 411 X (by decide) dX12_clause_410 rfl ?_
    refine at_icmp_le 414 441 X dX12_clause_411 rfl (by decide) (fun h411 => ?_) (fun h411 => ?_)
    · exact absurd h411 (by decide)
    · refine at_iload_n 415 X rfl rfl dX12_clause_414 rfl ?_
      refine at_bipush 417 X (by decide) (by decide) dX12_clause_415 rfl ?_
      refine at_icmp_ge 420 441 X dX12_clause_417 rfl (by decide) (fun h417 => ?_) (fun h417 => ?_)
      · exact at_sub _ (by exact ⟨rfl, trivial⟩) (J441 (wr F11 128 7 ((nuR B n (twT B n t) 1 24 : Nat) : Int)) (by rw [hkv, nbT_4]; show RTp _ B n _; exact (hP_F11.w (fun k hk => by simp (disch := omega) only [wr_o]) (by simp (disch := omega) only [wr_row]))) (fun q0 => by
          rw [hkv, nbT_4] at q0 ⊢
          have e1 := nuR_eq (show (nuT B n (twT B n t) 1 24).2.2.1 = 0 from q0)
          exact ⟨(((wr_o (by omega)).trans ((hf_F11.2 27 (by omega)).trans rfl))).trans ((hs8 27 (by omega)).trans hns), Q, by show RTD _ (setDk P (nuV B n (twT B n t) 1 24)) Q; rw [← e1]; exact (RTD_Dk hD8 hB).fr (fun q hq => (wr_cong ((hf_F11.1 q hq).trans rfl))), hxn⟩) (⟨fun q hq => by rw [(fun q hq => (wr_cong ((hf_F11.1 q hq).trans rfl)) : ∀ q, q ≠ 125 → (wr F11 128 7 ((nuR B n (twT B n t) 1 24 : Nat) : Int)) q = (wr G8 128 7 ((nuR B n (twT B n t) 1 24 : Nat) : Int)) q) q (by omega)]; simp (disch := omega) only [wr_row]; exact hq_G8 q (by omega), fun k hk => (((wr_o (by omega)).trans ((hf_F11.2 k (by omega)).trans rfl))).trans (hs8 k (by omega))⟩) ((((wr_o (by omega)).trans ((hf_F11.2 7 (by omega)).trans rfl))).trans hc8))
      · exact absurd h417 (by decide)
set_option maxHeartbeats 8000000 in
theorem X12cl_b8 {g : Gw} (hG : GF g) {z : Bool} {κ : Kp} {Post : Option MV → Mm → Prop} (X : CX g κ cX12_clause yX12_clause.cls 5) (Rt : RT g κ none 5 109 0 0 K2 z Post) (E : Mm) (B : Nat → Int) (n : Nat) (t : TS) (P : SP) (Q : RX) (hP : WS P) (hD : RTD E P Q) (ns : Nat) (k : Nat) (hB : RBd P Q) (hxn : xNs Q ≤ ns) (hn12 : ns ≤ 12) (hns : E 125 27 = ((ns : Nat) : Int)) (G8 : Mm) (htw : (twT B n t).1 ≤ n) (ht0 : (twT B n t).2.2.1 = 0) (hP_G8 : RTp G8 B n (twT B n t)) (hq_G8 : ∀ q, q ≠ 125 → G8 q = E q) (hs8 : ∀ j, ¬ (4 ≤ j ∧ j ≤ 7) → G8 125 j = E 125 j) (hc8 : G8 125 7 = ((k + 1 : Nat) : Int)) (hD8 : RTD G8 P Q) (kd : Int) (hfu : ¬ fuW P ns kd = true) (hkv : kd = 9) (J441 : ∀ (G9 : Mm), (RTp G9 B n (nbT B n kd (twT B n t) P ns).1) → ((nbT B n kd (twT B n t) P ns).1.2.2.1 = 0 → G9 125 27 = (((nbT B n kd (twT B n t) P ns).2.2 : Nat) : Int) ∧ ∃ Q2, RTD G9 (nbT B n kd (twT B n t) P ns).2.1 Q2 ∧ xNs Q2 ≤ (nbT B n kd (twT B n t) P ns).2.2) → (RFr E G9) → (G9 125 7 = ((k + 1 : Nat) : Int)) → AT g κ K2 z 0 0 441 [(0, mR 125)] [] (ov G9)) : AT g κ K2 z 0 0 334 [(0, mR 125), (1, mI 8)] [] (ov G8) := by
  have hW40 := hP.W
  obtain ⟨b1, b2, b3, b4, b5, b6⟩ := id hB
  obtain ⟨f2, f3, f5, f6, f7, f8⟩ := fuW_no hfu
  refine at_aload_n 335 X rfl rfl dX12_clause_334 rfl ?_
  refine at_iconst 336 X (by decide) dX12_clause_335 rfl ?_
  refine at_aload_n 337 X rfl rfl dX12_clause_336 rfl ?_
  refine m_getR 340 X f_X12_20 k_125 r_125_11 dX12_clause_337 rfl ?_
  refine at_bipush 342 X (by decide) (by decide) dX12_clause_340 rfl ?_
  refine m_ialoadV 343 X 6 (by omega) ((bN (sB P) : Nat) : Int) ((congrFun (hq_G8 128 (by omega)) 6).trans hD.1.2.2.2.2.2.2.1) k_128 e_128 (by omega) dX12_clause_342 rfl ?_
  refine at_iconst 344 X (by decide) dX12_clause_343 rfl ?_
  refine at_isubV 345 X (((bN (sB P) : Nat) : Int) - 1) (w32_v rfl (by omega) (by omega)) dX12_clause_344 rfl ?_
  refine at_callV 348 X _ 12 (c12_nu hG G8 B n (twT B n t) hP_G8 0 (((bN (sB P) : Nat) : Int) - 1) (by omega) (by omega)) clX12 rfl k_125 mo_X12_number w_2010 vo_X12_number.1 vo_X12_number.2 rfl rfl (crm Rt (by decide)) (Nat.le_of_ble_eq_true rfl) dX12_clause_345 rfl ?_
  rintro _ _ ⟨rfl, F11, rfl, hP_F11, hf_F11⟩
  have hq_F11 : ∀ q, q ≠ 125 → F11 q = E q := fun q h0 => (hf_F11.1 q h0).trans (hq_G8 q h0)
  have := nuR_in (B := B) (n := n) (t := (twT B n t)) (lo := 0) (hi := (((bN (sB P) : Nat) : Int) - 1)) (by omega)
  have hltd : nuT B n (twT B n t) 0 (((bN (sB P) : Nat) : Int) - 1) = loT B n (twT B n t) P := rfl
  rw [hltd] at hP_F11
  refine at_istore_n 349 X rfl dX12_clause_348 rfl (by decide) ?_
  refine at_aload_n 350 X rfl rfl dX12_clause_349 rfl ?_
  refine m_getIV 353 X ((loT B n (twT B n t) P).2.2.1) (rfk hP_F11) f_X12_168 k_125 rn_125_5 dX12_clause_350 rfl ?_
  refine at_if_eq 356 359 X dX12_clause_353 rfl (by decide) (fun h353 => ?_) (fun h353 => ?_)
  · have hl0 : (loT B n (twT B n t) P).2.2.1 = 0 := h353
    have hlr : nuR B n (twT B n t) 0 (((bN (sB P) : Nat) : Int) - 1) = loV B n (twT B n t) P := nuR_eq hl0
    have hlb := (nu_ok (show (nuT B n (twT B n t) 0 (((bN (sB P) : Nat) : Int) - 1)).2.2.1 = 0 from hl0)).2.1 (by decide)
    have hlb2 : ((loV B n (twT B n t) P : Nat) : Int) = ((nuV B n (twT B n t) 0 (((bN (sB P) : Nat) : Int) - 1) : Nat) : Int) := rfl
    have hlt : loV B n (twT B n t) P < bN (sB P) := by omega
    have hl20 := hP.B.L hlt
    rw [hlr]
    refine at_aload_n 360 X rfl rfl dX12_clause_359 rfl ?_
    refine at_iconst 361 X (by decide) dX12_clause_360 rfl ?_
    refine at_aload_n 362 X rfl rfl dX12_clause_361 rfl ?_
    refine m_getR 365 X f_X12_58 k_125 r_125_23 dX12_clause_362 rfl ?_
    refine at_iload_n 366 X rfl rfl dX12_clause_365 rfl ?_
    refine m_aaloadV 367 X (loV B n (twT B n t) P) (by omega) k_218 (by decide) (by omega) (rr_218 _ (by omega)) dX12_clause_366 rfl ?_
    refine at_iconst 368 X (by decide) dX12_clause_367 rfl ?_
    refine m_ialoadV 369 X 1 (by omega) ((bL (sB P) (loV B n (twT B n t) P) : Nat) : Int) ((congrFun (hq_F11 (219 + (loV B n (twT B n t) P)) (by omega)) 1).trans (hD.2.2.2.2.2.2 (loV B n (twT B n t) P) (by omega)).2.1) (kr_218 _ (by omega)) (er_218 _ (by omega)) (by omega) dX12_clause_368 rfl ?_
    refine at_iconst 370 X (by decide) dX12_clause_369 rfl ?_
    refine at_isubV 371 X (((bL (sB P) (loV B n (twT B n t) P) : Nat) : Int) - 1) (w32_v rfl (by omega) (by omega)) dX12_clause_370 rfl ?_
    refine at_callV 374 X _ 12 (c12_nu hG F11 B n (loT B n (twT B n t) P) hP_F11 0 (((bL (sB P) (loV B n (twT B n t) P) : Nat) : Int) - 1) (by omega) (by omega)) clX12 rfl k_125 mo_X12_number w_2010 vo_X12_number.1 vo_X12_number.2 rfl rfl (crm Rt (by decide)) (Nat.le_of_ble_eq_true rfl) dX12_clause_371 rfl ?_
    rintro _ _ ⟨rfl, F12, rfl, hP_F12, hf_F12⟩
    have hq_F12 : ∀ q, q ≠ 125 → F12 q = E q := fun q h0 => (hf_F12.1 q h0).trans (hq_F11 q h0)
    have := nuR_in (B := B) (n := n) (t := (loT B n (twT B n t) P)) (lo := 0) (hi := (((bL (sB P) (loV B n (twT B n t) P) : Nat) : Int) - 1)) (by omega)
    refine at_istore_n 375 X rfl dX12_clause_374 rfl (by decide) ?_
    refine at_aload_n 376 X rfl rfl dX12_clause_375 rfl ?_
    refine at_iconst 377 X (by decide) dX12_clause_376 rfl ?_
    refine at_bipush 379 X (by decide) (by decide) dX12_clause_377 rfl ?_
    refine at_callV 382 X _ 12 (c12_nu hG F12 B n (nuT B n (loT B n (twT B n t) P) 0 (((bL (sB P) (loV B n (twT B n t) P) : Nat) : Int) - 1)) hP_F12 0 99 (by omega) (by omega)) clX12 rfl k_125 mo_X12_number w_2010 vo_X12_number.1 vo_X12_number.2 rfl rfl (crm Rt (by decide)) (Nat.le_of_ble_eq_true rfl) dX12_clause_379 rfl ?_
    rintro _ _ ⟨rfl, F13, rfl, hP_F13, hf_F13⟩
    have hq_F13 : ∀ q, q ≠ 125 → F13 q = E q := fun q h0 => (hf_F13.1 q h0).trans (hq_F12 q h0)
    have := nuR_in (B := B) (n := n) (t := (nuT B n (loT B n (twT B n t) P) 0 (((bL (sB P) (loV B n (twT B n t) P) : Nat) : Int) - 1))) (lo := 0) (hi := 99) (by omega)
    refine at_istore 384 X dX12_clause_382 rfl (by decide) ?_
    refine at_aload_n 385 X rfl rfl dX12_clause_384 rfl ?_
    refine m_getIV 388 X ((nuT B n (nuT B n (loT B n (twT B n t) P) 0 (((bL (sB P) (loV B n (twT B n t) P) : Nat) : Int) - 1)) 0 99).2.2.1) (rfk hP_F13) f_X12_168 k_125 rn_125_5 dX12_clause_385 rfl ?_
    refine at_if_ne 391 404 X dX12_clause_388 rfl (by decide) (fun h388 => ?_) (fun h388 => ?_)
    · have hlf : ¬ (nuT B n (nuT B n (loT B n (twT B n t) P) 0 (((bL (sB P) (loV B n (twT B n t) P) : Nat) : Int) - 1)) 0 99).2.2.1 = 0 := h388
      refine at_iload_n 405 X rfl rfl dX12_clause_404 rfl ?_
      refine at_iconst 406 X (by decide) dX12_clause_405 rfl ?_
      refine at_icmp_eq 409 420 X dX12_clause_406 rfl (by decide) (fun h406 => ?_) (fun h406 => ?_)
      · exact absurd h406 (by decide)
      · refine at_iload_n 410 X rfl rfl dX12_clause_409 rfl ?_
        refine at_iconst 411 X (by decide) dX12_clause_410 rfl ?_
        refine at_icmp_le 414 441 X dX12_clause_411 rfl (by decide) (fun h411 => ?_) (fun h411 => ?_)
        · exact absurd h411 (by decide)
        · refine at_iload_n 415 X rfl rfl dX12_clause_414 rfl ?_
          refine at_bipush 417 X (by decide) (by decide) dX12_clause_415 rfl ?_
          refine at_icmp_ge 420 441 X dX12_clause_417 rfl (by decide) (fun h417 => ?_) (fun h417 => ?_)
          · exact at_sub _ (by exact ⟨rfl, trivial⟩) (J441 F13 (by rw [hkv, nbT_9 (by omega)]; show RTp _ B n (loC B n (twT B n t) P).1; first | (rw [lo_eq hl0]; exact hP_F13) | (rw [lo_eq1 hl0]; exact hP_F13)) (fun q0 => by
              rw [hkv, nbT_9 (by omega)] at q0 ⊢
              have q0 : (loC B n (twT B n t) P).1.2.2.1 = 0 := q0
              first
              | (rw [lo_eq hl0] at q0; exact absurd q0 hl0)
              | (rw [lo_eq1 hl0] at q0; exact absurd q0 hlf)) (⟨fun q hq => by rw [(fun q hq => ((hf_F13.1 q hq).trans ((hf_F12.1 q hq).trans ((hf_F11.1 q hq).trans rfl))) : ∀ q, q ≠ 125 → F13 q = (G8) q) q (by omega)]; exact hq_G8 q (by omega), fun k hk => (((hf_F13.2 k (by omega)).trans ((hf_F12.2 k (by omega)).trans ((hf_F11.2 k (by omega)).trans rfl)))).trans (hs8 k (by omega))⟩) ((((hf_F13.2 7 (by omega)).trans ((hf_F12.2 7 (by omega)).trans ((hf_F11.2 7 (by omega)).trans rfl)))).trans hc8))
          · exact absurd h417 (by decide)
    · have hlf : (nuT B n (nuT B n (loT B n (twT B n t) P) 0 (((bL (sB P) (loV B n (twT B n t) P) : Nat) : Int) - 1)) 0 99).2.2.1 = 0 := by first | exact h388 | exact Decidable.byContradiction h388
      refine at_aload_n 392 X rfl rfl dX12_clause_391 rfl ?_
      refine m_getR 395 X f_X12_64 k_125 r_125_25 dX12_clause_392 rfl ?_
      refine at_iload_n 396 X rfl rfl dX12_clause_395 rfl ?_
      refine m_aaloadV 397 X (loV B n (twT B n t) P) (by omega) k_236 (by decide) (by omega) (rr_236 _ (by omega)) dX12_clause_396 rfl ?_
      refine at_iload_n 398 X rfl rfl dX12_clause_397 rfl ?_
      refine at_iload 400 X rfl dX12_clause_398 rfl ?_
      refine m_iastoreV 401 X (nuR B n (loT B n (twT B n t) P) 0 (((bL (sB P) (loV B n (twT B n t) P) : Nat) : Int) - 1)) (by omega) (kr_236 _ (by omega)) (er_236 _ (by omega)) (by omega) dX12_clause_400 rfl ?_
      refine at_goto 404 X dX12_clause_401 (by decide) ?_
      refine at_iload_n 405 X rfl rfl dX12_clause_404 rfl ?_
      refine at_iconst 406 X (by decide) dX12_clause_405 rfl ?_
      refine at_icmp_eq 409 420 X dX12_clause_406 rfl (by decide) (fun h406 => ?_) (fun h406 => ?_)
      · exact absurd h406 (by decide)
      · refine at_iload_n 410 X rfl rfl dX12_clause_409 rfl ?_
        refine at_iconst 411 X (by decide) dX12_clause_410 rfl ?_
        refine at_icmp_le 414 441 X dX12_clause_411 rfl (by decide) (fun h411 => ?_) (fun h411 => ?_)
        · exact absurd h411 (by decide)
        · refine at_iload_n 415 X rfl rfl dX12_clause_414 rfl ?_
          refine at_bipush 417 X (by decide) (by decide) dX12_clause_415 rfl ?_
          refine at_icmp_ge 420 441 X dX12_clause_417 rfl (by decide) (fun h417 => ?_) (fun h417 => ?_)
          · exact at_sub _ (by exact ⟨rfl, trivial⟩) (J441 (wr F13 (237 + (loV B n (twT B n t) P)) (nuR B n (loT B n (twT B n t) P) 0 (((bL (sB P) (loV B n (twT B n t) P) : Nat) : Int) - 1)) ((nuR B n (nuT B n (loT B n (twT B n t) P) 0 (((bL (sB P) (loV B n (twT B n t) P) : Nat) : Int) - 1)) 0 99 : Nat) : Int)) (by rw [hkv, nbT_9 (by omega)]; show RTp _ B n (loC B n (twT B n t) P).1; first | (rw [lo_eq hl0]; exact (hP_F13.w (fun k hk => by simp (disch := omega) only [wr_o]) (by simp (disch := omega) only [wr_row]))) | (rw [lo_eq1 hl0]; exact (hP_F13.w (fun k hk => by simp (disch := omega) only [wr_o]) (by simp (disch := omega) only [wr_row])))) (fun q0 => by
              rw [hkv, nbT_9 (by omega)] at q0 ⊢
              have q0 : (loC B n (twT B n t) P).1.2.2.1 = 0 := q0
              have q2 := nu_ok hlf
              have e2 := nuR_eq q2.1
              have e3 := nuR_eq hlf
              exact ⟨(((wr_o (by omega)).trans ((hf_F13.2 27 (by omega)).trans ((hf_F12.2 27 (by omega)).trans ((hf_F11.2 27 (by omega)).trans rfl))))).trans ((hs8 27 (by omega)).trans hns), Q, by show RTD _ (loC B n (twT B n t) P).2 Q; rw [lo_eq1 hl0, ← e2, ← e3]; exact (RTD_Lo hD8 hB (by omega)).fr (fun q hq => (wr_cong ((hf_F13.1 q hq).trans ((hf_F12.1 q hq).trans ((hf_F11.1 q hq).trans rfl))))), hxn⟩) (⟨fun q hq => by rw [(fun q hq => (wr_cong ((hf_F13.1 q hq).trans ((hf_F12.1 q hq).trans ((hf_F11.1 q hq).trans rfl)))) : ∀ q, q ≠ 125 → (wr F13 (237 + (loV B n (twT B n t) P)) (nuR B n (loT B n (twT B n t) P) 0 (((bL (sB P) (loV B n (twT B n t) P) : Nat) : Int) - 1)) ((nuR B n (nuT B n (loT B n (twT B n t) P) 0 (((bL (sB P) (loV B n (twT B n t) P) : Nat) : Int) - 1)) 0 99 : Nat) : Int)) q = (wr G8 (237 + (loV B n (twT B n t) P)) (nuR B n (loT B n (twT B n t) P) 0 (((bL (sB P) (loV B n (twT B n t) P) : Nat) : Int) - 1)) ((nuR B n (nuT B n (loT B n (twT B n t) P) 0 (((bL (sB P) (loV B n (twT B n t) P) : Nat) : Int) - 1)) 0 99 : Nat) : Int)) q) q (by omega)]; simp (disch := omega) only [wr_row]; exact hq_G8 q (by omega), fun k hk => (((wr_o (by omega)).trans ((hf_F13.2 k (by omega)).trans ((hf_F12.2 k (by omega)).trans ((hf_F11.2 k (by omega)).trans rfl))))).trans (hs8 k (by omega))⟩) ((((wr_o (by omega)).trans ((hf_F13.2 7 (by omega)).trans ((hf_F12.2 7 (by omega)).trans ((hf_F11.2 7 (by omega)).trans rfl))))).trans hc8))
          · exact absurd h417 (by decide)
  · have hl0 : ¬ (loT B n (twT B n t) P).2.2.1 = 0 := h353
    refine at_goto 404 X dX12_clause_356 (by decide) ?_
    refine at_iload_n 405 X rfl rfl dX12_clause_404 rfl ?_
    refine at_iconst 406 X (by decide) dX12_clause_405 rfl ?_
    refine at_icmp_eq 409 420 X dX12_clause_406 rfl (by decide) (fun h406 => ?_) (fun h406 => ?_)
    · exact absurd h406 (by decide)
    · refine at_iload_n 410 X rfl rfl dX12_clause_409 rfl ?_
      refine at_iconst 411 X (by decide) dX12_clause_410 rfl ?_
      refine at_icmp_le 414 441 X dX12_clause_411 rfl (by decide) (fun h411 => ?_) (fun h411 => ?_)
      · exact absurd h411 (by decide)
      · refine at_iload_n 415 X rfl rfl dX12_clause_414 rfl ?_
        refine at_bipush 417 X (by decide) (by decide) dX12_clause_415 rfl ?_
        refine at_icmp_ge 420 441 X dX12_clause_417 rfl (by decide) (fun h417 => ?_) (fun h417 => ?_)
        · exact at_sub _ (by exact ⟨rfl, trivial⟩) (J441 F11 (by rw [hkv, nbT_9 (by omega)]; show RTp _ B n (loC B n (twT B n t) P).1; first | (rw [lo_eq hl0]; exact hP_F11) | (rw [lo_eq1 hl0]; exact hP_F11)) (fun q0 => by
            rw [hkv, nbT_9 (by omega)] at q0 ⊢
            have q0 : (loC B n (twT B n t) P).1.2.2.1 = 0 := q0
            first
            | (rw [lo_eq hl0] at q0; exact absurd q0 hl0)
            | (rw [lo_eq1 hl0] at q0; exact absurd q0 hlf)) (⟨fun q hq => by rw [(fun q hq => ((hf_F11.1 q hq).trans rfl) : ∀ q, q ≠ 125 → F11 q = (G8) q) q (by omega)]; exact hq_G8 q (by omega), fun k hk => (((hf_F11.2 k (by omega)).trans rfl)).trans (hs8 k (by omega))⟩) ((((hf_F11.2 7 (by omega)).trans rfl)).trans hc8))
        · exact absurd h417 (by decide)
