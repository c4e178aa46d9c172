/-- the reference's fields, as its constructor has written them -/
def lM : List (Nat × Int) := [(65, 812), (64, 811), (61, 785), (59, 784), (58, 783), (57, 782), (56, 757), (55, 732), (51, 707), (50, 682), (49, 657), (42, 653), (41, 632), (40, 623), (39, 614), (38, 597), (37, 580), (36, 579), (35, 578), (34, 577), (33, 576), (32, 415), (31, 254), (30, 1), (26, 245), (25, 236), (24, 227), (23, 218), (22, 208), (21, 201), (20, 194), (19, 187), (18, 183), (17, 179), (16, 166), (15, 153), (14, 141), (13, 130), (12, 129), (11, 128), (10, 127), (9, 126), (3, -1)]
/-- all cells at the constructor's first call -/
def eM : Mm := fun q j => if q = 125 then lk lM (fz (19, 0)) j else if q < 125 then EI q j else 0
def T0 : Nat → Nat := fun k => if k = 0 then 20 else if k = 7 then 24 else 0
theorem standsE_T0 {E : Mm} {q j : Nat} (h1 : q ≠ 125) (h2 : q ≠ 129) : standsE E T0 q j = E q j := by
  unfold standsE
  simp only [show T0 1 = 0 from rfl, show T0 2 = 0 from rfl, show T0 3 = 0 from rfl, show T0 4 = 0 from rfl, show T0 5 = 0 from rfl, show T0 6 = 0 from rfl, cpR_zero]
  simp (disch := omega) only [wr_o, cp1_o]
theorem tellsN_o {E : Mm} {q j : Nat} (h1 : q ≠ 128) : tellsN E q j = E q j := by
  unfold tellsN fil wr
  simp [h1]
theorem ov_two {E F : Mm} {q j : Nat} (h : rtv q j = none → E q j = F q j) : ov E q j = ov F q j := by
  cases c : rtv q j with
  | none => rw [ov_n c, ov_n c]; exact h c
  | some b => rw [ov_s c, ov_s c]
theorem eM_agr {D : Mm} (hD0 : ∀ q j, q < 125 → D q j = ov EI q j) : Agr (KT 813) (ob (ov fun _ _ => 0) 125 (fz (19, 0)) lM D) (ov eM) := by
  intro q kq hq j hj
  obtain ⟨h1, h2⟩ := KT_lt hq
  rcases Nat.lt_trichotomy q 125 with c | c | c
  · rw [ob_lt c, hD0 q j c]
    exact ov_two fun _ => by unfold eM; rw [if_neg (by omega), if_pos c]
  · subst c
    rw [k_125] at h2
    cases h2
    rw [ob_at]
    exact (by decide +kernel : ∀ j, j < slen (19, 0) → lk lM (fz (19, 0)) j = ov eM 125 j) j hj
  · rw [ob_gt c]
    exact ov_two fun _ => by unfold eM; rw [if_neg (by omega), if_neg (by omega)]
theorem eM_end {D : Mm} (hD0 : ∀ q j, q < 125 → D q j = ov EI q j) : Agr (KT 813) (ov (standsE (tellsN eM) T0)) (mg 125 (ov EI) D) := by
  intro q kq hq j hj
  obtain ⟨h1, h2⟩ := KT_lt hq
  unfold mg
  by_cases c : q < 125
  · rw [if_pos c, hD0 q j c]
    exact ov_two fun _ => by rw [standsE_T0 (by omega) (by omega), tellsN_o (by omega)]; unfold eM; rw [if_neg (by omega), if_pos c]
  · rw [if_neg c]
    by_cases c1 : q = 125
    · subst c1
      rw [k_125] at h2
      cases h2
      exact (by decide +kernel : ∀ j, j < slen (19, 0) → ov (standsE (tellsN eM) T0) 125 j = ov EI 125 j) j hj
    by_cases c2 : q = 128
    · subst c2
      rw [k_128] at h2
      cases h2
      exact (by decide +kernel : ∀ j, j < slen (0, 8) → ov (standsE (tellsN eM) T0) 128 j = ov EI 128 j) j hj
    by_cases c3 : q = 129
    · subst c3
      rw [k_129] at h2
      cases h2
      exact (by decide +kernel : ∀ j, j < slen (0, 8) → ov (standsE (tellsN eM) T0) 129 j = ov EI 129 j) j hj
    refine ov_two fun _ => ?_
    rw [standsE_T0 c1 c3, tellsN_o c2, EI0 ?_]
    · unfold eM; rw [if_neg c1, if_neg c]
    · unfold eiT
      simp only [List.lookup]
      have e : ∀ n : Nat, n ≤ 125 ∨ n = 128 ∨ n = 129 → (q == n) = false := fun n hn => beq_false_of_ne (by omega)
      simp only [e 0 (by decide), e 1 (by decide), e 4 (by decide), e 5 (by decide), e 6 (by decide), e 8 (by decide), e 9 (by decide), e 10 (by decide), e 30 (by decide), e 39 (by decide), e 68 (by decide), e 71 (by decide), e 83 (by decide), e 86 (by decide), e 125 (by decide), e 128 (by decide), e 129 (by decide)]
theorem dX12_init_0 : decode cX12_init 0 = .ok (.aload_n 0, 1) := by decide +kernel
theorem dX12_init_1 : decode cX12_init 1 = .ok (.invokespecial 1, 3) := by decide +kernel
theorem dX12_init_4 : decode cX12_init 4 = .ok (.aload_n 0, 1) := by decide +kernel
theorem dX12_init_5 : decode cX12_init 5 = .ok (.iconst (-1), 1) := by decide +kernel
theorem dX12_init_6 : decode cX12_init 6 = .ok (.putfield 9, 3) := by decide +kernel
theorem dX12_init_9 : decode cX12_init 9 = .ok (.aload_n 0, 1) := by decide +kernel
theorem dX12_init_10 : decode cX12_init 10 = .ok (.sipush 600, 3) := by decide +kernel
theorem dX12_init_13 : decode cX12_init 13 = .ok (.newarray .int, 2) := by decide +kernel
theorem dX12_init_15 : decode cX12_init 15 = .ok (.putfield 13, 3) := by decide +kernel
theorem dX12_init_18 : decode cX12_init 18 = .ok (.aload_n 0, 1) := by decide +kernel
theorem dX12_init_19 : decode cX12_init 19 = .ok (.iconst 3, 1) := by decide +kernel
theorem dX12_init_20 : decode cX12_init 20 = .ok (.newarray .int, 2) := by decide +kernel
theorem dX12_init_22 : decode cX12_init 22 = .ok (.putfield 17, 3) := by decide +kernel
theorem dX12_init_25 : decode cX12_init 25 = .ok (.aload_n 0, 1) := by decide +kernel
theorem dX12_init_26 : decode cX12_init 26 = .ok (.bipush 8, 2) := by decide +kernel
theorem dX12_init_28 : decode cX12_init 28 = .ok (.newarray .int, 2) := by decide +kernel
theorem dX12_init_30 : decode cX12_init 30 = .ok (.putfield 20, 3) := by decide +kernel
theorem dX12_init_33 : decode cX12_init 33 = .ok (.aload_n 0, 1) := by decide +kernel
theorem dX12_init_34 : decode cX12_init 34 = .ok (.bipush 8, 2) := by decide +kernel
theorem dX12_init_36 : decode cX12_init 36 = .ok (.newarray .int, 2) := by decide +kernel
theorem dX12_init_38 : decode cX12_init 38 = .ok (.putfield 23, 3) := by decide +kernel
theorem dX12_init_41 : decode cX12_init 41 = .ok (.aload_n 0, 1) := by decide +kernel
theorem dX12_init_42 : decode cX12_init 42 = .ok (.bipush 10, 2) := by decide +kernel
theorem dX12_init_44 : decode cX12_init 44 = .ok (.iconst 2, 1) := by decide +kernel
theorem dX12_init_45 : decode cX12_init 45 = .ok (.multianewarray 26 2, 4) := by decide +kernel
theorem dX12_init_49 : decode cX12_init 49 = .ok (.putfield 28, 3) := by decide +kernel
theorem dX12_init_52 : decode cX12_init 52 = .ok (.aload_n 0, 1) := by decide +kernel
theorem dX12_init_53 : decode cX12_init 53 = .ok (.bipush 11, 2) := by decide +kernel
theorem dX12_init_55 : decode cX12_init 55 = .ok (.iconst 2, 1) := by decide +kernel
theorem dX12_init_56 : decode cX12_init 56 = .ok (.multianewarray 26 2, 4) := by decide +kernel
theorem dX12_init_60 : decode cX12_init 60 = .ok (.putfield 31, 3) := by decide +kernel
theorem dX12_init_63 : decode cX12_init 63 = .ok (.aload_n 0, 1) := by decide +kernel
theorem dX12_init_64 : decode cX12_init 64 = .ok (.bipush 12, 2) := by decide +kernel
theorem dX12_init_66 : decode cX12_init 66 = .ok (.iconst 3, 1) := by decide +kernel
theorem dX12_init_67 : decode cX12_init 67 = .ok (.multianewarray 26 2, 4) := by decide +kernel
theorem dX12_init_71 : decode cX12_init 71 = .ok (.putfield 34, 3) := by decide +kernel
theorem dX12_init_74 : decode cX12_init 74 = .ok (.aload_n 0, 1) := by decide +kernel
theorem dX12_init_75 : decode cX12_init 75 = .ok (.bipush 12, 2) := by decide +kernel
theorem dX12_init_77 : decode cX12_init 77 = .ok (.iconst 3, 1) := by decide +kernel
theorem dX12_init_78 : decode cX12_init 78 = .ok (.multianewarray 26 2, 4) := by decide +kernel
theorem dX12_init_82 : decode cX12_init 82 = .ok (.putfield 37, 3) := by decide +kernel
theorem dX12_init_85 : decode cX12_init 85 = .ok (.aload_n 0, 1) := by decide +kernel
theorem dX12_init_86 : decode cX12_init 86 = .ok (.iconst 3, 1) := by decide +kernel
theorem dX12_init_87 : decode cX12_init 87 = .ok (.iconst 3, 1) := by decide +kernel
theorem dX12_init_88 : decode cX12_init 88 = .ok (.multianewarray 26 2, 4) := by decide +kernel
theorem dX12_init_92 : decode cX12_init 92 = .ok (.putfield 40, 3) := by decide +kernel
theorem dX12_init_95 : decode cX12_init 95 = .ok (.aload_n 0, 1) := by decide +kernel
theorem dX12_init_96 : decode cX12_init 96 = .ok (.iconst 3, 1) := by decide +kernel
theorem dX12_init_97 : decode cX12_init 97 = .ok (.iconst 3, 1) := by decide +kernel
theorem dX12_init_98 : decode cX12_init 98 = .ok (.multianewarray 26 2, 4) := by decide +kernel
theorem dX12_init_102 : decode cX12_init 102 = .ok (.putfield 43, 3) := by decide +kernel
theorem dX12_init_105 : decode cX12_init 105 = .ok (.aload_n 0, 1) := by decide +kernel
theorem dX12_init_106 : decode cX12_init 106 = .ok (.bipush 6, 2) := by decide +kernel
theorem dX12_init_108 : decode cX12_init 108 = .ok (.iconst 2, 1) := by decide +kernel
theorem dX12_init_109 : decode cX12_init 109 = .ok (.multianewarray 26 2, 4) := by decide +kernel
theorem dX12_init_113 : decode cX12_init 113 = .ok (.putfield 46, 3) := by decide +kernel
theorem dX12_init_116 : decode cX12_init 116 = .ok (.aload_n 0, 1) := by decide +kernel
theorem dX12_init_117 : decode cX12_init 117 = .ok (.bipush 6, 2) := by decide +kernel
theorem dX12_init_119 : decode cX12_init 119 = .ok (.iconst 2, 1) := by decide +kernel
theorem dX12_init_120 : decode cX12_init 120 = .ok (.multianewarray 26 2, 4) := by decide +kernel
theorem dX12_init_124 : decode cX12_init 124 = .ok (.putfield 49, 3) := by decide +kernel
theorem dX12_init_127 : decode cX12_init 127 = .ok (.aload_n 0, 1) := by decide +kernel
theorem dX12_init_128 : decode cX12_init 128 = .ok (.bipush 6, 2) := by decide +kernel
theorem dX12_init_130 : decode cX12_init 130 = .ok (.iconst 2, 1) := by decide +kernel
theorem dX12_init_131 : decode cX12_init 131 = .ok (.multianewarray 26 2, 4) := by decide +kernel
theorem dX12_init_135 : decode cX12_init 135 = .ok (.putfield 52, 3) := by decide +kernel
theorem dX12_init_138 : decode cX12_init 138 = .ok (.aload_n 0, 1) := by decide +kernel
theorem dX12_init_139 : decode cX12_init 139 = .ok (.bipush 9, 2) := by decide +kernel
theorem dX12_init_141 : decode cX12_init 141 = .ok (.iconst 2, 1) := by decide +kernel
theorem dX12_init_142 : decode cX12_init 142 = .ok (.multianewarray 26 2, 4) := by decide +kernel
theorem dX12_init_146 : decode cX12_init 146 = .ok (.putfield 55, 3) := by decide +kernel
theorem dX12_init_149 : decode cX12_init 149 = .ok (.aload_n 0, 1) := by decide +kernel
theorem dX12_init_150 : decode cX12_init 150 = .ok (.bipush 8, 2) := by decide +kernel
theorem dX12_init_152 : decode cX12_init 152 = .ok (.iconst 3, 1) := by decide +kernel
theorem dX12_init_153 : decode cX12_init 153 = .ok (.multianewarray 26 2, 4) := by decide +kernel
theorem dX12_init_157 : decode cX12_init 157 = .ok (.putfield 58, 3) := by decide +kernel
theorem dX12_init_160 : decode cX12_init 160 = .ok (.aload_n 0, 1) := by decide +kernel
theorem dX12_init_161 : decode cX12_init 161 = .ok (.bipush 8, 2) := by decide +kernel
theorem dX12_init_163 : decode cX12_init 163 = .ok (.iconst 3, 1) := by decide +kernel
theorem dX12_init_164 : decode cX12_init 164 = .ok (.multianewarray 26 2, 4) := by decide +kernel
theorem dX12_init_168 : decode cX12_init 168 = .ok (.putfield 61, 3) := by decide +kernel
theorem dX12_init_171 : decode cX12_init 171 = .ok (.aload_n 0, 1) := by decide +kernel
theorem dX12_init_172 : decode cX12_init 172 = .ok (.bipush 8, 2) := by decide +kernel
theorem dX12_init_174 : decode cX12_init 174 = .ok (.bipush 20, 2) := by decide +kernel
theorem dX12_init_176 : decode cX12_init 176 = .ok (.multianewarray 26 2, 4) := by decide +kernel
theorem dX12_init_180 : decode cX12_init 180 = .ok (.putfield 64, 3) := by decide +kernel
theorem dX12_init_183 : decode cX12_init 183 = .ok (.aload_n 0, 1) := by decide +kernel
theorem dX12_init_184 : decode cX12_init 184 = .ok (.bipush 8, 2) := by decide +kernel
theorem dX12_init_186 : decode cX12_init 186 = .ok (.bipush 20, 2) := by decide +kernel
theorem dX12_init_188 : decode cX12_init 188 = .ok (.multianewarray 26 2, 4) := by decide +kernel
theorem dX12_init_192 : decode cX12_init 192 = .ok (.putfield 67, 3) := by decide +kernel
theorem dX12_init_195 : decode cX12_init 195 = .ok (.aload_n 0, 1) := by decide +kernel
theorem dX12_init_196 : decode cX12_init 196 = .ok (.iconst 1, 1) := by decide +kernel
theorem dX12_init_197 : decode cX12_init 197 = .ok (.putfield 70, 3) := by decide +kernel
theorem dX12_init_200 : decode cX12_init 200 = .ok (.aload_n 0, 1) := by decide +kernel
theorem dX12_init_201 : decode cX12_init 201 = .ok (.sipush 160, 3) := by decide +kernel
theorem dX12_init_204 : decode cX12_init 204 = .ok (.iconst 2, 1) := by decide +kernel
theorem dX12_init_205 : decode cX12_init 205 = .ok (.multianewarray 26 2, 4) := by decide +kernel
theorem dX12_init_209 : decode cX12_init 209 = .ok (.putfield 73, 3) := by decide +kernel
theorem dX12_init_212 : decode cX12_init 212 = .ok (.aload_n 0, 1) := by decide +kernel
theorem dX12_init_213 : decode cX12_init 213 = .ok (.sipush 160, 3) := by decide +kernel
theorem dX12_init_216 : decode cX12_init 216 = .ok (.iconst 2, 1) := by decide +kernel
theorem dX12_init_217 : decode cX12_init 217 = .ok (.multianewarray 26 2, 4) := by decide +kernel
theorem dX12_init_221 : decode cX12_init 221 = .ok (.putfield 76, 3) := by decide +kernel
theorem dX12_init_224 : decode cX12_init 224 = .ok (.aload_n 0, 1) := by decide +kernel
theorem dX12_init_225 : decode cX12_init 225 = .ok (.sipush 160, 3) := by decide +kernel
theorem dX12_init_228 : decode cX12_init 228 = .ok (.newarray .int, 2) := by decide +kernel
theorem dX12_init_230 : decode cX12_init 230 = .ok (.putfield 79, 3) := by decide +kernel
theorem dX12_init_233 : decode cX12_init 233 = .ok (.aload_n 0, 1) := by decide +kernel
theorem dX12_init_234 : decode cX12_init 234 = .ok (.iconst 4, 1) := by decide +kernel
theorem dX12_init_235 : decode cX12_init 235 = .ok (.newarray .int, 2) := by decide +kernel
theorem dX12_init_237 : decode cX12_init 237 = .ok (.putfield 82, 3) := by decide +kernel
theorem dX12_init_240 : decode cX12_init 240 = .ok (.aload_n 0, 1) := by decide +kernel
theorem dX12_init_241 : decode cX12_init 241 = .ok (.ldc 85, 2) := by decide +kernel
theorem dX12_init_243 : decode cX12_init 243 = .ok (.newarray .int, 2) := by decide +kernel
theorem dX12_init_245 : decode cX12_init 245 = .ok (.putfield 86, 3) := by decide +kernel
theorem dX12_init_248 : decode cX12_init 248 = .ok (.aload_n 0, 1) := by decide +kernel
theorem dX12_init_249 : decode cX12_init 249 = .ok (.ldc 85, 2) := by decide +kernel
theorem dX12_init_251 : decode cX12_init 251 = .ok (.newarray .int, 2) := by decide +kernel
theorem dX12_init_253 : decode cX12_init 253 = .ok (.putfield 89, 3) := by decide +kernel
theorem dX12_init_256 : decode cX12_init 256 = .ok (.aload_n 0, 1) := by decide +kernel
theorem dX12_init_257 : decode cX12_init 257 = .ok (.bipush 16, 2) := by decide +kernel
theorem dX12_init_259 : decode cX12_init 259 = .ok (.iconst 3, 1) := by decide +kernel
theorem dX12_init_260 : decode cX12_init 260 = .ok (.multianewarray 26 2, 4) := by decide +kernel
theorem dX12_init_264 : decode cX12_init 264 = .ok (.putfield 92, 3) := by decide +kernel
theorem dX12_init_267 : decode cX12_init 267 = .ok (.aload_n 0, 1) := by decide +kernel
theorem dX12_init_268 : decode cX12_init 268 = .ok (.bipush 16, 2) := by decide +kernel
theorem dX12_init_270 : decode cX12_init 270 = .ok (.iconst 3, 1) := by decide +kernel
theorem dX12_init_271 : decode cX12_init 271 = .ok (.multianewarray 26 2, 4) := by decide +kernel
theorem dX12_init_275 : decode cX12_init 275 = .ok (.putfield 95, 3) := by decide +kernel
theorem dX12_init_278 : decode cX12_init 278 = .ok (.aload_n 0, 1) := by decide +kernel
theorem dX12_init_279 : decode cX12_init 279 = .ok (.bipush 8, 2) := by decide +kernel
theorem dX12_init_281 : decode cX12_init 281 = .ok (.iconst 2, 1) := by decide +kernel
theorem dX12_init_282 : decode cX12_init 282 = .ok (.multianewarray 26 2, 4) := by decide +kernel
theorem dX12_init_286 : decode cX12_init 286 = .ok (.putfield 98, 3) := by decide +kernel
theorem dX12_init_289 : decode cX12_init 289 = .ok (.aload_n 0, 1) := by decide +kernel
theorem dX12_init_290 : decode cX12_init 290 = .ok (.bipush 8, 2) := by decide +kernel
theorem dX12_init_292 : decode cX12_init 292 = .ok (.iconst 2, 1) := by decide +kernel
theorem dX12_init_293 : decode cX12_init 293 = .ok (.multianewarray 26 2, 4) := by decide +kernel
theorem dX12_init_297 : decode cX12_init 297 = .ok (.putfield 101, 3) := by decide +kernel
theorem dX12_init_300 : decode cX12_init 300 = .ok (.aload_n 0, 1) := by decide +kernel
theorem dX12_init_301 : decode cX12_init 301 = .ok (.bipush 20, 2) := by decide +kernel
theorem dX12_init_303 : decode cX12_init 303 = .ok (.sipush 178, 3) := by decide +kernel
theorem dX12_init_306 : decode cX12_init 306 = .ok (.multianewarray 26 2, 4) := by decide +kernel
theorem dX12_init_310 : decode cX12_init 310 = .ok (.putfield 104, 3) := by decide +kernel
theorem dX12_init_313 : decode cX12_init 313 = .ok (.aload_n 0, 1) := by decide +kernel
theorem dX12_init_314 : decode cX12_init 314 = .ok (.iconst 3, 1) := by decide +kernel
theorem dX12_init_315 : decode cX12_init 315 = .ok (.sipush 3740, 3) := by decide +kernel
theorem dX12_init_318 : decode cX12_init 318 = .ok (.multianewarray 26 2, 4) := by decide +kernel
theorem dX12_init_322 : decode cX12_init 322 = .ok (.putfield 107, 3) := by decide +kernel
theorem dX12_init_325 : decode cX12_init 325 = .ok (.aload_n 0, 1) := by decide +kernel
theorem dX12_init_326 : decode cX12_init 326 = .ok (.bipush 24, 2) := by decide +kernel
theorem dX12_init_328 : decode cX12_init 328 = .ok (.bipush 40, 2) := by decide +kernel
theorem dX12_init_330 : decode cX12_init 330 = .ok (.multianewarray 26 2, 4) := by decide +kernel
theorem dX12_init_334 : decode cX12_init 334 = .ok (.putfield 110, 3) := by decide +kernel
theorem dX12_init_337 : decode cX12_init 337 = .ok (.aload_n 0, 1) := by decide +kernel
theorem dX12_init_338 : decode cX12_init 338 = .ok (.bipush 24, 2) := by decide +kernel
theorem dX12_init_340 : decode cX12_init 340 = .ok (.bipush 40, 2) := by decide +kernel
theorem dX12_init_342 : decode cX12_init 342 = .ok (.multianewarray 26 2, 4) := by decide +kernel
theorem dX12_init_346 : decode cX12_init 346 = .ok (.putfield 113, 3) := by decide +kernel
theorem dX12_init_349 : decode cX12_init 349 = .ok (.aload_n 0, 1) := by decide +kernel
theorem dX12_init_350 : decode cX12_init 350 = .ok (.bipush 24, 2) := by decide +kernel
theorem dX12_init_352 : decode cX12_init 352 = .ok (.bipush 40, 2) := by decide +kernel
theorem dX12_init_354 : decode cX12_init 354 = .ok (.multianewarray 26 2, 4) := by decide +kernel
theorem dX12_init_358 : decode cX12_init 358 = .ok (.putfield 116, 3) := by decide +kernel
theorem dX12_init_361 : decode cX12_init 361 = .ok (.aload_n 0, 1) := by decide +kernel
theorem dX12_init_362 : decode cX12_init 362 = .ok (.bipush 24, 2) := by decide +kernel
theorem dX12_init_364 : decode cX12_init 364 = .ok (.bipush 40, 2) := by decide +kernel
theorem dX12_init_366 : decode cX12_init 366 = .ok (.multianewarray 119 2, 4) := by decide +kernel
theorem dX12_init_370 : decode cX12_init 370 = .ok (.putfield 121, 3) := by decide +kernel
theorem dX12_init_373 : decode cX12_init 373 = .ok (.aload_n 0, 1) := by decide +kernel
theorem dX12_init_374 : decode cX12_init 374 = .ok (.bipush 24, 2) := by decide +kernel
theorem dX12_init_376 : decode cX12_init 376 = .ok (.bipush 8, 2) := by decide +kernel
theorem dX12_init_378 : decode cX12_init 378 = .ok (.multianewarray 26 2, 4) := by decide +kernel
theorem dX12_init_382 : decode cX12_init 382 = .ok (.putfield 124, 3) := by decide +kernel
theorem dX12_init_385 : decode cX12_init 385 = .ok (.aload_n 0, 1) := by decide +kernel
theorem dX12_init_386 : decode cX12_init 386 = .ok (.bipush 8, 2) := by decide +kernel
theorem dX12_init_388 : decode cX12_init 388 = .ok (.newarray .int, 2) := by decide +kernel
theorem dX12_init_390 : decode cX12_init 390 = .ok (.putfield 127, 3) := by decide +kernel
theorem dX12_init_393 : decode cX12_init 393 = .ok (.aload_n 0, 1) := by decide +kernel
theorem dX12_init_394 : decode cX12_init 394 = .ok (.bipush 8, 2) := by decide +kernel
theorem dX12_init_396 : decode cX12_init 396 = .ok (.newarray .int, 2) := by decide +kernel
theorem dX12_init_398 : decode cX12_init 398 = .ok (.putfield 130, 3) := by decide +kernel
theorem dX12_init_401 : decode cX12_init 401 = .ok (.aload_n 0, 1) := by decide +kernel
theorem dX12_init_402 : decode cX12_init 402 = .ok (.bipush 8, 2) := by decide +kernel
theorem dX12_init_404 : decode cX12_init 404 = .ok (.newarray .int, 2) := by decide +kernel
theorem dX12_init_406 : decode cX12_init 406 = .ok (.putfield 133, 3) := by decide +kernel
theorem dX12_init_409 : decode cX12_init 409 = .ok (.aload_n 0, 1) := by decide +kernel
theorem dX12_init_410 : decode cX12_init 410 = .ok (.bipush 25, 2) := by decide +kernel
theorem dX12_init_412 : decode cX12_init 412 = .ok (.bipush 40, 2) := by decide +kernel
theorem dX12_init_414 : decode cX12_init 414 = .ok (.multianewarray 26 2, 4) := by decide +kernel
theorem dX12_init_418 : decode cX12_init 418 = .ok (.putfield 136, 3) := by decide +kernel
theorem dX12_init_421 : decode cX12_init 421 = .ok (.aload_n 0, 1) := by decide +kernel
theorem dX12_init_422 : decode cX12_init 422 = .ok (.bipush 40, 2) := by decide +kernel
theorem dX12_init_424 : decode cX12_init 424 = .ok (.newarray .boolean, 2) := by decide +kernel
theorem dX12_init_426 : decode cX12_init 426 = .ok (.putfield 139, 3) := by decide +kernel
theorem dX12_init_429 : decode cX12_init 429 = .ok (.aload_n 0, 1) := by decide +kernel
theorem dX12_init_430 : decode cX12_init 430 = .ok (.bipush 40, 2) := by decide +kernel
theorem dX12_init_432 : decode cX12_init 432 = .ok (.newarray .boolean, 2) := by decide +kernel
theorem dX12_init_434 : decode cX12_init 434 = .ok (.putfield 143, 3) := by decide +kernel
theorem dX12_init_437 : decode cX12_init 437 = .ok (.aload_n 0, 1) := by decide +kernel
theorem dX12_init_438 : decode cX12_init 438 = .ok (.invokevirtual 146, 3) := by decide +kernel
theorem dX12_init_441 : decode cX12_init 441 = .ok (.aload_n 0, 1) := by decide +kernel
theorem dX12_init_442 : decode cX12_init 442 = .ok (.invokevirtual 149, 3) := by decide +kernel
theorem dX12_init_445 : decode cX12_init 445 = .ok (.return_, 1) := by decide +kernel
theorem cc_X12_init_125 {g : Gw} (hG : GF g) (D : Mm) (hD : ∀ j, D 125 j = fz (19, 0) j) (hD0 : ∀ q j, q < 125 → D q j = ov EI q j) : CT g yX12_init cX12_init 1 none 2 45 687 137867 (KT 126) true [mR 125] D (KT 813) true (fun r D' => r = none ∧ D' = mg 125 (ov EI) D) := by
  refine CT.mk hG (by decide +kernel) (by decide) (fun κ X Rt hin2 _ => ?_)
  have hin := hin2 rfl
  refine c_open (a := 125) (ov fun _ _ => 0) hD ?_
  refine at_aload_n 1 X rfl rfl dX12_init_0 rfl ?_
  refine at_objInit 4 X w_1728 w_156 w_157 (by rw [Rt.1]; exact Nat.le_of_ble_eq_true rfl) (by rw [Rt.1]; exact Nat.le_of_ble_eq_true rfl) dX12_init_1 rfl ?_
  refine at_aload_n 5 X rfl rfl dX12_init_4 rfl ?_
  refine at_iconst 6 X (by decide) dX12_init_5 rfl ?_
  refine at_putf 9 X 125 12 3 clX12 (by decide) w_1748 (KT_get (by decide) k_125) rfl (by decide) rfl (fun q => absurd q (by decide)) dX12_init_6 rfl ?_
  rw [ob_wr]
  refine at_aload_n 10 X rfl rfl dX12_init_9 rfl ?_
  refine at_sipush 13 X (by decide) (by decide) dX12_init_10 rfl ?_
  refine c_newaI 15 126 X (n := 600) rfl (by decide) k_126 (by decide) (by decide) (ovZ0 e_126) (by rw [Rt.1]; exact Nat.le_of_ble_eq_true rfl) (by rw [Rt.1]; exact Nat.le_of_ble_eq_true rfl) dX12_init_13 rfl ?_
  refine at_putfF 18 X hin 125 12 9 clX12 rfl (by decide) w_1754 (KT_get (by decide) k_125) rfl (by decide) rfl (fun q => absurd q (by decide)) dX12_init_15 rfl ?_
  rw [ob_wr]
  refine at_aload_n 19 X rfl rfl dX12_init_18 rfl ?_
  refine at_iconst 20 X (by decide) dX12_init_19 rfl ?_
  refine c_newaI 22 127 X (n := 3) rfl (by decide) k_127 (by decide) (by decide) (ovZ0 e_127) (by rw [Rt.1]; exact Nat.le_of_ble_eq_true rfl) (by rw [Rt.1]; exact Nat.le_of_ble_eq_true rfl) dX12_init_20 rfl ?_
  refine at_putfF 25 X hin 125 12 10 clX12 rfl (by decide) w_1755 (KT_get (by decide) k_125) rfl (by decide) rfl (fun q => absurd q (by decide)) dX12_init_22 rfl ?_
  rw [ob_wr]
  refine at_aload_n 26 X rfl rfl dX12_init_25 rfl ?_
  refine at_bipush 28 X (by decide) (by decide) dX12_init_26 rfl ?_
  refine c_newaI 30 128 X (n := 8) rfl (by decide) k_128 (by decide) (by decide) (ovZ0 e_128) (by rw [Rt.1]; exact Nat.le_of_ble_eq_true rfl) (by rw [Rt.1]; exact Nat.le_of_ble_eq_true rfl) dX12_init_28 rfl ?_
  refine at_putfF 33 X hin 125 12 11 clX12 rfl (by decide) w_1756 (KT_get (by decide) k_125) rfl (by decide) rfl (fun q => absurd q (by decide)) dX12_init_30 rfl ?_
  rw [ob_wr]
  refine at_aload_n 34 X rfl rfl dX12_init_33 rfl ?_
  refine at_bipush 36 X (by decide) (by decide) dX12_init_34 rfl ?_
  refine c_newaI 38 129 X (n := 8) rfl (by decide) k_129 (by decide) (by decide) (ovZ0 e_129) (by rw [Rt.1]; exact Nat.le_of_ble_eq_true rfl) (by rw [Rt.1]; exact Nat.le_of_ble_eq_true rfl) dX12_init_36 rfl ?_
  refine at_putfF 41 X hin 125 12 12 clX12 rfl (by decide) w_1757 (KT_get (by decide) k_125) rfl (by decide) rfl (fun q => absurd q (by decide)) dX12_init_38 rfl ?_
  rw [ob_wr]
  refine at_aload_n 42 X rfl rfl dX12_init_41 rfl ?_
  refine at_bipush 44 X (by decide) (by decide) dX12_init_42 rfl ?_
  refine at_iconst 45 X (by decide) dX12_init_44 rfl ?_
  refine c_mna 49 130 X (gk := 5) (rk := 0) (n := 10) (k := 2) (e := 141) (ty := .int) (Or.inl ⟨rfl, rfl, rfl⟩) rfl rfl (by decide) (by decide) w_1729 w_216 (by decide) (by decide +kernel) (by decide) (by decide +kernel) (fun q h1 h2 j hj => ovZ0 (by have h := er_130 (q - 131) (by omega); rwa [show 131 + (q - 131) = q by omega] at h) j hj) (by rw [Rt.1]; exact Nat.le_of_ble_eq_true rfl) (by rw [Rt.1]; exact Nat.le_of_ble_eq_true rfl) dX12_init_45 rfl ?_
  refine at_putfF 52 X hin 125 12 13 clX12 rfl (by decide) w_1758 (KT_get (by decide) k_125) rfl (by decide) rfl (fun q => absurd q (by decide)) dX12_init_49 rfl ?_
  rw [ob_wr]
  refine at_aload_n 53 X rfl rfl dX12_init_52 rfl ?_
  refine at_bipush 55 X (by decide) (by decide) dX12_init_53 rfl ?_
  refine at_iconst 56 X (by decide) dX12_init_55 rfl ?_
  refine c_mna 60 141 X (gk := 5) (rk := 0) (n := 11) (k := 2) (e := 153) (ty := .int) (Or.inl ⟨rfl, rfl, rfl⟩) rfl rfl (by decide) (by decide) w_1729 w_216 (by decide) (by decide +kernel) (by decide) (by decide +kernel) (fun q h1 h2 j hj => ovZ0 (by have h := er_141 (q - 142) (by omega); rwa [show 142 + (q - 142) = q by omega] at h) j hj) (by rw [Rt.1]; exact Nat.le_of_ble_eq_true rfl) (by rw [Rt.1]; exact Nat.le_of_ble_eq_true rfl) dX12_init_56 rfl ?_
  refine at_putfF 63 X hin 125 12 14 clX12 rfl (by decide) w_1759 (KT_get (by decide) k_125) rfl (by decide) rfl (fun q => absurd q (by decide)) dX12_init_60 rfl ?_
  rw [ob_wr]
  refine at_aload_n 64 X rfl rfl dX12_init_63 rfl ?_
  refine at_bipush 66 X (by decide) (by decide) dX12_init_64 rfl ?_
  refine at_iconst 67 X (by decide) dX12_init_66 rfl ?_
  refine c_mna 71 153 X (gk := 5) (rk := 0) (n := 12) (k := 3) (e := 166) (ty := .int) (Or.inl ⟨rfl, rfl, rfl⟩) rfl rfl (by decide) (by decide) w_1729 w_216 (by decide) (by decide +kernel) (by decide) (by decide +kernel) (fun q h1 h2 j hj => ovZ0 (by have h := er_153 (q - 154) (by omega); rwa [show 154 + (q - 154) = q by omega] at h) j hj) (by rw [Rt.1]; exact Nat.le_of_ble_eq_true rfl) (by rw [Rt.1]; exact Nat.le_of_ble_eq_true rfl) dX12_init_67 rfl ?_
  refine at_putfF 74 X hin 125 12 15 clX12 rfl (by decide) w_1760 (KT_get (by decide) k_125) rfl (by decide) rfl (fun q => absurd q (by decide)) dX12_init_71 rfl ?_
  rw [ob_wr]
  refine at_aload_n 75 X rfl rfl dX12_init_74 rfl ?_
  refine at_bipush 77 X (by decide) (by decide) dX12_init_75 rfl ?_
  refine at_iconst 78 X (by decide) dX12_init_77 rfl ?_
  refine c_mna 82 166 X (gk := 5) (rk := 0) (n := 12) (k := 3) (e := 179) (ty := .int) (Or.inl ⟨rfl, rfl, rfl⟩) rfl rfl (by decide) (by decide) w_1729 w_216 (by decide) (by decide +kernel) (by decide) (by decide +kernel) (fun q h1 h2 j hj => ovZ0 (by have h := er_166 (q - 167) (by omega); rwa [show 167 + (q - 167) = q by omega] at h) j hj) (by rw [Rt.1]; exact Nat.le_of_ble_eq_true rfl) (by rw [Rt.1]; exact Nat.le_of_ble_eq_true rfl) dX12_init_78 rfl ?_
  refine at_putfF 85 X hin 125 12 16 clX12 rfl (by decide) w_1761 (KT_get (by decide) k_125) rfl (by decide) rfl (fun q => absurd q (by decide)) dX12_init_82 rfl ?_
  rw [ob_wr]
  refine at_aload_n 86 X rfl rfl dX12_init_85 rfl ?_
  refine at_iconst 87 X (by decide) dX12_init_86 rfl ?_
  refine at_iconst 88 X (by decide) dX12_init_87 rfl ?_
  refine c_mna 92 179 X (gk := 5) (rk := 0) (n := 3) (k := 3) (e := 183) (ty := .int) (Or.inl ⟨rfl, rfl, rfl⟩) rfl rfl (by decide) (by decide) w_1729 w_216 (by decide) (by decide +kernel) (by decide) (by decide +kernel) (fun q h1 h2 j hj => ovZ0 (by have h := er_179 (q - 180) (by omega); rwa [show 180 + (q - 180) = q by omega] at h) j hj) (by rw [Rt.1]; exact Nat.le_of_ble_eq_true rfl) (by rw [Rt.1]; exact Nat.le_of_ble_eq_true rfl) dX12_init_88 rfl ?_
  refine at_putfF 95 X hin 125 12 17 clX12 rfl (by decide) w_1762 (KT_get (by decide) k_125) rfl (by decide) rfl (fun q => absurd q (by decide)) dX12_init_92 rfl ?_
  rw [ob_wr]
  refine at_aload_n 96 X rfl rfl dX12_init_95 rfl ?_
  refine at_iconst 97 X (by decide) dX12_init_96 rfl ?_
  refine at_iconst 98 X (by decide) dX12_init_97 rfl ?_
  refine c_mna 102 183 X (gk := 5) (rk := 0) (n := 3) (k := 3) (e := 187) (ty := .int) (Or.inl ⟨rfl, rfl, rfl⟩) rfl rfl (by decide) (by decide) w_1729 w_216 (by decide) (by decide +kernel) (by decide) (by decide +kernel) (fun q h1 h2 j hj => ovZ0 (by have h := er_183 (q - 184) (by omega); rwa [show 184 + (q - 184) = q by omega] at h) j hj) (by rw [Rt.1]; exact Nat.le_of_ble_eq_true rfl) (by rw [Rt.1]; exact Nat.le_of_ble_eq_true rfl) dX12_init_98 rfl ?_
  refine at_putfF 105 X hin 125 12 18 clX12 rfl (by decide) w_1763 (KT_get (by decide) k_125) rfl (by decide) rfl (fun q => absurd q (by decide)) dX12_init_102 rfl ?_
  rw [ob_wr]
  refine at_aload_n 106 X rfl rfl dX12_init_105 rfl ?_
  refine at_bipush 108 X (by decide) (by decide) dX12_init_106 rfl ?_
  refine at_iconst 109 X (by decide) dX12_init_108 rfl ?_
  refine c_mna 113 187 X (gk := 5) (rk := 0) (n := 6) (k := 2) (e := 194) (ty := .int) (Or.inl ⟨rfl, rfl, rfl⟩) rfl rfl (by decide) (by decide) w_1729 w_216 (by decide) (by decide +kernel) (by decide) (by decide +kernel) (fun q h1 h2 j hj => ovZ0 (by have h := er_187 (q - 188) (by omega); rwa [show 188 + (q - 188) = q by omega] at h) j hj) (by rw [Rt.1]; exact Nat.le_of_ble_eq_true rfl) (by rw [Rt.1]; exact Nat.le_of_ble_eq_true rfl) dX12_init_109 rfl ?_
  refine at_putfF 116 X hin 125 12 19 clX12 rfl (by decide) w_1764 (KT_get (by decide) k_125) rfl (by decide) rfl (fun q => absurd q (by decide)) dX12_init_113 rfl ?_
  rw [ob_wr]
  refine at_aload_n 117 X rfl rfl dX12_init_116 rfl ?_
  refine at_bipush 119 X (by decide) (by decide) dX12_init_117 rfl ?_
  refine at_iconst 120 X (by decide) dX12_init_119 rfl ?_
  refine c_mna 124 194 X (gk := 5) (rk := 0) (n := 6) (k := 2) (e := 201) (ty := .int) (Or.inl ⟨rfl, rfl, rfl⟩) rfl rfl (by decide) (by decide) w_1729 w_216 (by decide) (by decide +kernel) (by decide) (by decide +kernel) (fun q h1 h2 j hj => ovZ0 (by have h := er_194 (q - 195) (by omega); rwa [show 195 + (q - 195) = q by omega] at h) j hj) (by rw [Rt.1]; exact Nat.le_of_ble_eq_true rfl) (by rw [Rt.1]; exact Nat.le_of_ble_eq_true rfl) dX12_init_120 rfl ?_
  refine at_putfF 127 X hin 125 12 20 clX12 rfl (by decide) w_1765 (KT_get (by decide) k_125) rfl (by decide) rfl (fun q => absurd q (by decide)) dX12_init_124 rfl ?_
  rw [ob_wr]
  refine at_aload_n 128 X rfl rfl dX12_init_127 rfl ?_
  refine at_bipush 130 X (by decide) (by decide) dX12_init_128 rfl ?_
  refine at_iconst 131 X (by decide) dX12_init_130 rfl ?_
  refine c_mna 135 201 X (gk := 5) (rk := 0) (n := 6) (k := 2) (e := 208) (ty := .int) (Or.inl ⟨rfl, rfl, rfl⟩) rfl rfl (by decide) (by decide) w_1729 w_216 (by decide) (by decide +kernel) (by decide) (by decide +kernel) (fun q h1 h2 j hj => ovZ0 (by have h := er_201 (q - 202) (by omega); rwa [show 202 + (q - 202) = q by omega] at h) j hj) (by rw [Rt.1]; exact Nat.le_of_ble_eq_true rfl) (by rw [Rt.1]; exact Nat.le_of_ble_eq_true rfl) dX12_init_131 rfl ?_
  refine at_putfF 138 X hin 125 12 21 clX12 rfl (by decide) w_1766 (KT_get (by decide) k_125) rfl (by decide) rfl (fun q => absurd q (by decide)) dX12_init_135 rfl ?_
  rw [ob_wr]
  refine at_aload_n 139 X rfl rfl dX12_init_138 rfl ?_
  refine at_bipush 141 X (by decide) (by decide) dX12_init_139 rfl ?_
  refine at_iconst 142 X (by decide) dX12_init_141 rfl ?_
  refine c_mna 146 208 X (gk := 5) (rk := 0) (n := 9) (k := 2) (e := 218) (ty := .int) (Or.inl ⟨rfl, rfl, rfl⟩) rfl rfl (by decide) (by decide) w_1729 w_216 (by decide) (by decide +kernel) (by decide) (by decide +kernel) (fun q h1 h2 j hj => ovZ0 (by have h := er_208 (q - 209) (by omega); rwa [show 209 + (q - 209) = q by omega] at h) j hj) (by rw [Rt.1]; exact Nat.le_of_ble_eq_true rfl) (by rw [Rt.1]; exact Nat.le_of_ble_eq_true rfl) dX12_init_142 rfl ?_
  refine at_putfF 149 X hin 125 12 22 clX12 rfl (by decide) w_1767 (KT_get (by decide) k_125) rfl (by decide) rfl (fun q => absurd q (by decide)) dX12_init_146 rfl ?_
  rw [ob_wr]
  refine at_aload_n 150 X rfl rfl dX12_init_149 rfl ?_
  refine at_bipush 152 X (by decide) (by decide) dX12_init_150 rfl ?_
  refine at_iconst 153 X (by decide) dX12_init_152 rfl ?_
  refine c_mna 157 218 X (gk := 5) (rk := 0) (n := 8) (k := 3) (e := 227) (ty := .int) (Or.inl ⟨rfl, rfl, rfl⟩) rfl rfl (by decide) (by decide) w_1729 w_216 (by decide) (by decide +kernel) (by decide) (by decide +kernel) (fun q h1 h2 j hj => ovZ0 (by have h := er_218 (q - 219) (by omega); rwa [show 219 + (q - 219) = q by omega] at h) j hj) (by rw [Rt.1]; exact Nat.le_of_ble_eq_true rfl) (by rw [Rt.1]; exact Nat.le_of_ble_eq_true rfl) dX12_init_153 rfl ?_
  refine at_putfF 160 X hin 125 12 23 clX12 rfl (by decide) w_1768 (KT_get (by decide) k_125) rfl (by decide) rfl (fun q => absurd q (by decide)) dX12_init_157 rfl ?_
  rw [ob_wr]
  refine at_aload_n 161 X rfl rfl dX12_init_160 rfl ?_
  refine at_bipush 163 X (by decide) (by decide) dX12_init_161 rfl ?_
  refine at_iconst 164 X (by decide) dX12_init_163 rfl ?_
  refine c_mna 168 227 X (gk := 5) (rk := 0) (n := 8) (k := 3) (e := 236) (ty := .int) (Or.inl ⟨rfl, rfl, rfl⟩) rfl rfl (by decide) (by decide) w_1729 w_216 (by decide) (by decide +kernel) (by decide) (by decide +kernel) (fun q h1 h2 j hj => ovZ0 (by have h := er_227 (q - 228) (by omega); rwa [show 228 + (q - 228) = q by omega] at h) j hj) (by rw [Rt.1]; exact Nat.le_of_ble_eq_true rfl) (by rw [Rt.1]; exact Nat.le_of_ble_eq_true rfl) dX12_init_164 rfl ?_
  refine at_putfF 171 X hin 125 12 24 clX12 rfl (by decide) w_1769 (KT_get (by decide) k_125) rfl (by decide) rfl (fun q => absurd q (by decide)) dX12_init_168 rfl ?_
  rw [ob_wr]
  refine at_aload_n 172 X rfl rfl dX12_init_171 rfl ?_
  refine at_bipush 174 X (by decide) (by decide) dX12_init_172 rfl ?_
  refine at_bipush 176 X (by decide) (by decide) dX12_init_174 rfl ?_
  refine c_mna 180 236 X (gk := 5) (rk := 0) (n := 8) (k := 20) (e := 245) (ty := .int) (Or.inl ⟨rfl, rfl, rfl⟩) rfl rfl (by decide) (by decide) w_1729 w_216 (by decide) (by decide +kernel) (by decide) (by decide +kernel) (fun q h1 h2 j hj => ovZ0 (by have h := er_236 (q - 237) (by omega); rwa [show 237 + (q - 237) = q by omega] at h) j hj) (by rw [Rt.1]; exact Nat.le_of_ble_eq_true rfl) (by rw [Rt.1]; exact Nat.le_of_ble_eq_true rfl) dX12_init_176 rfl ?_
  refine at_putfF 183 X hin 125 12 25 clX12 rfl (by decide) w_1770 (KT_get (by decide) k_125) rfl (by decide) rfl (fun q => absurd q (by decide)) dX12_init_180 rfl ?_
  rw [ob_wr]
  refine at_aload_n 184 X rfl rfl dX12_init_183 rfl ?_
  refine at_bipush 186 X (by decide) (by decide) dX12_init_184 rfl ?_
  refine at_bipush 188 X (by decide) (by decide) dX12_init_186 rfl ?_
  refine c_mna 192 245 X (gk := 5) (rk := 0) (n := 8) (k := 20) (e := 254) (ty := .int) (Or.inl ⟨rfl, rfl, rfl⟩) rfl rfl (by decide) (by decide) w_1729 w_216 (by decide) (by decide +kernel) (by decide) (by decide +kernel) (fun q h1 h2 j hj => ovZ0 (by have h := er_245 (q - 246) (by omega); rwa [show 246 + (q - 246) = q by omega] at h) j hj) (by rw [Rt.1]; exact Nat.le_of_ble_eq_true rfl) (by rw [Rt.1]; exact Nat.le_of_ble_eq_true rfl) dX12_init_188 rfl ?_
  refine at_putfF 195 X hin 125 12 26 clX12 rfl (by decide) w_1771 (KT_get (by decide) k_125) rfl (by decide) rfl (fun q => absurd q (by decide)) dX12_init_192 rfl ?_
  rw [ob_wr]
  refine at_aload_n 196 X rfl rfl dX12_init_195 rfl ?_
  refine at_iconst 197 X (by decide) dX12_init_196 rfl ?_
  refine at_putf 200 X 125 12 30 clX12 (by decide) w_1775 (KT_get (by decide) k_125) rfl (by decide) rfl (fun q => absurd q (by decide)) dX12_init_197 rfl ?_
  rw [ob_wr]
  refine at_aload_n 201 X rfl rfl dX12_init_200 rfl ?_
  refine at_sipush 204 X (by decide) (by decide) dX12_init_201 rfl ?_
  refine at_iconst 205 X (by decide) dX12_init_204 rfl ?_
  refine c_mna 209 254 X (gk := 5) (rk := 0) (n := 160) (k := 2) (e := 415) (ty := .int) (Or.inl ⟨rfl, rfl, rfl⟩) rfl rfl (by decide) (by decide) w_1729 w_216 (by decide) (by decide +kernel) (by decide) (by decide +kernel) (fun q h1 h2 j hj => ovZ0 (by have h := er_254 (q - 255) (by omega); rwa [show 255 + (q - 255) = q by omega] at h) j hj) (by rw [Rt.1]; exact Nat.le_of_ble_eq_true rfl) (by rw [Rt.1]; exact Nat.le_of_ble_eq_true rfl) dX12_init_205 rfl ?_
  refine at_putfF 212 X hin 125 12 31 clX12 rfl (by decide) w_1776 (KT_get (by decide) k_125) rfl (by decide) rfl (fun q => absurd q (by decide)) dX12_init_209 rfl ?_
  rw [ob_wr]
  refine at_aload_n 213 X rfl rfl dX12_init_212 rfl ?_
  refine at_sipush 216 X (by decide) (by decide) dX12_init_213 rfl ?_
  refine at_iconst 217 X (by decide) dX12_init_216 rfl ?_
  refine c_mna 221 415 X (gk := 5) (rk := 0) (n := 160) (k := 2) (e := 576) (ty := .int) (Or.inl ⟨rfl, rfl, rfl⟩) rfl rfl (by decide) (by decide) w_1729 w_216 (by decide) (by decide +kernel) (by decide) (by decide +kernel) (fun q h1 h2 j hj => ovZ0 (by have h := er_415 (q - 416) (by omega); rwa [show 416 + (q - 416) = q by omega] at h) j hj) (by rw [Rt.1]; exact Nat.le_of_ble_eq_true rfl) (by rw [Rt.1]; exact Nat.le_of_ble_eq_true rfl) dX12_init_217 rfl ?_
  refine at_putfF 224 X hin 125 12 32 clX12 rfl (by decide) w_1777 (KT_get (by decide) k_125) rfl (by decide) rfl (fun q => absurd q (by decide)) dX12_init_221 rfl ?_
  rw [ob_wr]
  refine at_aload_n 225 X rfl rfl dX12_init_224 rfl ?_
  refine at_sipush 228 X (by decide) (by decide) dX12_init_225 rfl ?_
  refine c_newaI 230 576 X (n := 160) rfl (by decide) k_576 (by decide) (by decide) (ovZ0 e_576) (by rw [Rt.1]; exact Nat.le_of_ble_eq_true rfl) (by rw [Rt.1]; exact Nat.le_of_ble_eq_true rfl) dX12_init_228 rfl ?_
  refine at_putfF 233 X hin 125 12 33 clX12 rfl (by decide) w_1778 (KT_get (by decide) k_125) rfl (by decide) rfl (fun q => absurd q (by decide)) dX12_init_230 rfl ?_
  rw [ob_wr]
  refine at_aload_n 234 X rfl rfl dX12_init_233 rfl ?_
  refine at_iconst 235 X (by decide) dX12_init_234 rfl ?_
  refine c_newaI 237 577 X (n := 4) rfl (by decide) k_577 (by decide) (by decide) (ovZ0 e_577) (by rw [Rt.1]; exact Nat.le_of_ble_eq_true rfl) (by rw [Rt.1]; exact Nat.le_of_ble_eq_true rfl) dX12_init_235 rfl ?_
  refine at_putfF 240 X hin 125 12 34 clX12 rfl (by decide) w_1779 (KT_get (by decide) k_125) rfl (by decide) rfl (fun q => absurd q (by decide)) dX12_init_237 rfl ?_
  rw [ob_wr]
  refine at_aload_n 241 X rfl rfl dX12_init_240 rfl ?_
  refine at_ldc 243 X (n := 57600) w_1731 (by decide) (by decide) dX12_init_241 rfl ?_
  refine c_newaI 245 578 X (n := 57600) rfl (by decide) k_578 (by decide) (by decide) (ovZ0 e_578) (by rw [Rt.1]; exact Nat.le_of_ble_eq_true rfl) (by rw [Rt.1]; exact Nat.le_of_ble_eq_true rfl) dX12_init_243 rfl ?_
  refine at_putfF 248 X hin 125 12 35 clX12 rfl (by decide) w_1780 (KT_get (by decide) k_125) rfl (by decide) rfl (fun q => absurd q (by decide)) dX12_init_245 rfl ?_
  rw [ob_wr]
  refine at_aload_n 249 X rfl rfl dX12_init_248 rfl ?_
  refine at_ldc 251 X (n := 57600) w_1731 (by decide) (by decide) dX12_init_249 rfl ?_
  refine c_newaI 253 579 X (n := 57600) rfl (by decide) k_579 (by decide) (by decide) (ovZ0 e_579) (by rw [Rt.1]; exact Nat.le_of_ble_eq_true rfl) (by rw [Rt.1]; exact Nat.le_of_ble_eq_true rfl) dX12_init_251 rfl ?_
  refine at_putfF 256 X hin 125 12 36 clX12 rfl (by decide) w_1781 (KT_get (by decide) k_125) rfl (by decide) rfl (fun q => absurd q (by decide)) dX12_init_253 rfl ?_
  rw [ob_wr]
  refine at_aload_n 257 X rfl rfl dX12_init_256 rfl ?_
  refine at_bipush 259 X (by decide) (by decide) dX12_init_257 rfl ?_
  refine at_iconst 260 X (by decide) dX12_init_259 rfl ?_
  refine c_mna 264 580 X (gk := 5) (rk := 0) (n := 16) (k := 3) (e := 597) (ty := .int) (Or.inl ⟨rfl, rfl, rfl⟩) rfl rfl (by decide) (by decide) w_1729 w_216 (by decide) (by decide +kernel) (by decide) (by decide +kernel) (fun q h1 h2 j hj => ovZ0 (by have h := er_580 (q - 581) (by omega); rwa [show 581 + (q - 581) = q by omega] at h) j hj) (by rw [Rt.1]; exact Nat.le_of_ble_eq_true rfl) (by rw [Rt.1]; exact Nat.le_of_ble_eq_true rfl) dX12_init_260 rfl ?_
  refine at_putfF 267 X hin 125 12 37 clX12 rfl (by decide) w_1782 (KT_get (by decide) k_125) rfl (by decide) rfl (fun q => absurd q (by decide)) dX12_init_264 rfl ?_
  rw [ob_wr]
  refine at_aload_n 268 X rfl rfl dX12_init_267 rfl ?_
  refine at_bipush 270 X (by decide) (by decide) dX12_init_268 rfl ?_
  refine at_iconst 271 X (by decide) dX12_init_270 rfl ?_
  refine c_mna 275 597 X (gk := 5) (rk := 0) (n := 16) (k := 3) (e := 614) (ty := .int) (Or.inl ⟨rfl, rfl, rfl⟩) rfl rfl (by decide) (by decide) w_1729 w_216 (by decide) (by decide +kernel) (by decide) (by decide +kernel) (fun q h1 h2 j hj => ovZ0 (by have h := er_597 (q - 598) (by omega); rwa [show 598 + (q - 598) = q by omega] at h) j hj) (by rw [Rt.1]; exact Nat.le_of_ble_eq_true rfl) (by rw [Rt.1]; exact Nat.le_of_ble_eq_true rfl) dX12_init_271 rfl ?_
  refine at_putfF 278 X hin 125 12 38 clX12 rfl (by decide) w_1783 (KT_get (by decide) k_125) rfl (by decide) rfl (fun q => absurd q (by decide)) dX12_init_275 rfl ?_
  rw [ob_wr]
  refine at_aload_n 279 X rfl rfl dX12_init_278 rfl ?_
  refine at_bipush 281 X (by decide) (by decide) dX12_init_279 rfl ?_
  refine at_iconst 282 X (by decide) dX12_init_281 rfl ?_
  refine c_mna 286 614 X (gk := 5) (rk := 0) (n := 8) (k := 2) (e := 623) (ty := .int) (Or.inl ⟨rfl, rfl, rfl⟩) rfl rfl (by decide) (by decide) w_1729 w_216 (by decide) (by decide +kernel) (by decide) (by decide +kernel) (fun q h1 h2 j hj => ovZ0 (by have h := er_614 (q - 615) (by omega); rwa [show 615 + (q - 615) = q by omega] at h) j hj) (by rw [Rt.1]; exact Nat.le_of_ble_eq_true rfl) (by rw [Rt.1]; exact Nat.le_of_ble_eq_true rfl) dX12_init_282 rfl ?_
  refine at_putfF 289 X hin 125 12 39 clX12 rfl (by decide) w_1784 (KT_get (by decide) k_125) rfl (by decide) rfl (fun q => absurd q (by decide)) dX12_init_286 rfl ?_
  rw [ob_wr]
  refine at_aload_n 290 X rfl rfl dX12_init_289 rfl ?_
  refine at_bipush 292 X (by decide) (by decide) dX12_init_290 rfl ?_
  refine at_iconst 293 X (by decide) dX12_init_292 rfl ?_
  refine c_mna 297 623 X (gk := 5) (rk := 0) (n := 8) (k := 2) (e := 632) (ty := .int) (Or.inl ⟨rfl, rfl, rfl⟩) rfl rfl (by decide) (by decide) w_1729 w_216 (by decide) (by decide +kernel) (by decide) (by decide +kernel) (fun q h1 h2 j hj => ovZ0 (by have h := er_623 (q - 624) (by omega); rwa [show 624 + (q - 624) = q by omega] at h) j hj) (by rw [Rt.1]; exact Nat.le_of_ble_eq_true rfl) (by rw [Rt.1]; exact Nat.le_of_ble_eq_true rfl) dX12_init_293 rfl ?_
  refine at_putfF 300 X hin 125 12 40 clX12 rfl (by decide) w_1785 (KT_get (by decide) k_125) rfl (by decide) rfl (fun q => absurd q (by decide)) dX12_init_297 rfl ?_
  rw [ob_wr]
  refine at_aload_n 301 X rfl rfl dX12_init_300 rfl ?_
  refine at_bipush 303 X (by decide) (by decide) dX12_init_301 rfl ?_
  refine at_sipush 306 X (by decide) (by decide) dX12_init_303 rfl ?_
  refine c_mna 310 632 X (gk := 5) (rk := 0) (n := 20) (k := 178) (e := 653) (ty := .int) (Or.inl ⟨rfl, rfl, rfl⟩) rfl rfl (by decide) (by decide) w_1729 w_216 (by decide) (by decide +kernel) (by decide) (by decide +kernel) (fun q h1 h2 j hj => ovZ0 (by have h := er_632 (q - 633) (by omega); rwa [show 633 + (q - 633) = q by omega] at h) j hj) (by rw [Rt.1]; exact Nat.le_of_ble_eq_true rfl) (by rw [Rt.1]; exact Nat.le_of_ble_eq_true rfl) dX12_init_306 rfl ?_
  refine at_putfF 313 X hin 125 12 41 clX12 rfl (by decide) w_1786 (KT_get (by decide) k_125) rfl (by decide) rfl (fun q => absurd q (by decide)) dX12_init_310 rfl ?_
  rw [ob_wr]
  refine at_aload_n 314 X rfl rfl dX12_init_313 rfl ?_
  refine at_iconst 315 X (by decide) dX12_init_314 rfl ?_
  refine at_sipush 318 X (by decide) (by decide) dX12_init_315 rfl ?_
  refine c_mna 322 653 X (gk := 5) (rk := 0) (n := 3) (k := 3740) (e := 657) (ty := .int) (Or.inl ⟨rfl, rfl, rfl⟩) rfl rfl (by decide) (by decide) w_1729 w_216 (by decide) (by decide +kernel) (by decide) (by decide +kernel) (fun q h1 h2 j hj => ovZ0 (by have h := er_653 (q - 654) (by omega); rwa [show 654 + (q - 654) = q by omega] at h) j hj) (by rw [Rt.1]; exact Nat.le_of_ble_eq_true rfl) (by rw [Rt.1]; exact Nat.le_of_ble_eq_true rfl) dX12_init_318 rfl ?_
  refine at_putfF 325 X hin 125 12 42 clX12 rfl (by decide) w_1787 (KT_get (by decide) k_125) rfl (by decide) rfl (fun q => absurd q (by decide)) dX12_init_322 rfl ?_
  rw [ob_wr]
  refine at_aload_n 326 X rfl rfl dX12_init_325 rfl ?_
  refine at_bipush 328 X (by decide) (by decide) dX12_init_326 rfl ?_
  refine at_bipush 330 X (by decide) (by decide) dX12_init_328 rfl ?_
  refine c_mna 334 657 X (gk := 5) (rk := 0) (n := 24) (k := 40) (e := 682) (ty := .int) (Or.inl ⟨rfl, rfl, rfl⟩) rfl rfl (by decide) (by decide) w_1729 w_216 (by decide) (by decide +kernel) (by decide) (by decide +kernel) (fun q h1 h2 j hj => ovZ0 (by have h := er_657 (q - 658) (by omega); rwa [show 658 + (q - 658) = q by omega] at h) j hj) (by rw [Rt.1]; exact Nat.le_of_ble_eq_true rfl) (by rw [Rt.1]; exact Nat.le_of_ble_eq_true rfl) dX12_init_330 rfl ?_
  refine at_putfF 337 X hin 125 12 49 clX12 rfl (by decide) w_1794 (KT_get (by decide) k_125) rfl (by decide) rfl (fun q => absurd q (by decide)) dX12_init_334 rfl ?_
  rw [ob_wr]
  refine at_aload_n 338 X rfl rfl dX12_init_337 rfl ?_
  refine at_bipush 340 X (by decide) (by decide) dX12_init_338 rfl ?_
  refine at_bipush 342 X (by decide) (by decide) dX12_init_340 rfl ?_
  refine c_mna 346 682 X (gk := 5) (rk := 0) (n := 24) (k := 40) (e := 707) (ty := .int) (Or.inl ⟨rfl, rfl, rfl⟩) rfl rfl (by decide) (by decide) w_1729 w_216 (by decide) (by decide +kernel) (by decide) (by decide +kernel) (fun q h1 h2 j hj => ovZ0 (by have h := er_682 (q - 683) (by omega); rwa [show 683 + (q - 683) = q by omega] at h) j hj) (by rw [Rt.1]; exact Nat.le_of_ble_eq_true rfl) (by rw [Rt.1]; exact Nat.le_of_ble_eq_true rfl) dX12_init_342 rfl ?_
  refine at_putfF 349 X hin 125 12 50 clX12 rfl (by decide) w_1795 (KT_get (by decide) k_125) rfl (by decide) rfl (fun q => absurd q (by decide)) dX12_init_346 rfl ?_
  rw [ob_wr]
  refine at_aload_n 350 X rfl rfl dX12_init_349 rfl ?_
  refine at_bipush 352 X (by decide) (by decide) dX12_init_350 rfl ?_
  refine at_bipush 354 X (by decide) (by decide) dX12_init_352 rfl ?_
  refine c_mna 358 707 X (gk := 5) (rk := 0) (n := 24) (k := 40) (e := 732) (ty := .int) (Or.inl ⟨rfl, rfl, rfl⟩) rfl rfl (by decide) (by decide) w_1729 w_216 (by decide) (by decide +kernel) (by decide) (by decide +kernel) (fun q h1 h2 j hj => ovZ0 (by have h := er_707 (q - 708) (by omega); rwa [show 708 + (q - 708) = q by omega] at h) j hj) (by rw [Rt.1]; exact Nat.le_of_ble_eq_true rfl) (by rw [Rt.1]; exact Nat.le_of_ble_eq_true rfl) dX12_init_354 rfl ?_
  refine at_putfF 361 X hin 125 12 51 clX12 rfl (by decide) w_1796 (KT_get (by decide) k_125) rfl (by decide) rfl (fun q => absurd q (by decide)) dX12_init_358 rfl ?_
  rw [ob_wr]
  refine at_aload_n 362 X rfl rfl dX12_init_361 rfl ?_
  refine at_bipush 364 X (by decide) (by decide) dX12_init_362 rfl ?_
  refine at_bipush 366 X (by decide) (by decide) dX12_init_364 rfl ?_
  refine c_mna 370 732 X (gk := 6) (rk := 3) (n := 24) (k := 40) (e := 757) (ty := .long) (Or.inr ⟨rfl, rfl, rfl⟩) rfl rfl (by decide) (by decide) w_1732 w_328 (by decide) (by decide +kernel) (by decide) (by decide +kernel) (fun q h1 h2 j hj => ovZ0 (by have h := er_732 (q - 733) (by omega); rwa [show 733 + (q - 733) = q by omega] at h) j hj) (by rw [Rt.1]; exact Nat.le_of_ble_eq_true rfl) (by rw [Rt.1]; exact Nat.le_of_ble_eq_true rfl) dX12_init_366 rfl ?_
  refine at_putfF 373 X hin 125 12 55 clX12 rfl (by decide) w_1800 (KT_get (by decide) k_125) rfl (by decide) rfl (fun q => absurd q (by decide)) dX12_init_370 rfl ?_
  rw [ob_wr]
  refine at_aload_n 374 X rfl rfl dX12_init_373 rfl ?_
  refine at_bipush 376 X (by decide) (by decide) dX12_init_374 rfl ?_
  refine at_bipush 378 X (by decide) (by decide) dX12_init_376 rfl ?_
  refine c_mna 382 757 X (gk := 5) (rk := 0) (n := 24) (k := 8) (e := 782) (ty := .int) (Or.inl ⟨rfl, rfl, rfl⟩) rfl rfl (by decide) (by decide) w_1729 w_216 (by decide) (by decide +kernel) (by decide) (by decide +kernel) (fun q h1 h2 j hj => ovZ0 (by have h := er_757 (q - 758) (by omega); rwa [show 758 + (q - 758) = q by omega] at h) j hj) (by rw [Rt.1]; exact Nat.le_of_ble_eq_true rfl) (by rw [Rt.1]; exact Nat.le_of_ble_eq_true rfl) dX12_init_378 rfl ?_
  refine at_putfF 385 X hin 125 12 56 clX12 rfl (by decide) w_1801 (KT_get (by decide) k_125) rfl (by decide) rfl (fun q => absurd q (by decide)) dX12_init_382 rfl ?_
  rw [ob_wr]
  refine at_aload_n 386 X rfl rfl dX12_init_385 rfl ?_
  refine at_bipush 388 X (by decide) (by decide) dX12_init_386 rfl ?_
  refine c_newaI 390 782 X (n := 8) rfl (by decide) k_782 (by decide) (by decide) (ovZ0 e_782) (by rw [Rt.1]; exact Nat.le_of_ble_eq_true rfl) (by rw [Rt.1]; exact Nat.le_of_ble_eq_true rfl) dX12_init_388 rfl ?_
  refine at_putfF 393 X hin 125 12 57 clX12 rfl (by decide) w_1802 (KT_get (by decide) k_125) rfl (by decide) rfl (fun q => absurd q (by decide)) dX12_init_390 rfl ?_
  rw [ob_wr]
  refine at_aload_n 394 X rfl rfl dX12_init_393 rfl ?_
  refine at_bipush 396 X (by decide) (by decide) dX12_init_394 rfl ?_
  refine c_newaI 398 783 X (n := 8) rfl (by decide) k_783 (by decide) (by decide) (ovZ0 e_783) (by rw [Rt.1]; exact Nat.le_of_ble_eq_true rfl) (by rw [Rt.1]; exact Nat.le_of_ble_eq_true rfl) dX12_init_396 rfl ?_
  refine at_putfF 401 X hin 125 12 58 clX12 rfl (by decide) w_1803 (KT_get (by decide) k_125) rfl (by decide) rfl (fun q => absurd q (by decide)) dX12_init_398 rfl ?_
  rw [ob_wr]
  refine at_aload_n 402 X rfl rfl dX12_init_401 rfl ?_
  refine at_bipush 404 X (by decide) (by decide) dX12_init_402 rfl ?_
  refine c_newaI 406 784 X (n := 8) rfl (by decide) k_784 (by decide) (by decide) (ovZ0 e_784) (by rw [Rt.1]; exact Nat.le_of_ble_eq_true rfl) (by rw [Rt.1]; exact Nat.le_of_ble_eq_true rfl) dX12_init_404 rfl ?_
  refine at_putfF 409 X hin 125 12 59 clX12 rfl (by decide) w_1804 (KT_get (by decide) k_125) rfl (by decide) rfl (fun q => absurd q (by decide)) dX12_init_406 rfl ?_
  rw [ob_wr]
  refine at_aload_n 410 X rfl rfl dX12_init_409 rfl ?_
  refine at_bipush 412 X (by decide) (by decide) dX12_init_410 rfl ?_
  refine at_bipush 414 X (by decide) (by decide) dX12_init_412 rfl ?_
  refine c_mna 418 785 X (gk := 5) (rk := 0) (n := 25) (k := 40) (e := 811) (ty := .int) (Or.inl ⟨rfl, rfl, rfl⟩) rfl rfl (by decide) (by decide) w_1729 w_216 (by decide) (by decide +kernel) (by decide) (by decide +kernel) (fun q h1 h2 j hj => ovZ0 (by have h := er_785 (q - 786) (by omega); rwa [show 786 + (q - 786) = q by omega] at h) j hj) (by rw [Rt.1]; exact Nat.le_of_ble_eq_true rfl) (by rw [Rt.1]; exact Nat.le_of_ble_eq_true rfl) dX12_init_414 rfl ?_
  refine at_putfF 421 X hin 125 12 61 clX12 rfl (by decide) w_1806 (KT_get (by decide) k_125) rfl (by decide) rfl (fun q => absurd q (by decide)) dX12_init_418 rfl ?_
  rw [ob_wr]
  refine at_aload_n 422 X rfl rfl dX12_init_421 rfl ?_
  refine at_bipush 424 X (by decide) (by decide) dX12_init_422 rfl ?_
  refine c_newaZ 426 811 X (n := 40) rfl (by decide) k_811 (by decide) (by decide) (ovZ0 e_811) (by rw [Rt.1]; exact Nat.le_of_ble_eq_true rfl) (by rw [Rt.1]; exact Nat.le_of_ble_eq_true rfl) dX12_init_424 rfl ?_
  refine at_putfF 429 X hin 125 12 64 clX12 rfl (by decide) w_1809 (KT_get (by decide) k_125) rfl (by decide) rfl (fun q => absurd q (by decide)) dX12_init_426 rfl ?_
  rw [ob_wr]
  refine at_aload_n 430 X rfl rfl dX12_init_429 rfl ?_
  refine at_bipush 432 X (by decide) (by decide) dX12_init_430 rfl ?_
  refine c_newaZ 434 812 X (n := 40) rfl (by decide) k_812 (by decide) (by decide) (ovZ0 e_812) (by rw [Rt.1]; exact Nat.le_of_ble_eq_true rfl) (by rw [Rt.1]; exact Nat.le_of_ble_eq_true rfl) dX12_init_432 rfl ?_
  refine at_putfF 437 X hin 125 12 65 clX12 rfl (by decide) w_1810 (KT_get (by decide) k_125) rfl (by decide) rfl (fun q => absurd q (by decide)) dX12_init_434 rfl ?_
  rw [ob_wr]
  refine at_agree (eM_agr hD0) ?_
  refine at_aload_n 438 X rfl rfl dX12_init_437 rfl ?_
  refine at_callV 441 X _ 12 (ct_X12_tellsNothing hG (by decide) eM) clX12 rfl (KT_get (by decide) k_125) mo_X12_tellsNothing w_1734 vo_X12_tellsNothing.1 vo_X12_tellsNothing.2 rfl rfl (crm Rt (by decide)) (Nat.le_of_ble_eq_true rfl) dX12_init_438 rfl ?_
  rintro _ _ ⟨rfl, rfl⟩
  refine at_aload_n 442 X rfl rfl dX12_init_441 rfl ?_
  refine at_callV 445 X _ 12 (ct_X12_stands hG (by decide) (tellsN eM) T0 (by decide +kernel) (by decide) (by decide) (by decide) (by decide) (by decide) (by decide) (by decide +kernel)) clX12 rfl (KT_get (by decide) k_125) mo_X12_stands w_1738 vo_X12_stands.1 vo_X12_stands.2 rfl rfl (crm Rt (by decide)) (Nat.le_of_ble_eq_true rfl) dX12_init_442 rfl ?_
  rintro _ _ ⟨rfl, rfl⟩
  refine at_agree (eM_end hD0) ?_
  exact at_vret X Rt ⟨rfl, rfl⟩ (Nat.le_of_ble_eq_true rfl) (Nat.le_of_ble_eq_true rfl) dX12_init_445
