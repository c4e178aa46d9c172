theorem dX12_thrown_0 : decode cX12_thrown 0 = .ok (.aload_n 0, 1) := by decide +kernel
theorem dX12_thrown_1 : decode cX12_thrown 1 = .ok (.getfield 152, 3) := by decide +kernel
theorem dX12_thrown_4 : decode cX12_thrown 4 = .ok (.ireturn, 1) := by decide +kernel
theorem ct_X12_thrown {g : Gw} (hG : GF g) {z : Bool} (E : Mm) : CT g yX12_thrown cX12_thrown 1 (some .int) 0 0 0 0 K2 z [mR 125] (ov E) K2 z (fun r D' => r = some (mI (E 125 0)) ∧ D' = ov E) := by
  refine CT.mk hG (by decide +kernel) (Nat.le_of_ble_eq_true rfl) (fun κ X Rt _ ok => ?_)
  refine at_aload_n 1 X rfl rfl dX12_thrown_0 rfl ?_
  refine m_getI 4 X f_X12_152 k_125 rn_125_0 dX12_thrown_1 rfl ?_
  refine at_iret X Rt ⟨rfl, rfl⟩ (Nat.le_refl _) (Nat.le_refl _) dX12_thrown_4
theorem lcmp_eq {x y : Int} (h : x = y) : lcmpI x y = 0 := by
  subst h
  unfold lcmpI
  simp
theorem dL_law__264 : decode code 264 = .ok (.aload_n 1, 1) := by decide +kernel
theorem dL_law__265 : decode code 265 = .ok (.aload_n 0, 1) := by decide +kernel
theorem dL_law__266 : decode code 266 = .ok (.iload 4, 2) := by decide +kernel
theorem dL_law__268 : decode code 268 = .ok (.iconst 1, 1) := by decide +kernel
theorem dL_law__269 : decode code 269 = .ok (.iadd, 1) := by decide +kernel
theorem dL_law__270 : decode code 270 = .ok (.iaload, 1) := by decide +kernel
theorem dL_law__271 : decode code 271 = .ok (.aload_n 0, 1) := by decide +kernel
theorem dL_law__272 : decode code 272 = .ok (.iload 4, 2) := by decide +kernel
theorem dL_law__274 : decode code 274 = .ok (.iconst 2, 1) := by decide +kernel
theorem dL_law__275 : decode code 275 = .ok (.iadd, 1) := by decide +kernel
theorem dL_law__276 : decode code 276 = .ok (.iaload, 1) := by decide +kernel
theorem dL_law__277 : decode code 277 = .ok (.aload_n 0, 1) := by decide +kernel
theorem dL_law__278 : decode code 278 = .ok (.iload 4, 2) := by decide +kernel
theorem dL_law__280 : decode code 280 = .ok (.iconst 3, 1) := by decide +kernel
theorem dL_law__281 : decode code 281 = .ok (.iadd, 1) := by decide +kernel
theorem dL_law__282 : decode code 282 = .ok (.iaload, 1) := by decide +kernel
theorem dL_law__283 : decode code 283 = .ok (.aload_n 0, 1) := by decide +kernel
theorem dL_law__284 : decode code 284 = .ok (.iload 4, 2) := by decide +kernel
theorem dL_law__286 : decode code 286 = .ok (.iconst 4, 1) := by decide +kernel
theorem dL_law__287 : decode code 287 = .ok (.iadd, 1) := by decide +kernel
theorem dL_law__288 : decode code 288 = .ok (.iaload, 1) := by decide +kernel
theorem dL_law__289 : decode code 289 = .ok (.aload_n 0, 1) := by decide +kernel
theorem dL_law__290 : decode code 290 = .ok (.iload 4, 2) := by decide +kernel
theorem dL_law__292 : decode code 292 = .ok (.iconst 5, 1) := by decide +kernel
theorem dL_law__293 : decode code 293 = .ok (.iadd, 1) := by decide +kernel
theorem dL_law__294 : decode code 294 = .ok (.iaload, 1) := by decide +kernel
theorem dL_law__295 : decode code 295 = .ok (.invokevirtual 150, 3) := by decide +kernel
theorem dL_law__298 : decode code 298 = .ok (.aload_n 2, 1) := by decide +kernel
theorem dL_law__299 : decode code 299 = .ok (.aload_n 0, 1) := by decide +kernel
theorem dL_law__300 : decode code 300 = .ok (.iload 4, 2) := by decide +kernel
theorem dL_law__302 : decode code 302 = .ok (.iconst 1, 1) := by decide +kernel
theorem dL_law__303 : decode code 303 = .ok (.iadd, 1) := by decide +kernel
theorem dL_law__304 : decode code 304 = .ok (.iaload, 1) := by decide +kernel
theorem dL_law__305 : decode code 305 = .ok (.aload_n 0, 1) := by decide +kernel
theorem dL_law__306 : decode code 306 = .ok (.iload 4, 2) := by decide +kernel
theorem dL_law__308 : decode code 308 = .ok (.iconst 2, 1) := by decide +kernel
theorem dL_law__309 : decode code 309 = .ok (.iadd, 1) := by decide +kernel
theorem dL_law__310 : decode code 310 = .ok (.iaload, 1) := by decide +kernel
theorem dL_law__311 : decode code 311 = .ok (.aload_n 0, 1) := by decide +kernel
theorem dL_law__312 : decode code 312 = .ok (.iload 4, 2) := by decide +kernel
theorem dL_law__314 : decode code 314 = .ok (.iconst 3, 1) := by decide +kernel
theorem dL_law__315 : decode code 315 = .ok (.iadd, 1) := by decide +kernel
theorem dL_law__316 : decode code 316 = .ok (.iaload, 1) := by decide +kernel
theorem dL_law__317 : decode code 317 = .ok (.aload_n 0, 1) := by decide +kernel
theorem dL_law__318 : decode code 318 = .ok (.iload 4, 2) := by decide +kernel
theorem dL_law__320 : decode code 320 = .ok (.iconst 4, 1) := by decide +kernel
theorem dL_law__321 : decode code 321 = .ok (.iadd, 1) := by decide +kernel
theorem dL_law__322 : decode code 322 = .ok (.iaload, 1) := by decide +kernel
theorem dL_law__323 : decode code 323 = .ok (.aload_n 0, 1) := by decide +kernel
theorem dL_law__324 : decode code 324 = .ok (.iload 4, 2) := by decide +kernel
theorem dL_law__326 : decode code 326 = .ok (.iconst 5, 1) := by decide +kernel
theorem dL_law__327 : decode code 327 = .ok (.iadd, 1) := by decide +kernel
theorem dL_law__328 : decode code 328 = .ok (.iaload, 1) := by decide +kernel
theorem dL_law__329 : decode code 329 = .ok (.invokevirtual 153, 3) := by decide +kernel
theorem dL_law__332 : decode code 332 = .ok (.if_icmp .eq 3034, 3) := by decide +kernel
theorem dL_law__335 : decode code 335 = .ok (.iconst 0, 1) := by decide +kernel
theorem dL_law__336 : decode code 336 = .ok (.ireturn, 1) := by decide +kernel
theorem case_0 {INV INV' : Mm → Prop} {g : Gw} {p : Program} {e : Env} {s : State} {m : MethodId} {below : List Frame} {meth : Method} {c : Code} {b L : Nat} {xs : Nat → Int32} (hL : L ≤ 3072) (hG : GF g) (X : CX g (KL p e s m below meth c b) code R_law 8) (S : SCR g (KL p e s m below meth c b) b L xs) {fr lo mc ms fr2 lo2 : Nat} (M : Mm → Int → Int → Int → Int → Int → Int → Mm → Prop) (hX : ∀ (E : Mm) (x0 x1 x2 x3 x4 : Int), INV E → CT g yX11_feed cX11_feed 6 (some .int) fr lo mc ms K2 false [mR 0, mI x0, mI x1, mI x2, mI x3, mI x4] (ov E) K2 false (fun r D' => ∃ (v : Int) (E1 : Mm), r = some (mI v) ∧ D' = ov E1 ∧ M E x0 x1 x2 x3 x4 v E1)) (hM : ∀ (E : Mm) (x0 x1 x2 x3 x4 : Int) (v : Int) (E1 : Mm), INV E → M E x0 x1 x2 x3 x4 v E1 → CT g yX12_feed cX12_feed 8 (some .int) fr2 lo2 0 0 K2 false [mR 125, mI x0, mI x1, mI x2, mI x3, mI x4] (ov E1) K2 false (fun r D' => ∃ E2 : Mm, r = some (mI v) ∧ D' = ov E2 ∧ INV' E2)) (hr1 : fr + 1 ≤ room_1.frames ∧ 8 + (6 + 11) + lo ≤ room_1.locals) (hr2 : fr2 + 1 ≤ room_1.frames ∧ 8 + (8 + 11) + lo2 ≤ room_1.locals) (hmc : mc ≤ 10) (hms : ms ≤ 100) (E : Mm) (n cells slots : Nat) (hE : INV E) (hn : n + 6 ≤ L) (hc : cells + 10 ≤ 601024) (hs : slots + 100 ≤ 7293034) (hend : ∀ E' : Mm, INV' E' → AT g (KL p e s m below meth c b) K2 false (cells + 10) (slots + 100) 3366 (lawL b n) [] (ov E')) : AT g (KL p e s m below meth c b) K2 false cells slots 264 (lawL b n) [] (ov E) := by
  refine at_aload_n 265 X rfl rfl dL_law__264 rfl ?_
  refine at_xload_n 266 X rfl rfl dL_law__265 rfl ?_
  refine at_iload 268 X rfl dL_law__266 rfl ?_
  refine at_iconst 269 X (by decide) dL_law__268 rfl ?_
  refine at_iadd 270 X dL_law__269 rfl ?_
  rw [w32_id (by omega) (by omega)]
  refine at_xint 271 X S (by omega) (by omega) dL_law__270 rfl ?_
  refine at_xload_n 272 X rfl rfl dL_law__271 rfl ?_
  refine at_iload 274 X rfl dL_law__272 rfl ?_
  refine at_iconst 275 X (by decide) dL_law__274 rfl ?_
  refine at_iadd 276 X dL_law__275 rfl ?_
  rw [w32_id (by omega) (by omega)]
  refine at_xint 277 X S (by omega) (by omega) dL_law__276 rfl ?_
  refine at_xload_n 278 X rfl rfl dL_law__277 rfl ?_
  refine at_iload 280 X rfl dL_law__278 rfl ?_
  refine at_iconst 281 X (by decide) dL_law__280 rfl ?_
  refine at_iadd 282 X dL_law__281 rfl ?_
  rw [w32_id (by omega) (by omega)]
  refine at_xint 283 X S (by omega) (by omega) dL_law__282 rfl ?_
  refine at_xload_n 284 X rfl rfl dL_law__283 rfl ?_
  refine at_iload 286 X rfl dL_law__284 rfl ?_
  refine at_iconst 287 X (by decide) dL_law__286 rfl ?_
  refine at_iadd 288 X dL_law__287 rfl ?_
  rw [w32_id (by omega) (by omega)]
  refine at_xint 289 X S (by omega) (by omega) dL_law__288 rfl ?_
  refine at_xload_n 290 X rfl rfl dL_law__289 rfl ?_
  refine at_iload 292 X rfl dL_law__290 rfl ?_
  refine at_iconst 293 X (by decide) dL_law__292 rfl ?_
  refine at_iadd 294 X dL_law__293 rfl ?_
  rw [w32_id (by omega) (by omega)]
  refine at_xint 295 X S (by omega) (by omega) dL_law__294 rfl ?_
  refine at_callV 298 X _ 11 (hX E _ _ _ _ _ hE) clX11 rfl k_0 mo_X11_feed w_645 vo_X11_feed.1 vo_X11_feed.2 rfl rfl (crl ⟨by omega, by omega⟩ (by omega) (by omega)) (Nat.le_of_ble_eq_true rfl) dL_law__295 rfl ?_
  rintro _ _ ⟨v, E1, rfl, rfl, hM1⟩
  refine at_aload_n 299 X rfl rfl dL_law__298 rfl ?_
  refine at_xload_n 300 X rfl rfl dL_law__299 rfl ?_
  refine at_iload 302 X rfl dL_law__300 rfl ?_
  refine at_iconst 303 X (by decide) dL_law__302 rfl ?_
  refine at_iadd 304 X dL_law__303 rfl ?_
  rw [w32_id (by omega) (by omega)]
  refine at_xint 305 X S (by omega) (by omega) dL_law__304 rfl ?_
  refine at_xload_n 306 X rfl rfl dL_law__305 rfl ?_
  refine at_iload 308 X rfl dL_law__306 rfl ?_
  refine at_iconst 309 X (by decide) dL_law__308 rfl ?_
  refine at_iadd 310 X dL_law__309 rfl ?_
  rw [w32_id (by omega) (by omega)]
  refine at_xint 311 X S (by omega) (by omega) dL_law__310 rfl ?_
  refine at_xload_n 312 X rfl rfl dL_law__311 rfl ?_
  refine at_iload 314 X rfl dL_law__312 rfl ?_
  refine at_iconst 315 X (by decide) dL_law__314 rfl ?_
  refine at_iadd 316 X dL_law__315 rfl ?_
  rw [w32_id (by omega) (by omega)]
  refine at_xint 317 X S (by omega) (by omega) dL_law__316 rfl ?_
  refine at_xload_n 318 X rfl rfl dL_law__317 rfl ?_
  refine at_iload 320 X rfl dL_law__318 rfl ?_
  refine at_iconst 321 X (by decide) dL_law__320 rfl ?_
  refine at_iadd 322 X dL_law__321 rfl ?_
  rw [w32_id (by omega) (by omega)]
  refine at_xint 323 X S (by omega) (by omega) dL_law__322 rfl ?_
  refine at_xload_n 324 X rfl rfl dL_law__323 rfl ?_
  refine at_iload 326 X rfl dL_law__324 rfl ?_
  refine at_iconst 327 X (by decide) dL_law__326 rfl ?_
  refine at_iadd 328 X dL_law__327 rfl ?_
  rw [w32_id (by omega) (by omega)]
  refine at_xint 329 X S (by omega) (by omega) dL_law__328 rfl ?_
  refine at_callV 332 X _ 12 (hM E _ _ _ _ _ _ _ hE hM1) clX12 rfl k_125 mo_X12_feed w_1949 vo_X12_feed.1 vo_X12_feed.2 rfl rfl (crl ⟨by omega, by omega⟩ (by omega) (by omega)) (Nat.le_of_ble_eq_true rfl) dL_law__329 rfl ?_
  rintro _ _ ⟨E2, rfl, rfl, hE2⟩
  refine at_icmp_eq 335 3366 X dL_law__332 rfl (by decide) (fun _ => ?_) (fun h => absurd rfl h)
  exact at_sub _ (by exact ⟨rfl, rfl, rfl, rfl, rfl, trivial⟩) (at_widen (by omega) (by omega) (hend E2 hE2))
theorem dL_law__337 : decode code 337 = .ok (.aload_n 1, 1) := by decide +kernel
theorem dL_law__338 : decode code 338 = .ok (.aload_n 0, 1) := by decide +kernel
theorem dL_law__339 : decode code 339 = .ok (.iload 4, 2) := by decide +kernel
theorem dL_law__341 : decode code 341 = .ok (.iconst 1, 1) := by decide +kernel
theorem dL_law__342 : decode code 342 = .ok (.iadd, 1) := by decide +kernel
theorem dL_law__343 : decode code 343 = .ok (.iaload, 1) := by decide +kernel
theorem dL_law__344 : decode code 344 = .ok (.aload_n 3, 1) := by decide +kernel
theorem dL_law__345 : decode code 345 = .ok (.invokestatic 154, 3) := by decide +kernel
theorem dL_law__348 : decode code 348 = .ok (.istore 5, 2) := by decide +kernel
theorem dL_law__350 : decode code 350 = .ok (.aload_n 2, 1) := by decide +kernel
theorem dL_law__351 : decode code 351 = .ok (.aload_n 0, 1) := by decide +kernel
theorem dL_law__352 : decode code 352 = .ok (.iload 4, 2) := by decide +kernel
theorem dL_law__354 : decode code 354 = .ok (.iconst 1, 1) := by decide +kernel
theorem dL_law__355 : decode code 355 = .ok (.iadd, 1) := by decide +kernel
theorem dL_law__356 : decode code 356 = .ok (.iaload, 1) := by decide +kernel
theorem dL_law__357 : decode code 357 = .ok (.invokevirtual 159, 3) := by decide +kernel
theorem dL_law__360 : decode code 360 = .ok (.istore 6, 2) := by decide +kernel
theorem dL_law__362 : decode code 362 = .ok (.aload_n 2, 1) := by decide +kernel
theorem dL_law__363 : decode code 363 = .ok (.invokevirtual 160, 3) := by decide +kernel
theorem dL_law__366 : decode code 366 = .ok (.iload 5, 2) := by decide +kernel
theorem dL_law__368 : decode code 368 = .ok (.if_icmp .eq 5, 3) := by decide +kernel
theorem dL_law__371 : decode code 371 = .ok (.iconst 0, 1) := by decide +kernel
theorem dL_law__372 : decode code 372 = .ok (.ireturn, 1) := by decide +kernel
theorem dL_law__373 : decode code 373 = .ok (.iload 5, 2) := by decide +kernel
theorem dL_law__375 : decode code 375 = .ok (.ifCond .ne 15, 3) := by decide +kernel
theorem dL_law__378 : decode code 378 = .ok (.aload_n 3, 1) := by decide +kernel
theorem dL_law__379 : decode code 379 = .ok (.iconst 0, 1) := by decide +kernel
theorem dL_law__380 : decode code 380 = .ok (.laload, 1) := by decide +kernel
theorem dL_law__381 : decode code 381 = .ok (.iload 6, 2) := by decide +kernel
theorem dL_law__383 : decode code 383 = .ok (.i2l, 1) := by decide +kernel
theorem dL_law__384 : decode code 384 = .ok (.lcmp, 1) := by decide +kernel
theorem dL_law__385 : decode code 385 = .ok (.ifCond .eq 5, 3) := by decide +kernel
theorem dL_law__388 : decode code 388 = .ok (.iconst 0, 1) := by decide +kernel
theorem dL_law__389 : decode code 389 = .ok (.ireturn, 1) := by decide +kernel
theorem dL_law__390 : decode code 390 = .ok (.goto 2976, 3) := by decide +kernel
theorem case_1 {INV INV' : Mm → Prop} {g : Gw} {p : Program} {e : Env} {s : State} {m : MethodId} {below : List Frame} {meth : Method} {c : Code} {b L : Nat} {xs : Nat → Int32} (hL : L ≤ 3072) (hG : GF g) (X : CX g (KL p e s m below meth c b) code R_law 8) (S : SCR g (KL p e s m below meth c b) b L xs) {fr lo mc ms fr2 lo2 : Nat} (M : Mm → Int → Nat → Int → Mm → Prop) (hX : ∀ (E : Mm) (x0 : Int), INV E → CTX g yX11_street cX11_street 3 (some .int) fr lo mc ms K2 false [mR 0, mI x0] (ov E) K2 false (fun r D' => ∃ (v : Int) (E1 : Mm), r = some (mI v) ∧ D' = ov E1 ∧ M E x0 0 v E1) (fun X D' => ∃ (c : Nat) (E1 : Mm), ((c = 1 ∧ X = "java/lang/IllegalArgumentException")) ∧ D' = ov E1 ∧ M E x0 c 0 E1)) (hM : ∀ (E : Mm) (x0 : Int) (c : Nat) (v : Int) (E1 : Mm), INV E → M E x0 c v E1 → CT g yX12_street cX12_street 2 (some .int) fr2 lo2 0 0 K2 false [mR 125, mI x0] (ov (if c = 0 then wr E1 813 0 v else E1)) K2 false (fun r D' => ∃ (bb : Int) (E2 : Mm), r = some (mI bb) ∧ D' = ov E2 ∧ INV' E2 ∧ E2 125 0 = (c : Int) ∧ (c = 0 → E2 813 0 = bb))) (hr1 : fr + 2 ≤ room_1.frames ∧ 8 + (4 + 11) + (lo + 22) ≤ room_1.locals) (hr2 : fr2 + 1 ≤ room_1.frames ∧ 8 + (2 + 11) + lo2 ≤ room_1.locals) (hmc : mc ≤ 10) (hms : ms ≤ 100) (E : Mm) (n cells slots : Nat) (hE : INV E) (hn : n + 6 ≤ L) (hc : cells + 10 ≤ 601024) (hs : slots + 100 ≤ 7293034) (hend : ∀ E' : Mm, INV' E' → AT g (KL p e s m below meth c b) K2 false (cells + 10) (slots + 100) 3366 (lawL b n) [] (ov E')) : AT g (KL p e s m below meth c b) K2 false cells slots 337 (lawL b n) [] (ov E) := by
  refine at_aload_n 338 X rfl rfl dL_law__337 rfl ?_
  refine at_xload_n 339 X rfl rfl dL_law__338 rfl ?_
  refine at_iload 341 X rfl dL_law__339 rfl ?_
  refine at_iconst 342 X (by decide) dL_law__341 rfl ?_
  refine at_iadd 343 X dL_law__342 rfl ?_
  rw [w32_id (by omega) (by omega)]
  refine at_xint 344 X S (by omega) (by omega) dL_law__343 rfl ?_
  refine at_aload_n 345 X rfl rfl dL_law__344 rfl ?_
  refine at_callSH (n := 3) 348 X (lh_street hG E _ (M E _) (hX E _ hE)) w_853 w_120 rfl (by decide +kernel) w_851 w_852 rfl rfl (crl ⟨by omega, by omega⟩ (by omega) (by omega)) (Nat.le_of_ble_eq_true rfl) dL_law__345 rfl ?_
  rintro _ _ ⟨cc, v, E1, rfl, hM1, rfl⟩
  refine at_istore 350 X dL_law__348 rfl (by decide) ?_
  refine at_aload_n 351 X rfl rfl dL_law__350 rfl ?_
  refine at_xload_n 352 X rfl rfl dL_law__351 rfl ?_
  refine at_iload 354 X rfl dL_law__352 rfl ?_
  refine at_iconst 355 X (by decide) dL_law__354 rfl ?_
  refine at_iadd 356 X dL_law__355 rfl ?_
  rw [w32_id (by omega) (by omega)]
  refine at_xint 357 X S (by omega) (by omega) dL_law__356 rfl ?_
  refine at_callV 360 X _ 12 (hM E _ _ _ _ hE hM1) clX12 rfl k_125 mo_X12_street w_1953 vo_X12_street.1 vo_X12_street.2 rfl rfl (crl ⟨by omega, by omega⟩ (by omega) (by omega)) (Nat.le_of_ble_eq_true rfl) dL_law__357 rfl ?_
  rintro _ _ ⟨bb, E2, rfl, rfl, hE2, hth, hbb⟩
  refine at_istore 362 X dL_law__360 rfl (by decide) ?_
  refine at_aload_n 363 X rfl rfl dL_law__362 rfl ?_
  refine at_callV 366 X _ 12 (ct_X12_thrown hG E2) clX12 rfl k_125 mo_X12_thrown w_1945 vo_X12_thrown.1 vo_X12_thrown.2 rfl rfl (crl ⟨Nat.le_of_ble_eq_true rfl, Nat.le_of_ble_eq_true rfl⟩ (by omega) (by omega)) (Nat.le_of_ble_eq_true rfl) dL_law__363 rfl ?_
  rintro _ _ ⟨rfl, rfl⟩
  rw [hth]
  refine at_iload 368 X rfl dL_law__366 rfl ?_
  refine at_icmp_eq 371 373 X dL_law__368 rfl (by decide) (fun _ => ?_) (fun h => absurd rfl h)
  refine at_iload 375 X rfl dL_law__373 rfl ?_
  refine at_if_ne 378 390 X dL_law__375 rfl (by decide) (fun h => ?_) (fun h => ?_)
  · refine at_goto 3366 X dL_law__390 (by decide) ?_
    exact at_sub _ (by exact ⟨rfl, rfl, rfl, rfl, rfl, trivial⟩) (at_widen (by omega) (by omega) (hend E2 hE2))
  · have hc0 : cc = 0 := by omega
    have hbb := hbb hc0
    refine at_aload_n 379 X rfl rfl dL_law__378 rfl ?_
    refine at_iconst 380 X (by decide) dL_law__379 rfl ?_
    refine m_laload 381 X k_813 e_813 (by decide) (by decide) dL_law__380 rfl ?_
    refine at_iload 383 X rfl dL_law__381 rfl ?_
    refine at_i2l 384 X dL_law__383 rfl ?_
    refine at_lcmp 385 X dL_law__384 rfl ?_
    refine at_if_eq 388 390 X dL_law__385 rfl (by decide) (fun _ => ?_) (fun h => absurd (lcmp_eq (by first | exact hbb | (rw [show (0 : Int).toNat = 0 from rfl, hbb]; omega))) h)
    refine at_goto 3366 X dL_law__390 (by decide) ?_
    exact at_sub _ (by exact ⟨rfl, rfl, rfl, rfl, rfl, trivial⟩) (at_widen (by omega) (by omega) (hend E2 hE2))
theorem dL_law__393 : decode code 393 = .ok (.aload_n 1, 1) := by decide +kernel
theorem dL_law__394 : decode code 394 = .ok (.aload_n 0, 1) := by decide +kernel
theorem dL_law__395 : decode code 395 = .ok (.iload 4, 2) := by decide +kernel
theorem dL_law__397 : decode code 397 = .ok (.iconst 1, 1) := by decide +kernel
theorem dL_law__398 : decode code 398 = .ok (.iadd, 1) := by decide +kernel
theorem dL_law__399 : decode code 399 = .ok (.iaload, 1) := by decide +kernel
theorem dL_law__400 : decode code 400 = .ok (.aload_n 3, 1) := by decide +kernel
theorem dL_law__401 : decode code 401 = .ok (.invokestatic 164, 3) := by decide +kernel
theorem dL_law__404 : decode code 404 = .ok (.istore 5, 2) := by decide +kernel
theorem dL_law__406 : decode code 406 = .ok (.aload_n 2, 1) := by decide +kernel
theorem dL_law__407 : decode code 407 = .ok (.aload_n 0, 1) := by decide +kernel
theorem dL_law__408 : decode code 408 = .ok (.iload 4, 2) := by decide +kernel
theorem dL_law__410 : decode code 410 = .ok (.iconst 1, 1) := by decide +kernel
theorem dL_law__411 : decode code 411 = .ok (.iadd, 1) := by decide +kernel
theorem dL_law__412 : decode code 412 = .ok (.iaload, 1) := by decide +kernel
theorem dL_law__413 : decode code 413 = .ok (.invokevirtual 166, 3) := by decide +kernel
theorem dL_law__416 : decode code 416 = .ok (.istore 6, 2) := by decide +kernel
theorem dL_law__418 : decode code 418 = .ok (.aload_n 2, 1) := by decide +kernel
theorem dL_law__419 : decode code 419 = .ok (.invokevirtual 160, 3) := by decide +kernel
theorem dL_law__422 : decode code 422 = .ok (.iload 5, 2) := by decide +kernel
theorem dL_law__424 : decode code 424 = .ok (.if_icmp .eq 5, 3) := by decide +kernel
theorem dL_law__427 : decode code 427 = .ok (.iconst 0, 1) := by decide +kernel
theorem dL_law__428 : decode code 428 = .ok (.ireturn, 1) := by decide +kernel
theorem dL_law__429 : decode code 429 = .ok (.iload 5, 2) := by decide +kernel
theorem dL_law__431 : decode code 431 = .ok (.ifCond .ne 15, 3) := by decide +kernel
theorem dL_law__434 : decode code 434 = .ok (.aload_n 3, 1) := by decide +kernel
theorem dL_law__435 : decode code 435 = .ok (.iconst 0, 1) := by decide +kernel
theorem dL_law__436 : decode code 436 = .ok (.laload, 1) := by decide +kernel
theorem dL_law__437 : decode code 437 = .ok (.iload 6, 2) := by decide +kernel
theorem dL_law__439 : decode code 439 = .ok (.i2l, 1) := by decide +kernel
theorem dL_law__440 : decode code 440 = .ok (.lcmp, 1) := by decide +kernel
theorem dL_law__441 : decode code 441 = .ok (.ifCond .eq 5, 3) := by decide +kernel
theorem dL_law__444 : decode code 444 = .ok (.iconst 0, 1) := by decide +kernel
theorem dL_law__445 : decode code 445 = .ok (.ireturn, 1) := by decide +kernel
theorem dL_law__446 : decode code 446 = .ok (.goto 2920, 3) := by decide +kernel
theorem case_2 {INV INV' : Mm → Prop} {g : Gw} {p : Program} {e : Env} {s : State} {m : MethodId} {below : List Frame} {meth : Method} {c : Code} {b L : Nat} {xs : Nat → Int32} (hL : L ≤ 3072) (hG : GF g) (X : CX g (KL p e s m below meth c b) code R_law 8) (S : SCR g (KL p e s m below meth c b) b L xs) {fr lo mc ms fr2 lo2 : Nat} (M : Mm → Int → Nat → Int → Mm → Prop) (hX : ∀ (E : Mm) (x0 : Int), INV E → CTX g yX11_law cX11_law 2 (some .int) fr lo mc ms K2 false [mR 0, mI x0] (ov E) K2 false (fun r D' => ∃ (v : Int) (E1 : Mm), r = some (mI v) ∧ D' = ov E1 ∧ M E x0 0 v E1) (fun X D' => ∃ (c : Nat) (E1 : Mm), ((c = 1 ∧ X = "java/lang/IllegalArgumentException")) ∧ D' = ov E1 ∧ M E x0 c 0 E1)) (hM : ∀ (E : Mm) (x0 : Int) (c : Nat) (v : Int) (E1 : Mm), INV E → M E x0 c v E1 → CT g yX12_law cX12_law 4 (some .int) fr2 lo2 0 0 K2 false [mR 125, mI x0] (ov (if c = 0 then wr E1 813 0 v else E1)) K2 false (fun r D' => ∃ (bb : Int) (E2 : Mm), r = some (mI bb) ∧ D' = ov E2 ∧ INV' E2 ∧ E2 125 0 = (c : Int) ∧ (c = 0 → E2 813 0 = bb))) (hr1 : fr + 2 ≤ room_1.frames ∧ 8 + (4 + 11) + (lo + 21) ≤ room_1.locals) (hr2 : fr2 + 1 ≤ room_1.frames ∧ 8 + (4 + 11) + lo2 ≤ room_1.locals) (hmc : mc ≤ 10) (hms : ms ≤ 100) (E : Mm) (n cells slots : Nat) (hE : INV E) (hn : n + 6 ≤ L) (hc : cells + 10 ≤ 601024) (hs : slots + 100 ≤ 7293034) (hend : ∀ E' : Mm, INV' E' → AT g (KL p e s m below meth c b) K2 false (cells + 10) (slots + 100) 3366 (lawL b n) [] (ov E')) : AT g (KL p e s m below meth c b) K2 false cells slots 393 (lawL b n) [] (ov E) := by
  refine at_aload_n 394 X rfl rfl dL_law__393 rfl ?_
  refine at_xload_n 395 X rfl rfl dL_law__394 rfl ?_
  refine at_iload 397 X rfl dL_law__395 rfl ?_
  refine at_iconst 398 X (by decide) dL_law__397 rfl ?_
  refine at_iadd 399 X dL_law__398 rfl ?_
  rw [w32_id (by omega) (by omega)]
  refine at_xint 400 X S (by omega) (by omega) dL_law__399 rfl ?_
  refine at_aload_n 401 X rfl rfl dL_law__400 rfl ?_
  refine at_callSH (n := 3) 404 X (lh_law hG E _ (M E _) (hX E _ hE)) w_1107 w_120 rfl (by decide +kernel) w_1105 w_1106 rfl rfl (crl ⟨by omega, by omega⟩ (by omega) (by omega)) (Nat.le_of_ble_eq_true rfl) dL_law__401 rfl ?_
  rintro _ _ ⟨cc, v, E1, rfl, hM1, rfl⟩
  refine at_istore 406 X dL_law__404 rfl (by decide) ?_
  refine at_aload_n 407 X rfl rfl dL_law__406 rfl ?_
  refine at_xload_n 408 X rfl rfl dL_law__407 rfl ?_
  refine at_iload 410 X rfl dL_law__408 rfl ?_
  refine at_iconst 411 X (by decide) dL_law__410 rfl ?_
  refine at_iadd 412 X dL_law__411 rfl ?_
  rw [w32_id (by omega) (by omega)]
  refine at_xint 413 X S (by omega) (by omega) dL_law__412 rfl ?_
  refine at_callV 416 X _ 12 (hM E _ _ _ _ hE hM1) clX12 rfl k_125 mo_X12_law w_2038 vo_X12_law.1 vo_X12_law.2 rfl rfl (crl ⟨by omega, by omega⟩ (by omega) (by omega)) (Nat.le_of_ble_eq_true rfl) dL_law__413 rfl ?_
  rintro _ _ ⟨bb, E2, rfl, rfl, hE2, hth, hbb⟩
  refine at_istore 418 X dL_law__416 rfl (by decide) ?_
  refine at_aload_n 419 X rfl rfl dL_law__418 rfl ?_
  refine at_callV 422 X _ 12 (ct_X12_thrown hG E2) clX12 rfl k_125 mo_X12_thrown w_1945 vo_X12_thrown.1 vo_X12_thrown.2 rfl rfl (crl ⟨Nat.le_of_ble_eq_true rfl, Nat.le_of_ble_eq_true rfl⟩ (by omega) (by omega)) (Nat.le_of_ble_eq_true rfl) dL_law__419 rfl ?_
  rintro _ _ ⟨rfl, rfl⟩
  rw [hth]
  refine at_iload 424 X rfl dL_law__422 rfl ?_
  refine at_icmp_eq 427 429 X dL_law__424 rfl (by decide) (fun _ => ?_) (fun h => absurd rfl h)
  refine at_iload 431 X rfl dL_law__429 rfl ?_
  refine at_if_ne 434 446 X dL_law__431 rfl (by decide) (fun h => ?_) (fun h => ?_)
  · refine at_goto 3366 X dL_law__446 (by decide) ?_
    exact at_sub _ (by exact ⟨rfl, rfl, rfl, rfl, rfl, trivial⟩) (at_widen (by omega) (by omega) (hend E2 hE2))
  · have hc0 : cc = 0 := by omega
    have hbb := hbb hc0
    refine at_aload_n 435 X rfl rfl dL_law__434 rfl ?_
    refine at_iconst 436 X (by decide) dL_law__435 rfl ?_
    refine m_laload 437 X k_813 e_813 (by decide) (by decide) dL_law__436 rfl ?_
    refine at_iload 439 X rfl dL_law__437 rfl ?_
    refine at_i2l 440 X dL_law__439 rfl ?_
    refine at_lcmp 441 X dL_law__440 rfl ?_
    refine at_if_eq 444 446 X dL_law__441 rfl (by decide) (fun _ => ?_) (fun h => absurd (lcmp_eq (by first | exact hbb | (rw [show (0 : Int).toNat = 0 from rfl, hbb]; omega))) h)
    refine at_goto 3366 X dL_law__446 (by decide) ?_
    exact at_sub _ (by exact ⟨rfl, rfl, rfl, rfl, rfl, trivial⟩) (at_widen (by omega) (by omega) (hend E2 hE2))
theorem dL_law__449 : decode code 449 = .ok (.aload_n 1, 1) := by decide +kernel
theorem dL_law__450 : decode code 450 = .ok (.aload_n 0, 1) := by decide +kernel
theorem dL_law__451 : decode code 451 = .ok (.iload 4, 2) := by decide +kernel
theorem dL_law__453 : decode code 453 = .ok (.iconst 1, 1) := by decide +kernel
theorem dL_law__454 : decode code 454 = .ok (.iadd, 1) := by decide +kernel
theorem dL_law__455 : decode code 455 = .ok (.iaload, 1) := by decide +kernel
theorem dL_law__456 : decode code 456 = .ok (.aload_n 3, 1) := by decide +kernel
theorem dL_law__457 : decode code 457 = .ok (.invokestatic 167, 3) := by decide +kernel
theorem dL_law__460 : decode code 460 = .ok (.istore 5, 2) := by decide +kernel
theorem dL_law__462 : decode code 462 = .ok (.aload_n 2, 1) := by decide +kernel
theorem dL_law__463 : decode code 463 = .ok (.aload_n 0, 1) := by decide +kernel
theorem dL_law__464 : decode code 464 = .ok (.iload 4, 2) := by decide +kernel
theorem dL_law__466 : decode code 466 = .ok (.iconst 1, 1) := by decide +kernel
theorem dL_law__467 : decode code 467 = .ok (.iadd, 1) := by decide +kernel
theorem dL_law__468 : decode code 468 = .ok (.iaload, 1) := by decide +kernel
theorem dL_law__469 : decode code 469 = .ok (.invokevirtual 169, 3) := by decide +kernel
theorem dL_law__472 : decode code 472 = .ok (.istore 6, 2) := by decide +kernel
theorem dL_law__474 : decode code 474 = .ok (.aload_n 2, 1) := by decide +kernel
theorem dL_law__475 : decode code 475 = .ok (.invokevirtual 160, 3) := by decide +kernel
theorem dL_law__478 : decode code 478 = .ok (.iload 5, 2) := by decide +kernel
theorem dL_law__480 : decode code 480 = .ok (.if_icmp .eq 5, 3) := by decide +kernel
theorem dL_law__483 : decode code 483 = .ok (.iconst 0, 1) := by decide +kernel
theorem dL_law__484 : decode code 484 = .ok (.ireturn, 1) := by decide +kernel
theorem dL_law__485 : decode code 485 = .ok (.iload 5, 2) := by decide +kernel
theorem dL_law__487 : decode code 487 = .ok (.ifCond .ne 15, 3) := by decide +kernel
theorem dL_law__490 : decode code 490 = .ok (.aload_n 3, 1) := by decide +kernel
theorem dL_law__491 : decode code 491 = .ok (.iconst 0, 1) := by decide +kernel
theorem dL_law__492 : decode code 492 = .ok (.laload, 1) := by decide +kernel
theorem dL_law__493 : decode code 493 = .ok (.iload 6, 2) := by decide +kernel
theorem dL_law__495 : decode code 495 = .ok (.i2l, 1) := by decide +kernel
theorem dL_law__496 : decode code 496 = .ok (.lcmp, 1) := by decide +kernel
theorem dL_law__497 : decode code 497 = .ok (.ifCond .eq 5, 3) := by decide +kernel
theorem dL_law__500 : decode code 500 = .ok (.iconst 0, 1) := by decide +kernel
theorem dL_law__501 : decode code 501 = .ok (.ireturn, 1) := by decide +kernel
theorem dL_law__502 : decode code 502 = .ok (.goto 2864, 3) := by decide +kernel
theorem case_3 {INV INV' : Mm → Prop} {g : Gw} {p : Program} {e : Env} {s : State} {m : MethodId} {below : List Frame} {meth : Method} {c : Code} {b L : Nat} {xs : Nat → Int32} (hL : L ≤ 3072) (hG : GF g) (X : CX g (KL p e s m below meth c b) code R_law 8) (S : SCR g (KL p e s m below meth c b) b L xs) {fr lo mc ms fr2 lo2 : Nat} (M : Mm → Int → Nat → Int → Mm → Prop) (hX : ∀ (E : Mm) (x0 : Int), INV E → CTX g yX11_moves cX11_moves 2 (some .int) fr lo mc ms K2 false [mR 0, mI x0] (ov E) K2 false (fun r D' => ∃ (v : Int) (E1 : Mm), r = some (mI v) ∧ D' = ov E1 ∧ M E x0 0 v E1) (fun X D' => ∃ (c : Nat) (E1 : Mm), ((c = 1 ∧ X = "java/lang/IllegalArgumentException")) ∧ D' = ov E1 ∧ M E x0 c 0 E1)) (hM : ∀ (E : Mm) (x0 : Int) (c : Nat) (v : Int) (E1 : Mm), INV E → M E x0 c v E1 → CT g yX12_moves cX12_moves 7 (some .int) fr2 lo2 0 0 K2 false [mR 125, mI x0] (ov (if c = 0 then wr E1 813 0 v else E1)) K2 false (fun r D' => ∃ (bb : Int) (E2 : Mm), r = some (mI bb) ∧ D' = ov E2 ∧ INV' E2 ∧ E2 125 0 = (c : Int) ∧ (c = 0 → E2 813 0 = bb))) (hr1 : fr + 2 ≤ room_1.frames ∧ 8 + (4 + 11) + (lo + 21) ≤ room_1.locals) (hr2 : fr2 + 1 ≤ room_1.frames ∧ 8 + (7 + 11) + lo2 ≤ room_1.locals) (hmc : mc ≤ 10) (hms : ms ≤ 100) (E : Mm) (n cells slots : Nat) (hE : INV E) (hn : n + 6 ≤ L) (hc : cells + 10 ≤ 601024) (hs : slots + 100 ≤ 7293034) (hend : ∀ E' : Mm, INV' E' → AT g (KL p e s m below meth c b) K2 false (cells + 10) (slots + 100) 3366 (lawL b n) [] (ov E')) : AT g (KL p e s m below meth c b) K2 false cells slots 449 (lawL b n) [] (ov E) := by
  refine at_aload_n 450 X rfl rfl dL_law__449 rfl ?_
  refine at_xload_n 451 X rfl rfl dL_law__450 rfl ?_
  refine at_iload 453 X rfl dL_law__451 rfl ?_
  refine at_iconst 454 X (by decide) dL_law__453 rfl ?_
  refine at_iadd 455 X dL_law__454 rfl ?_
  rw [w32_id (by omega) (by omega)]
  refine at_xint 456 X S (by omega) (by omega) dL_law__455 rfl ?_
  refine at_aload_n 457 X rfl rfl dL_law__456 rfl ?_
  refine at_callSH (n := 3) 460 X (lh_moves hG E _ (M E _) (hX E _ hE)) w_1159 w_120 rfl (by decide +kernel) w_1157 w_1158 rfl rfl (crl ⟨by omega, by omega⟩ (by omega) (by omega)) (Nat.le_of_ble_eq_true rfl) dL_law__457 rfl ?_
  rintro _ _ ⟨cc, v, E1, rfl, hM1, rfl⟩
  refine at_istore 462 X dL_law__460 rfl (by decide) ?_
  refine at_aload_n 463 X rfl rfl dL_law__462 rfl ?_
  refine at_xload_n 464 X rfl rfl dL_law__463 rfl ?_
  refine at_iload 466 X rfl dL_law__464 rfl ?_
  refine at_iconst 467 X (by decide) dL_law__466 rfl ?_
  refine at_iadd 468 X dL_law__467 rfl ?_
  rw [w32_id (by omega) (by omega)]
  refine at_xint 469 X S (by omega) (by omega) dL_law__468 rfl ?_
  refine at_callV 472 X _ 12 (hM E _ _ _ _ hE hM1) clX12 rfl k_125 mo_X12_moves w_2094 vo_X12_moves.1 vo_X12_moves.2 rfl rfl (crl ⟨by omega, by omega⟩ (by omega) (by omega)) (Nat.le_of_ble_eq_true rfl) dL_law__469 rfl ?_
  rintro _ _ ⟨bb, E2, rfl, rfl, hE2, hth, hbb⟩
  refine at_istore 474 X dL_law__472 rfl (by decide) ?_
  refine at_aload_n 475 X rfl rfl dL_law__474 rfl ?_
  refine at_callV 478 X _ 12 (ct_X12_thrown hG E2) clX12 rfl k_125 mo_X12_thrown w_1945 vo_X12_thrown.1 vo_X12_thrown.2 rfl rfl (crl ⟨Nat.le_of_ble_eq_true rfl, Nat.le_of_ble_eq_true rfl⟩ (by omega) (by omega)) (Nat.le_of_ble_eq_true rfl) dL_law__475 rfl ?_
  rintro _ _ ⟨rfl, rfl⟩
  rw [hth]
  refine at_iload 480 X rfl dL_law__478 rfl ?_
  refine at_icmp_eq 483 485 X dL_law__480 rfl (by decide) (fun _ => ?_) (fun h => absurd rfl h)
  refine at_iload 487 X rfl dL_law__485 rfl ?_
  refine at_if_ne 490 502 X dL_law__487 rfl (by decide) (fun h => ?_) (fun h => ?_)
  · refine at_goto 3366 X dL_law__502 (by decide) ?_
    exact at_sub _ (by exact ⟨rfl, rfl, rfl, rfl, rfl, trivial⟩) (at_widen (by omega) (by omega) (hend E2 hE2))
  · have hc0 : cc = 0 := by omega
    have hbb := hbb hc0
    refine at_aload_n 491 X rfl rfl dL_law__490 rfl ?_
    refine at_iconst 492 X (by decide) dL_law__491 rfl ?_
    refine m_laload 493 X k_813 e_813 (by decide) (by decide) dL_law__492 rfl ?_
    refine at_iload 495 X rfl dL_law__493 rfl ?_
    refine at_i2l 496 X dL_law__495 rfl ?_
    refine at_lcmp 497 X dL_law__496 rfl ?_
    refine at_if_eq 500 502 X dL_law__497 rfl (by decide) (fun _ => ?_) (fun h => absurd (lcmp_eq (by first | exact hbb | (rw [show (0 : Int).toNat = 0 from rfl, hbb]; omega))) h)
    refine at_goto 3366 X dL_law__502 (by decide) ?_
    exact at_sub _ (by exact ⟨rfl, rfl, rfl, rfl, rfl, trivial⟩) (at_widen (by omega) (by omega) (hend E2 hE2))
theorem dL_law__505 : decode code 505 = .ok (.aload_n 1, 1) := by decide +kernel
theorem dL_law__506 : decode code 506 = .ok (.aload_n 0, 1) := by decide +kernel
theorem dL_law__507 : decode code 507 = .ok (.iload 4, 2) := by decide +kernel
theorem dL_law__509 : decode code 509 = .ok (.iconst 1, 1) := by decide +kernel
theorem dL_law__510 : decode code 510 = .ok (.iadd, 1) := by decide +kernel
theorem dL_law__511 : decode code 511 = .ok (.iaload, 1) := by decide +kernel
theorem dL_law__512 : decode code 512 = .ok (.aload_n 3, 1) := by decide +kernel
theorem dL_law__513 : decode code 513 = .ok (.invokestatic 170, 3) := by decide +kernel
theorem dL_law__516 : decode code 516 = .ok (.istore 5, 2) := by decide +kernel
theorem dL_law__518 : decode code 518 = .ok (.aload_n 2, 1) := by decide +kernel
theorem dL_law__519 : decode code 519 = .ok (.aload_n 0, 1) := by decide +kernel
theorem dL_law__520 : decode code 520 = .ok (.iload 4, 2) := by decide +kernel
theorem dL_law__522 : decode code 522 = .ok (.iconst 1, 1) := by decide +kernel
theorem dL_law__523 : decode code 523 = .ok (.iadd, 1) := by decide +kernel
theorem dL_law__524 : decode code 524 = .ok (.iaload, 1) := by decide +kernel
theorem dL_law__525 : decode code 525 = .ok (.invokevirtual 172, 3) := by decide +kernel
theorem dL_law__528 : decode code 528 = .ok (.istore 6, 2) := by decide +kernel
theorem dL_law__530 : decode code 530 = .ok (.aload_n 2, 1) := by decide +kernel
theorem dL_law__531 : decode code 531 = .ok (.invokevirtual 160, 3) := by decide +kernel
theorem dL_law__534 : decode code 534 = .ok (.iload 5, 2) := by decide +kernel
theorem dL_law__536 : decode code 536 = .ok (.if_icmp .eq 5, 3) := by decide +kernel
theorem dL_law__539 : decode code 539 = .ok (.iconst 0, 1) := by decide +kernel
theorem dL_law__540 : decode code 540 = .ok (.ireturn, 1) := by decide +kernel
theorem dL_law__541 : decode code 541 = .ok (.iload 5, 2) := by decide +kernel
theorem dL_law__543 : decode code 543 = .ok (.ifCond .ne 15, 3) := by decide +kernel
theorem dL_law__546 : decode code 546 = .ok (.aload_n 3, 1) := by decide +kernel
theorem dL_law__547 : decode code 547 = .ok (.iconst 0, 1) := by decide +kernel
theorem dL_law__548 : decode code 548 = .ok (.laload, 1) := by decide +kernel
theorem dL_law__549 : decode code 549 = .ok (.iload 6, 2) := by decide +kernel
theorem dL_law__551 : decode code 551 = .ok (.i2l, 1) := by decide +kernel
theorem dL_law__552 : decode code 552 = .ok (.lcmp, 1) := by decide +kernel
theorem dL_law__553 : decode code 553 = .ok (.ifCond .eq 5, 3) := by decide +kernel
theorem dL_law__556 : decode code 556 = .ok (.iconst 0, 1) := by decide +kernel
theorem dL_law__557 : decode code 557 = .ok (.ireturn, 1) := by decide +kernel
theorem dL_law__558 : decode code 558 = .ok (.goto 2808, 3) := by decide +kernel
theorem case_4 {INV INV' : Mm → Prop} {g : Gw} {p : Program} {e : Env} {s : State} {m : MethodId} {below : List Frame} {meth : Method} {c : Code} {b L : Nat} {xs : Nat → Int32} (hL : L ≤ 3072) (hG : GF g) (X : CX g (KL p e s m below meth c b) code R_law 8) (S : SCR g (KL p e s m below meth c b) b L xs) {fr lo mc ms fr2 lo2 : Nat} (M : Mm → Int → Nat → Int → Mm → Prop) (hX : ∀ (E : Mm) (x0 : Int), INV E → CTX g yX11_book cX11_book 2 (some .int) fr lo mc ms K2 false [mR 0, mI x0] (ov E) K2 false (fun r D' => ∃ (v : Int) (E1 : Mm), r = some (mI v) ∧ D' = ov E1 ∧ M E x0 0 v E1) (fun X D' => ∃ (c : Nat) (E1 : Mm), ((c = 1 ∧ X = "java/lang/IllegalArgumentException")) ∧ D' = ov E1 ∧ M E x0 c 0 E1)) (hM : ∀ (E : Mm) (x0 : Int) (c : Nat) (v : Int) (E1 : Mm), INV E → M E x0 c v E1 → CT g yX12_book cX12_book 6 (some .int) fr2 lo2 0 0 K2 false [mR 125, mI x0] (ov (if c = 0 then wr E1 813 0 v else E1)) K2 false (fun r D' => ∃ (bb : Int) (E2 : Mm), r = some (mI bb) ∧ D' = ov E2 ∧ INV' E2 ∧ E2 125 0 = (c : Int) ∧ (c = 0 → E2 813 0 = bb))) (hr1 : fr + 2 ≤ room_1.frames ∧ 8 + (4 + 11) + (lo + 21) ≤ room_1.locals) (hr2 : fr2 + 1 ≤ room_1.frames ∧ 8 + (6 + 11) + lo2 ≤ room_1.locals) (hmc : mc ≤ 10) (hms : ms ≤ 100) (E : Mm) (n cells slots : Nat) (hE : INV E) (hn : n + 6 ≤ L) (hc : cells + 10 ≤ 601024) (hs : slots + 100 ≤ 7293034) (hend : ∀ E' : Mm, INV' E' → AT g (KL p e s m below meth c b) K2 false (cells + 10) (slots + 100) 3366 (lawL b n) [] (ov E')) : AT g (KL p e s m below meth c b) K2 false cells slots 505 (lawL b n) [] (ov E) := by
  refine at_aload_n 506 X rfl rfl dL_law__505 rfl ?_
  refine at_xload_n 507 X rfl rfl dL_law__506 rfl ?_
  refine at_iload 509 X rfl dL_law__507 rfl ?_
  refine at_iconst 510 X (by decide) dL_law__509 rfl ?_
  refine at_iadd 511 X dL_law__510 rfl ?_
  rw [w32_id (by omega) (by omega)]
  refine at_xint 512 X S (by omega) (by omega) dL_law__511 rfl ?_
  refine at_aload_n 513 X rfl rfl dL_law__512 rfl ?_
  refine at_callSH (n := 3) 516 X (lh_book hG E _ (M E _) (hX E _ hE)) w_1183 w_120 rfl (by decide +kernel) w_1181 w_1182 rfl rfl (crl ⟨by omega, by omega⟩ (by omega) (by omega)) (Nat.le_of_ble_eq_true rfl) dL_law__513 rfl ?_
  rintro _ _ ⟨cc, v, E1, rfl, hM1, rfl⟩
  refine at_istore 518 X dL_law__516 rfl (by decide) ?_
  refine at_aload_n 519 X rfl rfl dL_law__518 rfl ?_
  refine at_xload_n 520 X rfl rfl dL_law__519 rfl ?_
  refine at_iload 522 X rfl dL_law__520 rfl ?_
  refine at_iconst 523 X (by decide) dL_law__522 rfl ?_
  refine at_iadd 524 X dL_law__523 rfl ?_
  rw [w32_id (by omega) (by omega)]
  refine at_xint 525 X S (by omega) (by omega) dL_law__524 rfl ?_
  refine at_callV 528 X _ 12 (hM E _ _ _ _ hE hM1) clX12 rfl k_125 mo_X12_book w_2098 vo_X12_book.1 vo_X12_book.2 rfl rfl (crl ⟨by omega, by omega⟩ (by omega) (by omega)) (Nat.le_of_ble_eq_true rfl) dL_law__525 rfl ?_
  rintro _ _ ⟨bb, E2, rfl, rfl, hE2, hth, hbb⟩
  refine at_istore 530 X dL_law__528 rfl (by decide) ?_
  refine at_aload_n 531 X rfl rfl dL_law__530 rfl ?_
  refine at_callV 534 X _ 12 (ct_X12_thrown hG E2) clX12 rfl k_125 mo_X12_thrown w_1945 vo_X12_thrown.1 vo_X12_thrown.2 rfl rfl (crl ⟨Nat.le_of_ble_eq_true rfl, Nat.le_of_ble_eq_true rfl⟩ (by omega) (by omega)) (Nat.le_of_ble_eq_true rfl) dL_law__531 rfl ?_
  rintro _ _ ⟨rfl, rfl⟩
  rw [hth]
  refine at_iload 536 X rfl dL_law__534 rfl ?_
  refine at_icmp_eq 539 541 X dL_law__536 rfl (by decide) (fun _ => ?_) (fun h => absurd rfl h)
  refine at_iload 543 X rfl dL_law__541 rfl ?_
  refine at_if_ne 546 558 X dL_law__543 rfl (by decide) (fun h => ?_) (fun h => ?_)
  · refine at_goto 3366 X dL_law__558 (by decide) ?_
    exact at_sub _ (by exact ⟨rfl, rfl, rfl, rfl, rfl, trivial⟩) (at_widen (by omega) (by omega) (hend E2 hE2))
  · have hc0 : cc = 0 := by omega
    have hbb := hbb hc0
    refine at_aload_n 547 X rfl rfl dL_law__546 rfl ?_
    refine at_iconst 548 X (by decide) dL_law__547 rfl ?_
    refine m_laload 549 X k_813 e_813 (by decide) (by decide) dL_law__548 rfl ?_
    refine at_iload 551 X rfl dL_law__549 rfl ?_
    refine at_i2l 552 X dL_law__551 rfl ?_
    refine at_lcmp 553 X dL_law__552 rfl ?_
    refine at_if_eq 556 558 X dL_law__553 rfl (by decide) (fun _ => ?_) (fun h => absurd (lcmp_eq (by first | exact hbb | (rw [show (0 : Int).toNat = 0 from rfl, hbb]; omega))) h)
    refine at_goto 3366 X dL_law__558 (by decide) ?_
    exact at_sub _ (by exact ⟨rfl, rfl, rfl, rfl, rfl, trivial⟩) (at_widen (by omega) (by omega) (hend E2 hE2))
theorem dL_law__561 : decode code 561 = .ok (.aload_n 1, 1) := by decide +kernel
theorem dL_law__562 : decode code 562 = .ok (.invokevirtual 173, 3) := by decide +kernel
theorem dL_law__565 : decode code 565 = .ok (.aload_n 2, 1) := by decide +kernel
theorem dL_law__566 : decode code 566 = .ok (.invokevirtual 176, 3) := by decide +kernel
theorem dL_law__569 : decode code 569 = .ok (.if_icmp .eq 2797, 3) := by decide +kernel
theorem dL_law__572 : decode code 572 = .ok (.iconst 0, 1) := by decide +kernel
theorem dL_law__573 : decode code 573 = .ok (.ireturn, 1) := by decide +kernel
theorem case_5 {INV INV' : Mm → Prop} {g : Gw} {p : Program} {e : Env} {s : State} {m : MethodId} {below : List Frame} {meth : Method} {c : Code} {b L : Nat} {xs : Nat → Int32} (hL : L ≤ 3072) (hG : GF g) (X : CX g (KL p e s m below meth c b) code R_law 8) (S : SCR g (KL p e s m below meth c b) b L xs) {fr lo mc ms fr2 lo2 : Nat} (M : Mm → Int → Mm → Prop) (hX : ∀ (E : Mm), INV E → CT g yX11_fault cX11_fault 1 (some .int) fr lo mc ms K2 false [mR 0] (ov E) K2 false (fun r D' => ∃ (v : Int) (E1 : Mm), r = some (mI v) ∧ D' = ov E1 ∧ M E  v E1)) (hM : ∀ (E : Mm) (v : Int) (E1 : Mm), INV E → M E  v E1 → CT g yX12_fault cX12_fault 1 (some .int) fr2 lo2 0 0 K2 false [mR 125] (ov E1) K2 false (fun r D' => ∃ E2 : Mm, r = some (mI v) ∧ D' = ov E2 ∧ INV' E2)) (hr1 : fr + 1 ≤ room_1.frames ∧ 8 + (1 + 11) + lo ≤ room_1.locals) (hr2 : fr2 + 1 ≤ room_1.frames ∧ 8 + (1 + 11) + lo2 ≤ room_1.locals) (hmc : mc ≤ 10) (hms : ms ≤ 100) (E : Mm) (n cells slots : Nat) (hE : INV E) (hn : n + 6 ≤ L) (hc : cells + 10 ≤ 601024) (hs : slots + 100 ≤ 7293034) (hend : ∀ E' : Mm, INV' E' → AT g (KL p e s m below meth c b) K2 false (cells + 10) (slots + 100) 3366 (lawL b n) [] (ov E')) : AT g (KL p e s m below meth c b) K2 false cells slots 561 (lawL b n) [] (ov E) := by
  refine at_aload_n 562 X rfl rfl dL_law__561 rfl ?_
  refine at_callV 565 X _ 11 (hX E  hE) clX11 rfl k_0 mo_X11_fault w_657 vo_X11_fault.1 vo_X11_fault.2 rfl rfl (crl ⟨by omega, by omega⟩ (by omega) (by omega)) (Nat.le_of_ble_eq_true rfl) dL_law__562 rfl ?_
  rintro _ _ ⟨v, E1, rfl, rfl, hM1⟩
  refine at_aload_n 566 X rfl rfl dL_law__565 rfl ?_
  refine at_callV 569 X _ 12 (hM E  _ _ hE hM1) clX12 rfl k_125 mo_X12_fault w_2102 vo_X12_fault.1 vo_X12_fault.2 rfl rfl (crl ⟨by omega, by omega⟩ (by omega) (by omega)) (Nat.le_of_ble_eq_true rfl) dL_law__566 rfl ?_
  rintro _ _ ⟨E2, rfl, rfl, hE2⟩
  refine at_icmp_eq 572 3366 X dL_law__569 rfl (by decide) (fun _ => ?_) (fun h => absurd rfl h)
  exact at_sub _ (by exact ⟨rfl, rfl, rfl, rfl, rfl, trivial⟩) (at_widen (by omega) (by omega) (hend E2 hE2))
theorem dL_law__574 : decode code 574 = .ok (.aload_n 1, 1) := by decide +kernel
theorem dL_law__575 : decode code 575 = .ok (.aload_n 0, 1) := by decide +kernel
theorem dL_law__576 : decode code 576 = .ok (.iload 4, 2) := by decide +kernel
theorem dL_law__578 : decode code 578 = .ok (.iconst 1, 1) := by decide +kernel
theorem dL_law__579 : decode code 579 = .ok (.iadd, 1) := by decide +kernel
theorem dL_law__580 : decode code 580 = .ok (.iaload, 1) := by decide +kernel
theorem dL_law__581 : decode code 581 = .ok (.aload_n 3, 1) := by decide +kernel
theorem dL_law__582 : decode code 582 = .ok (.invokestatic 177, 3) := by decide +kernel
theorem dL_law__585 : decode code 585 = .ok (.istore 5, 2) := by decide +kernel
theorem dL_law__587 : decode code 587 = .ok (.aload_n 2, 1) := by decide +kernel
theorem dL_law__588 : decode code 588 = .ok (.aload_n 0, 1) := by decide +kernel
theorem dL_law__589 : decode code 589 = .ok (.iload 4, 2) := by decide +kernel
theorem dL_law__591 : decode code 591 = .ok (.iconst 1, 1) := by decide +kernel
theorem dL_law__592 : decode code 592 = .ok (.iadd, 1) := by decide +kernel
theorem dL_law__593 : decode code 593 = .ok (.iaload, 1) := by decide +kernel
theorem dL_law__594 : decode code 594 = .ok (.invokevirtual 179, 3) := by decide +kernel
theorem dL_law__597 : decode code 597 = .ok (.istore 6, 2) := by decide +kernel
theorem dL_law__599 : decode code 599 = .ok (.aload_n 2, 1) := by decide +kernel
theorem dL_law__600 : decode code 600 = .ok (.invokevirtual 160, 3) := by decide +kernel
theorem dL_law__603 : decode code 603 = .ok (.iload 5, 2) := by decide +kernel
theorem dL_law__605 : decode code 605 = .ok (.if_icmp .eq 5, 3) := by decide +kernel
theorem dL_law__608 : decode code 608 = .ok (.iconst 0, 1) := by decide +kernel
theorem dL_law__609 : decode code 609 = .ok (.ireturn, 1) := by decide +kernel
theorem dL_law__610 : decode code 610 = .ok (.iload 5, 2) := by decide +kernel
theorem dL_law__612 : decode code 612 = .ok (.ifCond .ne 15, 3) := by decide +kernel
theorem dL_law__615 : decode code 615 = .ok (.aload_n 3, 1) := by decide +kernel
theorem dL_law__616 : decode code 616 = .ok (.iconst 0, 1) := by decide +kernel
theorem dL_law__617 : decode code 617 = .ok (.laload, 1) := by decide +kernel
theorem dL_law__618 : decode code 618 = .ok (.iload 6, 2) := by decide +kernel
theorem dL_law__620 : decode code 620 = .ok (.i2l, 1) := by decide +kernel
theorem dL_law__621 : decode code 621 = .ok (.lcmp, 1) := by decide +kernel
theorem dL_law__622 : decode code 622 = .ok (.ifCond .eq 5, 3) := by decide +kernel
theorem dL_law__625 : decode code 625 = .ok (.iconst 0, 1) := by decide +kernel
theorem dL_law__626 : decode code 626 = .ok (.ireturn, 1) := by decide +kernel
theorem dL_law__627 : decode code 627 = .ok (.goto 2739, 3) := by decide +kernel
theorem case_6 {INV INV' : Mm → Prop} {g : Gw} {p : Program} {e : Env} {s : State} {m : MethodId} {below : List Frame} {meth : Method} {c : Code} {b L : Nat} {xs : Nat → Int32} (hL : L ≤ 3072) (hG : GF g) (X : CX g (KL p e s m below meth c b) code R_law 8) (S : SCR g (KL p e s m below meth c b) b L xs) {fr lo mc ms fr2 lo2 : Nat} (M : Mm → Int → Nat → Int → Mm → Prop) (hX : ∀ (E : Mm) (x0 : Int), INV E → CTX g yX11_told cX11_told 2 (some .int) fr lo mc ms K2 false [mR 0, mI x0] (ov E) K2 false (fun r D' => ∃ (v : Int) (E1 : Mm), r = some (mI v) ∧ D' = ov E1 ∧ M E x0 0 v E1) (fun X D' => ∃ (c : Nat) (E1 : Mm), ((c = 1 ∧ X = "java/lang/IllegalArgumentException")) ∧ D' = ov E1 ∧ M E x0 c 0 E1)) (hM : ∀ (E : Mm) (x0 : Int) (c : Nat) (v : Int) (E1 : Mm), INV E → M E x0 c v E1 → CT g yX12_told cX12_told 2 (some .int) fr2 lo2 0 0 K2 false [mR 125, mI x0] (ov (if c = 0 then wr E1 813 0 v else E1)) K2 false (fun r D' => ∃ (bb : Int) (E2 : Mm), r = some (mI bb) ∧ D' = ov E2 ∧ INV' E2 ∧ E2 125 0 = (c : Int) ∧ (c = 0 → E2 813 0 = bb))) (hr1 : fr + 2 ≤ room_1.frames ∧ 8 + (4 + 11) + (lo + 21) ≤ room_1.locals) (hr2 : fr2 + 1 ≤ room_1.frames ∧ 8 + (2 + 11) + lo2 ≤ room_1.locals) (hmc : mc ≤ 10) (hms : ms ≤ 100) (E : Mm) (n cells slots : Nat) (hE : INV E) (hn : n + 6 ≤ L) (hc : cells + 10 ≤ 601024) (hs : slots + 100 ≤ 7293034) (hend : ∀ E' : Mm, INV' E' → AT g (KL p e s m below meth c b) K2 false (cells + 10) (slots + 100) 3366 (lawL b n) [] (ov E')) : AT g (KL p e s m below meth c b) K2 false cells slots 574 (lawL b n) [] (ov E) := by
  refine at_aload_n 575 X rfl rfl dL_law__574 rfl ?_
  refine at_xload_n 576 X rfl rfl dL_law__575 rfl ?_
  refine at_iload 578 X rfl dL_law__576 rfl ?_
  refine at_iconst 579 X (by decide) dL_law__578 rfl ?_
  refine at_iadd 580 X dL_law__579 rfl ?_
  rw [w32_id (by omega) (by omega)]
  refine at_xint 581 X S (by omega) (by omega) dL_law__580 rfl ?_
  refine at_aload_n 582 X rfl rfl dL_law__581 rfl ?_
  refine at_callSH (n := 3) 585 X (lh_told hG E _ (M E _) (hX E _ hE)) w_1194 w_120 rfl (by decide +kernel) w_1192 w_1193 rfl rfl (crl ⟨by omega, by omega⟩ (by omega) (by omega)) (Nat.le_of_ble_eq_true rfl) dL_law__582 rfl ?_
  rintro _ _ ⟨cc, v, E1, rfl, hM1, rfl⟩
  refine at_istore 587 X dL_law__585 rfl (by decide) ?_
  refine at_aload_n 588 X rfl rfl dL_law__587 rfl ?_
  refine at_xload_n 589 X rfl rfl dL_law__588 rfl ?_
  refine at_iload 591 X rfl dL_law__589 rfl ?_
  refine at_iconst 592 X (by decide) dL_law__591 rfl ?_
  refine at_iadd 593 X dL_law__592 rfl ?_
  rw [w32_id (by omega) (by omega)]
  refine at_xint 594 X S (by omega) (by omega) dL_law__593 rfl ?_
  refine at_callV 597 X _ 12 (hM E _ _ _ _ hE hM1) clX12 rfl k_125 mo_X12_told w_2106 vo_X12_told.1 vo_X12_told.2 rfl rfl (crl ⟨by omega, by omega⟩ (by omega) (by omega)) (Nat.le_of_ble_eq_true rfl) dL_law__594 rfl ?_
  rintro _ _ ⟨bb, E2, rfl, rfl, hE2, hth, hbb⟩
  refine at_istore 599 X dL_law__597 rfl (by decide) ?_
  refine at_aload_n 600 X rfl rfl dL_law__599 rfl ?_
  refine at_callV 603 X _ 12 (ct_X12_thrown hG E2) clX12 rfl k_125 mo_X12_thrown w_1945 vo_X12_thrown.1 vo_X12_thrown.2 rfl rfl (crl ⟨Nat.le_of_ble_eq_true rfl, Nat.le_of_ble_eq_true rfl⟩ (by omega) (by omega)) (Nat.le_of_ble_eq_true rfl) dL_law__600 rfl ?_
  rintro _ _ ⟨rfl, rfl⟩
  rw [hth]
  refine at_iload 605 X rfl dL_law__603 rfl ?_
  refine at_icmp_eq 608 610 X dL_law__605 rfl (by decide) (fun _ => ?_) (fun h => absurd rfl h)
  refine at_iload 612 X rfl dL_law__610 rfl ?_
  refine at_if_ne 615 627 X dL_law__612 rfl (by decide) (fun h => ?_) (fun h => ?_)
  · refine at_goto 3366 X dL_law__627 (by decide) ?_
    exact at_sub _ (by exact ⟨rfl, rfl, rfl, rfl, rfl, trivial⟩) (at_widen (by omega) (by omega) (hend E2 hE2))
  · have hc0 : cc = 0 := by omega
    have hbb := hbb hc0
    refine at_aload_n 616 X rfl rfl dL_law__615 rfl ?_
    refine at_iconst 617 X (by decide) dL_law__616 rfl ?_
    refine m_laload 618 X k_813 e_813 (by decide) (by decide) dL_law__617 rfl ?_
    refine at_iload 620 X rfl dL_law__618 rfl ?_
    refine at_i2l 621 X dL_law__620 rfl ?_
    refine at_lcmp 622 X dL_law__621 rfl ?_
    refine at_if_eq 625 627 X dL_law__622 rfl (by decide) (fun _ => ?_) (fun h => absurd (lcmp_eq (by first | exact hbb | (rw [show (0 : Int).toNat = 0 from rfl, hbb]; omega))) h)
    refine at_goto 3366 X dL_law__627 (by decide) ?_
    exact at_sub _ (by exact ⟨rfl, rfl, rfl, rfl, rfl, trivial⟩) (at_widen (by omega) (by omega) (hend E2 hE2))
theorem dL_law__630 : decode code 630 = .ok (.aload_n 1, 1) := by decide +kernel
theorem dL_law__631 : decode code 631 = .ok (.aload_n 0, 1) := by decide +kernel
theorem dL_law__632 : decode code 632 = .ok (.iload 4, 2) := by decide +kernel
theorem dL_law__634 : decode code 634 = .ok (.iconst 1, 1) := by decide +kernel
theorem dL_law__635 : decode code 635 = .ok (.iadd, 1) := by decide +kernel
theorem dL_law__636 : decode code 636 = .ok (.iaload, 1) := by decide +kernel
theorem dL_law__637 : decode code 637 = .ok (.aload_n 0, 1) := by decide +kernel
theorem dL_law__638 : decode code 638 = .ok (.iload 4, 2) := by decide +kernel
theorem dL_law__640 : decode code 640 = .ok (.iconst 2, 1) := by decide +kernel
theorem dL_law__641 : decode code 641 = .ok (.iadd, 1) := by decide +kernel
theorem dL_law__642 : decode code 642 = .ok (.iaload, 1) := by decide +kernel
theorem dL_law__643 : decode code 643 = .ok (.aload_n 3, 1) := by decide +kernel
theorem dL_law__644 : decode code 644 = .ok (.invokestatic 180, 3) := by decide +kernel
theorem dL_law__647 : decode code 647 = .ok (.istore 5, 2) := by decide +kernel
theorem dL_law__649 : decode code 649 = .ok (.aload_n 2, 1) := by decide +kernel
theorem dL_law__650 : decode code 650 = .ok (.aload_n 0, 1) := by decide +kernel
theorem dL_law__651 : decode code 651 = .ok (.iload 4, 2) := by decide +kernel
theorem dL_law__653 : decode code 653 = .ok (.iconst 1, 1) := by decide +kernel
theorem dL_law__654 : decode code 654 = .ok (.iadd, 1) := by decide +kernel
theorem dL_law__655 : decode code 655 = .ok (.iaload, 1) := by decide +kernel
theorem dL_law__656 : decode code 656 = .ok (.aload_n 0, 1) := by decide +kernel
theorem dL_law__657 : decode code 657 = .ok (.iload 4, 2) := by decide +kernel
theorem dL_law__659 : decode code 659 = .ok (.iconst 2, 1) := by decide +kernel
theorem dL_law__660 : decode code 660 = .ok (.iadd, 1) := by decide +kernel
theorem dL_law__661 : decode code 661 = .ok (.iaload, 1) := by decide +kernel
theorem dL_law__662 : decode code 662 = .ok (.invokevirtual 183, 3) := by decide +kernel
theorem dL_law__665 : decode code 665 = .ok (.istore 6, 2) := by decide +kernel
theorem dL_law__667 : decode code 667 = .ok (.aload_n 2, 1) := by decide +kernel
theorem dL_law__668 : decode code 668 = .ok (.invokevirtual 160, 3) := by decide +kernel
theorem dL_law__671 : decode code 671 = .ok (.iload 5, 2) := by decide +kernel
theorem dL_law__673 : decode code 673 = .ok (.if_icmp .eq 5, 3) := by decide +kernel
theorem dL_law__676 : decode code 676 = .ok (.iconst 0, 1) := by decide +kernel
theorem dL_law__677 : decode code 677 = .ok (.ireturn, 1) := by decide +kernel
theorem dL_law__678 : decode code 678 = .ok (.iload 5, 2) := by decide +kernel
theorem dL_law__680 : decode code 680 = .ok (.ifCond .ne 15, 3) := by decide +kernel
theorem dL_law__683 : decode code 683 = .ok (.aload_n 3, 1) := by decide +kernel
theorem dL_law__684 : decode code 684 = .ok (.iconst 0, 1) := by decide +kernel
theorem dL_law__685 : decode code 685 = .ok (.laload, 1) := by decide +kernel
theorem dL_law__686 : decode code 686 = .ok (.iload 6, 2) := by decide +kernel
theorem dL_law__688 : decode code 688 = .ok (.i2l, 1) := by decide +kernel
theorem dL_law__689 : decode code 689 = .ok (.lcmp, 1) := by decide +kernel
theorem dL_law__690 : decode code 690 = .ok (.ifCond .eq 5, 3) := by decide +kernel
theorem dL_law__693 : decode code 693 = .ok (.iconst 0, 1) := by decide +kernel
theorem dL_law__694 : decode code 694 = .ok (.ireturn, 1) := by decide +kernel
theorem dL_law__695 : decode code 695 = .ok (.goto 2671, 3) := by decide +kernel
theorem case_7 {INV INV' : Mm → Prop} {g : Gw} {p : Program} {e : Env} {s : State} {m : MethodId} {below : List Frame} {meth : Method} {c : Code} {b L : Nat} {xs : Nat → Int32} (hL : L ≤ 3072) (hG : GF g) (X : CX g (KL p e s m below meth c b) code R_law 8) (S : SCR g (KL p e s m below meth c b) b L xs) {fr lo mc ms fr2 lo2 : Nat} (M : Mm → Int → Int → Nat → Int → Mm → Prop) (hX : ∀ (E : Mm) (x0 x1 : Int), INV E → CTX g yX11_post cX11_post 3 (some .int) fr lo mc ms K2 false [mR 0, mI x0, mI x1] (ov E) K2 false (fun r D' => ∃ (v : Int) (E1 : Mm), r = some (mI v) ∧ D' = ov E1 ∧ M E x0 x1 0 v E1) (fun X D' => ∃ (c : Nat) (E1 : Mm), ((c = 1 ∧ X = "java/util/NoSuchElementException") ∨ (c = 2 ∧ X = "java/lang/IllegalArgumentException")) ∧ D' = ov E1 ∧ M E x0 x1 c 0 E1)) (hM : ∀ (E : Mm) (x0 x1 : Int) (c : Nat) (v : Int) (E1 : Mm), INV E → M E x0 x1 c v E1 → CT g yX12_post cX12_post 3 (some .int) fr2 lo2 0 0 K2 false [mR 125, mI x0, mI x1] (ov (if c = 0 then wr E1 813 0 v else E1)) K2 false (fun r D' => ∃ (bb : Int) (E2 : Mm), r = some (mI bb) ∧ D' = ov E2 ∧ INV' E2 ∧ E2 125 0 = (c : Int) ∧ (c = 0 → E2 813 0 = bb))) (hr1 : fr + 2 ≤ room_1.frames ∧ 8 + (5 + 11) + (lo + 22) ≤ room_1.locals) (hr2 : fr2 + 1 ≤ room_1.frames ∧ 8 + (3 + 11) + lo2 ≤ room_1.locals) (hmc : mc ≤ 10) (hms : ms ≤ 100) (E : Mm) (n cells slots : Nat) (hE : INV E) (hn : n + 6 ≤ L) (hc : cells + 10 ≤ 601024) (hs : slots + 100 ≤ 7293034) (hend : ∀ E' : Mm, INV' E' → AT g (KL p e s m below meth c b) K2 false (cells + 10) (slots + 100) 3366 (lawL b n) [] (ov E')) : AT g (KL p e s m below meth c b) K2 false cells slots 630 (lawL b n) [] (ov E) := by
  refine at_aload_n 631 X rfl rfl dL_law__630 rfl ?_
  refine at_xload_n 632 X rfl rfl dL_law__631 rfl ?_
  refine at_iload 634 X rfl dL_law__632 rfl ?_
  refine at_iconst 635 X (by decide) dL_law__634 rfl ?_
  refine at_iadd 636 X dL_law__635 rfl ?_
  rw [w32_id (by omega) (by omega)]
  refine at_xint 637 X S (by omega) (by omega) dL_law__636 rfl ?_
  refine at_xload_n 638 X rfl rfl dL_law__637 rfl ?_
  refine at_iload 640 X rfl dL_law__638 rfl ?_
  refine at_iconst 641 X (by decide) dL_law__640 rfl ?_
  refine at_iadd 642 X dL_law__641 rfl ?_
  rw [w32_id (by omega) (by omega)]
  refine at_xint 643 X S (by omega) (by omega) dL_law__642 rfl ?_
  refine at_aload_n 644 X rfl rfl dL_law__643 rfl ?_
  refine at_callSH (n := 4) 647 X (lh_post hG E _ _ (M E _ _) (hX E _ _ hE)) w_1201 w_120 rfl (by decide +kernel) w_1199 w_1200 rfl rfl (crl ⟨by omega, by omega⟩ (by omega) (by omega)) (Nat.le_of_ble_eq_true rfl) dL_law__644 rfl ?_
  rintro _ _ ⟨cc, v, E1, rfl, hM1, rfl⟩
  refine at_istore 649 X dL_law__647 rfl (by decide) ?_
  refine at_aload_n 650 X rfl rfl dL_law__649 rfl ?_
  refine at_xload_n 651 X rfl rfl dL_law__650 rfl ?_
  refine at_iload 653 X rfl dL_law__651 rfl ?_
  refine at_iconst 654 X (by decide) dL_law__653 rfl ?_
  refine at_iadd 655 X dL_law__654 rfl ?_
  rw [w32_id (by omega) (by omega)]
  refine at_xint 656 X S (by omega) (by omega) dL_law__655 rfl ?_
  refine at_xload_n 657 X rfl rfl dL_law__656 rfl ?_
  refine at_iload 659 X rfl dL_law__657 rfl ?_
  refine at_iconst 660 X (by decide) dL_law__659 rfl ?_
  refine at_iadd 661 X dL_law__660 rfl ?_
  rw [w32_id (by omega) (by omega)]
  refine at_xint 662 X S (by omega) (by omega) dL_law__661 rfl ?_
  refine at_callV 665 X _ 12 (hM E _ _ _ _ _ hE hM1) clX12 rfl k_125 mo_X12_post w_2110 vo_X12_post.1 vo_X12_post.2 rfl rfl (crl ⟨by omega, by omega⟩ (by omega) (by omega)) (Nat.le_of_ble_eq_true rfl) dL_law__662 rfl ?_
  rintro _ _ ⟨bb, E2, rfl, rfl, hE2, hth, hbb⟩
  refine at_istore 667 X dL_law__665 rfl (by decide) ?_
  refine at_aload_n 668 X rfl rfl dL_law__667 rfl ?_
  refine at_callV 671 X _ 12 (ct_X12_thrown hG E2) clX12 rfl k_125 mo_X12_thrown w_1945 vo_X12_thrown.1 vo_X12_thrown.2 rfl rfl (crl ⟨Nat.le_of_ble_eq_true rfl, Nat.le_of_ble_eq_true rfl⟩ (by omega) (by omega)) (Nat.le_of_ble_eq_true rfl) dL_law__668 rfl ?_
  rintro _ _ ⟨rfl, rfl⟩
  rw [hth]
  refine at_iload 673 X rfl dL_law__671 rfl ?_
  refine at_icmp_eq 676 678 X dL_law__673 rfl (by decide) (fun _ => ?_) (fun h => absurd rfl h)
  refine at_iload 680 X rfl dL_law__678 rfl ?_
  refine at_if_ne 683 695 X dL_law__680 rfl (by decide) (fun h => ?_) (fun h => ?_)
  · refine at_goto 3366 X dL_law__695 (by decide) ?_
    exact at_sub _ (by exact ⟨rfl, rfl, rfl, rfl, rfl, trivial⟩) (at_widen (by omega) (by omega) (hend E2 hE2))
  · have hc0 : cc = 0 := by omega
    have hbb := hbb hc0
    refine at_aload_n 684 X rfl rfl dL_law__683 rfl ?_
    refine at_iconst 685 X (by decide) dL_law__684 rfl ?_
    refine m_laload 686 X k_813 e_813 (by decide) (by decide) dL_law__685 rfl ?_
    refine at_iload 688 X rfl dL_law__686 rfl ?_
    refine at_i2l 689 X dL_law__688 rfl ?_
    refine at_lcmp 690 X dL_law__689 rfl ?_
    refine at_if_eq 693 695 X dL_law__690 rfl (by decide) (fun _ => ?_) (fun h => absurd (lcmp_eq (by first | exact hbb | (rw [show (0 : Int).toNat = 0 from rfl, hbb]; omega))) h)
    refine at_goto 3366 X dL_law__695 (by decide) ?_
    exact at_sub _ (by exact ⟨rfl, rfl, rfl, rfl, rfl, trivial⟩) (at_widen (by omega) (by omega) (hend E2 hE2))
theorem dL_law__698 : decode code 698 = .ok (.aload_n 1, 1) := by decide +kernel
theorem dL_law__699 : decode code 699 = .ok (.aload_n 0, 1) := by decide +kernel
theorem dL_law__700 : decode code 700 = .ok (.iload 4, 2) := by decide +kernel
theorem dL_law__702 : decode code 702 = .ok (.iconst 1, 1) := by decide +kernel
theorem dL_law__703 : decode code 703 = .ok (.iadd, 1) := by decide +kernel
theorem dL_law__704 : decode code 704 = .ok (.iaload, 1) := by decide +kernel
theorem dL_law__705 : decode code 705 = .ok (.aload_n 0, 1) := by decide +kernel
theorem dL_law__706 : decode code 706 = .ok (.iload 4, 2) := by decide +kernel
theorem dL_law__708 : decode code 708 = .ok (.iconst 2, 1) := by decide +kernel
theorem dL_law__709 : decode code 709 = .ok (.iadd, 1) := by decide +kernel
theorem dL_law__710 : decode code 710 = .ok (.iaload, 1) := by decide +kernel
theorem dL_law__711 : decode code 711 = .ok (.aload_n 3, 1) := by decide +kernel
theorem dL_law__712 : decode code 712 = .ok (.invokestatic 184, 3) := by decide +kernel
theorem dL_law__715 : decode code 715 = .ok (.istore 5, 2) := by decide +kernel
theorem dL_law__717 : decode code 717 = .ok (.aload_n 2, 1) := by decide +kernel
theorem dL_law__718 : decode code 718 = .ok (.aload_n 0, 1) := by decide +kernel
theorem dL_law__719 : decode code 719 = .ok (.iload 4, 2) := by decide +kernel
theorem dL_law__721 : decode code 721 = .ok (.iconst 1, 1) := by decide +kernel
theorem dL_law__722 : decode code 722 = .ok (.iadd, 1) := by decide +kernel
theorem dL_law__723 : decode code 723 = .ok (.iaload, 1) := by decide +kernel
theorem dL_law__724 : decode code 724 = .ok (.aload_n 0, 1) := by decide +kernel
theorem dL_law__725 : decode code 725 = .ok (.iload 4, 2) := by decide +kernel
theorem dL_law__727 : decode code 727 = .ok (.iconst 2, 1) := by decide +kernel
theorem dL_law__728 : decode code 728 = .ok (.iadd, 1) := by decide +kernel
theorem dL_law__729 : decode code 729 = .ok (.iaload, 1) := by decide +kernel
theorem dL_law__730 : decode code 730 = .ok (.invokevirtual 186, 3) := by decide +kernel
theorem dL_law__733 : decode code 733 = .ok (.istore 6, 2) := by decide +kernel
theorem dL_law__735 : decode code 735 = .ok (.aload_n 2, 1) := by decide +kernel
theorem dL_law__736 : decode code 736 = .ok (.invokevirtual 160, 3) := by decide +kernel
theorem dL_law__739 : decode code 739 = .ok (.iload 5, 2) := by decide +kernel
theorem dL_law__741 : decode code 741 = .ok (.if_icmp .eq 5, 3) := by decide +kernel
theorem dL_law__744 : decode code 744 = .ok (.iconst 0, 1) := by decide +kernel
theorem dL_law__745 : decode code 745 = .ok (.ireturn, 1) := by decide +kernel
theorem dL_law__746 : decode code 746 = .ok (.iload 5, 2) := by decide +kernel
theorem dL_law__748 : decode code 748 = .ok (.ifCond .ne 15, 3) := by decide +kernel
theorem dL_law__751 : decode code 751 = .ok (.aload_n 3, 1) := by decide +kernel
theorem dL_law__752 : decode code 752 = .ok (.iconst 0, 1) := by decide +kernel
theorem dL_law__753 : decode code 753 = .ok (.laload, 1) := by decide +kernel
theorem dL_law__754 : decode code 754 = .ok (.iload 6, 2) := by decide +kernel
theorem dL_law__756 : decode code 756 = .ok (.i2l, 1) := by decide +kernel
theorem dL_law__757 : decode code 757 = .ok (.lcmp, 1) := by decide +kernel
theorem dL_law__758 : decode code 758 = .ok (.ifCond .eq 5, 3) := by decide +kernel
theorem dL_law__761 : decode code 761 = .ok (.iconst 0, 1) := by decide +kernel
theorem dL_law__762 : decode code 762 = .ok (.ireturn, 1) := by decide +kernel
theorem dL_law__763 : decode code 763 = .ok (.goto 2603, 3) := by decide +kernel
theorem case_8 {INV INV' : Mm → Prop} {g : Gw} {p : Program} {e : Env} {s : State} {m : MethodId} {below : List Frame} {meth : Method} {c : Code} {b L : Nat} {xs : Nat → Int32} (hL : L ≤ 3072) (hG : GF g) (X : CX g (KL p e s m below meth c b) code R_law 8) (S : SCR g (KL p e s m below meth c b) b L xs) {fr lo mc ms fr2 lo2 : Nat} (M : Mm → Int → Int → Nat → Int → Mm → Prop) (hX : ∀ (E : Mm) (x0 x1 : Int), INV E → CTX g yX11_beam cX11_beam 3 (some .int) fr lo mc ms K2 false [mR 0, mI x0, mI x1] (ov E) K2 false (fun r D' => ∃ (v : Int) (E1 : Mm), r = some (mI v) ∧ D' = ov E1 ∧ M E x0 x1 0 v E1) (fun X D' => ∃ (c : Nat) (E1 : Mm), ((c = 1 ∧ X = "java/util/NoSuchElementException") ∨ (c = 2 ∧ X = "java/lang/IllegalArgumentException")) ∧ D' = ov E1 ∧ M E x0 x1 c 0 E1)) (hM : ∀ (E : Mm) (x0 x1 : Int) (c : Nat) (v : Int) (E1 : Mm), INV E → M E x0 x1 c v E1 → CT g yX12_beam cX12_beam 3 (some .int) fr2 lo2 0 0 K2 false [mR 125, mI x0, mI x1] (ov (if c = 0 then wr E1 813 0 v else E1)) K2 false (fun r D' => ∃ (bb : Int) (E2 : Mm), r = some (mI bb) ∧ D' = ov E2 ∧ INV' E2 ∧ E2 125 0 = (c : Int) ∧ (c = 0 → E2 813 0 = bb))) (hr1 : fr + 2 ≤ room_1.frames ∧ 8 + (5 + 11) + (lo + 22) ≤ room_1.locals) (hr2 : fr2 + 1 ≤ room_1.frames ∧ 8 + (3 + 11) + lo2 ≤ room_1.locals) (hmc : mc ≤ 10) (hms : ms ≤ 100) (E : Mm) (n cells slots : Nat) (hE : INV E) (hn : n + 6 ≤ L) (hc : cells + 10 ≤ 601024) (hs : slots + 100 ≤ 7293034) (hend : ∀ E' : Mm, INV' E' → AT g (KL p e s m below meth c b) K2 false (cells + 10) (slots + 100) 3366 (lawL b n) [] (ov E')) : AT g (KL p e s m below meth c b) K2 false cells slots 698 (lawL b n) [] (ov E) := by
  refine at_aload_n 699 X rfl rfl dL_law__698 rfl ?_
  refine at_xload_n 700 X rfl rfl dL_law__699 rfl ?_
  refine at_iload 702 X rfl dL_law__700 rfl ?_
  refine at_iconst 703 X (by decide) dL_law__702 rfl ?_
  refine at_iadd 704 X dL_law__703 rfl ?_
  rw [w32_id (by omega) (by omega)]
  refine at_xint 705 X S (by omega) (by omega) dL_law__704 rfl ?_
  refine at_xload_n 706 X rfl rfl dL_law__705 rfl ?_
  refine at_iload 708 X rfl dL_law__706 rfl ?_
  refine at_iconst 709 X (by decide) dL_law__708 rfl ?_
  refine at_iadd 710 X dL_law__709 rfl ?_
  rw [w32_id (by omega) (by omega)]
  refine at_xint 711 X S (by omega) (by omega) dL_law__710 rfl ?_
  refine at_aload_n 712 X rfl rfl dL_law__711 rfl ?_
  refine at_callSH (n := 4) 715 X (lh_beam hG E _ _ (M E _ _) (hX E _ _ hE)) w_1234 w_120 rfl (by decide +kernel) w_1232 w_1233 rfl rfl (crl ⟨by omega, by omega⟩ (by omega) (by omega)) (Nat.le_of_ble_eq_true rfl) dL_law__712 rfl ?_
  rintro _ _ ⟨cc, v, E1, rfl, hM1, rfl⟩
  refine at_istore 717 X dL_law__715 rfl (by decide) ?_
  refine at_aload_n 718 X rfl rfl dL_law__717 rfl ?_
  refine at_xload_n 719 X rfl rfl dL_law__718 rfl ?_
  refine at_iload 721 X rfl dL_law__719 rfl ?_
  refine at_iconst 722 X (by decide) dL_law__721 rfl ?_
  refine at_iadd 723 X dL_law__722 rfl ?_
  rw [w32_id (by omega) (by omega)]
  refine at_xint 724 X S (by omega) (by omega) dL_law__723 rfl ?_
  refine at_xload_n 725 X rfl rfl dL_law__724 rfl ?_
  refine at_iload 727 X rfl dL_law__725 rfl ?_
  refine at_iconst 728 X (by decide) dL_law__727 rfl ?_
  refine at_iadd 729 X dL_law__728 rfl ?_
  rw [w32_id (by omega) (by omega)]
  refine at_xint 730 X S (by omega) (by omega) dL_law__729 rfl ?_
  refine at_callV 733 X _ 12 (hM E _ _ _ _ _ hE hM1) clX12 rfl k_125 mo_X12_beam w_2118 vo_X12_beam.1 vo_X12_beam.2 rfl rfl (crl ⟨by omega, by omega⟩ (by omega) (by omega)) (Nat.le_of_ble_eq_true rfl) dL_law__730 rfl ?_
  rintro _ _ ⟨bb, E2, rfl, rfl, hE2, hth, hbb⟩
  refine at_istore 735 X dL_law__733 rfl (by decide) ?_
  refine at_aload_n 736 X rfl rfl dL_law__735 rfl ?_
  refine at_callV 739 X _ 12 (ct_X12_thrown hG E2) clX12 rfl k_125 mo_X12_thrown w_1945 vo_X12_thrown.1 vo_X12_thrown.2 rfl rfl (crl ⟨Nat.le_of_ble_eq_true rfl, Nat.le_of_ble_eq_true rfl⟩ (by omega) (by omega)) (Nat.le_of_ble_eq_true rfl) dL_law__736 rfl ?_
  rintro _ _ ⟨rfl, rfl⟩
  rw [hth]
  refine at_iload 741 X rfl dL_law__739 rfl ?_
  refine at_icmp_eq 744 746 X dL_law__741 rfl (by decide) (fun _ => ?_) (fun h => absurd rfl h)
  refine at_iload 748 X rfl dL_law__746 rfl ?_
  refine at_if_ne 751 763 X dL_law__748 rfl (by decide) (fun h => ?_) (fun h => ?_)
  · refine at_goto 3366 X dL_law__763 (by decide) ?_
    exact at_sub _ (by exact ⟨rfl, rfl, rfl, rfl, rfl, trivial⟩) (at_widen (by omega) (by omega) (hend E2 hE2))
  · have hc0 : cc = 0 := by omega
    have hbb := hbb hc0
    refine at_aload_n 752 X rfl rfl dL_law__751 rfl ?_
    refine at_iconst 753 X (by decide) dL_law__752 rfl ?_
    refine m_laload 754 X k_813 e_813 (by decide) (by decide) dL_law__753 rfl ?_
    refine at_iload 756 X rfl dL_law__754 rfl ?_
    refine at_i2l 757 X dL_law__756 rfl ?_
    refine at_lcmp 758 X dL_law__757 rfl ?_
    refine at_if_eq 761 763 X dL_law__758 rfl (by decide) (fun _ => ?_) (fun h => absurd (lcmp_eq (by first | exact hbb | (rw [show (0 : Int).toNat = 0 from rfl, hbb]; omega))) h)
    refine at_goto 3366 X dL_law__763 (by decide) ?_
    exact at_sub _ (by exact ⟨rfl, rfl, rfl, rfl, rfl, trivial⟩) (at_widen (by omega) (by omega) (hend E2 hE2))
theorem dL_law__766 : decode code 766 = .ok (.aload_n 1, 1) := by decide +kernel
theorem dL_law__767 : decode code 767 = .ok (.aload_n 0, 1) := by decide +kernel
theorem dL_law__768 : decode code 768 = .ok (.iload 4, 2) := by decide +kernel
theorem dL_law__770 : decode code 770 = .ok (.iconst 1, 1) := by decide +kernel
theorem dL_law__771 : decode code 771 = .ok (.iadd, 1) := by decide +kernel
theorem dL_law__772 : decode code 772 = .ok (.iaload, 1) := by decide +kernel
theorem dL_law__773 : decode code 773 = .ok (.aload_n 0, 1) := by decide +kernel
theorem dL_law__774 : decode code 774 = .ok (.iload 4, 2) := by decide +kernel
theorem dL_law__776 : decode code 776 = .ok (.iconst 2, 1) := by decide +kernel
theorem dL_law__777 : decode code 777 = .ok (.iadd, 1) := by decide +kernel
theorem dL_law__778 : decode code 778 = .ok (.iaload, 1) := by decide +kernel
theorem dL_law__779 : decode code 779 = .ok (.aload_n 3, 1) := by decide +kernel
theorem dL_law__780 : decode code 780 = .ok (.invokestatic 187, 3) := by decide +kernel
theorem dL_law__783 : decode code 783 = .ok (.istore 5, 2) := by decide +kernel
theorem dL_law__785 : decode code 785 = .ok (.aload_n 2, 1) := by decide +kernel
theorem dL_law__786 : decode code 786 = .ok (.aload_n 0, 1) := by decide +kernel
theorem dL_law__787 : decode code 787 = .ok (.iload 4, 2) := by decide +kernel
theorem dL_law__789 : decode code 789 = .ok (.iconst 1, 1) := by decide +kernel
theorem dL_law__790 : decode code 790 = .ok (.iadd, 1) := by decide +kernel
theorem dL_law__791 : decode code 791 = .ok (.iaload, 1) := by decide +kernel
theorem dL_law__792 : decode code 792 = .ok (.aload_n 0, 1) := by decide +kernel
theorem dL_law__793 : decode code 793 = .ok (.iload 4, 2) := by decide +kernel
theorem dL_law__795 : decode code 795 = .ok (.iconst 2, 1) := by decide +kernel
theorem dL_law__796 : decode code 796 = .ok (.iadd, 1) := by decide +kernel
theorem dL_law__797 : decode code 797 = .ok (.iaload, 1) := by decide +kernel
theorem dL_law__798 : decode code 798 = .ok (.invokevirtual 189, 3) := by decide +kernel
theorem dL_law__801 : decode code 801 = .ok (.istore 6, 2) := by decide +kernel
theorem dL_law__803 : decode code 803 = .ok (.aload_n 2, 1) := by decide +kernel
theorem dL_law__804 : decode code 804 = .ok (.invokevirtual 160, 3) := by decide +kernel
theorem dL_law__807 : decode code 807 = .ok (.iload 5, 2) := by decide +kernel
theorem dL_law__809 : decode code 809 = .ok (.if_icmp .eq 5, 3) := by decide +kernel
theorem dL_law__812 : decode code 812 = .ok (.iconst 0, 1) := by decide +kernel
theorem dL_law__813 : decode code 813 = .ok (.ireturn, 1) := by decide +kernel
theorem dL_law__814 : decode code 814 = .ok (.iload 5, 2) := by decide +kernel
theorem dL_law__816 : decode code 816 = .ok (.ifCond .ne 15, 3) := by decide +kernel
theorem dL_law__819 : decode code 819 = .ok (.aload_n 3, 1) := by decide +kernel
theorem dL_law__820 : decode code 820 = .ok (.iconst 0, 1) := by decide +kernel
theorem dL_law__821 : decode code 821 = .ok (.laload, 1) := by decide +kernel
theorem dL_law__822 : decode code 822 = .ok (.iload 6, 2) := by decide +kernel
theorem dL_law__824 : decode code 824 = .ok (.i2l, 1) := by decide +kernel
theorem dL_law__825 : decode code 825 = .ok (.lcmp, 1) := by decide +kernel
theorem dL_law__826 : decode code 826 = .ok (.ifCond .eq 5, 3) := by decide +kernel
theorem dL_law__829 : decode code 829 = .ok (.iconst 0, 1) := by decide +kernel
theorem dL_law__830 : decode code 830 = .ok (.ireturn, 1) := by decide +kernel
theorem dL_law__831 : decode code 831 = .ok (.goto 2535, 3) := by decide +kernel
theorem case_9 {INV INV' : Mm → Prop} {g : Gw} {p : Program} {e : Env} {s : State} {m : MethodId} {below : List Frame} {meth : Method} {c : Code} {b L : Nat} {xs : Nat → Int32} (hL : L ≤ 3072) (hG : GF g) (X : CX g (KL p e s m below meth c b) code R_law 8) (S : SCR g (KL p e s m below meth c b) b L xs) {fr lo mc ms fr2 lo2 : Nat} (M : Mm → Int → Int → Nat → Int → Mm → Prop) (hX : ∀ (E : Mm) (x0 x1 : Int), INV E → CTX g yX11_light cX11_light 3 (some .int) fr lo mc ms K2 false [mR 0, mI x0, mI x1] (ov E) K2 false (fun r D' => ∃ (v : Int) (E1 : Mm), r = some (mI v) ∧ D' = ov E1 ∧ M E x0 x1 0 v E1) (fun X D' => ∃ (c : Nat) (E1 : Mm), ((c = 1 ∧ X = "java/lang/IllegalArgumentException")) ∧ D' = ov E1 ∧ M E x0 x1 c 0 E1)) (hM : ∀ (E : Mm) (x0 x1 : Int) (c : Nat) (v : Int) (E1 : Mm), INV E → M E x0 x1 c v E1 → CT g yX12_light cX12_light 3 (some .int) fr2 lo2 0 0 K2 false [mR 125, mI x0, mI x1] (ov (if c = 0 then wr E1 813 0 v else E1)) K2 false (fun r D' => ∃ (bb : Int) (E2 : Mm), r = some (mI bb) ∧ D' = ov E2 ∧ INV' E2 ∧ E2 125 0 = (c : Int) ∧ (c = 0 → E2 813 0 = bb))) (hr1 : fr + 2 ≤ room_1.frames ∧ 8 + (5 + 11) + (lo + 22) ≤ room_1.locals) (hr2 : fr2 + 1 ≤ room_1.frames ∧ 8 + (3 + 11) + lo2 ≤ room_1.locals) (hmc : mc ≤ 10) (hms : ms ≤ 100) (E : Mm) (n cells slots : Nat) (hE : INV E) (hn : n + 6 ≤ L) (hc : cells + 10 ≤ 601024) (hs : slots + 100 ≤ 7293034) (hend : ∀ E' : Mm, INV' E' → AT g (KL p e s m below meth c b) K2 false (cells + 10) (slots + 100) 3366 (lawL b n) [] (ov E')) : AT g (KL p e s m below meth c b) K2 false cells slots 766 (lawL b n) [] (ov E) := by
  refine at_aload_n 767 X rfl rfl dL_law__766 rfl ?_
  refine at_xload_n 768 X rfl rfl dL_law__767 rfl ?_
  refine at_iload 770 X rfl dL_law__768 rfl ?_
  refine at_iconst 771 X (by decide) dL_law__770 rfl ?_
  refine at_iadd 772 X dL_law__771 rfl ?_
  rw [w32_id (by omega) (by omega)]
  refine at_xint 773 X S (by omega) (by omega) dL_law__772 rfl ?_
  refine at_xload_n 774 X rfl rfl dL_law__773 rfl ?_
  refine at_iload 776 X rfl dL_law__774 rfl ?_
  refine at_iconst 777 X (by decide) dL_law__776 rfl ?_
  refine at_iadd 778 X dL_law__777 rfl ?_
  rw [w32_id (by omega) (by omega)]
  refine at_xint 779 X S (by omega) (by omega) dL_law__778 rfl ?_
  refine at_aload_n 780 X rfl rfl dL_law__779 rfl ?_
  refine at_callSH (n := 4) 783 X (lh_light hG E _ _ (M E _ _) (hX E _ _ hE)) w_1254 w_120 rfl (by decide +kernel) w_1252 w_1253 rfl rfl (crl ⟨by omega, by omega⟩ (by omega) (by omega)) (Nat.le_of_ble_eq_true rfl) dL_law__780 rfl ?_
  rintro _ _ ⟨cc, v, E1, rfl, hM1, rfl⟩
  refine at_istore 785 X dL_law__783 rfl (by decide) ?_
  refine at_aload_n 786 X rfl rfl dL_law__785 rfl ?_
  refine at_xload_n 787 X rfl rfl dL_law__786 rfl ?_
  refine at_iload 789 X rfl dL_law__787 rfl ?_
  refine at_iconst 790 X (by decide) dL_law__789 rfl ?_
  refine at_iadd 791 X dL_law__790 rfl ?_
  rw [w32_id (by omega) (by omega)]
  refine at_xint 792 X S (by omega) (by omega) dL_law__791 rfl ?_
  refine at_xload_n 793 X rfl rfl dL_law__792 rfl ?_
  refine at_iload 795 X rfl dL_law__793 rfl ?_
  refine at_iconst 796 X (by decide) dL_law__795 rfl ?_
  refine at_iadd 797 X dL_law__796 rfl ?_
  rw [w32_id (by omega) (by omega)]
  refine at_xint 798 X S (by omega) (by omega) dL_law__797 rfl ?_
  refine at_callV 801 X _ 12 (hM E _ _ _ _ _ hE hM1) clX12 rfl k_125 mo_X12_light w_2130 vo_X12_light.1 vo_X12_light.2 rfl rfl (crl ⟨by omega, by omega⟩ (by omega) (by omega)) (Nat.le_of_ble_eq_true rfl) dL_law__798 rfl ?_
  rintro _ _ ⟨bb, E2, rfl, rfl, hE2, hth, hbb⟩
  refine at_istore 803 X dL_law__801 rfl (by decide) ?_
  refine at_aload_n 804 X rfl rfl dL_law__803 rfl ?_
  refine at_callV 807 X _ 12 (ct_X12_thrown hG E2) clX12 rfl k_125 mo_X12_thrown w_1945 vo_X12_thrown.1 vo_X12_thrown.2 rfl rfl (crl ⟨Nat.le_of_ble_eq_true rfl, Nat.le_of_ble_eq_true rfl⟩ (by omega) (by omega)) (Nat.le_of_ble_eq_true rfl) dL_law__804 rfl ?_
  rintro _ _ ⟨rfl, rfl⟩
  rw [hth]
  refine at_iload 809 X rfl dL_law__807 rfl ?_
  refine at_icmp_eq 812 814 X dL_law__809 rfl (by decide) (fun _ => ?_) (fun h => absurd rfl h)
  refine at_iload 816 X rfl dL_law__814 rfl ?_
  refine at_if_ne 819 831 X dL_law__816 rfl (by decide) (fun h => ?_) (fun h => ?_)
  · refine at_goto 3366 X dL_law__831 (by decide) ?_
    exact at_sub _ (by exact ⟨rfl, rfl, rfl, rfl, rfl, trivial⟩) (at_widen (by omega) (by omega) (hend E2 hE2))
  · have hc0 : cc = 0 := by omega
    have hbb := hbb hc0
    refine at_aload_n 820 X rfl rfl dL_law__819 rfl ?_
    refine at_iconst 821 X (by decide) dL_law__820 rfl ?_
    refine m_laload 822 X k_813 e_813 (by decide) (by decide) dL_law__821 rfl ?_
    refine at_iload 824 X rfl dL_law__822 rfl ?_
    refine at_i2l 825 X dL_law__824 rfl ?_
    refine at_lcmp 826 X dL_law__825 rfl ?_
    refine at_if_eq 829 831 X dL_law__826 rfl (by decide) (fun _ => ?_) (fun h => absurd (lcmp_eq (by first | exact hbb | (rw [show (0 : Int).toNat = 0 from rfl, hbb]; omega))) h)
    refine at_goto 3366 X dL_law__831 (by decide) ?_
    exact at_sub _ (by exact ⟨rfl, rfl, rfl, rfl, rfl, trivial⟩) (at_widen (by omega) (by omega) (hend E2 hE2))
theorem dL_law__834 : decode code 834 = .ok (.aload_n 1, 1) := by decide +kernel
theorem dL_law__835 : decode code 835 = .ok (.aload_n 0, 1) := by decide +kernel
theorem dL_law__836 : decode code 836 = .ok (.iload 4, 2) := by decide +kernel
theorem dL_law__838 : decode code 838 = .ok (.iconst 1, 1) := by decide +kernel
theorem dL_law__839 : decode code 839 = .ok (.iadd, 1) := by decide +kernel
theorem dL_law__840 : decode code 840 = .ok (.iaload, 1) := by decide +kernel
theorem dL_law__841 : decode code 841 = .ok (.aload_n 0, 1) := by decide +kernel
theorem dL_law__842 : decode code 842 = .ok (.iload 4, 2) := by decide +kernel
theorem dL_law__844 : decode code 844 = .ok (.iconst 2, 1) := by decide +kernel
theorem dL_law__845 : decode code 845 = .ok (.iadd, 1) := by decide +kernel
theorem dL_law__846 : decode code 846 = .ok (.iaload, 1) := by decide +kernel
theorem dL_law__847 : decode code 847 = .ok (.aload_n 0, 1) := by decide +kernel
theorem dL_law__848 : decode code 848 = .ok (.iload 4, 2) := by decide +kernel
theorem dL_law__850 : decode code 850 = .ok (.iconst 3, 1) := by decide +kernel
theorem dL_law__851 : decode code 851 = .ok (.iadd, 1) := by decide +kernel
theorem dL_law__852 : decode code 852 = .ok (.iaload, 1) := by decide +kernel
theorem dL_law__853 : decode code 853 = .ok (.aload_n 3, 1) := by decide +kernel
theorem dL_law__854 : decode code 854 = .ok (.invokestatic 190, 3) := by decide +kernel
theorem dL_law__857 : decode code 857 = .ok (.istore 5, 2) := by decide +kernel
theorem dL_law__859 : decode code 859 = .ok (.aload_n 2, 1) := by decide +kernel
theorem dL_law__860 : decode code 860 = .ok (.aload_n 0, 1) := by decide +kernel
theorem dL_law__861 : decode code 861 = .ok (.iload 4, 2) := by decide +kernel
theorem dL_law__863 : decode code 863 = .ok (.iconst 1, 1) := by decide +kernel
theorem dL_law__864 : decode code 864 = .ok (.iadd, 1) := by decide +kernel
theorem dL_law__865 : decode code 865 = .ok (.iaload, 1) := by decide +kernel
theorem dL_law__866 : decode code 866 = .ok (.aload_n 0, 1) := by decide +kernel
theorem dL_law__867 : decode code 867 = .ok (.iload 4, 2) := by decide +kernel
theorem dL_law__869 : decode code 869 = .ok (.iconst 2, 1) := by decide +kernel
theorem dL_law__870 : decode code 870 = .ok (.iadd, 1) := by decide +kernel
theorem dL_law__871 : decode code 871 = .ok (.iaload, 1) := by decide +kernel
theorem dL_law__872 : decode code 872 = .ok (.aload_n 0, 1) := by decide +kernel
theorem dL_law__873 : decode code 873 = .ok (.iload 4, 2) := by decide +kernel
theorem dL_law__875 : decode code 875 = .ok (.iconst 3, 1) := by decide +kernel
theorem dL_law__876 : decode code 876 = .ok (.iadd, 1) := by decide +kernel
theorem dL_law__877 : decode code 877 = .ok (.iaload, 1) := by decide +kernel
theorem dL_law__878 : decode code 878 = .ok (.invokevirtual 193, 3) := by decide +kernel
theorem dL_law__881 : decode code 881 = .ok (.istore 6, 2) := by decide +kernel
theorem dL_law__883 : decode code 883 = .ok (.aload_n 2, 1) := by decide +kernel
theorem dL_law__884 : decode code 884 = .ok (.invokevirtual 160, 3) := by decide +kernel
theorem dL_law__887 : decode code 887 = .ok (.iload 5, 2) := by decide +kernel
theorem dL_law__889 : decode code 889 = .ok (.if_icmp .eq 5, 3) := by decide +kernel
theorem dL_law__892 : decode code 892 = .ok (.iconst 0, 1) := by decide +kernel
theorem dL_law__893 : decode code 893 = .ok (.ireturn, 1) := by decide +kernel
theorem dL_law__894 : decode code 894 = .ok (.iload 5, 2) := by decide +kernel
theorem dL_law__896 : decode code 896 = .ok (.ifCond .ne 22, 3) := by decide +kernel
theorem dL_law__899 : decode code 899 = .ok (.aload_n 3, 1) := by decide +kernel
theorem dL_law__900 : decode code 900 = .ok (.iconst 0, 1) := by decide +kernel
theorem dL_law__901 : decode code 901 = .ok (.laload, 1) := by decide +kernel
theorem dL_law__902 : decode code 902 = .ok (.iload 6, 2) := by decide +kernel
theorem dL_law__904 : decode code 904 = .ok (.ifCond .eq 7, 3) := by decide +kernel
theorem dL_law__907 : decode code 907 = .ok (.lconst 1, 1) := by decide +kernel
theorem dL_law__908 : decode code 908 = .ok (.goto 4, 3) := by decide +kernel
theorem dL_law__911 : decode code 911 = .ok (.lconst 0, 1) := by decide +kernel
theorem dL_law__912 : decode code 912 = .ok (.lcmp, 1) := by decide +kernel
theorem dL_law__913 : decode code 913 = .ok (.ifCond .eq 5, 3) := by decide +kernel
theorem dL_law__916 : decode code 916 = .ok (.iconst 0, 1) := by decide +kernel
theorem dL_law__917 : decode code 917 = .ok (.ireturn, 1) := by decide +kernel
theorem dL_law__918 : decode code 918 = .ok (.goto 2448, 3) := by decide +kernel
theorem case_10 {INV INV' : Mm → Prop} {g : Gw} {p : Program} {e : Env} {s : State} {m : MethodId} {below : List Frame} {meth : Method} {c : Code} {b L : Nat} {xs : Nat → Int32} (hL : L ≤ 3072) (hG : GF g) (X : CX g (KL p e s m below meth c b) code R_law 8) (S : SCR g (KL p e s m below meth c b) b L xs) {fr lo mc ms fr2 lo2 : Nat} (M : Mm → Int → Int → Int → Nat → Int → Mm → Prop) (hX : ∀ (E : Mm) (x0 x1 x2 : Int), INV E → CTX g yX11_shade cX11_shade 4 (some .boolean) fr lo mc ms K2 false [mR 0, mI x0, mI x1, mI x2] (ov E) K2 false (fun r D' => ∃ (v : Int) (E1 : Mm), r = some (mI v) ∧ (v = 0 ∨ v = 1) ∧ D' = ov E1 ∧ M E x0 x1 x2 0 v E1) (fun X D' => ∃ (c : Nat) (E1 : Mm), ((c = 1 ∧ X = "java/lang/IndexOutOfBoundsException") ∨ (c = 2 ∧ X = "java/util/NoSuchElementException") ∨ (c = 3 ∧ X = "java/lang/IllegalArgumentException")) ∧ D' = ov E1 ∧ M E x0 x1 x2 c 0 E1)) (hM : ∀ (E : Mm) (x0 x1 x2 : Int) (c : Nat) (v : Int) (E1 : Mm), INV E → M E x0 x1 x2 c v E1 → CT g yX12_shade cX12_shade 4 (some .boolean) fr2 lo2 0 0 K2 false [mR 125, mI x0, mI x1, mI x2] (ov (if c = 0 then wr E1 813 0 v else E1)) K2 false (fun r D' => ∃ (bb : Int) (E2 : Mm), r = some (mI bb) ∧ (bb = 0 ∨ bb = 1) ∧ D' = ov E2 ∧ INV' E2 ∧ E2 125 0 = (c : Int) ∧ (c = 0 → E2 813 0 = bb))) (hr1 : fr + 2 ≤ room_1.frames ∧ 8 + (6 + 11) + (lo + 23) ≤ room_1.locals) (hr2 : fr2 + 1 ≤ room_1.frames ∧ 8 + (4 + 11) + lo2 ≤ room_1.locals) (hmc : mc ≤ 10) (hms : ms ≤ 100) (E : Mm) (n cells slots : Nat) (hE : INV E) (hn : n + 6 ≤ L) (hc : cells + 10 ≤ 601024) (hs : slots + 100 ≤ 7293034) (hend : ∀ E' : Mm, INV' E' → AT g (KL p e s m below meth c b) K2 false (cells + 10) (slots + 100) 3366 (lawL b n) [] (ov E')) : AT g (KL p e s m below meth c b) K2 false cells slots 834 (lawL b n) [] (ov E) := by
  refine at_aload_n 835 X rfl rfl dL_law__834 rfl ?_
  refine at_xload_n 836 X rfl rfl dL_law__835 rfl ?_
  refine at_iload 838 X rfl dL_law__836 rfl ?_
  refine at_iconst 839 X (by decide) dL_law__838 rfl ?_
  refine at_iadd 840 X dL_law__839 rfl ?_
  rw [w32_id (by omega) (by omega)]
  refine at_xint 841 X S (by omega) (by omega) dL_law__840 rfl ?_
  refine at_xload_n 842 X rfl rfl dL_law__841 rfl ?_
  refine at_iload 844 X rfl dL_law__842 rfl ?_
  refine at_iconst 845 X (by decide) dL_law__844 rfl ?_
  refine at_iadd 846 X dL_law__845 rfl ?_
  rw [w32_id (by omega) (by omega)]
  refine at_xint 847 X S (by omega) (by omega) dL_law__846 rfl ?_
  refine at_xload_n 848 X rfl rfl dL_law__847 rfl ?_
  refine at_iload 850 X rfl dL_law__848 rfl ?_
  refine at_iconst 851 X (by decide) dL_law__850 rfl ?_
  refine at_iadd 852 X dL_law__851 rfl ?_
  rw [w32_id (by omega) (by omega)]
  refine at_xint 853 X S (by omega) (by omega) dL_law__852 rfl ?_
  refine at_aload_n 854 X rfl rfl dL_law__853 rfl ?_
  refine at_callSH (n := 5) 857 X (lh_shade hG E _ _ _ (M E _ _ _) (hX E _ _ _ hE)) w_1266 w_120 rfl (by decide +kernel) w_1264 w_1265 rfl rfl (crl ⟨by omega, by omega⟩ (by omega) (by omega)) (Nat.le_of_ble_eq_true rfl) dL_law__854 rfl ?_
  rintro _ _ ⟨cc, v, E1, rfl, hM1, rfl⟩
  refine at_istore 859 X dL_law__857 rfl (by decide) ?_
  refine at_aload_n 860 X rfl rfl dL_law__859 rfl ?_
  refine at_xload_n 861 X rfl rfl dL_law__860 rfl ?_
  refine at_iload 863 X rfl dL_law__861 rfl ?_
  refine at_iconst 864 X (by decide) dL_law__863 rfl ?_
  refine at_iadd 865 X dL_law__864 rfl ?_
  rw [w32_id (by omega) (by omega)]
  refine at_xint 866 X S (by omega) (by omega) dL_law__865 rfl ?_
  refine at_xload_n 867 X rfl rfl dL_law__866 rfl ?_
  refine at_iload 869 X rfl dL_law__867 rfl ?_
  refine at_iconst 870 X (by decide) dL_law__869 rfl ?_
  refine at_iadd 871 X dL_law__870 rfl ?_
  rw [w32_id (by omega) (by omega)]
  refine at_xint 872 X S (by omega) (by omega) dL_law__871 rfl ?_
  refine at_xload_n 873 X rfl rfl dL_law__872 rfl ?_
  refine at_iload 875 X rfl dL_law__873 rfl ?_
  refine at_iconst 876 X (by decide) dL_law__875 rfl ?_
  refine at_iadd 877 X dL_law__876 rfl ?_
  rw [w32_id (by omega) (by omega)]
  refine at_xint 878 X S (by omega) (by omega) dL_law__877 rfl ?_
  refine at_callV 881 X _ 12 (hM E _ _ _ _ _ _ hE hM1) clX12 rfl k_125 mo_X12_shade w_2150 vo_X12_shade.1 vo_X12_shade.2 rfl rfl (crl ⟨by omega, by omega⟩ (by omega) (by omega)) (Nat.le_of_ble_eq_true rfl) dL_law__878 rfl ?_
  rintro _ _ ⟨bb, E2, rfl, hbz, rfl, hE2, hth, hbb⟩
  refine at_istore 883 X dL_law__881 rfl (by decide) ?_
  refine at_aload_n 884 X rfl rfl dL_law__883 rfl ?_
  refine at_callV 887 X _ 12 (ct_X12_thrown hG E2) clX12 rfl k_125 mo_X12_thrown w_1945 vo_X12_thrown.1 vo_X12_thrown.2 rfl rfl (crl ⟨Nat.le_of_ble_eq_true rfl, Nat.le_of_ble_eq_true rfl⟩ (by omega) (by omega)) (Nat.le_of_ble_eq_true rfl) dL_law__884 rfl ?_
  rintro _ _ ⟨rfl, rfl⟩
  rw [hth]
  refine at_iload 889 X rfl dL_law__887 rfl ?_
  refine at_icmp_eq 892 894 X dL_law__889 rfl (by decide) (fun _ => ?_) (fun h => absurd rfl h)
  refine at_iload 896 X rfl dL_law__894 rfl ?_
  refine at_if_ne 899 918 X dL_law__896 rfl (by decide) (fun h => ?_) (fun h => ?_)
  · refine at_goto 3366 X dL_law__918 (by decide) ?_
    exact at_sub _ (by exact ⟨rfl, rfl, rfl, rfl, rfl, trivial⟩) (at_widen (by omega) (by omega) (hend E2 hE2))
  · have hc0 : cc = 0 := by omega
    have hbb := hbb hc0
    refine at_aload_n 900 X rfl rfl dL_law__899 rfl ?_
    refine at_iconst 901 X (by decide) dL_law__900 rfl ?_
    refine m_laload 902 X k_813 e_813 (by decide) (by decide) dL_law__901 rfl ?_
    refine at_iload 904 X rfl dL_law__902 rfl ?_
    refine at_if_eq 907 911 X dL_law__904 rfl (by decide) (fun h => ?_) (fun h => ?_)
    · refine at_lconst 912 X (v := 0) (by decide) (by decide) dL_law__911 rfl ?_
      refine at_lcmp 913 X dL_law__912 rfl ?_
      refine at_if_eq 916 918 X dL_law__913 rfl (by decide) (fun _ => ?_) (fun h => absurd (lcmp_eq (by first | exact hbb | (rw [show (0 : Int).toNat = 0 from rfl, hbb]; omega))) h)
      refine at_goto 3366 X dL_law__918 (by decide) ?_
      exact at_sub _ (by exact ⟨rfl, rfl, rfl, rfl, rfl, trivial⟩) (at_widen (by omega) (by omega) (hend E2 hE2))
    · refine at_lconst 908 X (v := 1) (by decide) (by decide) dL_law__907 rfl ?_
      refine at_goto 912 X dL_law__908 (by decide) ?_
      refine at_lcmp 913 X dL_law__912 rfl ?_
      refine at_if_eq 916 918 X dL_law__913 rfl (by decide) (fun _ => ?_) (fun h => absurd (lcmp_eq (by first | exact hbb | (rw [show (0 : Int).toNat = 0 from rfl, hbb]; omega))) h)
      refine at_goto 3366 X dL_law__918 (by decide) ?_
      exact at_sub _ (by exact ⟨rfl, rfl, rfl, rfl, rfl, trivial⟩) (at_widen (by omega) (by omega) (hend E2 hE2))
theorem dL_law__921 : decode code 921 = .ok (.aload_n 1, 1) := by decide +kernel
theorem dL_law__922 : decode code 922 = .ok (.aload_n 0, 1) := by decide +kernel
theorem dL_law__923 : decode code 923 = .ok (.iload 4, 2) := by decide +kernel
theorem dL_law__925 : decode code 925 = .ok (.iconst 1, 1) := by decide +kernel
theorem dL_law__926 : decode code 926 = .ok (.iadd, 1) := by decide +kernel
theorem dL_law__927 : decode code 927 = .ok (.iaload, 1) := by decide +kernel
theorem dL_law__928 : decode code 928 = .ok (.aload_n 0, 1) := by decide +kernel
theorem dL_law__929 : decode code 929 = .ok (.iload 4, 2) := by decide +kernel
theorem dL_law__931 : decode code 931 = .ok (.iconst 2, 1) := by decide +kernel
theorem dL_law__932 : decode code 932 = .ok (.iadd, 1) := by decide +kernel
theorem dL_law__933 : decode code 933 = .ok (.iaload, 1) := by decide +kernel
theorem dL_law__934 : decode code 934 = .ok (.aload_n 3, 1) := by decide +kernel
theorem dL_law__935 : decode code 935 = .ok (.invokestatic 194, 3) := by decide +kernel
theorem dL_law__938 : decode code 938 = .ok (.istore 5, 2) := by decide +kernel
theorem dL_law__940 : decode code 940 = .ok (.aload_n 2, 1) := by decide +kernel
theorem dL_law__941 : decode code 941 = .ok (.aload_n 0, 1) := by decide +kernel
theorem dL_law__942 : decode code 942 = .ok (.iload 4, 2) := by decide +kernel
theorem dL_law__944 : decode code 944 = .ok (.iconst 1, 1) := by decide +kernel
theorem dL_law__945 : decode code 945 = .ok (.iadd, 1) := by decide +kernel
theorem dL_law__946 : decode code 946 = .ok (.iaload, 1) := by decide +kernel
theorem dL_law__947 : decode code 947 = .ok (.aload_n 0, 1) := by decide +kernel
theorem dL_law__948 : decode code 948 = .ok (.iload 4, 2) := by decide +kernel
theorem dL_law__950 : decode code 950 = .ok (.iconst 2, 1) := by decide +kernel
theorem dL_law__951 : decode code 951 = .ok (.iadd, 1) := by decide +kernel
theorem dL_law__952 : decode code 952 = .ok (.iaload, 1) := by decide +kernel
theorem dL_law__953 : decode code 953 = .ok (.invokevirtual 196, 3) := by decide +kernel
theorem dL_law__956 : decode code 956 = .ok (.istore 6, 2) := by decide +kernel
theorem dL_law__958 : decode code 958 = .ok (.aload_n 2, 1) := by decide +kernel
theorem dL_law__959 : decode code 959 = .ok (.invokevirtual 160, 3) := by decide +kernel
theorem dL_law__962 : decode code 962 = .ok (.iload 5, 2) := by decide +kernel
theorem dL_law__964 : decode code 964 = .ok (.if_icmp .eq 5, 3) := by decide +kernel
theorem dL_law__967 : decode code 967 = .ok (.iconst 0, 1) := by decide +kernel
theorem dL_law__968 : decode code 968 = .ok (.ireturn, 1) := by decide +kernel
theorem dL_law__969 : decode code 969 = .ok (.iload 5, 2) := by decide +kernel
theorem dL_law__971 : decode code 971 = .ok (.ifCond .ne 15, 3) := by decide +kernel
theorem dL_law__974 : decode code 974 = .ok (.aload_n 3, 1) := by decide +kernel
theorem dL_law__975 : decode code 975 = .ok (.iconst 0, 1) := by decide +kernel
theorem dL_law__976 : decode code 976 = .ok (.laload, 1) := by decide +kernel
theorem dL_law__977 : decode code 977 = .ok (.iload 6, 2) := by decide +kernel
theorem dL_law__979 : decode code 979 = .ok (.i2l, 1) := by decide +kernel
theorem dL_law__980 : decode code 980 = .ok (.lcmp, 1) := by decide +kernel
theorem dL_law__981 : decode code 981 = .ok (.ifCond .eq 5, 3) := by decide +kernel
theorem dL_law__984 : decode code 984 = .ok (.iconst 0, 1) := by decide +kernel
theorem dL_law__985 : decode code 985 = .ok (.ireturn, 1) := by decide +kernel
theorem dL_law__986 : decode code 986 = .ok (.goto 2380, 3) := by decide +kernel
theorem case_11 {INV INV' : Mm → Prop} {g : Gw} {p : Program} {e : Env} {s : State} {m : MethodId} {below : List Frame} {meth : Method} {c : Code} {b L : Nat} {xs : Nat → Int32} (hL : L ≤ 3072) (hG : GF g) (X : CX g (KL p e s m below meth c b) code R_law 8) (S : SCR g (KL p e s m below meth c b) b L xs) {fr lo mc ms fr2 lo2 : Nat} (M : Mm → Int → Int → Nat → Int → Mm → Prop) (hX : ∀ (E : Mm) (x0 x1 : Int), INV E → CTX g yX11_bears cX11_bears 3 (some .int) fr lo mc ms K2 false [mR 0, mI x0, mI x1] (ov E) K2 false (fun r D' => ∃ (v : Int) (E1 : Mm), r = some (mI v) ∧ D' = ov E1 ∧ M E x0 x1 0 v E1) (fun X D' => ∃ (c : Nat) (E1 : Mm), ((c = 1 ∧ X = "java/lang/IndexOutOfBoundsException") ∨ (c = 2 ∧ X = "java/lang/IllegalArgumentException")) ∧ D' = ov E1 ∧ M E x0 x1 c 0 E1)) (hM : ∀ (E : Mm) (x0 x1 : Int) (c : Nat) (v : Int) (E1 : Mm), INV E → M E x0 x1 c v E1 → CT g yX12_bears cX12_bears 3 (some .int) fr2 lo2 0 0 K2 false [mR 125, mI x0, mI x1] (ov (if c = 0 then wr E1 813 0 v else E1)) K2 false (fun r D' => ∃ (bb : Int) (E2 : Mm), r = some (mI bb) ∧ D' = ov E2 ∧ INV' E2 ∧ E2 125 0 = (c : Int) ∧ (c = 0 → E2 813 0 = bb))) (hr1 : fr + 2 ≤ room_1.frames ∧ 8 + (5 + 11) + (lo + 22) ≤ room_1.locals) (hr2 : fr2 + 1 ≤ room_1.frames ∧ 8 + (3 + 11) + lo2 ≤ room_1.locals) (hmc : mc ≤ 10) (hms : ms ≤ 100) (E : Mm) (n cells slots : Nat) (hE : INV E) (hn : n + 6 ≤ L) (hc : cells + 10 ≤ 601024) (hs : slots + 100 ≤ 7293034) (hend : ∀ E' : Mm, INV' E' → AT g (KL p e s m below meth c b) K2 false (cells + 10) (slots + 100) 3366 (lawL b n) [] (ov E')) : AT g (KL p e s m below meth c b) K2 false cells slots 921 (lawL b n) [] (ov E) := by
  refine at_aload_n 922 X rfl rfl dL_law__921 rfl ?_
  refine at_xload_n 923 X rfl rfl dL_law__922 rfl ?_
  refine at_iload 925 X rfl dL_law__923 rfl ?_
  refine at_iconst 926 X (by decide) dL_law__925 rfl ?_
  refine at_iadd 927 X dL_law__926 rfl ?_
  rw [w32_id (by omega) (by omega)]
  refine at_xint 928 X S (by omega) (by omega) dL_law__927 rfl ?_
  refine at_xload_n 929 X rfl rfl dL_law__928 rfl ?_
  refine at_iload 931 X rfl dL_law__929 rfl ?_
  refine at_iconst 932 X (by decide) dL_law__931 rfl ?_
  refine at_iadd 933 X dL_law__932 rfl ?_
  rw [w32_id (by omega) (by omega)]
  refine at_xint 934 X S (by omega) (by omega) dL_law__933 rfl ?_
  refine at_aload_n 935 X rfl rfl dL_law__934 rfl ?_
  refine at_callSH (n := 4) 938 X (lh_bears hG E _ _ (M E _ _) (hX E _ _ hE)) w_1298 w_120 rfl (by decide +kernel) w_1296 w_1297 rfl rfl (crl ⟨by omega, by omega⟩ (by omega) (by omega)) (Nat.le_of_ble_eq_true rfl) dL_law__935 rfl ?_
  rintro _ _ ⟨cc, v, E1, rfl, hM1, rfl⟩
  refine at_istore 940 X dL_law__938 rfl (by decide) ?_
  refine at_aload_n 941 X rfl rfl dL_law__940 rfl ?_
  refine at_xload_n 942 X rfl rfl dL_law__941 rfl ?_
  refine at_iload 944 X rfl dL_law__942 rfl ?_
  refine at_iconst 945 X (by decide) dL_law__944 rfl ?_
  refine at_iadd 946 X dL_law__945 rfl ?_
  rw [w32_id (by omega) (by omega)]
  refine at_xint 947 X S (by omega) (by omega) dL_law__946 rfl ?_
  refine at_xload_n 948 X rfl rfl dL_law__947 rfl ?_
  refine at_iload 950 X rfl dL_law__948 rfl ?_
  refine at_iconst 951 X (by decide) dL_law__950 rfl ?_
  refine at_iadd 952 X dL_law__951 rfl ?_
  rw [w32_id (by omega) (by omega)]
  refine at_xint 953 X S (by omega) (by omega) dL_law__952 rfl ?_
  refine at_callV 956 X _ 12 (hM E _ _ _ _ _ hE hM1) clX12 rfl k_125 mo_X12_bears w_2193 vo_X12_bears.1 vo_X12_bears.2 rfl rfl (crl ⟨by omega, by omega⟩ (by omega) (by omega)) (Nat.le_of_ble_eq_true rfl) dL_law__953 rfl ?_
  rintro _ _ ⟨bb, E2, rfl, rfl, hE2, hth, hbb⟩
  refine at_istore 958 X dL_law__956 rfl (by decide) ?_
  refine at_aload_n 959 X rfl rfl dL_law__958 rfl ?_
  refine at_callV 962 X _ 12 (ct_X12_thrown hG E2) clX12 rfl k_125 mo_X12_thrown w_1945 vo_X12_thrown.1 vo_X12_thrown.2 rfl rfl (crl ⟨Nat.le_of_ble_eq_true rfl, Nat.le_of_ble_eq_true rfl⟩ (by omega) (by omega)) (Nat.le_of_ble_eq_true rfl) dL_law__959 rfl ?_
  rintro _ _ ⟨rfl, rfl⟩
  rw [hth]
  refine at_iload 964 X rfl dL_law__962 rfl ?_
  refine at_icmp_eq 967 969 X dL_law__964 rfl (by decide) (fun _ => ?_) (fun h => absurd rfl h)
  refine at_iload 971 X rfl dL_law__969 rfl ?_
  refine at_if_ne 974 986 X dL_law__971 rfl (by decide) (fun h => ?_) (fun h => ?_)
  · refine at_goto 3366 X dL_law__986 (by decide) ?_
    exact at_sub _ (by exact ⟨rfl, rfl, rfl, rfl, rfl, trivial⟩) (at_widen (by omega) (by omega) (hend E2 hE2))
  · have hc0 : cc = 0 := by omega
    have hbb := hbb hc0
    refine at_aload_n 975 X rfl rfl dL_law__974 rfl ?_
    refine at_iconst 976 X (by decide) dL_law__975 rfl ?_
    refine m_laload 977 X k_813 e_813 (by decide) (by decide) dL_law__976 rfl ?_
    refine at_iload 979 X rfl dL_law__977 rfl ?_
    refine at_i2l 980 X dL_law__979 rfl ?_
    refine at_lcmp 981 X dL_law__980 rfl ?_
    refine at_if_eq 984 986 X dL_law__981 rfl (by decide) (fun _ => ?_) (fun h => absurd (lcmp_eq (by first | exact hbb | (rw [show (0 : Int).toNat = 0 from rfl, hbb]; omega))) h)
    refine at_goto 3366 X dL_law__986 (by decide) ?_
    exact at_sub _ (by exact ⟨rfl, rfl, rfl, rfl, rfl, trivial⟩) (at_widen (by omega) (by omega) (hend E2 hE2))
theorem dL_law__989 : decode code 989 = .ok (.aload_n 1, 1) := by decide +kernel
theorem dL_law__990 : decode code 990 = .ok (.aload_n 0, 1) := by decide +kernel
theorem dL_law__991 : decode code 991 = .ok (.iload 4, 2) := by decide +kernel
theorem dL_law__993 : decode code 993 = .ok (.iconst 1, 1) := by decide +kernel
theorem dL_law__994 : decode code 994 = .ok (.iadd, 1) := by decide +kernel
theorem dL_law__995 : decode code 995 = .ok (.iaload, 1) := by decide +kernel
theorem dL_law__996 : decode code 996 = .ok (.aload_n 0, 1) := by decide +kernel
theorem dL_law__997 : decode code 997 = .ok (.iload 4, 2) := by decide +kernel
theorem dL_law__999 : decode code 999 = .ok (.iconst 2, 1) := by decide +kernel
theorem dL_law__1000 : decode code 1000 = .ok (.iadd, 1) := by decide +kernel
theorem dL_law__1001 : decode code 1001 = .ok (.iaload, 1) := by decide +kernel
theorem dL_law__1002 : decode code 1002 = .ok (.aload_n 0, 1) := by decide +kernel
theorem dL_law__1003 : decode code 1003 = .ok (.iload 4, 2) := by decide +kernel
theorem dL_law__1005 : decode code 1005 = .ok (.iconst 3, 1) := by decide +kernel
theorem dL_law__1006 : decode code 1006 = .ok (.iadd, 1) := by decide +kernel
theorem dL_law__1007 : decode code 1007 = .ok (.iaload, 1) := by decide +kernel
theorem dL_law__1008 : decode code 1008 = .ok (.aload_n 0, 1) := by decide +kernel
theorem dL_law__1009 : decode code 1009 = .ok (.iload 4, 2) := by decide +kernel
theorem dL_law__1011 : decode code 1011 = .ok (.iconst 4, 1) := by decide +kernel
theorem dL_law__1012 : decode code 1012 = .ok (.iadd, 1) := by decide +kernel
theorem dL_law__1013 : decode code 1013 = .ok (.iaload, 1) := by decide +kernel
theorem dL_law__1014 : decode code 1014 = .ok (.aload_n 3, 1) := by decide +kernel
theorem dL_law__1015 : decode code 1015 = .ok (.invokestatic 197, 3) := by decide +kernel
theorem dL_law__1018 : decode code 1018 = .ok (.istore 5, 2) := by decide +kernel
theorem dL_law__1020 : decode code 1020 = .ok (.aload_n 2, 1) := by decide +kernel
theorem dL_law__1021 : decode code 1021 = .ok (.aload_n 0, 1) := by decide +kernel
theorem dL_law__1022 : decode code 1022 = .ok (.iload 4, 2) := by decide +kernel
theorem dL_law__1024 : decode code 1024 = .ok (.iconst 1, 1) := by decide +kernel
theorem dL_law__1025 : decode code 1025 = .ok (.iadd, 1) := by decide +kernel
theorem dL_law__1026 : decode code 1026 = .ok (.iaload, 1) := by decide +kernel
theorem dL_law__1027 : decode code 1027 = .ok (.aload_n 0, 1) := by decide +kernel
theorem dL_law__1028 : decode code 1028 = .ok (.iload 4, 2) := by decide +kernel
theorem dL_law__1030 : decode code 1030 = .ok (.iconst 2, 1) := by decide +kernel
theorem dL_law__1031 : decode code 1031 = .ok (.iadd, 1) := by decide +kernel
theorem dL_law__1032 : decode code 1032 = .ok (.iaload, 1) := by decide +kernel
theorem dL_law__1033 : decode code 1033 = .ok (.aload_n 0, 1) := by decide +kernel
theorem dL_law__1034 : decode code 1034 = .ok (.iload 4, 2) := by decide +kernel
theorem dL_law__1036 : decode code 1036 = .ok (.iconst 3, 1) := by decide +kernel
theorem dL_law__1037 : decode code 1037 = .ok (.iadd, 1) := by decide +kernel
theorem dL_law__1038 : decode code 1038 = .ok (.iaload, 1) := by decide +kernel
theorem dL_law__1039 : decode code 1039 = .ok (.aload_n 0, 1) := by decide +kernel
theorem dL_law__1040 : decode code 1040 = .ok (.iload 4, 2) := by decide +kernel
theorem dL_law__1042 : decode code 1042 = .ok (.iconst 4, 1) := by decide +kernel
theorem dL_law__1043 : decode code 1043 = .ok (.iadd, 1) := by decide +kernel
theorem dL_law__1044 : decode code 1044 = .ok (.iaload, 1) := by decide +kernel
theorem dL_law__1045 : decode code 1045 = .ok (.invokevirtual 200, 3) := by decide +kernel
theorem dL_law__1048 : decode code 1048 = .ok (.istore 6, 2) := by decide +kernel
theorem dL_law__1050 : decode code 1050 = .ok (.aload_n 2, 1) := by decide +kernel
theorem dL_law__1051 : decode code 1051 = .ok (.invokevirtual 160, 3) := by decide +kernel
theorem dL_law__1054 : decode code 1054 = .ok (.iload 5, 2) := by decide +kernel
theorem dL_law__1056 : decode code 1056 = .ok (.if_icmp .eq 5, 3) := by decide +kernel
theorem dL_law__1059 : decode code 1059 = .ok (.iconst 0, 1) := by decide +kernel
theorem dL_law__1060 : decode code 1060 = .ok (.ireturn, 1) := by decide +kernel
theorem dL_law__1061 : decode code 1061 = .ok (.iload 5, 2) := by decide +kernel
theorem dL_law__1063 : decode code 1063 = .ok (.ifCond .ne 15, 3) := by decide +kernel
theorem dL_law__1066 : decode code 1066 = .ok (.aload_n 3, 1) := by decide +kernel
theorem dL_law__1067 : decode code 1067 = .ok (.iconst 0, 1) := by decide +kernel
theorem dL_law__1068 : decode code 1068 = .ok (.laload, 1) := by decide +kernel
theorem dL_law__1069 : decode code 1069 = .ok (.iload 6, 2) := by decide +kernel
theorem dL_law__1071 : decode code 1071 = .ok (.i2l, 1) := by decide +kernel
theorem dL_law__1072 : decode code 1072 = .ok (.lcmp, 1) := by decide +kernel
theorem dL_law__1073 : decode code 1073 = .ok (.ifCond .eq 5, 3) := by decide +kernel
theorem dL_law__1076 : decode code 1076 = .ok (.iconst 0, 1) := by decide +kernel
theorem dL_law__1077 : decode code 1077 = .ok (.ireturn, 1) := by decide +kernel
theorem dL_law__1078 : decode code 1078 = .ok (.goto 2288, 3) := by decide +kernel
theorem case_12 {INV INV' : Mm → Prop} {g : Gw} {p : Program} {e : Env} {s : State} {m : MethodId} {below : List Frame} {meth : Method} {c : Code} {b L : Nat} {xs : Nat → Int32} (hL : L ≤ 3072) (hG : GF g) (X : CX g (KL p e s m below meth c b) code R_law 8) (S : SCR g (KL p e s m below meth c b) b L xs) {fr lo mc ms fr2 lo2 : Nat} (M : Mm → Int → Int → Int → Int → Nat → Int → Mm → Prop) (hX : ∀ (E : Mm) (x0 x1 x2 x3 : Int), INV E → CTX g yX11_bearing cX11_bearing 5 (some .int) fr lo mc ms K2 false [mR 0, mI x0, mI x1, mI x2, mI x3] (ov E) K2 false (fun r D' => ∃ (v : Int) (E1 : Mm), r = some (mI v) ∧ D' = ov E1 ∧ M E x0 x1 x2 x3 0 v E1) (fun X D' => ∃ (c : Nat) (E1 : Mm), ((c = 1 ∧ X = "java/lang/IllegalArgumentException")) ∧ D' = ov E1 ∧ M E x0 x1 x2 x3 c 0 E1)) (hM : ∀ (E : Mm) (x0 x1 x2 x3 : Int) (c : Nat) (v : Int) (E1 : Mm), INV E → M E x0 x1 x2 x3 c v E1 → CT g yX12_bearing cX12_bearing 5 (some .int) fr2 lo2 0 0 K2 false [mR 125, mI x0, mI x1, mI x2, mI x3] (ov (if c = 0 then wr E1 813 0 v else E1)) K2 false (fun r D' => ∃ (bb : Int) (E2 : Mm), r = some (mI bb) ∧ D' = ov E2 ∧ INV' E2 ∧ E2 125 0 = (c : Int) ∧ (c = 0 → E2 813 0 = bb))) (hr1 : fr + 2 ≤ room_1.frames ∧ 8 + (7 + 11) + (lo + 24) ≤ room_1.locals) (hr2 : fr2 + 1 ≤ room_1.frames ∧ 8 + (5 + 11) + lo2 ≤ room_1.locals) (hmc : mc ≤ 10) (hms : ms ≤ 100) (E : Mm) (n cells slots : Nat) (hE : INV E) (hn : n + 6 ≤ L) (hc : cells + 10 ≤ 601024) (hs : slots + 100 ≤ 7293034) (hend : ∀ E' : Mm, INV' E' → AT g (KL p e s m below meth c b) K2 false (cells + 10) (slots + 100) 3366 (lawL b n) [] (ov E')) : AT g (KL p e s m below meth c b) K2 false cells slots 989 (lawL b n) [] (ov E) := by
  refine at_aload_n 990 X rfl rfl dL_law__989 rfl ?_
  refine at_xload_n 991 X rfl rfl dL_law__990 rfl ?_
  refine at_iload 993 X rfl dL_law__991 rfl ?_
  refine at_iconst 994 X (by decide) dL_law__993 rfl ?_
  refine at_iadd 995 X dL_law__994 rfl ?_
  rw [w32_id (by omega) (by omega)]
  refine at_xint 996 X S (by omega) (by omega) dL_law__995 rfl ?_
  refine at_xload_n 997 X rfl rfl dL_law__996 rfl ?_
  refine at_iload 999 X rfl dL_law__997 rfl ?_
  refine at_iconst 1000 X (by decide) dL_law__999 rfl ?_
  refine at_iadd 1001 X dL_law__1000 rfl ?_
  rw [w32_id (by omega) (by omega)]
  refine at_xint 1002 X S (by omega) (by omega) dL_law__1001 rfl ?_
  refine at_xload_n 1003 X rfl rfl dL_law__1002 rfl ?_
  refine at_iload 1005 X rfl dL_law__1003 rfl ?_
  refine at_iconst 1006 X (by decide) dL_law__1005 rfl ?_
  refine at_iadd 1007 X dL_law__1006 rfl ?_
  rw [w32_id (by omega) (by omega)]
  refine at_xint 1008 X S (by omega) (by omega) dL_law__1007 rfl ?_
  refine at_xload_n 1009 X rfl rfl dL_law__1008 rfl ?_
  refine at_iload 1011 X rfl dL_law__1009 rfl ?_
  refine at_iconst 1012 X (by decide) dL_law__1011 rfl ?_
  refine at_iadd 1013 X dL_law__1012 rfl ?_
  rw [w32_id (by omega) (by omega)]
  refine at_xint 1014 X S (by omega) (by omega) dL_law__1013 rfl ?_
  refine at_aload_n 1015 X rfl rfl dL_law__1014 rfl ?_
  refine at_callSH (n := 6) 1018 X (lh_bearing hG E _ _ _ _ (M E _ _ _ _) (hX E _ _ _ _ hE)) w_1306 w_120 rfl (by decide +kernel) w_1304 w_1305 rfl rfl (crl ⟨by omega, by omega⟩ (by omega) (by omega)) (Nat.le_of_ble_eq_true rfl) dL_law__1015 rfl ?_
  rintro _ _ ⟨cc, v, E1, rfl, hM1, rfl⟩
  refine at_istore 1020 X dL_law__1018 rfl (by decide) ?_
  refine at_aload_n 1021 X rfl rfl dL_law__1020 rfl ?_
  refine at_xload_n 1022 X rfl rfl dL_law__1021 rfl ?_
  refine at_iload 1024 X rfl dL_law__1022 rfl ?_
  refine at_iconst 1025 X (by decide) dL_law__1024 rfl ?_
  refine at_iadd 1026 X dL_law__1025 rfl ?_
  rw [w32_id (by omega) (by omega)]
  refine at_xint 1027 X S (by omega) (by omega) dL_law__1026 rfl ?_
  refine at_xload_n 1028 X rfl rfl dL_law__1027 rfl ?_
  refine at_iload 1030 X rfl dL_law__1028 rfl ?_
  refine at_iconst 1031 X (by decide) dL_law__1030 rfl ?_
  refine at_iadd 1032 X dL_law__1031 rfl ?_
  rw [w32_id (by omega) (by omega)]
  refine at_xint 1033 X S (by omega) (by omega) dL_law__1032 rfl ?_
  refine at_xload_n 1034 X rfl rfl dL_law__1033 rfl ?_
  refine at_iload 1036 X rfl dL_law__1034 rfl ?_
  refine at_iconst 1037 X (by decide) dL_law__1036 rfl ?_
  refine at_iadd 1038 X dL_law__1037 rfl ?_
  rw [w32_id (by omega) (by omega)]
  refine at_xint 1039 X S (by omega) (by omega) dL_law__1038 rfl ?_
  refine at_xload_n 1040 X rfl rfl dL_law__1039 rfl ?_
  refine at_iload 1042 X rfl dL_law__1040 rfl ?_
  refine at_iconst 1043 X (by decide) dL_law__1042 rfl ?_
  refine at_iadd 1044 X dL_law__1043 rfl ?_
  rw [w32_id (by omega) (by omega)]
  refine at_xint 1045 X S (by omega) (by omega) dL_law__1044 rfl ?_
  refine at_callV 1048 X _ 12 (hM E _ _ _ _ _ _ _ hE hM1) clX12 rfl k_125 mo_X12_bearing w_2070 vo_X12_bearing.1 vo_X12_bearing.2 rfl rfl (crl ⟨by omega, by omega⟩ (by omega) (by omega)) (Nat.le_of_ble_eq_true rfl) dL_law__1045 rfl ?_
  rintro _ _ ⟨bb, E2, rfl, rfl, hE2, hth, hbb⟩
  refine at_istore 1050 X dL_law__1048 rfl (by decide) ?_
  refine at_aload_n 1051 X rfl rfl dL_law__1050 rfl ?_
  refine at_callV 1054 X _ 12 (ct_X12_thrown hG E2) clX12 rfl k_125 mo_X12_thrown w_1945 vo_X12_thrown.1 vo_X12_thrown.2 rfl rfl (crl ⟨Nat.le_of_ble_eq_true rfl, Nat.le_of_ble_eq_true rfl⟩ (by omega) (by omega)) (Nat.le_of_ble_eq_true rfl) dL_law__1051 rfl ?_
  rintro _ _ ⟨rfl, rfl⟩
  rw [hth]
  refine at_iload 1056 X rfl dL_law__1054 rfl ?_
  refine at_icmp_eq 1059 1061 X dL_law__1056 rfl (by decide) (fun _ => ?_) (fun h => absurd rfl h)
  refine at_iload 1063 X rfl dL_law__1061 rfl ?_
  refine at_if_ne 1066 1078 X dL_law__1063 rfl (by decide) (fun h => ?_) (fun h => ?_)
  · refine at_goto 3366 X dL_law__1078 (by decide) ?_
    exact at_sub _ (by exact ⟨rfl, rfl, rfl, rfl, rfl, trivial⟩) (at_widen (by omega) (by omega) (hend E2 hE2))
  · have hc0 : cc = 0 := by omega
    have hbb := hbb hc0
    refine at_aload_n 1067 X rfl rfl dL_law__1066 rfl ?_
    refine at_iconst 1068 X (by decide) dL_law__1067 rfl ?_
    refine m_laload 1069 X k_813 e_813 (by decide) (by decide) dL_law__1068 rfl ?_
    refine at_iload 1071 X rfl dL_law__1069 rfl ?_
    refine at_i2l 1072 X dL_law__1071 rfl ?_
    refine at_lcmp 1073 X dL_law__1072 rfl ?_
    refine at_if_eq 1076 1078 X dL_law__1073 rfl (by decide) (fun _ => ?_) (fun h => absurd (lcmp_eq (by first | exact hbb | (rw [show (0 : Int).toNat = 0 from rfl, hbb]; omega))) h)
    refine at_goto 3366 X dL_law__1078 (by decide) ?_
    exact at_sub _ (by exact ⟨rfl, rfl, rfl, rfl, rfl, trivial⟩) (at_widen (by omega) (by omega) (hend E2 hE2))
