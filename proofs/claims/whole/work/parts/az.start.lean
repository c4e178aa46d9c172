/-! the beginning -/
theorem EI_z {a : Nat} (h : eiT.lookup a = none) : ∀ j, EI a j = 0 := EI0 h
theorem EI_CS : CS EI 68 P00 := by
  refine ⟨by decide +kernel, by decide +kernel, fun p hp => absurd hp (Nat.not_lt_zero p), by decide +kernel, fun h hh => ⟨?_, fun q => absurd rfl q⟩, by decide +kernel, fun p hp => absurd hp (Nat.not_lt_zero p), by decide +kernel, by decide +kernel, by decide +kernel, by decide +kernel, ⟨by decide +kernel, fun b hb => absurd hb (Nat.not_lt_zero b)⟩⟩
  exact (by decide +kernel : ∀ h, h < 24 → EI (68 + 3) h = -1) h hh
theorem EI_RTS : RTS EI P00 Q00 := by
  refine ⟨⟨by decide +kernel, by decide +kernel, by decide +kernel, by decide +kernel, by decide +kernel, by decide +kernel, by decide +kernel, by decide +kernel⟩, fun p hp => absurd hp (Nat.not_lt_zero p), ⟨Nat.zero_le _, fun k hk => absurd hk (Nat.not_lt_zero k), fun t _ q => absurd rfl q⟩, fun k hk => absurd hk (Nat.not_lt_zero k), ⟨fun k hk => absurd hk (Nat.not_lt_zero k), fun h _ => rfl⟩, ⟨fun k hk => absurd hk (Nat.not_lt_zero k), fun h _ => rfl⟩, fun b hb => absurd hb (Nat.not_lt_zero b)⟩
theorem EI_CL : CL EI 4 plL := ⟨by decide +kernel, fun i hi => by
  have h : i < 3 := hi
  exact (by decide +kernel : ∀ i, i < 3 → EI (4 + 1) i = plL.2.1 i ∧ EI (4 + 2) i = plL.2.2 i) i h⟩
theorem INV_0 : INV 0 EI := by
  have e578 : ∀ j, EI 578 j = 0 := EI0 (by decide +kernel)
  have e579 : ∀ j, EI 579 j = 0 := EI0 (by decide +kernel)
  have e3 : ∀ j, EI 3 j = 0 := EI0 (by decide +kernel)
  have e127 : ∀ j, EI 127 j = 0 := EI0 (by decide +kernel)
  refine ⟨68, Q00, P00, plL, ln00, ln00, 0, 2, 0, (0, fun _ => 0, fun _ => 0, fun _ => 0, fun _ => 0), 0, fun _ => P00, fun _ => 0, fun _ => (0, fun _ => 0, fun _ => 0, fun _ => 0, fun _ => 0), ?_⟩
  refine ⟨⟨Or.inl rfl, by decide +kernel, by decide +kernel, EI_CS, P00_WS.1, P00_WS.2, EI_CL, plL_WL, ⟨by decide +kernel, fun i hi => absurd hi (Nat.not_lt_zero i)⟩, ⟨Nat.zero_le _, fun i hi => absurd hi (Nat.not_lt_zero i)⟩, ⟨by decide +kernel, fun i hi => absurd hi (Nat.not_lt_zero i)⟩, ⟨Nat.zero_le _, fun i hi => absurd hi (Nat.not_lt_zero i)⟩, by decide +kernel, by decide, Or.inl (by decide +kernel)⟩, ⟨EI_RTS, Or.inl ⟨by decide +kernel, rfl⟩, ⟨by decide +kernel, fun s t h m _ _ _ _ => ⟨by rw [e579]; decide, fun q => absurd q (by rw [e579]; decide)⟩⟩, ⟨by decide +kernel, fun i hi => absurd hi (Nat.not_lt_zero i)⟩, ⟨by decide +kernel, fun i hi => absurd hi (Nat.not_lt_zero i)⟩, by decide +kernel⟩, ⟨Nat.zero_le _, by decide +kernel, by decide +kernel, fun k hk => absurd hk (Nat.not_lt_zero k)⟩, by decide +kernel, fun k _ => by rw [e3, e127], Nat.le_refl _, ⟨⟨by decide +kernel, fun k hk => absurd hk (Nat.not_lt_zero k)⟩, ⟨Nat.zero_le _, fun k hk => absurd hk (Nat.not_lt_zero k)⟩, ⟨by decide +kernel, fun k hk => absurd hk (Nat.not_lt_zero k)⟩⟩, ⟨by decide +kernel, by decide +kernel, Nat.zero_le _⟩, fun i hi => absurd hi (Nat.not_lt_zero i)⟩
theorem all_cases {g : Gw} {p : Program} {e : Env} {s : State} {m : MethodId} {below : List Frame} {meth : Method} {c : Code} {b L : Nat} {xs : Nat → Int32} (hL : L ≤ 3072) (hG : GF g) (X : CX g (KL p e s m below meth c b) code R_law 8) (S : SCR g (KL p e s m below meth c b) b L xs) {pc : Nat} (E : Mm) (n cells slots : Nat) (hE : INV n E) (hn : n + 6 ≤ L) (hc : cells + 10 ≤ 601024) (hs : slots + 100 ≤ 7293034) (hend : ∀ E' : Mm, INV (n + 6) E' → AT g (KL p e s m below meth c b) K2 false (cells + 10) (slots + 100) 3366 (lawL b n) [] (ov E')) : ∀ k : Nat, casePc[k]? = some pc → AT g (KL p e s m below meth c b) K2 false cells slots pc (lawL b n) [] (ov E)
  | 0, h => by
    have e := Option.some.inj h
    subst e
    exact case_0 (INV := INV n) (INV' := INV (n + 6)) hL hG X S (MK_0 n) (fun E x0 x1 x2 x3 x4 hE => XK_0 hG n E x0 x1 x2 x3 x4 hE) (fun E x0 x1 x2 x3 x4 v E1 _ hM => RK_0 hG n (by omega) E x0 x1 x2 x3 x4 v E1 hM) ⟨Nat.le_of_ble_eq_true rfl, Nat.le_of_ble_eq_true rfl⟩ ⟨Nat.le_of_ble_eq_true rfl, Nat.le_of_ble_eq_true rfl⟩ (by decide) (by decide) E n cells slots hE hn hc hs hend
  | 1, h => by
    have e := Option.some.inj h
    subst e
    exact case_1 (INV := INV n) (INV' := INV (n + 6)) hL hG X S (MK_1 n) (fun E x0 hE => XK_1 hG n E x0 hE) (fun E x0 c v E1 _ hM => RK_1 hG n (by omega) E x0 c v E1 hM) ⟨Nat.le_of_ble_eq_true rfl, Nat.le_of_ble_eq_true rfl⟩ ⟨Nat.le_of_ble_eq_true rfl, Nat.le_of_ble_eq_true rfl⟩ (by decide) (by decide) E n cells slots hE hn hc hs hend
  | 2, h => by
    have e := Option.some.inj h
    subst e
    exact case_2 (INV := INV n) (INV' := INV (n + 6)) hL hG X S (MK_2 n) (fun E x0 hE => XK_2 hG n E x0 hE) (fun E x0 c v E1 _ hM => RK_2 hG n (by omega) E x0 c v E1 hM) ⟨Nat.le_of_ble_eq_true rfl, Nat.le_of_ble_eq_true rfl⟩ ⟨Nat.le_of_ble_eq_true rfl, Nat.le_of_ble_eq_true rfl⟩ (by decide) (by decide) E n cells slots hE hn hc hs hend
  | 3, h => by
    have e := Option.some.inj h
    subst e
    exact case_3 (INV := INV n) (INV' := INV (n + 6)) hL hG X S (MK_3 n) (fun E x0 hE => XK_3 hG n E x0 hE) (fun E x0 c v E1 _ hM => RK_3 hG n (by omega) E x0 c v E1 hM) ⟨Nat.le_of_ble_eq_true rfl, Nat.le_of_ble_eq_true rfl⟩ ⟨Nat.le_of_ble_eq_true rfl, Nat.le_of_ble_eq_true rfl⟩ (by decide) (by decide) E n cells slots hE hn hc hs hend
  | 4, h => by
    have e := Option.some.inj h
    subst e
    exact case_4 (INV := INV n) (INV' := INV (n + 6)) hL hG X S (MK_4 n) (fun E x0 hE => XK_4 hG n E x0 hE) (fun E x0 c v E1 _ hM => RK_4 hG n (by omega) E x0 c v E1 hM) ⟨Nat.le_of_ble_eq_true rfl, Nat.le_of_ble_eq_true rfl⟩ ⟨Nat.le_of_ble_eq_true rfl, Nat.le_of_ble_eq_true rfl⟩ (by decide) (by decide) E n cells slots hE hn hc hs hend
  | 5, h => by
    have e := Option.some.inj h
    subst e
    exact case_5 (INV := INV n) (INV' := INV (n + 6)) hL hG X S (MK_5 n) (fun E  hE => XK_5 hG n E  hE) (fun E  v E1 _ hM => RK_5 hG n (by omega) E  v E1 hM) ⟨Nat.le_of_ble_eq_true rfl, Nat.le_of_ble_eq_true rfl⟩ ⟨Nat.le_of_ble_eq_true rfl, Nat.le_of_ble_eq_true rfl⟩ (by decide) (by decide) E n cells slots hE hn hc hs hend
  | 6, h => by
    have e := Option.some.inj h
    subst e
    exact case_6 (INV := INV n) (INV' := INV (n + 6)) hL hG X S (MK_6 n) (fun E x0 hE => XK_6 hG n E x0 hE) (fun E x0 c v E1 _ hM => RK_6 hG n (by omega) E x0 c v E1 hM) ⟨Nat.le_of_ble_eq_true rfl, Nat.le_of_ble_eq_true rfl⟩ ⟨Nat.le_of_ble_eq_true rfl, Nat.le_of_ble_eq_true rfl⟩ (by decide) (by decide) E n cells slots hE hn hc hs hend
  | 7, h => by
    have e := Option.some.inj h
    subst e
    exact case_7 (INV := INV n) (INV' := INV (n + 6)) hL hG X S (MK_7 n) (fun E x0 x1 hE => XK_7 hG n E x0 x1 hE) (fun E x0 x1 c v E1 _ hM => RK_7 hG n (by omega) E x0 x1 c v E1 hM) ⟨Nat.le_of_ble_eq_true rfl, Nat.le_of_ble_eq_true rfl⟩ ⟨Nat.le_of_ble_eq_true rfl, Nat.le_of_ble_eq_true rfl⟩ (by decide) (by decide) E n cells slots hE hn hc hs hend
  | 8, h => by
    have e := Option.some.inj h
    subst e
    exact case_8 (INV := INV n) (INV' := INV (n + 6)) hL hG X S (MK_8 n) (fun E x0 x1 hE => XK_8 hG n E x0 x1 hE) (fun E x0 x1 c v E1 _ hM => RK_8 hG n (by omega) E x0 x1 c v E1 hM) ⟨Nat.le_of_ble_eq_true rfl, Nat.le_of_ble_eq_true rfl⟩ ⟨Nat.le_of_ble_eq_true rfl, Nat.le_of_ble_eq_true rfl⟩ (by decide) (by decide) E n cells slots hE hn hc hs hend
  | 9, h => by
    have e := Option.some.inj h
    subst e
    exact case_9 (INV := INV n) (INV' := INV (n + 6)) hL hG X S (MK_9 n) (fun E x0 x1 hE => XK_9 hG n E x0 x1 hE) (fun E x0 x1 c v E1 _ hM => RK_9 hG n (by omega) E x0 x1 c v E1 hM) ⟨Nat.le_of_ble_eq_true rfl, Nat.le_of_ble_eq_true rfl⟩ ⟨Nat.le_of_ble_eq_true rfl, Nat.le_of_ble_eq_true rfl⟩ (by decide) (by decide) E n cells slots hE hn hc hs hend
  | 10, h => by
    have e := Option.some.inj h
    subst e
    exact case_10 (INV := INV n) (INV' := INV (n + 6)) hL hG X S (MK_10 n) (fun E x0 x1 x2 hE => XK_10 hG n E x0 x1 x2 hE) (fun E x0 x1 x2 c v E1 _ hM => RK_10 hG n (by omega) E x0 x1 x2 c v E1 hM) ⟨Nat.le_of_ble_eq_true rfl, Nat.le_of_ble_eq_true rfl⟩ ⟨Nat.le_of_ble_eq_true rfl, Nat.le_of_ble_eq_true rfl⟩ (by decide) (by decide) E n cells slots hE hn hc hs hend
  | 11, h => by
    have e := Option.some.inj h
    subst e
    exact case_11 (INV := INV n) (INV' := INV (n + 6)) hL hG X S (MK_11 n) (fun E x0 x1 hE => XK_11 hG n E x0 x1 hE) (fun E x0 x1 c v E1 _ hM => RK_11 hG n (by omega) E x0 x1 c v E1 hM) ⟨Nat.le_of_ble_eq_true rfl, Nat.le_of_ble_eq_true rfl⟩ ⟨Nat.le_of_ble_eq_true rfl, Nat.le_of_ble_eq_true rfl⟩ (by decide) (by decide) E n cells slots hE hn hc hs hend
  | 12, h => by
    have e := Option.some.inj h
    subst e
    exact case_12 (INV := INV n) (INV' := INV (n + 6)) hL hG X S (MK_12 n) (fun E x0 x1 x2 x3 hE => XK_12 hG n E x0 x1 x2 x3 hE) (fun E x0 x1 x2 x3 c v E1 _ hM => RK_12 hG n (by omega) E x0 x1 x2 x3 c v E1 hM) ⟨Nat.le_of_ble_eq_true rfl, Nat.le_of_ble_eq_true rfl⟩ ⟨Nat.le_of_ble_eq_true rfl, Nat.le_of_ble_eq_true rfl⟩ (by decide) (by decide) E n cells slots hE hn hc hs hend
  | 13, h => by
    have e := Option.some.inj h
    subst e
    exact case_13 (INV := INV n) (INV' := INV (n + 6)) hL hG X S (MK_13 n) (fun E x0 x1 x2 hE => XK_13 hG n E x0 x1 x2 hE) (fun E x0 x1 x2 c v E1 _ hM => RK_13 hG n (by omega) E x0 x1 x2 c v E1 hM) ⟨Nat.le_of_ble_eq_true rfl, Nat.le_of_ble_eq_true rfl⟩ ⟨Nat.le_of_ble_eq_true rfl, Nat.le_of_ble_eq_true rfl⟩ (by decide) (by decide) E n cells slots hE hn hc hs hend
  | 14, h => by
    have e := Option.some.inj h
    subst e
    exact case_14 (INV := INV n) (INV' := INV (n + 6)) hL hG X S (MK_14 n) (fun E x0 x1 x2 hE => XK_14 hG n E x0 x1 x2 hE) (fun E x0 x1 x2 c v E1 _ hM => RK_14 hG n (by omega) E x0 x1 x2 c v E1 hM) ⟨Nat.le_of_ble_eq_true rfl, Nat.le_of_ble_eq_true rfl⟩ ⟨Nat.le_of_ble_eq_true rfl, Nat.le_of_ble_eq_true rfl⟩ (by decide) (by decide) E n cells slots hE hn hc hs hend
  | 15, h => by
    have e := Option.some.inj h
    subst e
    exact case_15 (INV := INV n) (INV' := INV (n + 6)) hL hG X S (MK_15 n) (fun E x0 hE => XK_15 hG n E x0 hE) (fun E x0 c v E1 _ hM => RK_15 hG n (by omega) E x0 c v E1 hM) ⟨Nat.le_of_ble_eq_true rfl, Nat.le_of_ble_eq_true rfl⟩ ⟨Nat.le_of_ble_eq_true rfl, Nat.le_of_ble_eq_true rfl⟩ (by decide) (by decide) E n cells slots hE hn hc hs hend
  | 16, h => by
    have e := Option.some.inj h
    subst e
    exact case_16 (INV := INV n) (INV' := INV (n + 6)) hL hG X S (MK_16 n) (fun E x0 x1 hE => XK_16 hG n E x0 x1 hE) (fun E x0 x1 c v E1 _ hM => RK_16 hG n (by omega) E x0 x1 c v E1 hM) ⟨Nat.le_of_ble_eq_true rfl, Nat.le_of_ble_eq_true rfl⟩ ⟨Nat.le_of_ble_eq_true rfl, Nat.le_of_ble_eq_true rfl⟩ (by decide) (by decide) E n cells slots hE hn hc hs hend
  | 17, h => by
    have e := Option.some.inj h
    subst e
    exact case_17 (INV := INV n) (INV' := INV (n + 6)) hL hG X S (MK_17 n) (fun E  hE => XK_17 hG n E  hE) (fun E  v E1 _ hM => RK_17 hG n (by omega) E  v E1 hM) ⟨Nat.le_of_ble_eq_true rfl, Nat.le_of_ble_eq_true rfl⟩ ⟨Nat.le_of_ble_eq_true rfl, Nat.le_of_ble_eq_true rfl⟩ (by decide) (by decide) E n cells slots hE hn hc hs hend
  | 18, h => by
    have e := Option.some.inj h
    subst e
    exact case_18 (INV := INV n) (INV' := INV (n + 6)) hL hG X S (MK_18 n) (fun E x0 hE => XK_18 hG n E x0 hE) (fun E x0 v E1 _ hM => RK_18 hG n (by omega) E x0 v E1 hM) ⟨Nat.le_of_ble_eq_true rfl, Nat.le_of_ble_eq_true rfl⟩ ⟨Nat.le_of_ble_eq_true rfl, Nat.le_of_ble_eq_true rfl⟩ (by decide) (by decide) E n cells slots hE hn hc hs hend
  | 19, h => by
    have e := Option.some.inj h
    subst e
    exact case_19 (INV := INV n) (INV' := INV (n + 6)) hL hG X S (MK_19 n) (fun E x0 hE => XK_19 hG n E x0 hE) (fun E x0 c v E1 _ hM => RK_19 hG n (by omega) E x0 c v E1 hM) ⟨Nat.le_of_ble_eq_true rfl, Nat.le_of_ble_eq_true rfl⟩ ⟨Nat.le_of_ble_eq_true rfl, Nat.le_of_ble_eq_true rfl⟩ (by decide) (by decide) E n cells slots hE hn hc hs hend
  | 20, h => by
    have e := Option.some.inj h
    subst e
    exact case_20 (INV := INV n) (INV' := INV (n + 6)) hL hG X S (MK_20 n) (fun E x0 x1 x2 hE => XK_20 hG n E x0 x1 x2 hE) (fun E x0 x1 x2 c v E1 _ hM => RK_20 hG n (by omega) E x0 x1 x2 c v E1 hM) ⟨Nat.le_of_ble_eq_true rfl, Nat.le_of_ble_eq_true rfl⟩ ⟨Nat.le_of_ble_eq_true rfl, Nat.le_of_ble_eq_true rfl⟩ (by decide) (by decide) E n cells slots hE hn hc hs hend
  | 21, h => by
    have e := Option.some.inj h
    subst e
    exact case_21 (INV := INV n) (INV' := INV (n + 6)) hL hG X S (MK_21 n) (fun E x0 x1 x2 x3 hE => XK_21 hG n E x0 x1 x2 x3 hE) (fun E x0 x1 x2 x3 c v E1 _ hM => RK_21 hG n (by omega) E x0 x1 x2 x3 c v E1 hM) ⟨Nat.le_of_ble_eq_true rfl, Nat.le_of_ble_eq_true rfl⟩ ⟨Nat.le_of_ble_eq_true rfl, Nat.le_of_ble_eq_true rfl⟩ (by decide) (by decide) E n cells slots hE hn hc hs hend
  | 22, h => by
    have e := Option.some.inj h
    subst e
    exact case_22 (INV := INV n) (INV' := INV (n + 6)) hL hG X S (MK_22 n) (fun E x0 x1 x2 hE => XK_22 hG n E x0 x1 x2 hE) (fun E x0 x1 x2 c v E1 _ hM => RK_22 hG n (by omega) E x0 x1 x2 c v E1 hM) ⟨Nat.le_of_ble_eq_true rfl, Nat.le_of_ble_eq_true rfl⟩ ⟨Nat.le_of_ble_eq_true rfl, Nat.le_of_ble_eq_true rfl⟩ (by decide) (by decide) E n cells slots hE hn hc hs hend
  | 23, h => by
    have e := Option.some.inj h
    subst e
    exact case_23 (INV := INV n) (INV' := INV (n + 6)) hL hG X S (MK_23 n) (fun E x0 x1 hE => XK_23 hG n E x0 x1 hE) (fun E x0 x1 c v E1 _ hM => RK_23 hG n (by omega) E x0 x1 c v E1 hM) ⟨Nat.le_of_ble_eq_true rfl, Nat.le_of_ble_eq_true rfl⟩ ⟨Nat.le_of_ble_eq_true rfl, Nat.le_of_ble_eq_true rfl⟩ (by decide) (by decide) E n cells slots hE hn hc hs hend
  | 24, h => by
    have e := Option.some.inj h
    subst e
    exact case_24 (INV := INV n) (INV' := INV (n + 6)) hL hG X S (MK_24 n) (fun E x0 hE => XK_24 hG n E x0 hE) (fun E x0 c v E1 _ hM => RK_24 hG n (by omega) E x0 c v E1 hM) ⟨Nat.le_of_ble_eq_true rfl, Nat.le_of_ble_eq_true rfl⟩ ⟨Nat.le_of_ble_eq_true rfl, Nat.le_of_ble_eq_true rfl⟩ (by decide) (by decide) E n cells slots hE hn hc hs hend
  | 25, h => by
    have e := Option.some.inj h
    subst e
    exact case_25 (INV := INV n) (INV' := INV (n + 6)) hL hG X S (MK_25 n) (fun E x0 x1 x2 x3 hE => XK_25 hG n E x0 x1 x2 x3 hE) (fun E x0 x1 x2 x3 c v E1 _ hM => RK_25 hG n (by omega) E x0 x1 x2 x3 c v E1 hM) ⟨Nat.le_of_ble_eq_true rfl, Nat.le_of_ble_eq_true rfl⟩ ⟨Nat.le_of_ble_eq_true rfl, Nat.le_of_ble_eq_true rfl⟩ (by decide) (by decide) E n cells slots hE hn hc hs hend
  | 26, h => by
    have e := Option.some.inj h
    subst e
    exact case_26 (INV := INV n) (INV' := INV (n + 6)) hL hG X S (MK_26 n) (fun E x0 x1 hE => XK_26 hG n E x0 x1 hE) (fun E x0 x1 c v E1 _ hM => RK_26 hG n (by omega) E x0 x1 c v E1 hM) ⟨Nat.le_of_ble_eq_true rfl, Nat.le_of_ble_eq_true rfl⟩ ⟨Nat.le_of_ble_eq_true rfl, Nat.le_of_ble_eq_true rfl⟩ (by decide) (by decide) E n cells slots hE hn hc hs hend
  | 27, h => by
    have e := Option.some.inj h
    subst e
    exact case_27 (INV := INV n) (INV' := INV (n + 6)) hL hG X S (MK_27 n) (fun E  hE => XK_27 hG n E  hE) (fun E  v E1 _ hM => RK_27 hG n (by omega) E  v E1 hM) ⟨Nat.le_of_ble_eq_true rfl, Nat.le_of_ble_eq_true rfl⟩ ⟨Nat.le_of_ble_eq_true rfl, Nat.le_of_ble_eq_true rfl⟩ (by decide) (by decide) E n cells slots hE hn hc hs hend
  | 28, h => by
    have e := Option.some.inj h
    subst e
    exact case_28 (INV := INV n) (INV' := INV (n + 6)) hL hG X S (MK_28 n) (fun E x0 x1 hE => XK_28 hG n E x0 x1 hE) (fun E x0 x1 c v E1 _ hM => RK_28 hG n (by omega) E x0 x1 c v E1 hM) ⟨Nat.le_of_ble_eq_true rfl, Nat.le_of_ble_eq_true rfl⟩ ⟨Nat.le_of_ble_eq_true rfl, Nat.le_of_ble_eq_true rfl⟩ (by decide) (by decide) E n cells slots hE hn hc hs hend
  | 29, h => by
    have e := Option.some.inj h
    subst e
    exact case_29 (INV := INV n) (INV' := INV (n + 6)) hL hG X S (MK_29 n) (fun E x0 hE => XK_29 hG n E x0 hE) (fun E x0 c v E1 _ hM => RK_29 hG n (by omega) E x0 c v E1 hM) ⟨Nat.le_of_ble_eq_true rfl, Nat.le_of_ble_eq_true rfl⟩ ⟨Nat.le_of_ble_eq_true rfl, Nat.le_of_ble_eq_true rfl⟩ (by decide) (by decide) E n cells slots hE hn hc hs hend
  | 30, h => by
    have e := Option.some.inj h
    subst e
    exact case_30 (INV := INV n) (INV' := INV (n + 6)) hL hG X S (MK_30 n) (fun E x0 x1 x2 x3 x4 hE => XK_30 hG n E x0 x1 x2 x3 x4 hE) (fun E x0 x1 x2 x3 x4 c v E1 _ hM => RK_30 hG n (by omega) E x0 x1 x2 x3 x4 c v E1 hM) ⟨Nat.le_of_ble_eq_true rfl, Nat.le_of_ble_eq_true rfl⟩ ⟨Nat.le_of_ble_eq_true rfl, Nat.le_of_ble_eq_true rfl⟩ (by decide) (by decide) E n cells slots hE hn hc hs hend
  | 31, h => by
    have e := Option.some.inj h
    subst e
    exact case_31 (INV := INV n) (INV' := INV (n + 6)) hL hG X S (MK_31 n) (fun E x0 x1 hE => XK_31 hG n E x0 x1 hE) (fun E x0 x1 c v E1 _ hM => RK_31 hG n (by omega) E x0 x1 c v E1 hM) ⟨Nat.le_of_ble_eq_true rfl, Nat.le_of_ble_eq_true rfl⟩ ⟨Nat.le_of_ble_eq_true rfl, Nat.le_of_ble_eq_true rfl⟩ (by decide) (by decide) E n cells slots hE hn hc hs hend
  | 32, h => by
    have e := Option.some.inj h
    subst e
    exact case_32 (INV := INV n) (INV' := INV (n + 6)) hL hG X S (MK_32 n) (fun E x0 x1 x2 x3 x4 hE => XK_32 hG n E x0 x1 x2 x3 x4 hE) (fun E x0 x1 x2 x3 x4 c v E1 _ hM => RK_32 hG n (by omega) E x0 x1 x2 x3 x4 c v E1 hM) ⟨Nat.le_of_ble_eq_true rfl, Nat.le_of_ble_eq_true rfl⟩ ⟨Nat.le_of_ble_eq_true rfl, Nat.le_of_ble_eq_true rfl⟩ (by decide) (by decide) E n cells slots hE hn hc hs hend
  | 33, h => by
    have e := Option.some.inj h
    subst e
    exact case_33 (INV := INV n) (INV' := INV (n + 6)) hL hG X S (MK_33 n) (fun E x0 x1 x2 hE => XK_33 hG n E x0 x1 x2 hE) (fun E x0 x1 x2 c v E1 _ hM => RK_33 hG n (by omega) E x0 x1 x2 c v E1 hM) ⟨Nat.le_of_ble_eq_true rfl, Nat.le_of_ble_eq_true rfl⟩ ⟨Nat.le_of_ble_eq_true rfl, Nat.le_of_ble_eq_true rfl⟩ (by decide) (by decide) E n cells slots hE hn hc hs hend
  | 34, h => by
    have e := Option.some.inj h
    subst e
    exact case_34 (INV := INV n) (INV' := INV (n + 6)) hL hG X S (MK_34 n) (fun E x0 x1 hE => XK_34 hG n E x0 x1 hE) (fun E x0 x1 c v E1 _ hM => RK_34 hG n (by omega) E x0 x1 c v E1 hM) ⟨Nat.le_of_ble_eq_true rfl, Nat.le_of_ble_eq_true rfl⟩ ⟨Nat.le_of_ble_eq_true rfl, Nat.le_of_ble_eq_true rfl⟩ (by decide) (by decide) E n cells slots hE hn hc hs hend
  | 35, h => by
    have e := Option.some.inj h
    subst e
    exact case_35 (INV := INV n) (INV' := INV (n + 6)) hL hG X S (MK_35 n) (fun E x0 hE => XK_35 hG n E x0 hE) (fun E x0 c v E1 _ hM => RK_35 hG n (by omega) E x0 c v E1 hM) ⟨Nat.le_of_ble_eq_true rfl, Nat.le_of_ble_eq_true rfl⟩ ⟨Nat.le_of_ble_eq_true rfl, Nat.le_of_ble_eq_true rfl⟩ (by decide) (by decide) E n cells slots hE hn hc hs hend
  | 36, h => by
    have e := Option.some.inj h
    subst e
    exact case_36 (INV := INV n) (INV' := INV (n + 6)) hL hG X S (MK_36 n) (fun E x0 hE => XK_36 hG n E x0 hE) (fun E x0 c v E1 _ hM => RK_36 hG n (by omega) E x0 c v E1 hM) ⟨Nat.le_of_ble_eq_true rfl, Nat.le_of_ble_eq_true rfl⟩ ⟨Nat.le_of_ble_eq_true rfl, Nat.le_of_ble_eq_true rfl⟩ (by decide) (by decide) E n cells slots hE hn hc hs hend
  | 37, h => by
    have e := Option.some.inj h
    subst e
    exact case_37 (INV := INV n) (INV' := INV (n + 6)) hL hG X S (MK_37 n) (fun E x0 hE => XK_37 hG n E x0 hE) (fun E x0 c v E1 _ hM => RK_37 hG n (by omega) E x0 c v E1 hM) ⟨Nat.le_of_ble_eq_true rfl, Nat.le_of_ble_eq_true rfl⟩ ⟨Nat.le_of_ble_eq_true rfl, Nat.le_of_ble_eq_true rfl⟩ (by decide) (by decide) E n cells slots hE hn hc hs hend
  | 38, h => by
    have e := Option.some.inj h
    subst e
    exact case_38 (INV := INV n) (INV' := INV (n + 6)) hL hG X S (MK_38 n) (fun E x0 x1 hE => XK_38 hG n E x0 x1 hE) (fun E x0 x1 c v E1 _ hM => RK_38 hG n (by omega) E x0 x1 c v E1 hM) ⟨Nat.le_of_ble_eq_true rfl, Nat.le_of_ble_eq_true rfl⟩ ⟨Nat.le_of_ble_eq_true rfl, Nat.le_of_ble_eq_true rfl⟩ (by decide) (by decide) E n cells slots hE hn hc hs hend
  | 39, h => by
    have e := Option.some.inj h
    subst e
    exact case_39 (INV := INV n) (INV' := INV (n + 6)) hL hG X S (MK_39 n) (fun E x0 x1 x2 hE => XK_39 hG n E x0 x1 x2 hE) (fun E x0 x1 x2 c v E1 _ hM => RK_39 hG n (by omega) E x0 x1 x2 c v E1 hM) ⟨Nat.le_of_ble_eq_true rfl, Nat.le_of_ble_eq_true rfl⟩ ⟨Nat.le_of_ble_eq_true rfl, Nat.le_of_ble_eq_true rfl⟩ (by decide) (by decide) E n cells slots hE hn hc hs hend
  | 40, h => by
    have e := Option.some.inj h
    subst e
    exact case_40 (INV := INV n) (INV' := INV (n + 6)) hL hG X S (MK_40 n) (fun E x0 hE => XK_40 hG n E x0 hE) (fun E x0 c v E1 _ hM => RK_40 hG n (by omega) E x0 c v E1 hM) ⟨Nat.le_of_ble_eq_true rfl, Nat.le_of_ble_eq_true rfl⟩ ⟨Nat.le_of_ble_eq_true rfl, Nat.le_of_ble_eq_true rfl⟩ (by decide) (by decide) E n cells slots hE hn hc hs hend
  | 41, h => by
    have e := Option.some.inj h
    subst e
    exact case_41 (INV := INV n) (INV' := INV (n + 6)) hL hG X S (MK_41 n) (fun E x0 hE => XK_41 hG n E x0 hE) (fun E x0 c v E1 _ hM => RK_41 hG n (by omega) E x0 c v E1 hM) ⟨Nat.le_of_ble_eq_true rfl, Nat.le_of_ble_eq_true rfl⟩ ⟨Nat.le_of_ble_eq_true rfl, Nat.le_of_ble_eq_true rfl⟩ (by decide) (by decide) E n cells slots hE hn hc hs hend
  | 42, h => by
    have e := Option.some.inj h
    subst e
    exact case_42 (INV := INV n) (INV' := INV (n + 6)) hL hG X S (MK_42 n) (fun E  hE => XK_42 hG n E  hE) (fun E  v E1 _ hM => RK_42 hG n (by omega) E  v E1 hM) ⟨Nat.le_of_ble_eq_true rfl, Nat.le_of_ble_eq_true rfl⟩ ⟨Nat.le_of_ble_eq_true rfl, Nat.le_of_ble_eq_true rfl⟩ (by decide) (by decide) E n cells slots hE hn hc hs hend
  | 43, h => by
    have e := Option.some.inj h
    subst e
    exact case_43 (INV := INV n) (INV' := INV (n + 6)) hL hG X S (MK_43 n) (fun E x0 x1 hE => XK_43 hG n E x0 x1 hE) (fun E x0 x1 c v E1 _ hM => RK_43 hG n (by omega) E x0 x1 c v E1 hM) ⟨Nat.le_of_ble_eq_true rfl, Nat.le_of_ble_eq_true rfl⟩ ⟨Nat.le_of_ble_eq_true rfl, Nat.le_of_ble_eq_true rfl⟩ (by decide) (by decide) E n cells slots hE hn hc hs hend
  | 44, h => by
    have e := Option.some.inj h
    subst e
    exact case_44 (INV := INV n) (INV' := INV (n + 6)) hL hG X S (MK_44 n) (fun E x0 x1 hE => XK_44 hG n E x0 x1 hE) (fun E x0 x1 c v E1 _ hM => RK_44 hG n (by omega) E x0 x1 c v E1 hM) ⟨Nat.le_of_ble_eq_true rfl, Nat.le_of_ble_eq_true rfl⟩ ⟨Nat.le_of_ble_eq_true rfl, Nat.le_of_ble_eq_true rfl⟩ (by decide) (by decide) E n cells slots hE hn hc hs hend
  | 45, h => by
    have e := Option.some.inj h
    subst e
    exact case_45 (INV := INV n) (INV' := INV (n + 6)) hL hG X S (MK_45 n) (fun E x0 x1 hE => XK_45 hG n E x0 x1 hE) (fun E x0 x1 c v E1 _ hM => RK_45 hG n (by omega) E x0 x1 c v E1 hM) ⟨Nat.le_of_ble_eq_true rfl, Nat.le_of_ble_eq_true rfl⟩ ⟨Nat.le_of_ble_eq_true rfl, Nat.le_of_ble_eq_true rfl⟩ (by decide) (by decide) E n cells slots hE hn hc hs hend
  | 46, h => by
    have e := Option.some.inj h
    subst e
    exact case_46 (INV := INV n) (INV' := INV (n + 6)) hL hG X S (MK_46 n) (fun E x0 x1 x2 hE => XK_46 hG n E x0 x1 x2 hE) (fun E x0 x1 x2 c v E1 _ hM => RK_46 hG n (by omega) E x0 x1 x2 c v E1 hM) ⟨Nat.le_of_ble_eq_true rfl, Nat.le_of_ble_eq_true rfl⟩ ⟨Nat.le_of_ble_eq_true rfl, Nat.le_of_ble_eq_true rfl⟩ (by decide) (by decide) E n cells slots hE hn hc hs hend
  | 47, h => by
    have e := Option.some.inj h
    subst e
    exact case_47 (INV := INV n) (INV' := INV (n + 6)) hL hG X S (MK_47 n) (fun E  hE => XK_47 hG n E  hE) (fun E  v E1 _ hM => RK_47 hG n (by omega) E  v E1 hM) ⟨Nat.le_of_ble_eq_true rfl, Nat.le_of_ble_eq_true rfl⟩ ⟨Nat.le_of_ble_eq_true rfl, Nat.le_of_ble_eq_true rfl⟩ (by decide) (by decide) E n cells slots hE hn hc hs hend
  | 48, h => by
    have e := Option.some.inj h
    subst e
    exact case_48 (INV := INV n) (INV' := INV (n + 6)) hL hG X S (MK_48 n) (fun E  hE => XK_48 hG n E  hE) (fun E  v E1 _ hM => RK_48 hG n (by omega) E  v E1 hM) ⟨Nat.le_of_ble_eq_true rfl, Nat.le_of_ble_eq_true rfl⟩ ⟨Nat.le_of_ble_eq_true rfl, Nat.le_of_ble_eq_true rfl⟩ (by decide) (by decide) E n cells slots hE hn hc hs hend
  | 49, h => by
    have e := Option.some.inj h
    subst e
    exact case_49 (INV := INV n) (INV' := INV (n + 6)) hL hG X S (MK_49 n) (fun E  hE => XK_49 hG n E  hE) (fun E  v E1 _ hM => RK_49 hG n (by omega) E  v E1 hM) ⟨Nat.le_of_ble_eq_true rfl, Nat.le_of_ble_eq_true rfl⟩ ⟨Nat.le_of_ble_eq_true rfl, Nat.le_of_ble_eq_true rfl⟩ (by decide) (by decide) E n cells slots hE hn hc hs hend
  | 50, h => by
    have e := Option.some.inj h
    subst e
    exact case_50 (INV := INV n) (INV' := INV (n + 6)) hL hG X S (MK_50 n) (fun E x0 hE => XK_50 hG n E x0 hE) (fun E x0 v E1 _ hM => RK_50 hG n (by omega) E x0 v E1 hM) ⟨Nat.le_of_ble_eq_true rfl, Nat.le_of_ble_eq_true rfl⟩ ⟨Nat.le_of_ble_eq_true rfl, Nat.le_of_ble_eq_true rfl⟩ (by decide) (by decide) E n cells slots hE hn hc hs hend
  | 51, h => by
    have e := Option.some.inj h
    subst e
    exact case_51 (INV := INV n) (INV' := INV (n + 6)) hL hG X S (MK_51 n) (fun E x0 hE => XK_51 hG n E x0 hE) (fun E x0 v E1 _ hM => RK_51 hG n (by omega) E x0 v E1 hM) ⟨Nat.le_of_ble_eq_true rfl, Nat.le_of_ble_eq_true rfl⟩ ⟨Nat.le_of_ble_eq_true rfl, Nat.le_of_ble_eq_true rfl⟩ (by decide) (by decide) E n cells slots hE hn hc hs hend
  | k + 52, h => by
    rw [List.getElem?_eq_none (by show 52 ≤ k + 52; omega)] at h
    cases h
/-- YOUR PART: from the entry, for every script of at most 3072 ints, the law comes to its end with true -/
theorem whole_start {p : Program} {e : Env} {s : State} {m : MethodId} {below : List Frame} {meth : Method} {c : Code} (l : Launch) (hflags : l.flags = flags0) {b L : Nat} {xs : Nat → Int32} (hL : L ≤ 3072) (C0 : lw_At p s m meth c b L xs) : W p l e room_1 s m #[Value.ref b] below meth c s.heap [] 0 0 (lw_Z below #[Value.ref b] s) (entryFrame m ([Value.ref b] : List Value).toArray 8) :=
  law_from (law_main INV INV_0 (fun _ _ h => h.mono) (fun _ _ _ _ _ _ _ _ _ _ _ hL hG X S k _ hk E n cells slots hE hn hc hs hend => all_cases hL hG X S E n cells slots hE hn hc hs hend k hk)) l hflags hL C0
