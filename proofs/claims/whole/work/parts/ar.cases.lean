theorem dL_law__1925 : decode code 1925 = .ok (.aload_n 1, 1) := by decide +kernel
theorem dL_law__1926 : decode code 1926 = .ok (.aload_n 0, 1) := by decide +kernel
theorem dL_law__1927 : decode code 1927 = .ok (.iload 4, 2) := by decide +kernel
theorem dL_law__1929 : decode code 1929 = .ok (.iconst 1, 1) := by decide +kernel
theorem dL_law__1930 : decode code 1930 = .ok (.iadd, 1) := by decide +kernel
theorem dL_law__1931 : decode code 1931 = .ok (.iaload, 1) := by decide +kernel
theorem dL_law__1932 : decode code 1932 = .ok (.aload_n 0, 1) := by decide +kernel
theorem dL_law__1933 : decode code 1933 = .ok (.iload 4, 2) := by decide +kernel
theorem dL_law__1935 : decode code 1935 = .ok (.iconst 2, 1) := by decide +kernel
theorem dL_law__1936 : decode code 1936 = .ok (.iadd, 1) := by decide +kernel
theorem dL_law__1937 : decode code 1937 = .ok (.iaload, 1) := by decide +kernel
theorem dL_law__1938 : decode code 1938 = .ok (.aload_n 3, 1) := by decide +kernel
theorem dL_law__1939 : decode code 1939 = .ok (.invokestatic 242, 3) := by decide +kernel
theorem dL_law__1942 : decode code 1942 = .ok (.istore 5, 2) := by decide +kernel
theorem dL_law__1944 : decode code 1944 = .ok (.aload_n 2, 1) := by decide +kernel
theorem dL_law__1945 : decode code 1945 = .ok (.aload_n 0, 1) := by decide +kernel
theorem dL_law__1946 : decode code 1946 = .ok (.iload 4, 2) := by decide +kernel
theorem dL_law__1948 : decode code 1948 = .ok (.iconst 1, 1) := by decide +kernel
theorem dL_law__1949 : decode code 1949 = .ok (.iadd, 1) := by decide +kernel
theorem dL_law__1950 : decode code 1950 = .ok (.iaload, 1) := by decide +kernel
theorem dL_law__1951 : decode code 1951 = .ok (.aload_n 0, 1) := by decide +kernel
theorem dL_law__1952 : decode code 1952 = .ok (.iload 4, 2) := by decide +kernel
theorem dL_law__1954 : decode code 1954 = .ok (.iconst 2, 1) := by decide +kernel
theorem dL_law__1955 : decode code 1955 = .ok (.iadd, 1) := by decide +kernel
theorem dL_law__1956 : decode code 1956 = .ok (.iaload, 1) := by decide +kernel
theorem dL_law__1957 : decode code 1957 = .ok (.invokevirtual 244, 3) := by decide +kernel
theorem dL_law__1960 : decode code 1960 = .ok (.istore 6, 2) := by decide +kernel
theorem dL_law__1962 : decode code 1962 = .ok (.aload_n 2, 1) := by decide +kernel
theorem dL_law__1963 : decode code 1963 = .ok (.invokevirtual 160, 3) := by decide +kernel
theorem dL_law__1966 : decode code 1966 = .ok (.iload 5, 2) := by decide +kernel
theorem dL_law__1968 : decode code 1968 = .ok (.if_icmp .eq 5, 3) := by decide +kernel
theorem dL_law__1971 : decode code 1971 = .ok (.iconst 0, 1) := by decide +kernel
theorem dL_law__1972 : decode code 1972 = .ok (.ireturn, 1) := by decide +kernel
theorem dL_law__1973 : decode code 1973 = .ok (.iload 5, 2) := by decide +kernel
theorem dL_law__1975 : decode code 1975 = .ok (.ifCond .ne 15, 3) := by decide +kernel
theorem dL_law__1978 : decode code 1978 = .ok (.aload_n 3, 1) := by decide +kernel
theorem dL_law__1979 : decode code 1979 = .ok (.iconst 0, 1) := by decide +kernel
theorem dL_law__1980 : decode code 1980 = .ok (.laload, 1) := by decide +kernel
theorem dL_law__1981 : decode code 1981 = .ok (.iload 6, 2) := by decide +kernel
theorem dL_law__1983 : decode code 1983 = .ok (.i2l, 1) := by decide +kernel
theorem dL_law__1984 : decode code 1984 = .ok (.lcmp, 1) := by decide +kernel
theorem dL_law__1985 : decode code 1985 = .ok (.ifCond .eq 5, 3) := by decide +kernel
theorem dL_law__1988 : decode code 1988 = .ok (.iconst 0, 1) := by decide +kernel
theorem dL_law__1989 : decode code 1989 = .ok (.ireturn, 1) := by decide +kernel
theorem dL_law__1990 : decode code 1990 = .ok (.goto 1376, 3) := by decide +kernel
theorem case_26 {INV INV' : Mm → Prop} {g : Gw} {p : Program} {e : Env} {s : State} {m : MethodId} {below : List Frame} {meth : Method} {c : Code} {b L : Nat} {xs : Nat → Int32} (hL : L ≤ 3072) (hG : GF g) (X : CX g (KL p e s m below meth c b) code R_law 8) (S : SCR g (KL p e s m below meth c b) b L xs) {fr lo mc ms fr2 lo2 : Nat} (M : Mm → Int → Int → Nat → Int → Mm → Prop) (hX : ∀ (E : Mm) (x0 x1 : Int), INV E → CTX g yX11_missing cX11_missing 6 (some .int) fr lo mc ms K2 false [mR 0, mI x0, mI x1] (ov E) K2 false (fun r D' => ∃ (v : Int) (E1 : Mm), r = some (mI v) ∧ D' = ov E1 ∧ M E x0 x1 0 v E1) (fun X D' => ∃ (c : Nat) (E1 : Mm), ((c = 1 ∧ X = "java/lang/IllegalArgumentException")) ∧ D' = ov E1 ∧ M E x0 x1 c 0 E1)) (hM : ∀ (E : Mm) (x0 x1 : Int) (c : Nat) (v : Int) (E1 : Mm), INV E → M E x0 x1 c v E1 → CT g yX12_missing cX12_missing 6 (some .int) fr2 lo2 0 0 K2 false [mR 125, mI x0, mI x1] (ov (if c = 0 then wr E1 813 0 v else E1)) K2 false (fun r D' => ∃ (bb : Int) (E2 : Mm), r = some (mI bb) ∧ D' = ov E2 ∧ INV' E2 ∧ E2 125 0 = (c : Int) ∧ (c = 0 → E2 813 0 = bb))) (hr1 : fr + 2 ≤ room_1.frames ∧ 8 + (5 + 11) + (lo + 25) ≤ room_1.locals) (hr2 : fr2 + 1 ≤ room_1.frames ∧ 8 + (6 + 11) + lo2 ≤ room_1.locals) (hmc : mc ≤ 10) (hms : ms ≤ 100) (E : Mm) (n cells slots : Nat) (hE : INV E) (hn : n + 6 ≤ L) (hc : cells + 10 ≤ 601024) (hs : slots + 100 ≤ 7293034) (hend : ∀ E' : Mm, INV' E' → AT g (KL p e s m below meth c b) K2 false (cells + 10) (slots + 100) 3366 (lawL b n) [] (ov E')) : AT g (KL p e s m below meth c b) K2 false cells slots 1925 (lawL b n) [] (ov E) := by
  refine at_aload_n 1926 X rfl rfl dL_law__1925 rfl ?_
  refine at_xload_n 1927 X rfl rfl dL_law__1926 rfl ?_
  refine at_iload 1929 X rfl dL_law__1927 rfl ?_
  refine at_iconst 1930 X (by decide) dL_law__1929 rfl ?_
  refine at_iadd 1931 X dL_law__1930 rfl ?_
  rw [w32_id (by omega) (by omega)]
  refine at_xint 1932 X S (by omega) (by omega) dL_law__1931 rfl ?_
  refine at_xload_n 1933 X rfl rfl dL_law__1932 rfl ?_
  refine at_iload 1935 X rfl dL_law__1933 rfl ?_
  refine at_iconst 1936 X (by decide) dL_law__1935 rfl ?_
  refine at_iadd 1937 X dL_law__1936 rfl ?_
  rw [w32_id (by omega) (by omega)]
  refine at_xint 1938 X S (by omega) (by omega) dL_law__1937 rfl ?_
  refine at_aload_n 1939 X rfl rfl dL_law__1938 rfl ?_
  refine at_callSH (n := 4) 1942 X (lh_missing hG E _ _ (M E _ _) (hX E _ _ hE)) w_1543 w_120 rfl (by decide +kernel) w_1541 w_1542 rfl rfl (crl ⟨by omega, by omega⟩ (by omega) (by omega)) (Nat.le_of_ble_eq_true rfl) dL_law__1939 rfl ?_
  rintro _ _ ⟨cc, v, E1, rfl, hM1, rfl⟩
  refine at_istore 1944 X dL_law__1942 rfl (by decide) ?_
  refine at_aload_n 1945 X rfl rfl dL_law__1944 rfl ?_
  refine at_xload_n 1946 X rfl rfl dL_law__1945 rfl ?_
  refine at_iload 1948 X rfl dL_law__1946 rfl ?_
  refine at_iconst 1949 X (by decide) dL_law__1948 rfl ?_
  refine at_iadd 1950 X dL_law__1949 rfl ?_
  rw [w32_id (by omega) (by omega)]
  refine at_xint 1951 X S (by omega) (by omega) dL_law__1950 rfl ?_
  refine at_xload_n 1952 X rfl rfl dL_law__1951 rfl ?_
  refine at_iload 1954 X rfl dL_law__1952 rfl ?_
  refine at_iconst 1955 X (by decide) dL_law__1954 rfl ?_
  refine at_iadd 1956 X dL_law__1955 rfl ?_
  rw [w32_id (by omega) (by omega)]
  refine at_xint 1957 X S (by omega) (by omega) dL_law__1956 rfl ?_
  refine at_callV 1960 X _ 12 (hM E _ _ _ _ _ hE hM1) clX12 rfl k_125 mo_X12_missing w_2309 vo_X12_missing.1 vo_X12_missing.2 rfl rfl (crl ⟨by omega, by omega⟩ (by omega) (by omega)) (Nat.le_of_ble_eq_true rfl) dL_law__1957 rfl ?_
  rintro _ _ ⟨bb, E2, rfl, rfl, hE2, hth, hbb⟩
  refine at_istore 1962 X dL_law__1960 rfl (by decide) ?_
  refine at_aload_n 1963 X rfl rfl dL_law__1962 rfl ?_
  refine at_callV 1966 X _ 12 (ct_X12_thrown hG E2) clX12 rfl k_125 mo_X12_thrown w_1945 vo_X12_thrown.1 vo_X12_thrown.2 rfl rfl (crl ⟨Nat.le_of_ble_eq_true rfl, Nat.le_of_ble_eq_true rfl⟩ (by omega) (by omega)) (Nat.le_of_ble_eq_true rfl) dL_law__1963 rfl ?_
  rintro _ _ ⟨rfl, rfl⟩
  rw [hth]
  refine at_iload 1968 X rfl dL_law__1966 rfl ?_
  refine at_icmp_eq 1971 1973 X dL_law__1968 rfl (by decide) (fun _ => ?_) (fun h => absurd rfl h)
  refine at_iload 1975 X rfl dL_law__1973 rfl ?_
  refine at_if_ne 1978 1990 X dL_law__1975 rfl (by decide) (fun h => ?_) (fun h => ?_)
  · refine at_goto 3366 X dL_law__1990 (by decide) ?_
    exact at_sub _ (by exact ⟨rfl, rfl, rfl, rfl, rfl, trivial⟩) (at_widen (by omega) (by omega) (hend E2 hE2))
  · have hc0 : cc = 0 := by omega
    have hbb := hbb hc0
    refine at_aload_n 1979 X rfl rfl dL_law__1978 rfl ?_
    refine at_iconst 1980 X (by decide) dL_law__1979 rfl ?_
    refine m_laload 1981 X k_813 e_813 (by decide) (by decide) dL_law__1980 rfl ?_
    refine at_iload 1983 X rfl dL_law__1981 rfl ?_
    refine at_i2l 1984 X dL_law__1983 rfl ?_
    refine at_lcmp 1985 X dL_law__1984 rfl ?_
    refine at_if_eq 1988 1990 X dL_law__1985 rfl (by decide) (fun _ => ?_) (fun h => absurd (lcmp_eq (by first | exact hbb | (rw [show (0 : Int).toNat = 0 from rfl, hbb]; omega))) h)
    refine at_goto 3366 X dL_law__1990 (by decide) ?_
    exact at_sub _ (by exact ⟨rfl, rfl, rfl, rfl, rfl, trivial⟩) (at_widen (by omega) (by omega) (hend E2 hE2))
theorem dL_law__1993 : decode code 1993 = .ok (.aload_n 1, 1) := by decide +kernel
theorem dL_law__1994 : decode code 1994 = .ok (.invokevirtual 245, 3) := by decide +kernel
theorem dL_law__1997 : decode code 1997 = .ok (.aload_n 2, 1) := by decide +kernel
theorem dL_law__1998 : decode code 1998 = .ok (.invokevirtual 248, 3) := by decide +kernel
theorem dL_law__2001 : decode code 2001 = .ok (.if_icmp .eq 1365, 3) := by decide +kernel
theorem dL_law__2004 : decode code 2004 = .ok (.iconst 0, 1) := by decide +kernel
theorem dL_law__2005 : decode code 2005 = .ok (.ireturn, 1) := by decide +kernel
theorem case_27 {INV INV' : Mm → Prop} {g : Gw} {p : Program} {e : Env} {s : State} {m : MethodId} {below : List Frame} {meth : Method} {c : Code} {b L : Nat} {xs : Nat → Int32} (hL : L ≤ 3072) (hG : GF g) (X : CX g (KL p e s m below meth c b) code R_law 8) (S : SCR g (KL p e s m below meth c b) b L xs) {fr lo mc ms fr2 lo2 : Nat} (M : Mm → Int → Mm → Prop) (hX : ∀ (E : Mm), INV E → CT g yX11_right cX11_right 1 (some .int) fr lo mc ms K2 false [mR 0] (ov E) K2 false (fun r D' => ∃ (v : Int) (E1 : Mm), r = some (mI v) ∧ D' = ov E1 ∧ M E  v E1)) (hM : ∀ (E : Mm) (v : Int) (E1 : Mm), INV E → M E  v E1 → CT g yX12_right cX12_right 1 (some .int) fr2 lo2 0 0 K2 false [mR 125] (ov E1) K2 false (fun r D' => ∃ E2 : Mm, r = some (mI v) ∧ D' = ov E2 ∧ INV' E2)) (hr1 : fr + 1 ≤ room_1.frames ∧ 8 + (1 + 11) + lo ≤ room_1.locals) (hr2 : fr2 + 1 ≤ room_1.frames ∧ 8 + (1 + 11) + lo2 ≤ room_1.locals) (hmc : mc ≤ 10) (hms : ms ≤ 100) (E : Mm) (n cells slots : Nat) (hE : INV E) (hn : n + 6 ≤ L) (hc : cells + 10 ≤ 601024) (hs : slots + 100 ≤ 7293034) (hend : ∀ E' : Mm, INV' E' → AT g (KL p e s m below meth c b) K2 false (cells + 10) (slots + 100) 3366 (lawL b n) [] (ov E')) : AT g (KL p e s m below meth c b) K2 false cells slots 1993 (lawL b n) [] (ov E) := by
  refine at_aload_n 1994 X rfl rfl dL_law__1993 rfl ?_
  refine at_callV 1997 X _ 11 (hX E  hE) clX11 rfl k_0 mo_X11_right w_780 vo_X11_right.1 vo_X11_right.2 rfl rfl (crl ⟨by omega, by omega⟩ (by omega) (by omega)) (Nat.le_of_ble_eq_true rfl) dL_law__1994 rfl ?_
  rintro _ _ ⟨v, E1, rfl, rfl, hM1⟩
  refine at_aload_n 1998 X rfl rfl dL_law__1997 rfl ?_
  refine at_callV 2001 X _ 12 (hM E  _ _ hE hM1) clX12 rfl k_125 mo_X12_right w_2317 vo_X12_right.1 vo_X12_right.2 rfl rfl (crl ⟨by omega, by omega⟩ (by omega) (by omega)) (Nat.le_of_ble_eq_true rfl) dL_law__1998 rfl ?_
  rintro _ _ ⟨E2, rfl, rfl, hE2⟩
  refine at_icmp_eq 2004 3366 X dL_law__2001 rfl (by decide) (fun _ => ?_) (fun h => absurd rfl h)
  exact at_sub _ (by exact ⟨rfl, rfl, rfl, rfl, rfl, trivial⟩) (at_widen (by omega) (by omega) (hend E2 hE2))
theorem dL_law__2006 : decode code 2006 = .ok (.aload_n 1, 1) := by decide +kernel
theorem dL_law__2007 : decode code 2007 = .ok (.aload_n 0, 1) := by decide +kernel
theorem dL_law__2008 : decode code 2008 = .ok (.iload 4, 2) := by decide +kernel
theorem dL_law__2010 : decode code 2010 = .ok (.iconst 1, 1) := by decide +kernel
theorem dL_law__2011 : decode code 2011 = .ok (.iadd, 1) := by decide +kernel
theorem dL_law__2012 : decode code 2012 = .ok (.iaload, 1) := by decide +kernel
theorem dL_law__2013 : decode code 2013 = .ok (.aload_n 0, 1) := by decide +kernel
theorem dL_law__2014 : decode code 2014 = .ok (.iload 4, 2) := by decide +kernel
theorem dL_law__2016 : decode code 2016 = .ok (.iconst 2, 1) := by decide +kernel
theorem dL_law__2017 : decode code 2017 = .ok (.iadd, 1) := by decide +kernel
theorem dL_law__2018 : decode code 2018 = .ok (.iaload, 1) := by decide +kernel
theorem dL_law__2019 : decode code 2019 = .ok (.aload_n 3, 1) := by decide +kernel
theorem dL_law__2020 : decode code 2020 = .ok (.invokestatic 249, 3) := by decide +kernel
theorem dL_law__2023 : decode code 2023 = .ok (.istore 5, 2) := by decide +kernel
theorem dL_law__2025 : decode code 2025 = .ok (.aload_n 2, 1) := by decide +kernel
theorem dL_law__2026 : decode code 2026 = .ok (.aload_n 0, 1) := by decide +kernel
theorem dL_law__2027 : decode code 2027 = .ok (.iload 4, 2) := by decide +kernel
theorem dL_law__2029 : decode code 2029 = .ok (.iconst 1, 1) := by decide +kernel
theorem dL_law__2030 : decode code 2030 = .ok (.iadd, 1) := by decide +kernel
theorem dL_law__2031 : decode code 2031 = .ok (.iaload, 1) := by decide +kernel
theorem dL_law__2032 : decode code 2032 = .ok (.aload_n 0, 1) := by decide +kernel
theorem dL_law__2033 : decode code 2033 = .ok (.iload 4, 2) := by decide +kernel
theorem dL_law__2035 : decode code 2035 = .ok (.iconst 2, 1) := by decide +kernel
theorem dL_law__2036 : decode code 2036 = .ok (.iadd, 1) := by decide +kernel
theorem dL_law__2037 : decode code 2037 = .ok (.iaload, 1) := by decide +kernel
theorem dL_law__2038 : decode code 2038 = .ok (.invokevirtual 251, 3) := by decide +kernel
theorem dL_law__2041 : decode code 2041 = .ok (.istore 6, 2) := by decide +kernel
theorem dL_law__2043 : decode code 2043 = .ok (.aload_n 2, 1) := by decide +kernel
theorem dL_law__2044 : decode code 2044 = .ok (.invokevirtual 160, 3) := by decide +kernel
theorem dL_law__2047 : decode code 2047 = .ok (.iload 5, 2) := by decide +kernel
theorem dL_law__2049 : decode code 2049 = .ok (.if_icmp .eq 5, 3) := by decide +kernel
theorem dL_law__2052 : decode code 2052 = .ok (.iconst 0, 1) := by decide +kernel
theorem dL_law__2053 : decode code 2053 = .ok (.ireturn, 1) := by decide +kernel
theorem dL_law__2054 : decode code 2054 = .ok (.iload 5, 2) := by decide +kernel
theorem dL_law__2056 : decode code 2056 = .ok (.ifCond .ne 15, 3) := by decide +kernel
theorem dL_law__2059 : decode code 2059 = .ok (.aload_n 3, 1) := by decide +kernel
theorem dL_law__2060 : decode code 2060 = .ok (.iconst 0, 1) := by decide +kernel
theorem dL_law__2061 : decode code 2061 = .ok (.laload, 1) := by decide +kernel
theorem dL_law__2062 : decode code 2062 = .ok (.iload 6, 2) := by decide +kernel
theorem dL_law__2064 : decode code 2064 = .ok (.i2l, 1) := by decide +kernel
theorem dL_law__2065 : decode code 2065 = .ok (.lcmp, 1) := by decide +kernel
theorem dL_law__2066 : decode code 2066 = .ok (.ifCond .eq 5, 3) := by decide +kernel
theorem dL_law__2069 : decode code 2069 = .ok (.iconst 0, 1) := by decide +kernel
theorem dL_law__2070 : decode code 2070 = .ok (.ireturn, 1) := by decide +kernel
theorem dL_law__2071 : decode code 2071 = .ok (.goto 1295, 3) := by decide +kernel
theorem case_28 {INV INV' : Mm → Prop} {g : Gw} {p : Program} {e : Env} {s : State} {m : MethodId} {below : List Frame} {meth : Method} {c : Code} {b L : Nat} {xs : Nat → Int32} (hL : L ≤ 3072) (hG : GF g) (X : CX g (KL p e s m below meth c b) code R_law 8) (S : SCR g (KL p e s m below meth c b) b L xs) {fr lo mc ms fr2 lo2 : Nat} (M : Mm → Int → Int → Nat → Int → Mm → Prop) (hX : ∀ (E : Mm) (x0 x1 : Int), INV E → CTX g yX11_whole cX11_whole 6 (some .int) fr lo mc ms K2 false [mR 0, mI x0, mI x1] (ov E) K2 false (fun r D' => ∃ (v : Int) (E1 : Mm), r = some (mI v) ∧ D' = ov E1 ∧ M E x0 x1 0 v E1) (fun X D' => ∃ (c : Nat) (E1 : Mm), ((c = 1 ∧ X = "java/lang/IllegalArgumentException")) ∧ D' = ov E1 ∧ M E x0 x1 c 0 E1)) (hM : ∀ (E : Mm) (x0 x1 : Int) (c : Nat) (v : Int) (E1 : Mm), INV E → M E x0 x1 c v E1 → CT g yX12_whole cX12_whole 5 (some .int) fr2 lo2 0 0 K2 false [mR 125, mI x0, mI x1] (ov (if c = 0 then wr E1 813 0 v else E1)) K2 false (fun r D' => ∃ (bb : Int) (E2 : Mm), r = some (mI bb) ∧ D' = ov E2 ∧ INV' E2 ∧ E2 125 0 = (c : Int) ∧ (c = 0 → E2 813 0 = bb))) (hr1 : fr + 2 ≤ room_1.frames ∧ 8 + (5 + 11) + (lo + 25) ≤ room_1.locals) (hr2 : fr2 + 1 ≤ room_1.frames ∧ 8 + (5 + 11) + lo2 ≤ room_1.locals) (hmc : mc ≤ 10) (hms : ms ≤ 100) (E : Mm) (n cells slots : Nat) (hE : INV E) (hn : n + 6 ≤ L) (hc : cells + 10 ≤ 601024) (hs : slots + 100 ≤ 7293034) (hend : ∀ E' : Mm, INV' E' → AT g (KL p e s m below meth c b) K2 false (cells + 10) (slots + 100) 3366 (lawL b n) [] (ov E')) : AT g (KL p e s m below meth c b) K2 false cells slots 2006 (lawL b n) [] (ov E) := by
  refine at_aload_n 2007 X rfl rfl dL_law__2006 rfl ?_
  refine at_xload_n 2008 X rfl rfl dL_law__2007 rfl ?_
  refine at_iload 2010 X rfl dL_law__2008 rfl ?_
  refine at_iconst 2011 X (by decide) dL_law__2010 rfl ?_
  refine at_iadd 2012 X dL_law__2011 rfl ?_
  rw [w32_id (by omega) (by omega)]
  refine at_xint 2013 X S (by omega) (by omega) dL_law__2012 rfl ?_
  refine at_xload_n 2014 X rfl rfl dL_law__2013 rfl ?_
  refine at_iload 2016 X rfl dL_law__2014 rfl ?_
  refine at_iconst 2017 X (by decide) dL_law__2016 rfl ?_
  refine at_iadd 2018 X dL_law__2017 rfl ?_
  rw [w32_id (by omega) (by omega)]
  refine at_xint 2019 X S (by omega) (by omega) dL_law__2018 rfl ?_
  refine at_aload_n 2020 X rfl rfl dL_law__2019 rfl ?_
  refine at_callSH (n := 4) 2023 X (lh_whole hG E _ _ (M E _ _) (hX E _ _ hE)) w_1550 w_120 rfl (by decide +kernel) w_1548 w_1549 rfl rfl (crl ⟨by omega, by omega⟩ (by omega) (by omega)) (Nat.le_of_ble_eq_true rfl) dL_law__2020 rfl ?_
  rintro _ _ ⟨cc, v, E1, rfl, hM1, rfl⟩
  refine at_istore 2025 X dL_law__2023 rfl (by decide) ?_
  refine at_aload_n 2026 X rfl rfl dL_law__2025 rfl ?_
  refine at_xload_n 2027 X rfl rfl dL_law__2026 rfl ?_
  refine at_iload 2029 X rfl dL_law__2027 rfl ?_
  refine at_iconst 2030 X (by decide) dL_law__2029 rfl ?_
  refine at_iadd 2031 X dL_law__2030 rfl ?_
  rw [w32_id (by omega) (by omega)]
  refine at_xint 2032 X S (by omega) (by omega) dL_law__2031 rfl ?_
  refine at_xload_n 2033 X rfl rfl dL_law__2032 rfl ?_
  refine at_iload 2035 X rfl dL_law__2033 rfl ?_
  refine at_iconst 2036 X (by decide) dL_law__2035 rfl ?_
  refine at_iadd 2037 X dL_law__2036 rfl ?_
  rw [w32_id (by omega) (by omega)]
  refine at_xint 2038 X S (by omega) (by omega) dL_law__2037 rfl ?_
  refine at_callV 2041 X _ 12 (hM E _ _ _ _ _ hE hM1) clX12 rfl k_125 mo_X12_whole w_2325 vo_X12_whole.1 vo_X12_whole.2 rfl rfl (crl ⟨by omega, by omega⟩ (by omega) (by omega)) (Nat.le_of_ble_eq_true rfl) dL_law__2038 rfl ?_
  rintro _ _ ⟨bb, E2, rfl, rfl, hE2, hth, hbb⟩
  refine at_istore 2043 X dL_law__2041 rfl (by decide) ?_
  refine at_aload_n 2044 X rfl rfl dL_law__2043 rfl ?_
  refine at_callV 2047 X _ 12 (ct_X12_thrown hG E2) clX12 rfl k_125 mo_X12_thrown w_1945 vo_X12_thrown.1 vo_X12_thrown.2 rfl rfl (crl ⟨Nat.le_of_ble_eq_true rfl, Nat.le_of_ble_eq_true rfl⟩ (by omega) (by omega)) (Nat.le_of_ble_eq_true rfl) dL_law__2044 rfl ?_
  rintro _ _ ⟨rfl, rfl⟩
  rw [hth]
  refine at_iload 2049 X rfl dL_law__2047 rfl ?_
  refine at_icmp_eq 2052 2054 X dL_law__2049 rfl (by decide) (fun _ => ?_) (fun h => absurd rfl h)
  refine at_iload 2056 X rfl dL_law__2054 rfl ?_
  refine at_if_ne 2059 2071 X dL_law__2056 rfl (by decide) (fun h => ?_) (fun h => ?_)
  · refine at_goto 3366 X dL_law__2071 (by decide) ?_
    exact at_sub _ (by exact ⟨rfl, rfl, rfl, rfl, rfl, trivial⟩) (at_widen (by omega) (by omega) (hend E2 hE2))
  · have hc0 : cc = 0 := by omega
    have hbb := hbb hc0
    refine at_aload_n 2060 X rfl rfl dL_law__2059 rfl ?_
    refine at_iconst 2061 X (by decide) dL_law__2060 rfl ?_
    refine m_laload 2062 X k_813 e_813 (by decide) (by decide) dL_law__2061 rfl ?_
    refine at_iload 2064 X rfl dL_law__2062 rfl ?_
    refine at_i2l 2065 X dL_law__2064 rfl ?_
    refine at_lcmp 2066 X dL_law__2065 rfl ?_
    refine at_if_eq 2069 2071 X dL_law__2066 rfl (by decide) (fun _ => ?_) (fun h => absurd (lcmp_eq (by first | exact hbb | (rw [show (0 : Int).toNat = 0 from rfl, hbb]; omega))) h)
    refine at_goto 3366 X dL_law__2071 (by decide) ?_
    exact at_sub _ (by exact ⟨rfl, rfl, rfl, rfl, rfl, trivial⟩) (at_widen (by omega) (by omega) (hend E2 hE2))
theorem dL_law__2074 : decode code 2074 = .ok (.aload_n 1, 1) := by decide +kernel
theorem dL_law__2075 : decode code 2075 = .ok (.aload_n 0, 1) := by decide +kernel
theorem dL_law__2076 : decode code 2076 = .ok (.iload 4, 2) := by decide +kernel
theorem dL_law__2078 : decode code 2078 = .ok (.iconst 1, 1) := by decide +kernel
theorem dL_law__2079 : decode code 2079 = .ok (.iadd, 1) := by decide +kernel
theorem dL_law__2080 : decode code 2080 = .ok (.iaload, 1) := by decide +kernel
theorem dL_law__2081 : decode code 2081 = .ok (.aload_n 3, 1) := by decide +kernel
theorem dL_law__2082 : decode code 2082 = .ok (.invokestatic 252, 3) := by decide +kernel
theorem dL_law__2085 : decode code 2085 = .ok (.istore 5, 2) := by decide +kernel
theorem dL_law__2087 : decode code 2087 = .ok (.aload_n 2, 1) := by decide +kernel
theorem dL_law__2088 : decode code 2088 = .ok (.aload_n 0, 1) := by decide +kernel
theorem dL_law__2089 : decode code 2089 = .ok (.iload 4, 2) := by decide +kernel
theorem dL_law__2091 : decode code 2091 = .ok (.iconst 1, 1) := by decide +kernel
theorem dL_law__2092 : decode code 2092 = .ok (.iadd, 1) := by decide +kernel
theorem dL_law__2093 : decode code 2093 = .ok (.iaload, 1) := by decide +kernel
theorem dL_law__2094 : decode code 2094 = .ok (.invokevirtual 254, 3) := by decide +kernel
theorem dL_law__2097 : decode code 2097 = .ok (.istore 6, 2) := by decide +kernel
theorem dL_law__2099 : decode code 2099 = .ok (.aload_n 2, 1) := by decide +kernel
theorem dL_law__2100 : decode code 2100 = .ok (.invokevirtual 160, 3) := by decide +kernel
theorem dL_law__2103 : decode code 2103 = .ok (.iload 5, 2) := by decide +kernel
theorem dL_law__2105 : decode code 2105 = .ok (.if_icmp .eq 5, 3) := by decide +kernel
theorem dL_law__2108 : decode code 2108 = .ok (.iconst 0, 1) := by decide +kernel
theorem dL_law__2109 : decode code 2109 = .ok (.ireturn, 1) := by decide +kernel
theorem dL_law__2110 : decode code 2110 = .ok (.iload 5, 2) := by decide +kernel
theorem dL_law__2112 : decode code 2112 = .ok (.ifCond .ne 15, 3) := by decide +kernel
theorem dL_law__2115 : decode code 2115 = .ok (.aload_n 3, 1) := by decide +kernel
theorem dL_law__2116 : decode code 2116 = .ok (.iconst 0, 1) := by decide +kernel
theorem dL_law__2117 : decode code 2117 = .ok (.laload, 1) := by decide +kernel
theorem dL_law__2118 : decode code 2118 = .ok (.iload 6, 2) := by decide +kernel
theorem dL_law__2120 : decode code 2120 = .ok (.i2l, 1) := by decide +kernel
theorem dL_law__2121 : decode code 2121 = .ok (.lcmp, 1) := by decide +kernel
theorem dL_law__2122 : decode code 2122 = .ok (.ifCond .eq 5, 3) := by decide +kernel
theorem dL_law__2125 : decode code 2125 = .ok (.iconst 0, 1) := by decide +kernel
theorem dL_law__2126 : decode code 2126 = .ok (.ireturn, 1) := by decide +kernel
theorem dL_law__2127 : decode code 2127 = .ok (.goto 1239, 3) := by decide +kernel
theorem case_29 {INV INV' : Mm → Prop} {g : Gw} {p : Program} {e : Env} {s : State} {m : MethodId} {below : List Frame} {meth : Method} {c : Code} {b L : Nat} {xs : Nat → Int32} (hL : L ≤ 3072) (hG : GF g) (X : CX g (KL p e s m below meth c b) code R_law 8) (S : SCR g (KL p e s m below meth c b) b L xs) {fr lo mc ms fr2 lo2 : Nat} (M : Mm → Int → Nat → Int → Mm → Prop) (hX : ∀ (E : Mm) (x0 : Int), INV E → CTX g yX11_next cX11_next 4 (some .int) fr lo mc ms K2 false [mR 0, mI x0] (ov E) K2 false (fun r D' => ∃ (v : Int) (E1 : Mm), r = some (mI v) ∧ D' = ov E1 ∧ M E x0 0 v E1) (fun X D' => ∃ (c : Nat) (E1 : Mm), ((c = 1 ∧ X = "java/lang/IllegalArgumentException")) ∧ D' = ov E1 ∧ M E x0 c 0 E1)) (hM : ∀ (E : Mm) (x0 : Int) (c : Nat) (v : Int) (E1 : Mm), INV E → M E x0 c v E1 → CT g yX12_next cX12_next 3 (some .int) fr2 lo2 0 0 K2 false [mR 125, mI x0] (ov (if c = 0 then wr E1 813 0 v else E1)) K2 false (fun r D' => ∃ (bb : Int) (E2 : Mm), r = some (mI bb) ∧ D' = ov E2 ∧ INV' E2 ∧ E2 125 0 = (c : Int) ∧ (c = 0 → E2 813 0 = bb))) (hr1 : fr + 2 ≤ room_1.frames ∧ 8 + (4 + 11) + (lo + 23) ≤ room_1.locals) (hr2 : fr2 + 1 ≤ room_1.frames ∧ 8 + (3 + 11) + lo2 ≤ room_1.locals) (hmc : mc ≤ 10) (hms : ms ≤ 100) (E : Mm) (n cells slots : Nat) (hE : INV E) (hn : n + 6 ≤ L) (hc : cells + 10 ≤ 601024) (hs : slots + 100 ≤ 7293034) (hend : ∀ E' : Mm, INV' E' → AT g (KL p e s m below meth c b) K2 false (cells + 10) (slots + 100) 3366 (lawL b n) [] (ov E')) : AT g (KL p e s m below meth c b) K2 false cells slots 2074 (lawL b n) [] (ov E) := by
  refine at_aload_n 2075 X rfl rfl dL_law__2074 rfl ?_
  refine at_xload_n 2076 X rfl rfl dL_law__2075 rfl ?_
  refine at_iload 2078 X rfl dL_law__2076 rfl ?_
  refine at_iconst 2079 X (by decide) dL_law__2078 rfl ?_
  refine at_iadd 2080 X dL_law__2079 rfl ?_
  rw [w32_id (by omega) (by omega)]
  refine at_xint 2081 X S (by omega) (by omega) dL_law__2080 rfl ?_
  refine at_aload_n 2082 X rfl rfl dL_law__2081 rfl ?_
  refine at_callSH (n := 3) 2085 X (lh_next hG E _ (M E _) (hX E _ hE)) w_1565 w_120 rfl (by decide +kernel) w_1563 w_1564 rfl rfl (crl ⟨by omega, by omega⟩ (by omega) (by omega)) (Nat.le_of_ble_eq_true rfl) dL_law__2082 rfl ?_
  rintro _ _ ⟨cc, v, E1, rfl, hM1, rfl⟩
  refine at_istore 2087 X dL_law__2085 rfl (by decide) ?_
  refine at_aload_n 2088 X rfl rfl dL_law__2087 rfl ?_
  refine at_xload_n 2089 X rfl rfl dL_law__2088 rfl ?_
  refine at_iload 2091 X rfl dL_law__2089 rfl ?_
  refine at_iconst 2092 X (by decide) dL_law__2091 rfl ?_
  refine at_iadd 2093 X dL_law__2092 rfl ?_
  rw [w32_id (by omega) (by omega)]
  refine at_xint 2094 X S (by omega) (by omega) dL_law__2093 rfl ?_
  refine at_callV 2097 X _ 12 (hM E _ _ _ _ hE hM1) clX12 rfl k_125 mo_X12_next w_2336 vo_X12_next.1 vo_X12_next.2 rfl rfl (crl ⟨by omega, by omega⟩ (by omega) (by omega)) (Nat.le_of_ble_eq_true rfl) dL_law__2094 rfl ?_
  rintro _ _ ⟨bb, E2, rfl, rfl, hE2, hth, hbb⟩
  refine at_istore 2099 X dL_law__2097 rfl (by decide) ?_
  refine at_aload_n 2100 X rfl rfl dL_law__2099 rfl ?_
  refine at_callV 2103 X _ 12 (ct_X12_thrown hG E2) clX12 rfl k_125 mo_X12_thrown w_1945 vo_X12_thrown.1 vo_X12_thrown.2 rfl rfl (crl ⟨Nat.le_of_ble_eq_true rfl, Nat.le_of_ble_eq_true rfl⟩ (by omega) (by omega)) (Nat.le_of_ble_eq_true rfl) dL_law__2100 rfl ?_
  rintro _ _ ⟨rfl, rfl⟩
  rw [hth]
  refine at_iload 2105 X rfl dL_law__2103 rfl ?_
  refine at_icmp_eq 2108 2110 X dL_law__2105 rfl (by decide) (fun _ => ?_) (fun h => absurd rfl h)
  refine at_iload 2112 X rfl dL_law__2110 rfl ?_
  refine at_if_ne 2115 2127 X dL_law__2112 rfl (by decide) (fun h => ?_) (fun h => ?_)
  · refine at_goto 3366 X dL_law__2127 (by decide) ?_
    exact at_sub _ (by exact ⟨rfl, rfl, rfl, rfl, rfl, trivial⟩) (at_widen (by omega) (by omega) (hend E2 hE2))
  · have hc0 : cc = 0 := by omega
    have hbb := hbb hc0
    refine at_aload_n 2116 X rfl rfl dL_law__2115 rfl ?_
    refine at_iconst 2117 X (by decide) dL_law__2116 rfl ?_
    refine m_laload 2118 X k_813 e_813 (by decide) (by decide) dL_law__2117 rfl ?_
    refine at_iload 2120 X rfl dL_law__2118 rfl ?_
    refine at_i2l 2121 X dL_law__2120 rfl ?_
    refine at_lcmp 2122 X dL_law__2121 rfl ?_
    refine at_if_eq 2125 2127 X dL_law__2122 rfl (by decide) (fun _ => ?_) (fun h => absurd (lcmp_eq (by first | exact hbb | (rw [show (0 : Int).toNat = 0 from rfl, hbb]; omega))) h)
    refine at_goto 3366 X dL_law__2127 (by decide) ?_
    exact at_sub _ (by exact ⟨rfl, rfl, rfl, rfl, rfl, trivial⟩) (at_widen (by omega) (by omega) (hend E2 hE2))
theorem dL_law__2130 : decode code 2130 = .ok (.aload_n 1, 1) := by decide +kernel
theorem dL_law__2131 : decode code 2131 = .ok (.aload_n 0, 1) := by decide +kernel
theorem dL_law__2132 : decode code 2132 = .ok (.iload 4, 2) := by decide +kernel
theorem dL_law__2134 : decode code 2134 = .ok (.iconst 1, 1) := by decide +kernel
theorem dL_law__2135 : decode code 2135 = .ok (.iadd, 1) := by decide +kernel
theorem dL_law__2136 : decode code 2136 = .ok (.iaload, 1) := by decide +kernel
theorem dL_law__2137 : decode code 2137 = .ok (.aload_n 0, 1) := by decide +kernel
theorem dL_law__2138 : decode code 2138 = .ok (.iload 4, 2) := by decide +kernel
theorem dL_law__2140 : decode code 2140 = .ok (.iconst 2, 1) := by decide +kernel
theorem dL_law__2141 : decode code 2141 = .ok (.iadd, 1) := by decide +kernel
theorem dL_law__2142 : decode code 2142 = .ok (.iaload, 1) := by decide +kernel
theorem dL_law__2143 : decode code 2143 = .ok (.aload_n 0, 1) := by decide +kernel
theorem dL_law__2144 : decode code 2144 = .ok (.iload 4, 2) := by decide +kernel
theorem dL_law__2146 : decode code 2146 = .ok (.iconst 3, 1) := by decide +kernel
theorem dL_law__2147 : decode code 2147 = .ok (.iadd, 1) := by decide +kernel
theorem dL_law__2148 : decode code 2148 = .ok (.iaload, 1) := by decide +kernel
theorem dL_law__2149 : decode code 2149 = .ok (.aload_n 0, 1) := by decide +kernel
theorem dL_law__2150 : decode code 2150 = .ok (.iload 4, 2) := by decide +kernel
theorem dL_law__2152 : decode code 2152 = .ok (.iconst 4, 1) := by decide +kernel
theorem dL_law__2153 : decode code 2153 = .ok (.iadd, 1) := by decide +kernel
theorem dL_law__2154 : decode code 2154 = .ok (.iaload, 1) := by decide +kernel
theorem dL_law__2155 : decode code 2155 = .ok (.aload_n 0, 1) := by decide +kernel
theorem dL_law__2156 : decode code 2156 = .ok (.iload 4, 2) := by decide +kernel
theorem dL_law__2158 : decode code 2158 = .ok (.iconst 5, 1) := by decide +kernel
theorem dL_law__2159 : decode code 2159 = .ok (.iadd, 1) := by decide +kernel
theorem dL_law__2160 : decode code 2160 = .ok (.iaload, 1) := by decide +kernel
theorem dL_law__2161 : decode code 2161 = .ok (.aload_n 3, 1) := by decide +kernel
theorem dL_law__2162 : decode code 2162 = .ok (.invokestatic 255, 3) := by decide +kernel
theorem dL_law__2165 : decode code 2165 = .ok (.istore 5, 2) := by decide +kernel
theorem dL_law__2167 : decode code 2167 = .ok (.aload_n 2, 1) := by decide +kernel
theorem dL_law__2168 : decode code 2168 = .ok (.aload_n 0, 1) := by decide +kernel
theorem dL_law__2169 : decode code 2169 = .ok (.iload 4, 2) := by decide +kernel
theorem dL_law__2171 : decode code 2171 = .ok (.iconst 1, 1) := by decide +kernel
theorem dL_law__2172 : decode code 2172 = .ok (.iadd, 1) := by decide +kernel
theorem dL_law__2173 : decode code 2173 = .ok (.iaload, 1) := by decide +kernel
theorem dL_law__2174 : decode code 2174 = .ok (.aload_n 0, 1) := by decide +kernel
theorem dL_law__2175 : decode code 2175 = .ok (.iload 4, 2) := by decide +kernel
theorem dL_law__2177 : decode code 2177 = .ok (.iconst 2, 1) := by decide +kernel
theorem dL_law__2178 : decode code 2178 = .ok (.iadd, 1) := by decide +kernel
theorem dL_law__2179 : decode code 2179 = .ok (.iaload, 1) := by decide +kernel
theorem dL_law__2180 : decode code 2180 = .ok (.aload_n 0, 1) := by decide +kernel
theorem dL_law__2181 : decode code 2181 = .ok (.iload 4, 2) := by decide +kernel
theorem dL_law__2183 : decode code 2183 = .ok (.iconst 3, 1) := by decide +kernel
theorem dL_law__2184 : decode code 2184 = .ok (.iadd, 1) := by decide +kernel
theorem dL_law__2185 : decode code 2185 = .ok (.iaload, 1) := by decide +kernel
theorem dL_law__2186 : decode code 2186 = .ok (.aload_n 0, 1) := by decide +kernel
theorem dL_law__2187 : decode code 2187 = .ok (.iload 4, 2) := by decide +kernel
theorem dL_law__2189 : decode code 2189 = .ok (.iconst 4, 1) := by decide +kernel
theorem dL_law__2190 : decode code 2190 = .ok (.iadd, 1) := by decide +kernel
theorem dL_law__2191 : decode code 2191 = .ok (.iaload, 1) := by decide +kernel
theorem dL_law__2192 : decode code 2192 = .ok (.aload_n 0, 1) := by decide +kernel
theorem dL_law__2193 : decode code 2193 = .ok (.iload 4, 2) := by decide +kernel
theorem dL_law__2195 : decode code 2195 = .ok (.iconst 5, 1) := by decide +kernel
theorem dL_law__2196 : decode code 2196 = .ok (.iadd, 1) := by decide +kernel
theorem dL_law__2197 : decode code 2197 = .ok (.iaload, 1) := by decide +kernel
theorem dL_law__2198 : decode code 2198 = .ok (.invokevirtual 258, 3) := by decide +kernel
theorem dL_law__2201 : decode code 2201 = .ok (.lstore 6, 2) := by decide +kernel
theorem dL_law__2203 : decode code 2203 = .ok (.aload_n 2, 1) := by decide +kernel
theorem dL_law__2204 : decode code 2204 = .ok (.invokevirtual 160, 3) := by decide +kernel
theorem dL_law__2207 : decode code 2207 = .ok (.iload 5, 2) := by decide +kernel
theorem dL_law__2209 : decode code 2209 = .ok (.if_icmp .eq 5, 3) := by decide +kernel
theorem dL_law__2212 : decode code 2212 = .ok (.iconst 0, 1) := by decide +kernel
theorem dL_law__2213 : decode code 2213 = .ok (.ireturn, 1) := by decide +kernel
theorem dL_law__2214 : decode code 2214 = .ok (.iload 5, 2) := by decide +kernel
theorem dL_law__2216 : decode code 2216 = .ok (.ifCond .ne 14, 3) := by decide +kernel
theorem dL_law__2219 : decode code 2219 = .ok (.aload_n 3, 1) := by decide +kernel
theorem dL_law__2220 : decode code 2220 = .ok (.iconst 0, 1) := by decide +kernel
theorem dL_law__2221 : decode code 2221 = .ok (.laload, 1) := by decide +kernel
theorem dL_law__2222 : decode code 2222 = .ok (.lload 6, 2) := by decide +kernel
theorem dL_law__2224 : decode code 2224 = .ok (.lcmp, 1) := by decide +kernel
theorem dL_law__2225 : decode code 2225 = .ok (.ifCond .eq 5, 3) := by decide +kernel
theorem dL_law__2228 : decode code 2228 = .ok (.iconst 0, 1) := by decide +kernel
theorem dL_law__2229 : decode code 2229 = .ok (.ireturn, 1) := by decide +kernel
theorem dL_law__2230 : decode code 2230 = .ok (.goto 1136, 3) := by decide +kernel
theorem case_30 {INV INV' : Mm → Prop} {g : Gw} {p : Program} {e : Env} {s : State} {m : MethodId} {below : List Frame} {meth : Method} {c : Code} {b L : Nat} {xs : Nat → Int32} (hL : L ≤ 3072) (hG : GF g) (X : CX g (KL p e s m below meth c b) code R_law 8) (S : SCR g (KL p e s m below meth c b) b L xs) {fr lo mc ms fr2 lo2 : Nat} (M : Mm → Int → Int → Int → Int → Int → Nat → Int → Mm → Prop) (hX : ∀ (E : Mm) (x0 x1 x2 x3 x4 : Int), INV E → CTX g yX11_odds cX11_odds 12 (some .long) fr lo mc ms K2 false [mR 0, mI x0, mI x1, mI x2, mI x3, mI x4] (ov E) K2 false (fun r D' => ∃ (v : Int) (E1 : Mm), r = some (mL v) ∧ D' = ov E1 ∧ M E x0 x1 x2 x3 x4 0 v E1) (fun X D' => ∃ (c : Nat) (E1 : Mm), ((c = 1 ∧ X = "java/util/NoSuchElementException") ∨ (c = 2 ∧ X = "java/lang/IllegalArgumentException")) ∧ D' = ov E1 ∧ M E x0 x1 x2 x3 x4 c 0 E1)) (hM : ∀ (E : Mm) (x0 x1 x2 x3 x4 : Int) (c : Nat) (v : Int) (E1 : Mm), INV E → M E x0 x1 x2 x3 x4 c v E1 → CT g yX12_odds cX12_odds 11 (some .long) fr2 lo2 0 0 K2 false [mR 125, mI x0, mI x1, mI x2, mI x3, mI x4] (ov (if c = 0 then wr E1 813 0 v else E1)) K2 false (fun r D' => ∃ (bb : Int) (E2 : Mm), r = some (mL bb) ∧ D' = ov E2 ∧ INV' E2 ∧ E2 125 0 = (c : Int) ∧ (c = 0 → E2 813 0 = bb))) (hr1 : fr + 2 ≤ room_1.frames ∧ 8 + (8 + 11) + (lo + 31) ≤ room_1.locals) (hr2 : fr2 + 1 ≤ room_1.frames ∧ 8 + (11 + 11) + lo2 ≤ room_1.locals) (hmc : mc ≤ 10) (hms : ms ≤ 100) (E : Mm) (n cells slots : Nat) (hE : INV E) (hn : n + 6 ≤ L) (hc : cells + 10 ≤ 601024) (hs : slots + 100 ≤ 7293034) (hend : ∀ E' : Mm, INV' E' → AT g (KL p e s m below meth c b) K2 false (cells + 10) (slots + 100) 3366 (lawL b n) [] (ov E')) : AT g (KL p e s m below meth c b) K2 false cells slots 2130 (lawL b n) [] (ov E) := by
  refine at_aload_n 2131 X rfl rfl dL_law__2130 rfl ?_
  refine at_xload_n 2132 X rfl rfl dL_law__2131 rfl ?_
  refine at_iload 2134 X rfl dL_law__2132 rfl ?_
  refine at_iconst 2135 X (by decide) dL_law__2134 rfl ?_
  refine at_iadd 2136 X dL_law__2135 rfl ?_
  rw [w32_id (by omega) (by omega)]
  refine at_xint 2137 X S (by omega) (by omega) dL_law__2136 rfl ?_
  refine at_xload_n 2138 X rfl rfl dL_law__2137 rfl ?_
  refine at_iload 2140 X rfl dL_law__2138 rfl ?_
  refine at_iconst 2141 X (by decide) dL_law__2140 rfl ?_
  refine at_iadd 2142 X dL_law__2141 rfl ?_
  rw [w32_id (by omega) (by omega)]
  refine at_xint 2143 X S (by omega) (by omega) dL_law__2142 rfl ?_
  refine at_xload_n 2144 X rfl rfl dL_law__2143 rfl ?_
  refine at_iload 2146 X rfl dL_law__2144 rfl ?_
  refine at_iconst 2147 X (by decide) dL_law__2146 rfl ?_
  refine at_iadd 2148 X dL_law__2147 rfl ?_
  rw [w32_id (by omega) (by omega)]
  refine at_xint 2149 X S (by omega) (by omega) dL_law__2148 rfl ?_
  refine at_xload_n 2150 X rfl rfl dL_law__2149 rfl ?_
  refine at_iload 2152 X rfl dL_law__2150 rfl ?_
  refine at_iconst 2153 X (by decide) dL_law__2152 rfl ?_
  refine at_iadd 2154 X dL_law__2153 rfl ?_
  rw [w32_id (by omega) (by omega)]
  refine at_xint 2155 X S (by omega) (by omega) dL_law__2154 rfl ?_
  refine at_xload_n 2156 X rfl rfl dL_law__2155 rfl ?_
  refine at_iload 2158 X rfl dL_law__2156 rfl ?_
  refine at_iconst 2159 X (by decide) dL_law__2158 rfl ?_
  refine at_iadd 2160 X dL_law__2159 rfl ?_
  rw [w32_id (by omega) (by omega)]
  refine at_xint 2161 X S (by omega) (by omega) dL_law__2160 rfl ?_
  refine at_aload_n 2162 X rfl rfl dL_law__2161 rfl ?_
  refine at_callSH (n := 7) 2165 X (lh_odds hG E _ _ _ _ _ (M E _ _ _ _ _) (hX E _ _ _ _ _ hE)) w_1572 w_120 rfl (by decide +kernel) w_1570 w_1571 rfl rfl (crl ⟨by omega, by omega⟩ (by omega) (by omega)) (Nat.le_of_ble_eq_true rfl) dL_law__2162 rfl ?_
  rintro _ _ ⟨cc, v, E1, rfl, hM1, rfl⟩
  refine at_istore 2167 X dL_law__2165 rfl (by decide) ?_
  refine at_aload_n 2168 X rfl rfl dL_law__2167 rfl ?_
  refine at_xload_n 2169 X rfl rfl dL_law__2168 rfl ?_
  refine at_iload 2171 X rfl dL_law__2169 rfl ?_
  refine at_iconst 2172 X (by decide) dL_law__2171 rfl ?_
  refine at_iadd 2173 X dL_law__2172 rfl ?_
  rw [w32_id (by omega) (by omega)]
  refine at_xint 2174 X S (by omega) (by omega) dL_law__2173 rfl ?_
  refine at_xload_n 2175 X rfl rfl dL_law__2174 rfl ?_
  refine at_iload 2177 X rfl dL_law__2175 rfl ?_
  refine at_iconst 2178 X (by decide) dL_law__2177 rfl ?_
  refine at_iadd 2179 X dL_law__2178 rfl ?_
  rw [w32_id (by omega) (by omega)]
  refine at_xint 2180 X S (by omega) (by omega) dL_law__2179 rfl ?_
  refine at_xload_n 2181 X rfl rfl dL_law__2180 rfl ?_
  refine at_iload 2183 X rfl dL_law__2181 rfl ?_
  refine at_iconst 2184 X (by decide) dL_law__2183 rfl ?_
  refine at_iadd 2185 X dL_law__2184 rfl ?_
  rw [w32_id (by omega) (by omega)]
  refine at_xint 2186 X S (by omega) (by omega) dL_law__2185 rfl ?_
  refine at_xload_n 2187 X rfl rfl dL_law__2186 rfl ?_
  refine at_iload 2189 X rfl dL_law__2187 rfl ?_
  refine at_iconst 2190 X (by decide) dL_law__2189 rfl ?_
  refine at_iadd 2191 X dL_law__2190 rfl ?_
  rw [w32_id (by omega) (by omega)]
  refine at_xint 2192 X S (by omega) (by omega) dL_law__2191 rfl ?_
  refine at_xload_n 2193 X rfl rfl dL_law__2192 rfl ?_
  refine at_iload 2195 X rfl dL_law__2193 rfl ?_
  refine at_iconst 2196 X (by decide) dL_law__2195 rfl ?_
  refine at_iadd 2197 X dL_law__2196 rfl ?_
  rw [w32_id (by omega) (by omega)]
  refine at_xint 2198 X S (by omega) (by omega) dL_law__2197 rfl ?_
  refine at_callV 2201 X _ 12 (hM E _ _ _ _ _ _ _ _ hE hM1) clX12 rfl k_125 mo_X12_odds w_2340 vo_X12_odds.1 vo_X12_odds.2 rfl rfl (crl ⟨by omega, by omega⟩ (by omega) (by omega)) (Nat.le_of_ble_eq_true rfl) dL_law__2198 rfl ?_
  rintro _ _ ⟨bb, E2, rfl, rfl, hE2, hth, hbb⟩
  refine at_lstore 2203 X dL_law__2201 rfl (by decide) ?_
  refine at_aload_n 2204 X rfl rfl dL_law__2203 rfl ?_
  refine at_callV 2207 X _ 12 (ct_X12_thrown hG E2) clX12 rfl k_125 mo_X12_thrown w_1945 vo_X12_thrown.1 vo_X12_thrown.2 rfl rfl (crl ⟨Nat.le_of_ble_eq_true rfl, Nat.le_of_ble_eq_true rfl⟩ (by omega) (by omega)) (Nat.le_of_ble_eq_true rfl) dL_law__2204 rfl ?_
  rintro _ _ ⟨rfl, rfl⟩
  rw [hth]
  refine at_iload 2209 X rfl dL_law__2207 rfl ?_
  refine at_icmp_eq 2212 2214 X dL_law__2209 rfl (by decide) (fun _ => ?_) (fun h => absurd rfl h)
  refine at_iload 2216 X rfl dL_law__2214 rfl ?_
  refine at_if_ne 2219 2230 X dL_law__2216 rfl (by decide) (fun h => ?_) (fun h => ?_)
  · refine at_goto 3366 X dL_law__2230 (by decide) ?_
    exact at_sub _ (by exact ⟨rfl, rfl, rfl, rfl, rfl, trivial⟩) (at_widen (by omega) (by omega) (hend E2 hE2))
  · have hc0 : cc = 0 := by omega
    have hbb := hbb hc0
    refine at_aload_n 2220 X rfl rfl dL_law__2219 rfl ?_
    refine at_iconst 2221 X (by decide) dL_law__2220 rfl ?_
    refine m_laload 2222 X k_813 e_813 (by decide) (by decide) dL_law__2221 rfl ?_
    refine at_lload 2224 X rfl dL_law__2222 rfl ?_
    refine at_lcmp 2225 X dL_law__2224 rfl ?_
    refine at_if_eq 2228 2230 X dL_law__2225 rfl (by decide) (fun _ => ?_) (fun h => absurd (lcmp_eq (by first | exact hbb | (rw [show (0 : Int).toNat = 0 from rfl, hbb]; omega))) h)
    refine at_goto 3366 X dL_law__2230 (by decide) ?_
    exact at_sub _ (by exact ⟨rfl, rfl, rfl, rfl, rfl, trivial⟩) (at_widen (by omega) (by omega) (hend E2 hE2))
theorem dL_law__2233 : decode code 2233 = .ok (.aload_n 1, 1) := by decide +kernel
theorem dL_law__2234 : decode code 2234 = .ok (.aload_n 0, 1) := by decide +kernel
theorem dL_law__2235 : decode code 2235 = .ok (.iload 4, 2) := by decide +kernel
theorem dL_law__2237 : decode code 2237 = .ok (.iconst 1, 1) := by decide +kernel
theorem dL_law__2238 : decode code 2238 = .ok (.iadd, 1) := by decide +kernel
theorem dL_law__2239 : decode code 2239 = .ok (.iaload, 1) := by decide +kernel
theorem dL_law__2240 : decode code 2240 = .ok (.aload_n 0, 1) := by decide +kernel
theorem dL_law__2241 : decode code 2241 = .ok (.iload 4, 2) := by decide +kernel
theorem dL_law__2243 : decode code 2243 = .ok (.iconst 2, 1) := by decide +kernel
theorem dL_law__2244 : decode code 2244 = .ok (.iadd, 1) := by decide +kernel
theorem dL_law__2245 : decode code 2245 = .ok (.iaload, 1) := by decide +kernel
theorem dL_law__2246 : decode code 2246 = .ok (.aload_n 3, 1) := by decide +kernel
theorem dL_law__2247 : decode code 2247 = .ok (.invokestatic 259, 3) := by decide +kernel
theorem dL_law__2250 : decode code 2250 = .ok (.istore 5, 2) := by decide +kernel
theorem dL_law__2252 : decode code 2252 = .ok (.aload_n 2, 1) := by decide +kernel
theorem dL_law__2253 : decode code 2253 = .ok (.aload_n 0, 1) := by decide +kernel
theorem dL_law__2254 : decode code 2254 = .ok (.iload 4, 2) := by decide +kernel
theorem dL_law__2256 : decode code 2256 = .ok (.iconst 1, 1) := by decide +kernel
theorem dL_law__2257 : decode code 2257 = .ok (.iadd, 1) := by decide +kernel
theorem dL_law__2258 : decode code 2258 = .ok (.iaload, 1) := by decide +kernel
theorem dL_law__2259 : decode code 2259 = .ok (.aload_n 0, 1) := by decide +kernel
theorem dL_law__2260 : decode code 2260 = .ok (.iload 4, 2) := by decide +kernel
theorem dL_law__2262 : decode code 2262 = .ok (.iconst 2, 1) := by decide +kernel
theorem dL_law__2263 : decode code 2263 = .ok (.iadd, 1) := by decide +kernel
theorem dL_law__2264 : decode code 2264 = .ok (.iaload, 1) := by decide +kernel
theorem dL_law__2265 : decode code 2265 = .ok (.invokevirtual 261, 3) := by decide +kernel
theorem dL_law__2268 : decode code 2268 = .ok (.istore 6, 2) := by decide +kernel
theorem dL_law__2270 : decode code 2270 = .ok (.aload_n 2, 1) := by decide +kernel
theorem dL_law__2271 : decode code 2271 = .ok (.invokevirtual 160, 3) := by decide +kernel
theorem dL_law__2274 : decode code 2274 = .ok (.iload 5, 2) := by decide +kernel
theorem dL_law__2276 : decode code 2276 = .ok (.if_icmp .eq 5, 3) := by decide +kernel
theorem dL_law__2279 : decode code 2279 = .ok (.iconst 0, 1) := by decide +kernel
theorem dL_law__2280 : decode code 2280 = .ok (.ireturn, 1) := by decide +kernel
theorem dL_law__2281 : decode code 2281 = .ok (.iload 5, 2) := by decide +kernel
theorem dL_law__2283 : decode code 2283 = .ok (.ifCond .ne 15, 3) := by decide +kernel
theorem dL_law__2286 : decode code 2286 = .ok (.aload_n 3, 1) := by decide +kernel
theorem dL_law__2287 : decode code 2287 = .ok (.iconst 0, 1) := by decide +kernel
theorem dL_law__2288 : decode code 2288 = .ok (.laload, 1) := by decide +kernel
theorem dL_law__2289 : decode code 2289 = .ok (.iload 6, 2) := by decide +kernel
theorem dL_law__2291 : decode code 2291 = .ok (.i2l, 1) := by decide +kernel
theorem dL_law__2292 : decode code 2292 = .ok (.lcmp, 1) := by decide +kernel
theorem dL_law__2293 : decode code 2293 = .ok (.ifCond .eq 5, 3) := by decide +kernel
theorem dL_law__2296 : decode code 2296 = .ok (.iconst 0, 1) := by decide +kernel
theorem dL_law__2297 : decode code 2297 = .ok (.ireturn, 1) := by decide +kernel
theorem dL_law__2298 : decode code 2298 = .ok (.goto 1068, 3) := by decide +kernel
theorem case_31 {INV INV' : Mm → Prop} {g : Gw} {p : Program} {e : Env} {s : State} {m : MethodId} {below : List Frame} {meth : Method} {c : Code} {b L : Nat} {xs : Nat → Int32} (hL : L ≤ 3072) (hG : GF g) (X : CX g (KL p e s m below meth c b) code R_law 8) (S : SCR g (KL p e s m below meth c b) b L xs) {fr lo mc ms fr2 lo2 : Nat} (M : Mm → Int → Int → Nat → Int → Mm → Prop) (hX : ∀ (E : Mm) (x0 x1 : Int), INV E → CTX g yX11_drawn cX11_drawn 3 (some .int) fr lo mc ms K2 false [mR 0, mI x0, mI x1] (ov E) K2 false (fun r D' => ∃ (v : Int) (E1 : Mm), r = some (mI v) ∧ D' = ov E1 ∧ M E x0 x1 0 v E1) (fun X D' => ∃ (c : Nat) (E1 : Mm), ((c = 1 ∧ X = "java/lang/IllegalArgumentException")) ∧ D' = ov E1 ∧ M E x0 x1 c 0 E1)) (hM : ∀ (E : Mm) (x0 x1 : Int) (c : Nat) (v : Int) (E1 : Mm), INV E → M E x0 x1 c v E1 → CT g yX12_drawn cX12_drawn 3 (some .int) fr2 lo2 0 0 K2 false [mR 125, mI x0, mI x1] (ov (if c = 0 then wr E1 813 0 v else E1)) K2 false (fun r D' => ∃ (bb : Int) (E2 : Mm), r = some (mI bb) ∧ D' = ov E2 ∧ INV' E2 ∧ E2 125 0 = (c : Int) ∧ (c = 0 → E2 813 0 = bb))) (hr1 : fr + 2 ≤ room_1.frames ∧ 8 + (5 + 11) + (lo + 22) ≤ room_1.locals) (hr2 : fr2 + 1 ≤ room_1.frames ∧ 8 + (3 + 11) + lo2 ≤ room_1.locals) (hmc : mc ≤ 10) (hms : ms ≤ 100) (E : Mm) (n cells slots : Nat) (hE : INV E) (hn : n + 6 ≤ L) (hc : cells + 10 ≤ 601024) (hs : slots + 100 ≤ 7293034) (hend : ∀ E' : Mm, INV' E' → AT g (KL p e s m below meth c b) K2 false (cells + 10) (slots + 100) 3366 (lawL b n) [] (ov E')) : AT g (KL p e s m below meth c b) K2 false cells slots 2233 (lawL b n) [] (ov E) := by
  refine at_aload_n 2234 X rfl rfl dL_law__2233 rfl ?_
  refine at_xload_n 2235 X rfl rfl dL_law__2234 rfl ?_
  refine at_iload 2237 X rfl dL_law__2235 rfl ?_
  refine at_iconst 2238 X (by decide) dL_law__2237 rfl ?_
  refine at_iadd 2239 X dL_law__2238 rfl ?_
  rw [w32_id (by omega) (by omega)]
  refine at_xint 2240 X S (by omega) (by omega) dL_law__2239 rfl ?_
  refine at_xload_n 2241 X rfl rfl dL_law__2240 rfl ?_
  refine at_iload 2243 X rfl dL_law__2241 rfl ?_
  refine at_iconst 2244 X (by decide) dL_law__2243 rfl ?_
  refine at_iadd 2245 X dL_law__2244 rfl ?_
  rw [w32_id (by omega) (by omega)]
  refine at_xint 2246 X S (by omega) (by omega) dL_law__2245 rfl ?_
  refine at_aload_n 2247 X rfl rfl dL_law__2246 rfl ?_
  refine at_callSH (n := 4) 2250 X (lh_drawn hG E _ _ (M E _ _) (hX E _ _ hE)) w_1582 w_120 rfl (by decide +kernel) w_1580 w_1581 rfl rfl (crl ⟨by omega, by omega⟩ (by omega) (by omega)) (Nat.le_of_ble_eq_true rfl) dL_law__2247 rfl ?_
  rintro _ _ ⟨cc, v, E1, rfl, hM1, rfl⟩
  refine at_istore 2252 X dL_law__2250 rfl (by decide) ?_
  refine at_aload_n 2253 X rfl rfl dL_law__2252 rfl ?_
  refine at_xload_n 2254 X rfl rfl dL_law__2253 rfl ?_
  refine at_iload 2256 X rfl dL_law__2254 rfl ?_
  refine at_iconst 2257 X (by decide) dL_law__2256 rfl ?_
  refine at_iadd 2258 X dL_law__2257 rfl ?_
  rw [w32_id (by omega) (by omega)]
  refine at_xint 2259 X S (by omega) (by omega) dL_law__2258 rfl ?_
  refine at_xload_n 2260 X rfl rfl dL_law__2259 rfl ?_
  refine at_iload 2262 X rfl dL_law__2260 rfl ?_
  refine at_iconst 2263 X (by decide) dL_law__2262 rfl ?_
  refine at_iadd 2264 X dL_law__2263 rfl ?_
  rw [w32_id (by omega) (by omega)]
  refine at_xint 2265 X S (by omega) (by omega) dL_law__2264 rfl ?_
  refine at_callV 2268 X _ 12 (hM E _ _ _ _ _ hE hM1) clX12 rfl k_125 mo_X12_drawn w_2349 vo_X12_drawn.1 vo_X12_drawn.2 rfl rfl (crl ⟨by omega, by omega⟩ (by omega) (by omega)) (Nat.le_of_ble_eq_true rfl) dL_law__2265 rfl ?_
  rintro _ _ ⟨bb, E2, rfl, rfl, hE2, hth, hbb⟩
  refine at_istore 2270 X dL_law__2268 rfl (by decide) ?_
  refine at_aload_n 2271 X rfl rfl dL_law__2270 rfl ?_
  refine at_callV 2274 X _ 12 (ct_X12_thrown hG E2) clX12 rfl k_125 mo_X12_thrown w_1945 vo_X12_thrown.1 vo_X12_thrown.2 rfl rfl (crl ⟨Nat.le_of_ble_eq_true rfl, Nat.le_of_ble_eq_true rfl⟩ (by omega) (by omega)) (Nat.le_of_ble_eq_true rfl) dL_law__2271 rfl ?_
  rintro _ _ ⟨rfl, rfl⟩
  rw [hth]
  refine at_iload 2276 X rfl dL_law__2274 rfl ?_
  refine at_icmp_eq 2279 2281 X dL_law__2276 rfl (by decide) (fun _ => ?_) (fun h => absurd rfl h)
  refine at_iload 2283 X rfl dL_law__2281 rfl ?_
  refine at_if_ne 2286 2298 X dL_law__2283 rfl (by decide) (fun h => ?_) (fun h => ?_)
  · refine at_goto 3366 X dL_law__2298 (by decide) ?_
    exact at_sub _ (by exact ⟨rfl, rfl, rfl, rfl, rfl, trivial⟩) (at_widen (by omega) (by omega) (hend E2 hE2))
  · have hc0 : cc = 0 := by omega
    have hbb := hbb hc0
    refine at_aload_n 2287 X rfl rfl dL_law__2286 rfl ?_
    refine at_iconst 2288 X (by decide) dL_law__2287 rfl ?_
    refine m_laload 2289 X k_813 e_813 (by decide) (by decide) dL_law__2288 rfl ?_
    refine at_iload 2291 X rfl dL_law__2289 rfl ?_
    refine at_i2l 2292 X dL_law__2291 rfl ?_
    refine at_lcmp 2293 X dL_law__2292 rfl ?_
    refine at_if_eq 2296 2298 X dL_law__2293 rfl (by decide) (fun _ => ?_) (fun h => absurd (lcmp_eq (by first | exact hbb | (rw [show (0 : Int).toNat = 0 from rfl, hbb]; omega))) h)
    refine at_goto 3366 X dL_law__2298 (by decide) ?_
    exact at_sub _ (by exact ⟨rfl, rfl, rfl, rfl, rfl, trivial⟩) (at_widen (by omega) (by omega) (hend E2 hE2))
theorem dL_law__2301 : decode code 2301 = .ok (.aload_n 1, 1) := by decide +kernel
theorem dL_law__2302 : decode code 2302 = .ok (.aload_n 0, 1) := by decide +kernel
theorem dL_law__2303 : decode code 2303 = .ok (.iload 4, 2) := by decide +kernel
theorem dL_law__2305 : decode code 2305 = .ok (.iconst 1, 1) := by decide +kernel
theorem dL_law__2306 : decode code 2306 = .ok (.iadd, 1) := by decide +kernel
theorem dL_law__2307 : decode code 2307 = .ok (.iaload, 1) := by decide +kernel
theorem dL_law__2308 : decode code 2308 = .ok (.aload_n 0, 1) := by decide +kernel
theorem dL_law__2309 : decode code 2309 = .ok (.iload 4, 2) := by decide +kernel
theorem dL_law__2311 : decode code 2311 = .ok (.iconst 2, 1) := by decide +kernel
theorem dL_law__2312 : decode code 2312 = .ok (.iadd, 1) := by decide +kernel
theorem dL_law__2313 : decode code 2313 = .ok (.iaload, 1) := by decide +kernel
theorem dL_law__2314 : decode code 2314 = .ok (.aload_n 0, 1) := by decide +kernel
theorem dL_law__2315 : decode code 2315 = .ok (.iload 4, 2) := by decide +kernel
theorem dL_law__2317 : decode code 2317 = .ok (.iconst 3, 1) := by decide +kernel
theorem dL_law__2318 : decode code 2318 = .ok (.iadd, 1) := by decide +kernel
theorem dL_law__2319 : decode code 2319 = .ok (.iaload, 1) := by decide +kernel
theorem dL_law__2320 : decode code 2320 = .ok (.aload_n 0, 1) := by decide +kernel
theorem dL_law__2321 : decode code 2321 = .ok (.iload 4, 2) := by decide +kernel
theorem dL_law__2323 : decode code 2323 = .ok (.iconst 4, 1) := by decide +kernel
theorem dL_law__2324 : decode code 2324 = .ok (.iadd, 1) := by decide +kernel
theorem dL_law__2325 : decode code 2325 = .ok (.iaload, 1) := by decide +kernel
theorem dL_law__2326 : decode code 2326 = .ok (.aload_n 0, 1) := by decide +kernel
theorem dL_law__2327 : decode code 2327 = .ok (.iload 4, 2) := by decide +kernel
theorem dL_law__2329 : decode code 2329 = .ok (.iconst 5, 1) := by decide +kernel
theorem dL_law__2330 : decode code 2330 = .ok (.iadd, 1) := by decide +kernel
theorem dL_law__2331 : decode code 2331 = .ok (.iaload, 1) := by decide +kernel
theorem dL_law__2332 : decode code 2332 = .ok (.aload_n 3, 1) := by decide +kernel
theorem dL_law__2333 : decode code 2333 = .ok (.invokestatic 262, 3) := by decide +kernel
theorem dL_law__2336 : decode code 2336 = .ok (.istore 5, 2) := by decide +kernel
theorem dL_law__2338 : decode code 2338 = .ok (.aload_n 2, 1) := by decide +kernel
theorem dL_law__2339 : decode code 2339 = .ok (.aload_n 0, 1) := by decide +kernel
theorem dL_law__2340 : decode code 2340 = .ok (.iload 4, 2) := by decide +kernel
theorem dL_law__2342 : decode code 2342 = .ok (.iconst 1, 1) := by decide +kernel
theorem dL_law__2343 : decode code 2343 = .ok (.iadd, 1) := by decide +kernel
theorem dL_law__2344 : decode code 2344 = .ok (.iaload, 1) := by decide +kernel
theorem dL_law__2345 : decode code 2345 = .ok (.aload_n 0, 1) := by decide +kernel
theorem dL_law__2346 : decode code 2346 = .ok (.iload 4, 2) := by decide +kernel
theorem dL_law__2348 : decode code 2348 = .ok (.iconst 2, 1) := by decide +kernel
theorem dL_law__2349 : decode code 2349 = .ok (.iadd, 1) := by decide +kernel
theorem dL_law__2350 : decode code 2350 = .ok (.iaload, 1) := by decide +kernel
theorem dL_law__2351 : decode code 2351 = .ok (.aload_n 0, 1) := by decide +kernel
theorem dL_law__2352 : decode code 2352 = .ok (.iload 4, 2) := by decide +kernel
theorem dL_law__2354 : decode code 2354 = .ok (.iconst 3, 1) := by decide +kernel
theorem dL_law__2355 : decode code 2355 = .ok (.iadd, 1) := by decide +kernel
theorem dL_law__2356 : decode code 2356 = .ok (.iaload, 1) := by decide +kernel
theorem dL_law__2357 : decode code 2357 = .ok (.aload_n 0, 1) := by decide +kernel
theorem dL_law__2358 : decode code 2358 = .ok (.iload 4, 2) := by decide +kernel
theorem dL_law__2360 : decode code 2360 = .ok (.iconst 4, 1) := by decide +kernel
theorem dL_law__2361 : decode code 2361 = .ok (.iadd, 1) := by decide +kernel
theorem dL_law__2362 : decode code 2362 = .ok (.iaload, 1) := by decide +kernel
theorem dL_law__2363 : decode code 2363 = .ok (.aload_n 0, 1) := by decide +kernel
theorem dL_law__2364 : decode code 2364 = .ok (.iload 4, 2) := by decide +kernel
theorem dL_law__2366 : decode code 2366 = .ok (.iconst 5, 1) := by decide +kernel
theorem dL_law__2367 : decode code 2367 = .ok (.iadd, 1) := by decide +kernel
theorem dL_law__2368 : decode code 2368 = .ok (.iaload, 1) := by decide +kernel
theorem dL_law__2369 : decode code 2369 = .ok (.invokevirtual 264, 3) := by decide +kernel
theorem dL_law__2372 : decode code 2372 = .ok (.istore 6, 2) := by decide +kernel
theorem dL_law__2374 : decode code 2374 = .ok (.aload_n 2, 1) := by decide +kernel
theorem dL_law__2375 : decode code 2375 = .ok (.invokevirtual 160, 3) := by decide +kernel
theorem dL_law__2378 : decode code 2378 = .ok (.iload 5, 2) := by decide +kernel
theorem dL_law__2380 : decode code 2380 = .ok (.if_icmp .eq 5, 3) := by decide +kernel
theorem dL_law__2383 : decode code 2383 = .ok (.iconst 0, 1) := by decide +kernel
theorem dL_law__2384 : decode code 2384 = .ok (.ireturn, 1) := by decide +kernel
theorem dL_law__2385 : decode code 2385 = .ok (.iload 5, 2) := by decide +kernel
theorem dL_law__2387 : decode code 2387 = .ok (.ifCond .ne 15, 3) := by decide +kernel
theorem dL_law__2390 : decode code 2390 = .ok (.aload_n 3, 1) := by decide +kernel
theorem dL_law__2391 : decode code 2391 = .ok (.iconst 0, 1) := by decide +kernel
theorem dL_law__2392 : decode code 2392 = .ok (.laload, 1) := by decide +kernel
theorem dL_law__2393 : decode code 2393 = .ok (.iload 6, 2) := by decide +kernel
theorem dL_law__2395 : decode code 2395 = .ok (.i2l, 1) := by decide +kernel
theorem dL_law__2396 : decode code 2396 = .ok (.lcmp, 1) := by decide +kernel
theorem dL_law__2397 : decode code 2397 = .ok (.ifCond .eq 5, 3) := by decide +kernel
theorem dL_law__2400 : decode code 2400 = .ok (.iconst 0, 1) := by decide +kernel
theorem dL_law__2401 : decode code 2401 = .ok (.ireturn, 1) := by decide +kernel
theorem dL_law__2402 : decode code 2402 = .ok (.goto 964, 3) := by decide +kernel
theorem case_32 {INV INV' : Mm → Prop} {g : Gw} {p : Program} {e : Env} {s : State} {m : MethodId} {below : List Frame} {meth : Method} {c : Code} {b L : Nat} {xs : Nat → Int32} (hL : L ≤ 3072) (hG : GF g) (X : CX g (KL p e s m below meth c b) code R_law 8) (S : SCR g (KL p e s m below meth c b) b L xs) {fr lo mc ms fr2 lo2 : Nat} (M : Mm → Int → Int → Int → Int → Int → Nat → Int → Mm → Prop) (hX : ∀ (E : Mm) (x0 x1 x2 x3 x4 : Int), INV E → CTX g yX11_span cX11_span 10 (some .int) fr lo mc ms K2 false [mR 0, mI x0, mI x1, mI x2, mI x3, mI x4] (ov E) K2 false (fun r D' => ∃ (v : Int) (E1 : Mm), r = some (mI v) ∧ D' = ov E1 ∧ M E x0 x1 x2 x3 x4 0 v E1) (fun X D' => ∃ (c : Nat) (E1 : Mm), ((c = 1 ∧ X = "java/lang/IllegalArgumentException")) ∧ D' = ov E1 ∧ M E x0 x1 x2 x3 x4 c 0 E1)) (hM : ∀ (E : Mm) (x0 x1 x2 x3 x4 : Int) (c : Nat) (v : Int) (E1 : Mm), INV E → M E x0 x1 x2 x3 x4 c v E1 → CT g yX12_span cX12_span 12 (some .int) fr2 lo2 0 0 K2 false [mR 125, mI x0, mI x1, mI x2, mI x3, mI x4] (ov (if c = 0 then wr E1 813 0 v else E1)) K2 false (fun r D' => ∃ (bb : Int) (E2 : Mm), r = some (mI bb) ∧ D' = ov E2 ∧ INV' E2 ∧ E2 125 0 = (c : Int) ∧ (c = 0 → E2 813 0 = bb))) (hr1 : fr + 2 ≤ room_1.frames ∧ 8 + (8 + 11) + (lo + 29) ≤ room_1.locals) (hr2 : fr2 + 1 ≤ room_1.frames ∧ 8 + (12 + 11) + lo2 ≤ room_1.locals) (hmc : mc ≤ 10) (hms : ms ≤ 100) (E : Mm) (n cells slots : Nat) (hE : INV E) (hn : n + 6 ≤ L) (hc : cells + 10 ≤ 601024) (hs : slots + 100 ≤ 7293034) (hend : ∀ E' : Mm, INV' E' → AT g (KL p e s m below meth c b) K2 false (cells + 10) (slots + 100) 3366 (lawL b n) [] (ov E')) : AT g (KL p e s m below meth c b) K2 false cells slots 2301 (lawL b n) [] (ov E) := by
  refine at_aload_n 2302 X rfl rfl dL_law__2301 rfl ?_
  refine at_xload_n 2303 X rfl rfl dL_law__2302 rfl ?_
  refine at_iload 2305 X rfl dL_law__2303 rfl ?_
  refine at_iconst 2306 X (by decide) dL_law__2305 rfl ?_
  refine at_iadd 2307 X dL_law__2306 rfl ?_
  rw [w32_id (by omega) (by omega)]
  refine at_xint 2308 X S (by omega) (by omega) dL_law__2307 rfl ?_
  refine at_xload_n 2309 X rfl rfl dL_law__2308 rfl ?_
  refine at_iload 2311 X rfl dL_law__2309 rfl ?_
  refine at_iconst 2312 X (by decide) dL_law__2311 rfl ?_
  refine at_iadd 2313 X dL_law__2312 rfl ?_
  rw [w32_id (by omega) (by omega)]
  refine at_xint 2314 X S (by omega) (by omega) dL_law__2313 rfl ?_
  refine at_xload_n 2315 X rfl rfl dL_law__2314 rfl ?_
  refine at_iload 2317 X rfl dL_law__2315 rfl ?_
  refine at_iconst 2318 X (by decide) dL_law__2317 rfl ?_
  refine at_iadd 2319 X dL_law__2318 rfl ?_
  rw [w32_id (by omega) (by omega)]
  refine at_xint 2320 X S (by omega) (by omega) dL_law__2319 rfl ?_
  refine at_xload_n 2321 X rfl rfl dL_law__2320 rfl ?_
  refine at_iload 2323 X rfl dL_law__2321 rfl ?_
  refine at_iconst 2324 X (by decide) dL_law__2323 rfl ?_
  refine at_iadd 2325 X dL_law__2324 rfl ?_
  rw [w32_id (by omega) (by omega)]
  refine at_xint 2326 X S (by omega) (by omega) dL_law__2325 rfl ?_
  refine at_xload_n 2327 X rfl rfl dL_law__2326 rfl ?_
  refine at_iload 2329 X rfl dL_law__2327 rfl ?_
  refine at_iconst 2330 X (by decide) dL_law__2329 rfl ?_
  refine at_iadd 2331 X dL_law__2330 rfl ?_
  rw [w32_id (by omega) (by omega)]
  refine at_xint 2332 X S (by omega) (by omega) dL_law__2331 rfl ?_
  refine at_aload_n 2333 X rfl rfl dL_law__2332 rfl ?_
  refine at_callSH (n := 7) 2336 X (lh_span hG E _ _ _ _ _ (M E _ _ _ _ _) (hX E _ _ _ _ _ hE)) w_1594 w_120 rfl (by decide +kernel) w_1592 w_1593 rfl rfl (crl ⟨by omega, by omega⟩ (by omega) (by omega)) (Nat.le_of_ble_eq_true rfl) dL_law__2333 rfl ?_
  rintro _ _ ⟨cc, v, E1, rfl, hM1, rfl⟩
  refine at_istore 2338 X dL_law__2336 rfl (by decide) ?_
  refine at_aload_n 2339 X rfl rfl dL_law__2338 rfl ?_
  refine at_xload_n 2340 X rfl rfl dL_law__2339 rfl ?_
  refine at_iload 2342 X rfl dL_law__2340 rfl ?_
  refine at_iconst 2343 X (by decide) dL_law__2342 rfl ?_
  refine at_iadd 2344 X dL_law__2343 rfl ?_
  rw [w32_id (by omega) (by omega)]
  refine at_xint 2345 X S (by omega) (by omega) dL_law__2344 rfl ?_
  refine at_xload_n 2346 X rfl rfl dL_law__2345 rfl ?_
  refine at_iload 2348 X rfl dL_law__2346 rfl ?_
  refine at_iconst 2349 X (by decide) dL_law__2348 rfl ?_
  refine at_iadd 2350 X dL_law__2349 rfl ?_
  rw [w32_id (by omega) (by omega)]
  refine at_xint 2351 X S (by omega) (by omega) dL_law__2350 rfl ?_
  refine at_xload_n 2352 X rfl rfl dL_law__2351 rfl ?_
  refine at_iload 2354 X rfl dL_law__2352 rfl ?_
  refine at_iconst 2355 X (by decide) dL_law__2354 rfl ?_
  refine at_iadd 2356 X dL_law__2355 rfl ?_
  rw [w32_id (by omega) (by omega)]
  refine at_xint 2357 X S (by omega) (by omega) dL_law__2356 rfl ?_
  refine at_xload_n 2358 X rfl rfl dL_law__2357 rfl ?_
  refine at_iload 2360 X rfl dL_law__2358 rfl ?_
  refine at_iconst 2361 X (by decide) dL_law__2360 rfl ?_
  refine at_iadd 2362 X dL_law__2361 rfl ?_
  rw [w32_id (by omega) (by omega)]
  refine at_xint 2363 X S (by omega) (by omega) dL_law__2362 rfl ?_
  refine at_xload_n 2364 X rfl rfl dL_law__2363 rfl ?_
  refine at_iload 2366 X rfl dL_law__2364 rfl ?_
  refine at_iconst 2367 X (by decide) dL_law__2366 rfl ?_
  refine at_iadd 2368 X dL_law__2367 rfl ?_
  rw [w32_id (by omega) (by omega)]
  refine at_xint 2369 X S (by omega) (by omega) dL_law__2368 rfl ?_
  refine at_callV 2372 X _ 12 (hM E _ _ _ _ _ _ _ _ hE hM1) clX12 rfl k_125 mo_X12_span w_2358 vo_X12_span.1 vo_X12_span.2 rfl rfl (crl ⟨by omega, by omega⟩ (by omega) (by omega)) (Nat.le_of_ble_eq_true rfl) dL_law__2369 rfl ?_
  rintro _ _ ⟨bb, E2, rfl, rfl, hE2, hth, hbb⟩
  refine at_istore 2374 X dL_law__2372 rfl (by decide) ?_
  refine at_aload_n 2375 X rfl rfl dL_law__2374 rfl ?_
  refine at_callV 2378 X _ 12 (ct_X12_thrown hG E2) clX12 rfl k_125 mo_X12_thrown w_1945 vo_X12_thrown.1 vo_X12_thrown.2 rfl rfl (crl ⟨Nat.le_of_ble_eq_true rfl, Nat.le_of_ble_eq_true rfl⟩ (by omega) (by omega)) (Nat.le_of_ble_eq_true rfl) dL_law__2375 rfl ?_
  rintro _ _ ⟨rfl, rfl⟩
  rw [hth]
  refine at_iload 2380 X rfl dL_law__2378 rfl ?_
  refine at_icmp_eq 2383 2385 X dL_law__2380 rfl (by decide) (fun _ => ?_) (fun h => absurd rfl h)
  refine at_iload 2387 X rfl dL_law__2385 rfl ?_
  refine at_if_ne 2390 2402 X dL_law__2387 rfl (by decide) (fun h => ?_) (fun h => ?_)
  · refine at_goto 3366 X dL_law__2402 (by decide) ?_
    exact at_sub _ (by exact ⟨rfl, rfl, rfl, rfl, rfl, trivial⟩) (at_widen (by omega) (by omega) (hend E2 hE2))
  · have hc0 : cc = 0 := by omega
    have hbb := hbb hc0
    refine at_aload_n 2391 X rfl rfl dL_law__2390 rfl ?_
    refine at_iconst 2392 X (by decide) dL_law__2391 rfl ?_
    refine m_laload 2393 X k_813 e_813 (by decide) (by decide) dL_law__2392 rfl ?_
    refine at_iload 2395 X rfl dL_law__2393 rfl ?_
    refine at_i2l 2396 X dL_law__2395 rfl ?_
    refine at_lcmp 2397 X dL_law__2396 rfl ?_
    refine at_if_eq 2400 2402 X dL_law__2397 rfl (by decide) (fun _ => ?_) (fun h => absurd (lcmp_eq (by first | exact hbb | (rw [show (0 : Int).toNat = 0 from rfl, hbb]; omega))) h)
    refine at_goto 3366 X dL_law__2402 (by decide) ?_
    exact at_sub _ (by exact ⟨rfl, rfl, rfl, rfl, rfl, trivial⟩) (at_widen (by omega) (by omega) (hend E2 hE2))
theorem dL_law__2405 : decode code 2405 = .ok (.aload_n 1, 1) := by decide +kernel
theorem dL_law__2406 : decode code 2406 = .ok (.aload_n 0, 1) := by decide +kernel
theorem dL_law__2407 : decode code 2407 = .ok (.iload 4, 2) := by decide +kernel
theorem dL_law__2409 : decode code 2409 = .ok (.iconst 1, 1) := by decide +kernel
theorem dL_law__2410 : decode code 2410 = .ok (.iadd, 1) := by decide +kernel
theorem dL_law__2411 : decode code 2411 = .ok (.iaload, 1) := by decide +kernel
theorem dL_law__2412 : decode code 2412 = .ok (.aload_n 0, 1) := by decide +kernel
theorem dL_law__2413 : decode code 2413 = .ok (.iload 4, 2) := by decide +kernel
theorem dL_law__2415 : decode code 2415 = .ok (.iconst 2, 1) := by decide +kernel
theorem dL_law__2416 : decode code 2416 = .ok (.iadd, 1) := by decide +kernel
theorem dL_law__2417 : decode code 2417 = .ok (.iaload, 1) := by decide +kernel
theorem dL_law__2418 : decode code 2418 = .ok (.aload_n 0, 1) := by decide +kernel
theorem dL_law__2419 : decode code 2419 = .ok (.iload 4, 2) := by decide +kernel
theorem dL_law__2421 : decode code 2421 = .ok (.iconst 3, 1) := by decide +kernel
theorem dL_law__2422 : decode code 2422 = .ok (.iadd, 1) := by decide +kernel
theorem dL_law__2423 : decode code 2423 = .ok (.iaload, 1) := by decide +kernel
theorem dL_law__2424 : decode code 2424 = .ok (.aload_n 3, 1) := by decide +kernel
theorem dL_law__2425 : decode code 2425 = .ok (.invokestatic 265, 3) := by decide +kernel
theorem dL_law__2428 : decode code 2428 = .ok (.istore 5, 2) := by decide +kernel
theorem dL_law__2430 : decode code 2430 = .ok (.aload_n 2, 1) := by decide +kernel
theorem dL_law__2431 : decode code 2431 = .ok (.aload_n 0, 1) := by decide +kernel
theorem dL_law__2432 : decode code 2432 = .ok (.iload 4, 2) := by decide +kernel
theorem dL_law__2434 : decode code 2434 = .ok (.iconst 1, 1) := by decide +kernel
theorem dL_law__2435 : decode code 2435 = .ok (.iadd, 1) := by decide +kernel
theorem dL_law__2436 : decode code 2436 = .ok (.iaload, 1) := by decide +kernel
theorem dL_law__2437 : decode code 2437 = .ok (.aload_n 0, 1) := by decide +kernel
theorem dL_law__2438 : decode code 2438 = .ok (.iload 4, 2) := by decide +kernel
theorem dL_law__2440 : decode code 2440 = .ok (.iconst 2, 1) := by decide +kernel
theorem dL_law__2441 : decode code 2441 = .ok (.iadd, 1) := by decide +kernel
theorem dL_law__2442 : decode code 2442 = .ok (.iaload, 1) := by decide +kernel
theorem dL_law__2443 : decode code 2443 = .ok (.aload_n 0, 1) := by decide +kernel
theorem dL_law__2444 : decode code 2444 = .ok (.iload 4, 2) := by decide +kernel
theorem dL_law__2446 : decode code 2446 = .ok (.iconst 3, 1) := by decide +kernel
theorem dL_law__2447 : decode code 2447 = .ok (.iadd, 1) := by decide +kernel
theorem dL_law__2448 : decode code 2448 = .ok (.iaload, 1) := by decide +kernel
theorem dL_law__2449 : decode code 2449 = .ok (.invokevirtual 267, 3) := by decide +kernel
theorem dL_law__2452 : decode code 2452 = .ok (.istore 6, 2) := by decide +kernel
theorem dL_law__2454 : decode code 2454 = .ok (.aload_n 2, 1) := by decide +kernel
theorem dL_law__2455 : decode code 2455 = .ok (.invokevirtual 160, 3) := by decide +kernel
theorem dL_law__2458 : decode code 2458 = .ok (.iload 5, 2) := by decide +kernel
theorem dL_law__2460 : decode code 2460 = .ok (.if_icmp .eq 5, 3) := by decide +kernel
theorem dL_law__2463 : decode code 2463 = .ok (.iconst 0, 1) := by decide +kernel
theorem dL_law__2464 : decode code 2464 = .ok (.ireturn, 1) := by decide +kernel
theorem dL_law__2465 : decode code 2465 = .ok (.iload 5, 2) := by decide +kernel
theorem dL_law__2467 : decode code 2467 = .ok (.ifCond .ne 15, 3) := by decide +kernel
theorem dL_law__2470 : decode code 2470 = .ok (.aload_n 3, 1) := by decide +kernel
theorem dL_law__2471 : decode code 2471 = .ok (.iconst 0, 1) := by decide +kernel
theorem dL_law__2472 : decode code 2472 = .ok (.laload, 1) := by decide +kernel
theorem dL_law__2473 : decode code 2473 = .ok (.iload 6, 2) := by decide +kernel
theorem dL_law__2475 : decode code 2475 = .ok (.i2l, 1) := by decide +kernel
theorem dL_law__2476 : decode code 2476 = .ok (.lcmp, 1) := by decide +kernel
theorem dL_law__2477 : decode code 2477 = .ok (.ifCond .eq 5, 3) := by decide +kernel
theorem dL_law__2480 : decode code 2480 = .ok (.iconst 0, 1) := by decide +kernel
theorem dL_law__2481 : decode code 2481 = .ok (.ireturn, 1) := by decide +kernel
theorem dL_law__2482 : decode code 2482 = .ok (.goto 884, 3) := by decide +kernel
theorem case_33 {INV INV' : Mm → Prop} {g : Gw} {p : Program} {e : Env} {s : State} {m : MethodId} {below : List Frame} {meth : Method} {c : Code} {b L : Nat} {xs : Nat → Int32} (hL : L ≤ 3072) (hG : GF g) (X : CX g (KL p e s m below meth c b) code R_law 8) (S : SCR g (KL p e s m below meth c b) b L xs) {fr lo mc ms fr2 lo2 : Nat} (M : Mm → Int → Int → Int → Nat → Int → Mm → Prop) (hX : ∀ (E : Mm) (x0 x1 x2 : Int), INV E → CTX g yX11_places cX11_places 6 (some .int) fr lo mc ms K2 false [mR 0, mI x0, mI x1, mI x2] (ov E) K2 false (fun r D' => ∃ (v : Int) (E1 : Mm), r = some (mI v) ∧ D' = ov E1 ∧ M E x0 x1 x2 0 v E1) (fun X D' => ∃ (c : Nat) (E1 : Mm), ((c = 1 ∧ X = "java/util/NoSuchElementException") ∨ (c = 2 ∧ X = "java/lang/IllegalArgumentException")) ∧ D' = ov E1 ∧ M E x0 x1 x2 c 0 E1)) (hM : ∀ (E : Mm) (x0 x1 x2 : Int) (c : Nat) (v : Int) (E1 : Mm), INV E → M E x0 x1 x2 c v E1 → CT g yX12_places cX12_places 7 (some .int) fr2 lo2 0 0 K2 false [mR 125, mI x0, mI x1, mI x2] (ov (if c = 0 then wr E1 813 0 v else E1)) K2 false (fun r D' => ∃ (bb : Int) (E2 : Mm), r = some (mI bb) ∧ D' = ov E2 ∧ INV' E2 ∧ E2 125 0 = (c : Int) ∧ (c = 0 → E2 813 0 = bb))) (hr1 : fr + 2 ≤ room_1.frames ∧ 8 + (6 + 11) + (lo + 25) ≤ room_1.locals) (hr2 : fr2 + 1 ≤ room_1.frames ∧ 8 + (7 + 11) + lo2 ≤ room_1.locals) (hmc : mc ≤ 10) (hms : ms ≤ 100) (E : Mm) (n cells slots : Nat) (hE : INV E) (hn : n + 6 ≤ L) (hc : cells + 10 ≤ 601024) (hs : slots + 100 ≤ 7293034) (hend : ∀ E' : Mm, INV' E' → AT g (KL p e s m below meth c b) K2 false (cells + 10) (slots + 100) 3366 (lawL b n) [] (ov E')) : AT g (KL p e s m below meth c b) K2 false cells slots 2405 (lawL b n) [] (ov E) := by
  refine at_aload_n 2406 X rfl rfl dL_law__2405 rfl ?_
  refine at_xload_n 2407 X rfl rfl dL_law__2406 rfl ?_
  refine at_iload 2409 X rfl dL_law__2407 rfl ?_
  refine at_iconst 2410 X (by decide) dL_law__2409 rfl ?_
  refine at_iadd 2411 X dL_law__2410 rfl ?_
  rw [w32_id (by omega) (by omega)]
  refine at_xint 2412 X S (by omega) (by omega) dL_law__2411 rfl ?_
  refine at_xload_n 2413 X rfl rfl dL_law__2412 rfl ?_
  refine at_iload 2415 X rfl dL_law__2413 rfl ?_
  refine at_iconst 2416 X (by decide) dL_law__2415 rfl ?_
  refine at_iadd 2417 X dL_law__2416 rfl ?_
  rw [w32_id (by omega) (by omega)]
  refine at_xint 2418 X S (by omega) (by omega) dL_law__2417 rfl ?_
  refine at_xload_n 2419 X rfl rfl dL_law__2418 rfl ?_
  refine at_iload 2421 X rfl dL_law__2419 rfl ?_
  refine at_iconst 2422 X (by decide) dL_law__2421 rfl ?_
  refine at_iadd 2423 X dL_law__2422 rfl ?_
  rw [w32_id (by omega) (by omega)]
  refine at_xint 2424 X S (by omega) (by omega) dL_law__2423 rfl ?_
  refine at_aload_n 2425 X rfl rfl dL_law__2424 rfl ?_
  refine at_callSH (n := 5) 2428 X (lh_places hG E _ _ _ (M E _ _ _) (hX E _ _ _ hE)) w_1603 w_120 rfl (by decide +kernel) w_1601 w_1602 rfl rfl (crl ⟨by omega, by omega⟩ (by omega) (by omega)) (Nat.le_of_ble_eq_true rfl) dL_law__2425 rfl ?_
  rintro _ _ ⟨cc, v, E1, rfl, hM1, rfl⟩
  refine at_istore 2430 X dL_law__2428 rfl (by decide) ?_
  refine at_aload_n 2431 X rfl rfl dL_law__2430 rfl ?_
  refine at_xload_n 2432 X rfl rfl dL_law__2431 rfl ?_
  refine at_iload 2434 X rfl dL_law__2432 rfl ?_
  refine at_iconst 2435 X (by decide) dL_law__2434 rfl ?_
  refine at_iadd 2436 X dL_law__2435 rfl ?_
  rw [w32_id (by omega) (by omega)]
  refine at_xint 2437 X S (by omega) (by omega) dL_law__2436 rfl ?_
  refine at_xload_n 2438 X rfl rfl dL_law__2437 rfl ?_
  refine at_iload 2440 X rfl dL_law__2438 rfl ?_
  refine at_iconst 2441 X (by decide) dL_law__2440 rfl ?_
  refine at_iadd 2442 X dL_law__2441 rfl ?_
  rw [w32_id (by omega) (by omega)]
  refine at_xint 2443 X S (by omega) (by omega) dL_law__2442 rfl ?_
  refine at_xload_n 2444 X rfl rfl dL_law__2443 rfl ?_
  refine at_iload 2446 X rfl dL_law__2444 rfl ?_
  refine at_iconst 2447 X (by decide) dL_law__2446 rfl ?_
  refine at_iadd 2448 X dL_law__2447 rfl ?_
  rw [w32_id (by omega) (by omega)]
  refine at_xint 2449 X S (by omega) (by omega) dL_law__2448 rfl ?_
  refine at_callV 2452 X _ 12 (hM E _ _ _ _ _ _ hE hM1) clX12 rfl k_125 mo_X12_places w_2362 vo_X12_places.1 vo_X12_places.2 rfl rfl (crl ⟨by omega, by omega⟩ (by omega) (by omega)) (Nat.le_of_ble_eq_true rfl) dL_law__2449 rfl ?_
  rintro _ _ ⟨bb, E2, rfl, rfl, hE2, hth, hbb⟩
  refine at_istore 2454 X dL_law__2452 rfl (by decide) ?_
  refine at_aload_n 2455 X rfl rfl dL_law__2454 rfl ?_
  refine at_callV 2458 X _ 12 (ct_X12_thrown hG E2) clX12 rfl k_125 mo_X12_thrown w_1945 vo_X12_thrown.1 vo_X12_thrown.2 rfl rfl (crl ⟨Nat.le_of_ble_eq_true rfl, Nat.le_of_ble_eq_true rfl⟩ (by omega) (by omega)) (Nat.le_of_ble_eq_true rfl) dL_law__2455 rfl ?_
  rintro _ _ ⟨rfl, rfl⟩
  rw [hth]
  refine at_iload 2460 X rfl dL_law__2458 rfl ?_
  refine at_icmp_eq 2463 2465 X dL_law__2460 rfl (by decide) (fun _ => ?_) (fun h => absurd rfl h)
  refine at_iload 2467 X rfl dL_law__2465 rfl ?_
  refine at_if_ne 2470 2482 X dL_law__2467 rfl (by decide) (fun h => ?_) (fun h => ?_)
  · refine at_goto 3366 X dL_law__2482 (by decide) ?_
    exact at_sub _ (by exact ⟨rfl, rfl, rfl, rfl, rfl, trivial⟩) (at_widen (by omega) (by omega) (hend E2 hE2))
  · have hc0 : cc = 0 := by omega
    have hbb := hbb hc0
    refine at_aload_n 2471 X rfl rfl dL_law__2470 rfl ?_
    refine at_iconst 2472 X (by decide) dL_law__2471 rfl ?_
    refine m_laload 2473 X k_813 e_813 (by decide) (by decide) dL_law__2472 rfl ?_
    refine at_iload 2475 X rfl dL_law__2473 rfl ?_
    refine at_i2l 2476 X dL_law__2475 rfl ?_
    refine at_lcmp 2477 X dL_law__2476 rfl ?_
    refine at_if_eq 2480 2482 X dL_law__2477 rfl (by decide) (fun _ => ?_) (fun h => absurd (lcmp_eq (by first | exact hbb | (rw [show (0 : Int).toNat = 0 from rfl, hbb]; omega))) h)
    refine at_goto 3366 X dL_law__2482 (by decide) ?_
    exact at_sub _ (by exact ⟨rfl, rfl, rfl, rfl, rfl, trivial⟩) (at_widen (by omega) (by omega) (hend E2 hE2))
theorem dL_law__2485 : decode code 2485 = .ok (.aload_n 1, 1) := by decide +kernel
theorem dL_law__2486 : decode code 2486 = .ok (.aload_n 0, 1) := by decide +kernel
theorem dL_law__2487 : decode code 2487 = .ok (.iload 4, 2) := by decide +kernel
theorem dL_law__2489 : decode code 2489 = .ok (.iconst 1, 1) := by decide +kernel
theorem dL_law__2490 : decode code 2490 = .ok (.iadd, 1) := by decide +kernel
theorem dL_law__2491 : decode code 2491 = .ok (.iaload, 1) := by decide +kernel
theorem dL_law__2492 : decode code 2492 = .ok (.aload_n 0, 1) := by decide +kernel
theorem dL_law__2493 : decode code 2493 = .ok (.iload 4, 2) := by decide +kernel
theorem dL_law__2495 : decode code 2495 = .ok (.iconst 2, 1) := by decide +kernel
theorem dL_law__2496 : decode code 2496 = .ok (.iadd, 1) := by decide +kernel
theorem dL_law__2497 : decode code 2497 = .ok (.iaload, 1) := by decide +kernel
theorem dL_law__2498 : decode code 2498 = .ok (.aload_n 3, 1) := by decide +kernel
theorem dL_law__2499 : decode code 2499 = .ok (.invokestatic 268, 3) := by decide +kernel
theorem dL_law__2502 : decode code 2502 = .ok (.istore 5, 2) := by decide +kernel
theorem dL_law__2504 : decode code 2504 = .ok (.aload_n 2, 1) := by decide +kernel
theorem dL_law__2505 : decode code 2505 = .ok (.aload_n 0, 1) := by decide +kernel
theorem dL_law__2506 : decode code 2506 = .ok (.iload 4, 2) := by decide +kernel
theorem dL_law__2508 : decode code 2508 = .ok (.iconst 1, 1) := by decide +kernel
theorem dL_law__2509 : decode code 2509 = .ok (.iadd, 1) := by decide +kernel
theorem dL_law__2510 : decode code 2510 = .ok (.iaload, 1) := by decide +kernel
theorem dL_law__2511 : decode code 2511 = .ok (.aload_n 0, 1) := by decide +kernel
theorem dL_law__2512 : decode code 2512 = .ok (.iload 4, 2) := by decide +kernel
theorem dL_law__2514 : decode code 2514 = .ok (.iconst 2, 1) := by decide +kernel
theorem dL_law__2515 : decode code 2515 = .ok (.iadd, 1) := by decide +kernel
theorem dL_law__2516 : decode code 2516 = .ok (.iaload, 1) := by decide +kernel
theorem dL_law__2517 : decode code 2517 = .ok (.invokevirtual 270, 3) := by decide +kernel
theorem dL_law__2520 : decode code 2520 = .ok (.istore 6, 2) := by decide +kernel
theorem dL_law__2522 : decode code 2522 = .ok (.aload_n 2, 1) := by decide +kernel
theorem dL_law__2523 : decode code 2523 = .ok (.invokevirtual 160, 3) := by decide +kernel
theorem dL_law__2526 : decode code 2526 = .ok (.iload 5, 2) := by decide +kernel
theorem dL_law__2528 : decode code 2528 = .ok (.if_icmp .eq 5, 3) := by decide +kernel
theorem dL_law__2531 : decode code 2531 = .ok (.iconst 0, 1) := by decide +kernel
theorem dL_law__2532 : decode code 2532 = .ok (.ireturn, 1) := by decide +kernel
theorem dL_law__2533 : decode code 2533 = .ok (.iload 5, 2) := by decide +kernel
theorem dL_law__2535 : decode code 2535 = .ok (.ifCond .ne 15, 3) := by decide +kernel
theorem dL_law__2538 : decode code 2538 = .ok (.aload_n 3, 1) := by decide +kernel
theorem dL_law__2539 : decode code 2539 = .ok (.iconst 0, 1) := by decide +kernel
theorem dL_law__2540 : decode code 2540 = .ok (.laload, 1) := by decide +kernel
theorem dL_law__2541 : decode code 2541 = .ok (.iload 6, 2) := by decide +kernel
theorem dL_law__2543 : decode code 2543 = .ok (.i2l, 1) := by decide +kernel
theorem dL_law__2544 : decode code 2544 = .ok (.lcmp, 1) := by decide +kernel
theorem dL_law__2545 : decode code 2545 = .ok (.ifCond .eq 5, 3) := by decide +kernel
theorem dL_law__2548 : decode code 2548 = .ok (.iconst 0, 1) := by decide +kernel
theorem dL_law__2549 : decode code 2549 = .ok (.ireturn, 1) := by decide +kernel
theorem dL_law__2550 : decode code 2550 = .ok (.goto 816, 3) := by decide +kernel
theorem case_34 {INV INV' : Mm → Prop} {g : Gw} {p : Program} {e : Env} {s : State} {m : MethodId} {below : List Frame} {meth : Method} {c : Code} {b L : Nat} {xs : Nat → Int32} (hL : L ≤ 3072) (hG : GF g) (X : CX g (KL p e s m below meth c b) code R_law 8) (S : SCR g (KL p e s m below meth c b) b L xs) {fr lo mc ms fr2 lo2 : Nat} (M : Mm → Int → Int → Nat → Int → Mm → Prop) (hX : ∀ (E : Mm) (x0 x1 : Int), INV E → CTX g yX11_row cX11_row 9 (some .int) fr lo mc ms K2 false [mR 0, mI x0, mI x1] (ov E) K2 false (fun r D' => ∃ (v : Int) (E1 : Mm), r = some (mI v) ∧ D' = ov E1 ∧ M E x0 x1 0 v E1) (fun X D' => ∃ (c : Nat) (E1 : Mm), ((c = 1 ∧ X = "java/lang/IllegalArgumentException")) ∧ D' = ov E1 ∧ M E x0 x1 c 0 E1)) (hM : ∀ (E : Mm) (x0 x1 : Int) (c : Nat) (v : Int) (E1 : Mm), INV E → M E x0 x1 c v E1 → CT g yX12_row cX12_row 7 (some .int) fr2 lo2 0 0 K2 false [mR 125, mI x0, mI x1] (ov (if c = 0 then wr E1 813 0 v else E1)) K2 false (fun r D' => ∃ (bb : Int) (E2 : Mm), r = some (mI bb) ∧ D' = ov E2 ∧ INV' E2 ∧ E2 125 0 = (c : Int) ∧ (c = 0 → E2 813 0 = bb))) (hr1 : fr + 2 ≤ room_1.frames ∧ 8 + (5 + 11) + (lo + 28) ≤ room_1.locals) (hr2 : fr2 + 1 ≤ room_1.frames ∧ 8 + (7 + 11) + lo2 ≤ room_1.locals) (hmc : mc ≤ 10) (hms : ms ≤ 100) (E : Mm) (n cells slots : Nat) (hE : INV E) (hn : n + 6 ≤ L) (hc : cells + 10 ≤ 601024) (hs : slots + 100 ≤ 7293034) (hend : ∀ E' : Mm, INV' E' → AT g (KL p e s m below meth c b) K2 false (cells + 10) (slots + 100) 3366 (lawL b n) [] (ov E')) : AT g (KL p e s m below meth c b) K2 false cells slots 2485 (lawL b n) [] (ov E) := by
  refine at_aload_n 2486 X rfl rfl dL_law__2485 rfl ?_
  refine at_xload_n 2487 X rfl rfl dL_law__2486 rfl ?_
  refine at_iload 2489 X rfl dL_law__2487 rfl ?_
  refine at_iconst 2490 X (by decide) dL_law__2489 rfl ?_
  refine at_iadd 2491 X dL_law__2490 rfl ?_
  rw [w32_id (by omega) (by omega)]
  refine at_xint 2492 X S (by omega) (by omega) dL_law__2491 rfl ?_
  refine at_xload_n 2493 X rfl rfl dL_law__2492 rfl ?_
  refine at_iload 2495 X rfl dL_law__2493 rfl ?_
  refine at_iconst 2496 X (by decide) dL_law__2495 rfl ?_
  refine at_iadd 2497 X dL_law__2496 rfl ?_
  rw [w32_id (by omega) (by omega)]
  refine at_xint 2498 X S (by omega) (by omega) dL_law__2497 rfl ?_
  refine at_aload_n 2499 X rfl rfl dL_law__2498 rfl ?_
  refine at_callSH (n := 4) 2502 X (lh_row hG E _ _ (M E _ _) (hX E _ _ hE)) w_1634 w_120 rfl (by decide +kernel) w_1632 w_1633 rfl rfl (crl ⟨by omega, by omega⟩ (by omega) (by omega)) (Nat.le_of_ble_eq_true rfl) dL_law__2499 rfl ?_
  rintro _ _ ⟨cc, v, E1, rfl, hM1, rfl⟩
  refine at_istore 2504 X dL_law__2502 rfl (by decide) ?_
  refine at_aload_n 2505 X rfl rfl dL_law__2504 rfl ?_
  refine at_xload_n 2506 X rfl rfl dL_law__2505 rfl ?_
  refine at_iload 2508 X rfl dL_law__2506 rfl ?_
  refine at_iconst 2509 X (by decide) dL_law__2508 rfl ?_
  refine at_iadd 2510 X dL_law__2509 rfl ?_
  rw [w32_id (by omega) (by omega)]
  refine at_xint 2511 X S (by omega) (by omega) dL_law__2510 rfl ?_
  refine at_xload_n 2512 X rfl rfl dL_law__2511 rfl ?_
  refine at_iload 2514 X rfl dL_law__2512 rfl ?_
  refine at_iconst 2515 X (by decide) dL_law__2514 rfl ?_
  refine at_iadd 2516 X dL_law__2515 rfl ?_
  rw [w32_id (by omega) (by omega)]
  refine at_xint 2517 X S (by omega) (by omega) dL_law__2516 rfl ?_
  refine at_callV 2520 X _ 12 (hM E _ _ _ _ _ hE hM1) clX12 rfl k_125 mo_X12_row w_2370 vo_X12_row.1 vo_X12_row.2 rfl rfl (crl ⟨by omega, by omega⟩ (by omega) (by omega)) (Nat.le_of_ble_eq_true rfl) dL_law__2517 rfl ?_
  rintro _ _ ⟨bb, E2, rfl, rfl, hE2, hth, hbb⟩
  refine at_istore 2522 X dL_law__2520 rfl (by decide) ?_
  refine at_aload_n 2523 X rfl rfl dL_law__2522 rfl ?_
  refine at_callV 2526 X _ 12 (ct_X12_thrown hG E2) clX12 rfl k_125 mo_X12_thrown w_1945 vo_X12_thrown.1 vo_X12_thrown.2 rfl rfl (crl ⟨Nat.le_of_ble_eq_true rfl, Nat.le_of_ble_eq_true rfl⟩ (by omega) (by omega)) (Nat.le_of_ble_eq_true rfl) dL_law__2523 rfl ?_
  rintro _ _ ⟨rfl, rfl⟩
  rw [hth]
  refine at_iload 2528 X rfl dL_law__2526 rfl ?_
  refine at_icmp_eq 2531 2533 X dL_law__2528 rfl (by decide) (fun _ => ?_) (fun h => absurd rfl h)
  refine at_iload 2535 X rfl dL_law__2533 rfl ?_
  refine at_if_ne 2538 2550 X dL_law__2535 rfl (by decide) (fun h => ?_) (fun h => ?_)
  · refine at_goto 3366 X dL_law__2550 (by decide) ?_
    exact at_sub _ (by exact ⟨rfl, rfl, rfl, rfl, rfl, trivial⟩) (at_widen (by omega) (by omega) (hend E2 hE2))
  · have hc0 : cc = 0 := by omega
    have hbb := hbb hc0
    refine at_aload_n 2539 X rfl rfl dL_law__2538 rfl ?_
    refine at_iconst 2540 X (by decide) dL_law__2539 rfl ?_
    refine m_laload 2541 X k_813 e_813 (by decide) (by decide) dL_law__2540 rfl ?_
    refine at_iload 2543 X rfl dL_law__2541 rfl ?_
    refine at_i2l 2544 X dL_law__2543 rfl ?_
    refine at_lcmp 2545 X dL_law__2544 rfl ?_
    refine at_if_eq 2548 2550 X dL_law__2545 rfl (by decide) (fun _ => ?_) (fun h => absurd (lcmp_eq (by first | exact hbb | (rw [show (0 : Int).toNat = 0 from rfl, hbb]; omega))) h)
    refine at_goto 3366 X dL_law__2550 (by decide) ?_
    exact at_sub _ (by exact ⟨rfl, rfl, rfl, rfl, rfl, trivial⟩) (at_widen (by omega) (by omega) (hend E2 hE2))
theorem dL_law__2553 : decode code 2553 = .ok (.aload_n 1, 1) := by decide +kernel
theorem dL_law__2554 : decode code 2554 = .ok (.aload_n 0, 1) := by decide +kernel
theorem dL_law__2555 : decode code 2555 = .ok (.iload 4, 2) := by decide +kernel
theorem dL_law__2557 : decode code 2557 = .ok (.iconst 1, 1) := by decide +kernel
theorem dL_law__2558 : decode code 2558 = .ok (.iadd, 1) := by decide +kernel
theorem dL_law__2559 : decode code 2559 = .ok (.iaload, 1) := by decide +kernel
theorem dL_law__2560 : decode code 2560 = .ok (.aload_n 3, 1) := by decide +kernel
theorem dL_law__2561 : decode code 2561 = .ok (.invokestatic 271, 3) := by decide +kernel
theorem dL_law__2564 : decode code 2564 = .ok (.istore 5, 2) := by decide +kernel
theorem dL_law__2566 : decode code 2566 = .ok (.aload_n 2, 1) := by decide +kernel
theorem dL_law__2567 : decode code 2567 = .ok (.aload_n 0, 1) := by decide +kernel
theorem dL_law__2568 : decode code 2568 = .ok (.iload 4, 2) := by decide +kernel
theorem dL_law__2570 : decode code 2570 = .ok (.iconst 1, 1) := by decide +kernel
theorem dL_law__2571 : decode code 2571 = .ok (.iadd, 1) := by decide +kernel
theorem dL_law__2572 : decode code 2572 = .ok (.iaload, 1) := by decide +kernel
theorem dL_law__2573 : decode code 2573 = .ok (.invokevirtual 273, 3) := by decide +kernel
theorem dL_law__2576 : decode code 2576 = .ok (.istore 6, 2) := by decide +kernel
theorem dL_law__2578 : decode code 2578 = .ok (.aload_n 2, 1) := by decide +kernel
theorem dL_law__2579 : decode code 2579 = .ok (.invokevirtual 160, 3) := by decide +kernel
theorem dL_law__2582 : decode code 2582 = .ok (.iload 5, 2) := by decide +kernel
theorem dL_law__2584 : decode code 2584 = .ok (.if_icmp .eq 5, 3) := by decide +kernel
theorem dL_law__2587 : decode code 2587 = .ok (.iconst 0, 1) := by decide +kernel
theorem dL_law__2588 : decode code 2588 = .ok (.ireturn, 1) := by decide +kernel
theorem dL_law__2589 : decode code 2589 = .ok (.iload 5, 2) := by decide +kernel
theorem dL_law__2591 : decode code 2591 = .ok (.ifCond .ne 15, 3) := by decide +kernel
theorem dL_law__2594 : decode code 2594 = .ok (.aload_n 3, 1) := by decide +kernel
theorem dL_law__2595 : decode code 2595 = .ok (.iconst 0, 1) := by decide +kernel
theorem dL_law__2596 : decode code 2596 = .ok (.laload, 1) := by decide +kernel
theorem dL_law__2597 : decode code 2597 = .ok (.iload 6, 2) := by decide +kernel
theorem dL_law__2599 : decode code 2599 = .ok (.i2l, 1) := by decide +kernel
theorem dL_law__2600 : decode code 2600 = .ok (.lcmp, 1) := by decide +kernel
theorem dL_law__2601 : decode code 2601 = .ok (.ifCond .eq 5, 3) := by decide +kernel
theorem dL_law__2604 : decode code 2604 = .ok (.iconst 0, 1) := by decide +kernel
theorem dL_law__2605 : decode code 2605 = .ok (.ireturn, 1) := by decide +kernel
theorem dL_law__2606 : decode code 2606 = .ok (.goto 760, 3) := by decide +kernel
theorem case_35 {INV INV' : Mm → Prop} {g : Gw} {p : Program} {e : Env} {s : State} {m : MethodId} {below : List Frame} {meth : Method} {c : Code} {b L : Nat} {xs : Nat → Int32} (hL : L ≤ 3072) (hG : GF g) (X : CX g (KL p e s m below meth c b) code R_law 8) (S : SCR g (KL p e s m below meth c b) b L xs) {fr lo mc ms fr2 lo2 : Nat} (M : Mm → Int → Nat → Int → Mm → Prop) (hX : ∀ (E : Mm) (x0 : Int), INV E → CTX g yX11_best cX11_best 6 (some .int) fr lo mc ms K2 false [mR 0, mI x0] (ov E) K2 false (fun r D' => ∃ (v : Int) (E1 : Mm), r = some (mI v) ∧ D' = ov E1 ∧ M E x0 0 v E1) (fun X D' => ∃ (c : Nat) (E1 : Mm), ((c = 1 ∧ X = "java/util/NoSuchElementException")) ∧ D' = ov E1 ∧ M E x0 c 0 E1)) (hM : ∀ (E : Mm) (x0 : Int) (c : Nat) (v : Int) (E1 : Mm), INV E → M E x0 c v E1 → CT g yX12_best cX12_best 4 (some .int) fr2 lo2 0 0 K2 false [mR 125, mI x0] (ov (if c = 0 then wr E1 813 0 v else E1)) K2 false (fun r D' => ∃ (bb : Int) (E2 : Mm), r = some (mI bb) ∧ D' = ov E2 ∧ INV' E2 ∧ E2 125 0 = (c : Int) ∧ (c = 0 → E2 813 0 = bb))) (hr1 : fr + 2 ≤ room_1.frames ∧ 8 + (4 + 11) + (lo + 25) ≤ room_1.locals) (hr2 : fr2 + 1 ≤ room_1.frames ∧ 8 + (4 + 11) + lo2 ≤ room_1.locals) (hmc : mc ≤ 10) (hms : ms ≤ 100) (E : Mm) (n cells slots : Nat) (hE : INV E) (hn : n + 6 ≤ L) (hc : cells + 10 ≤ 601024) (hs : slots + 100 ≤ 7293034) (hend : ∀ E' : Mm, INV' E' → AT g (KL p e s m below meth c b) K2 false (cells + 10) (slots + 100) 3366 (lawL b n) [] (ov E')) : AT g (KL p e s m below meth c b) K2 false cells slots 2553 (lawL b n) [] (ov E) := by
  refine at_aload_n 2554 X rfl rfl dL_law__2553 rfl ?_
  refine at_xload_n 2555 X rfl rfl dL_law__2554 rfl ?_
  refine at_iload 2557 X rfl dL_law__2555 rfl ?_
  refine at_iconst 2558 X (by decide) dL_law__2557 rfl ?_
  refine at_iadd 2559 X dL_law__2558 rfl ?_
  rw [w32_id (by omega) (by omega)]
  refine at_xint 2560 X S (by omega) (by omega) dL_law__2559 rfl ?_
  refine at_aload_n 2561 X rfl rfl dL_law__2560 rfl ?_
  refine at_callSH (n := 3) 2564 X (lh_best hG E _ (M E _) (hX E _ hE)) w_1641 w_120 rfl (by decide +kernel) w_1639 w_1640 rfl rfl (crl ⟨by omega, by omega⟩ (by omega) (by omega)) (Nat.le_of_ble_eq_true rfl) dL_law__2561 rfl ?_
  rintro _ _ ⟨cc, v, E1, rfl, hM1, rfl⟩
  refine at_istore 2566 X dL_law__2564 rfl (by decide) ?_
  refine at_aload_n 2567 X rfl rfl dL_law__2566 rfl ?_
  refine at_xload_n 2568 X rfl rfl dL_law__2567 rfl ?_
  refine at_iload 2570 X rfl dL_law__2568 rfl ?_
  refine at_iconst 2571 X (by decide) dL_law__2570 rfl ?_
  refine at_iadd 2572 X dL_law__2571 rfl ?_
  rw [w32_id (by omega) (by omega)]
  refine at_xint 2573 X S (by omega) (by omega) dL_law__2572 rfl ?_
  refine at_callV 2576 X _ 12 (hM E _ _ _ _ hE hM1) clX12 rfl k_125 mo_X12_best w_2374 vo_X12_best.1 vo_X12_best.2 rfl rfl (crl ⟨by omega, by omega⟩ (by omega) (by omega)) (Nat.le_of_ble_eq_true rfl) dL_law__2573 rfl ?_
  rintro _ _ ⟨bb, E2, rfl, rfl, hE2, hth, hbb⟩
  refine at_istore 2578 X dL_law__2576 rfl (by decide) ?_
  refine at_aload_n 2579 X rfl rfl dL_law__2578 rfl ?_
  refine at_callV 2582 X _ 12 (ct_X12_thrown hG E2) clX12 rfl k_125 mo_X12_thrown w_1945 vo_X12_thrown.1 vo_X12_thrown.2 rfl rfl (crl ⟨Nat.le_of_ble_eq_true rfl, Nat.le_of_ble_eq_true rfl⟩ (by omega) (by omega)) (Nat.le_of_ble_eq_true rfl) dL_law__2579 rfl ?_
  rintro _ _ ⟨rfl, rfl⟩
  rw [hth]
  refine at_iload 2584 X rfl dL_law__2582 rfl ?_
  refine at_icmp_eq 2587 2589 X dL_law__2584 rfl (by decide) (fun _ => ?_) (fun h => absurd rfl h)
  refine at_iload 2591 X rfl dL_law__2589 rfl ?_
  refine at_if_ne 2594 2606 X dL_law__2591 rfl (by decide) (fun h => ?_) (fun h => ?_)
  · refine at_goto 3366 X dL_law__2606 (by decide) ?_
    exact at_sub _ (by exact ⟨rfl, rfl, rfl, rfl, rfl, trivial⟩) (at_widen (by omega) (by omega) (hend E2 hE2))
  · have hc0 : cc = 0 := by omega
    have hbb := hbb hc0
    refine at_aload_n 2595 X rfl rfl dL_law__2594 rfl ?_
    refine at_iconst 2596 X (by decide) dL_law__2595 rfl ?_
    refine m_laload 2597 X k_813 e_813 (by decide) (by decide) dL_law__2596 rfl ?_
    refine at_iload 2599 X rfl dL_law__2597 rfl ?_
    refine at_i2l 2600 X dL_law__2599 rfl ?_
    refine at_lcmp 2601 X dL_law__2600 rfl ?_
    refine at_if_eq 2604 2606 X dL_law__2601 rfl (by decide) (fun _ => ?_) (fun h => absurd (lcmp_eq (by first | exact hbb | (rw [show (0 : Int).toNat = 0 from rfl, hbb]; omega))) h)
    refine at_goto 3366 X dL_law__2606 (by decide) ?_
    exact at_sub _ (by exact ⟨rfl, rfl, rfl, rfl, rfl, trivial⟩) (at_widen (by omega) (by omega) (hend E2 hE2))
theorem dL_law__2609 : decode code 2609 = .ok (.aload_n 1, 1) := by decide +kernel
theorem dL_law__2610 : decode code 2610 = .ok (.aload_n 0, 1) := by decide +kernel
theorem dL_law__2611 : decode code 2611 = .ok (.iload 4, 2) := by decide +kernel
theorem dL_law__2613 : decode code 2613 = .ok (.iconst 1, 1) := by decide +kernel
theorem dL_law__2614 : decode code 2614 = .ok (.iadd, 1) := by decide +kernel
theorem dL_law__2615 : decode code 2615 = .ok (.iaload, 1) := by decide +kernel
theorem dL_law__2616 : decode code 2616 = .ok (.aload_n 3, 1) := by decide +kernel
theorem dL_law__2617 : decode code 2617 = .ok (.invokestatic 274, 3) := by decide +kernel
theorem dL_law__2620 : decode code 2620 = .ok (.istore 5, 2) := by decide +kernel
theorem dL_law__2622 : decode code 2622 = .ok (.aload_n 2, 1) := by decide +kernel
theorem dL_law__2623 : decode code 2623 = .ok (.aload_n 0, 1) := by decide +kernel
theorem dL_law__2624 : decode code 2624 = .ok (.iload 4, 2) := by decide +kernel
theorem dL_law__2626 : decode code 2626 = .ok (.iconst 1, 1) := by decide +kernel
theorem dL_law__2627 : decode code 2627 = .ok (.iadd, 1) := by decide +kernel
theorem dL_law__2628 : decode code 2628 = .ok (.iaload, 1) := by decide +kernel
theorem dL_law__2629 : decode code 2629 = .ok (.invokevirtual 276, 3) := by decide +kernel
theorem dL_law__2632 : decode code 2632 = .ok (.istore 6, 2) := by decide +kernel
theorem dL_law__2634 : decode code 2634 = .ok (.aload_n 2, 1) := by decide +kernel
theorem dL_law__2635 : decode code 2635 = .ok (.invokevirtual 160, 3) := by decide +kernel
theorem dL_law__2638 : decode code 2638 = .ok (.iload 5, 2) := by decide +kernel
theorem dL_law__2640 : decode code 2640 = .ok (.if_icmp .eq 5, 3) := by decide +kernel
theorem dL_law__2643 : decode code 2643 = .ok (.iconst 0, 1) := by decide +kernel
theorem dL_law__2644 : decode code 2644 = .ok (.ireturn, 1) := by decide +kernel
theorem dL_law__2645 : decode code 2645 = .ok (.iload 5, 2) := by decide +kernel
theorem dL_law__2647 : decode code 2647 = .ok (.ifCond .ne 15, 3) := by decide +kernel
theorem dL_law__2650 : decode code 2650 = .ok (.aload_n 3, 1) := by decide +kernel
theorem dL_law__2651 : decode code 2651 = .ok (.iconst 0, 1) := by decide +kernel
theorem dL_law__2652 : decode code 2652 = .ok (.laload, 1) := by decide +kernel
theorem dL_law__2653 : decode code 2653 = .ok (.iload 6, 2) := by decide +kernel
theorem dL_law__2655 : decode code 2655 = .ok (.i2l, 1) := by decide +kernel
theorem dL_law__2656 : decode code 2656 = .ok (.lcmp, 1) := by decide +kernel
theorem dL_law__2657 : decode code 2657 = .ok (.ifCond .eq 5, 3) := by decide +kernel
theorem dL_law__2660 : decode code 2660 = .ok (.iconst 0, 1) := by decide +kernel
theorem dL_law__2661 : decode code 2661 = .ok (.ireturn, 1) := by decide +kernel
theorem dL_law__2662 : decode code 2662 = .ok (.goto 704, 3) := by decide +kernel
theorem case_36 {INV INV' : Mm → Prop} {g : Gw} {p : Program} {e : Env} {s : State} {m : MethodId} {below : List Frame} {meth : Method} {c : Code} {b L : Nat} {xs : Nat → Int32} (hL : L ≤ 3072) (hG : GF g) (X : CX g (KL p e s m below meth c b) code R_law 8) (S : SCR g (KL p e s m below meth c b) b L xs) {fr lo mc ms fr2 lo2 : Nat} (M : Mm → Int → Nat → Int → Mm → Prop) (hX : ∀ (E : Mm) (x0 : Int), INV E → CTX g yX11_held cX11_held 4 (some .int) fr lo mc ms K2 false [mR 0, mI x0] (ov E) K2 false (fun r D' => ∃ (v : Int) (E1 : Mm), r = some (mI v) ∧ D' = ov E1 ∧ M E x0 0 v E1) (fun X D' => ∃ (c : Nat) (E1 : Mm), ((c = 1 ∧ X = "java/util/NoSuchElementException")) ∧ D' = ov E1 ∧ M E x0 c 0 E1)) (hM : ∀ (E : Mm) (x0 : Int) (c : Nat) (v : Int) (E1 : Mm), INV E → M E x0 c v E1 → CT g yX12_held cX12_held 4 (some .int) fr2 lo2 0 0 K2 false [mR 125, mI x0] (ov (if c = 0 then wr E1 813 0 v else E1)) K2 false (fun r D' => ∃ (bb : Int) (E2 : Mm), r = some (mI bb) ∧ D' = ov E2 ∧ INV' E2 ∧ E2 125 0 = (c : Int) ∧ (c = 0 → E2 813 0 = bb))) (hr1 : fr + 2 ≤ room_1.frames ∧ 8 + (4 + 11) + (lo + 23) ≤ room_1.locals) (hr2 : fr2 + 1 ≤ room_1.frames ∧ 8 + (4 + 11) + lo2 ≤ room_1.locals) (hmc : mc ≤ 10) (hms : ms ≤ 100) (E : Mm) (n cells slots : Nat) (hE : INV E) (hn : n + 6 ≤ L) (hc : cells + 10 ≤ 601024) (hs : slots + 100 ≤ 7293034) (hend : ∀ E' : Mm, INV' E' → AT g (KL p e s m below meth c b) K2 false (cells + 10) (slots + 100) 3366 (lawL b n) [] (ov E')) : AT g (KL p e s m below meth c b) K2 false cells slots 2609 (lawL b n) [] (ov E) := by
  refine at_aload_n 2610 X rfl rfl dL_law__2609 rfl ?_
  refine at_xload_n 2611 X rfl rfl dL_law__2610 rfl ?_
  refine at_iload 2613 X rfl dL_law__2611 rfl ?_
  refine at_iconst 2614 X (by decide) dL_law__2613 rfl ?_
  refine at_iadd 2615 X dL_law__2614 rfl ?_
  rw [w32_id (by omega) (by omega)]
  refine at_xint 2616 X S (by omega) (by omega) dL_law__2615 rfl ?_
  refine at_aload_n 2617 X rfl rfl dL_law__2616 rfl ?_
  refine at_callSH (n := 3) 2620 X (lh_held hG E _ (M E _) (hX E _ hE)) w_1648 w_120 rfl (by decide +kernel) w_1646 w_1647 rfl rfl (crl ⟨by omega, by omega⟩ (by omega) (by omega)) (Nat.le_of_ble_eq_true rfl) dL_law__2617 rfl ?_
  rintro _ _ ⟨cc, v, E1, rfl, hM1, rfl⟩
  refine at_istore 2622 X dL_law__2620 rfl (by decide) ?_
  refine at_aload_n 2623 X rfl rfl dL_law__2622 rfl ?_
  refine at_xload_n 2624 X rfl rfl dL_law__2623 rfl ?_
  refine at_iload 2626 X rfl dL_law__2624 rfl ?_
  refine at_iconst 2627 X (by decide) dL_law__2626 rfl ?_
  refine at_iadd 2628 X dL_law__2627 rfl ?_
  rw [w32_id (by omega) (by omega)]
  refine at_xint 2629 X S (by omega) (by omega) dL_law__2628 rfl ?_
  refine at_callV 2632 X _ 12 (hM E _ _ _ _ hE hM1) clX12 rfl k_125 mo_X12_held w_2378 vo_X12_held.1 vo_X12_held.2 rfl rfl (crl ⟨by omega, by omega⟩ (by omega) (by omega)) (Nat.le_of_ble_eq_true rfl) dL_law__2629 rfl ?_
  rintro _ _ ⟨bb, E2, rfl, rfl, hE2, hth, hbb⟩
  refine at_istore 2634 X dL_law__2632 rfl (by decide) ?_
  refine at_aload_n 2635 X rfl rfl dL_law__2634 rfl ?_
  refine at_callV 2638 X _ 12 (ct_X12_thrown hG E2) clX12 rfl k_125 mo_X12_thrown w_1945 vo_X12_thrown.1 vo_X12_thrown.2 rfl rfl (crl ⟨Nat.le_of_ble_eq_true rfl, Nat.le_of_ble_eq_true rfl⟩ (by omega) (by omega)) (Nat.le_of_ble_eq_true rfl) dL_law__2635 rfl ?_
  rintro _ _ ⟨rfl, rfl⟩
  rw [hth]
  refine at_iload 2640 X rfl dL_law__2638 rfl ?_
  refine at_icmp_eq 2643 2645 X dL_law__2640 rfl (by decide) (fun _ => ?_) (fun h => absurd rfl h)
  refine at_iload 2647 X rfl dL_law__2645 rfl ?_
  refine at_if_ne 2650 2662 X dL_law__2647 rfl (by decide) (fun h => ?_) (fun h => ?_)
  · refine at_goto 3366 X dL_law__2662 (by decide) ?_
    exact at_sub _ (by exact ⟨rfl, rfl, rfl, rfl, rfl, trivial⟩) (at_widen (by omega) (by omega) (hend E2 hE2))
  · have hc0 : cc = 0 := by omega
    have hbb := hbb hc0
    refine at_aload_n 2651 X rfl rfl dL_law__2650 rfl ?_
    refine at_iconst 2652 X (by decide) dL_law__2651 rfl ?_
    refine m_laload 2653 X k_813 e_813 (by decide) (by decide) dL_law__2652 rfl ?_
    refine at_iload 2655 X rfl dL_law__2653 rfl ?_
    refine at_i2l 2656 X dL_law__2655 rfl ?_
    refine at_lcmp 2657 X dL_law__2656 rfl ?_
    refine at_if_eq 2660 2662 X dL_law__2657 rfl (by decide) (fun _ => ?_) (fun h => absurd (lcmp_eq (by first | exact hbb | (rw [show (0 : Int).toNat = 0 from rfl, hbb]; omega))) h)
    refine at_goto 3366 X dL_law__2662 (by decide) ?_
    exact at_sub _ (by exact ⟨rfl, rfl, rfl, rfl, rfl, trivial⟩) (at_widen (by omega) (by omega) (hend E2 hE2))
theorem dL_law__2665 : decode code 2665 = .ok (.aload_n 1, 1) := by decide +kernel
theorem dL_law__2666 : decode code 2666 = .ok (.aload_n 0, 1) := by decide +kernel
theorem dL_law__2667 : decode code 2667 = .ok (.iload 4, 2) := by decide +kernel
theorem dL_law__2669 : decode code 2669 = .ok (.iconst 1, 1) := by decide +kernel
theorem dL_law__2670 : decode code 2670 = .ok (.iadd, 1) := by decide +kernel
theorem dL_law__2671 : decode code 2671 = .ok (.iaload, 1) := by decide +kernel
theorem dL_law__2672 : decode code 2672 = .ok (.aload_n 3, 1) := by decide +kernel
theorem dL_law__2673 : decode code 2673 = .ok (.invokestatic 277, 3) := by decide +kernel
theorem dL_law__2676 : decode code 2676 = .ok (.istore 5, 2) := by decide +kernel
theorem dL_law__2678 : decode code 2678 = .ok (.aload_n 2, 1) := by decide +kernel
theorem dL_law__2679 : decode code 2679 = .ok (.aload_n 0, 1) := by decide +kernel
theorem dL_law__2680 : decode code 2680 = .ok (.iload 4, 2) := by decide +kernel
theorem dL_law__2682 : decode code 2682 = .ok (.iconst 1, 1) := by decide +kernel
theorem dL_law__2683 : decode code 2683 = .ok (.iadd, 1) := by decide +kernel
theorem dL_law__2684 : decode code 2684 = .ok (.iaload, 1) := by decide +kernel
theorem dL_law__2685 : decode code 2685 = .ok (.invokevirtual 279, 3) := by decide +kernel
theorem dL_law__2688 : decode code 2688 = .ok (.istore 6, 2) := by decide +kernel
theorem dL_law__2690 : decode code 2690 = .ok (.aload_n 2, 1) := by decide +kernel
theorem dL_law__2691 : decode code 2691 = .ok (.invokevirtual 160, 3) := by decide +kernel
theorem dL_law__2694 : decode code 2694 = .ok (.iload 5, 2) := by decide +kernel
theorem dL_law__2696 : decode code 2696 = .ok (.if_icmp .eq 5, 3) := by decide +kernel
theorem dL_law__2699 : decode code 2699 = .ok (.iconst 0, 1) := by decide +kernel
theorem dL_law__2700 : decode code 2700 = .ok (.ireturn, 1) := by decide +kernel
theorem dL_law__2701 : decode code 2701 = .ok (.iload 5, 2) := by decide +kernel
theorem dL_law__2703 : decode code 2703 = .ok (.ifCond .ne 15, 3) := by decide +kernel
theorem dL_law__2706 : decode code 2706 = .ok (.aload_n 3, 1) := by decide +kernel
theorem dL_law__2707 : decode code 2707 = .ok (.iconst 0, 1) := by decide +kernel
theorem dL_law__2708 : decode code 2708 = .ok (.laload, 1) := by decide +kernel
theorem dL_law__2709 : decode code 2709 = .ok (.iload 6, 2) := by decide +kernel
theorem dL_law__2711 : decode code 2711 = .ok (.i2l, 1) := by decide +kernel
theorem dL_law__2712 : decode code 2712 = .ok (.lcmp, 1) := by decide +kernel
theorem dL_law__2713 : decode code 2713 = .ok (.ifCond .eq 5, 3) := by decide +kernel
theorem dL_law__2716 : decode code 2716 = .ok (.iconst 0, 1) := by decide +kernel
theorem dL_law__2717 : decode code 2717 = .ok (.ireturn, 1) := by decide +kernel
theorem dL_law__2718 : decode code 2718 = .ok (.goto 648, 3) := by decide +kernel
theorem case_37 {INV INV' : Mm → Prop} {g : Gw} {p : Program} {e : Env} {s : State} {m : MethodId} {below : List Frame} {meth : Method} {c : Code} {b L : Nat} {xs : Nat → Int32} (hL : L ≤ 3072) (hG : GF g) (X : CX g (KL p e s m below meth c b) code R_law 8) (S : SCR g (KL p e s m below meth c b) b L xs) {fr lo mc ms fr2 lo2 : Nat} (M : Mm → Int → Nat → Int → Mm → Prop) (hX : ∀ (E : Mm) (x0 : Int), INV E → CTX g yX11_share cX11_share 5 (some .int) fr lo mc ms K2 false [mR 0, mI x0] (ov E) K2 false (fun r D' => ∃ (v : Int) (E1 : Mm), r = some (mI v) ∧ D' = ov E1 ∧ M E x0 0 v E1) (fun X D' => ∃ (c : Nat) (E1 : Mm), ((c = 1 ∧ X = "java/util/NoSuchElementException")) ∧ D' = ov E1 ∧ M E x0 c 0 E1)) (hM : ∀ (E : Mm) (x0 : Int) (c : Nat) (v : Int) (E1 : Mm), INV E → M E x0 c v E1 → CT g yX12_share cX12_share 5 (some .int) fr2 lo2 0 0 K2 false [mR 125, mI x0] (ov (if c = 0 then wr E1 813 0 v else E1)) K2 false (fun r D' => ∃ (bb : Int) (E2 : Mm), r = some (mI bb) ∧ D' = ov E2 ∧ INV' E2 ∧ E2 125 0 = (c : Int) ∧ (c = 0 → E2 813 0 = bb))) (hr1 : fr + 2 ≤ room_1.frames ∧ 8 + (4 + 11) + (lo + 24) ≤ room_1.locals) (hr2 : fr2 + 1 ≤ room_1.frames ∧ 8 + (5 + 11) + lo2 ≤ room_1.locals) (hmc : mc ≤ 10) (hms : ms ≤ 100) (E : Mm) (n cells slots : Nat) (hE : INV E) (hn : n + 6 ≤ L) (hc : cells + 10 ≤ 601024) (hs : slots + 100 ≤ 7293034) (hend : ∀ E' : Mm, INV' E' → AT g (KL p e s m below meth c b) K2 false (cells + 10) (slots + 100) 3366 (lawL b n) [] (ov E')) : AT g (KL p e s m below meth c b) K2 false cells slots 2665 (lawL b n) [] (ov E) := by
  refine at_aload_n 2666 X rfl rfl dL_law__2665 rfl ?_
  refine at_xload_n 2667 X rfl rfl dL_law__2666 rfl ?_
  refine at_iload 2669 X rfl dL_law__2667 rfl ?_
  refine at_iconst 2670 X (by decide) dL_law__2669 rfl ?_
  refine at_iadd 2671 X dL_law__2670 rfl ?_
  rw [w32_id (by omega) (by omega)]
  refine at_xint 2672 X S (by omega) (by omega) dL_law__2671 rfl ?_
  refine at_aload_n 2673 X rfl rfl dL_law__2672 rfl ?_
  refine at_callSH (n := 3) 2676 X (lh_share hG E _ (M E _) (hX E _ hE)) w_1655 w_120 rfl (by decide +kernel) w_1653 w_1654 rfl rfl (crl ⟨by omega, by omega⟩ (by omega) (by omega)) (Nat.le_of_ble_eq_true rfl) dL_law__2673 rfl ?_
  rintro _ _ ⟨cc, v, E1, rfl, hM1, rfl⟩
  refine at_istore 2678 X dL_law__2676 rfl (by decide) ?_
  refine at_aload_n 2679 X rfl rfl dL_law__2678 rfl ?_
  refine at_xload_n 2680 X rfl rfl dL_law__2679 rfl ?_
  refine at_iload 2682 X rfl dL_law__2680 rfl ?_
  refine at_iconst 2683 X (by decide) dL_law__2682 rfl ?_
  refine at_iadd 2684 X dL_law__2683 rfl ?_
  rw [w32_id (by omega) (by omega)]
  refine at_xint 2685 X S (by omega) (by omega) dL_law__2684 rfl ?_
  refine at_callV 2688 X _ 12 (hM E _ _ _ _ hE hM1) clX12 rfl k_125 mo_X12_share w_2382 vo_X12_share.1 vo_X12_share.2 rfl rfl (crl ⟨by omega, by omega⟩ (by omega) (by omega)) (Nat.le_of_ble_eq_true rfl) dL_law__2685 rfl ?_
  rintro _ _ ⟨bb, E2, rfl, rfl, hE2, hth, hbb⟩
  refine at_istore 2690 X dL_law__2688 rfl (by decide) ?_
  refine at_aload_n 2691 X rfl rfl dL_law__2690 rfl ?_
  refine at_callV 2694 X _ 12 (ct_X12_thrown hG E2) clX12 rfl k_125 mo_X12_thrown w_1945 vo_X12_thrown.1 vo_X12_thrown.2 rfl rfl (crl ⟨Nat.le_of_ble_eq_true rfl, Nat.le_of_ble_eq_true rfl⟩ (by omega) (by omega)) (Nat.le_of_ble_eq_true rfl) dL_law__2691 rfl ?_
  rintro _ _ ⟨rfl, rfl⟩
  rw [hth]
  refine at_iload 2696 X rfl dL_law__2694 rfl ?_
  refine at_icmp_eq 2699 2701 X dL_law__2696 rfl (by decide) (fun _ => ?_) (fun h => absurd rfl h)
  refine at_iload 2703 X rfl dL_law__2701 rfl ?_
  refine at_if_ne 2706 2718 X dL_law__2703 rfl (by decide) (fun h => ?_) (fun h => ?_)
  · refine at_goto 3366 X dL_law__2718 (by decide) ?_
    exact at_sub _ (by exact ⟨rfl, rfl, rfl, rfl, rfl, trivial⟩) (at_widen (by omega) (by omega) (hend E2 hE2))
  · have hc0 : cc = 0 := by omega
    have hbb := hbb hc0
    refine at_aload_n 2707 X rfl rfl dL_law__2706 rfl ?_
    refine at_iconst 2708 X (by decide) dL_law__2707 rfl ?_
    refine m_laload 2709 X k_813 e_813 (by decide) (by decide) dL_law__2708 rfl ?_
    refine at_iload 2711 X rfl dL_law__2709 rfl ?_
    refine at_i2l 2712 X dL_law__2711 rfl ?_
    refine at_lcmp 2713 X dL_law__2712 rfl ?_
    refine at_if_eq 2716 2718 X dL_law__2713 rfl (by decide) (fun _ => ?_) (fun h => absurd (lcmp_eq (by first | exact hbb | (rw [show (0 : Int).toNat = 0 from rfl, hbb]; omega))) h)
    refine at_goto 3366 X dL_law__2718 (by decide) ?_
    exact at_sub _ (by exact ⟨rfl, rfl, rfl, rfl, rfl, trivial⟩) (at_widen (by omega) (by omega) (hend E2 hE2))
theorem dL_law__2721 : decode code 2721 = .ok (.aload_n 1, 1) := by decide +kernel
theorem dL_law__2722 : decode code 2722 = .ok (.aload_n 0, 1) := by decide +kernel
theorem dL_law__2723 : decode code 2723 = .ok (.iload 4, 2) := by decide +kernel
theorem dL_law__2725 : decode code 2725 = .ok (.iconst 1, 1) := by decide +kernel
theorem dL_law__2726 : decode code 2726 = .ok (.iadd, 1) := by decide +kernel
theorem dL_law__2727 : decode code 2727 = .ok (.iaload, 1) := by decide +kernel
theorem dL_law__2728 : decode code 2728 = .ok (.aload_n 0, 1) := by decide +kernel
theorem dL_law__2729 : decode code 2729 = .ok (.iload 4, 2) := by decide +kernel
theorem dL_law__2731 : decode code 2731 = .ok (.iconst 2, 1) := by decide +kernel
theorem dL_law__2732 : decode code 2732 = .ok (.iadd, 1) := by decide +kernel
theorem dL_law__2733 : decode code 2733 = .ok (.iaload, 1) := by decide +kernel
theorem dL_law__2734 : decode code 2734 = .ok (.aload_n 3, 1) := by decide +kernel
theorem dL_law__2735 : decode code 2735 = .ok (.invokestatic 280, 3) := by decide +kernel
theorem dL_law__2738 : decode code 2738 = .ok (.istore 5, 2) := by decide +kernel
theorem dL_law__2740 : decode code 2740 = .ok (.aload_n 2, 1) := by decide +kernel
theorem dL_law__2741 : decode code 2741 = .ok (.aload_n 0, 1) := by decide +kernel
theorem dL_law__2742 : decode code 2742 = .ok (.iload 4, 2) := by decide +kernel
theorem dL_law__2744 : decode code 2744 = .ok (.iconst 1, 1) := by decide +kernel
theorem dL_law__2745 : decode code 2745 = .ok (.iadd, 1) := by decide +kernel
theorem dL_law__2746 : decode code 2746 = .ok (.iaload, 1) := by decide +kernel
theorem dL_law__2747 : decode code 2747 = .ok (.aload_n 0, 1) := by decide +kernel
theorem dL_law__2748 : decode code 2748 = .ok (.iload 4, 2) := by decide +kernel
theorem dL_law__2750 : decode code 2750 = .ok (.iconst 2, 1) := by decide +kernel
theorem dL_law__2751 : decode code 2751 = .ok (.iadd, 1) := by decide +kernel
theorem dL_law__2752 : decode code 2752 = .ok (.iaload, 1) := by decide +kernel
theorem dL_law__2753 : decode code 2753 = .ok (.invokevirtual 282, 3) := by decide +kernel
theorem dL_law__2756 : decode code 2756 = .ok (.istore 6, 2) := by decide +kernel
theorem dL_law__2758 : decode code 2758 = .ok (.aload_n 2, 1) := by decide +kernel
theorem dL_law__2759 : decode code 2759 = .ok (.invokevirtual 160, 3) := by decide +kernel
theorem dL_law__2762 : decode code 2762 = .ok (.iload 5, 2) := by decide +kernel
theorem dL_law__2764 : decode code 2764 = .ok (.if_icmp .eq 5, 3) := by decide +kernel
theorem dL_law__2767 : decode code 2767 = .ok (.iconst 0, 1) := by decide +kernel
theorem dL_law__2768 : decode code 2768 = .ok (.ireturn, 1) := by decide +kernel
theorem dL_law__2769 : decode code 2769 = .ok (.iload 5, 2) := by decide +kernel
theorem dL_law__2771 : decode code 2771 = .ok (.ifCond .ne 15, 3) := by decide +kernel
theorem dL_law__2774 : decode code 2774 = .ok (.aload_n 3, 1) := by decide +kernel
theorem dL_law__2775 : decode code 2775 = .ok (.iconst 0, 1) := by decide +kernel
theorem dL_law__2776 : decode code 2776 = .ok (.laload, 1) := by decide +kernel
theorem dL_law__2777 : decode code 2777 = .ok (.iload 6, 2) := by decide +kernel
theorem dL_law__2779 : decode code 2779 = .ok (.i2l, 1) := by decide +kernel
theorem dL_law__2780 : decode code 2780 = .ok (.lcmp, 1) := by decide +kernel
theorem dL_law__2781 : decode code 2781 = .ok (.ifCond .eq 5, 3) := by decide +kernel
theorem dL_law__2784 : decode code 2784 = .ok (.iconst 0, 1) := by decide +kernel
theorem dL_law__2785 : decode code 2785 = .ok (.ireturn, 1) := by decide +kernel
theorem dL_law__2786 : decode code 2786 = .ok (.goto 580, 3) := by decide +kernel
theorem case_38 {INV INV' : Mm → Prop} {g : Gw} {p : Program} {e : Env} {s : State} {m : MethodId} {below : List Frame} {meth : Method} {c : Code} {b L : Nat} {xs : Nat → Int32} (hL : L ≤ 3072) (hG : GF g) (X : CX g (KL p e s m below meth c b) code R_law 8) (S : SCR g (KL p e s m below meth c b) b L xs) {fr lo mc ms fr2 lo2 : Nat} (M : Mm → Int → Int → Nat → Int → Mm → Prop) (hX : ∀ (E : Mm) (x0 x1 : Int), INV E → CTX g yX11_summed cX11_summed 6 (some .int) fr lo mc ms K2 false [mR 0, mI x0, mI x1] (ov E) K2 false (fun r D' => ∃ (v : Int) (E1 : Mm), r = some (mI v) ∧ D' = ov E1 ∧ M E x0 x1 0 v E1) (fun X D' => ∃ (c : Nat) (E1 : Mm), ((c = 1 ∧ X = "java/lang/IllegalArgumentException")) ∧ D' = ov E1 ∧ M E x0 x1 c 0 E1)) (hM : ∀ (E : Mm) (x0 x1 : Int) (c : Nat) (v : Int) (E1 : Mm), INV E → M E x0 x1 c v E1 → CT g yX12_summed cX12_summed 6 (some .int) fr2 lo2 0 0 K2 false [mR 125, mI x0, mI x1] (ov (if c = 0 then wr E1 813 0 v else E1)) K2 false (fun r D' => ∃ (bb : Int) (E2 : Mm), r = some (mI bb) ∧ D' = ov E2 ∧ INV' E2 ∧ E2 125 0 = (c : Int) ∧ (c = 0 → E2 813 0 = bb))) (hr1 : fr + 2 ≤ room_1.frames ∧ 8 + (5 + 11) + (lo + 25) ≤ room_1.locals) (hr2 : fr2 + 1 ≤ room_1.frames ∧ 8 + (6 + 11) + lo2 ≤ room_1.locals) (hmc : mc ≤ 10) (hms : ms ≤ 100) (E : Mm) (n cells slots : Nat) (hE : INV E) (hn : n + 6 ≤ L) (hc : cells + 10 ≤ 601024) (hs : slots + 100 ≤ 7293034) (hend : ∀ E' : Mm, INV' E' → AT g (KL p e s m below meth c b) K2 false (cells + 10) (slots + 100) 3366 (lawL b n) [] (ov E')) : AT g (KL p e s m below meth c b) K2 false cells slots 2721 (lawL b n) [] (ov E) := by
  refine at_aload_n 2722 X rfl rfl dL_law__2721 rfl ?_
  refine at_xload_n 2723 X rfl rfl dL_law__2722 rfl ?_
  refine at_iload 2725 X rfl dL_law__2723 rfl ?_
  refine at_iconst 2726 X (by decide) dL_law__2725 rfl ?_
  refine at_iadd 2727 X dL_law__2726 rfl ?_
  rw [w32_id (by omega) (by omega)]
  refine at_xint 2728 X S (by omega) (by omega) dL_law__2727 rfl ?_
  refine at_xload_n 2729 X rfl rfl dL_law__2728 rfl ?_
  refine at_iload 2731 X rfl dL_law__2729 rfl ?_
  refine at_iconst 2732 X (by decide) dL_law__2731 rfl ?_
  refine at_iadd 2733 X dL_law__2732 rfl ?_
  rw [w32_id (by omega) (by omega)]
  refine at_xint 2734 X S (by omega) (by omega) dL_law__2733 rfl ?_
  refine at_aload_n 2735 X rfl rfl dL_law__2734 rfl ?_
  refine at_callSH (n := 4) 2738 X (lh_summed hG E _ _ (M E _ _) (hX E _ _ hE)) w_1662 w_120 rfl (by decide +kernel) w_1660 w_1661 rfl rfl (crl ⟨by omega, by omega⟩ (by omega) (by omega)) (Nat.le_of_ble_eq_true rfl) dL_law__2735 rfl ?_
  rintro _ _ ⟨cc, v, E1, rfl, hM1, rfl⟩
  refine at_istore 2740 X dL_law__2738 rfl (by decide) ?_
  refine at_aload_n 2741 X rfl rfl dL_law__2740 rfl ?_
  refine at_xload_n 2742 X rfl rfl dL_law__2741 rfl ?_
  refine at_iload 2744 X rfl dL_law__2742 rfl ?_
  refine at_iconst 2745 X (by decide) dL_law__2744 rfl ?_
  refine at_iadd 2746 X dL_law__2745 rfl ?_
  rw [w32_id (by omega) (by omega)]
  refine at_xint 2747 X S (by omega) (by omega) dL_law__2746 rfl ?_
  refine at_xload_n 2748 X rfl rfl dL_law__2747 rfl ?_
  refine at_iload 2750 X rfl dL_law__2748 rfl ?_
  refine at_iconst 2751 X (by decide) dL_law__2750 rfl ?_
  refine at_iadd 2752 X dL_law__2751 rfl ?_
  rw [w32_id (by omega) (by omega)]
  refine at_xint 2753 X S (by omega) (by omega) dL_law__2752 rfl ?_
  refine at_callV 2756 X _ 12 (hM E _ _ _ _ _ hE hM1) clX12 rfl k_125 mo_X12_summed w_2386 vo_X12_summed.1 vo_X12_summed.2 rfl rfl (crl ⟨by omega, by omega⟩ (by omega) (by omega)) (Nat.le_of_ble_eq_true rfl) dL_law__2753 rfl ?_
  rintro _ _ ⟨bb, E2, rfl, rfl, hE2, hth, hbb⟩
  refine at_istore 2758 X dL_law__2756 rfl (by decide) ?_
  refine at_aload_n 2759 X rfl rfl dL_law__2758 rfl ?_
  refine at_callV 2762 X _ 12 (ct_X12_thrown hG E2) clX12 rfl k_125 mo_X12_thrown w_1945 vo_X12_thrown.1 vo_X12_thrown.2 rfl rfl (crl ⟨Nat.le_of_ble_eq_true rfl, Nat.le_of_ble_eq_true rfl⟩ (by omega) (by omega)) (Nat.le_of_ble_eq_true rfl) dL_law__2759 rfl ?_
  rintro _ _ ⟨rfl, rfl⟩
  rw [hth]
  refine at_iload 2764 X rfl dL_law__2762 rfl ?_
  refine at_icmp_eq 2767 2769 X dL_law__2764 rfl (by decide) (fun _ => ?_) (fun h => absurd rfl h)
  refine at_iload 2771 X rfl dL_law__2769 rfl ?_
  refine at_if_ne 2774 2786 X dL_law__2771 rfl (by decide) (fun h => ?_) (fun h => ?_)
  · refine at_goto 3366 X dL_law__2786 (by decide) ?_
    exact at_sub _ (by exact ⟨rfl, rfl, rfl, rfl, rfl, trivial⟩) (at_widen (by omega) (by omega) (hend E2 hE2))
  · have hc0 : cc = 0 := by omega
    have hbb := hbb hc0
    refine at_aload_n 2775 X rfl rfl dL_law__2774 rfl ?_
    refine at_iconst 2776 X (by decide) dL_law__2775 rfl ?_
    refine m_laload 2777 X k_813 e_813 (by decide) (by decide) dL_law__2776 rfl ?_
    refine at_iload 2779 X rfl dL_law__2777 rfl ?_
    refine at_i2l 2780 X dL_law__2779 rfl ?_
    refine at_lcmp 2781 X dL_law__2780 rfl ?_
    refine at_if_eq 2784 2786 X dL_law__2781 rfl (by decide) (fun _ => ?_) (fun h => absurd (lcmp_eq (by first | exact hbb | (rw [show (0 : Int).toNat = 0 from rfl, hbb]; omega))) h)
    refine at_goto 3366 X dL_law__2786 (by decide) ?_
    exact at_sub _ (by exact ⟨rfl, rfl, rfl, rfl, rfl, trivial⟩) (at_widen (by omega) (by omega) (hend E2 hE2))
