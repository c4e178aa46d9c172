theorem and_byte {a m y M : Nat} (ha : a < 256) (hm : m < 256) : (256 * y + a) &&& (256 * M + m) = 256 * (y &&& M) + (a &&& m) := by
  have hl : a &&& m < 2 ^ 8 := Nat.lt_of_le_of_lt Nat.and_le_left ha
  refine Nat.eq_of_testBit_eq fun j => ?_
  have e (u v : Nat) (hv : v < 2 ^ 8) : (256 * u + v).testBit j = if j < 8 then v.testBit j else u.testBit (j - 8) := Nat.testBit_two_pow_mul_add u hv j
  rw [Nat.testBit_and, e _ _ ha, e _ _ hm, e _ _ hl]
  split <;> rw [Nat.testBit_and]
def l1 (M x : Nat) : Nat := x - ((x / 2) &&& M)
def l2 (M x : Nat) : Nat := (x &&& M) + ((x / 4) &&& M)
def l3 (M x : Nat) : Nat := (x + x / 16) &&& M
theorem f_1 : ∀ u, u < 128 → ∀ v, v < 2 → (128 * v + u) &&& 85 = u &&& 85 := by decide +kernel
theorem f_2 : ∀ u, u < 64 → ∀ v, v < 4 → (64 * v + u) &&& 51 = u &&& 51 := by decide +kernel
theorem f_3 : ∀ w, w < 80 → ∀ v, v < 5 → (w + 16 * v) &&& 15 = w &&& 15 := by decide +kernel
theorem l1_byte {M y a : Nat} (ha : a < 256) : l1 (256 * M + 85) (256 * y + a) = 256 * l1 M y + l1 85 a := by
  unfold l1
  rw [show (256 * y + a) / 2 = 256 * (y / 2) + (128 * (y % 2) + a / 2) by omega, and_byte (by omega) (by decide), f_1 (a / 2) (by omega) (y % 2) (by omega)]
  have h1 : (a / 2) &&& 85 ≤ a / 2 := Nat.and_le_left
  have h2 : (y / 2) &&& M ≤ y / 2 := Nat.and_le_left
  omega
theorem l2_byte {M y a : Nat} (ha : a < 256) : l2 (256 * M + 51) (256 * y + a) = 256 * l2 M y + l2 51 a := by
  unfold l2
  rw [show (256 * y + a) / 4 = 256 * (y / 4) + (64 * (y % 4) + a / 4) by omega, and_byte ha (by decide), and_byte (by omega) (by decide), f_2 (a / 4) (by omega) (y % 4) (by omega)]
  omega
theorem l3_byte {M y a : Nat} (ha : a ≤ 68) (hy : y % 16 ≤ 4) : l3 (256 * M + 15) (256 * y + a) = 256 * l3 M y + l3 15 a := by
  unfold l3
  rw [show 256 * y + a + (256 * y + a) / 16 = 256 * (y + y / 16) + ((a + a / 16) + 16 * (y % 16)) by omega, and_byte (by omega) (by decide), f_3 (a + a / 16) (by omega) (y % 16) (by omega)]
theorem f_4 : ∀ a, a < 256 → l1 85 a < 256 ∧ l2 51 (l1 85 a) ≤ 68 ∧ l2 51 (l1 85 a) % 16 ≤ 4 ∧ l3 15 (l2 51 (l1 85 a)) = cntp (fun j => a.testBit j) 8 ∧ cntp (fun j => a.testBit j) 8 ≤ 8 := by decide +kernel
theorem cnt_byte {y a : Nat} (ha : a < 256) : ∀ n, cntp (fun j => (256 * y + a).testBit j) (n + 8) = cntp (fun j => a.testBit j) 8 + cntp (fun j => y.testBit j) n
  | 0 => by
    refine (cntp_congr (fun j hj => ?_)).trans (Nat.add_zero _).symm
    have e : (256 * y + a).testBit j = if j < 8 then a.testBit j else y.testBit (j - 8) := Nat.testBit_two_pow_mul_add y (i := 8) ha j
    rw [e, if_pos (by omega)]
  | n + 1 => by
    have e : (256 * y + a).testBit (n + 8) = if n + 8 < 8 then a.testBit (n + 8) else y.testBit (n + 8 - 8) := Nat.testBit_two_pow_mul_add y (i := 8) ha (n + 8)
    rw [if_neg (by omega), show n + 8 - 8 = n by omega] at e
    rw [show n + 1 + 8 = (n + 8) + 1 by omega, cntp_s _ (n + 8), cnt_byte ha n, cntp_s (fun j => y.testBit j) n, e, Nat.add_assoc]
def ls4 (x : Nat) : Nat := x + x / 256
def ls5 (x : Nat) : Nat := x + x / 65536
def ls6 (x : Nat) : Nat := x + x / 4294967296
theorem z_end {p0 p1 p2 p3 p4 : Nat} (h0 : p0 ≤ 8) (h1 : p1 ≤ 8) (h2 : p2 ≤ 8) (h3 : p3 ≤ 8) (h4 : p4 ≤ 8) : ls6 (ls5 (ls4 (256 * (256 * (256 * (256 * p4 + p3) + p2) + p1) + p0))) % 128 = p0 + (p1 + (p2 + (p3 + p4))) := by
  have a1 : ls4 (256 * (256 * (256 * (256 * p4 + p3) + p2) + p1) + p0) = 65536 * (65536 * p4 + 256 * (p3 + p4) + (p2 + p3)) + (256 * (p1 + p2) + (p0 + p1)) := by
    unfold ls4
    omega
  have a2 : ls5 (65536 * (65536 * p4 + 256 * (p3 + p4) + (p2 + p3)) + (256 * (p1 + p2) + (p0 + p1))) = 4294967296 * p4 + (65536 * (256 * (p3 + p4) + (p2 + p3 + p4)) + (256 * (p1 + p2 + p3 + p4) + (p0 + p1 + p2 + p3))) := by
    unfold ls5
    rw [show (65536 * (65536 * p4 + 256 * (p3 + p4) + (p2 + p3)) + (256 * (p1 + p2) + (p0 + p1))) / 65536 = 65536 * p4 + 256 * (p3 + p4) + (p2 + p3) by omega]
    omega
  rw [a1, a2]
  unfold ls6
  rw [show (4294967296 * p4 + (65536 * (256 * (p3 + p4) + (p2 + p3 + p4)) + (256 * (p1 + p2 + p3 + p4) + (p0 + p1 + p2 + p3)))) / 4294967296 = p4 by omega]
  omega
theorem bits_40 {m : Nat} (hm : m < 1099511627776) : ls6 (ls5 (ls4 (l3 1085102592571150095 (l2 3689348814741910323 (l1 6148914691236517205 m))))) % 128 = cntp (fun j => m.testBit j) 40 := by
  obtain ⟨y1, a0, h0, e0⟩ : ∃ y a, a < 256 ∧ m = 256 * y + a := ⟨m / 256, m % 256, by omega, by omega⟩
  obtain ⟨y2, a1, h1, e1⟩ : ∃ y a, a < 256 ∧ y1 = 256 * y + a := ⟨y1 / 256, y1 % 256, by omega, by omega⟩
  obtain ⟨y3, a2, h2, e2⟩ : ∃ y a, a < 256 ∧ y2 = 256 * y + a := ⟨y2 / 256, y2 % 256, by omega, by omega⟩
  obtain ⟨y4, a3, h3, e3⟩ : ∃ y a, a < 256 ∧ y3 = 256 * y + a := ⟨y3 / 256, y3 % 256, by omega, by omega⟩
  have h4 : y4 < 256 := by omega
  obtain ⟨a4, e4⟩ : ∃ a, y4 = 256 * 0 + a := ⟨y4, by omega⟩
  have h4' : a4 < 256 := by omega
  obtain ⟨p0, q0, r0, s0, t0⟩ := f_4 a0 h0
  obtain ⟨p1, q1, r1, s1, t1⟩ := f_4 a1 h1
  obtain ⟨p2, q2, r2, s2, t2⟩ := f_4 a2 h2
  obtain ⟨p3, q3, r3, s3, t3⟩ := f_4 a3 h3
  obtain ⟨p4, q4, r4, s4, t4⟩ := f_4 a4 h4'
  have c0 : cntp (fun j => m.testBit j) 40 = cntp (fun j => a0.testBit j) 8 + (cntp (fun j => a1.testBit j) 8 + (cntp (fun j => a2.testBit j) 8 + (cntp (fun j => a3.testBit j) 8 + cntp (fun j => a4.testBit j) 8))) := by
    rw [e0, cnt_byte h0 32, e1, cnt_byte h1 24, e2, cnt_byte h2 16, e3, cnt_byte h3 8, show y4 = a4 by omega]
  have k1 : l1 6148914691236517205 m = 256 * (256 * (256 * (256 * (l1 85 a4) + l1 85 a3) + l1 85 a2) + l1 85 a1) + l1 85 a0 := by
    rw [e0, show (6148914691236517205 : Nat) = 256 * 24019198012642645 + 85 from rfl, l1_byte h0, e1, show (24019198012642645 : Nat) = 256 * 93824992236885 + 85 from rfl, l1_byte h1, e2, show (93824992236885 : Nat) = 256 * 366503875925 + 85 from rfl, l1_byte h2, e3, show (366503875925 : Nat) = 256 * 1431655765 + 85 from rfl, l1_byte h3, e4, show (1431655765 : Nat) = 256 * 5592405 + 85 from rfl, l1_byte h4', show l1 5592405 0 = 0 from rfl, Nat.mul_zero, Nat.zero_add]
  have k2 : l2 3689348814741910323 (l1 6148914691236517205 m) = 256 * (256 * (256 * (256 * (l2 51 (l1 85 a4)) + l2 51 (l1 85 a3)) + l2 51 (l1 85 a2)) + l2 51 (l1 85 a1)) + l2 51 (l1 85 a0) := by
    rw [k1, show (3689348814741910323 : Nat) = 256 * 14411518807585587 + 51 from rfl, l2_byte p0, show (14411518807585587 : Nat) = 256 * 56294995342131 + 51 from rfl, l2_byte p1, show (56294995342131 : Nat) = 256 * 219902325555 + 51 from rfl, l2_byte p2, show (219902325555 : Nat) = 256 * 858993459 + 51 from rfl, l2_byte p3, show l1 85 a4 = 256 * 0 + l1 85 a4 by omega, show (858993459 : Nat) = 256 * 3355443 + 51 from rfl, l2_byte p4, show l2 3355443 0 = 0 from rfl, Nat.mul_zero, Nat.zero_add, Nat.zero_add]
  have k3 : l3 1085102592571150095 (l2 3689348814741910323 (l1 6148914691236517205 m)) = 256 * (256 * (256 * (256 * (l3 15 (l2 51 (l1 85 a4))) + l3 15 (l2 51 (l1 85 a3))) + l3 15 (l2 51 (l1 85 a2))) + l3 15 (l2 51 (l1 85 a1))) + l3 15 (l2 51 (l1 85 a0)) := by
    rw [k2, show (1085102592571150095 : Nat) = 256 * 4238682002231055 + 15 from rfl, l3_byte q0 (by omega), show (4238682002231055 : Nat) = 256 * 16557351571215 + 15 from rfl, l3_byte q1 (by omega), show (16557351571215 : Nat) = 256 * 64677154575 + 15 from rfl, l3_byte q2 (by omega), show (64677154575 : Nat) = 256 * 252645135 + 15 from rfl, l3_byte q3 (by omega)]
    rw [show l3 252645135 (l2 51 (l1 85 a4)) = l3 15 (l2 51 (l1 85 a4)) by
      have e := l3_byte (M := 986895) (y := 0) q4 (by decide)
      rw [show (256 * 986895 + 15 : Nat) = 252645135 from rfl, Nat.mul_zero, Nat.zero_add, show l3 986895 0 = 0 from rfl, Nat.mul_zero, Nat.zero_add] at e
      exact e]
  rw [k3, s0, s1, s2, s3, s4, c0]
  exact z_end t0 t1 t2 t3 t4
theorem iand127 (x : Int) : iand (w32 x) 127 = x % 128 := by
  have h := iand_mask (x := w32 x) (k := 7) (by decide)
  have e : (2 : Int) ^ 7 - 1 = 127 := by decide
  have e2 : (2 : Int) ^ 7 = 128 := by decide
  rw [e, e2] at h
  rw [h]
  unfold w32
  omega
theorem dJ13_bitCount_95d88_0 : decode cJ13_bitCount_95d88 0 = .ok (.lload_n 0, 1) := by decide +kernel
theorem dJ13_bitCount_95d88_1 : decode cJ13_bitCount_95d88 1 = .ok (.lload_n 0, 1) := by decide +kernel
theorem dJ13_bitCount_95d88_2 : decode cJ13_bitCount_95d88 2 = .ok (.iconst 1, 1) := by decide +kernel
theorem dJ13_bitCount_95d88_3 : decode cJ13_bitCount_95d88 3 = .ok (.lushr, 1) := by decide +kernel
theorem dJ13_bitCount_95d88_4 : decode cJ13_bitCount_95d88 4 = .ok (.ldc2_w 314, 3) := by decide +kernel
theorem dJ13_bitCount_95d88_7 : decode cJ13_bitCount_95d88 7 = .ok (.land, 1) := by decide +kernel
theorem dJ13_bitCount_95d88_8 : decode cJ13_bitCount_95d88 8 = .ok (.lsub, 1) := by decide +kernel
theorem dJ13_bitCount_95d88_9 : decode cJ13_bitCount_95d88 9 = .ok (.lstore_n 0, 1) := by decide +kernel
theorem dJ13_bitCount_95d88_10 : decode cJ13_bitCount_95d88 10 = .ok (.lload_n 0, 1) := by decide +kernel
theorem dJ13_bitCount_95d88_11 : decode cJ13_bitCount_95d88 11 = .ok (.ldc2_w 316, 3) := by decide +kernel
theorem dJ13_bitCount_95d88_14 : decode cJ13_bitCount_95d88 14 = .ok (.land, 1) := by decide +kernel
theorem dJ13_bitCount_95d88_15 : decode cJ13_bitCount_95d88 15 = .ok (.lload_n 0, 1) := by decide +kernel
theorem dJ13_bitCount_95d88_16 : decode cJ13_bitCount_95d88 16 = .ok (.iconst 2, 1) := by decide +kernel
theorem dJ13_bitCount_95d88_17 : decode cJ13_bitCount_95d88 17 = .ok (.lushr, 1) := by decide +kernel
theorem dJ13_bitCount_95d88_18 : decode cJ13_bitCount_95d88 18 = .ok (.ldc2_w 316, 3) := by decide +kernel
theorem dJ13_bitCount_95d88_21 : decode cJ13_bitCount_95d88 21 = .ok (.land, 1) := by decide +kernel
theorem dJ13_bitCount_95d88_22 : decode cJ13_bitCount_95d88 22 = .ok (.ladd, 1) := by decide +kernel
theorem dJ13_bitCount_95d88_23 : decode cJ13_bitCount_95d88 23 = .ok (.lstore_n 0, 1) := by decide +kernel
theorem dJ13_bitCount_95d88_24 : decode cJ13_bitCount_95d88 24 = .ok (.lload_n 0, 1) := by decide +kernel
theorem dJ13_bitCount_95d88_25 : decode cJ13_bitCount_95d88 25 = .ok (.lload_n 0, 1) := by decide +kernel
theorem dJ13_bitCount_95d88_26 : decode cJ13_bitCount_95d88 26 = .ok (.iconst 4, 1) := by decide +kernel
theorem dJ13_bitCount_95d88_27 : decode cJ13_bitCount_95d88 27 = .ok (.lushr, 1) := by decide +kernel
theorem dJ13_bitCount_95d88_28 : decode cJ13_bitCount_95d88 28 = .ok (.ladd, 1) := by decide +kernel
theorem dJ13_bitCount_95d88_29 : decode cJ13_bitCount_95d88 29 = .ok (.ldc2_w 318, 3) := by decide +kernel
theorem dJ13_bitCount_95d88_32 : decode cJ13_bitCount_95d88 32 = .ok (.land, 1) := by decide +kernel
theorem dJ13_bitCount_95d88_33 : decode cJ13_bitCount_95d88 33 = .ok (.lstore_n 0, 1) := by decide +kernel
theorem dJ13_bitCount_95d88_34 : decode cJ13_bitCount_95d88 34 = .ok (.lload_n 0, 1) := by decide +kernel
theorem dJ13_bitCount_95d88_35 : decode cJ13_bitCount_95d88 35 = .ok (.lload_n 0, 1) := by decide +kernel
theorem dJ13_bitCount_95d88_36 : decode cJ13_bitCount_95d88 36 = .ok (.bipush 8, 2) := by decide +kernel
theorem dJ13_bitCount_95d88_38 : decode cJ13_bitCount_95d88 38 = .ok (.lushr, 1) := by decide +kernel
theorem dJ13_bitCount_95d88_39 : decode cJ13_bitCount_95d88 39 = .ok (.ladd, 1) := by decide +kernel
theorem dJ13_bitCount_95d88_40 : decode cJ13_bitCount_95d88 40 = .ok (.lstore_n 0, 1) := by decide +kernel
theorem dJ13_bitCount_95d88_41 : decode cJ13_bitCount_95d88 41 = .ok (.lload_n 0, 1) := by decide +kernel
theorem dJ13_bitCount_95d88_42 : decode cJ13_bitCount_95d88 42 = .ok (.lload_n 0, 1) := by decide +kernel
theorem dJ13_bitCount_95d88_43 : decode cJ13_bitCount_95d88 43 = .ok (.bipush 16, 2) := by decide +kernel
theorem dJ13_bitCount_95d88_45 : decode cJ13_bitCount_95d88 45 = .ok (.lushr, 1) := by decide +kernel
theorem dJ13_bitCount_95d88_46 : decode cJ13_bitCount_95d88 46 = .ok (.ladd, 1) := by decide +kernel
theorem dJ13_bitCount_95d88_47 : decode cJ13_bitCount_95d88 47 = .ok (.lstore_n 0, 1) := by decide +kernel
theorem dJ13_bitCount_95d88_48 : decode cJ13_bitCount_95d88 48 = .ok (.lload_n 0, 1) := by decide +kernel
theorem dJ13_bitCount_95d88_49 : decode cJ13_bitCount_95d88 49 = .ok (.lload_n 0, 1) := by decide +kernel
theorem dJ13_bitCount_95d88_50 : decode cJ13_bitCount_95d88 50 = .ok (.bipush 32, 2) := by decide +kernel
theorem dJ13_bitCount_95d88_52 : decode cJ13_bitCount_95d88 52 = .ok (.lushr, 1) := by decide +kernel
theorem dJ13_bitCount_95d88_53 : decode cJ13_bitCount_95d88 53 = .ok (.ladd, 1) := by decide +kernel
theorem dJ13_bitCount_95d88_54 : decode cJ13_bitCount_95d88 54 = .ok (.lstore_n 0, 1) := by decide +kernel
theorem dJ13_bitCount_95d88_55 : decode cJ13_bitCount_95d88 55 = .ok (.lload_n 0, 1) := by decide +kernel
theorem dJ13_bitCount_95d88_56 : decode cJ13_bitCount_95d88 56 = .ok (.l2i, 1) := by decide +kernel
theorem dJ13_bitCount_95d88_57 : decode cJ13_bitCount_95d88 57 = .ok (.bipush 127, 2) := by decide +kernel
theorem dJ13_bitCount_95d88_59 : decode cJ13_bitCount_95d88 59 = .ok (.iand, 1) := by decide +kernel
theorem dJ13_bitCount_95d88_60 : decode cJ13_bitCount_95d88 60 = .ok (.ireturn, 1) := by decide +kernel
theorem ct_J13_bitCount_95d88 {g : Gw} (hG : GF g) {z : Bool} (E : Mm) (m : Nat) (hm : m < 1099511627776) : CT g yJ13_bitCount_95d88 cJ13_bitCount_95d88 2 (some .int) 0 0 0 0 K2 z [mL ((m : Nat) : Int)] (ov E) K2 z (fun r D' => r = some (mI (cntp (fun j => m.testBit j) 40 : Nat)) ∧ D' = ov E) := by
  refine CT.mk hG (by decide +kernel) (Nat.le_of_ble_eq_true rfl) (fun κ X Rt _ ok => ?_)
  refine at_lload_n 1 X rfl rfl dJ13_bitCount_95d88_0 rfl ?_
  refine at_lload_n 2 X rfl rfl dJ13_bitCount_95d88_1 rfl ?_
  refine at_iconst 3 X (by decide) dJ13_bitCount_95d88_2 rfl ?_
  refine at_lushrV 4 X ((m / 2 : Nat) : Int) (lushr_nat (k := 1) (by decide) (by omega)) dJ13_bitCount_95d88_3 rfl ?_
  refine at_ldc2 7 X (n := 6148914691236517205) w_1616 (by decide) (by decide) dJ13_bitCount_95d88_4 rfl ?_
  have hb1 : m / 2 &&& 6148914691236517205 ≤ m / 2 := Nat.and_le_left
  refine at_landV 8 X (((m / 2 &&& 6148914691236517205) : Nat) : Int) (land_nat (m := m / 2) (n := 6148914691236517205) (by omega) (by decide)) dJ13_bitCount_95d88_7 rfl ?_
  have hB : l1 6148914691236517205 m ≤ m := Nat.sub_le _ _
  refine at_lsubV 9 X ((l1 6148914691236517205 m : Nat) : Int) (w64_v (by unfold l1; omega) (by omega) (by omega)) dJ13_bitCount_95d88_8 rfl ?_
  refine at_lstore_n 10 X rfl dJ13_bitCount_95d88_9 rfl (by decide) ?_
  have hC1 : (l1 6148914691236517205 m) &&& 3689348814741910323 ≤ l1 6148914691236517205 m := Nat.and_le_left
  have hC2 : (l1 6148914691236517205 m) / 4 &&& 3689348814741910323 ≤ (l1 6148914691236517205 m) / 4 := Nat.and_le_left
  refine at_lload_n 11 X rfl rfl dJ13_bitCount_95d88_10 rfl ?_
  refine at_ldc2 14 X (n := 3689348814741910323) w_1617 (by decide) (by decide) dJ13_bitCount_95d88_11 rfl ?_
  refine at_landV 15 X ((((l1 6148914691236517205 m) &&& 3689348814741910323) : Nat) : Int) (land_nat (n := 3689348814741910323) (by omega) (by decide)) dJ13_bitCount_95d88_14 rfl ?_
  refine at_lload_n 16 X rfl rfl dJ13_bitCount_95d88_15 rfl ?_
  refine at_iconst 17 X (by decide) dJ13_bitCount_95d88_16 rfl ?_
  refine at_lushrV 18 X (((l1 6148914691236517205 m) / 4 : Nat) : Int) (lushr_nat (k := 2) (by decide) (by omega)) dJ13_bitCount_95d88_17 rfl ?_
  refine at_ldc2 21 X (n := 3689348814741910323) w_1617 (by decide) (by decide) dJ13_bitCount_95d88_18 rfl ?_
  refine at_landV 22 X ((((l1 6148914691236517205 m) / 4 &&& 3689348814741910323) : Nat) : Int) (land_nat (n := 3689348814741910323) (by omega) (by decide)) dJ13_bitCount_95d88_21 rfl ?_
  have hC : l2 3689348814741910323 (l1 6148914691236517205 m) ≤ l1 6148914691236517205 m + (l1 6148914691236517205 m) / 4 := by unfold l2; omega
  refine at_laddV 23 X ((l2 3689348814741910323 (l1 6148914691236517205 m) : Nat) : Int) (w64_v (by unfold l2; omega) (by omega) (by omega)) dJ13_bitCount_95d88_22 rfl ?_
  refine at_lstore_n 24 X rfl dJ13_bitCount_95d88_23 rfl (by decide) ?_
  refine at_lload_n 25 X rfl rfl dJ13_bitCount_95d88_24 rfl ?_
  refine at_lload_n 26 X rfl rfl dJ13_bitCount_95d88_25 rfl ?_
  refine at_iconst 27 X (by decide) dJ13_bitCount_95d88_26 rfl ?_
  refine at_lushrV 28 X (((l2 3689348814741910323 (l1 6148914691236517205 m)) / 16 : Nat) : Int) (lushr_nat (k := 4) (by decide) (by omega)) dJ13_bitCount_95d88_27 rfl ?_
  refine at_laddV 29 X (((l2 3689348814741910323 (l1 6148914691236517205 m) + (l2 3689348814741910323 (l1 6148914691236517205 m)) / 16) : Nat) : Int) (w64_v (by omega) (by omega) (by omega)) dJ13_bitCount_95d88_28 rfl ?_
  refine at_ldc2 32 X (n := 1085102592571150095) w_1618 (by decide) (by decide) dJ13_bitCount_95d88_29 rfl ?_
  have hD : l3 1085102592571150095 (l2 3689348814741910323 (l1 6148914691236517205 m)) ≤ l2 3689348814741910323 (l1 6148914691236517205 m) + (l2 3689348814741910323 (l1 6148914691236517205 m)) / 16 := Nat.and_le_left
  have h4 : ls4 (l3 1085102592571150095 (l2 3689348814741910323 (l1 6148914691236517205 m))) ≤ 2 * (l3 1085102592571150095 (l2 3689348814741910323 (l1 6148914691236517205 m))) := by unfold ls4; omega
  have h5 : ls5 (ls4 (l3 1085102592571150095 (l2 3689348814741910323 (l1 6148914691236517205 m)))) ≤ 2 * ls4 (l3 1085102592571150095 (l2 3689348814741910323 (l1 6148914691236517205 m))) := by unfold ls5; omega
  have h6 : ls6 (ls5 (ls4 (l3 1085102592571150095 (l2 3689348814741910323 (l1 6148914691236517205 m))))) ≤ 2 * ls5 (ls4 (l3 1085102592571150095 (l2 3689348814741910323 (l1 6148914691236517205 m)))) := by unfold ls6; omega
  refine at_landV 33 X ((l3 1085102592571150095 (l2 3689348814741910323 (l1 6148914691236517205 m)) : Nat) : Int) (land_nat (n := 1085102592571150095) (by omega) (by decide)) dJ13_bitCount_95d88_32 rfl ?_
  refine at_lstore_n 34 X rfl dJ13_bitCount_95d88_33 rfl (by decide) ?_
  refine at_lload_n 35 X rfl rfl dJ13_bitCount_95d88_34 rfl ?_
  refine at_lload_n 36 X rfl rfl dJ13_bitCount_95d88_35 rfl ?_
  refine at_bipush 38 X (by decide) (by decide) dJ13_bitCount_95d88_36 rfl ?_
  refine at_lushrV 39 X (((l3 1085102592571150095 (l2 3689348814741910323 (l1 6148914691236517205 m))) / 256 : Nat) : Int) (lushr_nat (k := 8) (by decide) (by omega)) dJ13_bitCount_95d88_38 rfl ?_
  refine at_laddV 40 X ((ls4 (l3 1085102592571150095 (l2 3689348814741910323 (l1 6148914691236517205 m))) : Nat) : Int) (w64_v (by unfold ls4; omega) (by omega) (by omega)) dJ13_bitCount_95d88_39 rfl ?_
  refine at_lstore_n 41 X rfl dJ13_bitCount_95d88_40 rfl (by decide) ?_
  refine at_lload_n 42 X rfl rfl dJ13_bitCount_95d88_41 rfl ?_
  refine at_lload_n 43 X rfl rfl dJ13_bitCount_95d88_42 rfl ?_
  refine at_bipush 45 X (by decide) (by decide) dJ13_bitCount_95d88_43 rfl ?_
  refine at_lushrV 46 X ((ls4 (l3 1085102592571150095 (l2 3689348814741910323 (l1 6148914691236517205 m))) / 65536 : Nat) : Int) (lushr_nat (k := 16) (by decide) (by omega)) dJ13_bitCount_95d88_45 rfl ?_
  refine at_laddV 47 X ((ls5 (ls4 (l3 1085102592571150095 (l2 3689348814741910323 (l1 6148914691236517205 m)))) : Nat) : Int) (w64_v (by unfold ls5; omega) (by omega) (by omega)) dJ13_bitCount_95d88_46 rfl ?_
  refine at_lstore_n 48 X rfl dJ13_bitCount_95d88_47 rfl (by decide) ?_
  refine at_lload_n 49 X rfl rfl dJ13_bitCount_95d88_48 rfl ?_
  refine at_lload_n 50 X rfl rfl dJ13_bitCount_95d88_49 rfl ?_
  refine at_bipush 52 X (by decide) (by decide) dJ13_bitCount_95d88_50 rfl ?_
  refine at_lushrV 53 X ((ls5 (ls4 (l3 1085102592571150095 (l2 3689348814741910323 (l1 6148914691236517205 m)))) / 4294967296 : Nat) : Int) (lushr_nat (k := 32) (by decide) (by omega)) dJ13_bitCount_95d88_52 rfl ?_
  refine at_laddV 54 X ((ls6 (ls5 (ls4 (l3 1085102592571150095 (l2 3689348814741910323 (l1 6148914691236517205 m))))) : Nat) : Int) (w64_v (by unfold ls6; omega) (by omega) (by omega)) dJ13_bitCount_95d88_53 rfl ?_
  refine at_lstore_n 55 X rfl dJ13_bitCount_95d88_54 rfl (by decide) ?_
  refine at_lload_n 56 X rfl rfl dJ13_bitCount_95d88_55 rfl ?_
  refine at_l2iV 57 X (w32 ((ls6 (ls5 (ls4 (l3 1085102592571150095 (l2 3689348814741910323 (l1 6148914691236517205 m))))) : Nat) : Int)) rfl dJ13_bitCount_95d88_56 rfl ?_
  refine at_bipush 59 X (by decide) (by decide) dJ13_bitCount_95d88_57 rfl ?_
  refine at_iandV 60 X ((cntp (fun j => m.testBit j) 40 : Nat) : Int) ((iand127 _).trans (by rw [← bits_40 hm]; exact (Int.natCast_emod _ 128).symm)) dJ13_bitCount_95d88_59 rfl ?_
  refine at_iret X Rt ?_ (Nat.le_refl _) (Nat.le_refl _) dJ13_bitCount_95d88_60
  exact ⟨rfl, rfl⟩
