/-- what stands while the images are being made -/
def bI (M : List (Nat × Int)) : Mm := fun q j => if q = 29 then lk M (fun _ => -1) j else ov EI q j
theorem ob_bI {D : Mm} {k : Nat} {f0 : Nat → Int} {L M : List (Nat × Int)} {x : Int} : wr (ob (bI M) 0 f0 L D) 29 k x = ob (bI ((k, x) :: M)) 0 f0 L D := by
  funext q j
  unfold wr ob bI
  by_cases c : q = 29
  · subst c
    by_cases c2 : j = k
    · subst c2; simp [lk]
    · simp [lk, c2]
  · simp [c]
section CTOR3
variable {g : Gw} {κ : Kp} {cc : ByteArray} {own : String} {nL : Nat} {cells slots pc : Nat} {l : List (Nat × MV)} {st : List MV} {D : Mm}
theorem c_anewa (pc' i : Nat) (X : CX g κ cc own nL) {B : Mm} {a n ix : Nat} {f0 : Nat → Int} {L : List (Nat × Int)} {x : Int} (hxn : x = (n : Int)) (hn : n ≤ 60000) (hcl : Cond.classLink own ix "ShadeBeams$Image" ∈ ALLW) (hk : K2[i]? = some (4, n)) (hi : i ≤ 814) (ha : a < i) (hB : ∀ j, j < n → B i j = -1) (hrc : cells + 1 ≤ (kR κ).cells) (hrs : slots + n ≤ (kR κ).slots) (d : decode cc pc = .ok (.anewarray ix, 3)) (e0 : pc + 3 = pc') (kk : AT g κ (KT (i + 1)) true (cells + 1) (slots + n) pc' l (mR i :: st) (ob B a f0 L D)) : AT g κ (KT i) true cells slots pc l (mI x :: st) (ob B a f0 L D) := by
  refine at_anewa pc' X hxn hn hcl hrc hrs d e0 ?_
  rw [KT_snoc hk, KT_len hi]
  refine at_agree (fun q kq hq j hj => ?_) kk
  obtain ⟨h1, h2⟩ := KT_lt hq
  unfold nz
  by_cases c : q = i
  · subst c
    rw [hk] at h2
    cases h2
    rw [if_pos rfl, ob_gt ha, hB j hj]
    rfl
  · rw [if_neg c]
end CTOR3
theorem dX11_init_0 : decode cX11_init 0 = .ok (.aload_n 0, 1) := by decide +kernel
theorem dX11_init_1 : decode cX11_init 1 = .ok (.invokespecial 3, 3) := by decide +kernel
theorem dX11_init_4 : decode cX11_init 4 = .ok (.aload_n 0, 1) := by decide +kernel
theorem dX11_init_5 : decode cX11_init 5 = .ok (.new 9, 3) := by decide +kernel
theorem dX11_init_8 : decode cX11_init 8 = .ok (.dup, 1) := by decide +kernel
theorem dX11_init_9 : decode cX11_init 9 = .ok (.invokespecial 11, 3) := by decide +kernel
theorem dX11_init_12 : decode cX11_init 12 = .ok (.putfield 12, 3) := by decide +kernel
theorem dX11_init_15 : decode cX11_init 15 = .ok (.aload_n 0, 1) := by decide +kernel
theorem dX11_init_16 : decode cX11_init 16 = .ok (.iconst 3, 1) := by decide +kernel
theorem dX11_init_17 : decode cX11_init 17 = .ok (.newarray .int, 2) := by decide +kernel
theorem dX11_init_19 : decode cX11_init 19 = .ok (.putfield 16, 3) := by decide +kernel
theorem dX11_init_22 : decode cX11_init 22 = .ok (.aload_n 0, 1) := by decide +kernel
theorem dX11_init_23 : decode cX11_init 23 = .ok (.new 20, 3) := by decide +kernel
theorem dX11_init_26 : decode cX11_init 26 = .ok (.dup, 1) := by decide +kernel
theorem dX11_init_27 : decode cX11_init 27 = .ok (.invokespecial 22, 3) := by decide +kernel
theorem dX11_init_30 : decode cX11_init 30 = .ok (.putfield 23, 3) := by decide +kernel
theorem dX11_init_33 : decode cX11_init 33 = .ok (.aload_n 0, 1) := by decide +kernel
theorem dX11_init_34 : decode cX11_init 34 = .ok (.new 20, 3) := by decide +kernel
theorem dX11_init_37 : decode cX11_init 37 = .ok (.dup, 1) := by decide +kernel
theorem dX11_init_38 : decode cX11_init 38 = .ok (.invokespecial 22, 3) := by decide +kernel
theorem dX11_init_41 : decode cX11_init 41 = .ok (.putfield 27, 3) := by decide +kernel
theorem dX11_init_44 : decode cX11_init 44 = .ok (.aload_n 0, 1) := by decide +kernel
theorem dX11_init_45 : decode cX11_init 45 = .ok (.new 30, 3) := by decide +kernel
theorem dX11_init_48 : decode cX11_init 48 = .ok (.dup, 1) := by decide +kernel
theorem dX11_init_49 : decode cX11_init 49 = .ok (.invokespecial 32, 3) := by decide +kernel
theorem dX11_init_52 : decode cX11_init 52 = .ok (.putfield 33, 3) := by decide +kernel
theorem dX11_init_55 : decode cX11_init 55 = .ok (.aload_n 0, 1) := by decide +kernel
theorem dX11_init_56 : decode cX11_init 56 = .ok (.new 30, 3) := by decide +kernel
theorem dX11_init_59 : decode cX11_init 59 = .ok (.dup, 1) := by decide +kernel
theorem dX11_init_60 : decode cX11_init 60 = .ok (.invokespecial 32, 3) := by decide +kernel
theorem dX11_init_63 : decode cX11_init 63 = .ok (.putfield 37, 3) := by decide +kernel
theorem dX11_init_66 : decode cX11_init 66 = .ok (.aload_n 0, 1) := by decide +kernel
theorem dX11_init_67 : decode cX11_init 67 = .ok (.new 30, 3) := by decide +kernel
theorem dX11_init_70 : decode cX11_init 70 = .ok (.dup, 1) := by decide +kernel
theorem dX11_init_71 : decode cX11_init 71 = .ok (.invokespecial 32, 3) := by decide +kernel
theorem dX11_init_74 : decode cX11_init 74 = .ok (.putfield 40, 3) := by decide +kernel
theorem dX11_init_77 : decode cX11_init 77 = .ok (.aload_n 0, 1) := by decide +kernel
theorem dX11_init_78 : decode cX11_init 78 = .ok (.new 43, 3) := by decide +kernel
theorem dX11_init_81 : decode cX11_init 81 = .ok (.dup, 1) := by decide +kernel
theorem dX11_init_82 : decode cX11_init 82 = .ok (.invokespecial 45, 3) := by decide +kernel
theorem dX11_init_85 : decode cX11_init 85 = .ok (.putfield 46, 3) := by decide +kernel
theorem dX11_init_88 : decode cX11_init 88 = .ok (.aload_n 0, 1) := by decide +kernel
theorem dX11_init_89 : decode cX11_init 89 = .ok (.iconst 3, 1) := by decide +kernel
theorem dX11_init_90 : decode cX11_init 90 = .ok (.anewarray 50, 3) := by decide +kernel
theorem dX11_init_93 : decode cX11_init 93 = .ok (.putfield 52, 3) := by decide +kernel
theorem dX11_init_96 : decode cX11_init 96 = .ok (.aload_n 0, 1) := by decide +kernel
theorem dX11_init_97 : decode cX11_init 97 = .ok (.new 56, 3) := by decide +kernel
theorem dX11_init_100 : decode cX11_init 100 = .ok (.dup, 1) := by decide +kernel
theorem dX11_init_101 : decode cX11_init 101 = .ok (.invokespecial 58, 3) := by decide +kernel
theorem dX11_init_104 : decode cX11_init 104 = .ok (.putfield 59, 3) := by decide +kernel
theorem dX11_init_107 : decode cX11_init 107 = .ok (.aload_n 0, 1) := by decide +kernel
theorem dX11_init_108 : decode cX11_init 108 = .ok (.new 56, 3) := by decide +kernel
theorem dX11_init_111 : decode cX11_init 111 = .ok (.dup, 1) := by decide +kernel
theorem dX11_init_112 : decode cX11_init 112 = .ok (.invokespecial 58, 3) := by decide +kernel
theorem dX11_init_115 : decode cX11_init 115 = .ok (.putfield 63, 3) := by decide +kernel
theorem dX11_init_118 : decode cX11_init 118 = .ok (.aload_n 0, 1) := by decide +kernel
theorem dX11_init_119 : decode cX11_init 119 = .ok (.new 66, 3) := by decide +kernel
theorem dX11_init_122 : decode cX11_init 122 = .ok (.dup, 1) := by decide +kernel
theorem dX11_init_123 : decode cX11_init 123 = .ok (.invokespecial 68, 3) := by decide +kernel
theorem dX11_init_126 : decode cX11_init 126 = .ok (.putfield 69, 3) := by decide +kernel
theorem dX11_init_129 : decode cX11_init 129 = .ok (.aload_n 0, 1) := by decide +kernel
theorem dX11_init_130 : decode cX11_init 130 = .ok (.new 66, 3) := by decide +kernel
theorem dX11_init_133 : decode cX11_init 133 = .ok (.dup, 1) := by decide +kernel
theorem dX11_init_134 : decode cX11_init 134 = .ok (.invokespecial 68, 3) := by decide +kernel
theorem dX11_init_137 : decode cX11_init 137 = .ok (.putfield 73, 3) := by decide +kernel
theorem dX11_init_140 : decode cX11_init 140 = .ok (.aload_n 0, 1) := by decide +kernel
theorem dX11_init_141 : decode cX11_init 141 = .ok (.new 76, 3) := by decide +kernel
theorem dX11_init_144 : decode cX11_init 144 = .ok (.dup, 1) := by decide +kernel
theorem dX11_init_145 : decode cX11_init 145 = .ok (.invokespecial 78, 3) := by decide +kernel
theorem dX11_init_148 : decode cX11_init 148 = .ok (.putfield 79, 3) := by decide +kernel
theorem dX11_init_151 : decode cX11_init 151 = .ok (.aload_n 0, 1) := by decide +kernel
theorem dX11_init_152 : decode cX11_init 152 = .ok (.new 83, 3) := by decide +kernel
theorem dX11_init_155 : decode cX11_init 155 = .ok (.dup, 1) := by decide +kernel
theorem dX11_init_156 : decode cX11_init 156 = .ok (.invokespecial 85, 3) := by decide +kernel
theorem dX11_init_159 : decode cX11_init 159 = .ok (.putfield 86, 3) := by decide +kernel
theorem dX11_init_162 : decode cX11_init 162 = .ok (.aload_n 0, 1) := by decide +kernel
theorem dX11_init_163 : decode cX11_init 163 = .ok (.new 90, 3) := by decide +kernel
theorem dX11_init_166 : decode cX11_init 166 = .ok (.dup, 1) := by decide +kernel
theorem dX11_init_167 : decode cX11_init 167 = .ok (.invokespecial 92, 3) := by decide +kernel
theorem dX11_init_170 : decode cX11_init 170 = .ok (.putfield 93, 3) := by decide +kernel
theorem dX11_init_173 : decode cX11_init 173 = .ok (.aload_n 0, 1) := by decide +kernel
theorem dX11_init_174 : decode cX11_init 174 = .ok (.new 90, 3) := by decide +kernel
theorem dX11_init_177 : decode cX11_init 177 = .ok (.dup, 1) := by decide +kernel
theorem dX11_init_178 : decode cX11_init 178 = .ok (.invokespecial 92, 3) := by decide +kernel
theorem dX11_init_181 : decode cX11_init 181 = .ok (.putfield 97, 3) := by decide +kernel
theorem dX11_init_184 : decode cX11_init 184 = .ok (.aload_n 0, 1) := by decide +kernel
theorem dX11_init_185 : decode cX11_init 185 = .ok (.iconst 1, 1) := by decide +kernel
theorem dX11_init_186 : decode cX11_init 186 = .ok (.putfield 100, 3) := by decide +kernel
theorem dX11_init_189 : decode cX11_init 189 = .ok (.iconst 0, 1) := by decide +kernel
theorem dX11_init_190 : decode cX11_init 190 = .ok (.istore_n 1, 1) := by decide +kernel
theorem dX11_init_191 : decode cX11_init 191 = .ok (.iload_n 1, 1) := by decide +kernel
theorem dX11_init_192 : decode cX11_init 192 = .ok (.aload_n 0, 1) := by decide +kernel
theorem dX11_init_193 : decode cX11_init 193 = .ok (.getfield 52, 3) := by decide +kernel
theorem dX11_init_196 : decode cX11_init 196 = .ok (.arraylength, 1) := by decide +kernel
theorem dX11_init_197 : decode cX11_init 197 = .ok (.if_icmp .ge 22, 3) := by decide +kernel
theorem dX11_init_200 : decode cX11_init 200 = .ok (.aload_n 0, 1) := by decide +kernel
theorem dX11_init_201 : decode cX11_init 201 = .ok (.getfield 52, 3) := by decide +kernel
theorem dX11_init_204 : decode cX11_init 204 = .ok (.iload_n 1, 1) := by decide +kernel
theorem dX11_init_205 : decode cX11_init 205 = .ok (.new 50, 3) := by decide +kernel
theorem dX11_init_208 : decode cX11_init 208 = .ok (.dup, 1) := by decide +kernel
theorem dX11_init_209 : decode cX11_init 209 = .ok (.invokespecial 104, 3) := by decide +kernel
theorem dX11_init_212 : decode cX11_init 212 = .ok (.aastore, 1) := by decide +kernel
theorem dX11_init_213 : decode cX11_init 213 = .ok (.iinc 1 1, 3) := by decide +kernel
theorem dX11_init_216 : decode cX11_init 216 = .ok (.goto (-25), 3) := by decide +kernel
theorem dX11_init_219 : decode cX11_init 219 = .ok (.return_, 1) := by decide +kernel
theorem cc_X11_init_0 {g : Gw} (hG : GF g) (D : Mm) (hD : ∀ j, D 0 j = fz (18, 0) j) : CT g yX11_init cX11_init 2 none 4 83 124 9429 (KT 1) true [mR 0] D (KT 125) true (fun r D' => r = none ∧ D' = mg 0 (ov EI) D) := by
  refine CT.mk hG (by decide +kernel) (by decide) (fun κ X Rt hin2 _ => ?_)
  have hin := hin2 rfl
  refine c_open (a := 0) (bI []) hD ?_
  refine at_aload_n 1 X rfl rfl dX11_init_0 rfl ?_
  refine at_objInit 4 X w_155 w_156 w_157 (by rw [Rt.1]; exact Nat.le_of_ble_eq_true rfl) (by rw [Rt.1]; exact Nat.le_of_ble_eq_true rfl) dX11_init_1 rfl ?_
  refine at_aload_n 5 X rfl rfl dX11_init_4 rfl ?_
  refine c_new 8 1 X clX10 w_158 w_159 w_122 k_1 (by decide) (by rw [Rt.1]; exact Nat.le_of_ble_eq_true rfl) (by rw [Rt.1]; exact Nat.le_of_ble_eq_true rfl) dX11_init_5 rfl ?_
  refine at_dup 9 X (by decide) dX11_init_8 rfl ?_
  refine at_callIN 12 X 1 (cc_X10_init_1 hG _ nz_fz) rfl mo_X10_init w_160 io_X10_init rfl rfl (crm Rt (by decide)) (Nat.le_of_ble_eq_true rfl) dX11_init_9 rfl ?_
  rintro _ _ ⟨rfl, rfl⟩
  refine c_part (by decide) (fun q h1 h2 j => (if_neg (by omega)).symm) ?_
  refine at_putfF 15 X hin 0 11 0 clX11 rfl (by decide) w_584 (KT_get (by decide) k_0) rfl (by decide) rfl (fun q => absurd q (by decide)) dX11_init_12 rfl ?_
  rw [ob_wr]
  refine at_aload_n 16 X rfl rfl dX11_init_15 rfl ?_
  refine at_iconst 17 X (by decide) dX11_init_16 rfl ?_
  refine c_newaI 19 3 X (n := 3) rfl (by decide) k_3 (by decide) (by decide) (fun j hj => (if_neg (by decide)).trans (ovEI0 e_3 (by decide +kernel) j hj)) (by rw [Rt.1]; exact Nat.le_of_ble_eq_true rfl) (by rw [Rt.1]; exact Nat.le_of_ble_eq_true rfl) dX11_init_17 rfl ?_
  refine at_putfF 22 X hin 0 11 1 clX11 rfl (by decide) w_585 (KT_get (by decide) k_0) rfl (by decide) rfl (fun q => absurd q (by decide)) dX11_init_19 rfl ?_
  rw [ob_wr]
  refine at_aload_n 23 X rfl rfl dX11_init_22 rfl ?_
  refine c_new 26 4 X clX7 w_189 w_190 w_123 k_4 (by decide) (by rw [Rt.1]; exact Nat.le_of_ble_eq_true rfl) (by rw [Rt.1]; exact Nat.le_of_ble_eq_true rfl) dX11_init_23 rfl ?_
  refine at_dup 27 X (by decide) dX11_init_26 rfl ?_
  refine at_callI 30 X 4 (cc_X7_init_4 hG _ nz_fz) rfl mo_X7_init w_191 io_X7_init rfl rfl (crm Rt (by decide)) (Nat.le_of_ble_eq_true rfl) dX11_init_27 rfl ?_
  rintro _ _ ⟨rfl, rfl⟩
  refine c_part (by decide) (fun q h1 h2 j => (if_neg (by omega)).symm) ?_
  refine at_putfF 33 X hin 0 11 2 clX11 rfl (by decide) w_586 (KT_get (by decide) k_0) rfl (by decide) rfl (fun q => absurd q (by decide)) dX11_init_30 rfl ?_
  rw [ob_wr]
  refine at_aload_n 34 X rfl rfl dX11_init_33 rfl ?_
  refine c_new 37 8 X clX7 w_189 w_190 w_123 k_8 (by decide) (by rw [Rt.1]; exact Nat.le_of_ble_eq_true rfl) (by rw [Rt.1]; exact Nat.le_of_ble_eq_true rfl) dX11_init_34 rfl ?_
  refine at_dup 38 X (by decide) dX11_init_37 rfl ?_
  refine at_callI 41 X 8 (cc_X7_init_8 hG _ nz_fz) rfl mo_X7_init w_191 io_X7_init rfl rfl (crm Rt (by decide)) (Nat.le_of_ble_eq_true rfl) dX11_init_38 rfl ?_
  rintro _ _ ⟨rfl, rfl⟩
  refine c_part (by decide) (fun q h1 h2 j => (if_neg (by omega)).symm) ?_
  refine at_putfF 44 X hin 0 11 3 clX11 rfl (by decide) w_587 (KT_get (by decide) k_0) rfl (by decide) rfl (fun q => absurd q (by decide)) dX11_init_41 rfl ?_
  rw [ob_wr]
  refine at_aload_n 45 X rfl rfl dX11_init_44 rfl ?_
  refine c_new 48 12 X clX8 w_217 w_218 w_124 k_12 (by decide) (by rw [Rt.1]; exact Nat.le_of_ble_eq_true rfl) (by rw [Rt.1]; exact Nat.le_of_ble_eq_true rfl) dX11_init_45 rfl ?_
  refine at_dup 49 X (by decide) dX11_init_48 rfl ?_
  refine at_callIN 52 X 12 (cc_X8_init_12 hG _ nz_fz) rfl mo_X8_init w_219 io_X8_init rfl rfl (crm Rt (by decide)) (Nat.le_of_ble_eq_true rfl) dX11_init_49 rfl ?_
  rintro _ _ ⟨rfl, rfl⟩
  refine c_part (by decide) (fun q h1 h2 j => (if_neg (by omega)).symm) ?_
  refine at_putfF 55 X hin 0 11 4 clX11 rfl (by decide) w_588 (KT_get (by decide) k_0) rfl (by decide) rfl (fun q => absurd q (by decide)) dX11_init_52 rfl ?_
  rw [ob_wr]
  refine at_aload_n 56 X rfl rfl dX11_init_55 rfl ?_
  refine c_new 59 16 X clX8 w_217 w_218 w_124 k_16 (by decide) (by rw [Rt.1]; exact Nat.le_of_ble_eq_true rfl) (by rw [Rt.1]; exact Nat.le_of_ble_eq_true rfl) dX11_init_56 rfl ?_
  refine at_dup 60 X (by decide) dX11_init_59 rfl ?_
  refine at_callIN 63 X 16 (cc_X8_init_16 hG _ nz_fz) rfl mo_X8_init w_219 io_X8_init rfl rfl (crm Rt (by decide)) (Nat.le_of_ble_eq_true rfl) dX11_init_60 rfl ?_
  rintro _ _ ⟨rfl, rfl⟩
  refine c_part (by decide) (fun q h1 h2 j => (if_neg (by omega)).symm) ?_
  refine at_putfF 66 X hin 0 11 5 clX11 rfl (by decide) w_589 (KT_get (by decide) k_0) rfl (by decide) rfl (fun q => absurd q (by decide)) dX11_init_63 rfl ?_
  rw [ob_wr]
  refine at_aload_n 67 X rfl rfl dX11_init_66 rfl ?_
  refine c_new 70 20 X clX8 w_217 w_218 w_124 k_20 (by decide) (by rw [Rt.1]; exact Nat.le_of_ble_eq_true rfl) (by rw [Rt.1]; exact Nat.le_of_ble_eq_true rfl) dX11_init_67 rfl ?_
  refine at_dup 71 X (by decide) dX11_init_70 rfl ?_
  refine at_callIN 74 X 20 (cc_X8_init_20 hG _ nz_fz) rfl mo_X8_init w_219 io_X8_init rfl rfl (crm Rt (by decide)) (Nat.le_of_ble_eq_true rfl) dX11_init_71 rfl ?_
  rintro _ _ ⟨rfl, rfl⟩
  refine c_part (by decide) (fun q h1 h2 j => (if_neg (by omega)).symm) ?_
  refine at_putfF 77 X hin 0 11 6 clX11 rfl (by decide) w_590 (KT_get (by decide) k_0) rfl (by decide) rfl (fun q => absurd q (by decide)) dX11_init_74 rfl ?_
  rw [ob_wr]
  refine at_aload_n 78 X rfl rfl dX11_init_77 rfl ?_
  refine c_new 81 24 X clX2 w_247 w_248 w_125 k_24 (by decide) (by rw [Rt.1]; exact Nat.le_of_ble_eq_true rfl) (by rw [Rt.1]; exact Nat.le_of_ble_eq_true rfl) dX11_init_78 rfl ?_
  refine at_dup 82 X (by decide) dX11_init_81 rfl ?_
  refine at_callIN 85 X 24 (cc_X2_init_24 hG _ nz_fz) rfl mo_X2_init w_249 io_X2_init rfl rfl (crm Rt (by decide)) (Nat.le_of_ble_eq_true rfl) dX11_init_82 rfl ?_
  rintro _ _ ⟨rfl, rfl⟩
  refine c_part (by decide) (fun q h1 h2 j => (if_neg (by omega)).symm) ?_
  refine at_putfF 88 X hin 0 11 7 clX11 rfl (by decide) w_591 (KT_get (by decide) k_0) rfl (by decide) rfl (fun q => absurd q (by decide)) dX11_init_85 rfl ?_
  rw [ob_wr]
  refine at_aload_n 89 X rfl rfl dX11_init_88 rfl ?_
  refine at_iconst 90 X (by decide) dX11_init_89 rfl ?_
  refine c_anewa 93 29 X (n := 3) rfl (by decide) w_270 k_29 (by decide) (by decide) (by decide) (by rw [Rt.1]; exact Nat.le_of_ble_eq_true rfl) (by rw [Rt.1]; exact Nat.le_of_ble_eq_true rfl) dX11_init_90 rfl ?_
  refine at_putfF 96 X hin 0 11 8 clX11 rfl (by decide) w_592 (KT_get (by decide) k_0) rfl (by decide) rfl (fun q => absurd q (by decide)) dX11_init_93 rfl ?_
  rw [ob_wr]
  refine at_aload_n 97 X rfl rfl dX11_init_96 rfl ?_
  refine c_new 100 30 X clX4 w_272 w_273 w_126 k_30 (by decide) (by rw [Rt.1]; exact Nat.le_of_ble_eq_true rfl) (by rw [Rt.1]; exact Nat.le_of_ble_eq_true rfl) dX11_init_97 rfl ?_
  refine at_dup 101 X (by decide) dX11_init_100 rfl ?_
  refine at_callIN 104 X 30 (cc_X4_init_30 hG _ nz_fz) rfl mo_X4_init w_274 io_X4_init rfl rfl (crm Rt (by decide)) (Nat.le_of_ble_eq_true rfl) dX11_init_101 rfl ?_
  rintro _ _ ⟨rfl, rfl⟩
  refine c_part (by decide) (fun q h1 h2 j => (if_neg (by omega)).symm) ?_
  refine at_putfF 107 X hin 0 11 9 clX11 rfl (by decide) w_593 (KT_get (by decide) k_0) rfl (by decide) rfl (fun q => absurd q (by decide)) dX11_init_104 rfl ?_
  rw [ob_wr]
  refine at_aload_n 108 X rfl rfl dX11_init_107 rfl ?_
  refine c_new 111 39 X clX4 w_272 w_273 w_126 k_39 (by decide) (by rw [Rt.1]; exact Nat.le_of_ble_eq_true rfl) (by rw [Rt.1]; exact Nat.le_of_ble_eq_true rfl) dX11_init_108 rfl ?_
  refine at_dup 112 X (by decide) dX11_init_111 rfl ?_
  refine at_callIN 115 X 39 (cc_X4_init_39 hG _ nz_fz) rfl mo_X4_init w_274 io_X4_init rfl rfl (crm Rt (by decide)) (Nat.le_of_ble_eq_true rfl) dX11_init_112 rfl ?_
  rintro _ _ ⟨rfl, rfl⟩
  refine c_part (by decide) (fun q h1 h2 j => (if_neg (by omega)).symm) ?_
  refine at_putfF 118 X hin 0 11 10 clX11 rfl (by decide) w_594 (KT_get (by decide) k_0) rfl (by decide) rfl (fun q => absurd q (by decide)) dX11_init_115 rfl ?_
  rw [ob_wr]
  refine at_aload_n 119 X rfl rfl dX11_init_118 rfl ?_
  refine c_new 122 48 X clX3 w_329 w_330 w_127 k_48 (by decide) (by rw [Rt.1]; exact Nat.le_of_ble_eq_true rfl) (by rw [Rt.1]; exact Nat.le_of_ble_eq_true rfl) dX11_init_119 rfl ?_
  refine at_dup 123 X (by decide) dX11_init_122 rfl ?_
  refine at_callIN 126 X 48 (cc_X3_init_48 hG _ nz_fz) rfl mo_X3_init w_331 io_X3_init rfl rfl (crm Rt (by decide)) (Nat.le_of_ble_eq_true rfl) dX11_init_123 rfl ?_
  rintro _ _ ⟨rfl, rfl⟩
  refine c_part (by decide) (fun q h1 h2 j => (if_neg (by omega)).symm) ?_
  refine at_putfF 129 X hin 0 11 11 clX11 rfl (by decide) w_595 (KT_get (by decide) k_0) rfl (by decide) rfl (fun q => absurd q (by decide)) dX11_init_126 rfl ?_
  rw [ob_wr]
  refine at_aload_n 130 X rfl rfl dX11_init_129 rfl ?_
  refine c_new 133 54 X clX3 w_329 w_330 w_127 k_54 (by decide) (by rw [Rt.1]; exact Nat.le_of_ble_eq_true rfl) (by rw [Rt.1]; exact Nat.le_of_ble_eq_true rfl) dX11_init_130 rfl ?_
  refine at_dup 134 X (by decide) dX11_init_133 rfl ?_
  refine at_callIN 137 X 54 (cc_X3_init_54 hG _ nz_fz) rfl mo_X3_init w_331 io_X3_init rfl rfl (crm Rt (by decide)) (Nat.le_of_ble_eq_true rfl) dX11_init_134 rfl ?_
  rintro _ _ ⟨rfl, rfl⟩
  refine c_part (by decide) (fun q h1 h2 j => (if_neg (by omega)).symm) ?_
  refine at_putfF 140 X hin 0 11 12 clX11 rfl (by decide) w_596 (KT_get (by decide) k_0) rfl (by decide) rfl (fun q => absurd q (by decide)) dX11_init_137 rfl ?_
  rw [ob_wr]
  refine at_aload_n 141 X rfl rfl dX11_init_140 rfl ?_
  refine c_new 144 60 X clX1 w_361 w_362 w_128 k_60 (by decide) (by rw [Rt.1]; exact Nat.le_of_ble_eq_true rfl) (by rw [Rt.1]; exact Nat.le_of_ble_eq_true rfl) dX11_init_141 rfl ?_
  refine at_dup 145 X (by decide) dX11_init_144 rfl ?_
  refine at_callIN 148 X 60 (cc_X1_init_60 hG _ nz_fz) rfl mo_X1_init w_363 io_X1_init rfl rfl (crm Rt (by decide)) (Nat.le_of_ble_eq_true rfl) dX11_init_145 rfl ?_
  rintro _ _ ⟨rfl, rfl⟩
  refine c_part (by decide) (fun q h1 h2 j => (if_neg (by omega)).symm) ?_
  refine at_putfF 151 X hin 0 11 13 clX11 rfl (by decide) w_597 (KT_get (by decide) k_0) rfl (by decide) rfl (fun q => absurd q (by decide)) dX11_init_148 rfl ?_
  rw [ob_wr]
  refine at_aload_n 152 X rfl rfl dX11_init_151 rfl ?_
  refine c_new 155 62 X clX6 w_380 w_381 w_129 k_62 (by decide) (by rw [Rt.1]; exact Nat.le_of_ble_eq_true rfl) (by rw [Rt.1]; exact Nat.le_of_ble_eq_true rfl) dX11_init_152 rfl ?_
  refine at_dup 156 X (by decide) dX11_init_155 rfl ?_
  refine at_callIN 159 X 62 (cc_X6_init_62 hG _ nz_fz) rfl mo_X6_init w_382 io_X6_init rfl rfl (crm Rt (by decide)) (Nat.le_of_ble_eq_true rfl) dX11_init_156 rfl ?_
  rintro _ _ ⟨rfl, rfl⟩
  refine c_part (by decide) (fun q h1 h2 j => (if_neg (by omega)).symm) ?_
  refine at_putfF 162 X hin 0 11 14 clX11 rfl (by decide) w_598 (KT_get (by decide) k_0) rfl (by decide) rfl (fun q => absurd q (by decide)) dX11_init_159 rfl ?_
  rw [ob_wr]
  refine at_aload_n 163 X rfl rfl dX11_init_162 rfl ?_
  refine c_new 166 68 X clX9 w_411 w_412 w_130 k_68 (by decide) (by rw [Rt.1]; exact Nat.le_of_ble_eq_true rfl) (by rw [Rt.1]; exact Nat.le_of_ble_eq_true rfl) dX11_init_163 rfl ?_
  refine at_dup 167 X (by decide) dX11_init_166 rfl ?_
  refine at_callI 170 X 68 (cc_X9_init_68 hG _ nz_fz) rfl mo_X9_init w_413 io_X9_init rfl rfl (crm Rt (by decide)) (Nat.le_of_ble_eq_true rfl) dX11_init_167 rfl ?_
  rintro _ _ ⟨rfl, rfl⟩
  refine c_part (by decide) (fun q h1 h2 j => (if_neg (by omega)).symm) ?_
  refine at_putf 173 X 0 11 15 clX11 (by decide) w_599 (KT_get (by decide) k_0) rfl (by decide) rfl (fun q => absurd q (by decide)) dX11_init_170 rfl ?_
  rw [ob_wr]
  refine at_aload_n 174 X rfl rfl dX11_init_173 rfl ?_
  refine c_new 177 83 X clX9 w_411 w_412 w_130 k_83 (by decide) (by rw [Rt.1]; exact Nat.le_of_ble_eq_true rfl) (by rw [Rt.1]; exact Nat.le_of_ble_eq_true rfl) dX11_init_174 rfl ?_
  refine at_dup 178 X (by decide) dX11_init_177 rfl ?_
  refine at_callI 181 X 83 (cc_X9_init_83 hG _ nz_fz) rfl mo_X9_init w_413 io_X9_init rfl rfl (crm Rt (by decide)) (Nat.le_of_ble_eq_true rfl) dX11_init_178 rfl ?_
  rintro _ _ ⟨rfl, rfl⟩
  refine c_part (by decide) (fun q h1 h2 j => (if_neg (by omega)).symm) ?_
  refine at_putf 184 X 0 11 16 clX11 (by decide) w_600 (KT_get (by decide) k_0) rfl (by decide) rfl (fun q => absurd q (by decide)) dX11_init_181 rfl ?_
  rw [ob_wr]
  refine at_aload_n 185 X rfl rfl dX11_init_184 rfl ?_
  refine at_iconst 186 X (by decide) dX11_init_185 rfl ?_
  refine at_putf 189 X 0 11 19 clX11 (by decide) w_603 (KT_get (by decide) k_0) rfl (by decide) rfl (fun _ => by decide) dX11_init_186 rfl ?_
  rw [ob_wr]
  refine at_iconst 190 X (by decide) dX11_init_189 rfl ?_
  refine at_istore_n 191 X rfl dX11_init_190 rfl (by decide) ?_
  refine at_sub [(0, mR 0), (1, mI 0)] ⟨rfl, rfl, trivial⟩ ?_
  refine at_iload_n 192 X rfl rfl dX11_init_191 rfl ?_
  refine at_aload_n 193 X rfl rfl dX11_init_192 rfl ?_
  refine r_getR 196 X (b := 29) f_X11_52 (KT_get (by decide) k_0) (by rw [ob_at]; rfl) dX11_init_193 rfl ?_
  refine at_alen 197 X 29 (KT_get (by decide) k_29) (by decide) (by decide) dX11_init_196 rfl ?_
  refine at_icmp_ge 200 219 X dX11_init_197 rfl (by decide) (fun h => absurd h (by decide)) (fun _ => ?_)
  refine at_aload_n 201 X rfl rfl dX11_init_200 rfl ?_
  refine r_getR 204 X (b := 29) f_X11_52 (KT_get (by decide) k_0) (by rw [ob_at]; rfl) dX11_init_201 rfl ?_
  refine at_iload_n 205 X rfl rfl dX11_init_204 rfl ?_
  refine c_new 208 98 X clX5 w_270 w_560 w_133 k_98 (by decide) (by rw [Rt.1]; exact Nat.le_of_ble_eq_true rfl) (by rw [Rt.1]; exact Nat.le_of_ble_eq_true rfl) dX11_init_205 rfl ?_
  refine at_dup 209 X (show ¬ (2 : Nat) = 1 by decide) dX11_init_208 rfl ?_
  refine at_callIN 212 X 98 (cc_X5_init_98 hG _ nz_fz) rfl mo_X5_init w_561 io_X5_init rfl rfl (crm Rt (by decide)) (Nat.le_of_ble_eq_true rfl) dX11_init_209 rfl ?_
  rintro _ _ ⟨rfl, rfl⟩
  refine c_part (by decide) (fun q h1 h2 j => (if_neg (by omega)).symm) ?_
  refine at_aastore 213 X 29 98 (KT_get (by decide) k_29) (KT_get (by decide) k_98) (by decide) (by decide) dX11_init_212 rfl ?_
  refine at_mem ob_bI ?_
  refine at_iinc 216 X rfl dX11_init_213 rfl (by decide) ?_
  refine at_goto 191 X dX11_init_216 (by decide) ?_
  refine at_sub [(0, mR 0), (1, mI 1)] ⟨rfl, congrArg some (congrArg mI (by decide)), trivial⟩ ?_
  refine at_iload_n 192 X rfl rfl dX11_init_191 rfl ?_
  refine at_aload_n 193 X rfl rfl dX11_init_192 rfl ?_
  refine r_getR 196 X (b := 29) f_X11_52 (KT_get (by decide) k_0) (by rw [ob_at]; rfl) dX11_init_193 rfl ?_
  refine at_alen 197 X 29 (KT_get (by decide) k_29) (by decide) (by decide) dX11_init_196 rfl ?_
  refine at_icmp_ge 200 219 X dX11_init_197 rfl (by decide) (fun h => absurd h (by decide)) (fun _ => ?_)
  refine at_aload_n 201 X rfl rfl dX11_init_200 rfl ?_
  refine r_getR 204 X (b := 29) f_X11_52 (KT_get (by decide) k_0) (by rw [ob_at]; rfl) dX11_init_201 rfl ?_
  refine at_iload_n 205 X rfl rfl dX11_init_204 rfl ?_
  refine c_new 208 107 X clX5 w_270 w_560 w_133 k_107 (by decide) (by rw [Rt.1]; exact Nat.le_of_ble_eq_true rfl) (by rw [Rt.1]; exact Nat.le_of_ble_eq_true rfl) dX11_init_205 rfl ?_
  refine at_dup 209 X (show ¬ (2 : Nat) = 1 by decide) dX11_init_208 rfl ?_
  refine at_callIN 212 X 107 (cc_X5_init_107 hG _ nz_fz) rfl mo_X5_init w_561 io_X5_init rfl rfl (crm Rt (by decide)) (Nat.le_of_ble_eq_true rfl) dX11_init_209 rfl ?_
  rintro _ _ ⟨rfl, rfl⟩
  refine c_part (by decide) (fun q h1 h2 j => (if_neg (by omega)).symm) ?_
  refine at_aastore 213 X 29 107 (KT_get (by decide) k_29) (KT_get (by decide) k_107) (by decide) (by decide) dX11_init_212 rfl ?_
  refine at_mem ob_bI ?_
  refine at_iinc 216 X rfl dX11_init_213 rfl (by decide) ?_
  refine at_goto 191 X dX11_init_216 (by decide) ?_
  refine at_sub [(0, mR 0), (1, mI 2)] ⟨rfl, congrArg some (congrArg mI (by decide)), trivial⟩ ?_
  refine at_iload_n 192 X rfl rfl dX11_init_191 rfl ?_
  refine at_aload_n 193 X rfl rfl dX11_init_192 rfl ?_
  refine r_getR 196 X (b := 29) f_X11_52 (KT_get (by decide) k_0) (by rw [ob_at]; rfl) dX11_init_193 rfl ?_
  refine at_alen 197 X 29 (KT_get (by decide) k_29) (by decide) (by decide) dX11_init_196 rfl ?_
  refine at_icmp_ge 200 219 X dX11_init_197 rfl (by decide) (fun h => absurd h (by decide)) (fun _ => ?_)
  refine at_aload_n 201 X rfl rfl dX11_init_200 rfl ?_
  refine r_getR 204 X (b := 29) f_X11_52 (KT_get (by decide) k_0) (by rw [ob_at]; rfl) dX11_init_201 rfl ?_
  refine at_iload_n 205 X rfl rfl dX11_init_204 rfl ?_
  refine c_new 208 116 X clX5 w_270 w_560 w_133 k_116 (by decide) (by rw [Rt.1]; exact Nat.le_of_ble_eq_true rfl) (by rw [Rt.1]; exact Nat.le_of_ble_eq_true rfl) dX11_init_205 rfl ?_
  refine at_dup 209 X (show ¬ (2 : Nat) = 1 by decide) dX11_init_208 rfl ?_
  refine at_callIN 212 X 116 (cc_X5_init_116 hG _ nz_fz) rfl mo_X5_init w_561 io_X5_init rfl rfl (crm Rt (by decide)) (Nat.le_of_ble_eq_true rfl) dX11_init_209 rfl ?_
  rintro _ _ ⟨rfl, rfl⟩
  refine c_part (by decide) (fun q h1 h2 j => (if_neg (by omega)).symm) ?_
  refine at_aastore 213 X 29 116 (KT_get (by decide) k_29) (KT_get (by decide) k_116) (by decide) (by decide) dX11_init_212 rfl ?_
  refine at_mem ob_bI ?_
  refine at_iinc 216 X rfl dX11_init_213 rfl (by decide) ?_
  refine at_goto 191 X dX11_init_216 (by decide) ?_
  refine at_sub [(0, mR 0), (1, mI 3)] ⟨rfl, congrArg some (congrArg mI (by decide)), trivial⟩ ?_
  refine at_iload_n 192 X rfl rfl dX11_init_191 rfl ?_
  refine at_aload_n 193 X rfl rfl dX11_init_192 rfl ?_
  refine r_getR 196 X (b := 29) f_X11_52 (KT_get (by decide) k_0) (by rw [ob_at]; rfl) dX11_init_193 rfl ?_
  refine at_alen 197 X 29 (KT_get (by decide) k_29) (by decide) (by decide) dX11_init_196 rfl ?_
  refine at_icmp_ge 200 219 X dX11_init_197 rfl (by decide) (fun _ => ?_) (fun h => absurd h (by decide))
  refine c_shut (BI := ov EI) k_0 (by decide +kernel) (fun q h1 h2 kq hq j hj => ?_) ?_
  · by_cases c : q = 29
    · subst c; rw [k_29] at hq; cases hq; exact (by decide +kernel : ∀ j, j < slen (4, 3) → bI [(2, 116), (1, 107), (0, 98)] 29 j = ov EI 29 j) j hj
    · exact if_neg c
  exact at_vret X Rt ⟨rfl, rfl⟩ (Nat.le_of_ble_eq_true rfl) (Nat.le_of_ble_eq_true rfl) dX11_init_219
