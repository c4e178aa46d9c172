theorem dL_law__1081 : decode code 1081 = .ok (.aload_n 1, 1) := by decide +kernel
theorem dL_law__1082 : decode code 1082 = .ok (.aload_n 0, 1) := by decide +kernel
theorem dL_law__1083 : decode code 1083 = .ok (.iload 4, 2) := by decide +kernel
theorem dL_law__1085 : decode code 1085 = .ok (.iconst 1, 1) := by decide +kernel
theorem dL_law__1086 : decode code 1086 = .ok (.iadd, 1) := by decide +kernel
theorem dL_law__1087 : decode code 1087 = .ok (.iaload, 1) := by decide +kernel
theorem dL_law__1088 : decode code 1088 = .ok (.aload_n 0, 1) := by decide +kernel
theorem dL_law__1089 : decode code 1089 = .ok (.iload 4, 2) := by decide +kernel
theorem dL_law__1091 : decode code 1091 = .ok (.iconst 2, 1) := by decide +kernel
theorem dL_law__1092 : decode code 1092 = .ok (.iadd, 1) := by decide +kernel
theorem dL_law__1093 : decode code 1093 = .ok (.iaload, 1) := by decide +kernel
theorem dL_law__1094 : decode code 1094 = .ok (.aload_n 0, 1) := by decide +kernel
theorem dL_law__1095 : decode code 1095 = .ok (.iload 4, 2) := by decide +kernel
theorem dL_law__1097 : decode code 1097 = .ok (.iconst 3, 1) := by decide +kernel
theorem dL_law__1098 : decode code 1098 = .ok (.iadd, 1) := by decide +kernel
theorem dL_law__1099 : decode code 1099 = .ok (.iaload, 1) := by decide +kernel
theorem dL_law__1100 : decode code 1100 = .ok (.aload_n 3, 1) := by decide +kernel
theorem dL_law__1101 : decode code 1101 = .ok (.invokestatic 201, 3) := by decide +kernel
theorem dL_law__1104 : decode code 1104 = .ok (.istore 5, 2) := by decide +kernel
theorem dL_law__1106 : decode code 1106 = .ok (.aload_n 2, 1) := by decide +kernel
theorem dL_law__1107 : decode code 1107 = .ok (.aload_n 0, 1) := by decide +kernel
theorem dL_law__1108 : decode code 1108 = .ok (.iload 4, 2) := by decide +kernel
theorem dL_law__1110 : decode code 1110 = .ok (.iconst 1, 1) := by decide +kernel
theorem dL_law__1111 : decode code 1111 = .ok (.iadd, 1) := by decide +kernel
theorem dL_law__1112 : decode code 1112 = .ok (.iaload, 1) := by decide +kernel
theorem dL_law__1113 : decode code 1113 = .ok (.aload_n 0, 1) := by decide +kernel
theorem dL_law__1114 : decode code 1114 = .ok (.iload 4, 2) := by decide +kernel
theorem dL_law__1116 : decode code 1116 = .ok (.iconst 2, 1) := by decide +kernel
theorem dL_law__1117 : decode code 1117 = .ok (.iadd, 1) := by decide +kernel
theorem dL_law__1118 : decode code 1118 = .ok (.iaload, 1) := by decide +kernel
theorem dL_law__1119 : decode code 1119 = .ok (.aload_n 0, 1) := by decide +kernel
theorem dL_law__1120 : decode code 1120 = .ok (.iload 4, 2) := by decide +kernel
theorem dL_law__1122 : decode code 1122 = .ok (.iconst 3, 1) := by decide +kernel
theorem dL_law__1123 : decode code 1123 = .ok (.iadd, 1) := by decide +kernel
theorem dL_law__1124 : decode code 1124 = .ok (.iaload, 1) := by decide +kernel
theorem dL_law__1125 : decode code 1125 = .ok (.invokevirtual 203, 3) := by decide +kernel
theorem dL_law__1128 : decode code 1128 = .ok (.lstore 6, 2) := by decide +kernel
theorem dL_law__1130 : decode code 1130 = .ok (.aload_n 2, 1) := by decide +kernel
theorem dL_law__1131 : decode code 1131 = .ok (.invokevirtual 160, 3) := by decide +kernel
theorem dL_law__1134 : decode code 1134 = .ok (.iload 5, 2) := by decide +kernel
theorem dL_law__1136 : decode code 1136 = .ok (.if_icmp .eq 5, 3) := by decide +kernel
theorem dL_law__1139 : decode code 1139 = .ok (.iconst 0, 1) := by decide +kernel
theorem dL_law__1140 : decode code 1140 = .ok (.ireturn, 1) := by decide +kernel
theorem dL_law__1141 : decode code 1141 = .ok (.iload 5, 2) := by decide +kernel
theorem dL_law__1143 : decode code 1143 = .ok (.ifCond .ne 14, 3) := by decide +kernel
theorem dL_law__1146 : decode code 1146 = .ok (.aload_n 3, 1) := by decide +kernel
theorem dL_law__1147 : decode code 1147 = .ok (.iconst 0, 1) := by decide +kernel
theorem dL_law__1148 : decode code 1148 = .ok (.laload, 1) := by decide +kernel
theorem dL_law__1149 : decode code 1149 = .ok (.lload 6, 2) := by decide +kernel
theorem dL_law__1151 : decode code 1151 = .ok (.lcmp, 1) := by decide +kernel
theorem dL_law__1152 : decode code 1152 = .ok (.ifCond .eq 5, 3) := by decide +kernel
theorem dL_law__1155 : decode code 1155 = .ok (.iconst 0, 1) := by decide +kernel
theorem dL_law__1156 : decode code 1156 = .ok (.ireturn, 1) := by decide +kernel
theorem dL_law__1157 : decode code 1157 = .ok (.goto 2209, 3) := by decide +kernel
theorem case_13 {INV INV' : Mm → Prop} {g : Gw} {p : Program} {e : Env} {s : State} {m : MethodId} {below : List Frame} {meth : Method} {c : Code} {b L : Nat} {xs : Nat → Int32} (hL : L ≤ 3072) (hG : GF g) (X : CX g (KL p e s m below meth c b) code R_law 8) (S : SCR g (KL p e s m below meth c b) b L xs) {fr lo mc ms fr2 lo2 : Nat} (M : Mm → Int → Int → Int → Nat → Int → Mm → Prop) (hX : ∀ (E : Mm) (x0 x1 x2 : Int), INV E → CTX g yX11_rests cX11_rests 4 (some .long) fr lo mc ms K2 false [mR 0, mI x0, mI x1, mI x2] (ov E) K2 false (fun r D' => ∃ (v : Int) (E1 : Mm), r = some (mL v) ∧ D' = ov E1 ∧ M E x0 x1 x2 0 v E1) (fun X D' => ∃ (c : Nat) (E1 : Mm), ((c = 1 ∧ X = "java/lang/IndexOutOfBoundsException") ∨ (c = 2 ∧ X = "java/lang/IllegalArgumentException")) ∧ D' = ov E1 ∧ M E x0 x1 x2 c 0 E1)) (hM : ∀ (E : Mm) (x0 x1 x2 : Int) (c : Nat) (v : Int) (E1 : Mm), INV E → M E x0 x1 x2 c v E1 → CT g yX12_rests cX12_rests 4 (some .long) fr2 lo2 0 0 K2 false [mR 125, mI x0, mI x1, mI x2] (ov (if c = 0 then wr E1 813 0 v else E1)) K2 false (fun r D' => ∃ (bb : Int) (E2 : Mm), r = some (mL bb) ∧ D' = ov E2 ∧ INV' E2 ∧ E2 125 0 = (c : Int) ∧ (c = 0 → E2 813 0 = bb))) (hr1 : fr + 2 ≤ room_1.frames ∧ 8 + (6 + 11) + (lo + 23) ≤ room_1.locals) (hr2 : fr2 + 1 ≤ room_1.frames ∧ 8 + (4 + 11) + lo2 ≤ room_1.locals) (hmc : mc ≤ 10) (hms : ms ≤ 100) (E : Mm) (n cells slots : Nat) (hE : INV E) (hn : n + 6 ≤ L) (hc : cells + 10 ≤ 601024) (hs : slots + 100 ≤ 7293034) (hend : ∀ E' : Mm, INV' E' → AT g (KL p e s m below meth c b) K2 false (cells + 10) (slots + 100) 3366 (lawL b n) [] (ov E')) : AT g (KL p e s m below meth c b) K2 false cells slots 1081 (lawL b n) [] (ov E) := by
  refine at_aload_n 1082 X rfl rfl dL_law__1081 rfl ?_
  refine at_xload_n 1083 X rfl rfl dL_law__1082 rfl ?_
  refine at_iload 1085 X rfl dL_law__1083 rfl ?_
  refine at_iconst 1086 X (by decide) dL_law__1085 rfl ?_
  refine at_iadd 1087 X dL_law__1086 rfl ?_
  rw [w32_id (by omega) (by omega)]
  refine at_xint 1088 X S (by omega) (by omega) dL_law__1087 rfl ?_
  refine at_xload_n 1089 X rfl rfl dL_law__1088 rfl ?_
  refine at_iload 1091 X rfl dL_law__1089 rfl ?_
  refine at_iconst 1092 X (by decide) dL_law__1091 rfl ?_
  refine at_iadd 1093 X dL_law__1092 rfl ?_
  rw [w32_id (by omega) (by omega)]
  refine at_xint 1094 X S (by omega) (by omega) dL_law__1093 rfl ?_
  refine at_xload_n 1095 X rfl rfl dL_law__1094 rfl ?_
  refine at_iload 1097 X rfl dL_law__1095 rfl ?_
  refine at_iconst 1098 X (by decide) dL_law__1097 rfl ?_
  refine at_iadd 1099 X dL_law__1098 rfl ?_
  rw [w32_id (by omega) (by omega)]
  refine at_xint 1100 X S (by omega) (by omega) dL_law__1099 rfl ?_
  refine at_aload_n 1101 X rfl rfl dL_law__1100 rfl ?_
  refine at_callSH (n := 5) 1104 X (lh_rests hG E _ _ _ (M E _ _ _) (hX E _ _ _ hE)) w_1314 w_120 rfl (by decide +kernel) w_1312 w_1313 rfl rfl (crl ⟨by omega, by omega⟩ (by omega) (by omega)) (Nat.le_of_ble_eq_true rfl) dL_law__1101 rfl ?_
  rintro _ _ ⟨cc, v, E1, rfl, hM1, rfl⟩
  refine at_istore 1106 X dL_law__1104 rfl (by decide) ?_
  refine at_aload_n 1107 X rfl rfl dL_law__1106 rfl ?_
  refine at_xload_n 1108 X rfl rfl dL_law__1107 rfl ?_
  refine at_iload 1110 X rfl dL_law__1108 rfl ?_
  refine at_iconst 1111 X (by decide) dL_law__1110 rfl ?_
  refine at_iadd 1112 X dL_law__1111 rfl ?_
  rw [w32_id (by omega) (by omega)]
  refine at_xint 1113 X S (by omega) (by omega) dL_law__1112 rfl ?_
  refine at_xload_n 1114 X rfl rfl dL_law__1113 rfl ?_
  refine at_iload 1116 X rfl dL_law__1114 rfl ?_
  refine at_iconst 1117 X (by decide) dL_law__1116 rfl ?_
  refine at_iadd 1118 X dL_law__1117 rfl ?_
  rw [w32_id (by omega) (by omega)]
  refine at_xint 1119 X S (by omega) (by omega) dL_law__1118 rfl ?_
  refine at_xload_n 1120 X rfl rfl dL_law__1119 rfl ?_
  refine at_iload 1122 X rfl dL_law__1120 rfl ?_
  refine at_iconst 1123 X (by decide) dL_law__1122 rfl ?_
  refine at_iadd 1124 X dL_law__1123 rfl ?_
  rw [w32_id (by omega) (by omega)]
  refine at_xint 1125 X S (by omega) (by omega) dL_law__1124 rfl ?_
  refine at_callV 1128 X _ 12 (hM E _ _ _ _ _ _ hE hM1) clX12 rfl k_125 mo_X12_rests w_2197 vo_X12_rests.1 vo_X12_rests.2 rfl rfl (crl ⟨by omega, by omega⟩ (by omega) (by omega)) (Nat.le_of_ble_eq_true rfl) dL_law__1125 rfl ?_
  rintro _ _ ⟨bb, E2, rfl, rfl, hE2, hth, hbb⟩
  refine at_lstore 1130 X dL_law__1128 rfl (by decide) ?_
  refine at_aload_n 1131 X rfl rfl dL_law__1130 rfl ?_
  refine at_callV 1134 X _ 12 (ct_X12_thrown hG E2) clX12 rfl k_125 mo_X12_thrown w_1945 vo_X12_thrown.1 vo_X12_thrown.2 rfl rfl (crl ⟨Nat.le_of_ble_eq_true rfl, Nat.le_of_ble_eq_true rfl⟩ (by omega) (by omega)) (Nat.le_of_ble_eq_true rfl) dL_law__1131 rfl ?_
  rintro _ _ ⟨rfl, rfl⟩
  rw [hth]
  refine at_iload 1136 X rfl dL_law__1134 rfl ?_
  refine at_icmp_eq 1139 1141 X dL_law__1136 rfl (by decide) (fun _ => ?_) (fun h => absurd rfl h)
  refine at_iload 1143 X rfl dL_law__1141 rfl ?_
  refine at_if_ne 1146 1157 X dL_law__1143 rfl (by decide) (fun h => ?_) (fun h => ?_)
  · refine at_goto 3366 X dL_law__1157 (by decide) ?_
    exact at_sub _ (by exact ⟨rfl, rfl, rfl, rfl, rfl, trivial⟩) (at_widen (by omega) (by omega) (hend E2 hE2))
  · have hc0 : cc = 0 := by omega
    have hbb := hbb hc0
    refine at_aload_n 1147 X rfl rfl dL_law__1146 rfl ?_
    refine at_iconst 1148 X (by decide) dL_law__1147 rfl ?_
    refine m_laload 1149 X k_813 e_813 (by decide) (by decide) dL_law__1148 rfl ?_
    refine at_lload 1151 X rfl dL_law__1149 rfl ?_
    refine at_lcmp 1152 X dL_law__1151 rfl ?_
    refine at_if_eq 1155 1157 X dL_law__1152 rfl (by decide) (fun _ => ?_) (fun h => absurd (lcmp_eq (by first | exact hbb | (rw [show (0 : Int).toNat = 0 from rfl, hbb]; omega))) h)
    refine at_goto 3366 X dL_law__1157 (by decide) ?_
    exact at_sub _ (by exact ⟨rfl, rfl, rfl, rfl, rfl, trivial⟩) (at_widen (by omega) (by omega) (hend E2 hE2))
theorem dL_law__1160 : decode code 1160 = .ok (.aload_n 1, 1) := by decide +kernel
theorem dL_law__1161 : decode code 1161 = .ok (.aload_n 0, 1) := by decide +kernel
theorem dL_law__1162 : decode code 1162 = .ok (.iload 4, 2) := by decide +kernel
theorem dL_law__1164 : decode code 1164 = .ok (.iconst 1, 1) := by decide +kernel
theorem dL_law__1165 : decode code 1165 = .ok (.iadd, 1) := by decide +kernel
theorem dL_law__1166 : decode code 1166 = .ok (.iaload, 1) := by decide +kernel
theorem dL_law__1167 : decode code 1167 = .ok (.aload_n 0, 1) := by decide +kernel
theorem dL_law__1168 : decode code 1168 = .ok (.iload 4, 2) := by decide +kernel
theorem dL_law__1170 : decode code 1170 = .ok (.iconst 2, 1) := by decide +kernel
theorem dL_law__1171 : decode code 1171 = .ok (.iadd, 1) := by decide +kernel
theorem dL_law__1172 : decode code 1172 = .ok (.iaload, 1) := by decide +kernel
theorem dL_law__1173 : decode code 1173 = .ok (.aload_n 0, 1) := by decide +kernel
theorem dL_law__1174 : decode code 1174 = .ok (.iload 4, 2) := by decide +kernel
theorem dL_law__1176 : decode code 1176 = .ok (.iconst 3, 1) := by decide +kernel
theorem dL_law__1177 : decode code 1177 = .ok (.iadd, 1) := by decide +kernel
theorem dL_law__1178 : decode code 1178 = .ok (.iaload, 1) := by decide +kernel
theorem dL_law__1179 : decode code 1179 = .ok (.aload_n 3, 1) := by decide +kernel
theorem dL_law__1180 : decode code 1180 = .ok (.invokestatic 204, 3) := by decide +kernel
theorem dL_law__1183 : decode code 1183 = .ok (.istore 5, 2) := by decide +kernel
theorem dL_law__1185 : decode code 1185 = .ok (.aload_n 2, 1) := by decide +kernel
theorem dL_law__1186 : decode code 1186 = .ok (.aload_n 0, 1) := by decide +kernel
theorem dL_law__1187 : decode code 1187 = .ok (.iload 4, 2) := by decide +kernel
theorem dL_law__1189 : decode code 1189 = .ok (.iconst 1, 1) := by decide +kernel
theorem dL_law__1190 : decode code 1190 = .ok (.iadd, 1) := by decide +kernel
theorem dL_law__1191 : decode code 1191 = .ok (.iaload, 1) := by decide +kernel
theorem dL_law__1192 : decode code 1192 = .ok (.aload_n 0, 1) := by decide +kernel
theorem dL_law__1193 : decode code 1193 = .ok (.iload 4, 2) := by decide +kernel
theorem dL_law__1195 : decode code 1195 = .ok (.iconst 2, 1) := by decide +kernel
theorem dL_law__1196 : decode code 1196 = .ok (.iadd, 1) := by decide +kernel
theorem dL_law__1197 : decode code 1197 = .ok (.iaload, 1) := by decide +kernel
theorem dL_law__1198 : decode code 1198 = .ok (.aload_n 0, 1) := by decide +kernel
theorem dL_law__1199 : decode code 1199 = .ok (.iload 4, 2) := by decide +kernel
theorem dL_law__1201 : decode code 1201 = .ok (.iconst 3, 1) := by decide +kernel
theorem dL_law__1202 : decode code 1202 = .ok (.iadd, 1) := by decide +kernel
theorem dL_law__1203 : decode code 1203 = .ok (.iaload, 1) := by decide +kernel
theorem dL_law__1204 : decode code 1204 = .ok (.invokevirtual 206, 3) := by decide +kernel
theorem dL_law__1207 : decode code 1207 = .ok (.lstore 6, 2) := by decide +kernel
theorem dL_law__1209 : decode code 1209 = .ok (.aload_n 2, 1) := by decide +kernel
theorem dL_law__1210 : decode code 1210 = .ok (.invokevirtual 160, 3) := by decide +kernel
theorem dL_law__1213 : decode code 1213 = .ok (.iload 5, 2) := by decide +kernel
theorem dL_law__1215 : decode code 1215 = .ok (.if_icmp .eq 5, 3) := by decide +kernel
theorem dL_law__1218 : decode code 1218 = .ok (.iconst 0, 1) := by decide +kernel
theorem dL_law__1219 : decode code 1219 = .ok (.ireturn, 1) := by decide +kernel
theorem dL_law__1220 : decode code 1220 = .ok (.iload 5, 2) := by decide +kernel
theorem dL_law__1222 : decode code 1222 = .ok (.ifCond .ne 14, 3) := by decide +kernel
theorem dL_law__1225 : decode code 1225 = .ok (.aload_n 3, 1) := by decide +kernel
theorem dL_law__1226 : decode code 1226 = .ok (.iconst 0, 1) := by decide +kernel
theorem dL_law__1227 : decode code 1227 = .ok (.laload, 1) := by decide +kernel
theorem dL_law__1228 : decode code 1228 = .ok (.lload 6, 2) := by decide +kernel
theorem dL_law__1230 : decode code 1230 = .ok (.lcmp, 1) := by decide +kernel
theorem dL_law__1231 : decode code 1231 = .ok (.ifCond .eq 5, 3) := by decide +kernel
theorem dL_law__1234 : decode code 1234 = .ok (.iconst 0, 1) := by decide +kernel
theorem dL_law__1235 : decode code 1235 = .ok (.ireturn, 1) := by decide +kernel
theorem dL_law__1236 : decode code 1236 = .ok (.goto 2130, 3) := by decide +kernel
theorem case_14 {INV INV' : Mm → Prop} {g : Gw} {p : Program} {e : Env} {s : State} {m : MethodId} {below : List Frame} {meth : Method} {c : Code} {b L : Nat} {xs : Nat → Int32} (hL : L ≤ 3072) (hG : GF g) (X : CX g (KL p e s m below meth c b) code R_law 8) (S : SCR g (KL p e s m below meth c b) b L xs) {fr lo mc ms fr2 lo2 : Nat} (M : Mm → Int → Int → Int → Nat → Int → Mm → Prop) (hX : ∀ (E : Mm) (x0 x1 x2 : Int), INV E → CTX g yX11_puts cX11_puts 4 (some .long) fr lo mc ms K2 false [mR 0, mI x0, mI x1, mI x2] (ov E) K2 false (fun r D' => ∃ (v : Int) (E1 : Mm), r = some (mL v) ∧ D' = ov E1 ∧ M E x0 x1 x2 0 v E1) (fun X D' => ∃ (c : Nat) (E1 : Mm), ((c = 1 ∧ X = "java/util/NoSuchElementException") ∨ (c = 2 ∧ X = "java/lang/IllegalArgumentException")) ∧ D' = ov E1 ∧ M E x0 x1 x2 c 0 E1)) (hM : ∀ (E : Mm) (x0 x1 x2 : Int) (c : Nat) (v : Int) (E1 : Mm), INV E → M E x0 x1 x2 c v E1 → CT g yX12_puts cX12_puts 4 (some .long) fr2 lo2 0 0 K2 false [mR 125, mI x0, mI x1, mI x2] (ov (if c = 0 then wr E1 813 0 v else E1)) K2 false (fun r D' => ∃ (bb : Int) (E2 : Mm), r = some (mL bb) ∧ D' = ov E2 ∧ INV' E2 ∧ E2 125 0 = (c : Int) ∧ (c = 0 → E2 813 0 = bb))) (hr1 : fr + 2 ≤ room_1.frames ∧ 8 + (6 + 11) + (lo + 23) ≤ room_1.locals) (hr2 : fr2 + 1 ≤ room_1.frames ∧ 8 + (4 + 11) + lo2 ≤ room_1.locals) (hmc : mc ≤ 10) (hms : ms ≤ 100) (E : Mm) (n cells slots : Nat) (hE : INV E) (hn : n + 6 ≤ L) (hc : cells + 10 ≤ 601024) (hs : slots + 100 ≤ 7293034) (hend : ∀ E' : Mm, INV' E' → AT g (KL p e s m below meth c b) K2 false (cells + 10) (slots + 100) 3366 (lawL b n) [] (ov E')) : AT g (KL p e s m below meth c b) K2 false cells slots 1160 (lawL b n) [] (ov E) := by
  refine at_aload_n 1161 X rfl rfl dL_law__1160 rfl ?_
  refine at_xload_n 1162 X rfl rfl dL_law__1161 rfl ?_
  refine at_iload 1164 X rfl dL_law__1162 rfl ?_
  refine at_iconst 1165 X (by decide) dL_law__1164 rfl ?_
  refine at_iadd 1166 X dL_law__1165 rfl ?_
  rw [w32_id (by omega) (by omega)]
  refine at_xint 1167 X S (by omega) (by omega) dL_law__1166 rfl ?_
  refine at_xload_n 1168 X rfl rfl dL_law__1167 rfl ?_
  refine at_iload 1170 X rfl dL_law__1168 rfl ?_
  refine at_iconst 1171 X (by decide) dL_law__1170 rfl ?_
  refine at_iadd 1172 X dL_law__1171 rfl ?_
  rw [w32_id (by omega) (by omega)]
  refine at_xint 1173 X S (by omega) (by omega) dL_law__1172 rfl ?_
  refine at_xload_n 1174 X rfl rfl dL_law__1173 rfl ?_
  refine at_iload 1176 X rfl dL_law__1174 rfl ?_
  refine at_iconst 1177 X (by decide) dL_law__1176 rfl ?_
  refine at_iadd 1178 X dL_law__1177 rfl ?_
  rw [w32_id (by omega) (by omega)]
  refine at_xint 1179 X S (by omega) (by omega) dL_law__1178 rfl ?_
  refine at_aload_n 1180 X rfl rfl dL_law__1179 rfl ?_
  refine at_callSH (n := 5) 1183 X (lh_puts hG E _ _ _ (M E _ _ _) (hX E _ _ _ hE)) w_1339 w_120 rfl (by decide +kernel) w_1337 w_1338 rfl rfl (crl ⟨by omega, by omega⟩ (by omega) (by omega)) (Nat.le_of_ble_eq_true rfl) dL_law__1180 rfl ?_
  rintro _ _ ⟨cc, v, E1, rfl, hM1, rfl⟩
  refine at_istore 1185 X dL_law__1183 rfl (by decide) ?_
  refine at_aload_n 1186 X rfl rfl dL_law__1185 rfl ?_
  refine at_xload_n 1187 X rfl rfl dL_law__1186 rfl ?_
  refine at_iload 1189 X rfl dL_law__1187 rfl ?_
  refine at_iconst 1190 X (by decide) dL_law__1189 rfl ?_
  refine at_iadd 1191 X dL_law__1190 rfl ?_
  rw [w32_id (by omega) (by omega)]
  refine at_xint 1192 X S (by omega) (by omega) dL_law__1191 rfl ?_
  refine at_xload_n 1193 X rfl rfl dL_law__1192 rfl ?_
  refine at_iload 1195 X rfl dL_law__1193 rfl ?_
  refine at_iconst 1196 X (by decide) dL_law__1195 rfl ?_
  refine at_iadd 1197 X dL_law__1196 rfl ?_
  rw [w32_id (by omega) (by omega)]
  refine at_xint 1198 X S (by omega) (by omega) dL_law__1197 rfl ?_
  refine at_xload_n 1199 X rfl rfl dL_law__1198 rfl ?_
  refine at_iload 1201 X rfl dL_law__1199 rfl ?_
  refine at_iconst 1202 X (by decide) dL_law__1201 rfl ?_
  refine at_iadd 1203 X dL_law__1202 rfl ?_
  rw [w32_id (by omega) (by omega)]
  refine at_xint 1204 X S (by omega) (by omega) dL_law__1203 rfl ?_
  refine at_callV 1207 X _ 12 (hM E _ _ _ _ _ _ hE hM1) clX12 rfl k_125 mo_X12_puts w_2229 vo_X12_puts.1 vo_X12_puts.2 rfl rfl (crl ⟨by omega, by omega⟩ (by omega) (by omega)) (Nat.le_of_ble_eq_true rfl) dL_law__1204 rfl ?_
  rintro _ _ ⟨bb, E2, rfl, rfl, hE2, hth, hbb⟩
  refine at_lstore 1209 X dL_law__1207 rfl (by decide) ?_
  refine at_aload_n 1210 X rfl rfl dL_law__1209 rfl ?_
  refine at_callV 1213 X _ 12 (ct_X12_thrown hG E2) clX12 rfl k_125 mo_X12_thrown w_1945 vo_X12_thrown.1 vo_X12_thrown.2 rfl rfl (crl ⟨Nat.le_of_ble_eq_true rfl, Nat.le_of_ble_eq_true rfl⟩ (by omega) (by omega)) (Nat.le_of_ble_eq_true rfl) dL_law__1210 rfl ?_
  rintro _ _ ⟨rfl, rfl⟩
  rw [hth]
  refine at_iload 1215 X rfl dL_law__1213 rfl ?_
  refine at_icmp_eq 1218 1220 X dL_law__1215 rfl (by decide) (fun _ => ?_) (fun h => absurd rfl h)
  refine at_iload 1222 X rfl dL_law__1220 rfl ?_
  refine at_if_ne 1225 1236 X dL_law__1222 rfl (by decide) (fun h => ?_) (fun h => ?_)
  · refine at_goto 3366 X dL_law__1236 (by decide) ?_
    exact at_sub _ (by exact ⟨rfl, rfl, rfl, rfl, rfl, trivial⟩) (at_widen (by omega) (by omega) (hend E2 hE2))
  · have hc0 : cc = 0 := by omega
    have hbb := hbb hc0
    refine at_aload_n 1226 X rfl rfl dL_law__1225 rfl ?_
    refine at_iconst 1227 X (by decide) dL_law__1226 rfl ?_
    refine m_laload 1228 X k_813 e_813 (by decide) (by decide) dL_law__1227 rfl ?_
    refine at_lload 1230 X rfl dL_law__1228 rfl ?_
    refine at_lcmp 1231 X dL_law__1230 rfl ?_
    refine at_if_eq 1234 1236 X dL_law__1231 rfl (by decide) (fun _ => ?_) (fun h => absurd (lcmp_eq (by first | exact hbb | (rw [show (0 : Int).toNat = 0 from rfl, hbb]; omega))) h)
    refine at_goto 3366 X dL_law__1236 (by decide) ?_
    exact at_sub _ (by exact ⟨rfl, rfl, rfl, rfl, rfl, trivial⟩) (at_widen (by omega) (by omega) (hend E2 hE2))
theorem dL_law__1239 : decode code 1239 = .ok (.aload_n 1, 1) := by decide +kernel
theorem dL_law__1240 : decode code 1240 = .ok (.aload_n 0, 1) := by decide +kernel
theorem dL_law__1241 : decode code 1241 = .ok (.iload 4, 2) := by decide +kernel
theorem dL_law__1243 : decode code 1243 = .ok (.iconst 1, 1) := by decide +kernel
theorem dL_law__1244 : decode code 1244 = .ok (.iadd, 1) := by decide +kernel
theorem dL_law__1245 : decode code 1245 = .ok (.iaload, 1) := by decide +kernel
theorem dL_law__1246 : decode code 1246 = .ok (.aload_n 3, 1) := by decide +kernel
theorem dL_law__1247 : decode code 1247 = .ok (.invokestatic 207, 3) := by decide +kernel
theorem dL_law__1250 : decode code 1250 = .ok (.istore 5, 2) := by decide +kernel
theorem dL_law__1252 : decode code 1252 = .ok (.aload_n 2, 1) := by decide +kernel
theorem dL_law__1253 : decode code 1253 = .ok (.aload_n 0, 1) := by decide +kernel
theorem dL_law__1254 : decode code 1254 = .ok (.iload 4, 2) := by decide +kernel
theorem dL_law__1256 : decode code 1256 = .ok (.iconst 1, 1) := by decide +kernel
theorem dL_law__1257 : decode code 1257 = .ok (.iadd, 1) := by decide +kernel
theorem dL_law__1258 : decode code 1258 = .ok (.iaload, 1) := by decide +kernel
theorem dL_law__1259 : decode code 1259 = .ok (.invokevirtual 209, 3) := by decide +kernel
theorem dL_law__1262 : decode code 1262 = .ok (.istore 6, 2) := by decide +kernel
theorem dL_law__1264 : decode code 1264 = .ok (.aload_n 2, 1) := by decide +kernel
theorem dL_law__1265 : decode code 1265 = .ok (.invokevirtual 160, 3) := by decide +kernel
theorem dL_law__1268 : decode code 1268 = .ok (.iload 5, 2) := by decide +kernel
theorem dL_law__1270 : decode code 1270 = .ok (.if_icmp .eq 5, 3) := by decide +kernel
theorem dL_law__1273 : decode code 1273 = .ok (.iconst 0, 1) := by decide +kernel
theorem dL_law__1274 : decode code 1274 = .ok (.ireturn, 1) := by decide +kernel
theorem dL_law__1275 : decode code 1275 = .ok (.iload 5, 2) := by decide +kernel
theorem dL_law__1277 : decode code 1277 = .ok (.ifCond .ne 15, 3) := by decide +kernel
theorem dL_law__1280 : decode code 1280 = .ok (.aload_n 3, 1) := by decide +kernel
theorem dL_law__1281 : decode code 1281 = .ok (.iconst 0, 1) := by decide +kernel
theorem dL_law__1282 : decode code 1282 = .ok (.laload, 1) := by decide +kernel
theorem dL_law__1283 : decode code 1283 = .ok (.iload 6, 2) := by decide +kernel
theorem dL_law__1285 : decode code 1285 = .ok (.i2l, 1) := by decide +kernel
theorem dL_law__1286 : decode code 1286 = .ok (.lcmp, 1) := by decide +kernel
theorem dL_law__1287 : decode code 1287 = .ok (.ifCond .eq 5, 3) := by decide +kernel
theorem dL_law__1290 : decode code 1290 = .ok (.iconst 0, 1) := by decide +kernel
theorem dL_law__1291 : decode code 1291 = .ok (.ireturn, 1) := by decide +kernel
theorem dL_law__1292 : decode code 1292 = .ok (.goto 2074, 3) := by decide +kernel
theorem case_15 {INV INV' : Mm → Prop} {g : Gw} {p : Program} {e : Env} {s : State} {m : MethodId} {below : List Frame} {meth : Method} {c : Code} {b L : Nat} {xs : Nat → Int32} (hL : L ≤ 3072) (hG : GF g) (X : CX g (KL p e s m below meth c b) code R_law 8) (S : SCR g (KL p e s m below meth c b) b L xs) {fr lo mc ms fr2 lo2 : Nat} (M : Mm → Int → Nat → Int → Mm → Prop) (hX : ∀ (E : Mm) (x0 : Int), INV E → CTX g yX11_falls cX11_falls 2 (some .int) fr lo mc ms K2 false [mR 0, mI x0] (ov E) K2 false (fun r D' => ∃ (v : Int) (E1 : Mm), r = some (mI v) ∧ D' = ov E1 ∧ M E x0 0 v E1) (fun X D' => ∃ (c : Nat) (E1 : Mm), ((c = 1 ∧ X = "java/util/NoSuchElementException")) ∧ D' = ov E1 ∧ M E x0 c 0 E1)) (hM : ∀ (E : Mm) (x0 : Int) (c : Nat) (v : Int) (E1 : Mm), INV E → M E x0 c v E1 → CT g yX12_falls cX12_falls 2 (some .int) fr2 lo2 0 0 K2 false [mR 125, mI x0] (ov (if c = 0 then wr E1 813 0 v else E1)) K2 false (fun r D' => ∃ (bb : Int) (E2 : Mm), r = some (mI bb) ∧ D' = ov E2 ∧ INV' E2 ∧ E2 125 0 = (c : Int) ∧ (c = 0 → E2 813 0 = bb))) (hr1 : fr + 2 ≤ room_1.frames ∧ 8 + (4 + 11) + (lo + 21) ≤ room_1.locals) (hr2 : fr2 + 1 ≤ room_1.frames ∧ 8 + (2 + 11) + lo2 ≤ room_1.locals) (hmc : mc ≤ 10) (hms : ms ≤ 100) (E : Mm) (n cells slots : Nat) (hE : INV E) (hn : n + 6 ≤ L) (hc : cells + 10 ≤ 601024) (hs : slots + 100 ≤ 7293034) (hend : ∀ E' : Mm, INV' E' → AT g (KL p e s m below meth c b) K2 false (cells + 10) (slots + 100) 3366 (lawL b n) [] (ov E')) : AT g (KL p e s m below meth c b) K2 false cells slots 1239 (lawL b n) [] (ov E) := by
  refine at_aload_n 1240 X rfl rfl dL_law__1239 rfl ?_
  refine at_xload_n 1241 X rfl rfl dL_law__1240 rfl ?_
  refine at_iload 1243 X rfl dL_law__1241 rfl ?_
  refine at_iconst 1244 X (by decide) dL_law__1243 rfl ?_
  refine at_iadd 1245 X dL_law__1244 rfl ?_
  rw [w32_id (by omega) (by omega)]
  refine at_xint 1246 X S (by omega) (by omega) dL_law__1245 rfl ?_
  refine at_aload_n 1247 X rfl rfl dL_law__1246 rfl ?_
  refine at_callSH (n := 3) 1250 X (lh_falls hG E _ (M E _) (hX E _ hE)) w_1346 w_120 rfl (by decide +kernel) w_1344 w_1345 rfl rfl (crl ⟨by omega, by omega⟩ (by omega) (by omega)) (Nat.le_of_ble_eq_true rfl) dL_law__1247 rfl ?_
  rintro _ _ ⟨cc, v, E1, rfl, hM1, rfl⟩
  refine at_istore 1252 X dL_law__1250 rfl (by decide) ?_
  refine at_aload_n 1253 X rfl rfl dL_law__1252 rfl ?_
  refine at_xload_n 1254 X rfl rfl dL_law__1253 rfl ?_
  refine at_iload 1256 X rfl dL_law__1254 rfl ?_
  refine at_iconst 1257 X (by decide) dL_law__1256 rfl ?_
  refine at_iadd 1258 X dL_law__1257 rfl ?_
  rw [w32_id (by omega) (by omega)]
  refine at_xint 1259 X S (by omega) (by omega) dL_law__1258 rfl ?_
  refine at_callV 1262 X _ 12 (hM E _ _ _ _ hE hM1) clX12 rfl k_125 mo_X12_falls w_2233 vo_X12_falls.1 vo_X12_falls.2 rfl rfl (crl ⟨by omega, by omega⟩ (by omega) (by omega)) (Nat.le_of_ble_eq_true rfl) dL_law__1259 rfl ?_
  rintro _ _ ⟨bb, E2, rfl, rfl, hE2, hth, hbb⟩
  refine at_istore 1264 X dL_law__1262 rfl (by decide) ?_
  refine at_aload_n 1265 X rfl rfl dL_law__1264 rfl ?_
  refine at_callV 1268 X _ 12 (ct_X12_thrown hG E2) clX12 rfl k_125 mo_X12_thrown w_1945 vo_X12_thrown.1 vo_X12_thrown.2 rfl rfl (crl ⟨Nat.le_of_ble_eq_true rfl, Nat.le_of_ble_eq_true rfl⟩ (by omega) (by omega)) (Nat.le_of_ble_eq_true rfl) dL_law__1265 rfl ?_
  rintro _ _ ⟨rfl, rfl⟩
  rw [hth]
  refine at_iload 1270 X rfl dL_law__1268 rfl ?_
  refine at_icmp_eq 1273 1275 X dL_law__1270 rfl (by decide) (fun _ => ?_) (fun h => absurd rfl h)
  refine at_iload 1277 X rfl dL_law__1275 rfl ?_
  refine at_if_ne 1280 1292 X dL_law__1277 rfl (by decide) (fun h => ?_) (fun h => ?_)
  · refine at_goto 3366 X dL_law__1292 (by decide) ?_
    exact at_sub _ (by exact ⟨rfl, rfl, rfl, rfl, rfl, trivial⟩) (at_widen (by omega) (by omega) (hend E2 hE2))
  · have hc0 : cc = 0 := by omega
    have hbb := hbb hc0
    refine at_aload_n 1281 X rfl rfl dL_law__1280 rfl ?_
    refine at_iconst 1282 X (by decide) dL_law__1281 rfl ?_
    refine m_laload 1283 X k_813 e_813 (by decide) (by decide) dL_law__1282 rfl ?_
    refine at_iload 1285 X rfl dL_law__1283 rfl ?_
    refine at_i2l 1286 X dL_law__1285 rfl ?_
    refine at_lcmp 1287 X dL_law__1286 rfl ?_
    refine at_if_eq 1290 1292 X dL_law__1287 rfl (by decide) (fun _ => ?_) (fun h => absurd (lcmp_eq (by first | exact hbb | (rw [show (0 : Int).toNat = 0 from rfl, hbb]; omega))) h)
    refine at_goto 3366 X dL_law__1292 (by decide) ?_
    exact at_sub _ (by exact ⟨rfl, rfl, rfl, rfl, rfl, trivial⟩) (at_widen (by omega) (by omega) (hend E2 hE2))
theorem dL_law__1295 : decode code 1295 = .ok (.aload_n 1, 1) := by decide +kernel
theorem dL_law__1296 : decode code 1296 = .ok (.aload_n 0, 1) := by decide +kernel
theorem dL_law__1297 : decode code 1297 = .ok (.iload 4, 2) := by decide +kernel
theorem dL_law__1299 : decode code 1299 = .ok (.iconst 1, 1) := by decide +kernel
theorem dL_law__1300 : decode code 1300 = .ok (.iadd, 1) := by decide +kernel
theorem dL_law__1301 : decode code 1301 = .ok (.iaload, 1) := by decide +kernel
theorem dL_law__1302 : decode code 1302 = .ok (.aload_n 0, 1) := by decide +kernel
theorem dL_law__1303 : decode code 1303 = .ok (.iload 4, 2) := by decide +kernel
theorem dL_law__1305 : decode code 1305 = .ok (.iconst 2, 1) := by decide +kernel
theorem dL_law__1306 : decode code 1306 = .ok (.iadd, 1) := by decide +kernel
theorem dL_law__1307 : decode code 1307 = .ok (.iaload, 1) := by decide +kernel
theorem dL_law__1308 : decode code 1308 = .ok (.aload_n 3, 1) := by decide +kernel
theorem dL_law__1309 : decode code 1309 = .ok (.invokestatic 210, 3) := by decide +kernel
theorem dL_law__1312 : decode code 1312 = .ok (.istore 5, 2) := by decide +kernel
theorem dL_law__1314 : decode code 1314 = .ok (.aload_n 2, 1) := by decide +kernel
theorem dL_law__1315 : decode code 1315 = .ok (.aload_n 0, 1) := by decide +kernel
theorem dL_law__1316 : decode code 1316 = .ok (.iload 4, 2) := by decide +kernel
theorem dL_law__1318 : decode code 1318 = .ok (.iconst 1, 1) := by decide +kernel
theorem dL_law__1319 : decode code 1319 = .ok (.iadd, 1) := by decide +kernel
theorem dL_law__1320 : decode code 1320 = .ok (.iaload, 1) := by decide +kernel
theorem dL_law__1321 : decode code 1321 = .ok (.aload_n 0, 1) := by decide +kernel
theorem dL_law__1322 : decode code 1322 = .ok (.iload 4, 2) := by decide +kernel
theorem dL_law__1324 : decode code 1324 = .ok (.iconst 2, 1) := by decide +kernel
theorem dL_law__1325 : decode code 1325 = .ok (.iadd, 1) := by decide +kernel
theorem dL_law__1326 : decode code 1326 = .ok (.iaload, 1) := by decide +kernel
theorem dL_law__1327 : decode code 1327 = .ok (.invokevirtual 212, 3) := by decide +kernel
theorem dL_law__1330 : decode code 1330 = .ok (.istore 6, 2) := by decide +kernel
theorem dL_law__1332 : decode code 1332 = .ok (.aload_n 2, 1) := by decide +kernel
theorem dL_law__1333 : decode code 1333 = .ok (.invokevirtual 160, 3) := by decide +kernel
theorem dL_law__1336 : decode code 1336 = .ok (.iload 5, 2) := by decide +kernel
theorem dL_law__1338 : decode code 1338 = .ok (.if_icmp .eq 5, 3) := by decide +kernel
theorem dL_law__1341 : decode code 1341 = .ok (.iconst 0, 1) := by decide +kernel
theorem dL_law__1342 : decode code 1342 = .ok (.ireturn, 1) := by decide +kernel
theorem dL_law__1343 : decode code 1343 = .ok (.iload 5, 2) := by decide +kernel
theorem dL_law__1345 : decode code 1345 = .ok (.ifCond .ne 15, 3) := by decide +kernel
theorem dL_law__1348 : decode code 1348 = .ok (.aload_n 3, 1) := by decide +kernel
theorem dL_law__1349 : decode code 1349 = .ok (.iconst 0, 1) := by decide +kernel
theorem dL_law__1350 : decode code 1350 = .ok (.laload, 1) := by decide +kernel
theorem dL_law__1351 : decode code 1351 = .ok (.iload 6, 2) := by decide +kernel
theorem dL_law__1353 : decode code 1353 = .ok (.i2l, 1) := by decide +kernel
theorem dL_law__1354 : decode code 1354 = .ok (.lcmp, 1) := by decide +kernel
theorem dL_law__1355 : decode code 1355 = .ok (.ifCond .eq 5, 3) := by decide +kernel
theorem dL_law__1358 : decode code 1358 = .ok (.iconst 0, 1) := by decide +kernel
theorem dL_law__1359 : decode code 1359 = .ok (.ireturn, 1) := by decide +kernel
theorem dL_law__1360 : decode code 1360 = .ok (.goto 2006, 3) := by decide +kernel
theorem case_16 {INV INV' : Mm → Prop} {g : Gw} {p : Program} {e : Env} {s : State} {m : MethodId} {below : List Frame} {meth : Method} {c : Code} {b L : Nat} {xs : Nat → Int32} (hL : L ≤ 3072) (hG : GF g) (X : CX g (KL p e s m below meth c b) code R_law 8) (S : SCR g (KL p e s m below meth c b) b L xs) {fr lo mc ms fr2 lo2 : Nat} (M : Mm → Int → Int → Nat → Int → Mm → Prop) (hX : ∀ (E : Mm) (x0 x1 : Int), INV E → CTX g yX11_lies cX11_lies 3 (some .int) fr lo mc ms K2 false [mR 0, mI x0, mI x1] (ov E) K2 false (fun r D' => ∃ (v : Int) (E1 : Mm), r = some (mI v) ∧ D' = ov E1 ∧ M E x0 x1 0 v E1) (fun X D' => ∃ (c : Nat) (E1 : Mm), ((c = 1 ∧ X = "java/util/NoSuchElementException") ∨ (c = 2 ∧ X = "java/lang/IllegalArgumentException")) ∧ D' = ov E1 ∧ M E x0 x1 c 0 E1)) (hM : ∀ (E : Mm) (x0 x1 : Int) (c : Nat) (v : Int) (E1 : Mm), INV E → M E x0 x1 c v E1 → CT g yX12_lies cX12_lies 3 (some .int) fr2 lo2 0 0 K2 false [mR 125, mI x0, mI x1] (ov (if c = 0 then wr E1 813 0 v else E1)) K2 false (fun r D' => ∃ (bb : Int) (E2 : Mm), r = some (mI bb) ∧ D' = ov E2 ∧ INV' E2 ∧ E2 125 0 = (c : Int) ∧ (c = 0 → E2 813 0 = bb))) (hr1 : fr + 2 ≤ room_1.frames ∧ 8 + (5 + 11) + (lo + 22) ≤ room_1.locals) (hr2 : fr2 + 1 ≤ room_1.frames ∧ 8 + (3 + 11) + lo2 ≤ room_1.locals) (hmc : mc ≤ 10) (hms : ms ≤ 100) (E : Mm) (n cells slots : Nat) (hE : INV E) (hn : n + 6 ≤ L) (hc : cells + 10 ≤ 601024) (hs : slots + 100 ≤ 7293034) (hend : ∀ E' : Mm, INV' E' → AT g (KL p e s m below meth c b) K2 false (cells + 10) (slots + 100) 3366 (lawL b n) [] (ov E')) : AT g (KL p e s m below meth c b) K2 false cells slots 1295 (lawL b n) [] (ov E) := by
  refine at_aload_n 1296 X rfl rfl dL_law__1295 rfl ?_
  refine at_xload_n 1297 X rfl rfl dL_law__1296 rfl ?_
  refine at_iload 1299 X rfl dL_law__1297 rfl ?_
  refine at_iconst 1300 X (by decide) dL_law__1299 rfl ?_
  refine at_iadd 1301 X dL_law__1300 rfl ?_
  rw [w32_id (by omega) (by omega)]
  refine at_xint 1302 X S (by omega) (by omega) dL_law__1301 rfl ?_
  refine at_xload_n 1303 X rfl rfl dL_law__1302 rfl ?_
  refine at_iload 1305 X rfl dL_law__1303 rfl ?_
  refine at_iconst 1306 X (by decide) dL_law__1305 rfl ?_
  refine at_iadd 1307 X dL_law__1306 rfl ?_
  rw [w32_id (by omega) (by omega)]
  refine at_xint 1308 X S (by omega) (by omega) dL_law__1307 rfl ?_
  refine at_aload_n 1309 X rfl rfl dL_law__1308 rfl ?_
  refine at_callSH (n := 4) 1312 X (lh_lies hG E _ _ (M E _ _) (hX E _ _ hE)) w_1353 w_120 rfl (by decide +kernel) w_1351 w_1352 rfl rfl (crl ⟨by omega, by omega⟩ (by omega) (by omega)) (Nat.le_of_ble_eq_true rfl) dL_law__1309 rfl ?_
  rintro _ _ ⟨cc, v, E1, rfl, hM1, rfl⟩
  refine at_istore 1314 X dL_law__1312 rfl (by decide) ?_
  refine at_aload_n 1315 X rfl rfl dL_law__1314 rfl ?_
  refine at_xload_n 1316 X rfl rfl dL_law__1315 rfl ?_
  refine at_iload 1318 X rfl dL_law__1316 rfl ?_
  refine at_iconst 1319 X (by decide) dL_law__1318 rfl ?_
  refine at_iadd 1320 X dL_law__1319 rfl ?_
  rw [w32_id (by omega) (by omega)]
  refine at_xint 1321 X S (by omega) (by omega) dL_law__1320 rfl ?_
  refine at_xload_n 1322 X rfl rfl dL_law__1321 rfl ?_
  refine at_iload 1324 X rfl dL_law__1322 rfl ?_
  refine at_iconst 1325 X (by decide) dL_law__1324 rfl ?_
  refine at_iadd 1326 X dL_law__1325 rfl ?_
  rw [w32_id (by omega) (by omega)]
  refine at_xint 1327 X S (by omega) (by omega) dL_law__1326 rfl ?_
  refine at_callV 1330 X _ 12 (hM E _ _ _ _ _ hE hM1) clX12 rfl k_125 mo_X12_lies w_2241 vo_X12_lies.1 vo_X12_lies.2 rfl rfl (crl ⟨by omega, by omega⟩ (by omega) (by omega)) (Nat.le_of_ble_eq_true rfl) dL_law__1327 rfl ?_
  rintro _ _ ⟨bb, E2, rfl, rfl, hE2, hth, hbb⟩
  refine at_istore 1332 X dL_law__1330 rfl (by decide) ?_
  refine at_aload_n 1333 X rfl rfl dL_law__1332 rfl ?_
  refine at_callV 1336 X _ 12 (ct_X12_thrown hG E2) clX12 rfl k_125 mo_X12_thrown w_1945 vo_X12_thrown.1 vo_X12_thrown.2 rfl rfl (crl ⟨Nat.le_of_ble_eq_true rfl, Nat.le_of_ble_eq_true rfl⟩ (by omega) (by omega)) (Nat.le_of_ble_eq_true rfl) dL_law__1333 rfl ?_
  rintro _ _ ⟨rfl, rfl⟩
  rw [hth]
  refine at_iload 1338 X rfl dL_law__1336 rfl ?_
  refine at_icmp_eq 1341 1343 X dL_law__1338 rfl (by decide) (fun _ => ?_) (fun h => absurd rfl h)
  refine at_iload 1345 X rfl dL_law__1343 rfl ?_
  refine at_if_ne 1348 1360 X dL_law__1345 rfl (by decide) (fun h => ?_) (fun h => ?_)
  · refine at_goto 3366 X dL_law__1360 (by decide) ?_
    exact at_sub _ (by exact ⟨rfl, rfl, rfl, rfl, rfl, trivial⟩) (at_widen (by omega) (by omega) (hend E2 hE2))
  · have hc0 : cc = 0 := by omega
    have hbb := hbb hc0
    refine at_aload_n 1349 X rfl rfl dL_law__1348 rfl ?_
    refine at_iconst 1350 X (by decide) dL_law__1349 rfl ?_
    refine m_laload 1351 X k_813 e_813 (by decide) (by decide) dL_law__1350 rfl ?_
    refine at_iload 1353 X rfl dL_law__1351 rfl ?_
    refine at_i2l 1354 X dL_law__1353 rfl ?_
    refine at_lcmp 1355 X dL_law__1354 rfl ?_
    refine at_if_eq 1358 1360 X dL_law__1355 rfl (by decide) (fun _ => ?_) (fun h => absurd (lcmp_eq (by first | exact hbb | (rw [show (0 : Int).toNat = 0 from rfl, hbb]; omega))) h)
    refine at_goto 3366 X dL_law__1360 (by decide) ?_
    exact at_sub _ (by exact ⟨rfl, rfl, rfl, rfl, rfl, trivial⟩) (at_widen (by omega) (by omega) (hend E2 hE2))
theorem dL_law__1363 : decode code 1363 = .ok (.aload_n 1, 1) := by decide +kernel
theorem dL_law__1364 : decode code 1364 = .ok (.invokevirtual 213, 3) := by decide +kernel
theorem dL_law__1367 : decode code 1367 = .ok (.aload_n 2, 1) := by decide +kernel
theorem dL_law__1368 : decode code 1368 = .ok (.invokevirtual 216, 3) := by decide +kernel
theorem dL_law__1371 : decode code 1371 = .ok (.if_icmp .eq 1995, 3) := by decide +kernel
theorem dL_law__1374 : decode code 1374 = .ok (.iconst 0, 1) := by decide +kernel
theorem dL_law__1375 : decode code 1375 = .ok (.ireturn, 1) := by decide +kernel
theorem case_17 {INV INV' : Mm → Prop} {g : Gw} {p : Program} {e : Env} {s : State} {m : MethodId} {below : List Frame} {meth : Method} {c : Code} {b L : Nat} {xs : Nat → Int32} (hL : L ≤ 3072) (hG : GF g) (X : CX g (KL p e s m below meth c b) code R_law 8) (S : SCR g (KL p e s m below meth c b) b L xs) {fr lo mc ms fr2 lo2 : Nat} (M : Mm → Int → Mm → Prop) (hX : ∀ (E : Mm), INV E → CT g yX11_fallen cX11_fallen 1 (some .int) fr lo mc ms K2 false [mR 0] (ov E) K2 false (fun r D' => ∃ (v : Int) (E1 : Mm), r = some (mI v) ∧ D' = ov E1 ∧ M E  v E1)) (hM : ∀ (E : Mm) (v : Int) (E1 : Mm), INV E → M E  v E1 → CT g yX12_fallen cX12_fallen 1 (some .int) fr2 lo2 0 0 K2 false [mR 125] (ov E1) K2 false (fun r D' => ∃ E2 : Mm, r = some (mI v) ∧ D' = ov E2 ∧ INV' E2)) (hr1 : fr + 1 ≤ room_1.frames ∧ 8 + (1 + 11) + lo ≤ room_1.locals) (hr2 : fr2 + 1 ≤ room_1.frames ∧ 8 + (1 + 11) + lo2 ≤ room_1.locals) (hmc : mc ≤ 10) (hms : ms ≤ 100) (E : Mm) (n cells slots : Nat) (hE : INV E) (hn : n + 6 ≤ L) (hc : cells + 10 ≤ 601024) (hs : slots + 100 ≤ 7293034) (hend : ∀ E' : Mm, INV' E' → AT g (KL p e s m below meth c b) K2 false (cells + 10) (slots + 100) 3366 (lawL b n) [] (ov E')) : AT g (KL p e s m below meth c b) K2 false cells slots 1363 (lawL b n) [] (ov E) := by
  refine at_aload_n 1364 X rfl rfl dL_law__1363 rfl ?_
  refine at_callV 1367 X _ 11 (hX E  hE) clX11 rfl k_0 mo_X11_fallen w_661 vo_X11_fallen.1 vo_X11_fallen.2 rfl rfl (crl ⟨by omega, by omega⟩ (by omega) (by omega)) (Nat.le_of_ble_eq_true rfl) dL_law__1364 rfl ?_
  rintro _ _ ⟨v, E1, rfl, rfl, hM1⟩
  refine at_aload_n 1368 X rfl rfl dL_law__1367 rfl ?_
  refine at_callV 1371 X _ 12 (hM E  _ _ hE hM1) clX12 rfl k_125 mo_X12_fallen w_2245 vo_X12_fallen.1 vo_X12_fallen.2 rfl rfl (crl ⟨by omega, by omega⟩ (by omega) (by omega)) (Nat.le_of_ble_eq_true rfl) dL_law__1368 rfl ?_
  rintro _ _ ⟨E2, rfl, rfl, hE2⟩
  refine at_icmp_eq 1374 3366 X dL_law__1371 rfl (by decide) (fun _ => ?_) (fun h => absurd rfl h)
  exact at_sub _ (by exact ⟨rfl, rfl, rfl, rfl, rfl, trivial⟩) (at_widen (by omega) (by omega) (hend E2 hE2))
theorem dL_law__1376 : decode code 1376 = .ok (.aload_n 1, 1) := by decide +kernel
theorem dL_law__1377 : decode code 1377 = .ok (.aload_n 0, 1) := by decide +kernel
theorem dL_law__1378 : decode code 1378 = .ok (.iload 4, 2) := by decide +kernel
theorem dL_law__1380 : decode code 1380 = .ok (.iconst 1, 1) := by decide +kernel
theorem dL_law__1381 : decode code 1381 = .ok (.iadd, 1) := by decide +kernel
theorem dL_law__1382 : decode code 1382 = .ok (.iaload, 1) := by decide +kernel
theorem dL_law__1383 : decode code 1383 = .ok (.invokevirtual 217, 3) := by decide +kernel
theorem dL_law__1386 : decode code 1386 = .ok (.aload_n 2, 1) := by decide +kernel
theorem dL_law__1387 : decode code 1387 = .ok (.aload_n 0, 1) := by decide +kernel
theorem dL_law__1388 : decode code 1388 = .ok (.iload 4, 2) := by decide +kernel
theorem dL_law__1390 : decode code 1390 = .ok (.iconst 1, 1) := by decide +kernel
theorem dL_law__1391 : decode code 1391 = .ok (.iadd, 1) := by decide +kernel
theorem dL_law__1392 : decode code 1392 = .ok (.iaload, 1) := by decide +kernel
theorem dL_law__1393 : decode code 1393 = .ok (.invokevirtual 220, 3) := by decide +kernel
theorem dL_law__1396 : decode code 1396 = .ok (.if_icmp .eq 1970, 3) := by decide +kernel
theorem dL_law__1399 : decode code 1399 = .ok (.iconst 0, 1) := by decide +kernel
theorem dL_law__1400 : decode code 1400 = .ok (.ireturn, 1) := by decide +kernel
theorem case_18 {INV INV' : Mm → Prop} {g : Gw} {p : Program} {e : Env} {s : State} {m : MethodId} {below : List Frame} {meth : Method} {c : Code} {b L : Nat} {xs : Nat → Int32} (hL : L ≤ 3072) (hG : GF g) (X : CX g (KL p e s m below meth c b) code R_law 8) (S : SCR g (KL p e s m below meth c b) b L xs) {fr lo mc ms fr2 lo2 : Nat} (M : Mm → Int → Int → Mm → Prop) (hX : ∀ (E : Mm) (x0 : Int), INV E → CT g yX11_order cX11_order 2 (some .int) fr lo mc ms K2 false [mR 0, mI x0] (ov E) K2 false (fun r D' => ∃ (v : Int) (E1 : Mm), r = some (mI v) ∧ D' = ov E1 ∧ M E x0 v E1)) (hM : ∀ (E : Mm) (x0 : Int) (v : Int) (E1 : Mm), INV E → M E x0 v E1 → CT g yX12_order cX12_order 2 (some .int) fr2 lo2 0 0 K2 false [mR 125, mI x0] (ov E1) K2 false (fun r D' => ∃ E2 : Mm, r = some (mI v) ∧ D' = ov E2 ∧ INV' E2)) (hr1 : fr + 1 ≤ room_1.frames ∧ 8 + (2 + 11) + lo ≤ room_1.locals) (hr2 : fr2 + 1 ≤ room_1.frames ∧ 8 + (2 + 11) + lo2 ≤ room_1.locals) (hmc : mc ≤ 10) (hms : ms ≤ 100) (E : Mm) (n cells slots : Nat) (hE : INV E) (hn : n + 6 ≤ L) (hc : cells + 10 ≤ 601024) (hs : slots + 100 ≤ 7293034) (hend : ∀ E' : Mm, INV' E' → AT g (KL p e s m below meth c b) K2 false (cells + 10) (slots + 100) 3366 (lawL b n) [] (ov E')) : AT g (KL p e s m below meth c b) K2 false cells slots 1376 (lawL b n) [] (ov E) := by
  refine at_aload_n 1377 X rfl rfl dL_law__1376 rfl ?_
  refine at_xload_n 1378 X rfl rfl dL_law__1377 rfl ?_
  refine at_iload 1380 X rfl dL_law__1378 rfl ?_
  refine at_iconst 1381 X (by decide) dL_law__1380 rfl ?_
  refine at_iadd 1382 X dL_law__1381 rfl ?_
  rw [w32_id (by omega) (by omega)]
  refine at_xint 1383 X S (by omega) (by omega) dL_law__1382 rfl ?_
  refine at_callV 1386 X _ 11 (hX E _ hE) clX11 rfl k_0 mo_X11_order w_776 vo_X11_order.1 vo_X11_order.2 rfl rfl (crl ⟨by omega, by omega⟩ (by omega) (by omega)) (Nat.le_of_ble_eq_true rfl) dL_law__1383 rfl ?_
  rintro _ _ ⟨v, E1, rfl, rfl, hM1⟩
  refine at_aload_n 1387 X rfl rfl dL_law__1386 rfl ?_
  refine at_xload_n 1388 X rfl rfl dL_law__1387 rfl ?_
  refine at_iload 1390 X rfl dL_law__1388 rfl ?_
  refine at_iconst 1391 X (by decide) dL_law__1390 rfl ?_
  refine at_iadd 1392 X dL_law__1391 rfl ?_
  rw [w32_id (by omega) (by omega)]
  refine at_xint 1393 X S (by omega) (by omega) dL_law__1392 rfl ?_
  refine at_callV 1396 X _ 12 (hM E _ _ _ hE hM1) clX12 rfl k_125 mo_X12_order w_2253 vo_X12_order.1 vo_X12_order.2 rfl rfl (crl ⟨by omega, by omega⟩ (by omega) (by omega)) (Nat.le_of_ble_eq_true rfl) dL_law__1393 rfl ?_
  rintro _ _ ⟨E2, rfl, rfl, hE2⟩
  refine at_icmp_eq 1399 3366 X dL_law__1396 rfl (by decide) (fun _ => ?_) (fun h => absurd rfl h)
  exact at_sub _ (by exact ⟨rfl, rfl, rfl, rfl, rfl, trivial⟩) (at_widen (by omega) (by omega) (hend E2 hE2))
theorem dL_law__1401 : decode code 1401 = .ok (.aload_n 1, 1) := by decide +kernel
theorem dL_law__1402 : decode code 1402 = .ok (.aload_n 0, 1) := by decide +kernel
theorem dL_law__1403 : decode code 1403 = .ok (.iload 4, 2) := by decide +kernel
theorem dL_law__1405 : decode code 1405 = .ok (.iconst 1, 1) := by decide +kernel
theorem dL_law__1406 : decode code 1406 = .ok (.iadd, 1) := by decide +kernel
theorem dL_law__1407 : decode code 1407 = .ok (.iaload, 1) := by decide +kernel
theorem dL_law__1408 : decode code 1408 = .ok (.aload_n 3, 1) := by decide +kernel
theorem dL_law__1409 : decode code 1409 = .ok (.invokestatic 221, 3) := by decide +kernel
theorem dL_law__1412 : decode code 1412 = .ok (.istore 5, 2) := by decide +kernel
theorem dL_law__1414 : decode code 1414 = .ok (.aload_n 2, 1) := by decide +kernel
theorem dL_law__1415 : decode code 1415 = .ok (.aload_n 0, 1) := by decide +kernel
theorem dL_law__1416 : decode code 1416 = .ok (.iload 4, 2) := by decide +kernel
theorem dL_law__1418 : decode code 1418 = .ok (.iconst 1, 1) := by decide +kernel
theorem dL_law__1419 : decode code 1419 = .ok (.iadd, 1) := by decide +kernel
theorem dL_law__1420 : decode code 1420 = .ok (.iaload, 1) := by decide +kernel
theorem dL_law__1421 : decode code 1421 = .ok (.invokevirtual 223, 3) := by decide +kernel
theorem dL_law__1424 : decode code 1424 = .ok (.istore 6, 2) := by decide +kernel
theorem dL_law__1426 : decode code 1426 = .ok (.aload_n 2, 1) := by decide +kernel
theorem dL_law__1427 : decode code 1427 = .ok (.invokevirtual 160, 3) := by decide +kernel
theorem dL_law__1430 : decode code 1430 = .ok (.iload 5, 2) := by decide +kernel
theorem dL_law__1432 : decode code 1432 = .ok (.if_icmp .eq 5, 3) := by decide +kernel
theorem dL_law__1435 : decode code 1435 = .ok (.iconst 0, 1) := by decide +kernel
theorem dL_law__1436 : decode code 1436 = .ok (.ireturn, 1) := by decide +kernel
theorem dL_law__1437 : decode code 1437 = .ok (.iload 5, 2) := by decide +kernel
theorem dL_law__1439 : decode code 1439 = .ok (.ifCond .ne 15, 3) := by decide +kernel
theorem dL_law__1442 : decode code 1442 = .ok (.aload_n 3, 1) := by decide +kernel
theorem dL_law__1443 : decode code 1443 = .ok (.iconst 0, 1) := by decide +kernel
theorem dL_law__1444 : decode code 1444 = .ok (.laload, 1) := by decide +kernel
theorem dL_law__1445 : decode code 1445 = .ok (.iload 6, 2) := by decide +kernel
theorem dL_law__1447 : decode code 1447 = .ok (.i2l, 1) := by decide +kernel
theorem dL_law__1448 : decode code 1448 = .ok (.lcmp, 1) := by decide +kernel
theorem dL_law__1449 : decode code 1449 = .ok (.ifCond .eq 5, 3) := by decide +kernel
theorem dL_law__1452 : decode code 1452 = .ok (.iconst 0, 1) := by decide +kernel
theorem dL_law__1453 : decode code 1453 = .ok (.ireturn, 1) := by decide +kernel
theorem dL_law__1454 : decode code 1454 = .ok (.goto 1912, 3) := by decide +kernel
theorem case_19 {INV INV' : Mm → Prop} {g : Gw} {p : Program} {e : Env} {s : State} {m : MethodId} {below : List Frame} {meth : Method} {c : Code} {b L : Nat} {xs : Nat → Int32} (hL : L ≤ 3072) (hG : GF g) (X : CX g (KL p e s m below meth c b) code R_law 8) (S : SCR g (KL p e s m below meth c b) b L xs) {fr lo mc ms fr2 lo2 : Nat} (M : Mm → Int → Nat → Int → Mm → Prop) (hX : ∀ (E : Mm) (x0 : Int), INV E → CTX g yX11_day cX11_day 3 (some .int) fr lo mc ms K2 false [mR 0, mI x0] (ov E) K2 false (fun r D' => ∃ (v : Int) (E1 : Mm), r = some (mI v) ∧ D' = ov E1 ∧ M E x0 0 v E1) (fun X D' => ∃ (c : Nat) (E1 : Mm), ((c = 1 ∧ X = "java/lang/IllegalArgumentException")) ∧ D' = ov E1 ∧ M E x0 c 0 E1)) (hM : ∀ (E : Mm) (x0 : Int) (c : Nat) (v : Int) (E1 : Mm), INV E → M E x0 c v E1 → CT g yX12_day cX12_day 3 (some .int) fr2 lo2 0 0 K2 false [mR 125, mI x0] (ov (if c = 0 then wr E1 813 0 v else E1)) K2 false (fun r D' => ∃ (bb : Int) (E2 : Mm), r = some (mI bb) ∧ D' = ov E2 ∧ INV' E2 ∧ E2 125 0 = (c : Int) ∧ (c = 0 → E2 813 0 = bb))) (hr1 : fr + 2 ≤ room_1.frames ∧ 8 + (4 + 11) + (lo + 22) ≤ room_1.locals) (hr2 : fr2 + 1 ≤ room_1.frames ∧ 8 + (3 + 11) + lo2 ≤ room_1.locals) (hmc : mc ≤ 10) (hms : ms ≤ 100) (E : Mm) (n cells slots : Nat) (hE : INV E) (hn : n + 6 ≤ L) (hc : cells + 10 ≤ 601024) (hs : slots + 100 ≤ 7293034) (hend : ∀ E' : Mm, INV' E' → AT g (KL p e s m below meth c b) K2 false (cells + 10) (slots + 100) 3366 (lawL b n) [] (ov E')) : AT g (KL p e s m below meth c b) K2 false cells slots 1401 (lawL b n) [] (ov E) := by
  refine at_aload_n 1402 X rfl rfl dL_law__1401 rfl ?_
  refine at_xload_n 1403 X rfl rfl dL_law__1402 rfl ?_
  refine at_iload 1405 X rfl dL_law__1403 rfl ?_
  refine at_iconst 1406 X (by decide) dL_law__1405 rfl ?_
  refine at_iadd 1407 X dL_law__1406 rfl ?_
  rw [w32_id (by omega) (by omega)]
  refine at_xint 1408 X S (by omega) (by omega) dL_law__1407 rfl ?_
  refine at_aload_n 1409 X rfl rfl dL_law__1408 rfl ?_
  refine at_callSH (n := 3) 1412 X (lh_day hG E _ (M E _) (hX E _ hE)) w_1361 w_120 rfl (by decide +kernel) w_1359 w_1360 rfl rfl (crl ⟨by omega, by omega⟩ (by omega) (by omega)) (Nat.le_of_ble_eq_true rfl) dL_law__1409 rfl ?_
  rintro _ _ ⟨cc, v, E1, rfl, hM1, rfl⟩
  refine at_istore 1414 X dL_law__1412 rfl (by decide) ?_
  refine at_aload_n 1415 X rfl rfl dL_law__1414 rfl ?_
  refine at_xload_n 1416 X rfl rfl dL_law__1415 rfl ?_
  refine at_iload 1418 X rfl dL_law__1416 rfl ?_
  refine at_iconst 1419 X (by decide) dL_law__1418 rfl ?_
  refine at_iadd 1420 X dL_law__1419 rfl ?_
  rw [w32_id (by omega) (by omega)]
  refine at_xint 1421 X S (by omega) (by omega) dL_law__1420 rfl ?_
  refine at_callV 1424 X _ 12 (hM E _ _ _ _ hE hM1) clX12 rfl k_125 mo_X12_day w_2257 vo_X12_day.1 vo_X12_day.2 rfl rfl (crl ⟨by omega, by omega⟩ (by omega) (by omega)) (Nat.le_of_ble_eq_true rfl) dL_law__1421 rfl ?_
  rintro _ _ ⟨bb, E2, rfl, rfl, hE2, hth, hbb⟩
  refine at_istore 1426 X dL_law__1424 rfl (by decide) ?_
  refine at_aload_n 1427 X rfl rfl dL_law__1426 rfl ?_
  refine at_callV 1430 X _ 12 (ct_X12_thrown hG E2) clX12 rfl k_125 mo_X12_thrown w_1945 vo_X12_thrown.1 vo_X12_thrown.2 rfl rfl (crl ⟨Nat.le_of_ble_eq_true rfl, Nat.le_of_ble_eq_true rfl⟩ (by omega) (by omega)) (Nat.le_of_ble_eq_true rfl) dL_law__1427 rfl ?_
  rintro _ _ ⟨rfl, rfl⟩
  rw [hth]
  refine at_iload 1432 X rfl dL_law__1430 rfl ?_
  refine at_icmp_eq 1435 1437 X dL_law__1432 rfl (by decide) (fun _ => ?_) (fun h => absurd rfl h)
  refine at_iload 1439 X rfl dL_law__1437 rfl ?_
  refine at_if_ne 1442 1454 X dL_law__1439 rfl (by decide) (fun h => ?_) (fun h => ?_)
  · refine at_goto 3366 X dL_law__1454 (by decide) ?_
    exact at_sub _ (by exact ⟨rfl, rfl, rfl, rfl, rfl, trivial⟩) (at_widen (by omega) (by omega) (hend E2 hE2))
  · have hc0 : cc = 0 := by omega
    have hbb := hbb hc0
    refine at_aload_n 1443 X rfl rfl dL_law__1442 rfl ?_
    refine at_iconst 1444 X (by decide) dL_law__1443 rfl ?_
    refine m_laload 1445 X k_813 e_813 (by decide) (by decide) dL_law__1444 rfl ?_
    refine at_iload 1447 X rfl dL_law__1445 rfl ?_
    refine at_i2l 1448 X dL_law__1447 rfl ?_
    refine at_lcmp 1449 X dL_law__1448 rfl ?_
    refine at_if_eq 1452 1454 X dL_law__1449 rfl (by decide) (fun _ => ?_) (fun h => absurd (lcmp_eq (by first | exact hbb | (rw [show (0 : Int).toNat = 0 from rfl, hbb]; omega))) h)
    refine at_goto 3366 X dL_law__1454 (by decide) ?_
    exact at_sub _ (by exact ⟨rfl, rfl, rfl, rfl, rfl, trivial⟩) (at_widen (by omega) (by omega) (hend E2 hE2))
theorem dL_law__1457 : decode code 1457 = .ok (.aload_n 1, 1) := by decide +kernel
theorem dL_law__1458 : decode code 1458 = .ok (.aload_n 0, 1) := by decide +kernel
theorem dL_law__1459 : decode code 1459 = .ok (.iload 4, 2) := by decide +kernel
theorem dL_law__1461 : decode code 1461 = .ok (.iconst 1, 1) := by decide +kernel
theorem dL_law__1462 : decode code 1462 = .ok (.iadd, 1) := by decide +kernel
theorem dL_law__1463 : decode code 1463 = .ok (.iaload, 1) := by decide +kernel
theorem dL_law__1464 : decode code 1464 = .ok (.aload_n 0, 1) := by decide +kernel
theorem dL_law__1465 : decode code 1465 = .ok (.iload 4, 2) := by decide +kernel
theorem dL_law__1467 : decode code 1467 = .ok (.iconst 2, 1) := by decide +kernel
theorem dL_law__1468 : decode code 1468 = .ok (.iadd, 1) := by decide +kernel
theorem dL_law__1469 : decode code 1469 = .ok (.iaload, 1) := by decide +kernel
theorem dL_law__1470 : decode code 1470 = .ok (.aload_n 0, 1) := by decide +kernel
theorem dL_law__1471 : decode code 1471 = .ok (.iload 4, 2) := by decide +kernel
theorem dL_law__1473 : decode code 1473 = .ok (.iconst 3, 1) := by decide +kernel
theorem dL_law__1474 : decode code 1474 = .ok (.iadd, 1) := by decide +kernel
theorem dL_law__1475 : decode code 1475 = .ok (.iaload, 1) := by decide +kernel
theorem dL_law__1476 : decode code 1476 = .ok (.aload_n 3, 1) := by decide +kernel
theorem dL_law__1477 : decode code 1477 = .ok (.invokestatic 224, 3) := by decide +kernel
theorem dL_law__1480 : decode code 1480 = .ok (.istore 5, 2) := by decide +kernel
theorem dL_law__1482 : decode code 1482 = .ok (.aload_n 2, 1) := by decide +kernel
theorem dL_law__1483 : decode code 1483 = .ok (.aload_n 0, 1) := by decide +kernel
theorem dL_law__1484 : decode code 1484 = .ok (.iload 4, 2) := by decide +kernel
theorem dL_law__1486 : decode code 1486 = .ok (.iconst 1, 1) := by decide +kernel
theorem dL_law__1487 : decode code 1487 = .ok (.iadd, 1) := by decide +kernel
theorem dL_law__1488 : decode code 1488 = .ok (.iaload, 1) := by decide +kernel
theorem dL_law__1489 : decode code 1489 = .ok (.aload_n 0, 1) := by decide +kernel
theorem dL_law__1490 : decode code 1490 = .ok (.iload 4, 2) := by decide +kernel
theorem dL_law__1492 : decode code 1492 = .ok (.iconst 2, 1) := by decide +kernel
theorem dL_law__1493 : decode code 1493 = .ok (.iadd, 1) := by decide +kernel
theorem dL_law__1494 : decode code 1494 = .ok (.iaload, 1) := by decide +kernel
theorem dL_law__1495 : decode code 1495 = .ok (.aload_n 0, 1) := by decide +kernel
theorem dL_law__1496 : decode code 1496 = .ok (.iload 4, 2) := by decide +kernel
theorem dL_law__1498 : decode code 1498 = .ok (.iconst 3, 1) := by decide +kernel
theorem dL_law__1499 : decode code 1499 = .ok (.iadd, 1) := by decide +kernel
theorem dL_law__1500 : decode code 1500 = .ok (.iaload, 1) := by decide +kernel
theorem dL_law__1501 : decode code 1501 = .ok (.invokevirtual 226, 3) := by decide +kernel
theorem dL_law__1504 : decode code 1504 = .ok (.istore 6, 2) := by decide +kernel
theorem dL_law__1506 : decode code 1506 = .ok (.aload_n 2, 1) := by decide +kernel
theorem dL_law__1507 : decode code 1507 = .ok (.invokevirtual 160, 3) := by decide +kernel
theorem dL_law__1510 : decode code 1510 = .ok (.iload 5, 2) := by decide +kernel
theorem dL_law__1512 : decode code 1512 = .ok (.if_icmp .eq 5, 3) := by decide +kernel
theorem dL_law__1515 : decode code 1515 = .ok (.iconst 0, 1) := by decide +kernel
theorem dL_law__1516 : decode code 1516 = .ok (.ireturn, 1) := by decide +kernel
theorem dL_law__1517 : decode code 1517 = .ok (.iload 5, 2) := by decide +kernel
theorem dL_law__1519 : decode code 1519 = .ok (.ifCond .ne 15, 3) := by decide +kernel
theorem dL_law__1522 : decode code 1522 = .ok (.aload_n 3, 1) := by decide +kernel
theorem dL_law__1523 : decode code 1523 = .ok (.iconst 0, 1) := by decide +kernel
theorem dL_law__1524 : decode code 1524 = .ok (.laload, 1) := by decide +kernel
theorem dL_law__1525 : decode code 1525 = .ok (.iload 6, 2) := by decide +kernel
theorem dL_law__1527 : decode code 1527 = .ok (.i2l, 1) := by decide +kernel
theorem dL_law__1528 : decode code 1528 = .ok (.lcmp, 1) := by decide +kernel
theorem dL_law__1529 : decode code 1529 = .ok (.ifCond .eq 5, 3) := by decide +kernel
theorem dL_law__1532 : decode code 1532 = .ok (.iconst 0, 1) := by decide +kernel
theorem dL_law__1533 : decode code 1533 = .ok (.ireturn, 1) := by decide +kernel
theorem dL_law__1534 : decode code 1534 = .ok (.goto 1832, 3) := by decide +kernel
theorem case_20 {INV INV' : Mm → Prop} {g : Gw} {p : Program} {e : Env} {s : State} {m : MethodId} {below : List Frame} {meth : Method} {c : Code} {b L : Nat} {xs : Nat → Int32} (hL : L ≤ 3072) (hG : GF g) (X : CX g (KL p e s m below meth c b) code R_law 8) (S : SCR g (KL p e s m below meth c b) b L xs) {fr lo mc ms fr2 lo2 : Nat} (M : Mm → Int → Int → Int → Nat → Int → Mm → Prop) (hX : ∀ (E : Mm) (x0 x1 x2 : Int), INV E → CTX g yX11_kept cX11_kept 4 (some .int) fr lo mc ms K2 false [mR 0, mI x0, mI x1, mI x2] (ov E) K2 false (fun r D' => ∃ (v : Int) (E1 : Mm), r = some (mI v) ∧ D' = ov E1 ∧ M E x0 x1 x2 0 v E1) (fun X D' => ∃ (c : Nat) (E1 : Mm), ((c = 1 ∧ X = "java/util/NoSuchElementException") ∨ (c = 2 ∧ X = "java/lang/IllegalArgumentException")) ∧ D' = ov E1 ∧ M E x0 x1 x2 c 0 E1)) (hM : ∀ (E : Mm) (x0 x1 x2 : Int) (c : Nat) (v : Int) (E1 : Mm), INV E → M E x0 x1 x2 c v E1 → CT g yX12_kept cX12_kept 5 (some .int) fr2 lo2 0 0 K2 false [mR 125, mI x0, mI x1, mI x2] (ov (if c = 0 then wr E1 813 0 v else E1)) K2 false (fun r D' => ∃ (bb : Int) (E2 : Mm), r = some (mI bb) ∧ D' = ov E2 ∧ INV' E2 ∧ E2 125 0 = (c : Int) ∧ (c = 0 → E2 813 0 = bb))) (hr1 : fr + 2 ≤ room_1.frames ∧ 8 + (6 + 11) + (lo + 23) ≤ room_1.locals) (hr2 : fr2 + 1 ≤ room_1.frames ∧ 8 + (5 + 11) + lo2 ≤ room_1.locals) (hmc : mc ≤ 10) (hms : ms ≤ 100) (E : Mm) (n cells slots : Nat) (hE : INV E) (hn : n + 6 ≤ L) (hc : cells + 10 ≤ 601024) (hs : slots + 100 ≤ 7293034) (hend : ∀ E' : Mm, INV' E' → AT g (KL p e s m below meth c b) K2 false (cells + 10) (slots + 100) 3366 (lawL b n) [] (ov E')) : AT g (KL p e s m below meth c b) K2 false cells slots 1457 (lawL b n) [] (ov E) := by
  refine at_aload_n 1458 X rfl rfl dL_law__1457 rfl ?_
  refine at_xload_n 1459 X rfl rfl dL_law__1458 rfl ?_
  refine at_iload 1461 X rfl dL_law__1459 rfl ?_
  refine at_iconst 1462 X (by decide) dL_law__1461 rfl ?_
  refine at_iadd 1463 X dL_law__1462 rfl ?_
  rw [w32_id (by omega) (by omega)]
  refine at_xint 1464 X S (by omega) (by omega) dL_law__1463 rfl ?_
  refine at_xload_n 1465 X rfl rfl dL_law__1464 rfl ?_
  refine at_iload 1467 X rfl dL_law__1465 rfl ?_
  refine at_iconst 1468 X (by decide) dL_law__1467 rfl ?_
  refine at_iadd 1469 X dL_law__1468 rfl ?_
  rw [w32_id (by omega) (by omega)]
  refine at_xint 1470 X S (by omega) (by omega) dL_law__1469 rfl ?_
  refine at_xload_n 1471 X rfl rfl dL_law__1470 rfl ?_
  refine at_iload 1473 X rfl dL_law__1471 rfl ?_
  refine at_iconst 1474 X (by decide) dL_law__1473 rfl ?_
  refine at_iadd 1475 X dL_law__1474 rfl ?_
  rw [w32_id (by omega) (by omega)]
  refine at_xint 1476 X S (by omega) (by omega) dL_law__1475 rfl ?_
  refine at_aload_n 1477 X rfl rfl dL_law__1476 rfl ?_
  refine at_callSH (n := 5) 1480 X (lh_kept hG E _ _ _ (M E _ _ _) (hX E _ _ _ hE)) w_1372 w_120 rfl (by decide +kernel) w_1370 w_1371 rfl rfl (crl ⟨by omega, by omega⟩ (by omega) (by omega)) (Nat.le_of_ble_eq_true rfl) dL_law__1477 rfl ?_
  rintro _ _ ⟨cc, v, E1, rfl, hM1, rfl⟩
  refine at_istore 1482 X dL_law__1480 rfl (by decide) ?_
  refine at_aload_n 1483 X rfl rfl dL_law__1482 rfl ?_
  refine at_xload_n 1484 X rfl rfl dL_law__1483 rfl ?_
  refine at_iload 1486 X rfl dL_law__1484 rfl ?_
  refine at_iconst 1487 X (by decide) dL_law__1486 rfl ?_
  refine at_iadd 1488 X dL_law__1487 rfl ?_
  rw [w32_id (by omega) (by omega)]
  refine at_xint 1489 X S (by omega) (by omega) dL_law__1488 rfl ?_
  refine at_xload_n 1490 X rfl rfl dL_law__1489 rfl ?_
  refine at_iload 1492 X rfl dL_law__1490 rfl ?_
  refine at_iconst 1493 X (by decide) dL_law__1492 rfl ?_
  refine at_iadd 1494 X dL_law__1493 rfl ?_
  rw [w32_id (by omega) (by omega)]
  refine at_xint 1495 X S (by omega) (by omega) dL_law__1494 rfl ?_
  refine at_xload_n 1496 X rfl rfl dL_law__1495 rfl ?_
  refine at_iload 1498 X rfl dL_law__1496 rfl ?_
  refine at_iconst 1499 X (by decide) dL_law__1498 rfl ?_
  refine at_iadd 1500 X dL_law__1499 rfl ?_
  rw [w32_id (by omega) (by omega)]
  refine at_xint 1501 X S (by omega) (by omega) dL_law__1500 rfl ?_
  refine at_callV 1504 X _ 12 (hM E _ _ _ _ _ _ hE hM1) clX12 rfl k_125 mo_X12_kept w_2261 vo_X12_kept.1 vo_X12_kept.2 rfl rfl (crl ⟨by omega, by omega⟩ (by omega) (by omega)) (Nat.le_of_ble_eq_true rfl) dL_law__1501 rfl ?_
  rintro _ _ ⟨bb, E2, rfl, rfl, hE2, hth, hbb⟩
  refine at_istore 1506 X dL_law__1504 rfl (by decide) ?_
  refine at_aload_n 1507 X rfl rfl dL_law__1506 rfl ?_
  refine at_callV 1510 X _ 12 (ct_X12_thrown hG E2) clX12 rfl k_125 mo_X12_thrown w_1945 vo_X12_thrown.1 vo_X12_thrown.2 rfl rfl (crl ⟨Nat.le_of_ble_eq_true rfl, Nat.le_of_ble_eq_true rfl⟩ (by omega) (by omega)) (Nat.le_of_ble_eq_true rfl) dL_law__1507 rfl ?_
  rintro _ _ ⟨rfl, rfl⟩
  rw [hth]
  refine at_iload 1512 X rfl dL_law__1510 rfl ?_
  refine at_icmp_eq 1515 1517 X dL_law__1512 rfl (by decide) (fun _ => ?_) (fun h => absurd rfl h)
  refine at_iload 1519 X rfl dL_law__1517 rfl ?_
  refine at_if_ne 1522 1534 X dL_law__1519 rfl (by decide) (fun h => ?_) (fun h => ?_)
  · refine at_goto 3366 X dL_law__1534 (by decide) ?_
    exact at_sub _ (by exact ⟨rfl, rfl, rfl, rfl, rfl, trivial⟩) (at_widen (by omega) (by omega) (hend E2 hE2))
  · have hc0 : cc = 0 := by omega
    have hbb := hbb hc0
    refine at_aload_n 1523 X rfl rfl dL_law__1522 rfl ?_
    refine at_iconst 1524 X (by decide) dL_law__1523 rfl ?_
    refine m_laload 1525 X k_813 e_813 (by decide) (by decide) dL_law__1524 rfl ?_
    refine at_iload 1527 X rfl dL_law__1525 rfl ?_
    refine at_i2l 1528 X dL_law__1527 rfl ?_
    refine at_lcmp 1529 X dL_law__1528 rfl ?_
    refine at_if_eq 1532 1534 X dL_law__1529 rfl (by decide) (fun _ => ?_) (fun h => absurd (lcmp_eq (by first | exact hbb | (rw [show (0 : Int).toNat = 0 from rfl, hbb]; omega))) h)
    refine at_goto 3366 X dL_law__1534 (by decide) ?_
    exact at_sub _ (by exact ⟨rfl, rfl, rfl, rfl, rfl, trivial⟩) (at_widen (by omega) (by omega) (hend E2 hE2))
theorem dL_law__1537 : decode code 1537 = .ok (.aload_n 1, 1) := by decide +kernel
theorem dL_law__1538 : decode code 1538 = .ok (.aload_n 0, 1) := by decide +kernel
theorem dL_law__1539 : decode code 1539 = .ok (.iload 4, 2) := by decide +kernel
theorem dL_law__1541 : decode code 1541 = .ok (.iconst 1, 1) := by decide +kernel
theorem dL_law__1542 : decode code 1542 = .ok (.iadd, 1) := by decide +kernel
theorem dL_law__1543 : decode code 1543 = .ok (.iaload, 1) := by decide +kernel
theorem dL_law__1544 : decode code 1544 = .ok (.aload_n 0, 1) := by decide +kernel
theorem dL_law__1545 : decode code 1545 = .ok (.iload 4, 2) := by decide +kernel
theorem dL_law__1547 : decode code 1547 = .ok (.iconst 2, 1) := by decide +kernel
theorem dL_law__1548 : decode code 1548 = .ok (.iadd, 1) := by decide +kernel
theorem dL_law__1549 : decode code 1549 = .ok (.iaload, 1) := by decide +kernel
theorem dL_law__1550 : decode code 1550 = .ok (.aload_n 0, 1) := by decide +kernel
theorem dL_law__1551 : decode code 1551 = .ok (.iload 4, 2) := by decide +kernel
theorem dL_law__1553 : decode code 1553 = .ok (.iconst 3, 1) := by decide +kernel
theorem dL_law__1554 : decode code 1554 = .ok (.iadd, 1) := by decide +kernel
theorem dL_law__1555 : decode code 1555 = .ok (.iaload, 1) := by decide +kernel
theorem dL_law__1556 : decode code 1556 = .ok (.aload_n 0, 1) := by decide +kernel
theorem dL_law__1557 : decode code 1557 = .ok (.iload 4, 2) := by decide +kernel
theorem dL_law__1559 : decode code 1559 = .ok (.iconst 4, 1) := by decide +kernel
theorem dL_law__1560 : decode code 1560 = .ok (.iadd, 1) := by decide +kernel
theorem dL_law__1561 : decode code 1561 = .ok (.iaload, 1) := by decide +kernel
theorem dL_law__1562 : decode code 1562 = .ok (.aload_n 3, 1) := by decide +kernel
theorem dL_law__1563 : decode code 1563 = .ok (.invokestatic 227, 3) := by decide +kernel
theorem dL_law__1566 : decode code 1566 = .ok (.istore 5, 2) := by decide +kernel
theorem dL_law__1568 : decode code 1568 = .ok (.aload_n 2, 1) := by decide +kernel
theorem dL_law__1569 : decode code 1569 = .ok (.aload_n 0, 1) := by decide +kernel
theorem dL_law__1570 : decode code 1570 = .ok (.iload 4, 2) := by decide +kernel
theorem dL_law__1572 : decode code 1572 = .ok (.iconst 1, 1) := by decide +kernel
theorem dL_law__1573 : decode code 1573 = .ok (.iadd, 1) := by decide +kernel
theorem dL_law__1574 : decode code 1574 = .ok (.iaload, 1) := by decide +kernel
theorem dL_law__1575 : decode code 1575 = .ok (.aload_n 0, 1) := by decide +kernel
theorem dL_law__1576 : decode code 1576 = .ok (.iload 4, 2) := by decide +kernel
theorem dL_law__1578 : decode code 1578 = .ok (.iconst 2, 1) := by decide +kernel
theorem dL_law__1579 : decode code 1579 = .ok (.iadd, 1) := by decide +kernel
theorem dL_law__1580 : decode code 1580 = .ok (.iaload, 1) := by decide +kernel
theorem dL_law__1581 : decode code 1581 = .ok (.aload_n 0, 1) := by decide +kernel
theorem dL_law__1582 : decode code 1582 = .ok (.iload 4, 2) := by decide +kernel
theorem dL_law__1584 : decode code 1584 = .ok (.iconst 3, 1) := by decide +kernel
theorem dL_law__1585 : decode code 1585 = .ok (.iadd, 1) := by decide +kernel
theorem dL_law__1586 : decode code 1586 = .ok (.iaload, 1) := by decide +kernel
theorem dL_law__1587 : decode code 1587 = .ok (.aload_n 0, 1) := by decide +kernel
theorem dL_law__1588 : decode code 1588 = .ok (.iload 4, 2) := by decide +kernel
theorem dL_law__1590 : decode code 1590 = .ok (.iconst 4, 1) := by decide +kernel
theorem dL_law__1591 : decode code 1591 = .ok (.iadd, 1) := by decide +kernel
theorem dL_law__1592 : decode code 1592 = .ok (.iaload, 1) := by decide +kernel
theorem dL_law__1593 : decode code 1593 = .ok (.invokevirtual 229, 3) := by decide +kernel
theorem dL_law__1596 : decode code 1596 = .ok (.istore 6, 2) := by decide +kernel
theorem dL_law__1598 : decode code 1598 = .ok (.aload_n 2, 1) := by decide +kernel
theorem dL_law__1599 : decode code 1599 = .ok (.invokevirtual 160, 3) := by decide +kernel
theorem dL_law__1602 : decode code 1602 = .ok (.iload 5, 2) := by decide +kernel
theorem dL_law__1604 : decode code 1604 = .ok (.if_icmp .eq 5, 3) := by decide +kernel
theorem dL_law__1607 : decode code 1607 = .ok (.iconst 0, 1) := by decide +kernel
theorem dL_law__1608 : decode code 1608 = .ok (.ireturn, 1) := by decide +kernel
theorem dL_law__1609 : decode code 1609 = .ok (.iload 5, 2) := by decide +kernel
theorem dL_law__1611 : decode code 1611 = .ok (.ifCond .ne 15, 3) := by decide +kernel
theorem dL_law__1614 : decode code 1614 = .ok (.aload_n 3, 1) := by decide +kernel
theorem dL_law__1615 : decode code 1615 = .ok (.iconst 0, 1) := by decide +kernel
theorem dL_law__1616 : decode code 1616 = .ok (.laload, 1) := by decide +kernel
theorem dL_law__1617 : decode code 1617 = .ok (.iload 6, 2) := by decide +kernel
theorem dL_law__1619 : decode code 1619 = .ok (.i2l, 1) := by decide +kernel
theorem dL_law__1620 : decode code 1620 = .ok (.lcmp, 1) := by decide +kernel
theorem dL_law__1621 : decode code 1621 = .ok (.ifCond .eq 5, 3) := by decide +kernel
theorem dL_law__1624 : decode code 1624 = .ok (.iconst 0, 1) := by decide +kernel
theorem dL_law__1625 : decode code 1625 = .ok (.ireturn, 1) := by decide +kernel
theorem dL_law__1626 : decode code 1626 = .ok (.goto 1740, 3) := by decide +kernel
theorem case_21 {INV INV' : Mm → Prop} {g : Gw} {p : Program} {e : Env} {s : State} {m : MethodId} {below : List Frame} {meth : Method} {c : Code} {b L : Nat} {xs : Nat → Int32} (hL : L ≤ 3072) (hG : GF g) (X : CX g (KL p e s m below meth c b) code R_law 8) (S : SCR g (KL p e s m below meth c b) b L xs) {fr lo mc ms fr2 lo2 : Nat} (M : Mm → Int → Int → Int → Int → Nat → Int → Mm → Prop) (hX : ∀ (E : Mm) (x0 x1 x2 x3 : Int), INV E → CTX g yX11_carry cX11_carry 5 (some .int) fr lo mc ms K2 false [mR 0, mI x0, mI x1, mI x2, mI x3] (ov E) K2 false (fun r D' => ∃ (v : Int) (E1 : Mm), r = some (mI v) ∧ D' = ov E1 ∧ M E x0 x1 x2 x3 0 v E1) (fun X D' => ∃ (c : Nat) (E1 : Mm), ((c = 1 ∧ X = "java/util/NoSuchElementException") ∨ (c = 2 ∧ X = "java/lang/IllegalArgumentException")) ∧ D' = ov E1 ∧ M E x0 x1 x2 x3 c 0 E1)) (hM : ∀ (E : Mm) (x0 x1 x2 x3 : Int) (c : Nat) (v : Int) (E1 : Mm), INV E → M E x0 x1 x2 x3 c v E1 → CT g yX12_carry cX12_carry 7 (some .int) fr2 lo2 0 0 K2 false [mR 125, mI x0, mI x1, mI x2, mI x3] (ov (if c = 0 then wr E1 813 0 v else E1)) K2 false (fun r D' => ∃ (bb : Int) (E2 : Mm), r = some (mI bb) ∧ D' = ov E2 ∧ INV' E2 ∧ E2 125 0 = (c : Int) ∧ (c = 0 → E2 813 0 = bb))) (hr1 : fr + 2 ≤ room_1.frames ∧ 8 + (7 + 11) + (lo + 24) ≤ room_1.locals) (hr2 : fr2 + 1 ≤ room_1.frames ∧ 8 + (7 + 11) + lo2 ≤ room_1.locals) (hmc : mc ≤ 10) (hms : ms ≤ 100) (E : Mm) (n cells slots : Nat) (hE : INV E) (hn : n + 6 ≤ L) (hc : cells + 10 ≤ 601024) (hs : slots + 100 ≤ 7293034) (hend : ∀ E' : Mm, INV' E' → AT g (KL p e s m below meth c b) K2 false (cells + 10) (slots + 100) 3366 (lawL b n) [] (ov E')) : AT g (KL p e s m below meth c b) K2 false cells slots 1537 (lawL b n) [] (ov E) := by
  refine at_aload_n 1538 X rfl rfl dL_law__1537 rfl ?_
  refine at_xload_n 1539 X rfl rfl dL_law__1538 rfl ?_
  refine at_iload 1541 X rfl dL_law__1539 rfl ?_
  refine at_iconst 1542 X (by decide) dL_law__1541 rfl ?_
  refine at_iadd 1543 X dL_law__1542 rfl ?_
  rw [w32_id (by omega) (by omega)]
  refine at_xint 1544 X S (by omega) (by omega) dL_law__1543 rfl ?_
  refine at_xload_n 1545 X rfl rfl dL_law__1544 rfl ?_
  refine at_iload 1547 X rfl dL_law__1545 rfl ?_
  refine at_iconst 1548 X (by decide) dL_law__1547 rfl ?_
  refine at_iadd 1549 X dL_law__1548 rfl ?_
  rw [w32_id (by omega) (by omega)]
  refine at_xint 1550 X S (by omega) (by omega) dL_law__1549 rfl ?_
  refine at_xload_n 1551 X rfl rfl dL_law__1550 rfl ?_
  refine at_iload 1553 X rfl dL_law__1551 rfl ?_
  refine at_iconst 1554 X (by decide) dL_law__1553 rfl ?_
  refine at_iadd 1555 X dL_law__1554 rfl ?_
  rw [w32_id (by omega) (by omega)]
  refine at_xint 1556 X S (by omega) (by omega) dL_law__1555 rfl ?_
  refine at_xload_n 1557 X rfl rfl dL_law__1556 rfl ?_
  refine at_iload 1559 X rfl dL_law__1557 rfl ?_
  refine at_iconst 1560 X (by decide) dL_law__1559 rfl ?_
  refine at_iadd 1561 X dL_law__1560 rfl ?_
  rw [w32_id (by omega) (by omega)]
  refine at_xint 1562 X S (by omega) (by omega) dL_law__1561 rfl ?_
  refine at_aload_n 1563 X rfl rfl dL_law__1562 rfl ?_
  refine at_callSH (n := 6) 1566 X (lh_carry hG E _ _ _ _ (M E _ _ _ _) (hX E _ _ _ _ hE)) w_1412 w_120 rfl (by decide +kernel) w_1410 w_1411 rfl rfl (crl ⟨by omega, by omega⟩ (by omega) (by omega)) (Nat.le_of_ble_eq_true rfl) dL_law__1563 rfl ?_
  rintro _ _ ⟨cc, v, E1, rfl, hM1, rfl⟩
  refine at_istore 1568 X dL_law__1566 rfl (by decide) ?_
  refine at_aload_n 1569 X rfl rfl dL_law__1568 rfl ?_
  refine at_xload_n 1570 X rfl rfl dL_law__1569 rfl ?_
  refine at_iload 1572 X rfl dL_law__1570 rfl ?_
  refine at_iconst 1573 X (by decide) dL_law__1572 rfl ?_
  refine at_iadd 1574 X dL_law__1573 rfl ?_
  rw [w32_id (by omega) (by omega)]
  refine at_xint 1575 X S (by omega) (by omega) dL_law__1574 rfl ?_
  refine at_xload_n 1576 X rfl rfl dL_law__1575 rfl ?_
  refine at_iload 1578 X rfl dL_law__1576 rfl ?_
  refine at_iconst 1579 X (by decide) dL_law__1578 rfl ?_
  refine at_iadd 1580 X dL_law__1579 rfl ?_
  rw [w32_id (by omega) (by omega)]
  refine at_xint 1581 X S (by omega) (by omega) dL_law__1580 rfl ?_
  refine at_xload_n 1582 X rfl rfl dL_law__1581 rfl ?_
  refine at_iload 1584 X rfl dL_law__1582 rfl ?_
  refine at_iconst 1585 X (by decide) dL_law__1584 rfl ?_
  refine at_iadd 1586 X dL_law__1585 rfl ?_
  rw [w32_id (by omega) (by omega)]
  refine at_xint 1587 X S (by omega) (by omega) dL_law__1586 rfl ?_
  refine at_xload_n 1588 X rfl rfl dL_law__1587 rfl ?_
  refine at_iload 1590 X rfl dL_law__1588 rfl ?_
  refine at_iconst 1591 X (by decide) dL_law__1590 rfl ?_
  refine at_iadd 1592 X dL_law__1591 rfl ?_
  rw [w32_id (by omega) (by omega)]
  refine at_xint 1593 X S (by omega) (by omega) dL_law__1592 rfl ?_
  refine at_callV 1596 X _ 12 (hM E _ _ _ _ _ _ _ hE hM1) clX12 rfl k_125 mo_X12_carry w_2281 vo_X12_carry.1 vo_X12_carry.2 rfl rfl (crl ⟨by omega, by omega⟩ (by omega) (by omega)) (Nat.le_of_ble_eq_true rfl) dL_law__1593 rfl ?_
  rintro _ _ ⟨bb, E2, rfl, rfl, hE2, hth, hbb⟩
  refine at_istore 1598 X dL_law__1596 rfl (by decide) ?_
  refine at_aload_n 1599 X rfl rfl dL_law__1598 rfl ?_
  refine at_callV 1602 X _ 12 (ct_X12_thrown hG E2) clX12 rfl k_125 mo_X12_thrown w_1945 vo_X12_thrown.1 vo_X12_thrown.2 rfl rfl (crl ⟨Nat.le_of_ble_eq_true rfl, Nat.le_of_ble_eq_true rfl⟩ (by omega) (by omega)) (Nat.le_of_ble_eq_true rfl) dL_law__1599 rfl ?_
  rintro _ _ ⟨rfl, rfl⟩
  rw [hth]
  refine at_iload 1604 X rfl dL_law__1602 rfl ?_
  refine at_icmp_eq 1607 1609 X dL_law__1604 rfl (by decide) (fun _ => ?_) (fun h => absurd rfl h)
  refine at_iload 1611 X rfl dL_law__1609 rfl ?_
  refine at_if_ne 1614 1626 X dL_law__1611 rfl (by decide) (fun h => ?_) (fun h => ?_)
  · refine at_goto 3366 X dL_law__1626 (by decide) ?_
    exact at_sub _ (by exact ⟨rfl, rfl, rfl, rfl, rfl, trivial⟩) (at_widen (by omega) (by omega) (hend E2 hE2))
  · have hc0 : cc = 0 := by omega
    have hbb := hbb hc0
    refine at_aload_n 1615 X rfl rfl dL_law__1614 rfl ?_
    refine at_iconst 1616 X (by decide) dL_law__1615 rfl ?_
    refine m_laload 1617 X k_813 e_813 (by decide) (by decide) dL_law__1616 rfl ?_
    refine at_iload 1619 X rfl dL_law__1617 rfl ?_
    refine at_i2l 1620 X dL_law__1619 rfl ?_
    refine at_lcmp 1621 X dL_law__1620 rfl ?_
    refine at_if_eq 1624 1626 X dL_law__1621 rfl (by decide) (fun _ => ?_) (fun h => absurd (lcmp_eq (by first | exact hbb | (rw [show (0 : Int).toNat = 0 from rfl, hbb]; omega))) h)
    refine at_goto 3366 X dL_law__1626 (by decide) ?_
    exact at_sub _ (by exact ⟨rfl, rfl, rfl, rfl, rfl, trivial⟩) (at_widen (by omega) (by omega) (hend E2 hE2))
theorem dL_law__1629 : decode code 1629 = .ok (.aload_n 1, 1) := by decide +kernel
theorem dL_law__1630 : decode code 1630 = .ok (.aload_n 0, 1) := by decide +kernel
theorem dL_law__1631 : decode code 1631 = .ok (.iload 4, 2) := by decide +kernel
theorem dL_law__1633 : decode code 1633 = .ok (.iconst 1, 1) := by decide +kernel
theorem dL_law__1634 : decode code 1634 = .ok (.iadd, 1) := by decide +kernel
theorem dL_law__1635 : decode code 1635 = .ok (.iaload, 1) := by decide +kernel
theorem dL_law__1636 : decode code 1636 = .ok (.aload_n 0, 1) := by decide +kernel
theorem dL_law__1637 : decode code 1637 = .ok (.iload 4, 2) := by decide +kernel
theorem dL_law__1639 : decode code 1639 = .ok (.iconst 2, 1) := by decide +kernel
theorem dL_law__1640 : decode code 1640 = .ok (.iadd, 1) := by decide +kernel
theorem dL_law__1641 : decode code 1641 = .ok (.iaload, 1) := by decide +kernel
theorem dL_law__1642 : decode code 1642 = .ok (.aload_n 0, 1) := by decide +kernel
theorem dL_law__1643 : decode code 1643 = .ok (.iload 4, 2) := by decide +kernel
theorem dL_law__1645 : decode code 1645 = .ok (.iconst 3, 1) := by decide +kernel
theorem dL_law__1646 : decode code 1646 = .ok (.iadd, 1) := by decide +kernel
theorem dL_law__1647 : decode code 1647 = .ok (.iaload, 1) := by decide +kernel
theorem dL_law__1648 : decode code 1648 = .ok (.aload_n 3, 1) := by decide +kernel
theorem dL_law__1649 : decode code 1649 = .ok (.invokestatic 230, 3) := by decide +kernel
theorem dL_law__1652 : decode code 1652 = .ok (.istore 5, 2) := by decide +kernel
theorem dL_law__1654 : decode code 1654 = .ok (.aload_n 2, 1) := by decide +kernel
theorem dL_law__1655 : decode code 1655 = .ok (.aload_n 0, 1) := by decide +kernel
theorem dL_law__1656 : decode code 1656 = .ok (.iload 4, 2) := by decide +kernel
theorem dL_law__1658 : decode code 1658 = .ok (.iconst 1, 1) := by decide +kernel
theorem dL_law__1659 : decode code 1659 = .ok (.iadd, 1) := by decide +kernel
theorem dL_law__1660 : decode code 1660 = .ok (.iaload, 1) := by decide +kernel
theorem dL_law__1661 : decode code 1661 = .ok (.aload_n 0, 1) := by decide +kernel
theorem dL_law__1662 : decode code 1662 = .ok (.iload 4, 2) := by decide +kernel
theorem dL_law__1664 : decode code 1664 = .ok (.iconst 2, 1) := by decide +kernel
theorem dL_law__1665 : decode code 1665 = .ok (.iadd, 1) := by decide +kernel
theorem dL_law__1666 : decode code 1666 = .ok (.iaload, 1) := by decide +kernel
theorem dL_law__1667 : decode code 1667 = .ok (.aload_n 0, 1) := by decide +kernel
theorem dL_law__1668 : decode code 1668 = .ok (.iload 4, 2) := by decide +kernel
theorem dL_law__1670 : decode code 1670 = .ok (.iconst 3, 1) := by decide +kernel
theorem dL_law__1671 : decode code 1671 = .ok (.iadd, 1) := by decide +kernel
theorem dL_law__1672 : decode code 1672 = .ok (.iaload, 1) := by decide +kernel
theorem dL_law__1673 : decode code 1673 = .ok (.invokevirtual 232, 3) := by decide +kernel
theorem dL_law__1676 : decode code 1676 = .ok (.istore 6, 2) := by decide +kernel
theorem dL_law__1678 : decode code 1678 = .ok (.aload_n 2, 1) := by decide +kernel
theorem dL_law__1679 : decode code 1679 = .ok (.invokevirtual 160, 3) := by decide +kernel
theorem dL_law__1682 : decode code 1682 = .ok (.iload 5, 2) := by decide +kernel
theorem dL_law__1684 : decode code 1684 = .ok (.if_icmp .eq 5, 3) := by decide +kernel
theorem dL_law__1687 : decode code 1687 = .ok (.iconst 0, 1) := by decide +kernel
theorem dL_law__1688 : decode code 1688 = .ok (.ireturn, 1) := by decide +kernel
theorem dL_law__1689 : decode code 1689 = .ok (.iload 5, 2) := by decide +kernel
theorem dL_law__1691 : decode code 1691 = .ok (.ifCond .ne 15, 3) := by decide +kernel
theorem dL_law__1694 : decode code 1694 = .ok (.aload_n 3, 1) := by decide +kernel
theorem dL_law__1695 : decode code 1695 = .ok (.iconst 0, 1) := by decide +kernel
theorem dL_law__1696 : decode code 1696 = .ok (.laload, 1) := by decide +kernel
theorem dL_law__1697 : decode code 1697 = .ok (.iload 6, 2) := by decide +kernel
theorem dL_law__1699 : decode code 1699 = .ok (.i2l, 1) := by decide +kernel
theorem dL_law__1700 : decode code 1700 = .ok (.lcmp, 1) := by decide +kernel
theorem dL_law__1701 : decode code 1701 = .ok (.ifCond .eq 5, 3) := by decide +kernel
theorem dL_law__1704 : decode code 1704 = .ok (.iconst 0, 1) := by decide +kernel
theorem dL_law__1705 : decode code 1705 = .ok (.ireturn, 1) := by decide +kernel
theorem dL_law__1706 : decode code 1706 = .ok (.goto 1660, 3) := by decide +kernel
theorem case_22 {INV INV' : Mm → Prop} {g : Gw} {p : Program} {e : Env} {s : State} {m : MethodId} {below : List Frame} {meth : Method} {c : Code} {b L : Nat} {xs : Nat → Int32} (hL : L ≤ 3072) (hG : GF g) (X : CX g (KL p e s m below meth c b) code R_law 8) (S : SCR g (KL p e s m below meth c b) b L xs) {fr lo mc ms fr2 lo2 : Nat} (M : Mm → Int → Int → Int → Nat → Int → Mm → Prop) (hX : ∀ (E : Mm) (x0 x1 x2 : Int), INV E → CTX g yX11_lit cX11_lit 5 (some .int) fr lo mc ms K2 false [mR 0, mI x0, mI x1, mI x2] (ov E) K2 false (fun r D' => ∃ (v : Int) (E1 : Mm), r = some (mI v) ∧ D' = ov E1 ∧ M E x0 x1 x2 0 v E1) (fun X D' => ∃ (c : Nat) (E1 : Mm), ((c = 1 ∧ X = "java/lang/IllegalArgumentException")) ∧ D' = ov E1 ∧ M E x0 x1 x2 c 0 E1)) (hM : ∀ (E : Mm) (x0 x1 x2 : Int) (c : Nat) (v : Int) (E1 : Mm), INV E → M E x0 x1 x2 c v E1 → CT g yX12_lit cX12_lit 5 (some .int) fr2 lo2 0 0 K2 false [mR 125, mI x0, mI x1, mI x2] (ov (if c = 0 then wr E1 813 0 v else E1)) K2 false (fun r D' => ∃ (bb : Int) (E2 : Mm), r = some (mI bb) ∧ D' = ov E2 ∧ INV' E2 ∧ E2 125 0 = (c : Int) ∧ (c = 0 → E2 813 0 = bb))) (hr1 : fr + 2 ≤ room_1.frames ∧ 8 + (6 + 11) + (lo + 24) ≤ room_1.locals) (hr2 : fr2 + 1 ≤ room_1.frames ∧ 8 + (5 + 11) + lo2 ≤ room_1.locals) (hmc : mc ≤ 10) (hms : ms ≤ 100) (E : Mm) (n cells slots : Nat) (hE : INV E) (hn : n + 6 ≤ L) (hc : cells + 10 ≤ 601024) (hs : slots + 100 ≤ 7293034) (hend : ∀ E' : Mm, INV' E' → AT g (KL p e s m below meth c b) K2 false (cells + 10) (slots + 100) 3366 (lawL b n) [] (ov E')) : AT g (KL p e s m below meth c b) K2 false cells slots 1629 (lawL b n) [] (ov E) := by
  refine at_aload_n 1630 X rfl rfl dL_law__1629 rfl ?_
  refine at_xload_n 1631 X rfl rfl dL_law__1630 rfl ?_
  refine at_iload 1633 X rfl dL_law__1631 rfl ?_
  refine at_iconst 1634 X (by decide) dL_law__1633 rfl ?_
  refine at_iadd 1635 X dL_law__1634 rfl ?_
  rw [w32_id (by omega) (by omega)]
  refine at_xint 1636 X S (by omega) (by omega) dL_law__1635 rfl ?_
  refine at_xload_n 1637 X rfl rfl dL_law__1636 rfl ?_
  refine at_iload 1639 X rfl dL_law__1637 rfl ?_
  refine at_iconst 1640 X (by decide) dL_law__1639 rfl ?_
  refine at_iadd 1641 X dL_law__1640 rfl ?_
  rw [w32_id (by omega) (by omega)]
  refine at_xint 1642 X S (by omega) (by omega) dL_law__1641 rfl ?_
  refine at_xload_n 1643 X rfl rfl dL_law__1642 rfl ?_
  refine at_iload 1645 X rfl dL_law__1643 rfl ?_
  refine at_iconst 1646 X (by decide) dL_law__1645 rfl ?_
  refine at_iadd 1647 X dL_law__1646 rfl ?_
  rw [w32_id (by omega) (by omega)]
  refine at_xint 1648 X S (by omega) (by omega) dL_law__1647 rfl ?_
  refine at_aload_n 1649 X rfl rfl dL_law__1648 rfl ?_
  refine at_callSH (n := 5) 1652 X (lh_lit hG E _ _ _ (M E _ _ _) (hX E _ _ _ hE)) w_1428 w_120 rfl (by decide +kernel) w_1426 w_1427 rfl rfl (crl ⟨by omega, by omega⟩ (by omega) (by omega)) (Nat.le_of_ble_eq_true rfl) dL_law__1649 rfl ?_
  rintro _ _ ⟨cc, v, E1, rfl, hM1, rfl⟩
  refine at_istore 1654 X dL_law__1652 rfl (by decide) ?_
  refine at_aload_n 1655 X rfl rfl dL_law__1654 rfl ?_
  refine at_xload_n 1656 X rfl rfl dL_law__1655 rfl ?_
  refine at_iload 1658 X rfl dL_law__1656 rfl ?_
  refine at_iconst 1659 X (by decide) dL_law__1658 rfl ?_
  refine at_iadd 1660 X dL_law__1659 rfl ?_
  rw [w32_id (by omega) (by omega)]
  refine at_xint 1661 X S (by omega) (by omega) dL_law__1660 rfl ?_
  refine at_xload_n 1662 X rfl rfl dL_law__1661 rfl ?_
  refine at_iload 1664 X rfl dL_law__1662 rfl ?_
  refine at_iconst 1665 X (by decide) dL_law__1664 rfl ?_
  refine at_iadd 1666 X dL_law__1665 rfl ?_
  rw [w32_id (by omega) (by omega)]
  refine at_xint 1667 X S (by omega) (by omega) dL_law__1666 rfl ?_
  refine at_xload_n 1668 X rfl rfl dL_law__1667 rfl ?_
  refine at_iload 1670 X rfl dL_law__1668 rfl ?_
  refine at_iconst 1671 X (by decide) dL_law__1670 rfl ?_
  refine at_iadd 1672 X dL_law__1671 rfl ?_
  rw [w32_id (by omega) (by omega)]
  refine at_xint 1673 X S (by omega) (by omega) dL_law__1672 rfl ?_
  refine at_callV 1676 X _ 12 (hM E _ _ _ _ _ _ hE hM1) clX12 rfl k_125 mo_X12_lit w_2285 vo_X12_lit.1 vo_X12_lit.2 rfl rfl (crl ⟨by omega, by omega⟩ (by omega) (by omega)) (Nat.le_of_ble_eq_true rfl) dL_law__1673 rfl ?_
  rintro _ _ ⟨bb, E2, rfl, rfl, hE2, hth, hbb⟩
  refine at_istore 1678 X dL_law__1676 rfl (by decide) ?_
  refine at_aload_n 1679 X rfl rfl dL_law__1678 rfl ?_
  refine at_callV 1682 X _ 12 (ct_X12_thrown hG E2) clX12 rfl k_125 mo_X12_thrown w_1945 vo_X12_thrown.1 vo_X12_thrown.2 rfl rfl (crl ⟨Nat.le_of_ble_eq_true rfl, Nat.le_of_ble_eq_true rfl⟩ (by omega) (by omega)) (Nat.le_of_ble_eq_true rfl) dL_law__1679 rfl ?_
  rintro _ _ ⟨rfl, rfl⟩
  rw [hth]
  refine at_iload 1684 X rfl dL_law__1682 rfl ?_
  refine at_icmp_eq 1687 1689 X dL_law__1684 rfl (by decide) (fun _ => ?_) (fun h => absurd rfl h)
  refine at_iload 1691 X rfl dL_law__1689 rfl ?_
  refine at_if_ne 1694 1706 X dL_law__1691 rfl (by decide) (fun h => ?_) (fun h => ?_)
  · refine at_goto 3366 X dL_law__1706 (by decide) ?_
    exact at_sub _ (by exact ⟨rfl, rfl, rfl, rfl, rfl, trivial⟩) (at_widen (by omega) (by omega) (hend E2 hE2))
  · have hc0 : cc = 0 := by omega
    have hbb := hbb hc0
    refine at_aload_n 1695 X rfl rfl dL_law__1694 rfl ?_
    refine at_iconst 1696 X (by decide) dL_law__1695 rfl ?_
    refine m_laload 1697 X k_813 e_813 (by decide) (by decide) dL_law__1696 rfl ?_
    refine at_iload 1699 X rfl dL_law__1697 rfl ?_
    refine at_i2l 1700 X dL_law__1699 rfl ?_
    refine at_lcmp 1701 X dL_law__1700 rfl ?_
    refine at_if_eq 1704 1706 X dL_law__1701 rfl (by decide) (fun _ => ?_) (fun h => absurd (lcmp_eq (by first | exact hbb | (rw [show (0 : Int).toNat = 0 from rfl, hbb]; omega))) h)
    refine at_goto 3366 X dL_law__1706 (by decide) ?_
    exact at_sub _ (by exact ⟨rfl, rfl, rfl, rfl, rfl, trivial⟩) (at_widen (by omega) (by omega) (hend E2 hE2))
theorem dL_law__1709 : decode code 1709 = .ok (.aload_n 1, 1) := by decide +kernel
theorem dL_law__1710 : decode code 1710 = .ok (.aload_n 0, 1) := by decide +kernel
theorem dL_law__1711 : decode code 1711 = .ok (.iload 4, 2) := by decide +kernel
theorem dL_law__1713 : decode code 1713 = .ok (.iconst 1, 1) := by decide +kernel
theorem dL_law__1714 : decode code 1714 = .ok (.iadd, 1) := by decide +kernel
theorem dL_law__1715 : decode code 1715 = .ok (.iaload, 1) := by decide +kernel
theorem dL_law__1716 : decode code 1716 = .ok (.aload_n 0, 1) := by decide +kernel
theorem dL_law__1717 : decode code 1717 = .ok (.iload 4, 2) := by decide +kernel
theorem dL_law__1719 : decode code 1719 = .ok (.iconst 2, 1) := by decide +kernel
theorem dL_law__1720 : decode code 1720 = .ok (.iadd, 1) := by decide +kernel
theorem dL_law__1721 : decode code 1721 = .ok (.iaload, 1) := by decide +kernel
theorem dL_law__1722 : decode code 1722 = .ok (.aload_n 3, 1) := by decide +kernel
theorem dL_law__1723 : decode code 1723 = .ok (.invokestatic 233, 3) := by decide +kernel
theorem dL_law__1726 : decode code 1726 = .ok (.istore 5, 2) := by decide +kernel
theorem dL_law__1728 : decode code 1728 = .ok (.aload_n 2, 1) := by decide +kernel
theorem dL_law__1729 : decode code 1729 = .ok (.aload_n 0, 1) := by decide +kernel
theorem dL_law__1730 : decode code 1730 = .ok (.iload 4, 2) := by decide +kernel
theorem dL_law__1732 : decode code 1732 = .ok (.iconst 1, 1) := by decide +kernel
theorem dL_law__1733 : decode code 1733 = .ok (.iadd, 1) := by decide +kernel
theorem dL_law__1734 : decode code 1734 = .ok (.iaload, 1) := by decide +kernel
theorem dL_law__1735 : decode code 1735 = .ok (.aload_n 0, 1) := by decide +kernel
theorem dL_law__1736 : decode code 1736 = .ok (.iload 4, 2) := by decide +kernel
theorem dL_law__1738 : decode code 1738 = .ok (.iconst 2, 1) := by decide +kernel
theorem dL_law__1739 : decode code 1739 = .ok (.iadd, 1) := by decide +kernel
theorem dL_law__1740 : decode code 1740 = .ok (.iaload, 1) := by decide +kernel
theorem dL_law__1741 : decode code 1741 = .ok (.invokevirtual 235, 3) := by decide +kernel
theorem dL_law__1744 : decode code 1744 = .ok (.istore 6, 2) := by decide +kernel
theorem dL_law__1746 : decode code 1746 = .ok (.aload_n 2, 1) := by decide +kernel
theorem dL_law__1747 : decode code 1747 = .ok (.invokevirtual 160, 3) := by decide +kernel
theorem dL_law__1750 : decode code 1750 = .ok (.iload 5, 2) := by decide +kernel
theorem dL_law__1752 : decode code 1752 = .ok (.if_icmp .eq 5, 3) := by decide +kernel
theorem dL_law__1755 : decode code 1755 = .ok (.iconst 0, 1) := by decide +kernel
theorem dL_law__1756 : decode code 1756 = .ok (.ireturn, 1) := by decide +kernel
theorem dL_law__1757 : decode code 1757 = .ok (.iload 5, 2) := by decide +kernel
theorem dL_law__1759 : decode code 1759 = .ok (.ifCond .ne 15, 3) := by decide +kernel
theorem dL_law__1762 : decode code 1762 = .ok (.aload_n 3, 1) := by decide +kernel
theorem dL_law__1763 : decode code 1763 = .ok (.iconst 0, 1) := by decide +kernel
theorem dL_law__1764 : decode code 1764 = .ok (.laload, 1) := by decide +kernel
theorem dL_law__1765 : decode code 1765 = .ok (.iload 6, 2) := by decide +kernel
theorem dL_law__1767 : decode code 1767 = .ok (.i2l, 1) := by decide +kernel
theorem dL_law__1768 : decode code 1768 = .ok (.lcmp, 1) := by decide +kernel
theorem dL_law__1769 : decode code 1769 = .ok (.ifCond .eq 5, 3) := by decide +kernel
theorem dL_law__1772 : decode code 1772 = .ok (.iconst 0, 1) := by decide +kernel
theorem dL_law__1773 : decode code 1773 = .ok (.ireturn, 1) := by decide +kernel
theorem dL_law__1774 : decode code 1774 = .ok (.goto 1592, 3) := by decide +kernel
theorem case_23 {INV INV' : Mm → Prop} {g : Gw} {p : Program} {e : Env} {s : State} {m : MethodId} {below : List Frame} {meth : Method} {c : Code} {b L : Nat} {xs : Nat → Int32} (hL : L ≤ 3072) (hG : GF g) (X : CX g (KL p e s m below meth c b) code R_law 8) (S : SCR g (KL p e s m below meth c b) b L xs) {fr lo mc ms fr2 lo2 : Nat} (M : Mm → Int → Int → Nat → Int → Mm → Prop) (hX : ∀ (E : Mm) (x0 x1 : Int), INV E → CTX g yX11_tower cX11_tower 6 (some .int) fr lo mc ms K2 false [mR 0, mI x0, mI x1] (ov E) K2 false (fun r D' => ∃ (v : Int) (E1 : Mm), r = some (mI v) ∧ D' = ov E1 ∧ M E x0 x1 0 v E1) (fun X D' => ∃ (c : Nat) (E1 : Mm), ((c = 1 ∧ X = "java/lang/IllegalArgumentException")) ∧ D' = ov E1 ∧ M E x0 x1 c 0 E1)) (hM : ∀ (E : Mm) (x0 x1 : Int) (c : Nat) (v : Int) (E1 : Mm), INV E → M E x0 x1 c v E1 → CT g yX12_tower cX12_tower 7 (some .int) fr2 lo2 0 0 K2 false [mR 125, mI x0, mI x1] (ov (if c = 0 then wr E1 813 0 v else E1)) K2 false (fun r D' => ∃ (bb : Int) (E2 : Mm), r = some (mI bb) ∧ D' = ov E2 ∧ INV' E2 ∧ E2 125 0 = (c : Int) ∧ (c = 0 → E2 813 0 = bb))) (hr1 : fr + 2 ≤ room_1.frames ∧ 8 + (5 + 11) + (lo + 25) ≤ room_1.locals) (hr2 : fr2 + 1 ≤ room_1.frames ∧ 8 + (7 + 11) + lo2 ≤ room_1.locals) (hmc : mc ≤ 10) (hms : ms ≤ 100) (E : Mm) (n cells slots : Nat) (hE : INV E) (hn : n + 6 ≤ L) (hc : cells + 10 ≤ 601024) (hs : slots + 100 ≤ 7293034) (hend : ∀ E' : Mm, INV' E' → AT g (KL p e s m below meth c b) K2 false (cells + 10) (slots + 100) 3366 (lawL b n) [] (ov E')) : AT g (KL p e s m below meth c b) K2 false cells slots 1709 (lawL b n) [] (ov E) := by
  refine at_aload_n 1710 X rfl rfl dL_law__1709 rfl ?_
  refine at_xload_n 1711 X rfl rfl dL_law__1710 rfl ?_
  refine at_iload 1713 X rfl dL_law__1711 rfl ?_
  refine at_iconst 1714 X (by decide) dL_law__1713 rfl ?_
  refine at_iadd 1715 X dL_law__1714 rfl ?_
  rw [w32_id (by omega) (by omega)]
  refine at_xint 1716 X S (by omega) (by omega) dL_law__1715 rfl ?_
  refine at_xload_n 1717 X rfl rfl dL_law__1716 rfl ?_
  refine at_iload 1719 X rfl dL_law__1717 rfl ?_
  refine at_iconst 1720 X (by decide) dL_law__1719 rfl ?_
  refine at_iadd 1721 X dL_law__1720 rfl ?_
  rw [w32_id (by omega) (by omega)]
  refine at_xint 1722 X S (by omega) (by omega) dL_law__1721 rfl ?_
  refine at_aload_n 1723 X rfl rfl dL_law__1722 rfl ?_
  refine at_callSH (n := 4) 1726 X (lh_tower hG E _ _ (M E _ _) (hX E _ _ hE)) w_1506 w_120 rfl (by decide +kernel) w_1504 w_1505 rfl rfl (crl ⟨by omega, by omega⟩ (by omega) (by omega)) (Nat.le_of_ble_eq_true rfl) dL_law__1723 rfl ?_
  rintro _ _ ⟨cc, v, E1, rfl, hM1, rfl⟩
  refine at_istore 1728 X dL_law__1726 rfl (by decide) ?_
  refine at_aload_n 1729 X rfl rfl dL_law__1728 rfl ?_
  refine at_xload_n 1730 X rfl rfl dL_law__1729 rfl ?_
  refine at_iload 1732 X rfl dL_law__1730 rfl ?_
  refine at_iconst 1733 X (by decide) dL_law__1732 rfl ?_
  refine at_iadd 1734 X dL_law__1733 rfl ?_
  rw [w32_id (by omega) (by omega)]
  refine at_xint 1735 X S (by omega) (by omega) dL_law__1734 rfl ?_
  refine at_xload_n 1736 X rfl rfl dL_law__1735 rfl ?_
  refine at_iload 1738 X rfl dL_law__1736 rfl ?_
  refine at_iconst 1739 X (by decide) dL_law__1738 rfl ?_
  refine at_iadd 1740 X dL_law__1739 rfl ?_
  rw [w32_id (by omega) (by omega)]
  refine at_xint 1741 X S (by omega) (by omega) dL_law__1740 rfl ?_
  refine at_callV 1744 X _ 12 (hM E _ _ _ _ _ hE hM1) clX12 rfl k_125 mo_X12_tower w_2293 vo_X12_tower.1 vo_X12_tower.2 rfl rfl (crl ⟨by omega, by omega⟩ (by omega) (by omega)) (Nat.le_of_ble_eq_true rfl) dL_law__1741 rfl ?_
  rintro _ _ ⟨bb, E2, rfl, rfl, hE2, hth, hbb⟩
  refine at_istore 1746 X dL_law__1744 rfl (by decide) ?_
  refine at_aload_n 1747 X rfl rfl dL_law__1746 rfl ?_
  refine at_callV 1750 X _ 12 (ct_X12_thrown hG E2) clX12 rfl k_125 mo_X12_thrown w_1945 vo_X12_thrown.1 vo_X12_thrown.2 rfl rfl (crl ⟨Nat.le_of_ble_eq_true rfl, Nat.le_of_ble_eq_true rfl⟩ (by omega) (by omega)) (Nat.le_of_ble_eq_true rfl) dL_law__1747 rfl ?_
  rintro _ _ ⟨rfl, rfl⟩
  rw [hth]
  refine at_iload 1752 X rfl dL_law__1750 rfl ?_
  refine at_icmp_eq 1755 1757 X dL_law__1752 rfl (by decide) (fun _ => ?_) (fun h => absurd rfl h)
  refine at_iload 1759 X rfl dL_law__1757 rfl ?_
  refine at_if_ne 1762 1774 X dL_law__1759 rfl (by decide) (fun h => ?_) (fun h => ?_)
  · refine at_goto 3366 X dL_law__1774 (by decide) ?_
    exact at_sub _ (by exact ⟨rfl, rfl, rfl, rfl, rfl, trivial⟩) (at_widen (by omega) (by omega) (hend E2 hE2))
  · have hc0 : cc = 0 := by omega
    have hbb := hbb hc0
    refine at_aload_n 1763 X rfl rfl dL_law__1762 rfl ?_
    refine at_iconst 1764 X (by decide) dL_law__1763 rfl ?_
    refine m_laload 1765 X k_813 e_813 (by decide) (by decide) dL_law__1764 rfl ?_
    refine at_iload 1767 X rfl dL_law__1765 rfl ?_
    refine at_i2l 1768 X dL_law__1767 rfl ?_
    refine at_lcmp 1769 X dL_law__1768 rfl ?_
    refine at_if_eq 1772 1774 X dL_law__1769 rfl (by decide) (fun _ => ?_) (fun h => absurd (lcmp_eq (by first | exact hbb | (rw [show (0 : Int).toNat = 0 from rfl, hbb]; omega))) h)
    refine at_goto 3366 X dL_law__1774 (by decide) ?_
    exact at_sub _ (by exact ⟨rfl, rfl, rfl, rfl, rfl, trivial⟩) (at_widen (by omega) (by omega) (hend E2 hE2))
theorem dL_law__1777 : decode code 1777 = .ok (.aload_n 1, 1) := by decide +kernel
theorem dL_law__1778 : decode code 1778 = .ok (.aload_n 0, 1) := by decide +kernel
theorem dL_law__1779 : decode code 1779 = .ok (.iload 4, 2) := by decide +kernel
theorem dL_law__1781 : decode code 1781 = .ok (.iconst 1, 1) := by decide +kernel
theorem dL_law__1782 : decode code 1782 = .ok (.iadd, 1) := by decide +kernel
theorem dL_law__1783 : decode code 1783 = .ok (.iaload, 1) := by decide +kernel
theorem dL_law__1784 : decode code 1784 = .ok (.aload_n 3, 1) := by decide +kernel
theorem dL_law__1785 : decode code 1785 = .ok (.invokestatic 236, 3) := by decide +kernel
theorem dL_law__1788 : decode code 1788 = .ok (.istore 5, 2) := by decide +kernel
theorem dL_law__1790 : decode code 1790 = .ok (.aload_n 2, 1) := by decide +kernel
theorem dL_law__1791 : decode code 1791 = .ok (.aload_n 0, 1) := by decide +kernel
theorem dL_law__1792 : decode code 1792 = .ok (.iload 4, 2) := by decide +kernel
theorem dL_law__1794 : decode code 1794 = .ok (.iconst 1, 1) := by decide +kernel
theorem dL_law__1795 : decode code 1795 = .ok (.iadd, 1) := by decide +kernel
theorem dL_law__1796 : decode code 1796 = .ok (.iaload, 1) := by decide +kernel
theorem dL_law__1797 : decode code 1797 = .ok (.invokevirtual 238, 3) := by decide +kernel
theorem dL_law__1800 : decode code 1800 = .ok (.istore 6, 2) := by decide +kernel
theorem dL_law__1802 : decode code 1802 = .ok (.aload_n 2, 1) := by decide +kernel
theorem dL_law__1803 : decode code 1803 = .ok (.invokevirtual 160, 3) := by decide +kernel
theorem dL_law__1806 : decode code 1806 = .ok (.iload 5, 2) := by decide +kernel
theorem dL_law__1808 : decode code 1808 = .ok (.if_icmp .eq 5, 3) := by decide +kernel
theorem dL_law__1811 : decode code 1811 = .ok (.iconst 0, 1) := by decide +kernel
theorem dL_law__1812 : decode code 1812 = .ok (.ireturn, 1) := by decide +kernel
theorem dL_law__1813 : decode code 1813 = .ok (.iload 5, 2) := by decide +kernel
theorem dL_law__1815 : decode code 1815 = .ok (.ifCond .ne 15, 3) := by decide +kernel
theorem dL_law__1818 : decode code 1818 = .ok (.aload_n 3, 1) := by decide +kernel
theorem dL_law__1819 : decode code 1819 = .ok (.iconst 0, 1) := by decide +kernel
theorem dL_law__1820 : decode code 1820 = .ok (.laload, 1) := by decide +kernel
theorem dL_law__1821 : decode code 1821 = .ok (.iload 6, 2) := by decide +kernel
theorem dL_law__1823 : decode code 1823 = .ok (.i2l, 1) := by decide +kernel
theorem dL_law__1824 : decode code 1824 = .ok (.lcmp, 1) := by decide +kernel
theorem dL_law__1825 : decode code 1825 = .ok (.ifCond .eq 5, 3) := by decide +kernel
theorem dL_law__1828 : decode code 1828 = .ok (.iconst 0, 1) := by decide +kernel
theorem dL_law__1829 : decode code 1829 = .ok (.ireturn, 1) := by decide +kernel
theorem dL_law__1830 : decode code 1830 = .ok (.goto 1536, 3) := by decide +kernel
theorem case_24 {INV INV' : Mm → Prop} {g : Gw} {p : Program} {e : Env} {s : State} {m : MethodId} {below : List Frame} {meth : Method} {c : Code} {b L : Nat} {xs : Nat → Int32} (hL : L ≤ 3072) (hG : GF g) (X : CX g (KL p e s m below meth c b) code R_law 8) (S : SCR g (KL p e s m below meth c b) b L xs) {fr lo mc ms fr2 lo2 : Nat} (M : Mm → Int → Nat → Int → Mm → Prop) (hX : ∀ (E : Mm) (x0 : Int), INV E → CTX g yX11_worth cX11_worth 2 (some .int) fr lo mc ms K2 false [mR 0, mI x0] (ov E) K2 false (fun r D' => ∃ (v : Int) (E1 : Mm), r = some (mI v) ∧ D' = ov E1 ∧ M E x0 0 v E1) (fun X D' => ∃ (c : Nat) (E1 : Mm), ((c = 1 ∧ X = "java/util/NoSuchElementException")) ∧ D' = ov E1 ∧ M E x0 c 0 E1)) (hM : ∀ (E : Mm) (x0 : Int) (c : Nat) (v : Int) (E1 : Mm), INV E → M E x0 c v E1 → CT g yX12_worth cX12_worth 6 (some .int) fr2 lo2 0 0 K2 false [mR 125, mI x0] (ov (if c = 0 then wr E1 813 0 v else E1)) K2 false (fun r D' => ∃ (bb : Int) (E2 : Mm), r = some (mI bb) ∧ D' = ov E2 ∧ INV' E2 ∧ E2 125 0 = (c : Int) ∧ (c = 0 → E2 813 0 = bb))) (hr1 : fr + 2 ≤ room_1.frames ∧ 8 + (4 + 11) + (lo + 21) ≤ room_1.locals) (hr2 : fr2 + 1 ≤ room_1.frames ∧ 8 + (6 + 11) + lo2 ≤ room_1.locals) (hmc : mc ≤ 10) (hms : ms ≤ 100) (E : Mm) (n cells slots : Nat) (hE : INV E) (hn : n + 6 ≤ L) (hc : cells + 10 ≤ 601024) (hs : slots + 100 ≤ 7293034) (hend : ∀ E' : Mm, INV' E' → AT g (KL p e s m below meth c b) K2 false (cells + 10) (slots + 100) 3366 (lawL b n) [] (ov E')) : AT g (KL p e s m below meth c b) K2 false cells slots 1777 (lawL b n) [] (ov E) := by
  refine at_aload_n 1778 X rfl rfl dL_law__1777 rfl ?_
  refine at_xload_n 1779 X rfl rfl dL_law__1778 rfl ?_
  refine at_iload 1781 X rfl dL_law__1779 rfl ?_
  refine at_iconst 1782 X (by decide) dL_law__1781 rfl ?_
  refine at_iadd 1783 X dL_law__1782 rfl ?_
  rw [w32_id (by omega) (by omega)]
  refine at_xint 1784 X S (by omega) (by omega) dL_law__1783 rfl ?_
  refine at_aload_n 1785 X rfl rfl dL_law__1784 rfl ?_
  refine at_callSH (n := 3) 1788 X (lh_worth hG E _ (M E _) (hX E _ hE)) w_1519 w_120 rfl (by decide +kernel) w_1517 w_1518 rfl rfl (crl ⟨by omega, by omega⟩ (by omega) (by omega)) (Nat.le_of_ble_eq_true rfl) dL_law__1785 rfl ?_
  rintro _ _ ⟨cc, v, E1, rfl, hM1, rfl⟩
  refine at_istore 1790 X dL_law__1788 rfl (by decide) ?_
  refine at_aload_n 1791 X rfl rfl dL_law__1790 rfl ?_
  refine at_xload_n 1792 X rfl rfl dL_law__1791 rfl ?_
  refine at_iload 1794 X rfl dL_law__1792 rfl ?_
  refine at_iconst 1795 X (by decide) dL_law__1794 rfl ?_
  refine at_iadd 1796 X dL_law__1795 rfl ?_
  rw [w32_id (by omega) (by omega)]
  refine at_xint 1797 X S (by omega) (by omega) dL_law__1796 rfl ?_
  refine at_callV 1800 X _ 12 (hM E _ _ _ _ hE hM1) clX12 rfl k_125 mo_X12_worth w_2305 vo_X12_worth.1 vo_X12_worth.2 rfl rfl (crl ⟨by omega, by omega⟩ (by omega) (by omega)) (Nat.le_of_ble_eq_true rfl) dL_law__1797 rfl ?_
  rintro _ _ ⟨bb, E2, rfl, rfl, hE2, hth, hbb⟩
  refine at_istore 1802 X dL_law__1800 rfl (by decide) ?_
  refine at_aload_n 1803 X rfl rfl dL_law__1802 rfl ?_
  refine at_callV 1806 X _ 12 (ct_X12_thrown hG E2) clX12 rfl k_125 mo_X12_thrown w_1945 vo_X12_thrown.1 vo_X12_thrown.2 rfl rfl (crl ⟨Nat.le_of_ble_eq_true rfl, Nat.le_of_ble_eq_true rfl⟩ (by omega) (by omega)) (Nat.le_of_ble_eq_true rfl) dL_law__1803 rfl ?_
  rintro _ _ ⟨rfl, rfl⟩
  rw [hth]
  refine at_iload 1808 X rfl dL_law__1806 rfl ?_
  refine at_icmp_eq 1811 1813 X dL_law__1808 rfl (by decide) (fun _ => ?_) (fun h => absurd rfl h)
  refine at_iload 1815 X rfl dL_law__1813 rfl ?_
  refine at_if_ne 1818 1830 X dL_law__1815 rfl (by decide) (fun h => ?_) (fun h => ?_)
  · refine at_goto 3366 X dL_law__1830 (by decide) ?_
    exact at_sub _ (by exact ⟨rfl, rfl, rfl, rfl, rfl, trivial⟩) (at_widen (by omega) (by omega) (hend E2 hE2))
  · have hc0 : cc = 0 := by omega
    have hbb := hbb hc0
    refine at_aload_n 1819 X rfl rfl dL_law__1818 rfl ?_
    refine at_iconst 1820 X (by decide) dL_law__1819 rfl ?_
    refine m_laload 1821 X k_813 e_813 (by decide) (by decide) dL_law__1820 rfl ?_
    refine at_iload 1823 X rfl dL_law__1821 rfl ?_
    refine at_i2l 1824 X dL_law__1823 rfl ?_
    refine at_lcmp 1825 X dL_law__1824 rfl ?_
    refine at_if_eq 1828 1830 X dL_law__1825 rfl (by decide) (fun _ => ?_) (fun h => absurd (lcmp_eq (by first | exact hbb | (rw [show (0 : Int).toNat = 0 from rfl, hbb]; omega))) h)
    refine at_goto 3366 X dL_law__1830 (by decide) ?_
    exact at_sub _ (by exact ⟨rfl, rfl, rfl, rfl, rfl, trivial⟩) (at_widen (by omega) (by omega) (hend E2 hE2))
theorem dL_law__1833 : decode code 1833 = .ok (.aload_n 1, 1) := by decide +kernel
theorem dL_law__1834 : decode code 1834 = .ok (.aload_n 0, 1) := by decide +kernel
theorem dL_law__1835 : decode code 1835 = .ok (.iload 4, 2) := by decide +kernel
theorem dL_law__1837 : decode code 1837 = .ok (.iconst 1, 1) := by decide +kernel
theorem dL_law__1838 : decode code 1838 = .ok (.iadd, 1) := by decide +kernel
theorem dL_law__1839 : decode code 1839 = .ok (.iaload, 1) := by decide +kernel
theorem dL_law__1840 : decode code 1840 = .ok (.aload_n 0, 1) := by decide +kernel
theorem dL_law__1841 : decode code 1841 = .ok (.iload 4, 2) := by decide +kernel
theorem dL_law__1843 : decode code 1843 = .ok (.iconst 2, 1) := by decide +kernel
theorem dL_law__1844 : decode code 1844 = .ok (.iadd, 1) := by decide +kernel
theorem dL_law__1845 : decode code 1845 = .ok (.iaload, 1) := by decide +kernel
theorem dL_law__1846 : decode code 1846 = .ok (.aload_n 0, 1) := by decide +kernel
theorem dL_law__1847 : decode code 1847 = .ok (.iload 4, 2) := by decide +kernel
theorem dL_law__1849 : decode code 1849 = .ok (.iconst 3, 1) := by decide +kernel
theorem dL_law__1850 : decode code 1850 = .ok (.iadd, 1) := by decide +kernel
theorem dL_law__1851 : decode code 1851 = .ok (.iaload, 1) := by decide +kernel
theorem dL_law__1852 : decode code 1852 = .ok (.aload_n 0, 1) := by decide +kernel
theorem dL_law__1853 : decode code 1853 = .ok (.iload 4, 2) := by decide +kernel
theorem dL_law__1855 : decode code 1855 = .ok (.iconst 4, 1) := by decide +kernel
theorem dL_law__1856 : decode code 1856 = .ok (.iadd, 1) := by decide +kernel
theorem dL_law__1857 : decode code 1857 = .ok (.iaload, 1) := by decide +kernel
theorem dL_law__1858 : decode code 1858 = .ok (.aload_n 3, 1) := by decide +kernel
theorem dL_law__1859 : decode code 1859 = .ok (.invokestatic 239, 3) := by decide +kernel
theorem dL_law__1862 : decode code 1862 = .ok (.istore 5, 2) := by decide +kernel
theorem dL_law__1864 : decode code 1864 = .ok (.aload_n 2, 1) := by decide +kernel
theorem dL_law__1865 : decode code 1865 = .ok (.aload_n 0, 1) := by decide +kernel
theorem dL_law__1866 : decode code 1866 = .ok (.iload 4, 2) := by decide +kernel
theorem dL_law__1868 : decode code 1868 = .ok (.iconst 1, 1) := by decide +kernel
theorem dL_law__1869 : decode code 1869 = .ok (.iadd, 1) := by decide +kernel
theorem dL_law__1870 : decode code 1870 = .ok (.iaload, 1) := by decide +kernel
theorem dL_law__1871 : decode code 1871 = .ok (.aload_n 0, 1) := by decide +kernel
theorem dL_law__1872 : decode code 1872 = .ok (.iload 4, 2) := by decide +kernel
theorem dL_law__1874 : decode code 1874 = .ok (.iconst 2, 1) := by decide +kernel
theorem dL_law__1875 : decode code 1875 = .ok (.iadd, 1) := by decide +kernel
theorem dL_law__1876 : decode code 1876 = .ok (.iaload, 1) := by decide +kernel
theorem dL_law__1877 : decode code 1877 = .ok (.aload_n 0, 1) := by decide +kernel
theorem dL_law__1878 : decode code 1878 = .ok (.iload 4, 2) := by decide +kernel
theorem dL_law__1880 : decode code 1880 = .ok (.iconst 3, 1) := by decide +kernel
theorem dL_law__1881 : decode code 1881 = .ok (.iadd, 1) := by decide +kernel
theorem dL_law__1882 : decode code 1882 = .ok (.iaload, 1) := by decide +kernel
theorem dL_law__1883 : decode code 1883 = .ok (.aload_n 0, 1) := by decide +kernel
theorem dL_law__1884 : decode code 1884 = .ok (.iload 4, 2) := by decide +kernel
theorem dL_law__1886 : decode code 1886 = .ok (.iconst 4, 1) := by decide +kernel
theorem dL_law__1887 : decode code 1887 = .ok (.iadd, 1) := by decide +kernel
theorem dL_law__1888 : decode code 1888 = .ok (.iaload, 1) := by decide +kernel
theorem dL_law__1889 : decode code 1889 = .ok (.invokevirtual 241, 3) := by decide +kernel
theorem dL_law__1892 : decode code 1892 = .ok (.istore 6, 2) := by decide +kernel
theorem dL_law__1894 : decode code 1894 = .ok (.aload_n 2, 1) := by decide +kernel
theorem dL_law__1895 : decode code 1895 = .ok (.invokevirtual 160, 3) := by decide +kernel
theorem dL_law__1898 : decode code 1898 = .ok (.iload 5, 2) := by decide +kernel
theorem dL_law__1900 : decode code 1900 = .ok (.if_icmp .eq 5, 3) := by decide +kernel
theorem dL_law__1903 : decode code 1903 = .ok (.iconst 0, 1) := by decide +kernel
theorem dL_law__1904 : decode code 1904 = .ok (.ireturn, 1) := by decide +kernel
theorem dL_law__1905 : decode code 1905 = .ok (.iload 5, 2) := by decide +kernel
theorem dL_law__1907 : decode code 1907 = .ok (.ifCond .ne 15, 3) := by decide +kernel
theorem dL_law__1910 : decode code 1910 = .ok (.aload_n 3, 1) := by decide +kernel
theorem dL_law__1911 : decode code 1911 = .ok (.iconst 0, 1) := by decide +kernel
theorem dL_law__1912 : decode code 1912 = .ok (.laload, 1) := by decide +kernel
theorem dL_law__1913 : decode code 1913 = .ok (.iload 6, 2) := by decide +kernel
theorem dL_law__1915 : decode code 1915 = .ok (.i2l, 1) := by decide +kernel
theorem dL_law__1916 : decode code 1916 = .ok (.lcmp, 1) := by decide +kernel
theorem dL_law__1917 : decode code 1917 = .ok (.ifCond .eq 5, 3) := by decide +kernel
theorem dL_law__1920 : decode code 1920 = .ok (.iconst 0, 1) := by decide +kernel
theorem dL_law__1921 : decode code 1921 = .ok (.ireturn, 1) := by decide +kernel
theorem dL_law__1922 : decode code 1922 = .ok (.goto 1444, 3) := by decide +kernel
theorem case_25 {INV INV' : Mm → Prop} {g : Gw} {p : Program} {e : Env} {s : State} {m : MethodId} {below : List Frame} {meth : Method} {c : Code} {b L : Nat} {xs : Nat → Int32} (hL : L ≤ 3072) (hG : GF g) (X : CX g (KL p e s m below meth c b) code R_law 8) (S : SCR g (KL p e s m below meth c b) b L xs) {fr lo mc ms fr2 lo2 : Nat} (M : Mm → Int → Int → Int → Int → Nat → Int → Mm → Prop) (hX : ∀ (E : Mm) (x0 x1 x2 x3 : Int), INV E → CTX g yX11_walk cX11_walk 8 (some .int) fr lo mc ms K2 false [mR 0, mI x0, mI x1, mI x2, mI x3] (ov E) K2 false (fun r D' => ∃ (v : Int) (E1 : Mm), r = some (mI v) ∧ D' = ov E1 ∧ M E x0 x1 x2 x3 0 v E1) (fun X D' => ∃ (c : Nat) (E1 : Mm), ((c = 1 ∧ X = "java/lang/IndexOutOfBoundsException") ∨ (c = 2 ∧ X = "java/lang/IllegalArgumentException")) ∧ D' = ov E1 ∧ M E x0 x1 x2 x3 c 0 E1)) (hM : ∀ (E : Mm) (x0 x1 x2 x3 : Int) (c : Nat) (v : Int) (E1 : Mm), INV E → M E x0 x1 x2 x3 c v E1 → CT g yX12_walk cX12_walk 8 (some .int) fr2 lo2 0 0 K2 false [mR 125, mI x0, mI x1, mI x2, mI x3] (ov (if c = 0 then wr E1 813 0 v else E1)) K2 false (fun r D' => ∃ (bb : Int) (E2 : Mm), r = some (mI bb) ∧ D' = ov E2 ∧ INV' E2 ∧ E2 125 0 = (c : Int) ∧ (c = 0 → E2 813 0 = bb))) (hr1 : fr + 2 ≤ room_1.frames ∧ 8 + (7 + 11) + (lo + 27) ≤ room_1.locals) (hr2 : fr2 + 1 ≤ room_1.frames ∧ 8 + (8 + 11) + lo2 ≤ room_1.locals) (hmc : mc ≤ 10) (hms : ms ≤ 100) (E : Mm) (n cells slots : Nat) (hE : INV E) (hn : n + 6 ≤ L) (hc : cells + 10 ≤ 601024) (hs : slots + 100 ≤ 7293034) (hend : ∀ E' : Mm, INV' E' → AT g (KL p e s m below meth c b) K2 false (cells + 10) (slots + 100) 3366 (lawL b n) [] (ov E')) : AT g (KL p e s m below meth c b) K2 false cells slots 1833 (lawL b n) [] (ov E) := by
  refine at_aload_n 1834 X rfl rfl dL_law__1833 rfl ?_
  refine at_xload_n 1835 X rfl rfl dL_law__1834 rfl ?_
  refine at_iload 1837 X rfl dL_law__1835 rfl ?_
  refine at_iconst 1838 X (by decide) dL_law__1837 rfl ?_
  refine at_iadd 1839 X dL_law__1838 rfl ?_
  rw [w32_id (by omega) (by omega)]
  refine at_xint 1840 X S (by omega) (by omega) dL_law__1839 rfl ?_
  refine at_xload_n 1841 X rfl rfl dL_law__1840 rfl ?_
  refine at_iload 1843 X rfl dL_law__1841 rfl ?_
  refine at_iconst 1844 X (by decide) dL_law__1843 rfl ?_
  refine at_iadd 1845 X dL_law__1844 rfl ?_
  rw [w32_id (by omega) (by omega)]
  refine at_xint 1846 X S (by omega) (by omega) dL_law__1845 rfl ?_
  refine at_xload_n 1847 X rfl rfl dL_law__1846 rfl ?_
  refine at_iload 1849 X rfl dL_law__1847 rfl ?_
  refine at_iconst 1850 X (by decide) dL_law__1849 rfl ?_
  refine at_iadd 1851 X dL_law__1850 rfl ?_
  rw [w32_id (by omega) (by omega)]
  refine at_xint 1852 X S (by omega) (by omega) dL_law__1851 rfl ?_
  refine at_xload_n 1853 X rfl rfl dL_law__1852 rfl ?_
  refine at_iload 1855 X rfl dL_law__1853 rfl ?_
  refine at_iconst 1856 X (by decide) dL_law__1855 rfl ?_
  refine at_iadd 1857 X dL_law__1856 rfl ?_
  rw [w32_id (by omega) (by omega)]
  refine at_xint 1858 X S (by omega) (by omega) dL_law__1857 rfl ?_
  refine at_aload_n 1859 X rfl rfl dL_law__1858 rfl ?_
  refine at_callSH (n := 6) 1862 X (lh_walk hG E _ _ _ _ (M E _ _ _ _) (hX E _ _ _ _ hE)) w_1531 w_120 rfl (by decide +kernel) w_1529 w_1530 rfl rfl (crl ⟨by omega, by omega⟩ (by omega) (by omega)) (Nat.le_of_ble_eq_true rfl) dL_law__1859 rfl ?_
  rintro _ _ ⟨cc, v, E1, rfl, hM1, rfl⟩
  refine at_istore 1864 X dL_law__1862 rfl (by decide) ?_
  refine at_aload_n 1865 X rfl rfl dL_law__1864 rfl ?_
  refine at_xload_n 1866 X rfl rfl dL_law__1865 rfl ?_
  refine at_iload 1868 X rfl dL_law__1866 rfl ?_
  refine at_iconst 1869 X (by decide) dL_law__1868 rfl ?_
  refine at_iadd 1870 X dL_law__1869 rfl ?_
  rw [w32_id (by omega) (by omega)]
  refine at_xint 1871 X S (by omega) (by omega) dL_law__1870 rfl ?_
  refine at_xload_n 1872 X rfl rfl dL_law__1871 rfl ?_
  refine at_iload 1874 X rfl dL_law__1872 rfl ?_
  refine at_iconst 1875 X (by decide) dL_law__1874 rfl ?_
  refine at_iadd 1876 X dL_law__1875 rfl ?_
  rw [w32_id (by omega) (by omega)]
  refine at_xint 1877 X S (by omega) (by omega) dL_law__1876 rfl ?_
  refine at_xload_n 1878 X rfl rfl dL_law__1877 rfl ?_
  refine at_iload 1880 X rfl dL_law__1878 rfl ?_
  refine at_iconst 1881 X (by decide) dL_law__1880 rfl ?_
  refine at_iadd 1882 X dL_law__1881 rfl ?_
  rw [w32_id (by omega) (by omega)]
  refine at_xint 1883 X S (by omega) (by omega) dL_law__1882 rfl ?_
  refine at_xload_n 1884 X rfl rfl dL_law__1883 rfl ?_
  refine at_iload 1886 X rfl dL_law__1884 rfl ?_
  refine at_iconst 1887 X (by decide) dL_law__1886 rfl ?_
  refine at_iadd 1888 X dL_law__1887 rfl ?_
  rw [w32_id (by omega) (by omega)]
  refine at_xint 1889 X S (by omega) (by omega) dL_law__1888 rfl ?_
  refine at_callV 1892 X _ 12 (hM E _ _ _ _ _ _ _ hE hM1) clX12 rfl k_125 mo_X12_walk w_2321 vo_X12_walk.1 vo_X12_walk.2 rfl rfl (crl ⟨by omega, by omega⟩ (by omega) (by omega)) (Nat.le_of_ble_eq_true rfl) dL_law__1889 rfl ?_
  rintro _ _ ⟨bb, E2, rfl, rfl, hE2, hth, hbb⟩
  refine at_istore 1894 X dL_law__1892 rfl (by decide) ?_
  refine at_aload_n 1895 X rfl rfl dL_law__1894 rfl ?_
  refine at_callV 1898 X _ 12 (ct_X12_thrown hG E2) clX12 rfl k_125 mo_X12_thrown w_1945 vo_X12_thrown.1 vo_X12_thrown.2 rfl rfl (crl ⟨Nat.le_of_ble_eq_true rfl, Nat.le_of_ble_eq_true rfl⟩ (by omega) (by omega)) (Nat.le_of_ble_eq_true rfl) dL_law__1895 rfl ?_
  rintro _ _ ⟨rfl, rfl⟩
  rw [hth]
  refine at_iload 1900 X rfl dL_law__1898 rfl ?_
  refine at_icmp_eq 1903 1905 X dL_law__1900 rfl (by decide) (fun _ => ?_) (fun h => absurd rfl h)
  refine at_iload 1907 X rfl dL_law__1905 rfl ?_
  refine at_if_ne 1910 1922 X dL_law__1907 rfl (by decide) (fun h => ?_) (fun h => ?_)
  · refine at_goto 3366 X dL_law__1922 (by decide) ?_
    exact at_sub _ (by exact ⟨rfl, rfl, rfl, rfl, rfl, trivial⟩) (at_widen (by omega) (by omega) (hend E2 hE2))
  · have hc0 : cc = 0 := by omega
    have hbb := hbb hc0
    refine at_aload_n 1911 X rfl rfl dL_law__1910 rfl ?_
    refine at_iconst 1912 X (by decide) dL_law__1911 rfl ?_
    refine m_laload 1913 X k_813 e_813 (by decide) (by decide) dL_law__1912 rfl ?_
    refine at_iload 1915 X rfl dL_law__1913 rfl ?_
    refine at_i2l 1916 X dL_law__1915 rfl ?_
    refine at_lcmp 1917 X dL_law__1916 rfl ?_
    refine at_if_eq 1920 1922 X dL_law__1917 rfl (by decide) (fun _ => ?_) (fun h => absurd (lcmp_eq (by first | exact hbb | (rw [show (0 : Int).toNat = 0 from rfl, hbb]; omega))) h)
    refine at_goto 3366 X dL_law__1922 (by decide) ?_
    exact at_sub _ (by exact ⟨rfl, rfl, rfl, rfl, rfl, trivial⟩) (at_widen (by omega) (by omega) (hend E2 hE2))
