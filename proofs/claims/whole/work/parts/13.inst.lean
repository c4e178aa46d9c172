theorem kX0 {a : Nat} (h : a = 76 ∨ a = 91) : K2[a]? = some (7, 0) := by
  rcases h with rfl | rfl
  · exact k_76
  · exact k_91
theorem rX0_0 {a : Nat} (h : a = 76 ∨ a = 91) : rtv a 0 = some (a + 1) := by
  rcases h with rfl | rfl
  · exact r_76_0
  · exact r_91_0
theorem kX0_0 {a : Nat} (h : a = 76 ∨ a = 91) : K2[a + 1]? = some (0, 8) := by
  rcases h with rfl | rfl
  · exact k_77
  · exact k_92
theorem eX0_0 {a : Nat} (h : a = 76 ∨ a = 91) : rtab.getD (a + 1) [] = [] := by
  rcases h with rfl | rfl
  · exact e_77
  · exact e_92
theorem rX0_1 {a : Nat} (h : a = 76 ∨ a = 91) : rtv a 1 = some (a + 2) := by
  rcases h with rfl | rfl
  · exact r_76_1
  · exact r_91_1
theorem kX0_1 {a : Nat} (h : a = 76 ∨ a = 91) : K2[a + 2]? = some (0, 8) := by
  rcases h with rfl | rfl
  · exact k_78
  · exact k_93
theorem eX0_1 {a : Nat} (h : a = 76 ∨ a = 91) : rtab.getD (a + 2) [] = [] := by
  rcases h with rfl | rfl
  · exact e_78
  · exact e_93
theorem rX0_2 {a : Nat} (h : a = 76 ∨ a = 91) : rtv a 2 = some (a + 3) := by
  rcases h with rfl | rfl
  · exact r_76_2
  · exact r_91_2
theorem kX0_2 {a : Nat} (h : a = 76 ∨ a = 91) : K2[a + 3]? = some (0, 8) := by
  rcases h with rfl | rfl
  · exact k_79
  · exact k_94
theorem eX0_2 {a : Nat} (h : a = 76 ∨ a = 91) : rtab.getD (a + 3) [] = [] := by
  rcases h with rfl | rfl
  · exact e_79
  · exact e_94
theorem rX0_3 {a : Nat} (h : a = 76 ∨ a = 91) : rtv a 3 = some (a + 4) := by
  rcases h with rfl | rfl
  · exact r_76_3
  · exact r_91_3
theorem kX0_3 {a : Nat} (h : a = 76 ∨ a = 91) : K2[a + 4]? = some (0, 160) := by
  rcases h with rfl | rfl
  · exact k_80
  · exact k_95
theorem eX0_3 {a : Nat} (h : a = 76 ∨ a = 91) : rtab.getD (a + 4) [] = [] := by
  rcases h with rfl | rfl
  · exact e_80
  · exact e_95
theorem rX0_4 {a : Nat} (h : a = 76 ∨ a = 91) : rtv a 4 = some (a + 5) := by
  rcases h with rfl | rfl
  · exact r_76_4
  · exact r_91_4
theorem kX0_4 {a : Nat} (h : a = 76 ∨ a = 91) : K2[a + 5]? = some (3, 8) := by
  rcases h with rfl | rfl
  · exact k_81
  · exact k_96
theorem eX0_4 {a : Nat} (h : a = 76 ∨ a = 91) : rtab.getD (a + 5) [] = [] := by
  rcases h with rfl | rfl
  · exact e_81
  · exact e_96
theorem rX0_5 {a : Nat} (h : a = 76 ∨ a = 91) : rtv a 5 = some (a + 6) := by
  rcases h with rfl | rfl
  · exact r_76_5
  · exact r_91_5
theorem kX0_5 {a : Nat} (h : a = 76 ∨ a = 91) : K2[a + 6]? = some (3, 8) := by
  rcases h with rfl | rfl
  · exact k_82
  · exact k_97
theorem eX0_5 {a : Nat} (h : a = 76 ∨ a = 91) : rtab.getD (a + 6) [] = [] := by
  rcases h with rfl | rfl
  · exact e_82
  · exact e_97
theorem nX0_6 {a : Nat} (h : a = 76 ∨ a = 91) : rtv a 6 = none := by
  rcases h with rfl | rfl
  · exact rn_76_6
  · exact rn_91_6
theorem kX2 {a : Nat} (h : a = 24 ∨ a = 102 ∨ a = 111 ∨ a = 120) : K2[a]? = some (9, 0) := by
  rcases h with rfl | rfl | rfl | rfl
  · exact k_24
  · exact k_102
  · exact k_111
  · exact k_120
theorem rX2_0 {a : Nat} (h : a = 24 ∨ a = 102 ∨ a = 111 ∨ a = 120) : rtv a 0 = some (a + 1) := by
  rcases h with rfl | rfl | rfl | rfl
  · exact r_24_0
  · exact r_102_0
  · exact r_111_0
  · exact r_120_0
theorem kX2_0 {a : Nat} (h : a = 24 ∨ a = 102 ∨ a = 111 ∨ a = 120) : K2[a + 1]? = some (0, 20) := by
  rcases h with rfl | rfl | rfl | rfl
  · exact k_25
  · exact k_103
  · exact k_112
  · exact k_121
theorem eX2_0 {a : Nat} (h : a = 24 ∨ a = 102 ∨ a = 111 ∨ a = 120) : rtab.getD (a + 1) [] = [] := by
  rcases h with rfl | rfl | rfl | rfl
  · exact e_25
  · exact e_103
  · exact e_112
  · exact e_121
theorem rX2_1 {a : Nat} (h : a = 24 ∨ a = 102 ∨ a = 111 ∨ a = 120) : rtv a 1 = some (a + 2) := by
  rcases h with rfl | rfl | rfl | rfl
  · exact r_24_1
  · exact r_102_1
  · exact r_111_1
  · exact r_120_1
theorem kX2_1 {a : Nat} (h : a = 24 ∨ a = 102 ∨ a = 111 ∨ a = 120) : K2[a + 2]? = some (0, 20) := by
  rcases h with rfl | rfl | rfl | rfl
  · exact k_26
  · exact k_104
  · exact k_113
  · exact k_122
theorem eX2_1 {a : Nat} (h : a = 24 ∨ a = 102 ∨ a = 111 ∨ a = 120) : rtab.getD (a + 2) [] = [] := by
  rcases h with rfl | rfl | rfl | rfl
  · exact e_26
  · exact e_104
  · exact e_113
  · exact e_122
theorem rX2_2 {a : Nat} (h : a = 24 ∨ a = 102 ∨ a = 111 ∨ a = 120) : rtv a 2 = some (a + 3) := by
  rcases h with rfl | rfl | rfl | rfl
  · exact r_24_2
  · exact r_102_2
  · exact r_111_2
  · exact r_120_2
theorem kX2_2 {a : Nat} (h : a = 24 ∨ a = 102 ∨ a = 111 ∨ a = 120) : K2[a + 3]? = some (0, 20) := by
  rcases h with rfl | rfl | rfl | rfl
  · exact k_27
  · exact k_105
  · exact k_114
  · exact k_123
theorem eX2_2 {a : Nat} (h : a = 24 ∨ a = 102 ∨ a = 111 ∨ a = 120) : rtab.getD (a + 3) [] = [] := by
  rcases h with rfl | rfl | rfl | rfl
  · exact e_27
  · exact e_105
  · exact e_114
  · exact e_123
theorem rX2_3 {a : Nat} (h : a = 24 ∨ a = 102 ∨ a = 111 ∨ a = 120) : rtv a 3 = some (a + 4) := by
  rcases h with rfl | rfl | rfl | rfl
  · exact r_24_3
  · exact r_102_3
  · exact r_111_3
  · exact r_120_3
theorem kX2_3 {a : Nat} (h : a = 24 ∨ a = 102 ∨ a = 111 ∨ a = 120) : K2[a + 4]? = some (0, 20) := by
  rcases h with rfl | rfl | rfl | rfl
  · exact k_28
  · exact k_106
  · exact k_115
  · exact k_124
theorem eX2_3 {a : Nat} (h : a = 24 ∨ a = 102 ∨ a = 111 ∨ a = 120) : rtab.getD (a + 4) [] = [] := by
  rcases h with rfl | rfl | rfl | rfl
  · exact e_28
  · exact e_106
  · exact e_115
  · exact e_124
theorem nX2_4 {a : Nat} (h : a = 24 ∨ a = 102 ∨ a = 111 ∨ a = 120) : rtv a 4 = none := by
  rcases h with rfl | rfl | rfl | rfl
  · exact rn_24_4
  · exact rn_102_4
  · exact rn_111_4
  · exact rn_120_4
theorem kX3 {a : Nat} (h : a = 48 ∨ a = 54) : K2[a]? = some (10, 0) := by
  rcases h with rfl | rfl
  · exact k_48
  · exact k_54
theorem rX3_0 {a : Nat} (h : a = 48 ∨ a = 54) : rtv a 0 = some (a + 1) := by
  rcases h with rfl | rfl
  · exact r_48_0
  · exact r_54_0
theorem kX3_0 {a : Nat} (h : a = 48 ∨ a = 54) : K2[a + 1]? = some (0, 8) := by
  rcases h with rfl | rfl
  · exact k_49
  · exact k_55
theorem eX3_0 {a : Nat} (h : a = 48 ∨ a = 54) : rtab.getD (a + 1) [] = [] := by
  rcases h with rfl | rfl
  · exact e_49
  · exact e_55
theorem rX3_1 {a : Nat} (h : a = 48 ∨ a = 54) : rtv a 1 = some (a + 2) := by
  rcases h with rfl | rfl
  · exact r_48_1
  · exact r_54_1
theorem kX3_1 {a : Nat} (h : a = 48 ∨ a = 54) : K2[a + 2]? = some (0, 8) := by
  rcases h with rfl | rfl
  · exact k_50
  · exact k_56
theorem eX3_1 {a : Nat} (h : a = 48 ∨ a = 54) : rtab.getD (a + 2) [] = [] := by
  rcases h with rfl | rfl
  · exact e_50
  · exact e_56
theorem rX3_2 {a : Nat} (h : a = 48 ∨ a = 54) : rtv a 2 = some (a + 3) := by
  rcases h with rfl | rfl
  · exact r_48_2
  · exact r_54_2
theorem kX3_2 {a : Nat} (h : a = 48 ∨ a = 54) : K2[a + 3]? = some (0, 8) := by
  rcases h with rfl | rfl
  · exact k_51
  · exact k_57
theorem eX3_2 {a : Nat} (h : a = 48 ∨ a = 54) : rtab.getD (a + 3) [] = [] := by
  rcases h with rfl | rfl
  · exact e_51
  · exact e_57
theorem rX3_3 {a : Nat} (h : a = 48 ∨ a = 54) : rtv a 3 = some (a + 4) := by
  rcases h with rfl | rfl
  · exact r_48_3
  · exact r_54_3
theorem kX3_3 {a : Nat} (h : a = 48 ∨ a = 54) : K2[a + 4]? = some (0, 192) := by
  rcases h with rfl | rfl
  · exact k_52
  · exact k_58
theorem eX3_3 {a : Nat} (h : a = 48 ∨ a = 54) : rtab.getD (a + 4) [] = [] := by
  rcases h with rfl | rfl
  · exact e_52
  · exact e_58
theorem rX3_4 {a : Nat} (h : a = 48 ∨ a = 54) : rtv a 4 = some (a + 5) := by
  rcases h with rfl | rfl
  · exact r_48_4
  · exact r_54_4
theorem kX3_4 {a : Nat} (h : a = 48 ∨ a = 54) : K2[a + 5]? = some (3, 40) := by
  rcases h with rfl | rfl
  · exact k_53
  · exact k_59
theorem eX3_4 {a : Nat} (h : a = 48 ∨ a = 54) : rtab.getD (a + 5) [] = [] := by
  rcases h with rfl | rfl
  · exact e_53
  · exact e_59
theorem nX3_5 {a : Nat} (h : a = 48 ∨ a = 54) : rtv a 5 = none := by
  rcases h with rfl | rfl
  · exact rn_48_5
  · exact rn_54_5
theorem nX3_6 {a : Nat} (h : a = 48 ∨ a = 54) : rtv a 6 = none := by
  rcases h with rfl | rfl
  · exact rn_48_6
  · exact rn_54_6
theorem kX4 {a : Nat} (h : a = 30 ∨ a = 39) : K2[a]? = some (11, 0) := by
  rcases h with rfl | rfl
  · exact k_30
  · exact k_39
theorem rX4_0 {a : Nat} (h : a = 30 ∨ a = 39) : rtv a 0 = some (a + 1) := by
  rcases h with rfl | rfl
  · exact r_30_0
  · exact r_39_0
theorem kX4_0 {a : Nat} (h : a = 30 ∨ a = 39) : K2[a + 1]? = some (0, 11) := by
  rcases h with rfl | rfl
  · exact k_31
  · exact k_40
theorem eX4_0 {a : Nat} (h : a = 30 ∨ a = 39) : rtab.getD (a + 1) [] = [] := by
  rcases h with rfl | rfl
  · exact e_31
  · exact e_40
theorem rX4_1 {a : Nat} (h : a = 30 ∨ a = 39) : rtv a 1 = some (a + 2) := by
  rcases h with rfl | rfl
  · exact r_30_1
  · exact r_39_1
theorem kX4_1 {a : Nat} (h : a = 30 ∨ a = 39) : K2[a + 2]? = some (0, 11) := by
  rcases h with rfl | rfl
  · exact k_32
  · exact k_41
theorem eX4_1 {a : Nat} (h : a = 30 ∨ a = 39) : rtab.getD (a + 2) [] = [] := by
  rcases h with rfl | rfl
  · exact e_32
  · exact e_41
theorem rX4_2 {a : Nat} (h : a = 30 ∨ a = 39) : rtv a 2 = some (a + 3) := by
  rcases h with rfl | rfl
  · exact r_30_2
  · exact r_39_2
theorem kX4_2 {a : Nat} (h : a = 30 ∨ a = 39) : K2[a + 3]? = some (0, 24) := by
  rcases h with rfl | rfl
  · exact k_33
  · exact k_42
theorem eX4_2 {a : Nat} (h : a = 30 ∨ a = 39) : rtab.getD (a + 3) [] = [] := by
  rcases h with rfl | rfl
  · exact e_33
  · exact e_42
theorem rX4_3 {a : Nat} (h : a = 30 ∨ a = 39) : rtv a 3 = some (a + 4) := by
  rcases h with rfl | rfl
  · exact r_30_3
  · exact r_39_3
theorem kX4_3 {a : Nat} (h : a = 30 ∨ a = 39) : K2[a + 4]? = some (0, 24) := by
  rcases h with rfl | rfl
  · exact k_34
  · exact k_43
theorem eX4_3 {a : Nat} (h : a = 30 ∨ a = 39) : rtab.getD (a + 4) [] = [] := by
  rcases h with rfl | rfl
  · exact e_34
  · exact e_43
theorem rX4_4 {a : Nat} (h : a = 30 ∨ a = 39) : rtv a 4 = some (a + 5) := by
  rcases h with rfl | rfl
  · exact r_30_4
  · exact r_39_4
theorem kX4_4 {a : Nat} (h : a = 30 ∨ a = 39) : K2[a + 5]? = some (0, 24) := by
  rcases h with rfl | rfl
  · exact k_35
  · exact k_44
theorem eX4_4 {a : Nat} (h : a = 30 ∨ a = 39) : rtab.getD (a + 5) [] = [] := by
  rcases h with rfl | rfl
  · exact e_35
  · exact e_44
theorem rX4_5 {a : Nat} (h : a = 30 ∨ a = 39) : rtv a 5 = some (a + 6) := by
  rcases h with rfl | rfl
  · exact r_30_5
  · exact r_39_5
theorem kX4_5 {a : Nat} (h : a = 30 ∨ a = 39) : K2[a + 6]? = some (3, 264) := by
  rcases h with rfl | rfl
  · exact k_36
  · exact k_45
theorem eX4_5 {a : Nat} (h : a = 30 ∨ a = 39) : rtab.getD (a + 6) [] = [] := by
  rcases h with rfl | rfl
  · exact e_36
  · exact e_45
theorem rX4_6 {a : Nat} (h : a = 30 ∨ a = 39) : rtv a 6 = some (a + 7) := by
  rcases h with rfl | rfl
  · exact r_30_6
  · exact r_39_6
theorem kX4_6 {a : Nat} (h : a = 30 ∨ a = 39) : K2[a + 7]? = some (0, 24) := by
  rcases h with rfl | rfl
  · exact k_37
  · exact k_46
theorem eX4_6 {a : Nat} (h : a = 30 ∨ a = 39) : rtab.getD (a + 7) [] = [] := by
  rcases h with rfl | rfl
  · exact e_37
  · exact e_46
theorem rX4_7 {a : Nat} (h : a = 30 ∨ a = 39) : rtv a 7 = some (a + 8) := by
  rcases h with rfl | rfl
  · exact r_30_7
  · exact r_39_7
theorem kX4_7 {a : Nat} (h : a = 30 ∨ a = 39) : K2[a + 8]? = some (0, 1920) := by
  rcases h with rfl | rfl
  · exact k_38
  · exact k_47
theorem eX4_7 {a : Nat} (h : a = 30 ∨ a = 39) : rtab.getD (a + 8) [] = [] := by
  rcases h with rfl | rfl
  · exact e_38
  · exact e_47
theorem nX4_8 {a : Nat} (h : a = 30 ∨ a = 39) : rtv a 8 = none := by
  rcases h with rfl | rfl
  · exact rn_30_8
  · exact rn_39_8
theorem nX4_9 {a : Nat} (h : a = 30 ∨ a = 39) : rtv a 9 = none := by
  rcases h with rfl | rfl
  · exact rn_30_9
  · exact rn_39_9
theorem nX4_10 {a : Nat} (h : a = 30 ∨ a = 39) : rtv a 10 = none := by
  rcases h with rfl | rfl
  · exact rn_30_10
  · exact rn_39_10
theorem nX4_11 {a : Nat} (h : a = 30 ∨ a = 39) : rtv a 11 = none := by
  rcases h with rfl | rfl
  · exact rn_30_11
  · exact rn_39_11
theorem nX4_12 {a : Nat} (h : a = 30 ∨ a = 39) : rtv a 12 = none := by
  rcases h with rfl | rfl
  · exact rn_30_12
  · exact rn_39_12
theorem nX4_13 {a : Nat} (h : a = 30 ∨ a = 39) : rtv a 13 = none := by
  rcases h with rfl | rfl
  · exact rn_30_13
  · exact rn_39_13
theorem kX5 {a : Nat} (h : a = 98 ∨ a = 107 ∨ a = 116) : K2[a]? = some (12, 0) := by
  rcases h with rfl | rfl | rfl
  · exact k_98
  · exact k_107
  · exact k_116
theorem rX5_0 {a : Nat} (h : a = 98 ∨ a = 107 ∨ a = 116) : rtv a 0 = some (a + 1) := by
  rcases h with rfl | rfl | rfl
  · exact r_98_0
  · exact r_107_0
  · exact r_116_0
theorem kX5_0 {a : Nat} (h : a = 98 ∨ a = 107 ∨ a = 116) : K2[a + 1]? = some (0, 10) := by
  rcases h with rfl | rfl | rfl
  · exact k_99
  · exact k_108
  · exact k_117
theorem eX5_0 {a : Nat} (h : a = 98 ∨ a = 107 ∨ a = 116) : rtab.getD (a + 1) [] = [] := by
  rcases h with rfl | rfl | rfl
  · exact e_99
  · exact e_108
  · exact e_117
theorem rX5_1 {a : Nat} (h : a = 98 ∨ a = 107 ∨ a = 116) : rtv a 1 = some (a + 2) := by
  rcases h with rfl | rfl | rfl
  · exact r_98_1
  · exact r_107_1
  · exact r_116_1
theorem kX5_1 {a : Nat} (h : a = 98 ∨ a = 107 ∨ a = 116) : K2[a + 2]? = some (0, 8) := by
  rcases h with rfl | rfl | rfl
  · exact k_100
  · exact k_109
  · exact k_118
theorem eX5_1 {a : Nat} (h : a = 98 ∨ a = 107 ∨ a = 116) : rtab.getD (a + 2) [] = [] := by
  rcases h with rfl | rfl | rfl
  · exact e_100
  · exact e_109
  · exact e_118
theorem rX5_2 {a : Nat} (h : a = 98 ∨ a = 107 ∨ a = 116) : rtv a 2 = some (a + 3) := by
  rcases h with rfl | rfl | rfl
  · exact r_98_2
  · exact r_107_2
  · exact r_116_2
theorem kX5_2 {a : Nat} (h : a = 98 ∨ a = 107 ∨ a = 116) : K2[a + 3]? = some (0, 160) := by
  rcases h with rfl | rfl | rfl
  · exact k_101
  · exact k_110
  · exact k_119
theorem eX5_2 {a : Nat} (h : a = 98 ∨ a = 107 ∨ a = 116) : rtab.getD (a + 3) [] = [] := by
  rcases h with rfl | rfl | rfl
  · exact e_101
  · exact e_110
  · exact e_119
theorem rX5_3 {a : Nat} (h : a = 98 ∨ a = 107 ∨ a = 116) : rtv a 3 = some (a + 4) := by
  rcases h with rfl | rfl | rfl
  · exact r_98_3
  · exact r_107_3
  · exact r_116_3
theorem iC_4 {a : Nat} (h : a = 98 ∨ a = 107 ∨ a = 116) : a + 4 = 24 ∨ a + 4 = 102 ∨ a + 4 = 111 ∨ a + 4 = 120 := by omega
theorem nX5_4 {a : Nat} (h : a = 98 ∨ a = 107 ∨ a = 116) : rtv a 4 = none := by
  rcases h with rfl | rfl | rfl
  · exact rn_98_4
  · exact rn_107_4
  · exact rn_116_4
theorem kX7 {a : Nat} (h : a = 4 ∨ a = 8) : K2[a]? = some (14, 0) := by
  rcases h with rfl | rfl
  · exact k_4
  · exact k_8
theorem rX7_0 {a : Nat} (h : a = 4 ∨ a = 8) : rtv a 0 = some (a + 1) := by
  rcases h with rfl | rfl
  · exact r_4_0
  · exact r_8_0
theorem kX7_0 {a : Nat} (h : a = 4 ∨ a = 8) : K2[a + 1]? = some (0, 150) := by
  rcases h with rfl | rfl
  · exact k_5
  · exact k_9
theorem eX7_0 {a : Nat} (h : a = 4 ∨ a = 8) : rtab.getD (a + 1) [] = [] := by
  rcases h with rfl | rfl
  · exact e_5
  · exact e_9
theorem rX7_1 {a : Nat} (h : a = 4 ∨ a = 8) : rtv a 1 = some (a + 2) := by
  rcases h with rfl | rfl
  · exact r_4_1
  · exact r_8_1
theorem kX7_1 {a : Nat} (h : a = 4 ∨ a = 8) : K2[a + 2]? = some (0, 150) := by
  rcases h with rfl | rfl
  · exact k_6
  · exact k_10
theorem eX7_1 {a : Nat} (h : a = 4 ∨ a = 8) : rtab.getD (a + 2) [] = [] := by
  rcases h with rfl | rfl
  · exact e_6
  · exact e_10
theorem rX7_2 {a : Nat} (h : a = 4 ∨ a = 8) : rtv a 2 = some (a + 3) := by
  rcases h with rfl | rfl
  · exact r_4_2
  · exact r_8_2
theorem kX7_2 {a : Nat} (h : a = 4 ∨ a = 8) : K2[a + 3]? = some (0, 150) := by
  rcases h with rfl | rfl
  · exact k_7
  · exact k_11
theorem eX7_2 {a : Nat} (h : a = 4 ∨ a = 8) : rtab.getD (a + 3) [] = [] := by
  rcases h with rfl | rfl
  · exact e_7
  · exact e_11
theorem nX7_3 {a : Nat} (h : a = 4 ∨ a = 8) : rtv a 3 = none := by
  rcases h with rfl | rfl
  · exact rn_4_3
  · exact rn_8_3
theorem kX8 {a : Nat} (h : a = 12 ∨ a = 16 ∨ a = 20) : K2[a]? = some (15, 0) := by
  rcases h with rfl | rfl | rfl
  · exact k_12
  · exact k_16
  · exact k_20
theorem rX8_0 {a : Nat} (h : a = 12 ∨ a = 16 ∨ a = 20) : rtv a 0 = some (a + 1) := by
  rcases h with rfl | rfl | rfl
  · exact r_12_0
  · exact r_16_0
  · exact r_20_0
theorem kX8_0 {a : Nat} (h : a = 12 ∨ a = 16 ∨ a = 20) : K2[a + 1]? = some (0, 16) := by
  rcases h with rfl | rfl | rfl
  · exact k_13
  · exact k_17
  · exact k_21
theorem eX8_0 {a : Nat} (h : a = 12 ∨ a = 16 ∨ a = 20) : rtab.getD (a + 1) [] = [] := by
  rcases h with rfl | rfl | rfl
  · exact e_13
  · exact e_17
  · exact e_21
theorem rX8_1 {a : Nat} (h : a = 12 ∨ a = 16 ∨ a = 20) : rtv a 1 = some (a + 2) := by
  rcases h with rfl | rfl | rfl
  · exact r_12_1
  · exact r_16_1
  · exact r_20_1
theorem kX8_1 {a : Nat} (h : a = 12 ∨ a = 16 ∨ a = 20) : K2[a + 2]? = some (0, 16) := by
  rcases h with rfl | rfl | rfl
  · exact k_14
  · exact k_18
  · exact k_22
theorem eX8_1 {a : Nat} (h : a = 12 ∨ a = 16 ∨ a = 20) : rtab.getD (a + 2) [] = [] := by
  rcases h with rfl | rfl | rfl
  · exact e_14
  · exact e_18
  · exact e_22
theorem rX8_2 {a : Nat} (h : a = 12 ∨ a = 16 ∨ a = 20) : rtv a 2 = some (a + 3) := by
  rcases h with rfl | rfl | rfl
  · exact r_12_2
  · exact r_16_2
  · exact r_20_2
theorem kX8_2 {a : Nat} (h : a = 12 ∨ a = 16 ∨ a = 20) : K2[a + 3]? = some (0, 16) := by
  rcases h with rfl | rfl | rfl
  · exact k_15
  · exact k_19
  · exact k_23
theorem eX8_2 {a : Nat} (h : a = 12 ∨ a = 16 ∨ a = 20) : rtab.getD (a + 3) [] = [] := by
  rcases h with rfl | rfl | rfl
  · exact e_15
  · exact e_19
  · exact e_23
theorem nX8_3 {a : Nat} (h : a = 12 ∨ a = 16 ∨ a = 20) : rtv a 3 = none := by
  rcases h with rfl | rfl | rfl
  · exact rn_12_3
  · exact rn_16_3
  · exact rn_20_3
theorem kX9 {a : Nat} (h : a = 68 ∨ a = 83) : K2[a]? = some (16, 0) := by
  rcases h with rfl | rfl
  · exact k_68
  · exact k_83
theorem rX9_0 {a : Nat} (h : a = 68 ∨ a = 83) : rtv a 0 = some (a + 1) := by
  rcases h with rfl | rfl
  · exact r_68_0
  · exact r_83_0
theorem kX9_0 {a : Nat} (h : a = 68 ∨ a = 83) : K2[a + 1]? = some (0, 10) := by
  rcases h with rfl | rfl
  · exact k_69
  · exact k_84
theorem eX9_0 {a : Nat} (h : a = 68 ∨ a = 83) : rtab.getD (a + 1) [] = [] := by
  rcases h with rfl | rfl
  · exact e_69
  · exact e_84
theorem rX9_1 {a : Nat} (h : a = 68 ∨ a = 83) : rtv a 1 = some (a + 2) := by
  rcases h with rfl | rfl
  · exact r_68_1
  · exact r_83_1
theorem kX9_1 {a : Nat} (h : a = 68 ∨ a = 83) : K2[a + 2]? = some (0, 10) := by
  rcases h with rfl | rfl
  · exact k_70
  · exact k_85
theorem eX9_1 {a : Nat} (h : a = 68 ∨ a = 83) : rtab.getD (a + 2) [] = [] := by
  rcases h with rfl | rfl
  · exact e_70
  · exact e_85
theorem rX9_2 {a : Nat} (h : a = 68 ∨ a = 83) : rtv a 2 = some (a + 3) := by
  rcases h with rfl | rfl
  · exact r_68_2
  · exact r_83_2
theorem kX9_2 {a : Nat} (h : a = 68 ∨ a = 83) : K2[a + 3]? = some (0, 24) := by
  rcases h with rfl | rfl
  · exact k_71
  · exact k_86
theorem eX9_2 {a : Nat} (h : a = 68 ∨ a = 83) : rtab.getD (a + 3) [] = [] := by
  rcases h with rfl | rfl
  · exact e_71
  · exact e_86
theorem rX9_3 {a : Nat} (h : a = 68 ∨ a = 83) : rtv a 3 = some (a + 4) := by
  rcases h with rfl | rfl
  · exact r_68_3
  · exact r_83_3
theorem kX9_3 {a : Nat} (h : a = 68 ∨ a = 83) : K2[a + 4]? = some (0, 24) := by
  rcases h with rfl | rfl
  · exact k_72
  · exact k_87
theorem eX9_3 {a : Nat} (h : a = 68 ∨ a = 83) : rtab.getD (a + 4) [] = [] := by
  rcases h with rfl | rfl
  · exact e_72
  · exact e_87
theorem rX9_4 {a : Nat} (h : a = 68 ∨ a = 83) : rtv a 4 = some (a + 5) := by
  rcases h with rfl | rfl
  · exact r_68_4
  · exact r_83_4
theorem kX9_4 {a : Nat} (h : a = 68 ∨ a = 83) : K2[a + 5]? = some (0, 3) := by
  rcases h with rfl | rfl
  · exact k_73
  · exact k_88
theorem eX9_4 {a : Nat} (h : a = 68 ∨ a = 83) : rtab.getD (a + 5) [] = [] := by
  rcases h with rfl | rfl
  · exact e_73
  · exact e_88
theorem rX9_5 {a : Nat} (h : a = 68 ∨ a = 83) : rtv a 5 = some (a + 6) := by
  rcases h with rfl | rfl
  · exact r_68_5
  · exact r_83_5
theorem kX9_5 {a : Nat} (h : a = 68 ∨ a = 83) : K2[a + 6]? = some (0, 3) := by
  rcases h with rfl | rfl
  · exact k_74
  · exact k_89
theorem eX9_5 {a : Nat} (h : a = 68 ∨ a = 83) : rtab.getD (a + 6) [] = [] := by
  rcases h with rfl | rfl
  · exact e_74
  · exact e_89
theorem rX9_6 {a : Nat} (h : a = 68 ∨ a = 83) : rtv a 6 = some (a + 7) := by
  rcases h with rfl | rfl
  · exact r_68_6
  · exact r_83_6
theorem kX9_6 {a : Nat} (h : a = 68 ∨ a = 83) : K2[a + 7]? = some (0, 3) := by
  rcases h with rfl | rfl
  · exact k_75
  · exact k_90
theorem eX9_6 {a : Nat} (h : a = 68 ∨ a = 83) : rtab.getD (a + 7) [] = [] := by
  rcases h with rfl | rfl
  · exact e_75
  · exact e_90
theorem rX9_7 {a : Nat} (h : a = 68 ∨ a = 83) : rtv a 7 = some (a + 8) := by
  rcases h with rfl | rfl
  · exact r_68_7
  · exact r_83_7
theorem iB_8 {a : Nat} (h : a = 68 ∨ a = 83) : a + 8 = 76 ∨ a + 8 = 91 := by omega
theorem nX9_8 {a : Nat} (h : a = 68 ∨ a = 83) : rtv a 8 = none := by
  rcases h with rfl | rfl
  · exact rn_68_8
  · exact rn_83_8
theorem nX9_9 {a : Nat} (h : a = 68 ∨ a = 83) : rtv a 9 = none := by
  rcases h with rfl | rfl
  · exact rn_68_9
  · exact rn_83_9
theorem nX9_10 {a : Nat} (h : a = 68 ∨ a = 83) : rtv a 10 = none := by
  rcases h with rfl | rfl
  · exact rn_68_10
  · exact rn_83_10
theorem nX9_11 {a : Nat} (h : a = 68 ∨ a = 83) : rtv a 11 = none := by
  rcases h with rfl | rfl
  · exact rn_68_11
  · exact rn_83_11
theorem nX9_12 {a : Nat} (h : a = 68 ∨ a = 83) : rtv a 12 = none := by
  rcases h with rfl | rfl
  · exact rn_68_12
  · exact rn_83_12
theorem nX9_13 {a : Nat} (h : a = 68 ∨ a = 83) : rtv a 13 = none := by
  rcases h with rfl | rfl
  · exact rn_68_13
  · exact rn_83_13
theorem nX9_14 {a : Nat} (h : a = 68 ∨ a = 83) : rtv a 14 = none := by
  rcases h with rfl | rfl
  · exact rn_68_14
  · exact rn_83_14
theorem nX9_15 {a : Nat} (h : a = 68 ∨ a = 83) : rtv a 15 = none := by
  rcases h with rfl | rfl
  · exact rn_68_15
  · exact rn_83_15
theorem nX9_16 {a : Nat} (h : a = 68 ∨ a = 83) : rtv a 16 = none := by
  rcases h with rfl | rfl
  · exact rn_68_16
  · exact rn_83_16
