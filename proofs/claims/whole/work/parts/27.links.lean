/-! links of each place, entries of each method -/
theorem f_0_9 : fT 0 9 = some (0, 0) := by decide +kernel
theorem f_0_15 : fT 0 15 = some (0, 1) := by decide +kernel
theorem f_0_18 : fT 0 18 = some (0, 2) := by decide +kernel
theorem f_0_21 : fT 0 21 = some (0, 3) := by decide +kernel
theorem f_0_24 : fT 0 24 = some (0, 4) := by decide +kernel
theorem f_0_28 : fT 0 28 = some (0, 5) := by decide +kernel
theorem f_0_32 : fT 0 32 = some (0, 6) := by decide +kernel
theorem f_0_35 : fT 0 35 = some (0, 7) := by decide +kernel
theorem f_0_39 : fT 0 39 = some (2, 2) := by decide +kernel
theorem f_0_63 : fT 0 63 = some (2, 1) := by decide +kernel
theorem f_0_70 : fT 0 70 = some (2, 0) := by decide +kernel
theorem f_1_9 : fT 1 9 = some (1, 0) := by decide +kernel
theorem f_1_15 : fT 1 15 = some (1, 4) := by decide +kernel
theorem f_1_18 : fT 1 18 = some (1, 5) := by decide +kernel
theorem f_1_21 : fT 1 21 = some (1, 6) := by decide +kernel
theorem f_1_24 : fT 1 24 = some (1, 1) := by decide +kernel
theorem f_1_28 : fT 1 28 = some (1, 2) := by decide +kernel
theorem f_1_31 : fT 1 31 = some (9, 1) := by decide +kernel
theorem f_1_37 : fT 1 37 = some (4, 3) := by decide +kernel
theorem f_1_43 : fT 1 43 = some (1, 3) := by decide +kernel
theorem f_1_48 : fT 1 48 = some (8, 5) := by decide +kernel
theorem f_1_58 : fT 1 58 = some (4, 0) := by decide +kernel
theorem f_1_76 : fT 1 76 = some (4, 2) := by decide +kernel
theorem f_1_79 : fT 1 79 = some (9, 0) := by decide +kernel
theorem f_1_83 : fT 1 83 = some (2, 5) := by decide +kernel
theorem f_2_9 : fT 2 9 = some (2, 0) := by decide +kernel
theorem f_2_15 : fT 2 15 = some (2, 1) := by decide +kernel
theorem f_2_18 : fT 2 18 = some (2, 2) := by decide +kernel
theorem f_2_21 : fT 2 21 = some (2, 3) := by decide +kernel
theorem f_2_24 : fT 2 24 = some (2, 4) := by decide +kernel
theorem f_2_27 : fT 2 27 = some (2, 5) := by decide +kernel
theorem f_2_31 : fT 2 31 = some (5, 3) := by decide +kernel
theorem f_2_36 : fT 2 36 = some (2, 6) := by decide +kernel
theorem f_2_42 : fT 2 42 = some (5, 0) := by decide +kernel
theorem f_2_49 : fT 2 49 = some (5, 1) := by decide +kernel
theorem f_3_9 : fT 3 9 = some (3, 0) := by decide +kernel
theorem f_3_15 : fT 3 15 = some (3, 1) := by decide +kernel
theorem f_3_18 : fT 3 18 = some (9, 0) := by decide +kernel
theorem f_3_34 : fT 3 34 = some (2, 0) := by decide +kernel
theorem f_3_44 : fT 3 44 = some (9, 1) := by decide +kernel
theorem f_3_48 : fT 3 48 = some (4, 2) := by decide +kernel
theorem f_3_53 : fT 3 53 = some (2, 2) := by decide +kernel
theorem f_3_56 : fT 3 56 = some (2, 1) := by decide +kernel
theorem f_3_73 : fT 3 73 = some (4, 0) := by decide +kernel
theorem f_4_9 : fT 4 9 = some (4, 0) := by decide +kernel
theorem f_4_15 : fT 4 15 = some (4, 1) := by decide +kernel
theorem f_4_18 : fT 4 18 = some (4, 2) := by decide +kernel
theorem f_4_21 : fT 4 21 = some (4, 3) := by decide +kernel
theorem f_4_25 : fT 4 25 = some (5, 4) := by decide +kernel
theorem f_4_31 : fT 4 31 = some (5, 2) := by decide +kernel
theorem f_4_45 : fT 4 45 = some (8, 5) := by decide +kernel
theorem f_4_70 : fT 4 70 = some (2, 4) := by decide +kernel
theorem f_4_73 : fT 4 73 = some (2, 0) := by decide +kernel
theorem f_4_80 : fT 4 80 = some (8, 3) := by decide +kernel
theorem f_5_9 : fT 5 9 = some (5, 0) := by decide +kernel
theorem f_5_15 : fT 5 15 = some (5, 1) := by decide +kernel
theorem f_5_20 : fT 5 20 = some (5, 2) := by decide +kernel
theorem f_5_23 : fT 5 23 = some (5, 5) := by decide +kernel
theorem f_5_44 : fT 5 44 = some (5, 3) := by decide +kernel
theorem f_5_48 : fT 5 48 = some (5, 4) := by decide +kernel
theorem f_5_51 : fT 5 51 = some (5, 6) := by decide +kernel
theorem f_6_11 : fT 6 11 = some (6, 0) := by decide +kernel
theorem f_6_20 : fT 6 20 = some (6, 1) := by decide +kernel
theorem f_7_9 : fT 7 9 = some (7, 0) := by decide +kernel
theorem f_7_15 : fT 7 15 = some (7, 1) := by decide +kernel
theorem f_8_9 : fT 8 9 = some (8, 0) := by decide +kernel
theorem f_8_15 : fT 8 15 = some (8, 1) := by decide +kernel
theorem f_8_18 : fT 8 18 = some (8, 2) := by decide +kernel
theorem f_8_21 : fT 8 21 = some (8, 3) := by decide +kernel
theorem f_8_24 : fT 8 24 = some (8, 4) := by decide +kernel
theorem f_8_27 : fT 8 27 = some (5, 4) := by decide +kernel
theorem f_8_33 : fT 8 33 = some (8, 5) := by decide +kernel
theorem f_8_36 : fT 8 36 = some (5, 2) := by decide +kernel
theorem f_9_10 : fT 9 10 = some (9, 0) := by decide +kernel
theorem f_9_21 : fT 9 21 = some (9, 1) := by decide +kernel
theorem f_10_9 : fT 10 9 = some (10, 0) := by decide +kernel
theorem f_10_17 : fT 10 17 = some (10, 2) := by decide +kernel
theorem f_10_21 : fT 10 21 = some (10, 3) := by decide +kernel
theorem f_10_24 : fT 10 24 = some (10, 1) := by decide +kernel
theorem f_10_28 : fT 10 28 = some (9, 1) := by decide +kernel
theorem f_10_32 : fT 10 32 = some (4, 3) := by decide +kernel
theorem f_10_41 : fT 10 41 = some (10, 4) := by decide +kernel
theorem f_11_10 : fT 11 10 = some (11, 0) := by decide +kernel
theorem f_11_19 : fT 11 19 = some (11, 1) := by decide +kernel
theorem f_11_26 : fT 11 26 = some (11, 2) := by decide +kernel
theorem f_11_35 : fT 11 35 = some (11, 3) := by decide +kernel
theorem f_11_42 : fT 11 42 = some (11, 4) := by decide +kernel
theorem f_11_46 : fT 11 46 = some (11, 5) := by decide +kernel
theorem f_11_50 : fT 11 50 = some (11, 6) := by decide +kernel
theorem f_11_56 : fT 11 56 = some (9, 0) := by decide +kernel
theorem f_11_63 : fT 11 63 = some (11, 7) := by decide +kernel
theorem f_11_72 : fT 11 72 = some (11, 8) := by decide +kernel
theorem f_11_81 : fT 11 81 = some (11, 9) := by decide +kernel
theorem f_11_88 : fT 11 88 = some (11, 10) := by decide +kernel
theorem f_11_118 : fT 11 118 = some (2, 5) := by decide +kernel
theorem f_11_124 : fT 11 124 = some (8, 5) := by decide +kernel
theorem f_11_131 : fT 11 131 = some (2, 6) := by decide +kernel
theorem f_11_134 : fT 11 134 = some (9, 1) := by decide +kernel
theorem f_11_150 : fT 11 150 = some (2, 0) := by decide +kernel
theorem f_11_154 : fT 11 154 = some (2, 1) := by decide +kernel
theorem f_11_157 : fT 11 157 = some (2, 2) := by decide +kernel
theorem f_11_164 : fT 11 164 = some (4, 0) := by decide +kernel
theorem f_11_167 : fT 11 167 = some (8, 0) := by decide +kernel
theorem f_11_170 : fT 11 170 = some (8, 1) := by decide +kernel
theorem f_11_173 : fT 11 173 = some (8, 2) := by decide +kernel
theorem f_11_176 : fT 11 176 = some (8, 3) := by decide +kernel
theorem f_11_179 : fT 11 179 = some (8, 4) := by decide +kernel
theorem f_11_182 : fT 11 182 = some (4, 1) := by decide +kernel
theorem f_11_185 : fT 11 185 = some (4, 2) := by decide +kernel
theorem f_11_219 : fT 11 219 = some (10, 0) := by decide +kernel
theorem f_11_223 : fT 11 223 = some (1, 0) := by decide +kernel
theorem f_12_7 : fT 12 7 = some (12, 1) := by decide +kernel
theorem f_12_13 : fT 12 13 = some (12, 4) := by decide +kernel
theorem f_12_17 : fT 12 17 = some (12, 6) := by decide +kernel
theorem f_12_20 : fT 12 20 = some (12, 7) := by decide +kernel
theorem f_12_23 : fT 12 23 = some (12, 8) := by decide +kernel
theorem f_12_26 : fT 12 26 = some (12, 9) := by decide +kernel
theorem f_12_29 : fT 12 29 = some (12, 10) := by decide +kernel
theorem f_12_32 : fT 12 32 = some (12, 11) := by decide +kernel
theorem f_12_35 : fT 12 35 = some (12, 12) := by decide +kernel
theorem f_12_38 : fT 12 38 = some (12, 13) := by decide +kernel
theorem f_12_41 : fT 12 41 = some (12, 14) := by decide +kernel
theorem f_12_44 : fT 12 44 = some (12, 15) := by decide +kernel
theorem f_12_47 : fT 12 47 = some (12, 16) := by decide +kernel
theorem f_12_50 : fT 12 50 = some (12, 21) := by decide +kernel
theorem f_12_53 : fT 12 53 = some (12, 22) := by decide +kernel
theorem f_12_56 : fT 12 56 = some (12, 23) := by decide +kernel
theorem f_12_59 : fT 12 59 = some (12, 24) := by decide +kernel
theorem f_12_62 : fT 12 62 = some (12, 26) := by decide +kernel
theorem f_12_65 : fT 12 65 = some (12, 27) := by decide +kernel
theorem f_12_69 : fT 12 69 = some (12, 28) := by decide +kernel
theorem f_12_72 : fT 12 72 = some (12, 29) := by decide +kernel
theorem f_12_75 : fT 12 75 = some (12, 30) := by decide +kernel
theorem f_12_78 : fT 12 78 = some (12, 31) := by decide +kernel
theorem f_12_81 : fT 12 81 = some (12, 32) := by decide +kernel
theorem f_12_84 : fT 12 84 = some (12, 33) := by decide +kernel
theorem f_12_87 : fT 12 87 = some (12, 36) := by decide +kernel
theorem f_12_90 : fT 12 90 = some (12, 37) := by decide +kernel
theorem f_12_93 : fT 12 93 = some (12, 38) := by decide +kernel
theorem f_12_96 : fT 12 96 = some (12, 39) := by decide +kernel
theorem f_12_99 : fT 12 99 = some (12, 40) := by decide +kernel
theorem f_12_102 : fT 12 102 = some (12, 41) := by decide +kernel
theorem f_12_105 : fT 12 105 = some (12, 42) := by decide +kernel
theorem f_12_108 : fT 12 108 = some (12, 0) := by decide +kernel
theorem f_12_115 : fT 12 115 = some (12, 5) := by decide +kernel
theorem f_12_122 : fT 12 122 = some (12, 2) := by decide +kernel
theorem f_12_125 : fT 12 125 = some (12, 3) := by decide +kernel
theorem f_12_128 : fT 12 128 = some (12, 18) := by decide +kernel
theorem f_12_131 : fT 12 131 = some (12, 20) := by decide +kernel
theorem f_12_141 : fT 12 141 = some (12, 19) := by decide +kernel
theorem f_12_156 : fT 12 156 = some (12, 17) := by decide +kernel
theorem f_12_159 : fT 12 159 = some (12, 25) := by decide +kernel
theorem f_12_169 : fT 12 169 = some (12, 35) := by decide +kernel
theorem f_12_179 : fT 12 179 = some (12, 34) := by decide +kernel
theorem m_0_44 : mT 0 44 = some (5, 0) ∧ nM 5 = 2 ∧ clM 5 = 0 ∧ cM 5 = 0 ∧ sM 5 = 0 := by decide +kernel
theorem m_0_48 : mT 0 48 = some (6, 0) ∧ nM 6 = 3 ∧ clM 6 = 0 ∧ cM 6 = 0 ∧ sM 6 = 0 := by decide +kernel
theorem m_0_52 : mT 0 52 = some (16, 0) ∧ nM 16 = 1 ∧ clM 16 = 2 ∧ cM 16 = 0 ∧ sM 16 = 0 := by decide +kernel
theorem m_0_56 : mT 0 56 = some (19, 0) ∧ nM 19 = 1 ∧ clM 19 = 2 ∧ cM 19 = 0 ∧ sM 19 = 0 := by decide +kernel
theorem m_0_60 : mT 0 60 = some (18, 0) ∧ nM 18 = 0 ∧ clM 18 = 2 ∧ cM 18 = 0 ∧ sM 18 = 0 := by decide +kernel
theorem m_0_66 : mT 0 66 = some (22, 0) ∧ nM 22 = 2 ∧ clM 22 = 2 ∧ cM 22 = 0 ∧ sM 22 = 0 := by decide +kernel
theorem m_1_44 : mT 1 44 = some (10, 0) ∧ nM 10 = 2 ∧ clM 10 = 1 ∧ cM 10 = 0 ∧ sM 10 = 0 := by decide +kernel
theorem m_1_54 : mT 1 54 = some (9, 0) ∧ nM 9 = 1 ∧ clM 9 = 1 ∧ cM 9 = 0 ∧ sM 9 = 0 := by decide +kernel
theorem m_1_59 : mT 1 59 = some (12, 0) ∧ nM 12 = 0 ∧ clM 12 = 1 ∧ cM 12 = 0 ∧ sM 12 = 0 := by decide +kernel
theorem m_1_63 : mT 1 63 = some (13, 0) ∧ nM 13 = 0 ∧ clM 13 = 1 ∧ cM 13 = 0 ∧ sM 13 = 0 := by decide +kernel
theorem m_1_72 : mT 1 72 = some (14, 0) ∧ nM 14 = 0 ∧ clM 14 = 1 ∧ cM 14 = 0 ∧ sM 14 = 0 := by decide +kernel
theorem m_1_86 : mT 1 86 = some (11, 0) ∧ nM 11 = 5 ∧ clM 11 = 1 ∧ cM 11 = 0 ∧ sM 11 = 0 := by decide +kernel
theorem m_1_90 : mT 1 90 = some (74, 0) ∧ nM 74 = 1 ∧ clM 74 = 9 ∧ cM 74 = 0 ∧ sM 74 = 0 := by decide +kernel
theorem m_1_94 : mT 1 94 = some (21, 0) ∧ nM 21 = 1 ∧ clM 21 = 2 ∧ cM 21 = 0 ∧ sM 21 = 0 := by decide +kernel
theorem m_1_98 : mT 1 98 = some (38, 0) ∧ nM 38 = 3 ∧ clM 38 = 4 ∧ cM 38 = 0 ∧ sM 38 = 0 := by decide +kernel
theorem m_1_102 : mT 1 102 = some (68, 0) ∧ nM 68 = 1 ∧ clM 68 = 8 ∧ cM 68 = 0 ∧ sM 68 = 0 := by decide +kernel
theorem m_2_39 : mT 2 39 = some (18, 0) ∧ nM 18 = 0 ∧ clM 18 = 2 ∧ cM 18 = 0 ∧ sM 18 = 0 := by decide +kernel
theorem m_2_50 : mT 2 50 = some (20, 0) ∧ nM 20 = 1 ∧ clM 20 = 2 ∧ cM 20 = 0 ∧ sM 20 = 0 := by decide +kernel
theorem m_2_54 : mT 2 54 = some (21, 0) ∧ nM 21 = 1 ∧ clM 21 = 2 ∧ cM 21 = 0 ∧ sM 21 = 0 := by decide +kernel
theorem m_3_24 : mT 3 24 = some (19, 0) ∧ nM 19 = 1 ∧ clM 19 = 2 ∧ cM 19 = 0 ∧ sM 19 = 0 := by decide +kernel
theorem m_3_30 : mT 3 30 = some (22, 0) ∧ nM 22 = 2 ∧ clM 22 = 2 ∧ cM 22 = 0 ∧ sM 22 = 0 := by decide +kernel
theorem m_3_38 : mT 3 38 = some (74, 0) ∧ nM 74 = 1 ∧ clM 74 = 9 ∧ cM 74 = 0 ∧ sM 74 = 0 := by decide +kernel
theorem m_3_41 : mT 3 41 = some (77, 0) ∧ nM 77 = 2 ∧ clM 77 = 9 ∧ cM 77 = 0 ∧ sM 77 = 0 := by decide +kernel
theorem m_3_59 : mT 3 59 = some (164, 1) ∧ nM 164 = 1 ∧ clM 164 = 13 ∧ cM 164 = 0 ∧ sM 164 = 0 := by decide +kernel
theorem m_3_65 : mT 3 65 = some (32, 1) ∧ nM 32 = 2 ∧ clM 32 = 3 ∧ cM 32 = 0 ∧ sM 32 = 0 := by decide +kernel
theorem m_3_69 : mT 3 69 = some (31, 0) ∧ nM 31 = 4 ∧ clM 31 = 3 ∧ cM 31 = 0 ∧ sM 31 = 0 := by decide +kernel
theorem m_3_76 : mT 3 76 = some (39, 0) ∧ nM 39 = 1 ∧ clM 39 = 4 ∧ cM 39 = 0 ∧ sM 39 = 0 := by decide +kernel
theorem m_3_80 : mT 3 80 = some (21, 0) ∧ nM 21 = 1 ∧ clM 21 = 2 ∧ cM 21 = 0 ∧ sM 21 = 0 := by decide +kernel
theorem m_3_84 : mT 3 84 = some (23, 0) ∧ nM 23 = 0 ∧ clM 23 = 2 ∧ cM 23 = 0 ∧ sM 23 = 0 := by decide +kernel
theorem m_3_87 : mT 3 87 = some (38, 0) ∧ nM 38 = 3 ∧ clM 38 = 4 ∧ cM 38 = 0 ∧ sM 38 = 0 := by decide +kernel
theorem m_4_41 : mT 4 41 = some (36, 0) ∧ nM 36 = 1 ∧ clM 36 = 4 ∧ cM 36 = 0 ∧ sM 36 = 0 := by decide +kernel
theorem m_4_50 : mT 4 50 = some (39, 0) ∧ nM 39 = 1 ∧ clM 39 = 4 ∧ cM 39 = 0 ∧ sM 39 = 0 := by decide +kernel
theorem m_4_54 : mT 4 54 = some (38, 0) ∧ nM 38 = 3 ∧ clM 38 = 4 ∧ cM 38 = 0 ∧ sM 38 = 0 := by decide +kernel
theorem m_4_58 : mT 4 58 = some (24, 0) ∧ nM 24 = 1 ∧ clM 24 = 2 ∧ cM 24 = 0 ∧ sM 24 = 0 := by decide +kernel
theorem m_4_64 : mT 4 64 = some (70, 0) ∧ nM 70 = 1 ∧ clM 70 = 8 ∧ cM 70 = 0 ∧ sM 70 = 0 := by decide +kernel
theorem m_4_67 : mT 4 67 = some (69, 0) ∧ nM 69 = 1 ∧ clM 69 = 8 ∧ cM 69 = 0 ∧ sM 69 = 0 := by decide +kernel
theorem m_4_76 : mT 4 76 = some (71, 0) ∧ nM 71 = 2 ∧ clM 71 = 8 ∧ cM 71 = 0 ∧ sM 71 = 0 := by decide +kernel
theorem m_4_83 : mT 4 83 = some (68, 0) ∧ nM 68 = 1 ∧ clM 68 = 8 ∧ cM 68 = 0 ∧ sM 68 = 0 := by decide +kernel
theorem m_5_27 : mT 5 27 = some (62, 0) ∧ nM 62 = 1 ∧ clM 62 = 7 ∧ cM 62 = 0 ∧ sM 62 = 0 := by decide +kernel
theorem m_5_33 : mT 5 33 = some (63, 0) ∧ nM 63 = 1 ∧ clM 63 = 7 ∧ cM 63 = 0 ∧ sM 63 = 0 := by decide +kernel
theorem m_5_36 : mT 5 36 = some (45, 0) ∧ nM 45 = 1 ∧ clM 45 = 5 ∧ cM 45 = 0 ∧ sM 45 = 0 := by decide +kernel
theorem m_5_40 : mT 5 40 = some (46, 0) ∧ nM 46 = 1 ∧ clM 46 = 5 ∧ cM 46 = 0 ∧ sM 46 = 0 := by decide +kernel
theorem m_5_54 : mT 5 54 = some (58, 0) ∧ nM 58 = 0 ∧ clM 58 = 7 ∧ cM 58 = 0 ∧ sM 58 = 0 := by decide +kernel
theorem m_5_58 : mT 5 58 = some (48, 0) ∧ nM 48 = 2 ∧ clM 48 = 5 ∧ cM 48 = 0 ∧ sM 48 = 0 := by decide +kernel
theorem m_5_62 : mT 5 62 = some (47, 0) ∧ nM 47 = 2 ∧ clM 47 = 5 ∧ cM 47 = 0 ∧ sM 47 = 0 := by decide +kernel
theorem m_5_65 : mT 5 65 = some (49, 0) ∧ nM 49 = 1 ∧ clM 49 = 5 ∧ cM 49 = 0 ∧ sM 49 = 0 := by decide +kernel
theorem m_5_68 : mT 5 68 = some (50, 0) ∧ nM 50 = 1 ∧ clM 50 = 5 ∧ cM 50 = 0 ∧ sM 50 = 0 := by decide +kernel
theorem m_6_17 : mT 6 17 = some (72, 2) ∧ nM 72 = 1 ∧ clM 72 = 9 ∧ cM 72 = 10 ∧ sM 72 = 51 := by decide +kernel
theorem m_6_24 : mT 6 24 = some (55, 0) ∧ nM 55 = 0 ∧ clM 55 = 6 ∧ cM 55 = 0 ∧ sM 55 = 0 := by decide +kernel
theorem m_6_27 : mT 6 27 = some (74, 0) ∧ nM 74 = 1 ∧ clM 74 = 9 ∧ cM 74 = 0 ∧ sM 74 = 0 := by decide +kernel
theorem m_6_31 : mT 6 31 = some (75, 0) ∧ nM 75 = 1 ∧ clM 75 = 9 ∧ cM 75 = 0 ∧ sM 75 = 0 := by decide +kernel
theorem m_7_19 : mT 7 19 = some (62, 0) ∧ nM 62 = 1 ∧ clM 62 = 7 ∧ cM 62 = 0 ∧ sM 62 = 0 := by decide +kernel
theorem m_9_9 : mT 9 9 = some (15, 2) ∧ nM 15 = 0 ∧ clM 15 = 2 ∧ cM 15 = 5 ∧ sM 15 = 25 := by decide +kernel
theorem m_9_18 : mT 9 18 = some (33, 2) ∧ nM 33 = 1 ∧ clM 33 = 4 ∧ cM 33 = 3 ∧ sM 33 = 15 := by decide +kernel
theorem m_9_25 : mT 9 25 = some (17, 0) ∧ nM 17 = 1 ∧ clM 17 = 2 ∧ cM 17 = 0 ∧ sM 17 = 0 := by decide +kernel
theorem m_9_29 : mT 9 29 = some (34, 0) ∧ nM 34 = 1 ∧ clM 34 = 4 ∧ cM 34 = 0 ∧ sM 34 = 0 := by decide +kernel
theorem m_9_30 : mT 9 30 = some (19, 0) ∧ nM 19 = 1 ∧ clM 19 = 2 ∧ cM 19 = 0 ∧ sM 19 = 0 := by decide +kernel
theorem m_9_34 : mT 9 34 = some (35, 0) ∧ nM 35 = 1 ∧ clM 35 = 4 ∧ cM 35 = 0 ∧ sM 35 = 0 := by decide +kernel
theorem m_9_37 : mT 9 37 = some (20, 0) ∧ nM 20 = 1 ∧ clM 20 = 2 ∧ cM 20 = 0 ∧ sM 20 = 0 := by decide +kernel
theorem m_9_40 : mT 9 40 = some (36, 0) ∧ nM 36 = 1 ∧ clM 36 = 4 ∧ cM 36 = 0 ∧ sM 36 = 0 := by decide +kernel
theorem m_9_43 : mT 9 43 = some (21, 0) ∧ nM 21 = 1 ∧ clM 21 = 2 ∧ cM 21 = 0 ∧ sM 21 = 0 := by decide +kernel
theorem m_9_47 : mT 9 47 = some (37, 0) ∧ nM 37 = 1 ∧ clM 37 = 4 ∧ cM 37 = 0 ∧ sM 37 = 0 := by decide +kernel
theorem m_9_51 : mT 9 51 = some (76, 0) ∧ nM 76 = 1 ∧ clM 76 = 9 ∧ cM 76 = 0 ∧ sM 76 = 0 := by decide +kernel
theorem m_10_38 : mT 10 38 = some (72, 2) ∧ nM 72 = 1 ∧ clM 72 = 9 ∧ cM 72 = 10 ∧ sM 72 = 51 := by decide +kernel
theorem m_10_45 : mT 10 45 = some (42, 0) ∧ nM 42 = 2 ∧ clM 42 = 4 ∧ cM 42 = 0 ∧ sM 42 = 0 := by decide +kernel
theorem m_10_49 : mT 10 49 = some (80, 0) ∧ nM 80 = 4 ∧ clM 80 = 10 ∧ cM 80 = 0 ∧ sM 80 = 0 := by decide +kernel
theorem m_10_53 : mT 10 53 = some (74, 0) ∧ nM 74 = 1 ∧ clM 74 = 9 ∧ cM 74 = 0 ∧ sM 74 = 0 := by decide +kernel
theorem m_10_57 : mT 10 57 = some (76, 0) ∧ nM 76 = 1 ∧ clM 76 = 9 ∧ cM 76 = 0 ∧ sM 76 = 0 := by decide +kernel
theorem m_10_61 : mT 10 61 = some (81, 0) ∧ nM 81 = 4 ∧ clM 81 = 10 ∧ cM 81 = 0 ∧ sM 81 = 0 := by decide +kernel
theorem m_11_9 : mT 11 9 = some (57, 3) ∧ nM 57 = 0 ∧ clM 57 = 7 ∧ cM 57 = 1 ∧ sM 57 = 64 := by decide +kernel
theorem m_11_18 : mT 11 18 = some (43, 3) ∧ nM 43 = 0 ∧ clM 43 = 5 ∧ cM 43 = 9 ∧ sM 43 = 50 := by decide +kernel
theorem m_11_25 : mT 11 25 = some (64, 3) ∧ nM 64 = 0 ∧ clM 64 = 8 ∧ cM 64 = 5 ∧ sM 64 = 25 := by decide +kernel
theorem m_11_32 : mT 11 32 = some (72, 2) ∧ nM 72 = 1 ∧ clM 72 = 9 ∧ cM 72 = 10 ∧ sM 72 = 51 := by decide +kernel
theorem m_11_41 : mT 11 41 = some (51, 2) ∧ nM 51 = 1 ∧ clM 51 = 6 ∧ cM 51 = 133 ∧ sM 51 = 648 := by decide +kernel
theorem m_11_60 : mT 11 60 = some (0, 2) ∧ nM 0 = 2 ∧ clM 0 = 0 ∧ cM 0 = 5 ∧ sM 0 = 40 := by decide +kernel
theorem m_11_69 : mT 11 69 = some (26, 2) ∧ nM 26 = 2 ∧ clM 26 = 3 ∧ cM 26 = 0 ∧ sM 26 = 0 := by decide +kernel
theorem m_11_78 : mT 11 78 = some (78, 2) ∧ nM 78 = 1 ∧ clM 78 = 10 ∧ cM 78 = 36 ∧ sM 78 = 168 := by decide +kernel
theorem m_11_87 : mT 11 87 = some (7, 2) ∧ nM 7 = 2 ∧ clM 7 = 1 ∧ cM 7 = 4 ∧ sM 7 = 20 := by decide +kernel
theorem m_11_92 : mT 11 92 = some (59, 0) ∧ nM 59 = 1 ∧ clM 59 = 7 ∧ cM 59 = 0 ∧ sM 59 = 0 := by decide +kernel
theorem m_11_96 : mT 11 96 = some (60, 0) ∧ nM 60 = 2 ∧ clM 60 = 7 ∧ cM 60 = 0 ∧ sM 60 = 0 := by decide +kernel
theorem m_11_100 : mT 11 100 = some (61, 0) ∧ nM 61 = 0 ∧ clM 61 = 7 ∧ cM 61 = 0 ∧ sM 61 = 0 := by decide +kernel
theorem m_11_104 : mT 11 104 = some (44, 0) ∧ nM 44 = 1 ∧ clM 44 = 5 ∧ cM 44 = 0 ∧ sM 44 = 0 := by decide +kernel
theorem m_11_108 : mT 11 108 = some (65, 0) ∧ nM 65 = 1 ∧ clM 65 = 8 ∧ cM 65 = 0 ∧ sM 65 = 0 := by decide +kernel
theorem m_11_112 : mT 11 112 = some (73, 0) ∧ nM 73 = 1 ∧ clM 73 = 9 ∧ cM 73 = 0 ∧ sM 73 = 0 := by decide +kernel
theorem m_11_115 : mT 11 115 = some (53, 0) ∧ nM 53 = 0 ∧ clM 53 = 6 ∧ cM 53 = 0 ∧ sM 53 = 0 := by decide +kernel
theorem m_11_125 : mT 11 125 = some (52, 0) ∧ nM 52 = 0 ∧ clM 52 = 6 ∧ cM 52 = 0 ∧ sM 52 = 0 := by decide +kernel
theorem m_11_128 : mT 11 128 = some (25, 0) ∧ nM 25 = 0 ∧ clM 25 = 2 ∧ cM 25 = 0 ∧ sM 25 = 0 := by decide +kernel
theorem m_11_138 : mT 11 138 = some (41, 0) ∧ nM 41 = 1 ∧ clM 41 = 4 ∧ cM 41 = 0 ∧ sM 41 = 0 := by decide +kernel
theorem m_11_144 : mT 11 144 = some (1, 0) ∧ nM 1 = 0 ∧ clM 1 = 0 ∧ cM 1 = 0 ∧ sM 1 = 0 := by decide +kernel
theorem m_11_146 : mT 11 146 = some (58, 0) ∧ nM 58 = 0 ∧ clM 58 = 7 ∧ cM 58 = 0 ∧ sM 58 = 0 := by decide +kernel
theorem m_11_147 : mT 11 147 = some (16, 0) ∧ nM 16 = 1 ∧ clM 16 = 2 ∧ cM 16 = 0 ∧ sM 16 = 0 := by decide +kernel
theorem m_11_160 : mT 11 160 = some (40, 0) ∧ nM 40 = 1 ∧ clM 40 = 4 ∧ cM 40 = 0 ∧ sM 40 = 0 := by decide +kernel
theorem m_11_163 : mT 11 163 = some (66, 0) ∧ nM 66 = 1 ∧ clM 66 = 8 ∧ cM 66 = 0 ∧ sM 66 = 0 := by decide +kernel
theorem m_11_188 : mT 11 188 = some (109, 1) ∧ nM 109 = 1 ∧ clM 109 = 11 ∧ cM 109 = 0 ∧ sM 109 = 0 := by decide +kernel
theorem m_11_191 : mT 11 191 = some (54, 0) ∧ nM 54 = 1 ∧ clM 54 = 6 ∧ cM 54 = 0 ∧ sM 54 = 0 := by decide +kernel
theorem m_11_194 : mT 11 194 = some (76, 0) ∧ nM 76 = 1 ∧ clM 76 = 9 ∧ cM 76 = 0 ∧ sM 76 = 0 := by decide +kernel
theorem m_11_197 : mT 11 197 = some (56, 0) ∧ nM 56 = 1 ∧ clM 56 = 6 ∧ cM 56 = 0 ∧ sM 56 = 0 := by decide +kernel
theorem m_11_201 : mT 11 201 = some (110, 1) ∧ nM 110 = 2 ∧ clM 110 = 11 ∧ cM 110 = 0 ∧ sM 110 = 0 := by decide +kernel
theorem m_11_205 : mT 11 205 = some (27, 0) ∧ nM 27 = 3 ∧ clM 27 = 3 ∧ cM 27 = 0 ∧ sM 27 = 0 := by decide +kernel
theorem m_11_209 : mT 11 209 = some (28, 0) ∧ nM 28 = 3 ∧ clM 28 = 3 ∧ cM 28 = 0 ∧ sM 28 = 0 := by decide +kernel
theorem m_11_212 : mT 11 212 = some (67, 0) ∧ nM 67 = 1 ∧ clM 67 = 8 ∧ cM 67 = 0 ∧ sM 67 = 0 := by decide +kernel
theorem m_11_215 : mT 11 215 = some (79, 0) ∧ nM 79 = 2 ∧ clM 79 = 10 ∧ cM 79 = 0 ∧ sM 79 = 0 := by decide +kernel
theorem m_11_222 : mT 11 222 = some (8, 0) ∧ nM 8 = 2 ∧ clM 8 = 1 ∧ cM 8 = 0 ∧ sM 8 = 0 := by decide +kernel
theorem m_11_224 : mT 11 224 = some (29, 0) ∧ nM 29 = 4 ∧ clM 29 = 3 ∧ cM 29 = 0 ∧ sM 29 = 0 := by decide +kernel
theorem m_11_232 : mT 11 232 = some (30, 0) ∧ nM 30 = 4 ∧ clM 30 = 3 ∧ cM 30 = 0 ∧ sM 30 = 0 := by decide +kernel
theorem m_11_236 : mT 11 236 = some (32, 1) ∧ nM 32 = 2 ∧ clM 32 = 3 ∧ cM 32 = 0 ∧ sM 32 = 0 := by decide +kernel
theorem m_11_240 : mT 11 240 = some (111, 1) ∧ nM 111 = 3 ∧ clM 111 = 11 ∧ cM 111 = 0 ∧ sM 111 = 0 := by decide +kernel
theorem m_11_244 : mT 11 244 = some (2, 0) ∧ nM 2 = 5 ∧ clM 2 = 0 ∧ cM 2 = 0 ∧ sM 2 = 0 := by decide +kernel
theorem m_11_247 : mT 11 247 = some (3, 0) ∧ nM 3 = 0 ∧ clM 3 = 0 ∧ cM 3 = 0 ∧ sM 3 = 0 := by decide +kernel
theorem m_11_248 : mT 11 248 = some (4, 0) ∧ nM 4 = 1 ∧ clM 4 = 0 ∧ cM 4 = 0 ∧ sM 4 = 0 := by decide +kernel
theorem m_11_251 : mT 11 251 = some (74, 0) ∧ nM 74 = 1 ∧ clM 74 = 9 ∧ cM 74 = 0 ∧ sM 74 = 0 := by decide +kernel
theorem m_11_253 : mT 11 253 = some (112, 1) ∧ nM 112 = 2 ∧ clM 112 = 11 ∧ cM 112 = 0 ∧ sM 112 = 0 := by decide +kernel
theorem m_12_111 : mT 12 111 = some (114, 1) ∧ nM 114 = 3 ∧ clM 114 = 12 ∧ cM 114 = 0 ∧ sM 114 = 0 := by decide +kernel
theorem m_12_134 : mT 12 134 = some (115, 1) ∧ nM 115 = 2 ∧ clM 115 = 12 ∧ cM 115 = 0 ∧ sM 115 = 0 := by decide +kernel
theorem m_12_137 : mT 12 137 = some (121, 0) ∧ nM 121 = 2 ∧ clM 121 = 12 ∧ cM 121 = 0 ∧ sM 121 = 0 := by decide +kernel
theorem m_12_144 : mT 12 144 = some (122, 0) ∧ nM 122 = 0 ∧ clM 122 = 12 ∧ cM 122 = 0 ∧ sM 122 = 0 := by decide +kernel
theorem m_12_147 : mT 12 147 = some (123, 0) ∧ nM 123 = 0 ∧ clM 123 = 12 ∧ cM 123 = 0 ∧ sM 123 = 0 := by decide +kernel
theorem m_12_149 : mT 12 149 = some (124, 0) ∧ nM 124 = 0 ∧ clM 124 = 12 ∧ cM 124 = 0 ∧ sM 124 = 0 := by decide +kernel
theorem m_12_152 : mT 12 152 = some (125, 0) ∧ nM 125 = 0 ∧ clM 125 = 12 ∧ cM 125 = 0 ∧ sM 125 = 0 := by decide +kernel
theorem m_12_162 : mT 12 162 = some (128, 0) ∧ nM 128 = 0 ∧ clM 128 = 12 ∧ cM 128 = 0 ∧ sM 128 = 0 := by decide +kernel
theorem m_12_165 : mT 12 165 = some (129, 0) ∧ nM 129 = 1 ∧ clM 129 = 12 ∧ cM 129 = 0 ∧ sM 129 = 0 := by decide +kernel
theorem m_12_172 : mT 12 172 = some (116, 0) ∧ nM 116 = 1 ∧ clM 116 = 12 ∧ cM 116 = 0 ∧ sM 116 = 0 := by decide +kernel
theorem m_12_176 : mT 12 176 = some (117, 0) ∧ nM 117 = 1 ∧ clM 117 = 12 ∧ cM 117 = 0 ∧ sM 117 = 0 := by decide +kernel
theorem m_12_182 : mT 12 182 = some (138, 0) ∧ nM 138 = 1 ∧ clM 138 = 12 ∧ cM 138 = 0 ∧ sM 138 = 0 := by decide +kernel
theorem m_12_185 : mT 12 185 = some (137, 0) ∧ nM 137 = 2 ∧ clM 137 = 12 ∧ cM 137 = 0 ∧ sM 137 = 0 := by decide +kernel
theorem m_12_189 : mT 12 189 = some (139, 0) ∧ nM 139 = 1 ∧ clM 139 = 12 ∧ cM 139 = 0 ∧ sM 139 = 0 := by decide +kernel
theorem m_12_192 : mT 12 192 = some (140, 0) ∧ nM 140 = 2 ∧ clM 140 = 12 ∧ cM 140 = 0 ∧ sM 140 = 0 := by decide +kernel
theorem m_12_196 : mT 12 196 = some (142, 0) ∧ nM 142 = 0 ∧ clM 142 = 12 ∧ cM 142 = 0 ∧ sM 142 = 0 := by decide +kernel
theorem m_12_199 : mT 12 199 = some (136, 0) ∧ nM 136 = 0 ∧ clM 136 = 12 ∧ cM 136 = 0 ∧ sM 136 = 0 := by decide +kernel
theorem m_12_202 : mT 12 202 = some (118, 1) ∧ nM 118 = 2 ∧ clM 118 = 12 ∧ cM 118 = 0 ∧ sM 118 = 0 := by decide +kernel
theorem m_12_205 : mT 12 205 = some (141, 0) ∧ nM 141 = 2 ∧ clM 141 = 12 ∧ cM 141 = 0 ∧ sM 141 = 0 := by decide +kernel
theorem m_12_211 : mT 12 211 = some (148, 0) ∧ nM 148 = 2 ∧ clM 148 = 12 ∧ cM 148 = 0 ∧ sM 148 = 0 := by decide +kernel
theorem m_12_214 : mT 12 214 = some (147, 0) ∧ nM 147 = 2 ∧ clM 147 = 12 ∧ cM 147 = 0 ∧ sM 147 = 0 := by decide +kernel
theorem m_12_217 : mT 12 217 = some (151, 0) ∧ nM 151 = 2 ∧ clM 151 = 12 ∧ cM 151 = 0 ∧ sM 151 = 0 := by decide +kernel
theorem m_12_226 : mT 12 226 = some (155, 1) ∧ nM 155 = 2 ∧ clM 155 = 12 ∧ cM 155 = 0 ∧ sM 155 = 0 := by decide +kernel
theorem m_12_232 : mT 12 232 = some (159, 0) ∧ nM 159 = 1 ∧ clM 159 = 12 ∧ cM 159 = 0 ∧ sM 159 = 0 := by decide +kernel
theorem m_14_9 : mT 14 9 = some (82, 2) ∧ nM 82 = 0 ∧ clM 82 = 11 ∧ cM 82 = 247 ∧ sM 82 = 3000 := by decide +kernel
theorem m_14_12 : mT 14 12 = some (113, 2) ∧ nM 113 = 0 ∧ clM 113 = 12 ∧ cM 113 = 31 ∧ sM 113 = 1000 := by decide +kernel
theorem m_14_15 : mT 14 15 = some (83, 0) ∧ nM 83 = 2 ∧ clM 83 = 11 ∧ cM 83 = 0 ∧ sM 83 = 0 := by decide +kernel
theorem m_14_19 : mT 14 19 = some (119, 0) ∧ nM 119 = 2 ∧ clM 119 = 12 ∧ cM 119 = 0 ∧ sM 119 = 0 := by decide +kernel
theorem m_14_20 : mT 14 20 = some (84, 0) ∧ nM 84 = 0 ∧ clM 84 = 11 ∧ cM 84 = 0 ∧ sM 84 = 0 := by decide +kernel
theorem m_14_24 : mT 14 24 = some (120, 0) ∧ nM 120 = 0 ∧ clM 120 = 12 ∧ cM 120 = 0 ∧ sM 120 = 0 := by decide +kernel
theorem m_14_25 : mT 14 25 = some (85, 0) ∧ nM 85 = 0 ∧ clM 85 = 11 ∧ cM 85 = 0 ∧ sM 85 = 0 := by decide +kernel
theorem m_14_28 : mT 14 28 = some (126, 0) ∧ nM 126 = 0 ∧ clM 126 = 12 ∧ cM 126 = 0 ∧ sM 126 = 0 := by decide +kernel
theorem m_14_29 : mT 14 29 = some (86, 0) ∧ nM 86 = 0 ∧ clM 86 = 11 ∧ cM 86 = 0 ∧ sM 86 = 0 := by decide +kernel
theorem m_14_32 : mT 14 32 = some (127, 0) ∧ nM 127 = 0 ∧ clM 127 = 12 ∧ cM 127 = 0 ∧ sM 127 = 0 := by decide +kernel
theorem m_14_33 : mT 14 33 = some (87, 0) ∧ nM 87 = 1 ∧ clM 87 = 11 ∧ cM 87 = 0 ∧ sM 87 = 0 := by decide +kernel
theorem m_14_37 : mT 14 37 = some (130, 0) ∧ nM 130 = 1 ∧ clM 130 = 12 ∧ cM 130 = 0 ∧ sM 130 = 0 := by decide +kernel
theorem m_14_38 : mT 14 38 = some (88, 0) ∧ nM 88 = 2 ∧ clM 88 = 11 ∧ cM 88 = 0 ∧ sM 88 = 0 := by decide +kernel
theorem m_14_42 : mT 14 42 = some (131, 0) ∧ nM 131 = 2 ∧ clM 131 = 12 ∧ cM 131 = 0 ∧ sM 131 = 0 := by decide +kernel
theorem m_14_43 : mT 14 43 = some (89, 0) ∧ nM 89 = 2 ∧ clM 89 = 11 ∧ cM 89 = 0 ∧ sM 89 = 0 := by decide +kernel
theorem m_14_46 : mT 14 46 = some (132, 0) ∧ nM 132 = 2 ∧ clM 132 = 12 ∧ cM 132 = 0 ∧ sM 132 = 0 := by decide +kernel
theorem m_14_47 : mT 14 47 = some (90, 0) ∧ nM 90 = 2 ∧ clM 90 = 11 ∧ cM 90 = 0 ∧ sM 90 = 0 := by decide +kernel
theorem m_14_50 : mT 14 50 = some (133, 0) ∧ nM 133 = 2 ∧ clM 133 = 12 ∧ cM 133 = 0 ∧ sM 133 = 0 := by decide +kernel
theorem m_14_51 : mT 14 51 = some (91, 0) ∧ nM 91 = 2 ∧ clM 91 = 11 ∧ cM 91 = 0 ∧ sM 91 = 0 := by decide +kernel
theorem m_14_54 : mT 14 54 = some (134, 0) ∧ nM 134 = 2 ∧ clM 134 = 12 ∧ cM 134 = 0 ∧ sM 134 = 0 := by decide +kernel
theorem m_14_55 : mT 14 55 = some (92, 0) ∧ nM 92 = 2 ∧ clM 92 = 11 ∧ cM 92 = 0 ∧ sM 92 = 0 := by decide +kernel
theorem m_14_58 : mT 14 58 = some (135, 0) ∧ nM 135 = 2 ∧ clM 135 = 12 ∧ cM 135 = 0 ∧ sM 135 = 0 := by decide +kernel
theorem m_14_59 : mT 14 59 = some (93, 0) ∧ nM 93 = 1 ∧ clM 93 = 11 ∧ cM 93 = 0 ∧ sM 93 = 0 := by decide +kernel
theorem m_14_62 : mT 14 62 = some (143, 0) ∧ nM 143 = 1 ∧ clM 143 = 12 ∧ cM 143 = 0 ∧ sM 143 = 0 := by decide +kernel
theorem m_14_63 : mT 14 63 = some (94, 0) ∧ nM 94 = 0 ∧ clM 94 = 11 ∧ cM 94 = 0 ∧ sM 94 = 0 := by decide +kernel
theorem m_14_66 : mT 14 66 = some (144, 0) ∧ nM 144 = 0 ∧ clM 144 = 12 ∧ cM 144 = 0 ∧ sM 144 = 0 := by decide +kernel
theorem m_14_67 : mT 14 67 = some (95, 0) ∧ nM 95 = 3 ∧ clM 95 = 11 ∧ cM 95 = 0 ∧ sM 95 = 0 := by decide +kernel
theorem m_14_71 : mT 14 71 = some (145, 0) ∧ nM 145 = 3 ∧ clM 145 = 12 ∧ cM 145 = 0 ∧ sM 145 = 0 := by decide +kernel
theorem m_14_72 : mT 14 72 = some (96, 0) ∧ nM 96 = 3 ∧ clM 96 = 11 ∧ cM 96 = 0 ∧ sM 96 = 0 := by decide +kernel
theorem m_14_75 : mT 14 75 = some (146, 0) ∧ nM 146 = 3 ∧ clM 146 = 12 ∧ cM 146 = 0 ∧ sM 146 = 0 := by decide +kernel
theorem m_14_76 : mT 14 76 = some (97, 0) ∧ nM 97 = 2 ∧ clM 97 = 11 ∧ cM 97 = 0 ∧ sM 97 = 0 := by decide +kernel
theorem m_14_79 : mT 14 79 = some (149, 0) ∧ nM 149 = 2 ∧ clM 149 = 12 ∧ cM 149 = 0 ∧ sM 149 = 0 := by decide +kernel
theorem m_14_80 : mT 14 80 = some (98, 0) ∧ nM 98 = 3 ∧ clM 98 = 11 ∧ cM 98 = 0 ∧ sM 98 = 0 := by decide +kernel
theorem m_14_83 : mT 14 83 = some (150, 0) ∧ nM 150 = 3 ∧ clM 150 = 12 ∧ cM 150 = 0 ∧ sM 150 = 0 := by decide +kernel
theorem m_14_84 : mT 14 84 = some (99, 0) ∧ nM 99 = 2 ∧ clM 99 = 11 ∧ cM 99 = 0 ∧ sM 99 = 0 := by decide +kernel
theorem m_14_87 : mT 14 87 = some (152, 0) ∧ nM 152 = 2 ∧ clM 152 = 12 ∧ cM 152 = 0 ∧ sM 152 = 0 := by decide +kernel
theorem m_14_88 : mT 14 88 = some (100, 0) ∧ nM 100 = 3 ∧ clM 100 = 11 ∧ cM 100 = 0 ∧ sM 100 = 0 := by decide +kernel
theorem m_14_91 : mT 14 91 = some (153, 0) ∧ nM 153 = 3 ∧ clM 153 = 12 ∧ cM 153 = 0 ∧ sM 153 = 0 := by decide +kernel
theorem m_14_92 : mT 14 92 = some (101, 0) ∧ nM 101 = 4 ∧ clM 101 = 11 ∧ cM 101 = 0 ∧ sM 101 = 0 := by decide +kernel
theorem m_14_96 : mT 14 96 = some (154, 0) ∧ nM 154 = 4 ∧ clM 154 = 12 ∧ cM 154 = 0 ∧ sM 154 = 0 := by decide +kernel
theorem m_14_97 : mT 14 97 = some (102, 0) ∧ nM 102 = 5 ∧ clM 102 = 11 ∧ cM 102 = 0 ∧ sM 102 = 0 := by decide +kernel
theorem m_14_101 : mT 14 101 = some (156, 0) ∧ nM 156 = 5 ∧ clM 156 = 12 ∧ cM 156 = 0 ∧ sM 156 = 0 := by decide +kernel
theorem m_14_102 : mT 14 102 = some (103, 0) ∧ nM 103 = 5 ∧ clM 103 = 11 ∧ cM 103 = 0 ∧ sM 103 = 0 := by decide +kernel
theorem m_14_106 : mT 14 106 = some (157, 0) ∧ nM 157 = 5 ∧ clM 157 = 12 ∧ cM 157 = 0 ∧ sM 157 = 0 := by decide +kernel
theorem m_14_107 : mT 14 107 = some (104, 0) ∧ nM 104 = 0 ∧ clM 104 = 11 ∧ cM 104 = 0 ∧ sM 104 = 0 := by decide +kernel
theorem m_14_110 : mT 14 110 = some (158, 0) ∧ nM 158 = 0 ∧ clM 158 = 12 ∧ cM 158 = 0 ∧ sM 158 = 0 := by decide +kernel
theorem m_14_111 : mT 14 111 = some (105, 0) ∧ nM 105 = 1 ∧ clM 105 = 11 ∧ cM 105 = 0 ∧ sM 105 = 0 := by decide +kernel
theorem m_14_114 : mT 14 114 = some (160, 0) ∧ nM 160 = 1 ∧ clM 160 = 12 ∧ cM 160 = 0 ∧ sM 160 = 0 := by decide +kernel
theorem m_14_115 : mT 14 115 = some (106, 0) ∧ nM 106 = 2 ∧ clM 106 = 11 ∧ cM 106 = 0 ∧ sM 106 = 0 := by decide +kernel
theorem m_14_119 : mT 14 119 = some (161, 0) ∧ nM 161 = 2 ∧ clM 161 = 12 ∧ cM 161 = 0 ∧ sM 161 = 0 := by decide +kernel
theorem m_14_120 : mT 14 120 = some (107, 0) ∧ nM 107 = 1 ∧ clM 107 = 11 ∧ cM 107 = 0 ∧ sM 107 = 0 := by decide +kernel
theorem m_14_123 : mT 14 123 = some (162, 0) ∧ nM 162 = 1 ∧ clM 162 = 12 ∧ cM 162 = 0 ∧ sM 162 = 0 := by decide +kernel
theorem m_14_124 : mT 14 124 = some (108, 0) ∧ nM 108 = 1 ∧ clM 108 = 11 ∧ cM 108 = 0 ∧ sM 108 = 0 := by decide +kernel
theorem m_14_127 : mT 14 127 = some (163, 0) ∧ nM 163 = 1 ∧ clM 163 = 12 ∧ cM 163 = 0 ∧ sM 163 = 0 := by decide +kernel
theorem e_X0_init : mis[0]? = some (yX0_init, cX0_init, 3, none, 0, 5, 40, 2) := rfl
theorem i_X0_init : (yX0_init.name == "<init>") = true := by decide +kernel
theorem e_X0_count : mis[1]? = some (yX0_count, cX0_count, 1, (some .int), 0, 0, 0, 0) := rfl
theorem i_X0_count : (yX0_count.name == "<init>") = false := by decide +kernel
theorem e_X0_add : mis[2]? = some (yX0_add, cX0_add, 6, (some .int), 0, 0, 0, 5) := rfl
theorem i_X0_add : (yX0_add.name == "<init>") = false := by decide +kernel
theorem e_X0_clear : mis[3]? = some (yX0_clear, cX0_clear, 2, (some .int), 0, 0, 0, 0) := rfl
theorem i_X0_clear : (yX0_clear.name == "<init>") = false := by decide +kernel
theorem e_X0_trueTenths : mis[4]? = some (yX0_trueTenths, cX0_trueTenths, 4, (some .int), 0, 0, 0, 1) := rfl
theorem i_X0_trueTenths : (yX0_trueTenths.name == "<init>") = false := by decide +kernel
theorem e_X0_areAllTrue : mis[5]? = some (yX0_areAllTrue, cX0_areAllTrue, 4, (some .boolean), 0, 0, 0, 2) := rfl
theorem i_X0_areAllTrue : (yX0_areAllTrue.name == "<init>") = false := by decide +kernel
theorem e_X0_isTrue : mis[6]? = some (yX0_isTrue, cX0_isTrue, 4, (some .boolean), 0, 0, 0, 3) := rfl
theorem i_X0_isTrue : (yX0_isTrue.name == "<init>") = false := by decide +kernel
theorem e_X1_init : mis[7]? = some (yX1_init, cX1_init, 3, none, 1, 4, 20, 2) := rfl
theorem i_X1_init : (yX1_init.name == "<init>") = true := by decide +kernel
theorem e_X1_search : mis[8]? = some (yX1_search, cX1_search, 8, (some .int), 1, 0, 0, 2) := rfl
theorem i_X1_search : (yX1_search.name == "<init>") = false := by decide +kernel
theorem e_X1_isFree : mis[9]? = some (yX1_isFree, cX1_isFree, 2, (some .boolean), 1, 0, 0, 1) := rfl
theorem i_X1_isFree : (yX1_isFree.name == "<init>") = false := by decide +kernel
theorem e_X1_foresee : mis[10]? = some (yX1_foresee, cX1_foresee, 5, none, 1, 0, 0, 2) := rfl
theorem i_X1_foresee : (yX1_foresee.name == "<init>") = false := by decide +kernel
theorem e_X1_isReadyIn : mis[11]? = some (yX1_isReadyIn, cX1_isReadyIn, 7, (some .boolean), 1, 0, 0, 5) := rfl
theorem i_X1_isReadyIn : (yX1_isReadyIn.name == "<init>") = false := by decide +kernel
theorem e_X1_mostPossible : mis[12]? = some (yX1_mostPossible, cX1_mostPossible, 3, (some .int), 1, 0, 0, 0) := rfl
theorem i_X1_mostPossible : (yX1_mostPossible.name == "<init>") = false := by decide +kernel
theorem e_X1_readyHere : mis[13]? = some (yX1_readyHere, cX1_readyHere, 5, (some .int), 1, 0, 0, 0) := rfl
theorem i_X1_readyHere : (yX1_readyHere.name == "<init>") = false := by decide +kernel
theorem e_X1_nextPlacing : mis[14]? = some (yX1_nextPlacing, cX1_nextPlacing, 2, (some .boolean), 1, 0, 0, 0) := rfl
theorem i_X1_nextPlacing : (yX1_nextPlacing.name == "<init>") = false := by decide +kernel
theorem e_X2_init : mis[15]? = some (yX2_init, cX2_init, 2, none, 2, 5, 25, 0) := rfl
theorem i_X2_init : (yX2_init.name == "<init>") = true := by decide +kernel
theorem e_X2_isThere : mis[16]? = some (yX2_isThere, cX2_isThere, 2, (some .boolean), 2, 0, 0, 1) := rfl
theorem i_X2_isThere : (yX2_isThere.name == "<init>") = false := by decide +kernel
theorem e_X2_build : mis[17]? = some (yX2_build, cX2_build, 2, none, 2, 0, 0, 1) := rfl
theorem i_X2_build : (yX2_build.name == "<init>") = false := by decide +kernel
theorem e_X2_cool : mis[18]? = some (yX2_cool, cX2_cool, 2, none, 2, 0, 0, 0) := rfl
theorem i_X2_cool : (yX2_cool.name == "<init>") = false := by decide +kernel
theorem e_X2_copyFrom : mis[19]? = some (yX2_copyFrom, cX2_copyFrom, 2, none, 2, 0, 0, 1) := rfl
theorem i_X2_copyFrom : (yX2_copyFrom.name == "<init>") = false := by decide +kernel
theorem e_X2_copyHeat : mis[20]? = some (yX2_copyHeat, cX2_copyHeat, 2, none, 2, 0, 0, 1) := rfl
theorem i_X2_copyHeat : (yX2_copyHeat.name == "<init>") = false := by decide +kernel
theorem e_X2_burn : mis[21]? = some (yX2_burn, cX2_burn, 6, none, 2, 0, 0, 1) := rfl
theorem i_X2_burn : (yX2_burn.name == "<init>") = false := by decide +kernel
theorem e_X2_burnAll : mis[22]? = some (yX2_burnAll, cX2_burnAll, 4, none, 2, 0, 0, 2) := rfl
theorem i_X2_burnAll : (yX2_burnAll.name == "<init>") = false := by decide +kernel
theorem e_X2_blow : mis[23]? = some (yX2_blow, cX2_blow, 2, none, 2, 0, 0, 0) := rfl
theorem i_X2_blow : (yX2_blow.name == "<init>") = false := by decide +kernel
theorem e_X2_jump : mis[24]? = some (yX2_jump, cX2_jump, 2, (some .int), 2, 0, 0, 1) := rfl
theorem i_X2_jump : (yX2_jump.name == "<init>") = false := by decide +kernel
theorem e_X2_allHeat : mis[25]? = some (yX2_allHeat, cX2_allHeat, 3, (some .int), 2, 0, 0, 0) := rfl
theorem i_X2_allHeat : (yX2_allHeat.name == "<init>") = false := by decide +kernel
theorem e_X3_init : mis[26]? = some (yX3_init, cX3_init, 3, none, 3, 0, 0, 2) := rfl
theorem i_X3_init : (yX3_init.name == "<init>") = true := by decide +kernel
theorem e_X3_heatBehind : mis[27]? = some (yX3_heatBehind, cX3_heatBehind, 4, (some .int), 3, 0, 0, 3) := rfl
theorem i_X3_heatBehind : (yX3_heatBehind.name == "<init>") = false := by decide +kernel
theorem e_X3_howBehind : mis[28]? = some (yX3_howBehind, cX3_howBehind, 4, (some .int), 3, 0, 0, 3) := rfl
theorem i_X3_howBehind : (yX3_howBehind.name == "<init>") = false := by decide +kernel
theorem e_X3_fewestTenths : mis[29]? = some (yX3_fewestTenths, cX3_fewestTenths, 6, (some .int), 3, 0, 0, 4) := rfl
theorem i_X3_fewestTenths : (yX3_fewestTenths.name == "<init>") = false := by decide +kernel
theorem e_X3_crackingWays : mis[30]? = some (yX3_crackingWays, cX3_crackingWays, 11, (some .long), 3, 0, 0, 4) := rfl
theorem i_X3_crackingWays : (yX3_crackingWays.name == "<init>") = false := by decide +kernel
theorem e_X3_isCracked : mis[31]? = some (yX3_isCracked, cX3_isCracked, 7, (some .boolean), 3, 0, 0, 4) := rfl
theorem i_X3_isCracked : (yX3_isCracked.name == "<init>") = false := by decide +kernel
theorem e_X3_power : mis[32]? = some (yX3_power, cX3_power, 5, (some .long), 3, 0, 0, 2) := rfl
theorem i_X3_power : (yX3_power.name == "<init>") = false := by decide +kernel
theorem e_X4_init : mis[33]? = some (yX4_init, cX4_init, 2, none, 4, 3, 15, 1) := rfl
theorem i_X4_init : (yX4_init.name == "<init>") = true := by decide +kernel
theorem e_X4_build : mis[34]? = some (yX4_build, cX4_build, 3, none, 4, 0, 0, 1) := rfl
theorem i_X4_build : (yX4_build.name == "<init>") = false := by decide +kernel
theorem e_X4_copyFrom : mis[35]? = some (yX4_copyFrom, cX4_copyFrom, 2, none, 4, 0, 0, 1) := rfl
theorem i_X4_copyFrom : (yX4_copyFrom.name == "<init>") = false := by decide +kernel
theorem e_X4_copyHow : mis[36]? = some (yX4_copyHow, cX4_copyHow, 2, none, 4, 0, 0, 1) := rfl
theorem i_X4_copyHow : (yX4_copyHow.name == "<init>") = false := by decide +kernel
theorem e_X4_feelAll : mis[37]? = some (yX4_feelAll, cX4_feelAll, 4, (some .int), 4, 0, 0, 1) := rfl
theorem i_X4_feelAll : (yX4_feelAll.name == "<init>") = false := by decide +kernel
theorem e_X4_feel : mis[38]? = some (yX4_feel, cX4_feel, 5, none, 4, 0, 0, 3) := rfl
theorem i_X4_feel : (yX4_feel.name == "<init>") = false := by decide +kernel
theorem e_X4_isSaltBelow : mis[39]? = some (yX4_isSaltBelow, cX4_isSaltBelow, 3, (some .boolean), 4, 0, 0, 1) := rfl
theorem i_X4_isSaltBelow : (yX4_isSaltBelow.name == "<init>") = false := by decide +kernel
theorem e_X4_potsIn : mis[40]? = some (yX4_potsIn, cX4_potsIn, 4, (some .int), 4, 0, 0, 1) := rfl
theorem i_X4_potsIn : (yX4_potsIn.name == "<init>") = false := by decide +kernel
theorem e_X4_howMany : mis[41]? = some (yX4_howMany, cX4_howMany, 4, (some .int), 4, 0, 0, 1) := rfl
theorem i_X4_howMany : (yX4_howMany.name == "<init>") = false := by decide +kernel
theorem e_X4_canBeReady : mis[42]? = some (yX4_canBeReady, cX4_canBeReady, 5, (some .boolean), 4, 0, 0, 2) := rfl
theorem i_X4_canBeReady : (yX4_canBeReady.name == "<init>") = false := by decide +kernel
theorem e_X5_init : mis[43]? = some (yX5_init, cX5_init, 1, none, 5, 9, 50, 0) := rfl
theorem i_X5_init : (yX5_init.name == "<init>") = true := by decide +kernel
theorem e_X5_read : mis[44]? = some (yX5_read, cX5_read, 3, (some .int), 5, 0, 0, 1) := rfl
theorem i_X5_read : (yX5_read.name == "<init>") = false := by decide +kernel
theorem e_X5_begin : mis[45]? = some (yX5_begin, cX5_begin, 3, none, 5, 0, 0, 1) := rfl
theorem i_X5_begin : (yX5_begin.name == "<init>") = false := by decide +kernel
theorem e_X5_readParts : mis[46]? = some (yX5_readParts, cX5_readParts, 6, (some .int), 5, 0, 0, 1) := rfl
theorem i_X5_readParts : (yX5_readParts.name == "<init>") = false := by decide +kernel
theorem e_X5_readShutter : mis[47]? = some (yX5_readShutter, cX5_readShutter, 6, (some .int), 5, 0, 0, 2) := rfl
theorem i_X5_readShutter : (yX5_readShutter.name == "<init>") = false := by decide +kernel
theorem e_X5_readPot : mis[48]? = some (yX5_readPot, cX5_readPot, 5, (some .int), 5, 0, 0, 2) := rfl
theorem i_X5_readPot : (yX5_readPot.name == "<init>") = false := by decide +kernel
theorem e_X5_leastDigit : mis[49]? = some (yX5_leastDigit, cX5_leastDigit, 2, (some .int), 5, 0, 0, 1) := rfl
theorem i_X5_leastDigit : (yX5_leastDigit.name == "<init>") = false := by decide +kernel
theorem e_X5_mostDigit : mis[50]? = some (yX5_mostDigit, cX5_mostDigit, 2, (some .int), 5, 0, 0, 1) := rfl
theorem i_X5_mostDigit : (yX5_mostDigit.name == "<init>") = false := by decide +kernel
theorem e_X6_init : mis[51]? = some (yX6_init, cX6_init, 3, none, 6, 133, 648, 1) := rfl
theorem i_X6_init : (yX6_init.name == "<init>") = true := by decide +kernel
theorem e_X6_length : mis[52]? = some (yX6_length, cX6_length, 1, (some .int), 6, 0, 0, 0) := rfl
theorem i_X6_length : (yX6_length.name == "<init>") = false := by decide +kernel
theorem e_X6_forget : mis[53]? = some (yX6_forget, cX6_forget, 1, none, 6, 0, 0, 0) := rfl
theorem i_X6_forget : (yX6_forget.name == "<init>") = false := by decide +kernel
theorem e_X6_add : mis[54]? = some (yX6_add, cX6_add, 2, none, 6, 0, 0, 1) := rfl
theorem i_X6_add : (yX6_add.name == "<init>") = false := by decide +kernel
theorem e_X6_forgetFirst : mis[55]? = some (yX6_forgetFirst, cX6_forgetFirst, 3, none, 6, 0, 0, 0) := rfl
theorem i_X6_forgetFirst : (yX6_forgetFirst.name == "<init>") = false := by decide +kernel
theorem e_X6_takeBack : mis[56]? = some (yX6_takeBack, cX6_takeBack, 2, (some .int), 6, 0, 0, 1) := rfl
theorem i_X6_takeBack : (yX6_takeBack.name == "<init>") = false := by decide +kernel
theorem e_X7_init : mis[57]? = some (yX7_init, cX7_init, 1, none, 7, 1, 64, 0) := rfl
theorem i_X7_init : (yX7_init.name == "<init>") = true := by decide +kernel
theorem e_X7_length : mis[58]? = some (yX7_length, cX7_length, 1, (some .int), 7, 0, 0, 0) := rfl
theorem i_X7_length : (yX7_length.name == "<init>") = false := by decide +kernel
theorem e_X7_hasRoomFor : mis[59]? = some (yX7_hasRoomFor, cX7_hasRoomFor, 2, (some .boolean), 7, 0, 0, 1) := rfl
theorem i_X7_hasRoomFor : (yX7_hasRoomFor.name == "<init>") = false := by decide +kernel
theorem e_X7_append : mis[60]? = some (yX7_append, cX7_append, 5, (some .int), 7, 0, 0, 2) := rfl
theorem i_X7_append : (yX7_append.name == "<init>") = false := by decide +kernel
theorem e_X7_clear : mis[61]? = some (yX7_clear, cX7_clear, 2, (some .int), 7, 0, 0, 0) := rfl
theorem i_X7_clear : (yX7_clear.name == "<init>") = false := by decide +kernel
theorem e_X7_byteAt : mis[62]? = some (yX7_byteAt, cX7_byteAt, 2, (some .int), 7, 0, 0, 1) := rfl
theorem i_X7_byteAt : (yX7_byteAt.name == "<init>") = false := by decide +kernel
theorem e_X7_digitAt : mis[63]? = some (yX7_digitAt, cX7_digitAt, 3, (some .int), 7, 0, 0, 1) := rfl
theorem i_X7_digitAt : (yX7_digitAt.name == "<init>") = false := by decide +kernel
theorem e_X8_init : mis[64]? = some (yX8_init, cX8_init, 1, none, 8, 5, 25, 0) := rfl
theorem i_X8_init : (yX8_init.name == "<init>") = true := by decide +kernel
theorem e_X8_copyFrom : mis[65]? = some (yX8_copyFrom, cX8_copyFrom, 3, none, 8, 0, 0, 1) := rfl
theorem i_X8_copyFrom : (yX8_copyFrom.name == "<init>") = false := by decide +kernel
theorem e_X8_isThere : mis[66]? = some (yX8_isThere, cX8_isThere, 2, (some .boolean), 8, 0, 0, 1) := rfl
theorem i_X8_isThere : (yX8_isThere.name == "<init>") = false := by decide +kernel
theorem e_X8_isSet : mis[67]? = some (yX8_isSet, cX8_isSet, 2, (some .boolean), 8, 0, 0, 1) := rfl
theorem i_X8_isSet : (yX8_isSet.name == "<init>") = false := by decide +kernel
theorem e_X8_isSalt : mis[68]? = some (yX8_isSalt, cX8_isSalt, 2, (some .boolean), 8, 0, 0, 1) := rfl
theorem i_X8_isSalt : (yX8_isSalt.name == "<init>") = false := by decide +kernel
theorem e_X8_isRaw : mis[69]? = some (yX8_isRaw, cX8_isRaw, 2, (some .boolean), 8, 0, 0, 1) := rfl
theorem i_X8_isRaw : (yX8_isRaw.name == "<init>") = false := by decide +kernel
theorem e_X8_mostJump : mis[70]? = some (yX8_mostJump, cX8_mostJump, 2, (some .int), 8, 0, 0, 1) := rfl
theorem i_X8_mostJump : (yX8_mostJump.name == "<init>") = false := by decide +kernel
theorem e_X8_wants : mis[71]? = some (yX8_wants, cX8_wants, 3, (some .boolean), 8, 0, 0, 2) := rfl
theorem i_X8_wants : (yX8_wants.name == "<init>") = false := by decide +kernel
theorem e_X9_init : mis[72]? = some (yX9_init, cX9_init, 2, none, 9, 10, 51, 1) := rfl
theorem i_X9_init : (yX9_init.name == "<init>") = true := by decide +kernel
theorem e_X9_build : mis[73]? = some (yX9_build, cX9_build, 2, none, 9, 0, 0, 1) := rfl
theorem i_X9_build : (yX9_build.name == "<init>") = false := by decide +kernel
theorem e_X9_copyFrom : mis[74]? = some (yX9_copyFrom, cX9_copyFrom, 2, none, 9, 0, 0, 1) := rfl
theorem i_X9_copyFrom : (yX9_copyFrom.name == "<init>") = false := by decide +kernel
theorem e_X9_goBackTo : mis[75]? = some (yX9_goBackTo, cX9_goBackTo, 2, none, 9, 0, 0, 1) := rfl
theorem i_X9_goBackTo : (yX9_goBackTo.name == "<init>") = false := by decide +kernel
theorem e_X9_fire : mis[76]? = some (yX9_fire, cX9_fire, 2, (some .int), 9, 0, 0, 1) := rfl
theorem i_X9_fire : (yX9_fire.name == "<init>") = false := by decide +kernel
theorem e_X9_fireAll : mis[77]? = some (yX9_fireAll, cX9_fireAll, 4, none, 9, 0, 0, 2) := rfl
theorem i_X9_fireAll : (yX9_fireAll.name == "<init>") = false := by decide +kernel
theorem e_X10_init : mis[78]? = some (yX10_init, cX10_init, 3, none, 10, 36, 168, 1) := rfl
theorem i_X10_init : (yX10_init.name == "<init>") = true := by decide +kernel
theorem e_X10_search : mis[79]? = some (yX10_search, cX10_search, 4, (some .int), 10, 0, 0, 2) := rfl
theorem i_X10_search : (yX10_search.name == "<init>") = false := by decide +kernel
theorem e_X10_fireOn : mis[80]? = some (yX10_fireOn, cX10_fireOn, 6, none, 10, 0, 0, 4) := rfl
theorem i_X10_fireOn : (yX10_fireOn.name == "<init>") = false := by decide +kernel
theorem e_X10_goOn : mis[81]? = some (yX10_goOn, cX10_goOn, 5, none, 10, 0, 0, 4) := rfl
theorem i_X10_goOn : (yX10_goOn.name == "<init>") = false := by decide +kernel
theorem e_X11_init : mis[82]? = some (yX11_init, cX11_init, 2, none, 11, 247, 3000, 0) := rfl
theorem i_X11_init : (yX11_init.name == "<init>") = true := by decide +kernel
theorem e_X11_write : mis[83]? = some (yX11_write, cX11_write, 4, (some .int), 11, 0, 0, 2) := rfl
theorem i_X11_write : (yX11_write.name == "<init>") = false := by decide +kernel
theorem e_X11_wipe : mis[84]? = some (yX11_wipe, cX11_wipe, 1, (some .int), 11, 0, 0, 0) := rfl
theorem i_X11_wipe : (yX11_wipe.name == "<init>") = false := by decide +kernel
theorem e_X11_fault : mis[85]? = some (yX11_fault, cX11_fault, 1, (some .int), 11, 0, 0, 0) := rfl
theorem i_X11_fault : (yX11_fault.name == "<init>") = false := by decide +kernel
theorem e_X11_tower : mis[86]? = some (yX11_tower, cX11_tower, 2, (some .int), 11, 0, 0, 0) := rfl
theorem i_X11_tower : (yX11_tower.name == "<init>") = false := by decide +kernel
theorem e_X11_about : mis[87]? = some (yX11_about, cX11_about, 2, (some .int), 11, 0, 0, 1) := rfl
theorem i_X11_about : (yX11_about.name == "<init>") = false := by decide +kernel
theorem e_X11_kiln : mis[88]? = some (yX11_kiln, cX11_kiln, 3, (some .int), 11, 0, 0, 2) := rfl
theorem i_X11_kiln : (yX11_kiln.name == "<init>") = false := by decide +kernel
theorem e_X11_pot : mis[89]? = some (yX11_pot, cX11_pot, 3, (some .int), 11, 0, 0, 2) := rfl
theorem i_X11_pot : (yX11_pot.name == "<init>") = false := by decide +kernel
theorem e_X11_open : mis[90]? = some (yX11_open, cX11_open, 4, (some .int), 11, 0, 0, 2) := rfl
theorem i_X11_open : (yX11_open.name == "<init>") = false := by decide +kernel
theorem e_X11_damp : mis[91]? = some (yX11_damp, cX11_damp, 4, (some .int), 11, 0, 0, 2) := rfl
theorem i_X11_damp : (yX11_damp.name == "<init>") = false := by decide +kernel
theorem e_X11_put : mis[92]? = some (yX11_put, cX11_put, 4, (some .int), 11, 0, 0, 2) := rfl
theorem i_X11_put : (yX11_put.name == "<init>") = false := by decide +kernel
theorem e_X11_quarter : mis[93]? = some (yX11_quarter, cX11_quarter, 2, (some .int), 11, 0, 0, 1) := rfl
theorem i_X11_quarter : (yX11_quarter.name == "<init>") = false := by decide +kernel
theorem e_X11_undo : mis[94]? = some (yX11_undo, cX11_undo, 1, (some .int), 11, 0, 0, 0) := rfl
theorem i_X11_undo : (yX11_undo.name == "<init>") = false := by decide +kernel
theorem e_X11_warm : mis[95]? = some (yX11_warm, cX11_warm, 4, (some .int), 11, 0, 0, 3) := rfl
theorem i_X11_warm : (yX11_warm.name == "<init>") = false := by decide +kernel
theorem e_X11_then : mis[96]? = some (yX11_then, cX11_then, 4, (some .int), 11, 0, 0, 3) := rfl
theorem i_X11_then : (yX11_then.name == "<init>") = false := by decide +kernel
theorem e_X11_least : mis[97]? = some (yX11_least, cX11_least, 3, (some .int), 11, 0, 0, 2) := rfl
theorem i_X11_least : (yX11_least.name == "<init>") = false := by decide +kernel
theorem e_X11_leastAt : mis[98]? = some (yX11_leastAt, cX11_leastAt, 4, (some .int), 11, 0, 0, 3) := rfl
theorem i_X11_leastAt : (yX11_leastAt.name == "<init>") = false := by decide +kernel
theorem e_X11_floors : mis[99]? = some (yX11_floors, cX11_floors, 3, (some .int), 11, 0, 0, 2) := rfl
theorem i_X11_floors : (yX11_floors.name == "<init>") = false := by decide +kernel
theorem e_X11_floorAt : mis[100]? = some (yX11_floorAt, cX11_floorAt, 4, (some .int), 11, 0, 0, 3) := rfl
theorem i_X11_floorAt : (yX11_floorAt.name == "<init>") = false := by decide +kernel
theorem e_X11_openFor : mis[101]? = some (yX11_openFor, cX11_openFor, 5, (some .int), 11, 0, 0, 4) := rfl
theorem i_X11_openFor : (yX11_openFor.name == "<init>") = false := by decide +kernel
theorem e_X11_gales : mis[102]? = some (yX11_gales, cX11_gales, 6, (some .long), 11, 0, 0, 5) := rfl
theorem i_X11_gales : (yX11_gales.name == "<init>") = false := by decide +kernel
theorem e_X11_cone : mis[103]? = some (yX11_cone, cX11_cone, 6, (some .int), 11, 0, 0, 5) := rfl
theorem i_X11_cone : (yX11_cone.name == "<init>") = false := by decide +kernel
theorem e_X11_uncone : mis[104]? = some (yX11_uncone, cX11_uncone, 1, (some .int), 11, 0, 0, 0) := rfl
theorem i_X11_uncone : (yX11_uncone.name == "<init>") = false := by decide +kernel
theorem e_X11_blame : mis[105]? = some (yX11_blame, cX11_blame, 2, (some .int), 11, 0, 0, 1) := rfl
theorem i_X11_blame : (yX11_blame.name == "<init>") = false := by decide +kernel
theorem e_X11_owed : mis[106]? = some (yX11_owed, cX11_owed, 3, (some .int), 11, 0, 0, 2) := rfl
theorem i_X11_owed : (yX11_owed.name == "<init>") = false := by decide +kernel
theorem e_X11_keep : mis[107]? = some (yX11_keep, cX11_keep, 2, (some .int), 11, 0, 0, 1) := rfl
theorem i_X11_keep : (yX11_keep.name == "<init>") = false := by decide +kernel
theorem e_X11_again : mis[108]? = some (yX11_again, cX11_again, 2, (some .int), 11, 0, 0, 1) := rfl
theorem i_X11_again : (yX11_again.name == "<init>") = false := by decide +kernel
theorem e_X11_isWood : mis[109]? = some (yX11_isWood, cX11_isWood, 1, (some .boolean), 11, 0, 0, 1) := rfl
theorem i_X11_isWood : (yX11_isWood.name == "<init>") = false := by decide +kernel
theorem e_X11_isSpan : mis[110]? = some (yX11_isSpan, cX11_isSpan, 2, (some .boolean), 11, 0, 0, 2) := rfl
theorem i_X11_isSpan : (yX11_isSpan.name == "<init>") = false := by decide +kernel
theorem e_X11_part : mis[111]? = some (yX11_part, cX11_part, 7, (some .long), 11, 0, 0, 3) := rfl
theorem i_X11_part : (yX11_part.name == "<init>") = false := by decide +kernel
theorem e_X11_commonDivisor : mis[112]? = some (yX11_commonDivisor, cX11_commonDivisor, 11, (some .long), 11, 0, 0, 2) := rfl
theorem i_X11_commonDivisor : (yX11_commonDivisor.name == "<init>") = false := by decide +kernel
theorem e_X12_init : mis[113]? = some (yX12_init, cX12_init, 2, none, 12, 31, 1000, 0) := rfl
theorem i_X12_init : (yX12_init.name == "<init>") = true := by decide +kernel
theorem e_X12_in : mis[114]? = some (yX12_in, cX12_in, 6, (some .boolean), 12, 0, 0, 3) := rfl
theorem i_X12_in : (yX12_in.name == "<init>") = false := by decide +kernel
theorem e_X12_has : mis[115]? = some (yX12_has, cX12_has, 2, (some .boolean), 12, 0, 0, 2) := rfl
theorem i_X12_has : (yX12_has.name == "<init>") = false := by decide +kernel
theorem e_X12_noKiln : mis[116]? = some (yX12_noKiln, cX12_noKiln, 2, (some .boolean), 12, 0, 0, 1) := rfl
theorem i_X12_noKiln : (yX12_noKiln.name == "<init>") = false := by decide +kernel
theorem e_X12_noPot : mis[117]? = some (yX12_noPot, cX12_noPot, 2, (some .boolean), 12, 0, 0, 1) := rfl
theorem i_X12_noPot : (yX12_noPot.name == "<init>") = false := by decide +kernel
theorem e_X12_noFire : mis[118]? = some (yX12_noFire, cX12_noFire, 2, (some .boolean), 12, 0, 0, 2) := rfl
theorem i_X12_noFire : (yX12_noFire.name == "<init>") = false := by decide +kernel
theorem e_X12_write : mis[119]? = some (yX12_write, cX12_write, 5, (some .int), 12, 0, 0, 2) := rfl
theorem i_X12_write : (yX12_write.name == "<init>") = false := by decide +kernel
theorem e_X12_wipe : mis[120]? = some (yX12_wipe, cX12_wipe, 2, (some .int), 12, 0, 0, 0) := rfl
theorem i_X12_wipe : (yX12_wipe.name == "<init>") = false := by decide +kernel
theorem e_X12_figure : mis[121]? = some (yX12_figure, cX12_figure, 3, (some .int), 12, 0, 0, 2) := rfl
theorem i_X12_figure : (yX12_figure.name == "<init>") = false := by decide +kernel
theorem e_X12_readShutter : mis[122]? = some (yX12_readShutter, cX12_readShutter, 4, (some .boolean), 12, 0, 0, 0) := rfl
theorem i_X12_readShutter : (yX12_readShutter.name == "<init>") = false := by decide +kernel
theorem e_X12_readPot : mis[123]? = some (yX12_readPot, cX12_readPot, 8, (some .boolean), 12, 0, 0, 0) := rfl
theorem i_X12_readPot : (yX12_readPot.name == "<init>") = false := by decide +kernel
theorem e_X12_readPart : mis[124]? = some (yX12_readPart, cX12_readPart, 2, (some .boolean), 12, 0, 0, 0) := rfl
theorem i_X12_readPart : (yX12_readPart.name == "<init>") = false := by decide +kernel
theorem e_X12_readTower : mis[125]? = some (yX12_readTower, cX12_readTower, 2, (some .int), 12, 0, 0, 0) := rfl
theorem i_X12_readTower : (yX12_readTower.name == "<init>") = false := by decide +kernel
theorem e_X12_fault : mis[126]? = some (yX12_fault, cX12_fault, 1, (some .int), 12, 0, 0, 0) := rfl
theorem i_X12_fault : (yX12_fault.name == "<init>") = false := by decide +kernel
theorem e_X12_tower : mis[127]? = some (yX12_tower, cX12_tower, 2, (some .int), 12, 0, 0, 0) := rfl
theorem i_X12_tower : (yX12_tower.name == "<init>") = false := by decide +kernel
theorem e_X12_allHeat : mis[128]? = some (yX12_allHeat, cX12_allHeat, 3, (some .int), 12, 0, 0, 0) := rfl
theorem i_X12_allHeat : (yX12_allHeat.name == "<init>") = false := by decide +kernel
theorem e_X12_countHow : mis[129]? = some (yX12_countHow, cX12_countHow, 4, (some .int), 12, 0, 0, 1) := rfl
theorem i_X12_countHow : (yX12_countHow.name == "<init>") = false := by decide +kernel
theorem e_X12_about : mis[130]? = some (yX12_about, cX12_about, 2, (some .int), 12, 0, 0, 1) := rfl
theorem i_X12_about : (yX12_about.name == "<init>") = false := by decide +kernel
theorem e_X12_kiln : mis[131]? = some (yX12_kiln, cX12_kiln, 5, (some .int), 12, 0, 0, 2) := rfl
theorem i_X12_kiln : (yX12_kiln.name == "<init>") = false := by decide +kernel
theorem e_X12_pot : mis[132]? = some (yX12_pot, cX12_pot, 3, (some .int), 12, 0, 0, 2) := rfl
theorem i_X12_pot : (yX12_pot.name == "<init>") = false := by decide +kernel
theorem e_X12_open : mis[133]? = some (yX12_open, cX12_open, 4, (some .int), 12, 0, 0, 2) := rfl
theorem i_X12_open : (yX12_open.name == "<init>") = false := by decide +kernel
theorem e_X12_damp : mis[134]? = some (yX12_damp, cX12_damp, 4, (some .int), 12, 0, 0, 2) := rfl
theorem i_X12_damp : (yX12_damp.name == "<init>") = false := by decide +kernel
theorem e_X12_put : mis[135]? = some (yX12_put, cX12_put, 4, (some .int), 12, 0, 0, 2) := rfl
theorem i_X12_put : (yX12_put.name == "<init>") = false := by decide +kernel
theorem e_X12_begin : mis[136]? = some (yX12_begin, cX12_begin, 2, none, 12, 0, 0, 0) := rfl
theorem i_X12_begin : (yX12_begin.name == "<init>") = false := by decide +kernel
theorem e_X12_goHeat : mis[137]? = some (yX12_goHeat, cX12_goHeat, 5, none, 12, 0, 0, 2) := rfl
theorem i_X12_goHeat : (yX12_goHeat.name == "<init>") = false := by decide +kernel
theorem e_X12_isSalted : mis[138]? = some (yX12_isSalted, cX12_isSalted, 5, (some .boolean), 12, 0, 0, 1) := rfl
theorem i_X12_isSalted : (yX12_isSalted.name == "<init>") = false := by decide +kernel
theorem e_X12_feel : mis[139]? = some (yX12_feel, cX12_feel, 4, (some .int), 12, 0, 0, 1) := rfl
theorem i_X12_feel : (yX12_feel.name == "<init>") = false := by decide +kernel
theorem e_X12_go : mis[140]? = some (yX12_go, cX12_go, 5, (some .int), 12, 0, 0, 2) := rfl
theorem i_X12_go : (yX12_go.name == "<init>") = false := by decide +kernel
theorem e_X12_goMany : mis[141]? = some (yX12_goMany, cX12_goMany, 4, none, 12, 0, 0, 2) := rfl
theorem i_X12_goMany : (yX12_goMany.name == "<init>") = false := by decide +kernel
theorem e_X12_note : mis[142]? = some (yX12_note, cX12_note, 3, none, 12, 0, 0, 0) := rfl
theorem i_X12_note : (yX12_note.name == "<init>") = false := by decide +kernel
theorem e_X12_quarter : mis[143]? = some (yX12_quarter, cX12_quarter, 4, (some .int), 12, 0, 0, 1) := rfl
theorem i_X12_quarter : (yX12_quarter.name == "<init>") = false := by decide +kernel
theorem e_X12_undo : mis[144]? = some (yX12_undo, cX12_undo, 3, (some .int), 12, 0, 0, 0) := rfl
theorem i_X12_undo : (yX12_undo.name == "<init>") = false := by decide +kernel
theorem e_X12_warm : mis[145]? = some (yX12_warm, cX12_warm, 4, (some .int), 12, 0, 0, 3) := rfl
theorem i_X12_warm : (yX12_warm.name == "<init>") = false := by decide +kernel
theorem e_X12_then : mis[146]? = some (yX12_then, cX12_then, 4, (some .int), 12, 0, 0, 3) := rfl
theorem i_X12_then : (yX12_then.name == "<init>") = false := by decide +kernel
theorem e_X12_findLeast : mis[147]? = some (yX12_findLeast, cX12_findLeast, 10, (some .int), 12, 0, 0, 2) := rfl
theorem i_X12_findLeast : (yX12_findLeast.name == "<init>") = false := by decide +kernel
theorem e_X12_noLeast : mis[148]? = some (yX12_noLeast, cX12_noLeast, 3, (some .boolean), 12, 0, 0, 2) := rfl
theorem i_X12_noLeast : (yX12_noLeast.name == "<init>") = false := by decide +kernel
theorem e_X12_least : mis[149]? = some (yX12_least, cX12_least, 3, (some .int), 12, 0, 0, 2) := rfl
theorem i_X12_least : (yX12_least.name == "<init>") = false := by decide +kernel
theorem e_X12_leastAt : mis[150]? = some (yX12_leastAt, cX12_leastAt, 4, (some .int), 12, 0, 0, 3) := rfl
theorem i_X12_leastAt : (yX12_leastAt.name == "<init>") = false := by decide +kernel
theorem e_X12_findFloors : mis[151]? = some (yX12_findFloors, cX12_findFloors, 9, (some .int), 12, 0, 0, 2) := rfl
theorem i_X12_findFloors : (yX12_findFloors.name == "<init>") = false := by decide +kernel
theorem e_X12_floors : mis[152]? = some (yX12_floors, cX12_floors, 3, (some .int), 12, 0, 0, 2) := rfl
theorem i_X12_floors : (yX12_floors.name == "<init>") = false := by decide +kernel
theorem e_X12_floorAt : mis[153]? = some (yX12_floorAt, cX12_floorAt, 4, (some .int), 12, 0, 0, 3) := rfl
theorem i_X12_floorAt : (yX12_floorAt.name == "<init>") = false := by decide +kernel
theorem e_X12_openFor : mis[154]? = some (yX12_openFor, cX12_openFor, 8, (some .int), 12, 0, 0, 4) := rfl
theorem i_X12_openFor : (yX12_openFor.name == "<init>") = false := by decide +kernel
theorem e_X12_divisor : mis[155]? = some (yX12_divisor, cX12_divisor, 10, (some .long), 12, 0, 0, 2) := rfl
theorem i_X12_divisor : (yX12_divisor.name == "<init>") = false := by decide +kernel
theorem e_X12_gales : mis[156]? = some (yX12_gales, cX12_gales, 14, (some .long), 12, 0, 0, 5) := rfl
theorem i_X12_gales : (yX12_gales.name == "<init>") = false := by decide +kernel
theorem e_X12_cone : mis[157]? = some (yX12_cone, cX12_cone, 6, (some .int), 12, 0, 0, 5) := rfl
theorem i_X12_cone : (yX12_cone.name == "<init>") = false := by decide +kernel
theorem e_X12_uncone : mis[158]? = some (yX12_uncone, cX12_uncone, 2, (some .int), 12, 0, 0, 0) := rfl
theorem i_X12_uncone : (yX12_uncone.name == "<init>") = false := by decide +kernel
theorem e_X12_isTrue : mis[159]? = some (yX12_isTrue, cX12_isTrue, 3, (some .boolean), 12, 0, 0, 1) := rfl
theorem i_X12_isTrue : (yX12_isTrue.name == "<init>") = false := by decide +kernel
theorem e_X12_blame : mis[160]? = some (yX12_blame, cX12_blame, 7, (some .int), 12, 0, 0, 1) := rfl
theorem i_X12_blame : (yX12_blame.name == "<init>") = false := by decide +kernel
theorem e_X12_owed : mis[161]? = some (yX12_owed, cX12_owed, 5, (some .int), 12, 0, 0, 2) := rfl
theorem i_X12_owed : (yX12_owed.name == "<init>") = false := by decide +kernel
theorem e_X12_keep : mis[162]? = some (yX12_keep, cX12_keep, 4, (some .int), 12, 0, 0, 1) := rfl
theorem i_X12_keep : (yX12_keep.name == "<init>") = false := by decide +kernel
theorem e_X12_again : mis[163]? = some (yX12_again, cX12_again, 4, (some .int), 12, 0, 0, 1) := rfl
theorem i_X12_again : (yX12_again.name == "<init>") = false := by decide +kernel
theorem e_J6_bitCount_0f7a4 : mis[164]? = some (yJ6_bitCount_0f7a4, cJ6_bitCount_0f7a4, 1, (some .int), 13, 0, 0, 1) := rfl
theorem i_J6_bitCount_0f7a4 : (yJ6_bitCount_0f7a4.name == "<init>") = false := by decide +kernel
theorem k_11_228 : lT 11 228 = some (-1) := by decide +kernel
theorem k_11_230 : lT 11 230 = some (-2) := by decide +kernel
theorem k_12_118 : lT 12 118 = some (9) := by decide +kernel
theorem k_12_120 : lT 12 120 = some (8) := by decide +kernel
theorem k_12_209 : lT 12 209 = some (3) := by decide +kernel
theorem k_12_220 : lT 12 220 = some (-1) := by decide +kernel
theorem k_12_222 : lT 12 222 = some (10) := by decide +kernel
theorem k_12_224 : lT 12 224 = some (-2) := by decide +kernel
theorem k_12_230 : lT 12 230 = some (99) := by decide +kernel
theorem k_13_265 : iT 13 265 = some (1431655765) := by decide +kernel
theorem k_13_266 : iT 13 266 = some (858993459) := by decide +kernel
theorem k_13_267 : iT 13 267 = some (252645135) := by decide +kernel
theorem k_14_13 : lT 14 13 = some (4294967295) := by decide +kernel
theorem ac_1_66 : pT 1 66 = true ∧ bT 1 66 = false := by decide +kernel
theorem ac_2_43 : pT 2 43 = true ∧ bT 2 43 = false := by decide +kernel
theorem ac_4_35 : pT 4 35 = true ∧ bT 4 35 = false := by decide +kernel
theorem ac_10_64 : pT 10 64 = true ∧ bT 10 64 = false := by decide +kernel
theorem ab_2_58 : bT 2 58 = true := by decide +kernel
