/-! decode rows, printed (claim/NAMES.whole) -/
theorem dX12_init_0 : decode cX12_init 0 = .ok (.aload_n 0, 1) := by decide +kernel
theorem dX12_init_1 : decode cX12_init 1 = .ok (.invokespecial 1, 3) := by decide +kernel
theorem dX12_init_4 : decode cX12_init 4 = .ok (.aload_n 0, 1) := by decide +kernel
theorem dX12_init_5 : decode cX12_init 5 = .ok (.bipush 64, 2) := by decide +kernel
theorem dX12_init_7 : decode cX12_init 7 = .ok (.newarray .int, 2) := by decide +kernel
theorem dX12_init_9 : decode cX12_init 9 = .ok (.putfield 7, 3) := by decide +kernel
theorem dX12_init_12 : decode cX12_init 12 = .ok (.aload_n 0, 1) := by decide +kernel
theorem dX12_init_13 : decode cX12_init 13 = .ok (.iconst 2, 1) := by decide +kernel
theorem dX12_init_14 : decode cX12_init 14 = .ok (.putfield 13, 3) := by decide +kernel
theorem dX12_init_17 : decode cX12_init 17 = .ok (.aload_n 0, 1) := by decide +kernel
theorem dX12_init_18 : decode cX12_init 18 = .ok (.iconst 5, 1) := by decide +kernel
theorem dX12_init_19 : decode cX12_init 19 = .ok (.newarray .int, 2) := by decide +kernel
theorem dX12_init_21 : decode cX12_init 21 = .ok (.putfield 17, 3) := by decide +kernel
theorem dX12_init_24 : decode cX12_init 24 = .ok (.aload_n 0, 1) := by decide +kernel
theorem dX12_init_25 : decode cX12_init 25 = .ok (.iconst 5, 1) := by decide +kernel
theorem dX12_init_26 : decode cX12_init 26 = .ok (.newarray .int, 2) := by decide +kernel
theorem dX12_init_28 : decode cX12_init 28 = .ok (.putfield 20, 3) := by decide +kernel
theorem dX12_init_31 : decode cX12_init 31 = .ok (.aload_n 0, 1) := by decide +kernel
theorem dX12_init_32 : decode cX12_init 32 = .ok (.iconst 5, 1) := by decide +kernel
theorem dX12_init_33 : decode cX12_init 33 = .ok (.newarray .int, 2) := by decide +kernel
theorem dX12_init_35 : decode cX12_init 35 = .ok (.putfield 23, 3) := by decide +kernel
theorem dX12_init_38 : decode cX12_init 38 = .ok (.aload_n 0, 1) := by decide +kernel
theorem dX12_init_39 : decode cX12_init 39 = .ok (.iconst 5, 1) := by decide +kernel
theorem dX12_init_40 : decode cX12_init 40 = .ok (.newarray .int, 2) := by decide +kernel
theorem dX12_init_42 : decode cX12_init 42 = .ok (.putfield 26, 3) := by decide +kernel
theorem dX12_init_45 : decode cX12_init 45 = .ok (.aload_n 0, 1) := by decide +kernel
theorem dX12_init_46 : decode cX12_init 46 = .ok (.iconst 5, 1) := by decide +kernel
theorem dX12_init_47 : decode cX12_init 47 = .ok (.newarray .int, 2) := by decide +kernel
theorem dX12_init_49 : decode cX12_init 49 = .ok (.putfield 29, 3) := by decide +kernel
theorem dX12_init_52 : decode cX12_init 52 = .ok (.aload_n 0, 1) := by decide +kernel
theorem dX12_init_53 : decode cX12_init 53 = .ok (.iconst 5, 1) := by decide +kernel
theorem dX12_init_54 : decode cX12_init 54 = .ok (.newarray .int, 2) := by decide +kernel
theorem dX12_init_56 : decode cX12_init 56 = .ok (.putfield 32, 3) := by decide +kernel
theorem dX12_init_59 : decode cX12_init 59 = .ok (.aload_n 0, 1) := by decide +kernel
theorem dX12_init_60 : decode cX12_init 60 = .ok (.iconst 5, 1) := by decide +kernel
theorem dX12_init_61 : decode cX12_init 61 = .ok (.newarray .int, 2) := by decide +kernel
theorem dX12_init_63 : decode cX12_init 63 = .ok (.putfield 35, 3) := by decide +kernel
theorem dX12_init_66 : decode cX12_init 66 = .ok (.aload_n 0, 1) := by decide +kernel
theorem dX12_init_67 : decode cX12_init 67 = .ok (.iconst 5, 1) := by decide +kernel
theorem dX12_init_68 : decode cX12_init 68 = .ok (.newarray .int, 2) := by decide +kernel
theorem dX12_init_70 : decode cX12_init 70 = .ok (.putfield 38, 3) := by decide +kernel
theorem dX12_init_73 : decode cX12_init 73 = .ok (.aload_n 0, 1) := by decide +kernel
theorem dX12_init_74 : decode cX12_init 74 = .ok (.iconst 5, 1) := by decide +kernel
theorem dX12_init_75 : decode cX12_init 75 = .ok (.newarray .int, 2) := by decide +kernel
theorem dX12_init_77 : decode cX12_init 77 = .ok (.putfield 41, 3) := by decide +kernel
theorem dX12_init_80 : decode cX12_init 80 = .ok (.aload_n 0, 1) := by decide +kernel
theorem dX12_init_81 : decode cX12_init 81 = .ok (.iconst 5, 1) := by decide +kernel
theorem dX12_init_82 : decode cX12_init 82 = .ok (.newarray .int, 2) := by decide +kernel
theorem dX12_init_84 : decode cX12_init 84 = .ok (.putfield 44, 3) := by decide +kernel
theorem dX12_init_87 : decode cX12_init 87 = .ok (.aload_n 0, 1) := by decide +kernel
theorem dX12_init_88 : decode cX12_init 88 = .ok (.iconst 5, 1) := by decide +kernel
theorem dX12_init_89 : decode cX12_init 89 = .ok (.newarray .int, 2) := by decide +kernel
theorem dX12_init_91 : decode cX12_init 91 = .ok (.putfield 47, 3) := by decide +kernel
theorem dX12_init_94 : decode cX12_init 94 = .ok (.aload_n 0, 1) := by decide +kernel
theorem dX12_init_95 : decode cX12_init 95 = .ok (.iconst 5, 1) := by decide +kernel
theorem dX12_init_96 : decode cX12_init 96 = .ok (.newarray .int, 2) := by decide +kernel
theorem dX12_init_98 : decode cX12_init 98 = .ok (.putfield 50, 3) := by decide +kernel
theorem dX12_init_101 : decode cX12_init 101 = .ok (.aload_n 0, 1) := by decide +kernel
theorem dX12_init_102 : decode cX12_init 102 = .ok (.iconst 5, 1) := by decide +kernel
theorem dX12_init_103 : decode cX12_init 103 = .ok (.newarray .int, 2) := by decide +kernel
theorem dX12_init_105 : decode cX12_init 105 = .ok (.putfield 53, 3) := by decide +kernel
theorem dX12_init_108 : decode cX12_init 108 = .ok (.aload_n 0, 1) := by decide +kernel
theorem dX12_init_109 : decode cX12_init 109 = .ok (.bipush 30, 2) := by decide +kernel
theorem dX12_init_111 : decode cX12_init 111 = .ok (.newarray .int, 2) := by decide +kernel
theorem dX12_init_113 : decode cX12_init 113 = .ok (.putfield 56, 3) := by decide +kernel
theorem dX12_init_116 : decode cX12_init 116 = .ok (.aload_n 0, 1) := by decide +kernel
theorem dX12_init_117 : decode cX12_init 117 = .ok (.sipush 192, 3) := by decide +kernel
theorem dX12_init_120 : decode cX12_init 120 = .ok (.newarray .int, 2) := by decide +kernel
theorem dX12_init_122 : decode cX12_init 122 = .ok (.putfield 59, 3) := by decide +kernel
theorem dX12_init_125 : decode cX12_init 125 = .ok (.aload_n 0, 1) := by decide +kernel
theorem dX12_init_126 : decode cX12_init 126 = .ok (.bipush 72, 2) := by decide +kernel
theorem dX12_init_128 : decode cX12_init 128 = .ok (.newarray .int, 2) := by decide +kernel
theorem dX12_init_130 : decode cX12_init 130 = .ok (.putfield 62, 3) := by decide +kernel
theorem dX12_init_133 : decode cX12_init 133 = .ok (.aload_n 0, 1) := by decide +kernel
theorem dX12_init_134 : decode cX12_init 134 = .ok (.iconst 2, 1) := by decide +kernel
theorem dX12_init_135 : decode cX12_init 135 = .ok (.newarray .boolean, 2) := by decide +kernel
theorem dX12_init_137 : decode cX12_init 137 = .ok (.putfield 65, 3) := by decide +kernel
theorem dX12_init_140 : decode cX12_init 140 = .ok (.aload_n 0, 1) := by decide +kernel
theorem dX12_init_141 : decode cX12_init 141 = .ok (.iconst 5, 1) := by decide +kernel
theorem dX12_init_142 : decode cX12_init 142 = .ok (.newarray .int, 2) := by decide +kernel
theorem dX12_init_144 : decode cX12_init 144 = .ok (.putfield 69, 3) := by decide +kernel
theorem dX12_init_147 : decode cX12_init 147 = .ok (.aload_n 0, 1) := by decide +kernel
theorem dX12_init_148 : decode cX12_init 148 = .ok (.iconst 5, 1) := by decide +kernel
theorem dX12_init_149 : decode cX12_init 149 = .ok (.newarray .int, 2) := by decide +kernel
theorem dX12_init_151 : decode cX12_init 151 = .ok (.putfield 72, 3) := by decide +kernel
theorem dX12_init_154 : decode cX12_init 154 = .ok (.aload_n 0, 1) := by decide +kernel
theorem dX12_init_155 : decode cX12_init 155 = .ok (.iconst 5, 1) := by decide +kernel
theorem dX12_init_156 : decode cX12_init 156 = .ok (.newarray .int, 2) := by decide +kernel
theorem dX12_init_158 : decode cX12_init 158 = .ok (.putfield 75, 3) := by decide +kernel
theorem dX12_init_161 : decode cX12_init 161 = .ok (.aload_n 0, 1) := by decide +kernel
theorem dX12_init_162 : decode cX12_init 162 = .ok (.iconst 5, 1) := by decide +kernel
theorem dX12_init_163 : decode cX12_init 163 = .ok (.newarray .int, 2) := by decide +kernel
theorem dX12_init_165 : decode cX12_init 165 = .ok (.putfield 78, 3) := by decide +kernel
theorem dX12_init_168 : decode cX12_init 168 = .ok (.aload_n 0, 1) := by decide +kernel
theorem dX12_init_169 : decode cX12_init 169 = .ok (.iconst 5, 1) := by decide +kernel
theorem dX12_init_170 : decode cX12_init 170 = .ok (.newarray .int, 2) := by decide +kernel
theorem dX12_init_172 : decode cX12_init 172 = .ok (.putfield 81, 3) := by decide +kernel
theorem dX12_init_175 : decode cX12_init 175 = .ok (.aload_n 0, 1) := by decide +kernel
theorem dX12_init_176 : decode cX12_init 176 = .ok (.iconst 5, 1) := by decide +kernel
theorem dX12_init_177 : decode cX12_init 177 = .ok (.newarray .int, 2) := by decide +kernel
theorem dX12_init_179 : decode cX12_init 179 = .ok (.putfield 84, 3) := by decide +kernel
theorem dX12_init_182 : decode cX12_init 182 = .ok (.aload_n 0, 1) := by decide +kernel
theorem dX12_init_183 : decode cX12_init 183 = .ok (.bipush 8, 2) := by decide +kernel
theorem dX12_init_185 : decode cX12_init 185 = .ok (.newarray .int, 2) := by decide +kernel
theorem dX12_init_187 : decode cX12_init 187 = .ok (.putfield 87, 3) := by decide +kernel
theorem dX12_init_190 : decode cX12_init 190 = .ok (.aload_n 0, 1) := by decide +kernel
theorem dX12_init_191 : decode cX12_init 191 = .ok (.bipush 8, 2) := by decide +kernel
theorem dX12_init_193 : decode cX12_init 193 = .ok (.newarray .int, 2) := by decide +kernel
theorem dX12_init_195 : decode cX12_init 195 = .ok (.putfield 90, 3) := by decide +kernel
theorem dX12_init_198 : decode cX12_init 198 = .ok (.aload_n 0, 1) := by decide +kernel
theorem dX12_init_199 : decode cX12_init 199 = .ok (.bipush 8, 2) := by decide +kernel
theorem dX12_init_201 : decode cX12_init 201 = .ok (.newarray .int, 2) := by decide +kernel
theorem dX12_init_203 : decode cX12_init 203 = .ok (.putfield 93, 3) := by decide +kernel
theorem dX12_init_206 : decode cX12_init 206 = .ok (.aload_n 0, 1) := by decide +kernel
theorem dX12_init_207 : decode cX12_init 207 = .ok (.bipush 8, 2) := by decide +kernel
theorem dX12_init_209 : decode cX12_init 209 = .ok (.newarray .int, 2) := by decide +kernel
theorem dX12_init_211 : decode cX12_init 211 = .ok (.putfield 96, 3) := by decide +kernel
theorem dX12_init_214 : decode cX12_init 214 = .ok (.aload_n 0, 1) := by decide +kernel
theorem dX12_init_215 : decode cX12_init 215 = .ok (.bipush 8, 2) := by decide +kernel
theorem dX12_init_217 : decode cX12_init 217 = .ok (.newarray .boolean, 2) := by decide +kernel
theorem dX12_init_219 : decode cX12_init 219 = .ok (.putfield 99, 3) := by decide +kernel
theorem dX12_init_222 : decode cX12_init 222 = .ok (.aload_n 0, 1) := by decide +kernel
theorem dX12_init_223 : decode cX12_init 223 = .ok (.iconst 3, 1) := by decide +kernel
theorem dX12_init_224 : decode cX12_init 224 = .ok (.newarray .int, 2) := by decide +kernel
theorem dX12_init_226 : decode cX12_init 226 = .ok (.putfield 102, 3) := by decide +kernel
theorem dX12_init_229 : decode cX12_init 229 = .ok (.aload_n 0, 1) := by decide +kernel
theorem dX12_init_230 : decode cX12_init 230 = .ok (.iconst 5, 1) := by decide +kernel
theorem dX12_init_231 : decode cX12_init 231 = .ok (.newarray .int, 2) := by decide +kernel
theorem dX12_init_233 : decode cX12_init 233 = .ok (.putfield 105, 3) := by decide +kernel
theorem dX12_init_236 : decode cX12_init 236 = .ok (.iconst 0, 1) := by decide +kernel
theorem dX12_init_237 : decode cX12_init 237 = .ok (.istore_n 1, 1) := by decide +kernel
theorem dX12_init_238 : decode cX12_init 238 = .ok (.iload_n 1, 1) := by decide +kernel
theorem dX12_init_239 : decode cX12_init 239 = .ok (.iconst 5, 1) := by decide +kernel
theorem dX12_init_240 : decode cX12_init 240 = .ok (.if_icmp .ge 16, 3) := by decide +kernel
theorem dX12_init_243 : decode cX12_init 243 = .ok (.aload_n 0, 1) := by decide +kernel
theorem dX12_init_244 : decode cX12_init 244 = .ok (.getfield 17, 3) := by decide +kernel
theorem dX12_init_247 : decode cX12_init 247 = .ok (.iload_n 1, 1) := by decide +kernel
theorem dX12_init_248 : decode cX12_init 248 = .ok (.iconst 5, 1) := by decide +kernel
theorem dX12_init_249 : decode cX12_init 249 = .ok (.iastore, 1) := by decide +kernel
theorem dX12_init_250 : decode cX12_init 250 = .ok (.iinc 1 1, 3) := by decide +kernel
theorem dX12_init_253 : decode cX12_init 253 = .ok (.goto (-15), 3) := by decide +kernel
theorem dX12_init_256 : decode cX12_init 256 = .ok (.return_, 1) := by decide +kernel
theorem dX12_in_0 : decode cX12_in 0 = .ok (.lload_n 0, 1) := by decide +kernel
theorem dX12_in_1 : decode cX12_in 1 = .ok (.lload_n 2, 1) := by decide +kernel
theorem dX12_in_2 : decode cX12_in 2 = .ok (.lcmp, 1) := by decide +kernel
theorem dX12_in_3 : decode cX12_in 3 = .ok (.ifCond .lt 14, 3) := by decide +kernel
theorem dX12_in_6 : decode cX12_in 6 = .ok (.lload_n 0, 1) := by decide +kernel
theorem dX12_in_7 : decode cX12_in 7 = .ok (.lload 4, 2) := by decide +kernel
theorem dX12_in_9 : decode cX12_in 9 = .ok (.lcmp, 1) := by decide +kernel
theorem dX12_in_10 : decode cX12_in 10 = .ok (.ifCond .gt 7, 3) := by decide +kernel
theorem dX12_in_13 : decode cX12_in 13 = .ok (.iconst 1, 1) := by decide +kernel
theorem dX12_in_14 : decode cX12_in 14 = .ok (.goto 4, 3) := by decide +kernel
theorem dX12_in_17 : decode cX12_in 17 = .ok (.iconst 0, 1) := by decide +kernel
theorem dX12_in_18 : decode cX12_in 18 = .ok (.ireturn, 1) := by decide +kernel
theorem dX12_has_0 : decode cX12_has 0 = .ok (.iload_n 0, 1) := by decide +kernel
theorem dX12_has_1 : decode cX12_has 1 = .ok (.iload_n 1, 1) := by decide +kernel
theorem dX12_has_2 : decode cX12_has 2 = .ok (.ishr, 1) := by decide +kernel
theorem dX12_has_3 : decode cX12_has 3 = .ok (.iconst 1, 1) := by decide +kernel
theorem dX12_has_4 : decode cX12_has 4 = .ok (.iand, 1) := by decide +kernel
theorem dX12_has_5 : decode cX12_has 5 = .ok (.iconst 1, 1) := by decide +kernel
theorem dX12_has_6 : decode cX12_has 6 = .ok (.if_icmp .ne 7, 3) := by decide +kernel
theorem dX12_has_9 : decode cX12_has 9 = .ok (.iconst 1, 1) := by decide +kernel
theorem dX12_has_10 : decode cX12_has 10 = .ok (.goto 4, 3) := by decide +kernel
theorem dX12_has_13 : decode cX12_has 13 = .ok (.iconst 0, 1) := by decide +kernel
theorem dX12_has_14 : decode cX12_has 14 = .ok (.ireturn, 1) := by decide +kernel
theorem dX12_noKiln_0 : decode cX12_noKiln 0 = .ok (.iload_n 1, 1) := by decide +kernel
theorem dX12_noKiln_1 : decode cX12_noKiln 1 = .ok (.i2l, 1) := by decide +kernel
theorem dX12_noKiln_2 : decode cX12_noKiln 2 = .ok (.lconst 0, 1) := by decide +kernel
theorem dX12_noKiln_3 : decode cX12_noKiln 3 = .ok (.aload_n 0, 1) := by decide +kernel
theorem dX12_noKiln_4 : decode cX12_noKiln 4 = .ok (.getfield 13, 3) := by decide +kernel
theorem dX12_noKiln_7 : decode cX12_noKiln 7 = .ok (.iconst 1, 1) := by decide +kernel
theorem dX12_noKiln_8 : decode cX12_noKiln 8 = .ok (.isub, 1) := by decide +kernel
theorem dX12_noKiln_9 : decode cX12_noKiln 9 = .ok (.i2l, 1) := by decide +kernel
theorem dX12_noKiln_10 : decode cX12_noKiln 10 = .ok (.invokestatic 111, 3) := by decide +kernel
theorem dX12_noKiln_13 : decode cX12_noKiln 13 = .ok (.ifCond .ne 7, 3) := by decide +kernel
theorem dX12_noKiln_16 : decode cX12_noKiln 16 = .ok (.iconst 1, 1) := by decide +kernel
theorem dX12_noKiln_17 : decode cX12_noKiln 17 = .ok (.goto 4, 3) := by decide +kernel
theorem dX12_noKiln_20 : decode cX12_noKiln 20 = .ok (.iconst 0, 1) := by decide +kernel
theorem dX12_noKiln_21 : decode cX12_noKiln 21 = .ok (.ireturn, 1) := by decide +kernel
theorem dX12_noPot_0 : decode cX12_noPot 0 = .ok (.iload_n 1, 1) := by decide +kernel
theorem dX12_noPot_1 : decode cX12_noPot 1 = .ok (.i2l, 1) := by decide +kernel
theorem dX12_noPot_2 : decode cX12_noPot 2 = .ok (.lconst 0, 1) := by decide +kernel
theorem dX12_noPot_3 : decode cX12_noPot 3 = .ok (.aload_n 0, 1) := by decide +kernel
theorem dX12_noPot_4 : decode cX12_noPot 4 = .ok (.getfield 115, 3) := by decide +kernel
theorem dX12_noPot_7 : decode cX12_noPot 7 = .ok (.iconst 1, 1) := by decide +kernel
theorem dX12_noPot_8 : decode cX12_noPot 8 = .ok (.isub, 1) := by decide +kernel
theorem dX12_noPot_9 : decode cX12_noPot 9 = .ok (.i2l, 1) := by decide +kernel
theorem dX12_noPot_10 : decode cX12_noPot 10 = .ok (.invokestatic 111, 3) := by decide +kernel
theorem dX12_noPot_13 : decode cX12_noPot 13 = .ok (.ifCond .ne 7, 3) := by decide +kernel
theorem dX12_noPot_16 : decode cX12_noPot 16 = .ok (.iconst 1, 1) := by decide +kernel
theorem dX12_noPot_17 : decode cX12_noPot 17 = .ok (.goto 4, 3) := by decide +kernel
theorem dX12_noPot_20 : decode cX12_noPot 20 = .ok (.iconst 0, 1) := by decide +kernel
theorem dX12_noPot_21 : decode cX12_noPot 21 = .ok (.ireturn, 1) := by decide +kernel
theorem dX12_noFire_0 : decode cX12_noFire 0 = .ok (.iload_n 0, 1) := by decide +kernel
theorem dX12_noFire_1 : decode cX12_noFire 1 = .ok (.i2l, 1) := by decide +kernel
theorem dX12_noFire_2 : decode cX12_noFire 2 = .ok (.lconst 1, 1) := by decide +kernel
theorem dX12_noFire_3 : decode cX12_noFire 3 = .ok (.ldc2_w 118, 3) := by decide +kernel
theorem dX12_noFire_6 : decode cX12_noFire 6 = .ok (.invokestatic 111, 3) := by decide +kernel
theorem dX12_noFire_9 : decode cX12_noFire 9 = .ok (.ifCond .eq 15, 3) := by decide +kernel
theorem dX12_noFire_12 : decode cX12_noFire 12 = .ok (.iload_n 1, 1) := by decide +kernel
theorem dX12_noFire_13 : decode cX12_noFire 13 = .ok (.i2l, 1) := by decide +kernel
theorem dX12_noFire_14 : decode cX12_noFire 14 = .ok (.lconst 0, 1) := by decide +kernel
theorem dX12_noFire_15 : decode cX12_noFire 15 = .ok (.ldc2_w 118, 3) := by decide +kernel
theorem dX12_noFire_18 : decode cX12_noFire 18 = .ok (.invokestatic 111, 3) := by decide +kernel
theorem dX12_noFire_21 : decode cX12_noFire 21 = .ok (.ifCond .ne 7, 3) := by decide +kernel
theorem dX12_noFire_24 : decode cX12_noFire 24 = .ok (.iconst 1, 1) := by decide +kernel
theorem dX12_noFire_25 : decode cX12_noFire 25 = .ok (.goto 4, 3) := by decide +kernel
theorem dX12_noFire_28 : decode cX12_noFire 28 = .ok (.iconst 0, 1) := by decide +kernel
theorem dX12_noFire_29 : decode cX12_noFire 29 = .ok (.ireturn, 1) := by decide +kernel
theorem dX12_write_0 : decode cX12_write 0 = .ok (.aload_n 0, 1) := by decide +kernel
theorem dX12_write_1 : decode cX12_write 1 = .ok (.iconst 0, 1) := by decide +kernel
theorem dX12_write_2 : decode cX12_write 2 = .ok (.putfield 108, 3) := by decide +kernel
theorem dX12_write_5 : decode cX12_write 5 = .ok (.iload_n 1, 1) := by decide +kernel
theorem dX12_write_6 : decode cX12_write 6 = .ok (.i2l, 1) := by decide +kernel
theorem dX12_write_7 : decode cX12_write 7 = .ok (.lconst 1, 1) := by decide +kernel
theorem dX12_write_8 : decode cX12_write 8 = .ok (.ldc2_w 120, 3) := by decide +kernel
theorem dX12_write_11 : decode cX12_write 11 = .ok (.invokestatic 111, 3) := by decide +kernel
theorem dX12_write_14 : decode cX12_write 14 = .ok (.ifCond .ne 6, 3) := by decide +kernel
theorem dX12_write_17 : decode cX12_write 17 = .ok (.bipush (-2), 2) := by decide +kernel
theorem dX12_write_19 : decode cX12_write 19 = .ok (.ireturn, 1) := by decide +kernel
theorem dX12_write_20 : decode cX12_write 20 = .ok (.aload_n 0, 1) := by decide +kernel
theorem dX12_write_21 : decode cX12_write 21 = .ok (.getfield 122, 3) := by decide +kernel
theorem dX12_write_24 : decode cX12_write 24 = .ok (.iload_n 1, 1) := by decide +kernel
theorem dX12_write_25 : decode cX12_write 25 = .ok (.iadd, 1) := by decide +kernel
theorem dX12_write_26 : decode cX12_write 26 = .ok (.bipush 64, 2) := by decide +kernel
theorem dX12_write_28 : decode cX12_write 28 = .ok (.if_icmp .le 6, 3) := by decide +kernel
theorem dX12_write_31 : decode cX12_write 31 = .ok (.bipush (-4), 2) := by decide +kernel
theorem dX12_write_33 : decode cX12_write 33 = .ok (.ireturn, 1) := by decide +kernel
theorem dX12_write_34 : decode cX12_write 34 = .ok (.iload_n 1, 1) := by decide +kernel
theorem dX12_write_35 : decode cX12_write 35 = .ok (.iconst 1, 1) := by decide +kernel
theorem dX12_write_36 : decode cX12_write 36 = .ok (.isub, 1) := by decide +kernel
theorem dX12_write_37 : decode cX12_write 37 = .ok (.istore 4, 2) := by decide +kernel
theorem dX12_write_39 : decode cX12_write 39 = .ok (.iload 4, 2) := by decide +kernel
theorem dX12_write_41 : decode cX12_write 41 = .ok (.ifCond .lt 40, 3) := by decide +kernel
theorem dX12_write_44 : decode cX12_write 44 = .ok (.aload_n 0, 1) := by decide +kernel
theorem dX12_write_45 : decode cX12_write 45 = .ok (.getfield 7, 3) := by decide +kernel
theorem dX12_write_48 : decode cX12_write 48 = .ok (.aload_n 0, 1) := by decide +kernel
theorem dX12_write_49 : decode cX12_write 49 = .ok (.getfield 122, 3) := by decide +kernel
theorem dX12_write_52 : decode cX12_write 52 = .ok (.lload_n 2, 1) := by decide +kernel
theorem dX12_write_53 : decode cX12_write 53 = .ok (.bipush 8, 2) := by decide +kernel
theorem dX12_write_55 : decode cX12_write 55 = .ok (.iload 4, 2) := by decide +kernel
theorem dX12_write_57 : decode cX12_write 57 = .ok (.imul, 1) := by decide +kernel
theorem dX12_write_58 : decode cX12_write 58 = .ok (.lshr, 1) := by decide +kernel
theorem dX12_write_59 : decode cX12_write 59 = .ok (.l2i, 1) := by decide +kernel
theorem dX12_write_60 : decode cX12_write 60 = .ok (.sipush 255, 3) := by decide +kernel
theorem dX12_write_63 : decode cX12_write 63 = .ok (.iand, 1) := by decide +kernel
theorem dX12_write_64 : decode cX12_write 64 = .ok (.iastore, 1) := by decide +kernel
theorem dX12_write_65 : decode cX12_write 65 = .ok (.aload_n 0, 1) := by decide +kernel
theorem dX12_write_66 : decode cX12_write 66 = .ok (.dup, 1) := by decide +kernel
theorem dX12_write_67 : decode cX12_write 67 = .ok (.getfield 122, 3) := by decide +kernel
theorem dX12_write_70 : decode cX12_write 70 = .ok (.iconst 1, 1) := by decide +kernel
theorem dX12_write_71 : decode cX12_write 71 = .ok (.iadd, 1) := by decide +kernel
theorem dX12_write_72 : decode cX12_write 72 = .ok (.putfield 122, 3) := by decide +kernel
theorem dX12_write_75 : decode cX12_write 75 = .ok (.iinc 4 (-1), 3) := by decide +kernel
theorem dX12_write_78 : decode cX12_write 78 = .ok (.goto (-39), 3) := by decide +kernel
theorem dX12_write_81 : decode cX12_write 81 = .ok (.aload_n 0, 1) := by decide +kernel
theorem dX12_write_82 : decode cX12_write 82 = .ok (.getfield 122, 3) := by decide +kernel
theorem dX12_write_85 : decode cX12_write 85 = .ok (.ireturn, 1) := by decide +kernel
theorem dX12_wipe_0 : decode cX12_wipe 0 = .ok (.aload_n 0, 1) := by decide +kernel
theorem dX12_wipe_1 : decode cX12_wipe 1 = .ok (.iconst 0, 1) := by decide +kernel
theorem dX12_wipe_2 : decode cX12_wipe 2 = .ok (.putfield 108, 3) := by decide +kernel
theorem dX12_wipe_5 : decode cX12_wipe 5 = .ok (.aload_n 0, 1) := by decide +kernel
theorem dX12_wipe_6 : decode cX12_wipe 6 = .ok (.getfield 122, 3) := by decide +kernel
theorem dX12_wipe_9 : decode cX12_wipe 9 = .ok (.istore_n 1, 1) := by decide +kernel
theorem dX12_wipe_10 : decode cX12_wipe 10 = .ok (.aload_n 0, 1) := by decide +kernel
theorem dX12_wipe_11 : decode cX12_wipe 11 = .ok (.iconst 0, 1) := by decide +kernel
theorem dX12_wipe_12 : decode cX12_wipe 12 = .ok (.putfield 122, 3) := by decide +kernel
theorem dX12_wipe_15 : decode cX12_wipe 15 = .ok (.iload_n 1, 1) := by decide +kernel
theorem dX12_wipe_16 : decode cX12_wipe 16 = .ok (.ireturn, 1) := by decide +kernel
theorem dX12_figure_0 : decode cX12_figure 0 = .ok (.aload_n 0, 1) := by decide +kernel
theorem dX12_figure_1 : decode cX12_figure 1 = .ok (.getfield 125, 3) := by decide +kernel
theorem dX12_figure_4 : decode cX12_figure 4 = .ok (.aload_n 0, 1) := by decide +kernel
theorem dX12_figure_5 : decode cX12_figure 5 = .ok (.getfield 122, 3) := by decide +kernel
theorem dX12_figure_8 : decode cX12_figure 8 = .ok (.if_icmp .eq 26, 3) := by decide +kernel
theorem dX12_figure_11 : decode cX12_figure 11 = .ok (.aload_n 0, 1) := by decide +kernel
theorem dX12_figure_12 : decode cX12_figure 12 = .ok (.getfield 7, 3) := by decide +kernel
theorem dX12_figure_15 : decode cX12_figure 15 = .ok (.aload_n 0, 1) := by decide +kernel
theorem dX12_figure_16 : decode cX12_figure 16 = .ok (.getfield 125, 3) := by decide +kernel
theorem dX12_figure_19 : decode cX12_figure 19 = .ok (.iaload, 1) := by decide +kernel
theorem dX12_figure_20 : decode cX12_figure 20 = .ok (.bipush 48, 2) := by decide +kernel
theorem dX12_figure_22 : decode cX12_figure 22 = .ok (.isub, 1) := by decide +kernel
theorem dX12_figure_23 : decode cX12_figure 23 = .ok (.i2l, 1) := by decide +kernel
theorem dX12_figure_24 : decode cX12_figure 24 = .ok (.iload_n 1, 1) := by decide +kernel
theorem dX12_figure_25 : decode cX12_figure 25 = .ok (.i2l, 1) := by decide +kernel
theorem dX12_figure_26 : decode cX12_figure 26 = .ok (.iload_n 2, 1) := by decide +kernel
theorem dX12_figure_27 : decode cX12_figure 27 = .ok (.i2l, 1) := by decide +kernel
theorem dX12_figure_28 : decode cX12_figure 28 = .ok (.invokestatic 111, 3) := by decide +kernel
theorem dX12_figure_31 : decode cX12_figure 31 = .ok (.ifCond .ne 6, 3) := by decide +kernel
theorem dX12_figure_34 : decode cX12_figure 34 = .ok (.bipush (-9), 2) := by decide +kernel
theorem dX12_figure_36 : decode cX12_figure 36 = .ok (.ireturn, 1) := by decide +kernel
theorem dX12_figure_37 : decode cX12_figure 37 = .ok (.aload_n 0, 1) := by decide +kernel
theorem dX12_figure_38 : decode cX12_figure 38 = .ok (.dup, 1) := by decide +kernel
theorem dX12_figure_39 : decode cX12_figure 39 = .ok (.getfield 125, 3) := by decide +kernel
theorem dX12_figure_42 : decode cX12_figure 42 = .ok (.iconst 1, 1) := by decide +kernel
theorem dX12_figure_43 : decode cX12_figure 43 = .ok (.iadd, 1) := by decide +kernel
theorem dX12_figure_44 : decode cX12_figure 44 = .ok (.putfield 125, 3) := by decide +kernel
theorem dX12_figure_47 : decode cX12_figure 47 = .ok (.aload_n 0, 1) := by decide +kernel
theorem dX12_figure_48 : decode cX12_figure 48 = .ok (.getfield 7, 3) := by decide +kernel
theorem dX12_figure_51 : decode cX12_figure 51 = .ok (.aload_n 0, 1) := by decide +kernel
theorem dX12_figure_52 : decode cX12_figure 52 = .ok (.getfield 125, 3) := by decide +kernel
theorem dX12_figure_55 : decode cX12_figure 55 = .ok (.iconst 1, 1) := by decide +kernel
theorem dX12_figure_56 : decode cX12_figure 56 = .ok (.isub, 1) := by decide +kernel
theorem dX12_figure_57 : decode cX12_figure 57 = .ok (.iaload, 1) := by decide +kernel
theorem dX12_figure_58 : decode cX12_figure 58 = .ok (.bipush 48, 2) := by decide +kernel
theorem dX12_figure_60 : decode cX12_figure 60 = .ok (.isub, 1) := by decide +kernel
theorem dX12_figure_61 : decode cX12_figure 61 = .ok (.ireturn, 1) := by decide +kernel
theorem dX12_readShutter_0 : decode cX12_readShutter 0 = .ok (.aload_n 0, 1) := by decide +kernel
theorem dX12_readShutter_1 : decode cX12_readShutter 1 = .ok (.getfield 125, 3) := by decide +kernel
theorem dX12_readShutter_4 : decode cX12_readShutter 4 = .ok (.aload_n 0, 1) := by decide +kernel
theorem dX12_readShutter_5 : decode cX12_readShutter 5 = .ok (.getfield 122, 3) := by decide +kernel
theorem dX12_readShutter_8 : decode cX12_readShutter 8 = .ok (.if_icmp .ge 18, 3) := by decide +kernel
theorem dX12_readShutter_11 : decode cX12_readShutter 11 = .ok (.aload_n 0, 1) := by decide +kernel
theorem dX12_readShutter_12 : decode cX12_readShutter 12 = .ok (.getfield 7, 3) := by decide +kernel
theorem dX12_readShutter_15 : decode cX12_readShutter 15 = .ok (.aload_n 0, 1) := by decide +kernel
theorem dX12_readShutter_16 : decode cX12_readShutter 16 = .ok (.getfield 125, 3) := by decide +kernel
theorem dX12_readShutter_19 : decode cX12_readShutter 19 = .ok (.iaload, 1) := by decide +kernel
theorem dX12_readShutter_20 : decode cX12_readShutter 20 = .ok (.bipush 48, 2) := by decide +kernel
theorem dX12_readShutter_22 : decode cX12_readShutter 22 = .ok (.isub, 1) := by decide +kernel
theorem dX12_readShutter_23 : decode cX12_readShutter 23 = .ok (.goto 5, 3) := by decide +kernel
theorem dX12_readShutter_26 : decode cX12_readShutter 26 = .ok (.bipush (-9), 2) := by decide +kernel
theorem dX12_readShutter_28 : decode cX12_readShutter 28 = .ok (.istore_n 1, 1) := by decide +kernel
theorem dX12_readShutter_29 : decode cX12_readShutter 29 = .ok (.iload_n 1, 1) := by decide +kernel
theorem dX12_readShutter_30 : decode cX12_readShutter 30 = .ok (.i2l, 1) := by decide +kernel
theorem dX12_readShutter_31 : decode cX12_readShutter 31 = .ok (.lconst 0, 1) := by decide +kernel
theorem dX12_readShutter_32 : decode cX12_readShutter 32 = .ok (.aload_n 0, 1) := by decide +kernel
theorem dX12_readShutter_33 : decode cX12_readShutter 33 = .ok (.getfield 128, 3) := by decide +kernel
theorem dX12_readShutter_36 : decode cX12_readShutter 36 = .ok (.iconst 1, 1) := by decide +kernel
theorem dX12_readShutter_37 : decode cX12_readShutter 37 = .ok (.isub, 1) := by decide +kernel
theorem dX12_readShutter_38 : decode cX12_readShutter 38 = .ok (.i2l, 1) := by decide +kernel
theorem dX12_readShutter_39 : decode cX12_readShutter 39 = .ok (.invokestatic 111, 3) := by decide +kernel
theorem dX12_readShutter_42 : decode cX12_readShutter 42 = .ok (.ifCond .eq 14, 3) := by decide +kernel
theorem dX12_readShutter_45 : decode cX12_readShutter 45 = .ok (.aload_n 0, 1) := by decide +kernel
theorem dX12_readShutter_46 : decode cX12_readShutter 46 = .ok (.getfield 131, 3) := by decide +kernel
theorem dX12_readShutter_49 : decode cX12_readShutter 49 = .ok (.iload_n 1, 1) := by decide +kernel
theorem dX12_readShutter_50 : decode cX12_readShutter 50 = .ok (.invokestatic 134, 3) := by decide +kernel
theorem dX12_readShutter_53 : decode cX12_readShutter 53 = .ok (.ifCond .eq 5, 3) := by decide +kernel
theorem dX12_readShutter_56 : decode cX12_readShutter 56 = .ok (.iconst 0, 1) := by decide +kernel
theorem dX12_readShutter_57 : decode cX12_readShutter 57 = .ok (.ireturn, 1) := by decide +kernel
theorem dX12_readShutter_58 : decode cX12_readShutter 58 = .ok (.aload_n 0, 1) := by decide +kernel
theorem dX12_readShutter_59 : decode cX12_readShutter 59 = .ok (.dup, 1) := by decide +kernel
theorem dX12_readShutter_60 : decode cX12_readShutter 60 = .ok (.getfield 125, 3) := by decide +kernel
theorem dX12_readShutter_63 : decode cX12_readShutter 63 = .ok (.iconst 1, 1) := by decide +kernel
theorem dX12_readShutter_64 : decode cX12_readShutter 64 = .ok (.iadd, 1) := by decide +kernel
theorem dX12_readShutter_65 : decode cX12_readShutter 65 = .ok (.putfield 125, 3) := by decide +kernel
theorem dX12_readShutter_68 : decode cX12_readShutter 68 = .ok (.aload_n 0, 1) := by decide +kernel
theorem dX12_readShutter_69 : decode cX12_readShutter 69 = .ok (.iconst 0, 1) := by decide +kernel
theorem dX12_readShutter_70 : decode cX12_readShutter 70 = .ok (.bipush 9, 2) := by decide +kernel
theorem dX12_readShutter_72 : decode cX12_readShutter 72 = .ok (.invokevirtual 137, 3) := by decide +kernel
theorem dX12_readShutter_75 : decode cX12_readShutter 75 = .ok (.istore_n 2, 1) := by decide +kernel
theorem dX12_readShutter_76 : decode cX12_readShutter 76 = .ok (.iload_n 2, 1) := by decide +kernel
theorem dX12_readShutter_77 : decode cX12_readShutter 77 = .ok (.bipush (-9), 2) := by decide +kernel
theorem dX12_readShutter_79 : decode cX12_readShutter 79 = .ok (.if_icmp .ne 8, 3) := by decide +kernel
theorem dX12_readShutter_82 : decode cX12_readShutter 82 = .ok (.bipush (-9), 2) := by decide +kernel
theorem dX12_readShutter_84 : decode cX12_readShutter 84 = .ok (.goto 21, 3) := by decide +kernel
theorem dX12_readShutter_87 : decode cX12_readShutter 87 = .ok (.aload_n 0, 1) := by decide +kernel
theorem dX12_readShutter_88 : decode cX12_readShutter 88 = .ok (.iconst 0, 1) := by decide +kernel
theorem dX12_readShutter_89 : decode cX12_readShutter 89 = .ok (.iload_n 2, 1) := by decide +kernel
theorem dX12_readShutter_90 : decode cX12_readShutter 90 = .ok (.ifCond .le 10, 3) := by decide +kernel
theorem dX12_readShutter_93 : decode cX12_readShutter 93 = .ok (.bipush 10, 2) := by decide +kernel
theorem dX12_readShutter_95 : decode cX12_readShutter 95 = .ok (.iload_n 2, 1) := by decide +kernel
theorem dX12_readShutter_96 : decode cX12_readShutter 96 = .ok (.isub, 1) := by decide +kernel
theorem dX12_readShutter_97 : decode cX12_readShutter 97 = .ok (.goto 5, 3) := by decide +kernel
theorem dX12_readShutter_100 : decode cX12_readShutter 100 = .ok (.bipush 9, 2) := by decide +kernel
theorem dX12_readShutter_102 : decode cX12_readShutter 102 = .ok (.invokevirtual 137, 3) := by decide +kernel
theorem dX12_readShutter_105 : decode cX12_readShutter 105 = .ok (.istore_n 3, 1) := by decide +kernel
theorem dX12_readShutter_106 : decode cX12_readShutter 106 = .ok (.iload_n 3, 1) := by decide +kernel
theorem dX12_readShutter_107 : decode cX12_readShutter 107 = .ok (.bipush (-9), 2) := by decide +kernel
theorem dX12_readShutter_109 : decode cX12_readShutter 109 = .ok (.if_icmp .ne 5, 3) := by decide +kernel
theorem dX12_readShutter_112 : decode cX12_readShutter 112 = .ok (.iconst 0, 1) := by decide +kernel
theorem dX12_readShutter_113 : decode cX12_readShutter 113 = .ok (.ireturn, 1) := by decide +kernel
theorem dX12_readShutter_114 : decode cX12_readShutter 114 = .ok (.aload_n 0, 1) := by decide +kernel
theorem dX12_readShutter_115 : decode cX12_readShutter 115 = .ok (.dup, 1) := by decide +kernel
theorem dX12_readShutter_116 : decode cX12_readShutter 116 = .ok (.getfield 131, 3) := by decide +kernel
theorem dX12_readShutter_119 : decode cX12_readShutter 119 = .ok (.iconst 1, 1) := by decide +kernel
theorem dX12_readShutter_120 : decode cX12_readShutter 120 = .ok (.iload_n 1, 1) := by decide +kernel
theorem dX12_readShutter_121 : decode cX12_readShutter 121 = .ok (.ishl, 1) := by decide +kernel
theorem dX12_readShutter_122 : decode cX12_readShutter 122 = .ok (.ior, 1) := by decide +kernel
theorem dX12_readShutter_123 : decode cX12_readShutter 123 = .ok (.putfield 131, 3) := by decide +kernel
theorem dX12_readShutter_126 : decode cX12_readShutter 126 = .ok (.aload_n 0, 1) := by decide +kernel
theorem dX12_readShutter_127 : decode cX12_readShutter 127 = .ok (.getfield 50, 3) := by decide +kernel
theorem dX12_readShutter_130 : decode cX12_readShutter 130 = .ok (.iload_n 1, 1) := by decide +kernel
theorem dX12_readShutter_131 : decode cX12_readShutter 131 = .ok (.iload_n 2, 1) := by decide +kernel
theorem dX12_readShutter_132 : decode cX12_readShutter 132 = .ok (.iastore, 1) := by decide +kernel
theorem dX12_readShutter_133 : decode cX12_readShutter 133 = .ok (.aload_n 0, 1) := by decide +kernel
theorem dX12_readShutter_134 : decode cX12_readShutter 134 = .ok (.getfield 53, 3) := by decide +kernel
theorem dX12_readShutter_137 : decode cX12_readShutter 137 = .ok (.iload_n 1, 1) := by decide +kernel
theorem dX12_readShutter_138 : decode cX12_readShutter 138 = .ok (.iload_n 3, 1) := by decide +kernel
theorem dX12_readShutter_139 : decode cX12_readShutter 139 = .ok (.iastore, 1) := by decide +kernel
theorem dX12_readShutter_140 : decode cX12_readShutter 140 = .ok (.iconst 1, 1) := by decide +kernel
theorem dX12_readShutter_141 : decode cX12_readShutter 141 = .ok (.ireturn, 1) := by decide +kernel
theorem dX12_readPot_0 : decode cX12_readPot 0 = .ok (.aload_n 0, 1) := by decide +kernel
theorem dX12_readPot_1 : decode cX12_readPot 1 = .ok (.iconst 0, 1) := by decide +kernel
theorem dX12_readPot_2 : decode cX12_readPot 2 = .ok (.aload_n 0, 1) := by decide +kernel
theorem dX12_readPot_3 : decode cX12_readPot 3 = .ok (.getfield 128, 3) := by decide +kernel
theorem dX12_readPot_6 : decode cX12_readPot 6 = .ok (.iconst 1, 1) := by decide +kernel
theorem dX12_readPot_7 : decode cX12_readPot 7 = .ok (.isub, 1) := by decide +kernel
theorem dX12_readPot_8 : decode cX12_readPot 8 = .ok (.invokevirtual 137, 3) := by decide +kernel
theorem dX12_readPot_11 : decode cX12_readPot 11 = .ok (.istore_n 1, 1) := by decide +kernel
theorem dX12_readPot_12 : decode cX12_readPot 12 = .ok (.iload_n 1, 1) := by decide +kernel
theorem dX12_readPot_13 : decode cX12_readPot 13 = .ok (.bipush (-9), 2) := by decide +kernel
theorem dX12_readPot_15 : decode cX12_readPot 15 = .ok (.if_icmp .ne 8, 3) := by decide +kernel
theorem dX12_readPot_18 : decode cX12_readPot 18 = .ok (.bipush (-9), 2) := by decide +kernel
theorem dX12_readPot_20 : decode cX12_readPot 20 = .ok (.goto 9, 3) := by decide +kernel
theorem dX12_readPot_23 : decode cX12_readPot 23 = .ok (.aload_n 0, 1) := by decide +kernel
theorem dX12_readPot_24 : decode cX12_readPot 24 = .ok (.iconst 0, 1) := by decide +kernel
theorem dX12_readPot_25 : decode cX12_readPot 25 = .ok (.iconst 3, 1) := by decide +kernel
theorem dX12_readPot_26 : decode cX12_readPot 26 = .ok (.invokevirtual 137, 3) := by decide +kernel
theorem dX12_readPot_29 : decode cX12_readPot 29 = .ok (.istore_n 2, 1) := by decide +kernel
theorem dX12_readPot_30 : decode cX12_readPot 30 = .ok (.iload_n 2, 1) := by decide +kernel
theorem dX12_readPot_31 : decode cX12_readPot 31 = .ok (.bipush (-9), 2) := by decide +kernel
theorem dX12_readPot_33 : decode cX12_readPot 33 = .ok (.if_icmp .ne 8, 3) := by decide +kernel
theorem dX12_readPot_36 : decode cX12_readPot 36 = .ok (.bipush (-9), 2) := by decide +kernel
theorem dX12_readPot_38 : decode cX12_readPot 38 = .ok (.goto 10, 3) := by decide +kernel
theorem dX12_readPot_41 : decode cX12_readPot 41 = .ok (.aload_n 0, 1) := by decide +kernel
theorem dX12_readPot_42 : decode cX12_readPot 42 = .ok (.iconst 0, 1) := by decide +kernel
theorem dX12_readPot_43 : decode cX12_readPot 43 = .ok (.bipush 9, 2) := by decide +kernel
theorem dX12_readPot_45 : decode cX12_readPot 45 = .ok (.invokevirtual 137, 3) := by decide +kernel
theorem dX12_readPot_48 : decode cX12_readPot 48 = .ok (.istore_n 3, 1) := by decide +kernel
theorem dX12_readPot_49 : decode cX12_readPot 49 = .ok (.iload_n 3, 1) := by decide +kernel
theorem dX12_readPot_50 : decode cX12_readPot 50 = .ok (.bipush (-9), 2) := by decide +kernel
theorem dX12_readPot_52 : decode cX12_readPot 52 = .ok (.if_icmp .ne 8, 3) := by decide +kernel
theorem dX12_readPot_55 : decode cX12_readPot 55 = .ok (.bipush (-9), 2) := by decide +kernel
theorem dX12_readPot_57 : decode cX12_readPot 57 = .ok (.goto 10, 3) := by decide +kernel
theorem dX12_readPot_60 : decode cX12_readPot 60 = .ok (.aload_n 0, 1) := by decide +kernel
theorem dX12_readPot_61 : decode cX12_readPot 61 = .ok (.iload_n 3, 1) := by decide +kernel
theorem dX12_readPot_62 : decode cX12_readPot 62 = .ok (.bipush 9, 2) := by decide +kernel
theorem dX12_readPot_64 : decode cX12_readPot 64 = .ok (.invokevirtual 137, 3) := by decide +kernel
theorem dX12_readPot_67 : decode cX12_readPot 67 = .ok (.istore 4, 2) := by decide +kernel
theorem dX12_readPot_69 : decode cX12_readPot 69 = .ok (.iload 4, 2) := by decide +kernel
theorem dX12_readPot_71 : decode cX12_readPot 71 = .ok (.bipush (-9), 2) := by decide +kernel
theorem dX12_readPot_73 : decode cX12_readPot 73 = .ok (.if_icmp .ne 8, 3) := by decide +kernel
theorem dX12_readPot_76 : decode cX12_readPot 76 = .ok (.bipush (-9), 2) := by decide +kernel
theorem dX12_readPot_78 : decode cX12_readPot 78 = .ok (.goto 10, 3) := by decide +kernel
theorem dX12_readPot_81 : decode cX12_readPot 81 = .ok (.aload_n 0, 1) := by decide +kernel
theorem dX12_readPot_82 : decode cX12_readPot 82 = .ok (.iconst 1, 1) := by decide +kernel
theorem dX12_readPot_83 : decode cX12_readPot 83 = .ok (.bipush 9, 2) := by decide +kernel
theorem dX12_readPot_85 : decode cX12_readPot 85 = .ok (.invokevirtual 137, 3) := by decide +kernel
theorem dX12_readPot_88 : decode cX12_readPot 88 = .ok (.istore 5, 2) := by decide +kernel
theorem dX12_readPot_90 : decode cX12_readPot 90 = .ok (.iload 5, 2) := by decide +kernel
theorem dX12_readPot_92 : decode cX12_readPot 92 = .ok (.bipush (-9), 2) := by decide +kernel
theorem dX12_readPot_94 : decode cX12_readPot 94 = .ok (.if_icmp .ne 8, 3) := by decide +kernel
theorem dX12_readPot_97 : decode cX12_readPot 97 = .ok (.bipush (-9), 2) := by decide +kernel
theorem dX12_readPot_99 : decode cX12_readPot 99 = .ok (.goto 10, 3) := by decide +kernel
theorem dX12_readPot_102 : decode cX12_readPot 102 = .ok (.aload_n 0, 1) := by decide +kernel
theorem dX12_readPot_103 : decode cX12_readPot 103 = .ok (.iconst 1, 1) := by decide +kernel
theorem dX12_readPot_104 : decode cX12_readPot 104 = .ok (.bipush 9, 2) := by decide +kernel
theorem dX12_readPot_106 : decode cX12_readPot 106 = .ok (.invokevirtual 137, 3) := by decide +kernel
theorem dX12_readPot_109 : decode cX12_readPot 109 = .ok (.istore 6, 2) := by decide +kernel
theorem dX12_readPot_111 : decode cX12_readPot 111 = .ok (.iload 6, 2) := by decide +kernel
theorem dX12_readPot_113 : decode cX12_readPot 113 = .ok (.bipush (-9), 2) := by decide +kernel
theorem dX12_readPot_115 : decode cX12_readPot 115 = .ok (.if_icmp .ne 5, 3) := by decide +kernel
theorem dX12_readPot_118 : decode cX12_readPot 118 = .ok (.iconst 0, 1) := by decide +kernel
theorem dX12_readPot_119 : decode cX12_readPot 119 = .ok (.ireturn, 1) := by decide +kernel
theorem dX12_readPot_120 : decode cX12_readPot 120 = .ok (.bipush 6, 2) := by decide +kernel
theorem dX12_readPot_122 : decode cX12_readPot 122 = .ok (.aload_n 0, 1) := by decide +kernel
theorem dX12_readPot_123 : decode cX12_readPot 123 = .ok (.getfield 141, 3) := by decide +kernel
theorem dX12_readPot_126 : decode cX12_readPot 126 = .ok (.imul, 1) := by decide +kernel
theorem dX12_readPot_127 : decode cX12_readPot 127 = .ok (.istore 7, 2) := by decide +kernel
theorem dX12_readPot_129 : decode cX12_readPot 129 = .ok (.aload_n 0, 1) := by decide +kernel
theorem dX12_readPot_130 : decode cX12_readPot 130 = .ok (.getfield 56, 3) := by decide +kernel
theorem dX12_readPot_133 : decode cX12_readPot 133 = .ok (.iload 7, 2) := by decide +kernel
theorem dX12_readPot_135 : decode cX12_readPot 135 = .ok (.iload_n 1, 1) := by decide +kernel
theorem dX12_readPot_136 : decode cX12_readPot 136 = .ok (.iastore, 1) := by decide +kernel
theorem dX12_readPot_137 : decode cX12_readPot 137 = .ok (.aload_n 0, 1) := by decide +kernel
theorem dX12_readPot_138 : decode cX12_readPot 138 = .ok (.getfield 56, 3) := by decide +kernel
theorem dX12_readPot_141 : decode cX12_readPot 141 = .ok (.iload 7, 2) := by decide +kernel
theorem dX12_readPot_143 : decode cX12_readPot 143 = .ok (.iconst 1, 1) := by decide +kernel
theorem dX12_readPot_144 : decode cX12_readPot 144 = .ok (.iadd, 1) := by decide +kernel
theorem dX12_readPot_145 : decode cX12_readPot 145 = .ok (.iload_n 2, 1) := by decide +kernel
theorem dX12_readPot_146 : decode cX12_readPot 146 = .ok (.iastore, 1) := by decide +kernel
theorem dX12_readPot_147 : decode cX12_readPot 147 = .ok (.aload_n 0, 1) := by decide +kernel
theorem dX12_readPot_148 : decode cX12_readPot 148 = .ok (.getfield 56, 3) := by decide +kernel
theorem dX12_readPot_151 : decode cX12_readPot 151 = .ok (.iload 7, 2) := by decide +kernel
theorem dX12_readPot_153 : decode cX12_readPot 153 = .ok (.iconst 2, 1) := by decide +kernel
theorem dX12_readPot_154 : decode cX12_readPot 154 = .ok (.iadd, 1) := by decide +kernel
theorem dX12_readPot_155 : decode cX12_readPot 155 = .ok (.iload_n 3, 1) := by decide +kernel
theorem dX12_readPot_156 : decode cX12_readPot 156 = .ok (.iastore, 1) := by decide +kernel
theorem dX12_readPot_157 : decode cX12_readPot 157 = .ok (.aload_n 0, 1) := by decide +kernel
theorem dX12_readPot_158 : decode cX12_readPot 158 = .ok (.getfield 56, 3) := by decide +kernel
theorem dX12_readPot_161 : decode cX12_readPot 161 = .ok (.iload 7, 2) := by decide +kernel
theorem dX12_readPot_163 : decode cX12_readPot 163 = .ok (.iconst 3, 1) := by decide +kernel
theorem dX12_readPot_164 : decode cX12_readPot 164 = .ok (.iadd, 1) := by decide +kernel
theorem dX12_readPot_165 : decode cX12_readPot 165 = .ok (.iload 4, 2) := by decide +kernel
theorem dX12_readPot_167 : decode cX12_readPot 167 = .ok (.iastore, 1) := by decide +kernel
theorem dX12_readPot_168 : decode cX12_readPot 168 = .ok (.aload_n 0, 1) := by decide +kernel
theorem dX12_readPot_169 : decode cX12_readPot 169 = .ok (.getfield 56, 3) := by decide +kernel
theorem dX12_readPot_172 : decode cX12_readPot 172 = .ok (.iload 7, 2) := by decide +kernel
theorem dX12_readPot_174 : decode cX12_readPot 174 = .ok (.iconst 4, 1) := by decide +kernel
theorem dX12_readPot_175 : decode cX12_readPot 175 = .ok (.iadd, 1) := by decide +kernel
theorem dX12_readPot_176 : decode cX12_readPot 176 = .ok (.iload 5, 2) := by decide +kernel
theorem dX12_readPot_178 : decode cX12_readPot 178 = .ok (.iastore, 1) := by decide +kernel
theorem dX12_readPot_179 : decode cX12_readPot 179 = .ok (.aload_n 0, 1) := by decide +kernel
theorem dX12_readPot_180 : decode cX12_readPot 180 = .ok (.getfield 56, 3) := by decide +kernel
theorem dX12_readPot_183 : decode cX12_readPot 183 = .ok (.iload 7, 2) := by decide +kernel
theorem dX12_readPot_185 : decode cX12_readPot 185 = .ok (.iconst 5, 1) := by decide +kernel
theorem dX12_readPot_186 : decode cX12_readPot 186 = .ok (.iadd, 1) := by decide +kernel
theorem dX12_readPot_187 : decode cX12_readPot 187 = .ok (.iload 6, 2) := by decide +kernel
theorem dX12_readPot_189 : decode cX12_readPot 189 = .ok (.iastore, 1) := by decide +kernel
theorem dX12_readPot_190 : decode cX12_readPot 190 = .ok (.aload_n 0, 1) := by decide +kernel
theorem dX12_readPot_191 : decode cX12_readPot 191 = .ok (.dup, 1) := by decide +kernel
theorem dX12_readPot_192 : decode cX12_readPot 192 = .ok (.getfield 141, 3) := by decide +kernel
theorem dX12_readPot_195 : decode cX12_readPot 195 = .ok (.iconst 1, 1) := by decide +kernel
theorem dX12_readPot_196 : decode cX12_readPot 196 = .ok (.iadd, 1) := by decide +kernel
theorem dX12_readPot_197 : decode cX12_readPot 197 = .ok (.putfield 141, 3) := by decide +kernel
theorem dX12_readPot_200 : decode cX12_readPot 200 = .ok (.iconst 1, 1) := by decide +kernel
theorem dX12_readPot_201 : decode cX12_readPot 201 = .ok (.ireturn, 1) := by decide +kernel
theorem dX12_readPart_0 : decode cX12_readPart 0 = .ok (.aload_n 0, 1) := by decide +kernel
theorem dX12_readPart_1 : decode cX12_readPart 1 = .ok (.getfield 7, 3) := by decide +kernel
theorem dX12_readPart_4 : decode cX12_readPart 4 = .ok (.aload_n 0, 1) := by decide +kernel
theorem dX12_readPart_5 : decode cX12_readPart 5 = .ok (.getfield 125, 3) := by decide +kernel
theorem dX12_readPart_8 : decode cX12_readPart 8 = .ok (.iaload, 1) := by decide +kernel
theorem dX12_readPart_9 : decode cX12_readPart 9 = .ok (.istore_n 1, 1) := by decide +kernel
theorem dX12_readPart_10 : decode cX12_readPart 10 = .ok (.iload_n 1, 1) := by decide +kernel
theorem dX12_readPart_11 : decode cX12_readPart 11 = .ok (.bipush 83, 2) := by decide +kernel
theorem dX12_readPart_13 : decode cX12_readPart 13 = .ok (.if_icmp .ne 33, 3) := by decide +kernel
theorem dX12_readPart_16 : decode cX12_readPart 16 = .ok (.aload_n 0, 1) := by decide +kernel
theorem dX12_readPart_17 : decode cX12_readPart 17 = .ok (.getfield 131, 3) := by decide +kernel
theorem dX12_readPart_20 : decode cX12_readPart 20 = .ok (.iconst 1, 1) := by decide +kernel
theorem dX12_readPart_21 : decode cX12_readPart 21 = .ok (.aload_n 0, 1) := by decide +kernel
theorem dX12_readPart_22 : decode cX12_readPart 22 = .ok (.getfield 128, 3) := by decide +kernel
theorem dX12_readPart_25 : decode cX12_readPart 25 = .ok (.ishl, 1) := by decide +kernel
theorem dX12_readPart_26 : decode cX12_readPart 26 = .ok (.iconst 1, 1) := by decide +kernel
theorem dX12_readPart_27 : decode cX12_readPart 27 = .ok (.isub, 1) := by decide +kernel
theorem dX12_readPart_28 : decode cX12_readPart 28 = .ok (.if_icmp .eq 18, 3) := by decide +kernel
theorem dX12_readPart_31 : decode cX12_readPart 31 = .ok (.aload_n 0, 1) := by decide +kernel
theorem dX12_readPart_32 : decode cX12_readPart 32 = .ok (.dup, 1) := by decide +kernel
theorem dX12_readPart_33 : decode cX12_readPart 33 = .ok (.getfield 125, 3) := by decide +kernel
theorem dX12_readPart_36 : decode cX12_readPart 36 = .ok (.iconst 1, 1) := by decide +kernel
theorem dX12_readPart_37 : decode cX12_readPart 37 = .ok (.iadd, 1) := by decide +kernel
theorem dX12_readPart_38 : decode cX12_readPart 38 = .ok (.putfield 125, 3) := by decide +kernel
theorem dX12_readPart_41 : decode cX12_readPart 41 = .ok (.aload_n 0, 1) := by decide +kernel
theorem dX12_readPart_42 : decode cX12_readPart 42 = .ok (.invokevirtual 144, 3) := by decide +kernel
theorem dX12_readPart_45 : decode cX12_readPart 45 = .ok (.ireturn, 1) := by decide +kernel
theorem dX12_readPart_46 : decode cX12_readPart 46 = .ok (.iload_n 1, 1) := by decide +kernel
theorem dX12_readPart_47 : decode cX12_readPart 47 = .ok (.bipush 80, 2) := by decide +kernel
theorem dX12_readPart_49 : decode cX12_readPart 49 = .ok (.if_icmp .ne 26, 3) := by decide +kernel
theorem dX12_readPart_52 : decode cX12_readPart 52 = .ok (.aload_n 0, 1) := by decide +kernel
theorem dX12_readPart_53 : decode cX12_readPart 53 = .ok (.getfield 141, 3) := by decide +kernel
theorem dX12_readPart_56 : decode cX12_readPart 56 = .ok (.iconst 5, 1) := by decide +kernel
theorem dX12_readPart_57 : decode cX12_readPart 57 = .ok (.if_icmp .ge 18, 3) := by decide +kernel
theorem dX12_readPart_60 : decode cX12_readPart 60 = .ok (.aload_n 0, 1) := by decide +kernel
theorem dX12_readPart_61 : decode cX12_readPart 61 = .ok (.dup, 1) := by decide +kernel
theorem dX12_readPart_62 : decode cX12_readPart 62 = .ok (.getfield 125, 3) := by decide +kernel
theorem dX12_readPart_65 : decode cX12_readPart 65 = .ok (.iconst 1, 1) := by decide +kernel
theorem dX12_readPart_66 : decode cX12_readPart 66 = .ok (.iadd, 1) := by decide +kernel
theorem dX12_readPart_67 : decode cX12_readPart 67 = .ok (.putfield 125, 3) := by decide +kernel
theorem dX12_readPart_70 : decode cX12_readPart 70 = .ok (.aload_n 0, 1) := by decide +kernel
theorem dX12_readPart_71 : decode cX12_readPart 71 = .ok (.invokevirtual 147, 3) := by decide +kernel
theorem dX12_readPart_74 : decode cX12_readPart 74 = .ok (.ireturn, 1) := by decide +kernel
theorem dX12_readPart_75 : decode cX12_readPart 75 = .ok (.iconst 0, 1) := by decide +kernel
theorem dX12_readPart_76 : decode cX12_readPart 76 = .ok (.ireturn, 1) := by decide +kernel
theorem dX12_readTower_0 : decode cX12_readTower 0 = .ok (.aload_n 0, 1) := by decide +kernel
theorem dX12_readTower_1 : decode cX12_readTower 1 = .ok (.iconst 0, 1) := by decide +kernel
theorem dX12_readTower_2 : decode cX12_readTower 2 = .ok (.putfield 125, 3) := by decide +kernel
theorem dX12_readTower_5 : decode cX12_readTower 5 = .ok (.aload_n 0, 1) := by decide +kernel
theorem dX12_readTower_6 : decode cX12_readTower 6 = .ok (.iconst 0, 1) := by decide +kernel
theorem dX12_readTower_7 : decode cX12_readTower 7 = .ok (.putfield 141, 3) := by decide +kernel
theorem dX12_readTower_10 : decode cX12_readTower 10 = .ok (.aload_n 0, 1) := by decide +kernel
theorem dX12_readTower_11 : decode cX12_readTower 11 = .ok (.iconst 0, 1) := by decide +kernel
theorem dX12_readTower_12 : decode cX12_readTower 12 = .ok (.putfield 131, 3) := by decide +kernel
theorem dX12_readTower_15 : decode cX12_readTower 15 = .ok (.iconst 0, 1) := by decide +kernel
theorem dX12_readTower_16 : decode cX12_readTower 16 = .ok (.istore_n 1, 1) := by decide +kernel
theorem dX12_readTower_17 : decode cX12_readTower 17 = .ok (.iload_n 1, 1) := by decide +kernel
theorem dX12_readTower_18 : decode cX12_readTower 18 = .ok (.iconst 5, 1) := by decide +kernel
theorem dX12_readTower_19 : decode cX12_readTower 19 = .ok (.if_icmp .ge 23, 3) := by decide +kernel
theorem dX12_readTower_22 : decode cX12_readTower 22 = .ok (.aload_n 0, 1) := by decide +kernel
theorem dX12_readTower_23 : decode cX12_readTower 23 = .ok (.getfield 50, 3) := by decide +kernel
theorem dX12_readTower_26 : decode cX12_readTower 26 = .ok (.iload_n 1, 1) := by decide +kernel
theorem dX12_readTower_27 : decode cX12_readTower 27 = .ok (.iconst 5, 1) := by decide +kernel
theorem dX12_readTower_28 : decode cX12_readTower 28 = .ok (.iastore, 1) := by decide +kernel
theorem dX12_readTower_29 : decode cX12_readTower 29 = .ok (.aload_n 0, 1) := by decide +kernel
theorem dX12_readTower_30 : decode cX12_readTower 30 = .ok (.getfield 53, 3) := by decide +kernel
theorem dX12_readTower_33 : decode cX12_readTower 33 = .ok (.iload_n 1, 1) := by decide +kernel
theorem dX12_readTower_34 : decode cX12_readTower 34 = .ok (.iconst 0, 1) := by decide +kernel
theorem dX12_readTower_35 : decode cX12_readTower 35 = .ok (.iastore, 1) := by decide +kernel
theorem dX12_readTower_36 : decode cX12_readTower 36 = .ok (.iinc 1 1, 3) := by decide +kernel
theorem dX12_readTower_39 : decode cX12_readTower 39 = .ok (.goto (-22), 3) := by decide +kernel
theorem dX12_readTower_42 : decode cX12_readTower 42 = .ok (.aload_n 0, 1) := by decide +kernel
theorem dX12_readTower_43 : decode cX12_readTower 43 = .ok (.getfield 122, 3) := by decide +kernel
theorem dX12_readTower_46 : decode cX12_readTower 46 = .ok (.ifCond .eq 14, 3) := by decide +kernel
theorem dX12_readTower_49 : decode cX12_readTower 49 = .ok (.aload_n 0, 1) := by decide +kernel
theorem dX12_readTower_50 : decode cX12_readTower 50 = .ok (.getfield 7, 3) := by decide +kernel
theorem dX12_readTower_53 : decode cX12_readTower 53 = .ok (.iconst 0, 1) := by decide +kernel
theorem dX12_readTower_54 : decode cX12_readTower 54 = .ok (.iaload, 1) := by decide +kernel
theorem dX12_readTower_55 : decode cX12_readTower 55 = .ok (.bipush 75, 2) := by decide +kernel
theorem dX12_readTower_57 : decode cX12_readTower 57 = .ok (.if_icmp .eq 5, 3) := by decide +kernel
theorem dX12_readTower_60 : decode cX12_readTower 60 = .ok (.iconst 0, 1) := by decide +kernel
theorem dX12_readTower_61 : decode cX12_readTower 61 = .ok (.ireturn, 1) := by decide +kernel
theorem dX12_readTower_62 : decode cX12_readTower 62 = .ok (.aload_n 0, 1) := by decide +kernel
theorem dX12_readTower_63 : decode cX12_readTower 63 = .ok (.iconst 1, 1) := by decide +kernel
theorem dX12_readTower_64 : decode cX12_readTower 64 = .ok (.putfield 125, 3) := by decide +kernel
theorem dX12_readTower_67 : decode cX12_readTower 67 = .ok (.aload_n 0, 1) := by decide +kernel
theorem dX12_readTower_68 : decode cX12_readTower 68 = .ok (.aload_n 0, 1) := by decide +kernel
theorem dX12_readTower_69 : decode cX12_readTower 69 = .ok (.iconst 2, 1) := by decide +kernel
theorem dX12_readTower_70 : decode cX12_readTower 70 = .ok (.iconst 5, 1) := by decide +kernel
theorem dX12_readTower_71 : decode cX12_readTower 71 = .ok (.invokevirtual 137, 3) := by decide +kernel
theorem dX12_readTower_74 : decode cX12_readTower 74 = .ok (.putfield 128, 3) := by decide +kernel
theorem dX12_readTower_77 : decode cX12_readTower 77 = .ok (.aload_n 0, 1) := by decide +kernel
theorem dX12_readTower_78 : decode cX12_readTower 78 = .ok (.getfield 128, 3) := by decide +kernel
theorem dX12_readTower_81 : decode cX12_readTower 81 = .ok (.bipush (-9), 2) := by decide +kernel
theorem dX12_readTower_83 : decode cX12_readTower 83 = .ok (.if_icmp .ne 5, 3) := by decide +kernel
theorem dX12_readTower_86 : decode cX12_readTower 86 = .ok (.iconst 1, 1) := by decide +kernel
theorem dX12_readTower_87 : decode cX12_readTower 87 = .ok (.ireturn, 1) := by decide +kernel
theorem dX12_readTower_88 : decode cX12_readTower 88 = .ok (.aload_n 0, 1) := by decide +kernel
theorem dX12_readTower_89 : decode cX12_readTower 89 = .ok (.getfield 125, 3) := by decide +kernel
theorem dX12_readTower_92 : decode cX12_readTower 92 = .ok (.aload_n 0, 1) := by decide +kernel
theorem dX12_readTower_93 : decode cX12_readTower 93 = .ok (.getfield 122, 3) := by decide +kernel
theorem dX12_readTower_96 : decode cX12_readTower 96 = .ok (.if_icmp .ge 15, 3) := by decide +kernel
theorem dX12_readTower_99 : decode cX12_readTower 99 = .ok (.aload_n 0, 1) := by decide +kernel
theorem dX12_readTower_100 : decode cX12_readTower 100 = .ok (.invokevirtual 149, 3) := by decide +kernel
theorem dX12_readTower_103 : decode cX12_readTower 103 = .ok (.ifCond .ne (-15), 3) := by decide +kernel
theorem dX12_readTower_106 : decode cX12_readTower 106 = .ok (.aload_n 0, 1) := by decide +kernel
theorem dX12_readTower_107 : decode cX12_readTower 107 = .ok (.getfield 125, 3) := by decide +kernel
theorem dX12_readTower_110 : decode cX12_readTower 110 = .ok (.ireturn, 1) := by decide +kernel
theorem dX12_readTower_111 : decode cX12_readTower 111 = .ok (.bipush (-9), 2) := by decide +kernel
theorem dX12_readTower_113 : decode cX12_readTower 113 = .ok (.ireturn, 1) := by decide +kernel
theorem dX12_fault_0 : decode cX12_fault 0 = .ok (.aload_n 0, 1) := by decide +kernel
theorem dX12_fault_1 : decode cX12_fault 1 = .ok (.iconst 0, 1) := by decide +kernel
theorem dX12_fault_2 : decode cX12_fault 2 = .ok (.putfield 108, 3) := by decide +kernel
theorem dX12_fault_5 : decode cX12_fault 5 = .ok (.aload_n 0, 1) := by decide +kernel
theorem dX12_fault_6 : decode cX12_fault 6 = .ok (.invokevirtual 152, 3) := by decide +kernel
theorem dX12_fault_9 : decode cX12_fault 9 = .ok (.ireturn, 1) := by decide +kernel
theorem dX12_tower_0 : decode cX12_tower 0 = .ok (.aload_n 0, 1) := by decide +kernel
theorem dX12_tower_1 : decode cX12_tower 1 = .ok (.iconst 0, 1) := by decide +kernel
theorem dX12_tower_2 : decode cX12_tower 2 = .ok (.putfield 108, 3) := by decide +kernel
theorem dX12_tower_5 : decode cX12_tower 5 = .ok (.aload_n 0, 1) := by decide +kernel
theorem dX12_tower_6 : decode cX12_tower 6 = .ok (.invokevirtual 152, 3) := by decide +kernel
theorem dX12_tower_9 : decode cX12_tower 9 = .ok (.bipush (-9), 2) := by decide +kernel
theorem dX12_tower_11 : decode cX12_tower 11 = .ok (.if_icmp .eq 6, 3) := by decide +kernel
theorem dX12_tower_14 : decode cX12_tower 14 = .ok (.bipush (-3), 2) := by decide +kernel
theorem dX12_tower_16 : decode cX12_tower 16 = .ok (.ireturn, 1) := by decide +kernel
theorem dX12_tower_17 : decode cX12_tower 17 = .ok (.aload_n 0, 1) := by decide +kernel
theorem dX12_tower_18 : decode cX12_tower 18 = .ok (.aload_n 0, 1) := by decide +kernel
theorem dX12_tower_19 : decode cX12_tower 19 = .ok (.getfield 128, 3) := by decide +kernel
theorem dX12_tower_22 : decode cX12_tower 22 = .ok (.putfield 13, 3) := by decide +kernel
theorem dX12_tower_25 : decode cX12_tower 25 = .ok (.aload_n 0, 1) := by decide +kernel
theorem dX12_tower_26 : decode cX12_tower 26 = .ok (.aload_n 0, 1) := by decide +kernel
theorem dX12_tower_27 : decode cX12_tower 27 = .ok (.getfield 141, 3) := by decide +kernel
theorem dX12_tower_30 : decode cX12_tower 30 = .ok (.putfield 115, 3) := by decide +kernel
theorem dX12_tower_33 : decode cX12_tower 33 = .ok (.iconst 0, 1) := by decide +kernel
theorem dX12_tower_34 : decode cX12_tower 34 = .ok (.istore_n 1, 1) := by decide +kernel
theorem dX12_tower_35 : decode cX12_tower 35 = .ok (.iload_n 1, 1) := by decide +kernel
theorem dX12_tower_36 : decode cX12_tower 36 = .ok (.iconst 5, 1) := by decide +kernel
theorem dX12_tower_37 : decode cX12_tower 37 = .ok (.if_icmp .ge 40, 3) := by decide +kernel
theorem dX12_tower_40 : decode cX12_tower 40 = .ok (.aload_n 0, 1) := by decide +kernel
theorem dX12_tower_41 : decode cX12_tower 41 = .ok (.getfield 17, 3) := by decide +kernel
theorem dX12_tower_44 : decode cX12_tower 44 = .ok (.iload_n 1, 1) := by decide +kernel
theorem dX12_tower_45 : decode cX12_tower 45 = .ok (.aload_n 0, 1) := by decide +kernel
theorem dX12_tower_46 : decode cX12_tower 46 = .ok (.getfield 50, 3) := by decide +kernel
theorem dX12_tower_49 : decode cX12_tower 49 = .ok (.iload_n 1, 1) := by decide +kernel
theorem dX12_tower_50 : decode cX12_tower 50 = .ok (.iaload, 1) := by decide +kernel
theorem dX12_tower_51 : decode cX12_tower 51 = .ok (.iastore, 1) := by decide +kernel
theorem dX12_tower_52 : decode cX12_tower 52 = .ok (.aload_n 0, 1) := by decide +kernel
theorem dX12_tower_53 : decode cX12_tower 53 = .ok (.getfield 20, 3) := by decide +kernel
theorem dX12_tower_56 : decode cX12_tower 56 = .ok (.iload_n 1, 1) := by decide +kernel
theorem dX12_tower_57 : decode cX12_tower 57 = .ok (.aload_n 0, 1) := by decide +kernel
theorem dX12_tower_58 : decode cX12_tower 58 = .ok (.getfield 53, 3) := by decide +kernel
theorem dX12_tower_61 : decode cX12_tower 61 = .ok (.iload_n 1, 1) := by decide +kernel
theorem dX12_tower_62 : decode cX12_tower 62 = .ok (.iaload, 1) := by decide +kernel
theorem dX12_tower_63 : decode cX12_tower 63 = .ok (.iastore, 1) := by decide +kernel
theorem dX12_tower_64 : decode cX12_tower 64 = .ok (.aload_n 0, 1) := by decide +kernel
theorem dX12_tower_65 : decode cX12_tower 65 = .ok (.getfield 23, 3) := by decide +kernel
theorem dX12_tower_68 : decode cX12_tower 68 = .ok (.iload_n 1, 1) := by decide +kernel
theorem dX12_tower_69 : decode cX12_tower 69 = .ok (.iconst 0, 1) := by decide +kernel
theorem dX12_tower_70 : decode cX12_tower 70 = .ok (.iastore, 1) := by decide +kernel
theorem dX12_tower_71 : decode cX12_tower 71 = .ok (.iinc 1 1, 3) := by decide +kernel
theorem dX12_tower_74 : decode cX12_tower 74 = .ok (.goto (-39), 3) := by decide +kernel
theorem dX12_tower_77 : decode cX12_tower 77 = .ok (.iconst 0, 1) := by decide +kernel
theorem dX12_tower_78 : decode cX12_tower 78 = .ok (.istore_n 1, 1) := by decide +kernel
theorem dX12_tower_79 : decode cX12_tower 79 = .ok (.iload_n 1, 1) := by decide +kernel
theorem dX12_tower_80 : decode cX12_tower 80 = .ok (.aload_n 0, 1) := by decide +kernel
theorem dX12_tower_81 : decode cX12_tower 81 = .ok (.getfield 115, 3) := by decide +kernel
theorem dX12_tower_84 : decode cX12_tower 84 = .ok (.if_icmp .ge 123, 3) := by decide +kernel
theorem dX12_tower_87 : decode cX12_tower 87 = .ok (.aload_n 0, 1) := by decide +kernel
theorem dX12_tower_88 : decode cX12_tower 88 = .ok (.getfield 26, 3) := by decide +kernel
theorem dX12_tower_91 : decode cX12_tower 91 = .ok (.iload_n 1, 1) := by decide +kernel
theorem dX12_tower_92 : decode cX12_tower 92 = .ok (.aload_n 0, 1) := by decide +kernel
theorem dX12_tower_93 : decode cX12_tower 93 = .ok (.getfield 56, 3) := by decide +kernel
theorem dX12_tower_96 : decode cX12_tower 96 = .ok (.bipush 6, 2) := by decide +kernel
theorem dX12_tower_98 : decode cX12_tower 98 = .ok (.iload_n 1, 1) := by decide +kernel
theorem dX12_tower_99 : decode cX12_tower 99 = .ok (.imul, 1) := by decide +kernel
theorem dX12_tower_100 : decode cX12_tower 100 = .ok (.iaload, 1) := by decide +kernel
theorem dX12_tower_101 : decode cX12_tower 101 = .ok (.iastore, 1) := by decide +kernel
theorem dX12_tower_102 : decode cX12_tower 102 = .ok (.aload_n 0, 1) := by decide +kernel
theorem dX12_tower_103 : decode cX12_tower 103 = .ok (.getfield 29, 3) := by decide +kernel
theorem dX12_tower_106 : decode cX12_tower 106 = .ok (.iload_n 1, 1) := by decide +kernel
theorem dX12_tower_107 : decode cX12_tower 107 = .ok (.aload_n 0, 1) := by decide +kernel
theorem dX12_tower_108 : decode cX12_tower 108 = .ok (.getfield 56, 3) := by decide +kernel
theorem dX12_tower_111 : decode cX12_tower 111 = .ok (.bipush 6, 2) := by decide +kernel
theorem dX12_tower_113 : decode cX12_tower 113 = .ok (.iload_n 1, 1) := by decide +kernel
theorem dX12_tower_114 : decode cX12_tower 114 = .ok (.imul, 1) := by decide +kernel
theorem dX12_tower_115 : decode cX12_tower 115 = .ok (.iconst 1, 1) := by decide +kernel
theorem dX12_tower_116 : decode cX12_tower 116 = .ok (.iadd, 1) := by decide +kernel
theorem dX12_tower_117 : decode cX12_tower 117 = .ok (.iaload, 1) := by decide +kernel
theorem dX12_tower_118 : decode cX12_tower 118 = .ok (.iastore, 1) := by decide +kernel
theorem dX12_tower_119 : decode cX12_tower 119 = .ok (.aload_n 0, 1) := by decide +kernel
theorem dX12_tower_120 : decode cX12_tower 120 = .ok (.getfield 32, 3) := by decide +kernel
theorem dX12_tower_123 : decode cX12_tower 123 = .ok (.iload_n 1, 1) := by decide +kernel
theorem dX12_tower_124 : decode cX12_tower 124 = .ok (.aload_n 0, 1) := by decide +kernel
theorem dX12_tower_125 : decode cX12_tower 125 = .ok (.getfield 56, 3) := by decide +kernel
theorem dX12_tower_128 : decode cX12_tower 128 = .ok (.bipush 6, 2) := by decide +kernel
theorem dX12_tower_130 : decode cX12_tower 130 = .ok (.iload_n 1, 1) := by decide +kernel
theorem dX12_tower_131 : decode cX12_tower 131 = .ok (.imul, 1) := by decide +kernel
theorem dX12_tower_132 : decode cX12_tower 132 = .ok (.iconst 2, 1) := by decide +kernel
theorem dX12_tower_133 : decode cX12_tower 133 = .ok (.iadd, 1) := by decide +kernel
theorem dX12_tower_134 : decode cX12_tower 134 = .ok (.iaload, 1) := by decide +kernel
theorem dX12_tower_135 : decode cX12_tower 135 = .ok (.iastore, 1) := by decide +kernel
theorem dX12_tower_136 : decode cX12_tower 136 = .ok (.aload_n 0, 1) := by decide +kernel
theorem dX12_tower_137 : decode cX12_tower 137 = .ok (.getfield 35, 3) := by decide +kernel
theorem dX12_tower_140 : decode cX12_tower 140 = .ok (.iload_n 1, 1) := by decide +kernel
theorem dX12_tower_141 : decode cX12_tower 141 = .ok (.aload_n 0, 1) := by decide +kernel
theorem dX12_tower_142 : decode cX12_tower 142 = .ok (.getfield 56, 3) := by decide +kernel
theorem dX12_tower_145 : decode cX12_tower 145 = .ok (.bipush 6, 2) := by decide +kernel
theorem dX12_tower_147 : decode cX12_tower 147 = .ok (.iload_n 1, 1) := by decide +kernel
theorem dX12_tower_148 : decode cX12_tower 148 = .ok (.imul, 1) := by decide +kernel
theorem dX12_tower_149 : decode cX12_tower 149 = .ok (.iconst 3, 1) := by decide +kernel
theorem dX12_tower_150 : decode cX12_tower 150 = .ok (.iadd, 1) := by decide +kernel
theorem dX12_tower_151 : decode cX12_tower 151 = .ok (.iaload, 1) := by decide +kernel
theorem dX12_tower_152 : decode cX12_tower 152 = .ok (.iastore, 1) := by decide +kernel
theorem dX12_tower_153 : decode cX12_tower 153 = .ok (.aload_n 0, 1) := by decide +kernel
theorem dX12_tower_154 : decode cX12_tower 154 = .ok (.getfield 38, 3) := by decide +kernel
theorem dX12_tower_157 : decode cX12_tower 157 = .ok (.iload_n 1, 1) := by decide +kernel
theorem dX12_tower_158 : decode cX12_tower 158 = .ok (.aload_n 0, 1) := by decide +kernel
theorem dX12_tower_159 : decode cX12_tower 159 = .ok (.getfield 56, 3) := by decide +kernel
theorem dX12_tower_162 : decode cX12_tower 162 = .ok (.bipush 6, 2) := by decide +kernel
theorem dX12_tower_164 : decode cX12_tower 164 = .ok (.iload_n 1, 1) := by decide +kernel
theorem dX12_tower_165 : decode cX12_tower 165 = .ok (.imul, 1) := by decide +kernel
theorem dX12_tower_166 : decode cX12_tower 166 = .ok (.iconst 4, 1) := by decide +kernel
theorem dX12_tower_167 : decode cX12_tower 167 = .ok (.iadd, 1) := by decide +kernel
theorem dX12_tower_168 : decode cX12_tower 168 = .ok (.iaload, 1) := by decide +kernel
theorem dX12_tower_169 : decode cX12_tower 169 = .ok (.iastore, 1) := by decide +kernel
theorem dX12_tower_170 : decode cX12_tower 170 = .ok (.aload_n 0, 1) := by decide +kernel
theorem dX12_tower_171 : decode cX12_tower 171 = .ok (.getfield 41, 3) := by decide +kernel
theorem dX12_tower_174 : decode cX12_tower 174 = .ok (.iload_n 1, 1) := by decide +kernel
theorem dX12_tower_175 : decode cX12_tower 175 = .ok (.aload_n 0, 1) := by decide +kernel
theorem dX12_tower_176 : decode cX12_tower 176 = .ok (.getfield 56, 3) := by decide +kernel
theorem dX12_tower_179 : decode cX12_tower 179 = .ok (.bipush 6, 2) := by decide +kernel
theorem dX12_tower_181 : decode cX12_tower 181 = .ok (.iload_n 1, 1) := by decide +kernel
theorem dX12_tower_182 : decode cX12_tower 182 = .ok (.imul, 1) := by decide +kernel
theorem dX12_tower_183 : decode cX12_tower 183 = .ok (.iconst 5, 1) := by decide +kernel
theorem dX12_tower_184 : decode cX12_tower 184 = .ok (.iadd, 1) := by decide +kernel
theorem dX12_tower_185 : decode cX12_tower 185 = .ok (.iaload, 1) := by decide +kernel
theorem dX12_tower_186 : decode cX12_tower 186 = .ok (.iastore, 1) := by decide +kernel
theorem dX12_tower_187 : decode cX12_tower 187 = .ok (.aload_n 0, 1) := by decide +kernel
theorem dX12_tower_188 : decode cX12_tower 188 = .ok (.getfield 44, 3) := by decide +kernel
theorem dX12_tower_191 : decode cX12_tower 191 = .ok (.iload_n 1, 1) := by decide +kernel
theorem dX12_tower_192 : decode cX12_tower 192 = .ok (.iconst 0, 1) := by decide +kernel
theorem dX12_tower_193 : decode cX12_tower 193 = .ok (.iastore, 1) := by decide +kernel
theorem dX12_tower_194 : decode cX12_tower 194 = .ok (.aload_n 0, 1) := by decide +kernel
theorem dX12_tower_195 : decode cX12_tower 195 = .ok (.getfield 47, 3) := by decide +kernel
theorem dX12_tower_198 : decode cX12_tower 198 = .ok (.iload_n 1, 1) := by decide +kernel
theorem dX12_tower_199 : decode cX12_tower 199 = .ok (.iconst 0, 1) := by decide +kernel
theorem dX12_tower_200 : decode cX12_tower 200 = .ok (.iastore, 1) := by decide +kernel
theorem dX12_tower_201 : decode cX12_tower 201 = .ok (.iinc 1 1, 3) := by decide +kernel
theorem dX12_tower_204 : decode cX12_tower 204 = .ok (.goto (-125), 3) := by decide +kernel
theorem dX12_tower_207 : decode cX12_tower 207 = .ok (.aload_n 0, 1) := by decide +kernel
theorem dX12_tower_208 : decode cX12_tower 208 = .ok (.iconst 0, 1) := by decide +kernel
theorem dX12_tower_209 : decode cX12_tower 209 = .ok (.putfield 156, 3) := by decide +kernel
theorem dX12_tower_212 : decode cX12_tower 212 = .ok (.aload_n 0, 1) := by decide +kernel
theorem dX12_tower_213 : decode cX12_tower 213 = .ok (.iconst 0, 1) := by decide +kernel
theorem dX12_tower_214 : decode cX12_tower 214 = .ok (.putfield 159, 3) := by decide +kernel
theorem dX12_tower_217 : decode cX12_tower 217 = .ok (.aload_n 0, 1) := by decide +kernel
theorem dX12_tower_218 : decode cX12_tower 218 = .ok (.getfield 65, 3) := by decide +kernel
theorem dX12_tower_221 : decode cX12_tower 221 = .ok (.iconst 0, 1) := by decide +kernel
theorem dX12_tower_222 : decode cX12_tower 222 = .ok (.iconst 0, 1) := by decide +kernel
theorem dX12_tower_223 : decode cX12_tower 223 = .ok (.bastore, 1) := by decide +kernel
theorem dX12_tower_224 : decode cX12_tower 224 = .ok (.aload_n 0, 1) := by decide +kernel
theorem dX12_tower_225 : decode cX12_tower 225 = .ok (.getfield 65, 3) := by decide +kernel
theorem dX12_tower_228 : decode cX12_tower 228 = .ok (.iconst 1, 1) := by decide +kernel
theorem dX12_tower_229 : decode cX12_tower 229 = .ok (.iconst 0, 1) := by decide +kernel
theorem dX12_tower_230 : decode cX12_tower 230 = .ok (.bastore, 1) := by decide +kernel
theorem dX12_tower_231 : decode cX12_tower 231 = .ok (.aload_n 0, 1) := by decide +kernel
theorem dX12_tower_232 : decode cX12_tower 232 = .ok (.getfield 13, 3) := by decide +kernel
theorem dX12_tower_235 : decode cX12_tower 235 = .ok (.ireturn, 1) := by decide +kernel
theorem dX12_allHeat_0 : decode cX12_allHeat 0 = .ok (.iconst 0, 1) := by decide +kernel
theorem dX12_allHeat_1 : decode cX12_allHeat 1 = .ok (.istore_n 1, 1) := by decide +kernel
theorem dX12_allHeat_2 : decode cX12_allHeat 2 = .ok (.iconst 0, 1) := by decide +kernel
theorem dX12_allHeat_3 : decode cX12_allHeat 3 = .ok (.istore_n 2, 1) := by decide +kernel
theorem dX12_allHeat_4 : decode cX12_allHeat 4 = .ok (.iload_n 2, 1) := by decide +kernel
theorem dX12_allHeat_5 : decode cX12_allHeat 5 = .ok (.aload_n 0, 1) := by decide +kernel
theorem dX12_allHeat_6 : decode cX12_allHeat 6 = .ok (.getfield 13, 3) := by decide +kernel
theorem dX12_allHeat_9 : decode cX12_allHeat 9 = .ok (.if_icmp .ge 18, 3) := by decide +kernel
theorem dX12_allHeat_12 : decode cX12_allHeat 12 = .ok (.iload_n 1, 1) := by decide +kernel
theorem dX12_allHeat_13 : decode cX12_allHeat 13 = .ok (.aload_n 0, 1) := by decide +kernel
theorem dX12_allHeat_14 : decode cX12_allHeat 14 = .ok (.getfield 23, 3) := by decide +kernel
theorem dX12_allHeat_17 : decode cX12_allHeat 17 = .ok (.iload_n 2, 1) := by decide +kernel
theorem dX12_allHeat_18 : decode cX12_allHeat 18 = .ok (.iaload, 1) := by decide +kernel
theorem dX12_allHeat_19 : decode cX12_allHeat 19 = .ok (.iadd, 1) := by decide +kernel
theorem dX12_allHeat_20 : decode cX12_allHeat 20 = .ok (.istore_n 1, 1) := by decide +kernel
theorem dX12_allHeat_21 : decode cX12_allHeat 21 = .ok (.iinc 2 1, 3) := by decide +kernel
theorem dX12_allHeat_24 : decode cX12_allHeat 24 = .ok (.goto (-20), 3) := by decide +kernel
theorem dX12_allHeat_27 : decode cX12_allHeat 27 = .ok (.iload_n 1, 1) := by decide +kernel
theorem dX12_allHeat_28 : decode cX12_allHeat 28 = .ok (.ireturn, 1) := by decide +kernel
theorem dX12_countHow_0 : decode cX12_countHow 0 = .ok (.iconst 0, 1) := by decide +kernel
theorem dX12_countHow_1 : decode cX12_countHow 1 = .ok (.istore_n 2, 1) := by decide +kernel
theorem dX12_countHow_2 : decode cX12_countHow 2 = .ok (.iconst 0, 1) := by decide +kernel
theorem dX12_countHow_3 : decode cX12_countHow 3 = .ok (.istore_n 3, 1) := by decide +kernel
theorem dX12_countHow_4 : decode cX12_countHow 4 = .ok (.iload_n 3, 1) := by decide +kernel
theorem dX12_countHow_5 : decode cX12_countHow 5 = .ok (.aload_n 0, 1) := by decide +kernel
theorem dX12_countHow_6 : decode cX12_countHow 6 = .ok (.getfield 115, 3) := by decide +kernel
theorem dX12_countHow_9 : decode cX12_countHow 9 = .ok (.if_icmp .ge 27, 3) := by decide +kernel
theorem dX12_countHow_12 : decode cX12_countHow 12 = .ok (.iload_n 2, 1) := by decide +kernel
theorem dX12_countHow_13 : decode cX12_countHow 13 = .ok (.aload_n 0, 1) := by decide +kernel
theorem dX12_countHow_14 : decode cX12_countHow 14 = .ok (.getfield 47, 3) := by decide +kernel
theorem dX12_countHow_17 : decode cX12_countHow 17 = .ok (.iload_n 3, 1) := by decide +kernel
theorem dX12_countHow_18 : decode cX12_countHow 18 = .ok (.iaload, 1) := by decide +kernel
theorem dX12_countHow_19 : decode cX12_countHow 19 = .ok (.iload_n 1, 1) := by decide +kernel
theorem dX12_countHow_20 : decode cX12_countHow 20 = .ok (.if_icmp .ne 7, 3) := by decide +kernel
theorem dX12_countHow_23 : decode cX12_countHow 23 = .ok (.iconst 1, 1) := by decide +kernel
theorem dX12_countHow_24 : decode cX12_countHow 24 = .ok (.goto 4, 3) := by decide +kernel
theorem dX12_countHow_27 : decode cX12_countHow 27 = .ok (.iconst 0, 1) := by decide +kernel
theorem dX12_countHow_28 : decode cX12_countHow 28 = .ok (.iadd, 1) := by decide +kernel
theorem dX12_countHow_29 : decode cX12_countHow 29 = .ok (.istore_n 2, 1) := by decide +kernel
theorem dX12_countHow_30 : decode cX12_countHow 30 = .ok (.iinc 3 1, 3) := by decide +kernel
theorem dX12_countHow_33 : decode cX12_countHow 33 = .ok (.goto (-29), 3) := by decide +kernel
theorem dX12_countHow_36 : decode cX12_countHow 36 = .ok (.iload_n 2, 1) := by decide +kernel
theorem dX12_countHow_37 : decode cX12_countHow 37 = .ok (.ireturn, 1) := by decide +kernel
theorem dX12_about_0 : decode cX12_about 0 = .ok (.aload_n 0, 1) := by decide +kernel
theorem dX12_about_1 : decode cX12_about 1 = .ok (.iconst 0, 1) := by decide +kernel
theorem dX12_about_2 : decode cX12_about 2 = .ok (.putfield 108, 3) := by decide +kernel
theorem dX12_about_5 : decode cX12_about 5 = .ok (.iload_n 1, 1) := by decide +kernel
theorem dX12_about_6 : decode cX12_about 6 = .ok (.tableswitch 107 0 9 #[54, 59, 64, 69, 74, 79, 85, 91, 97, 102], 54) := by decide +kernel
theorem dX12_about_60 : decode cX12_about 60 = .ok (.aload_n 0, 1) := by decide +kernel
theorem dX12_about_61 : decode cX12_about 61 = .ok (.getfield 13, 3) := by decide +kernel
theorem dX12_about_64 : decode cX12_about 64 = .ok (.ireturn, 1) := by decide +kernel
theorem dX12_about_65 : decode cX12_about 65 = .ok (.aload_n 0, 1) := by decide +kernel
theorem dX12_about_66 : decode cX12_about 66 = .ok (.getfield 115, 3) := by decide +kernel
theorem dX12_about_69 : decode cX12_about 69 = .ok (.ireturn, 1) := by decide +kernel
theorem dX12_about_70 : decode cX12_about 70 = .ok (.aload_n 0, 1) := by decide +kernel
theorem dX12_about_71 : decode cX12_about 71 = .ok (.getfield 159, 3) := by decide +kernel
theorem dX12_about_74 : decode cX12_about 74 = .ok (.ireturn, 1) := by decide +kernel
theorem dX12_about_75 : decode cX12_about 75 = .ok (.aload_n 0, 1) := by decide +kernel
theorem dX12_about_76 : decode cX12_about 76 = .ok (.invokevirtual 162, 3) := by decide +kernel
theorem dX12_about_79 : decode cX12_about 79 = .ok (.ireturn, 1) := by decide +kernel
theorem dX12_about_80 : decode cX12_about 80 = .ok (.aload_n 0, 1) := by decide +kernel
theorem dX12_about_81 : decode cX12_about 81 = .ok (.getfield 156, 3) := by decide +kernel
theorem dX12_about_84 : decode cX12_about 84 = .ok (.ireturn, 1) := by decide +kernel
theorem dX12_about_85 : decode cX12_about 85 = .ok (.aload_n 0, 1) := by decide +kernel
theorem dX12_about_86 : decode cX12_about 86 = .ok (.iconst 1, 1) := by decide +kernel
theorem dX12_about_87 : decode cX12_about 87 = .ok (.invokevirtual 165, 3) := by decide +kernel
theorem dX12_about_90 : decode cX12_about 90 = .ok (.ireturn, 1) := by decide +kernel
theorem dX12_about_91 : decode cX12_about 91 = .ok (.aload_n 0, 1) := by decide +kernel
theorem dX12_about_92 : decode cX12_about 92 = .ok (.iconst 2, 1) := by decide +kernel
theorem dX12_about_93 : decode cX12_about 93 = .ok (.invokevirtual 165, 3) := by decide +kernel
theorem dX12_about_96 : decode cX12_about 96 = .ok (.ireturn, 1) := by decide +kernel
theorem dX12_about_97 : decode cX12_about 97 = .ok (.aload_n 0, 1) := by decide +kernel
theorem dX12_about_98 : decode cX12_about 98 = .ok (.iconst 3, 1) := by decide +kernel
theorem dX12_about_99 : decode cX12_about 99 = .ok (.invokevirtual 165, 3) := by decide +kernel
theorem dX12_about_102 : decode cX12_about 102 = .ok (.ireturn, 1) := by decide +kernel
theorem dX12_about_103 : decode cX12_about 103 = .ok (.aload_n 0, 1) := by decide +kernel
theorem dX12_about_104 : decode cX12_about 104 = .ok (.getfield 169, 3) := by decide +kernel
theorem dX12_about_107 : decode cX12_about 107 = .ok (.ireturn, 1) := by decide +kernel
theorem dX12_about_108 : decode cX12_about 108 = .ok (.aload_n 0, 1) := by decide +kernel
theorem dX12_about_109 : decode cX12_about 109 = .ok (.getfield 122, 3) := by decide +kernel
theorem dX12_about_112 : decode cX12_about 112 = .ok (.ireturn, 1) := by decide +kernel
theorem dX12_about_113 : decode cX12_about 113 = .ok (.bipush (-2), 2) := by decide +kernel
theorem dX12_about_115 : decode cX12_about 115 = .ok (.ireturn, 1) := by decide +kernel
theorem dX12_kiln_0 : decode cX12_kiln 0 = .ok (.aload_n 0, 1) := by decide +kernel
theorem dX12_kiln_1 : decode cX12_kiln 1 = .ok (.iconst 0, 1) := by decide +kernel
theorem dX12_kiln_2 : decode cX12_kiln 2 = .ok (.putfield 108, 3) := by decide +kernel
theorem dX12_kiln_5 : decode cX12_kiln 5 = .ok (.aload_n 0, 1) := by decide +kernel
theorem dX12_kiln_6 : decode cX12_kiln 6 = .ok (.iload_n 1, 1) := by decide +kernel
theorem dX12_kiln_7 : decode cX12_kiln 7 = .ok (.invokevirtual 172, 3) := by decide +kernel
theorem dX12_kiln_10 : decode cX12_kiln 10 = .ok (.ifCond .eq 5, 3) := by decide +kernel
theorem dX12_kiln_13 : decode cX12_kiln 13 = .ok (.iconst (-1), 1) := by decide +kernel
theorem dX12_kiln_14 : decode cX12_kiln 14 = .ok (.ireturn, 1) := by decide +kernel
theorem dX12_kiln_15 : decode cX12_kiln 15 = .ok (.iconst 0, 1) := by decide +kernel
theorem dX12_kiln_16 : decode cX12_kiln 16 = .ok (.istore_n 3, 1) := by decide +kernel
theorem dX12_kiln_17 : decode cX12_kiln 17 = .ok (.iconst 0, 1) := by decide +kernel
theorem dX12_kiln_18 : decode cX12_kiln 18 = .ok (.istore 4, 2) := by decide +kernel
theorem dX12_kiln_20 : decode cX12_kiln 20 = .ok (.iload 4, 2) := by decide +kernel
theorem dX12_kiln_22 : decode cX12_kiln 22 = .ok (.aload_n 0, 1) := by decide +kernel
theorem dX12_kiln_23 : decode cX12_kiln 23 = .ok (.getfield 115, 3) := by decide +kernel
theorem dX12_kiln_26 : decode cX12_kiln 26 = .ok (.if_icmp .ge 31, 3) := by decide +kernel
theorem dX12_kiln_29 : decode cX12_kiln 29 = .ok (.iload_n 3, 1) := by decide +kernel
theorem dX12_kiln_30 : decode cX12_kiln 30 = .ok (.aload_n 0, 1) := by decide +kernel
theorem dX12_kiln_31 : decode cX12_kiln 31 = .ok (.getfield 26, 3) := by decide +kernel
theorem dX12_kiln_34 : decode cX12_kiln 34 = .ok (.iload 4, 2) := by decide +kernel
theorem dX12_kiln_36 : decode cX12_kiln 36 = .ok (.iaload, 1) := by decide +kernel
theorem dX12_kiln_37 : decode cX12_kiln 37 = .ok (.iload_n 1, 1) := by decide +kernel
theorem dX12_kiln_38 : decode cX12_kiln 38 = .ok (.if_icmp .ne 10, 3) := by decide +kernel
theorem dX12_kiln_41 : decode cX12_kiln 41 = .ok (.iconst 1, 1) := by decide +kernel
theorem dX12_kiln_42 : decode cX12_kiln 42 = .ok (.iload 4, 2) := by decide +kernel
theorem dX12_kiln_44 : decode cX12_kiln 44 = .ok (.ishl, 1) := by decide +kernel
theorem dX12_kiln_45 : decode cX12_kiln 45 = .ok (.goto 4, 3) := by decide +kernel
theorem dX12_kiln_48 : decode cX12_kiln 48 = .ok (.iconst 0, 1) := by decide +kernel
theorem dX12_kiln_49 : decode cX12_kiln 49 = .ok (.ior, 1) := by decide +kernel
theorem dX12_kiln_50 : decode cX12_kiln 50 = .ok (.istore_n 3, 1) := by decide +kernel
theorem dX12_kiln_51 : decode cX12_kiln 51 = .ok (.iinc 4 1, 3) := by decide +kernel
theorem dX12_kiln_54 : decode cX12_kiln 54 = .ok (.goto (-34), 3) := by decide +kernel
theorem dX12_kiln_57 : decode cX12_kiln 57 = .ok (.iload_n 2, 1) := by decide +kernel
theorem dX12_kiln_58 : decode cX12_kiln 58 = .ok (.ifCond .ne 12, 3) := by decide +kernel
theorem dX12_kiln_61 : decode cX12_kiln 61 = .ok (.aload_n 0, 1) := by decide +kernel
theorem dX12_kiln_62 : decode cX12_kiln 62 = .ok (.getfield 23, 3) := by decide +kernel
theorem dX12_kiln_65 : decode cX12_kiln 65 = .ok (.iload_n 1, 1) := by decide +kernel
theorem dX12_kiln_66 : decode cX12_kiln 66 = .ok (.iaload, 1) := by decide +kernel
theorem dX12_kiln_67 : decode cX12_kiln 67 = .ok (.goto 42, 3) := by decide +kernel
theorem dX12_kiln_70 : decode cX12_kiln 70 = .ok (.iload_n 2, 1) := by decide +kernel
theorem dX12_kiln_71 : decode cX12_kiln 71 = .ok (.iconst 1, 1) := by decide +kernel
theorem dX12_kiln_72 : decode cX12_kiln 72 = .ok (.if_icmp .ne 12, 3) := by decide +kernel
theorem dX12_kiln_75 : decode cX12_kiln 75 = .ok (.aload_n 0, 1) := by decide +kernel
theorem dX12_kiln_76 : decode cX12_kiln 76 = .ok (.getfield 17, 3) := by decide +kernel
theorem dX12_kiln_79 : decode cX12_kiln 79 = .ok (.iload_n 1, 1) := by decide +kernel
theorem dX12_kiln_80 : decode cX12_kiln 80 = .ok (.iaload, 1) := by decide +kernel
theorem dX12_kiln_81 : decode cX12_kiln 81 = .ok (.goto 28, 3) := by decide +kernel
theorem dX12_kiln_84 : decode cX12_kiln 84 = .ok (.iload_n 2, 1) := by decide +kernel
theorem dX12_kiln_85 : decode cX12_kiln 85 = .ok (.iconst 2, 1) := by decide +kernel
theorem dX12_kiln_86 : decode cX12_kiln 86 = .ok (.if_icmp .ne 12, 3) := by decide +kernel
theorem dX12_kiln_89 : decode cX12_kiln 89 = .ok (.aload_n 0, 1) := by decide +kernel
theorem dX12_kiln_90 : decode cX12_kiln 90 = .ok (.getfield 20, 3) := by decide +kernel
theorem dX12_kiln_93 : decode cX12_kiln 93 = .ok (.iload_n 1, 1) := by decide +kernel
theorem dX12_kiln_94 : decode cX12_kiln 94 = .ok (.iaload, 1) := by decide +kernel
theorem dX12_kiln_95 : decode cX12_kiln 95 = .ok (.goto 14, 3) := by decide +kernel
theorem dX12_kiln_98 : decode cX12_kiln 98 = .ok (.iload_n 2, 1) := by decide +kernel
theorem dX12_kiln_99 : decode cX12_kiln 99 = .ok (.iconst 3, 1) := by decide +kernel
theorem dX12_kiln_100 : decode cX12_kiln 100 = .ok (.if_icmp .ne 7, 3) := by decide +kernel
theorem dX12_kiln_103 : decode cX12_kiln 103 = .ok (.iload_n 3, 1) := by decide +kernel
theorem dX12_kiln_104 : decode cX12_kiln 104 = .ok (.goto 5, 3) := by decide +kernel
theorem dX12_kiln_107 : decode cX12_kiln 107 = .ok (.bipush (-2), 2) := by decide +kernel
theorem dX12_kiln_109 : decode cX12_kiln 109 = .ok (.ireturn, 1) := by decide +kernel
theorem dX12_pot_0 : decode cX12_pot 0 = .ok (.aload_n 0, 1) := by decide +kernel
theorem dX12_pot_1 : decode cX12_pot 1 = .ok (.iconst 0, 1) := by decide +kernel
theorem dX12_pot_2 : decode cX12_pot 2 = .ok (.putfield 108, 3) := by decide +kernel
theorem dX12_pot_5 : decode cX12_pot 5 = .ok (.aload_n 0, 1) := by decide +kernel
theorem dX12_pot_6 : decode cX12_pot 6 = .ok (.iload_n 1, 1) := by decide +kernel
theorem dX12_pot_7 : decode cX12_pot 7 = .ok (.invokevirtual 176, 3) := by decide +kernel
theorem dX12_pot_10 : decode cX12_pot 10 = .ok (.ifCond .eq 5, 3) := by decide +kernel
theorem dX12_pot_13 : decode cX12_pot 13 = .ok (.iconst (-1), 1) := by decide +kernel
theorem dX12_pot_14 : decode cX12_pot 14 = .ok (.ireturn, 1) := by decide +kernel
theorem dX12_pot_15 : decode cX12_pot 15 = .ok (.iload_n 2, 1) := by decide +kernel
theorem dX12_pot_16 : decode cX12_pot 16 = .ok (.tableswitch 104 0 7 #[48, 55, 62, 69, 76, 83, 90, 97], 48) := by decide +kernel
theorem dX12_pot_64 : decode cX12_pot 64 = .ok (.aload_n 0, 1) := by decide +kernel
theorem dX12_pot_65 : decode cX12_pot 65 = .ok (.getfield 26, 3) := by decide +kernel
theorem dX12_pot_68 : decode cX12_pot 68 = .ok (.iload_n 1, 1) := by decide +kernel
theorem dX12_pot_69 : decode cX12_pot 69 = .ok (.iaload, 1) := by decide +kernel
theorem dX12_pot_70 : decode cX12_pot 70 = .ok (.ireturn, 1) := by decide +kernel
theorem dX12_pot_71 : decode cX12_pot 71 = .ok (.aload_n 0, 1) := by decide +kernel
theorem dX12_pot_72 : decode cX12_pot 72 = .ok (.getfield 29, 3) := by decide +kernel
theorem dX12_pot_75 : decode cX12_pot 75 = .ok (.iload_n 1, 1) := by decide +kernel
theorem dX12_pot_76 : decode cX12_pot 76 = .ok (.iaload, 1) := by decide +kernel
theorem dX12_pot_77 : decode cX12_pot 77 = .ok (.ireturn, 1) := by decide +kernel
theorem dX12_pot_78 : decode cX12_pot 78 = .ok (.aload_n 0, 1) := by decide +kernel
theorem dX12_pot_79 : decode cX12_pot 79 = .ok (.getfield 32, 3) := by decide +kernel
theorem dX12_pot_82 : decode cX12_pot 82 = .ok (.iload_n 1, 1) := by decide +kernel
theorem dX12_pot_83 : decode cX12_pot 83 = .ok (.iaload, 1) := by decide +kernel
theorem dX12_pot_84 : decode cX12_pot 84 = .ok (.ireturn, 1) := by decide +kernel
theorem dX12_pot_85 : decode cX12_pot 85 = .ok (.aload_n 0, 1) := by decide +kernel
theorem dX12_pot_86 : decode cX12_pot 86 = .ok (.getfield 35, 3) := by decide +kernel
theorem dX12_pot_89 : decode cX12_pot 89 = .ok (.iload_n 1, 1) := by decide +kernel
theorem dX12_pot_90 : decode cX12_pot 90 = .ok (.iaload, 1) := by decide +kernel
theorem dX12_pot_91 : decode cX12_pot 91 = .ok (.ireturn, 1) := by decide +kernel
theorem dX12_pot_92 : decode cX12_pot 92 = .ok (.aload_n 0, 1) := by decide +kernel
theorem dX12_pot_93 : decode cX12_pot 93 = .ok (.getfield 38, 3) := by decide +kernel
theorem dX12_pot_96 : decode cX12_pot 96 = .ok (.iload_n 1, 1) := by decide +kernel
theorem dX12_pot_97 : decode cX12_pot 97 = .ok (.iaload, 1) := by decide +kernel
theorem dX12_pot_98 : decode cX12_pot 98 = .ok (.ireturn, 1) := by decide +kernel
theorem dX12_pot_99 : decode cX12_pot 99 = .ok (.aload_n 0, 1) := by decide +kernel
theorem dX12_pot_100 : decode cX12_pot 100 = .ok (.getfield 41, 3) := by decide +kernel
theorem dX12_pot_103 : decode cX12_pot 103 = .ok (.iload_n 1, 1) := by decide +kernel
theorem dX12_pot_104 : decode cX12_pot 104 = .ok (.iaload, 1) := by decide +kernel
theorem dX12_pot_105 : decode cX12_pot 105 = .ok (.ireturn, 1) := by decide +kernel
theorem dX12_pot_106 : decode cX12_pot 106 = .ok (.aload_n 0, 1) := by decide +kernel
theorem dX12_pot_107 : decode cX12_pot 107 = .ok (.getfield 44, 3) := by decide +kernel
theorem dX12_pot_110 : decode cX12_pot 110 = .ok (.iload_n 1, 1) := by decide +kernel
theorem dX12_pot_111 : decode cX12_pot 111 = .ok (.iaload, 1) := by decide +kernel
theorem dX12_pot_112 : decode cX12_pot 112 = .ok (.ireturn, 1) := by decide +kernel
theorem dX12_pot_113 : decode cX12_pot 113 = .ok (.aload_n 0, 1) := by decide +kernel
theorem dX12_pot_114 : decode cX12_pot 114 = .ok (.getfield 47, 3) := by decide +kernel
theorem dX12_pot_117 : decode cX12_pot 117 = .ok (.iload_n 1, 1) := by decide +kernel
theorem dX12_pot_118 : decode cX12_pot 118 = .ok (.iaload, 1) := by decide +kernel
theorem dX12_pot_119 : decode cX12_pot 119 = .ok (.ireturn, 1) := by decide +kernel
theorem dX12_pot_120 : decode cX12_pot 120 = .ok (.bipush (-2), 2) := by decide +kernel
theorem dX12_pot_122 : decode cX12_pot 122 = .ok (.ireturn, 1) := by decide +kernel
theorem dX12_open_0 : decode cX12_open 0 = .ok (.aload_n 0, 1) := by decide +kernel
theorem dX12_open_1 : decode cX12_open 1 = .ok (.iconst 0, 1) := by decide +kernel
theorem dX12_open_2 : decode cX12_open 2 = .ok (.putfield 108, 3) := by decide +kernel
theorem dX12_open_5 : decode cX12_open 5 = .ok (.aload_n 0, 1) := by decide +kernel
theorem dX12_open_6 : decode cX12_open 6 = .ok (.iload_n 1, 1) := by decide +kernel
theorem dX12_open_7 : decode cX12_open 7 = .ok (.invokevirtual 172, 3) := by decide +kernel
theorem dX12_open_10 : decode cX12_open 10 = .ok (.ifCond .eq 5, 3) := by decide +kernel
theorem dX12_open_13 : decode cX12_open 13 = .ok (.iconst (-1), 1) := by decide +kernel
theorem dX12_open_14 : decode cX12_open 14 = .ok (.ireturn, 1) := by decide +kernel
theorem dX12_open_15 : decode cX12_open 15 = .ok (.iload_n 2, 1) := by decide +kernel
theorem dX12_open_16 : decode cX12_open 16 = .ok (.i2l, 1) := by decide +kernel
theorem dX12_open_17 : decode cX12_open 17 = .ok (.lconst 0, 1) := by decide +kernel
theorem dX12_open_18 : decode cX12_open 18 = .ok (.bipush 10, 2) := by decide +kernel
theorem dX12_open_20 : decode cX12_open 20 = .ok (.aload_n 0, 1) := by decide +kernel
theorem dX12_open_21 : decode cX12_open 21 = .ok (.getfield 20, 3) := by decide +kernel
theorem dX12_open_24 : decode cX12_open 24 = .ok (.iload_n 1, 1) := by decide +kernel
theorem dX12_open_25 : decode cX12_open 25 = .ok (.iaload, 1) := by decide +kernel
theorem dX12_open_26 : decode cX12_open 26 = .ok (.isub, 1) := by decide +kernel
theorem dX12_open_27 : decode cX12_open 27 = .ok (.i2l, 1) := by decide +kernel
theorem dX12_open_28 : decode cX12_open 28 = .ok (.invokestatic 111, 3) := by decide +kernel
theorem dX12_open_31 : decode cX12_open 31 = .ok (.ifCond .ne 6, 3) := by decide +kernel
theorem dX12_open_34 : decode cX12_open 34 = .ok (.bipush (-2), 2) := by decide +kernel
theorem dX12_open_36 : decode cX12_open 36 = .ok (.ireturn, 1) := by decide +kernel
theorem dX12_open_37 : decode cX12_open 37 = .ok (.aload_n 0, 1) := by decide +kernel
theorem dX12_open_38 : decode cX12_open 38 = .ok (.getfield 17, 3) := by decide +kernel
theorem dX12_open_41 : decode cX12_open 41 = .ok (.iload_n 1, 1) := by decide +kernel
theorem dX12_open_42 : decode cX12_open 42 = .ok (.iaload, 1) := by decide +kernel
theorem dX12_open_43 : decode cX12_open 43 = .ok (.istore_n 3, 1) := by decide +kernel
theorem dX12_open_44 : decode cX12_open 44 = .ok (.aload_n 0, 1) := by decide +kernel
theorem dX12_open_45 : decode cX12_open 45 = .ok (.getfield 17, 3) := by decide +kernel
theorem dX12_open_48 : decode cX12_open 48 = .ok (.iload_n 1, 1) := by decide +kernel
theorem dX12_open_49 : decode cX12_open 49 = .ok (.iload_n 2, 1) := by decide +kernel
theorem dX12_open_50 : decode cX12_open 50 = .ok (.iastore, 1) := by decide +kernel
theorem dX12_open_51 : decode cX12_open 51 = .ok (.iload_n 3, 1) := by decide +kernel
theorem dX12_open_52 : decode cX12_open 52 = .ok (.ireturn, 1) := by decide +kernel
theorem dX12_damp_0 : decode cX12_damp 0 = .ok (.aload_n 0, 1) := by decide +kernel
theorem dX12_damp_1 : decode cX12_damp 1 = .ok (.iconst 0, 1) := by decide +kernel
theorem dX12_damp_2 : decode cX12_damp 2 = .ok (.putfield 108, 3) := by decide +kernel
theorem dX12_damp_5 : decode cX12_damp 5 = .ok (.aload_n 0, 1) := by decide +kernel
theorem dX12_damp_6 : decode cX12_damp 6 = .ok (.iload_n 1, 1) := by decide +kernel
theorem dX12_damp_7 : decode cX12_damp 7 = .ok (.invokevirtual 172, 3) := by decide +kernel
theorem dX12_damp_10 : decode cX12_damp 10 = .ok (.ifCond .eq 5, 3) := by decide +kernel
theorem dX12_damp_13 : decode cX12_damp 13 = .ok (.iconst (-1), 1) := by decide +kernel
theorem dX12_damp_14 : decode cX12_damp 14 = .ok (.ireturn, 1) := by decide +kernel
theorem dX12_damp_15 : decode cX12_damp 15 = .ok (.iload_n 2, 1) := by decide +kernel
theorem dX12_damp_16 : decode cX12_damp 16 = .ok (.i2l, 1) := by decide +kernel
theorem dX12_damp_17 : decode cX12_damp 17 = .ok (.lconst 0, 1) := by decide +kernel
theorem dX12_damp_18 : decode cX12_damp 18 = .ok (.bipush 10, 2) := by decide +kernel
theorem dX12_damp_20 : decode cX12_damp 20 = .ok (.aload_n 0, 1) := by decide +kernel
theorem dX12_damp_21 : decode cX12_damp 21 = .ok (.getfield 17, 3) := by decide +kernel
theorem dX12_damp_24 : decode cX12_damp 24 = .ok (.iload_n 1, 1) := by decide +kernel
theorem dX12_damp_25 : decode cX12_damp 25 = .ok (.iaload, 1) := by decide +kernel
theorem dX12_damp_26 : decode cX12_damp 26 = .ok (.isub, 1) := by decide +kernel
theorem dX12_damp_27 : decode cX12_damp 27 = .ok (.i2l, 1) := by decide +kernel
theorem dX12_damp_28 : decode cX12_damp 28 = .ok (.invokestatic 111, 3) := by decide +kernel
theorem dX12_damp_31 : decode cX12_damp 31 = .ok (.ifCond .ne 6, 3) := by decide +kernel
theorem dX12_damp_34 : decode cX12_damp 34 = .ok (.bipush (-2), 2) := by decide +kernel
theorem dX12_damp_36 : decode cX12_damp 36 = .ok (.ireturn, 1) := by decide +kernel
theorem dX12_damp_37 : decode cX12_damp 37 = .ok (.aload_n 0, 1) := by decide +kernel
theorem dX12_damp_38 : decode cX12_damp 38 = .ok (.getfield 20, 3) := by decide +kernel
theorem dX12_damp_41 : decode cX12_damp 41 = .ok (.iload_n 1, 1) := by decide +kernel
theorem dX12_damp_42 : decode cX12_damp 42 = .ok (.iaload, 1) := by decide +kernel
theorem dX12_damp_43 : decode cX12_damp 43 = .ok (.istore_n 3, 1) := by decide +kernel
theorem dX12_damp_44 : decode cX12_damp 44 = .ok (.aload_n 0, 1) := by decide +kernel
theorem dX12_damp_45 : decode cX12_damp 45 = .ok (.getfield 20, 3) := by decide +kernel
theorem dX12_damp_48 : decode cX12_damp 48 = .ok (.iload_n 1, 1) := by decide +kernel
theorem dX12_damp_49 : decode cX12_damp 49 = .ok (.iload_n 2, 1) := by decide +kernel
theorem dX12_damp_50 : decode cX12_damp 50 = .ok (.iastore, 1) := by decide +kernel
theorem dX12_damp_51 : decode cX12_damp 51 = .ok (.iload_n 3, 1) := by decide +kernel
theorem dX12_damp_52 : decode cX12_damp 52 = .ok (.ireturn, 1) := by decide +kernel
theorem dX12_put_0 : decode cX12_put 0 = .ok (.aload_n 0, 1) := by decide +kernel
theorem dX12_put_1 : decode cX12_put 1 = .ok (.iconst 0, 1) := by decide +kernel
theorem dX12_put_2 : decode cX12_put 2 = .ok (.putfield 108, 3) := by decide +kernel
theorem dX12_put_5 : decode cX12_put 5 = .ok (.aload_n 0, 1) := by decide +kernel
theorem dX12_put_6 : decode cX12_put 6 = .ok (.iload_n 1, 1) := by decide +kernel
theorem dX12_put_7 : decode cX12_put 7 = .ok (.invokevirtual 176, 3) := by decide +kernel
theorem dX12_put_10 : decode cX12_put 10 = .ok (.ifCond .ne 11, 3) := by decide +kernel
theorem dX12_put_13 : decode cX12_put 13 = .ok (.aload_n 0, 1) := by decide +kernel
theorem dX12_put_14 : decode cX12_put 14 = .ok (.iload_n 2, 1) := by decide +kernel
theorem dX12_put_15 : decode cX12_put 15 = .ok (.invokevirtual 172, 3) := by decide +kernel
theorem dX12_put_18 : decode cX12_put 18 = .ok (.ifCond .eq 5, 3) := by decide +kernel
theorem dX12_put_21 : decode cX12_put 21 = .ok (.iconst (-1), 1) := by decide +kernel
theorem dX12_put_22 : decode cX12_put 22 = .ok (.ireturn, 1) := by decide +kernel
theorem dX12_put_23 : decode cX12_put 23 = .ok (.aload_n 0, 1) := by decide +kernel
theorem dX12_put_24 : decode cX12_put 24 = .ok (.getfield 47, 3) := by decide +kernel
theorem dX12_put_27 : decode cX12_put 27 = .ok (.iload_n 1, 1) := by decide +kernel
theorem dX12_put_28 : decode cX12_put 28 = .ok (.iaload, 1) := by decide +kernel
theorem dX12_put_29 : decode cX12_put 29 = .ok (.ifCond .eq 6, 3) := by decide +kernel
theorem dX12_put_32 : decode cX12_put 32 = .ok (.bipush (-3), 2) := by decide +kernel
theorem dX12_put_34 : decode cX12_put 34 = .ok (.ireturn, 1) := by decide +kernel
theorem dX12_put_35 : decode cX12_put 35 = .ok (.aload_n 0, 1) := by decide +kernel
theorem dX12_put_36 : decode cX12_put 36 = .ok (.getfield 26, 3) := by decide +kernel
theorem dX12_put_39 : decode cX12_put 39 = .ok (.iload_n 1, 1) := by decide +kernel
theorem dX12_put_40 : decode cX12_put 40 = .ok (.iaload, 1) := by decide +kernel
theorem dX12_put_41 : decode cX12_put 41 = .ok (.istore_n 3, 1) := by decide +kernel
theorem dX12_put_42 : decode cX12_put 42 = .ok (.aload_n 0, 1) := by decide +kernel
theorem dX12_put_43 : decode cX12_put 43 = .ok (.getfield 26, 3) := by decide +kernel
theorem dX12_put_46 : decode cX12_put 46 = .ok (.iload_n 1, 1) := by decide +kernel
theorem dX12_put_47 : decode cX12_put 47 = .ok (.iload_n 2, 1) := by decide +kernel
theorem dX12_put_48 : decode cX12_put 48 = .ok (.iastore, 1) := by decide +kernel
theorem dX12_put_49 : decode cX12_put 49 = .ok (.iload_n 3, 1) := by decide +kernel
theorem dX12_put_50 : decode cX12_put 50 = .ok (.ireturn, 1) := by decide +kernel
theorem dX12_begin_0 : decode cX12_begin 0 = .ok (.iconst 0, 1) := by decide +kernel
theorem dX12_begin_1 : decode cX12_begin 1 = .ok (.istore_n 1, 1) := by decide +kernel
theorem dX12_begin_2 : decode cX12_begin 2 = .ok (.iload_n 1, 1) := by decide +kernel
theorem dX12_begin_3 : decode cX12_begin 3 = .ok (.aload_n 0, 1) := by decide +kernel
theorem dX12_begin_4 : decode cX12_begin 4 = .ok (.getfield 13, 3) := by decide +kernel
theorem dX12_begin_7 : decode cX12_begin 7 = .ok (.if_icmp .ge 21, 3) := by decide +kernel
theorem dX12_begin_10 : decode cX12_begin 10 = .ok (.aload_n 0, 1) := by decide +kernel
theorem dX12_begin_11 : decode cX12_begin 11 = .ok (.getfield 69, 3) := by decide +kernel
theorem dX12_begin_14 : decode cX12_begin 14 = .ok (.iload_n 1, 1) := by decide +kernel
theorem dX12_begin_15 : decode cX12_begin 15 = .ok (.aload_n 0, 1) := by decide +kernel
theorem dX12_begin_16 : decode cX12_begin 16 = .ok (.getfield 23, 3) := by decide +kernel
theorem dX12_begin_19 : decode cX12_begin 19 = .ok (.iload_n 1, 1) := by decide +kernel
theorem dX12_begin_20 : decode cX12_begin 20 = .ok (.iaload, 1) := by decide +kernel
theorem dX12_begin_21 : decode cX12_begin 21 = .ok (.iastore, 1) := by decide +kernel
theorem dX12_begin_22 : decode cX12_begin 22 = .ok (.iinc 1 1, 3) := by decide +kernel
theorem dX12_begin_25 : decode cX12_begin 25 = .ok (.goto (-23), 3) := by decide +kernel
theorem dX12_begin_28 : decode cX12_begin 28 = .ok (.iconst 0, 1) := by decide +kernel
theorem dX12_begin_29 : decode cX12_begin 29 = .ok (.istore_n 1, 1) := by decide +kernel
theorem dX12_begin_30 : decode cX12_begin 30 = .ok (.iload_n 1, 1) := by decide +kernel
theorem dX12_begin_31 : decode cX12_begin 31 = .ok (.aload_n 0, 1) := by decide +kernel
theorem dX12_begin_32 : decode cX12_begin 32 = .ok (.getfield 115, 3) := by decide +kernel
theorem dX12_begin_35 : decode cX12_begin 35 = .ok (.if_icmp .ge 45, 3) := by decide +kernel
theorem dX12_begin_38 : decode cX12_begin 38 = .ok (.aload_n 0, 1) := by decide +kernel
theorem dX12_begin_39 : decode cX12_begin 39 = .ok (.getfield 78, 3) := by decide +kernel
theorem dX12_begin_42 : decode cX12_begin 42 = .ok (.iload_n 1, 1) := by decide +kernel
theorem dX12_begin_43 : decode cX12_begin 43 = .ok (.aload_n 0, 1) := by decide +kernel
theorem dX12_begin_44 : decode cX12_begin 44 = .ok (.getfield 44, 3) := by decide +kernel
theorem dX12_begin_47 : decode cX12_begin 47 = .ok (.iload_n 1, 1) := by decide +kernel
theorem dX12_begin_48 : decode cX12_begin 48 = .ok (.iaload, 1) := by decide +kernel
theorem dX12_begin_49 : decode cX12_begin 49 = .ok (.iastore, 1) := by decide +kernel
theorem dX12_begin_50 : decode cX12_begin 50 = .ok (.aload_n 0, 1) := by decide +kernel
theorem dX12_begin_51 : decode cX12_begin 51 = .ok (.getfield 81, 3) := by decide +kernel
theorem dX12_begin_54 : decode cX12_begin 54 = .ok (.iload_n 1, 1) := by decide +kernel
theorem dX12_begin_55 : decode cX12_begin 55 = .ok (.aload_n 0, 1) := by decide +kernel
theorem dX12_begin_56 : decode cX12_begin 56 = .ok (.getfield 47, 3) := by decide +kernel
theorem dX12_begin_59 : decode cX12_begin 59 = .ok (.iload_n 1, 1) := by decide +kernel
theorem dX12_begin_60 : decode cX12_begin 60 = .ok (.iaload, 1) := by decide +kernel
theorem dX12_begin_61 : decode cX12_begin 61 = .ok (.iastore, 1) := by decide +kernel
theorem dX12_begin_62 : decode cX12_begin 62 = .ok (.aload_n 0, 1) := by decide +kernel
theorem dX12_begin_63 : decode cX12_begin 63 = .ok (.getfield 84, 3) := by decide +kernel
theorem dX12_begin_66 : decode cX12_begin 66 = .ok (.iload_n 1, 1) := by decide +kernel
theorem dX12_begin_67 : decode cX12_begin 67 = .ok (.aload_n 0, 1) := by decide +kernel
theorem dX12_begin_68 : decode cX12_begin 68 = .ok (.getfield 26, 3) := by decide +kernel
theorem dX12_begin_71 : decode cX12_begin 71 = .ok (.iload_n 1, 1) := by decide +kernel
theorem dX12_begin_72 : decode cX12_begin 72 = .ok (.iaload, 1) := by decide +kernel
theorem dX12_begin_73 : decode cX12_begin 73 = .ok (.iastore, 1) := by decide +kernel
theorem dX12_begin_74 : decode cX12_begin 74 = .ok (.iinc 1 1, 3) := by decide +kernel
theorem dX12_begin_77 : decode cX12_begin 77 = .ok (.goto (-47), 3) := by decide +kernel
theorem dX12_begin_80 : decode cX12_begin 80 = .ok (.aload_n 0, 1) := by decide +kernel
theorem dX12_begin_81 : decode cX12_begin 81 = .ok (.iconst 0, 1) := by decide +kernel
theorem dX12_begin_82 : decode cX12_begin 82 = .ok (.putfield 179, 3) := by decide +kernel
theorem dX12_begin_85 : decode cX12_begin 85 = .ok (.return_, 1) := by decide +kernel
theorem dX12_goHeat_0 : decode cX12_goHeat 0 = .ok (.iconst 0, 1) := by decide +kernel
theorem dX12_goHeat_1 : decode cX12_goHeat 1 = .ok (.istore_n 3, 1) := by decide +kernel
theorem dX12_goHeat_2 : decode cX12_goHeat 2 = .ok (.iload_n 3, 1) := by decide +kernel
theorem dX12_goHeat_3 : decode cX12_goHeat 3 = .ok (.aload_n 0, 1) := by decide +kernel
theorem dX12_goHeat_4 : decode cX12_goHeat 4 = .ok (.getfield 13, 3) := by decide +kernel
theorem dX12_goHeat_7 : decode cX12_goHeat 7 = .ok (.if_icmp .ge 43, 3) := by decide +kernel
theorem dX12_goHeat_10 : decode cX12_goHeat 10 = .ok (.aload_n 0, 1) := by decide +kernel
theorem dX12_goHeat_11 : decode cX12_goHeat 11 = .ok (.getfield 72, 3) := by decide +kernel
theorem dX12_goHeat_14 : decode cX12_goHeat 14 = .ok (.iload_n 3, 1) := by decide +kernel
theorem dX12_goHeat_15 : decode cX12_goHeat 15 = .ok (.aload_n 0, 1) := by decide +kernel
theorem dX12_goHeat_16 : decode cX12_goHeat 16 = .ok (.getfield 69, 3) := by decide +kernel
theorem dX12_goHeat_19 : decode cX12_goHeat 19 = .ok (.iload_n 3, 1) := by decide +kernel
theorem dX12_goHeat_20 : decode cX12_goHeat 20 = .ok (.iaload, 1) := by decide +kernel
theorem dX12_goHeat_21 : decode cX12_goHeat 21 = .ok (.iastore, 1) := by decide +kernel
theorem dX12_goHeat_22 : decode cX12_goHeat 22 = .ok (.aload_n 0, 1) := by decide +kernel
theorem dX12_goHeat_23 : decode cX12_goHeat 23 = .ok (.getfield 75, 3) := by decide +kernel
theorem dX12_goHeat_26 : decode cX12_goHeat 26 = .ok (.iload_n 3, 1) := by decide +kernel
theorem dX12_goHeat_27 : decode cX12_goHeat 27 = .ok (.aload_n 0, 1) := by decide +kernel
theorem dX12_goHeat_28 : decode cX12_goHeat 28 = .ok (.getfield 69, 3) := by decide +kernel
theorem dX12_goHeat_31 : decode cX12_goHeat 31 = .ok (.iload_n 3, 1) := by decide +kernel
theorem dX12_goHeat_32 : decode cX12_goHeat 32 = .ok (.iaload, 1) := by decide +kernel
theorem dX12_goHeat_33 : decode cX12_goHeat 33 = .ok (.aload_n 0, 1) := by decide +kernel
theorem dX12_goHeat_34 : decode cX12_goHeat 34 = .ok (.getfield 17, 3) := by decide +kernel
theorem dX12_goHeat_37 : decode cX12_goHeat 37 = .ok (.iload_n 3, 1) := by decide +kernel
theorem dX12_goHeat_38 : decode cX12_goHeat 38 = .ok (.iaload, 1) := by decide +kernel
theorem dX12_goHeat_39 : decode cX12_goHeat 39 = .ok (.imul, 1) := by decide +kernel
theorem dX12_goHeat_40 : decode cX12_goHeat 40 = .ok (.bipush 10, 2) := by decide +kernel
theorem dX12_goHeat_42 : decode cX12_goHeat 42 = .ok (.idiv, 1) := by decide +kernel
theorem dX12_goHeat_43 : decode cX12_goHeat 43 = .ok (.iastore, 1) := by decide +kernel
theorem dX12_goHeat_44 : decode cX12_goHeat 44 = .ok (.iinc 3 1, 3) := by decide +kernel
theorem dX12_goHeat_47 : decode cX12_goHeat 47 = .ok (.goto (-45), 3) := by decide +kernel
theorem dX12_goHeat_50 : decode cX12_goHeat 50 = .ok (.iconst 0, 1) := by decide +kernel
theorem dX12_goHeat_51 : decode cX12_goHeat 51 = .ok (.istore_n 3, 1) := by decide +kernel
theorem dX12_goHeat_52 : decode cX12_goHeat 52 = .ok (.iload_n 3, 1) := by decide +kernel
theorem dX12_goHeat_53 : decode cX12_goHeat 53 = .ok (.aload_n 0, 1) := by decide +kernel
theorem dX12_goHeat_54 : decode cX12_goHeat 54 = .ok (.getfield 13, 3) := by decide +kernel
theorem dX12_goHeat_57 : decode cX12_goHeat 57 = .ok (.if_icmp .ge 127, 3) := by decide +kernel
theorem dX12_goHeat_60 : decode cX12_goHeat 60 = .ok (.aload_n 0, 1) := by decide +kernel
theorem dX12_goHeat_61 : decode cX12_goHeat 61 = .ok (.getfield 72, 3) := by decide +kernel
theorem dX12_goHeat_64 : decode cX12_goHeat 64 = .ok (.iload_n 3, 1) := by decide +kernel
theorem dX12_goHeat_65 : decode cX12_goHeat 65 = .ok (.iaload, 1) := by decide +kernel
theorem dX12_goHeat_66 : decode cX12_goHeat 66 = .ok (.aload_n 0, 1) := by decide +kernel
theorem dX12_goHeat_67 : decode cX12_goHeat 67 = .ok (.getfield 20, 3) := by decide +kernel
theorem dX12_goHeat_70 : decode cX12_goHeat 70 = .ok (.iload_n 3, 1) := by decide +kernel
theorem dX12_goHeat_71 : decode cX12_goHeat 71 = .ok (.iaload, 1) := by decide +kernel
theorem dX12_goHeat_72 : decode cX12_goHeat 72 = .ok (.imul, 1) := by decide +kernel
theorem dX12_goHeat_73 : decode cX12_goHeat 73 = .ok (.bipush 10, 2) := by decide +kernel
theorem dX12_goHeat_75 : decode cX12_goHeat 75 = .ok (.idiv, 1) := by decide +kernel
theorem dX12_goHeat_76 : decode cX12_goHeat 76 = .ok (.istore 4, 2) := by decide +kernel
theorem dX12_goHeat_78 : decode cX12_goHeat 78 = .ok (.aload_n 0, 1) := by decide +kernel
theorem dX12_goHeat_79 : decode cX12_goHeat 79 = .ok (.getfield 69, 3) := by decide +kernel
theorem dX12_goHeat_82 : decode cX12_goHeat 82 = .ok (.iload_n 3, 1) := by decide +kernel
theorem dX12_goHeat_83 : decode cX12_goHeat 83 = .ok (.aload_n 0, 1) := by decide +kernel
theorem dX12_goHeat_84 : decode cX12_goHeat 84 = .ok (.getfield 72, 3) := by decide +kernel
theorem dX12_goHeat_87 : decode cX12_goHeat 87 = .ok (.iload_n 3, 1) := by decide +kernel
theorem dX12_goHeat_88 : decode cX12_goHeat 88 = .ok (.iaload, 1) := by decide +kernel
theorem dX12_goHeat_89 : decode cX12_goHeat 89 = .ok (.aload_n 0, 1) := by decide +kernel
theorem dX12_goHeat_90 : decode cX12_goHeat 90 = .ok (.getfield 75, 3) := by decide +kernel
theorem dX12_goHeat_93 : decode cX12_goHeat 93 = .ok (.iload_n 3, 1) := by decide +kernel
theorem dX12_goHeat_94 : decode cX12_goHeat 94 = .ok (.iaload, 1) := by decide +kernel
theorem dX12_goHeat_95 : decode cX12_goHeat 95 = .ok (.isub, 1) := by decide +kernel
theorem dX12_goHeat_96 : decode cX12_goHeat 96 = .ok (.iload 4, 2) := by decide +kernel
theorem dX12_goHeat_98 : decode cX12_goHeat 98 = .ok (.isub, 1) := by decide +kernel
theorem dX12_goHeat_99 : decode cX12_goHeat 99 = .ok (.iload_n 3, 1) := by decide +kernel
theorem dX12_goHeat_100 : decode cX12_goHeat 100 = .ok (.ifCond .ne 10, 3) := by decide +kernel
theorem dX12_goHeat_103 : decode cX12_goHeat 103 = .ok (.bipush 20, 2) := by decide +kernel
theorem dX12_goHeat_105 : decode cX12_goHeat 105 = .ok (.iload_n 1, 1) := by decide +kernel
theorem dX12_goHeat_106 : decode cX12_goHeat 106 = .ok (.imul, 1) := by decide +kernel
theorem dX12_goHeat_107 : decode cX12_goHeat 107 = .ok (.goto 11, 3) := by decide +kernel
theorem dX12_goHeat_110 : decode cX12_goHeat 110 = .ok (.aload_n 0, 1) := by decide +kernel
theorem dX12_goHeat_111 : decode cX12_goHeat 111 = .ok (.getfield 75, 3) := by decide +kernel
theorem dX12_goHeat_114 : decode cX12_goHeat 114 = .ok (.iload_n 3, 1) := by decide +kernel
theorem dX12_goHeat_115 : decode cX12_goHeat 115 = .ok (.iconst 1, 1) := by decide +kernel
theorem dX12_goHeat_116 : decode cX12_goHeat 116 = .ok (.isub, 1) := by decide +kernel
theorem dX12_goHeat_117 : decode cX12_goHeat 117 = .ok (.iaload, 1) := by decide +kernel
theorem dX12_goHeat_118 : decode cX12_goHeat 118 = .ok (.iadd, 1) := by decide +kernel
theorem dX12_goHeat_119 : decode cX12_goHeat 119 = .ok (.iastore, 1) := by decide +kernel
theorem dX12_goHeat_120 : decode cX12_goHeat 120 = .ok (.aload_n 0, 1) := by decide +kernel
theorem dX12_goHeat_121 : decode cX12_goHeat 121 = .ok (.dup, 1) := by decide +kernel
theorem dX12_goHeat_122 : decode cX12_goHeat 122 = .ok (.getfield 179, 3) := by decide +kernel
theorem dX12_goHeat_125 : decode cX12_goHeat 125 = .ok (.iload 4, 2) := by decide +kernel
theorem dX12_goHeat_127 : decode cX12_goHeat 127 = .ok (.iload_n 3, 1) := by decide +kernel
theorem dX12_goHeat_128 : decode cX12_goHeat 128 = .ok (.aload_n 0, 1) := by decide +kernel
theorem dX12_goHeat_129 : decode cX12_goHeat 129 = .ok (.getfield 13, 3) := by decide +kernel
theorem dX12_goHeat_132 : decode cX12_goHeat 132 = .ok (.iconst 1, 1) := by decide +kernel
theorem dX12_goHeat_133 : decode cX12_goHeat 133 = .ok (.isub, 1) := by decide +kernel
theorem dX12_goHeat_134 : decode cX12_goHeat 134 = .ok (.if_icmp .ne 12, 3) := by decide +kernel
theorem dX12_goHeat_137 : decode cX12_goHeat 137 = .ok (.aload_n 0, 1) := by decide +kernel
theorem dX12_goHeat_138 : decode cX12_goHeat 138 = .ok (.getfield 75, 3) := by decide +kernel
theorem dX12_goHeat_141 : decode cX12_goHeat 141 = .ok (.iload_n 3, 1) := by decide +kernel
theorem dX12_goHeat_142 : decode cX12_goHeat 142 = .ok (.iaload, 1) := by decide +kernel
theorem dX12_goHeat_143 : decode cX12_goHeat 143 = .ok (.goto 4, 3) := by decide +kernel
theorem dX12_goHeat_146 : decode cX12_goHeat 146 = .ok (.iconst 0, 1) := by decide +kernel
theorem dX12_goHeat_147 : decode cX12_goHeat 147 = .ok (.iadd, 1) := by decide +kernel
theorem dX12_goHeat_148 : decode cX12_goHeat 148 = .ok (.iadd, 1) := by decide +kernel
theorem dX12_goHeat_149 : decode cX12_goHeat 149 = .ok (.putfield 179, 3) := by decide +kernel
theorem dX12_goHeat_152 : decode cX12_goHeat 152 = .ok (.aload_n 0, 1) := by decide +kernel
theorem dX12_goHeat_153 : decode cX12_goHeat 153 = .ok (.getfield 69, 3) := by decide +kernel
theorem dX12_goHeat_156 : decode cX12_goHeat 156 = .ok (.iload_n 3, 1) := by decide +kernel
theorem dX12_goHeat_157 : decode cX12_goHeat 157 = .ok (.dup2, 1) := by decide +kernel
theorem dX12_goHeat_158 : decode cX12_goHeat 158 = .ok (.iaload, 1) := by decide +kernel
theorem dX12_goHeat_159 : decode cX12_goHeat 159 = .ok (.iload_n 2, 1) := by decide +kernel
theorem dX12_goHeat_160 : decode cX12_goHeat 160 = .ok (.ifCond .eq 15, 3) := by decide +kernel
theorem dX12_goHeat_163 : decode cX12_goHeat 163 = .ok (.aload_n 0, 1) := by decide +kernel
theorem dX12_goHeat_164 : decode cX12_goHeat 164 = .ok (.getfield 69, 3) := by decide +kernel
theorem dX12_goHeat_167 : decode cX12_goHeat 167 = .ok (.iload_n 3, 1) := by decide +kernel
theorem dX12_goHeat_168 : decode cX12_goHeat 168 = .ok (.iaload, 1) := by decide +kernel
theorem dX12_goHeat_169 : decode cX12_goHeat 169 = .ok (.bipush 10, 2) := by decide +kernel
theorem dX12_goHeat_171 : decode cX12_goHeat 171 = .ok (.idiv, 1) := by decide +kernel
theorem dX12_goHeat_172 : decode cX12_goHeat 172 = .ok (.goto 4, 3) := by decide +kernel
theorem dX12_goHeat_175 : decode cX12_goHeat 175 = .ok (.iconst 0, 1) := by decide +kernel
theorem dX12_goHeat_176 : decode cX12_goHeat 176 = .ok (.isub, 1) := by decide +kernel
theorem dX12_goHeat_177 : decode cX12_goHeat 177 = .ok (.iastore, 1) := by decide +kernel
theorem dX12_goHeat_178 : decode cX12_goHeat 178 = .ok (.iinc 3 1, 3) := by decide +kernel
theorem dX12_goHeat_181 : decode cX12_goHeat 181 = .ok (.goto (-129), 3) := by decide +kernel
theorem dX12_goHeat_184 : decode cX12_goHeat 184 = .ok (.return_, 1) := by decide +kernel
theorem dX12_isSalted_0 : decode cX12_isSalted 0 = .ok (.aload_n 0, 1) := by decide +kernel
theorem dX12_isSalted_1 : decode cX12_isSalted 1 = .ok (.getfield 84, 3) := by decide +kernel
theorem dX12_isSalted_4 : decode cX12_isSalted 4 = .ok (.iload_n 1, 1) := by decide +kernel
theorem dX12_isSalted_5 : decode cX12_isSalted 5 = .ok (.iaload, 1) := by decide +kernel
theorem dX12_isSalted_6 : decode cX12_isSalted 6 = .ok (.istore_n 2, 1) := by decide +kernel
theorem dX12_isSalted_7 : decode cX12_isSalted 7 = .ok (.iconst 0, 1) := by decide +kernel
theorem dX12_isSalted_8 : decode cX12_isSalted 8 = .ok (.istore_n 3, 1) := by decide +kernel
theorem dX12_isSalted_9 : decode cX12_isSalted 9 = .ok (.iconst 0, 1) := by decide +kernel
theorem dX12_isSalted_10 : decode cX12_isSalted 10 = .ok (.istore 4, 2) := by decide +kernel
theorem dX12_isSalted_12 : decode cX12_isSalted 12 = .ok (.iload 4, 2) := by decide +kernel
theorem dX12_isSalted_14 : decode cX12_isSalted 14 = .ok (.aload_n 0, 1) := by decide +kernel
theorem dX12_isSalted_15 : decode cX12_isSalted 15 = .ok (.getfield 115, 3) := by decide +kernel
theorem dX12_isSalted_18 : decode cX12_isSalted 18 = .ok (.if_icmp .ge 43, 3) := by decide +kernel
theorem dX12_isSalted_21 : decode cX12_isSalted 21 = .ok (.iload_n 3, 1) := by decide +kernel
theorem dX12_isSalted_22 : decode cX12_isSalted 22 = .ok (.ifCond .ne 27, 3) := by decide +kernel
theorem dX12_isSalted_25 : decode cX12_isSalted 25 = .ok (.aload_n 0, 1) := by decide +kernel
theorem dX12_isSalted_26 : decode cX12_isSalted 26 = .ok (.getfield 29, 3) := by decide +kernel
theorem dX12_isSalted_29 : decode cX12_isSalted 29 = .ok (.iload 4, 2) := by decide +kernel
theorem dX12_isSalted_31 : decode cX12_isSalted 31 = .ok (.iaload, 1) := by decide +kernel
theorem dX12_isSalted_32 : decode cX12_isSalted 32 = .ok (.iconst 1, 1) := by decide +kernel
theorem dX12_isSalted_33 : decode cX12_isSalted 33 = .ok (.if_icmp .ne 20, 3) := by decide +kernel
theorem dX12_isSalted_36 : decode cX12_isSalted 36 = .ok (.aload_n 0, 1) := by decide +kernel
theorem dX12_isSalted_37 : decode cX12_isSalted 37 = .ok (.getfield 84, 3) := by decide +kernel
theorem dX12_isSalted_40 : decode cX12_isSalted 40 = .ok (.iload 4, 2) := by decide +kernel
theorem dX12_isSalted_42 : decode cX12_isSalted 42 = .ok (.iaload, 1) := by decide +kernel
theorem dX12_isSalted_43 : decode cX12_isSalted 43 = .ok (.iload_n 2, 1) := by decide +kernel
theorem dX12_isSalted_44 : decode cX12_isSalted 44 = .ok (.iconst 1, 1) := by decide +kernel
theorem dX12_isSalted_45 : decode cX12_isSalted 45 = .ok (.isub, 1) := by decide +kernel
theorem dX12_isSalted_46 : decode cX12_isSalted 46 = .ok (.if_icmp .ne 7, 3) := by decide +kernel
theorem dX12_isSalted_49 : decode cX12_isSalted 49 = .ok (.iconst 1, 1) := by decide +kernel
theorem dX12_isSalted_50 : decode cX12_isSalted 50 = .ok (.goto 4, 3) := by decide +kernel
theorem dX12_isSalted_53 : decode cX12_isSalted 53 = .ok (.iconst 0, 1) := by decide +kernel
theorem dX12_isSalted_54 : decode cX12_isSalted 54 = .ok (.istore_n 3, 1) := by decide +kernel
theorem dX12_isSalted_55 : decode cX12_isSalted 55 = .ok (.iinc 4 1, 3) := by decide +kernel
theorem dX12_isSalted_58 : decode cX12_isSalted 58 = .ok (.goto (-46), 3) := by decide +kernel
theorem dX12_isSalted_61 : decode cX12_isSalted 61 = .ok (.iload_n 3, 1) := by decide +kernel
theorem dX12_isSalted_62 : decode cX12_isSalted 62 = .ok (.ifCond .eq 22, 3) := by decide +kernel
theorem dX12_isSalted_65 : decode cX12_isSalted 65 = .ok (.iload_n 2, 1) := by decide +kernel
theorem dX12_isSalted_66 : decode cX12_isSalted 66 = .ok (.ifCond .le 18, 3) := by decide +kernel
theorem dX12_isSalted_69 : decode cX12_isSalted 69 = .ok (.aload_n 0, 1) := by decide +kernel
theorem dX12_isSalted_70 : decode cX12_isSalted 70 = .ok (.getfield 75, 3) := by decide +kernel
theorem dX12_isSalted_73 : decode cX12_isSalted 73 = .ok (.iload_n 2, 1) := by decide +kernel
theorem dX12_isSalted_74 : decode cX12_isSalted 74 = .ok (.iconst 1, 1) := by decide +kernel
theorem dX12_isSalted_75 : decode cX12_isSalted 75 = .ok (.isub, 1) := by decide +kernel
theorem dX12_isSalted_76 : decode cX12_isSalted 76 = .ok (.iaload, 1) := by decide +kernel
theorem dX12_isSalted_77 : decode cX12_isSalted 77 = .ok (.ifCond .le 7, 3) := by decide +kernel
theorem dX12_isSalted_80 : decode cX12_isSalted 80 = .ok (.iconst 1, 1) := by decide +kernel
theorem dX12_isSalted_81 : decode cX12_isSalted 81 = .ok (.goto 4, 3) := by decide +kernel
theorem dX12_isSalted_84 : decode cX12_isSalted 84 = .ok (.iconst 0, 1) := by decide +kernel
theorem dX12_isSalted_85 : decode cX12_isSalted 85 = .ok (.ireturn, 1) := by decide +kernel
theorem dX12_feel_0 : decode cX12_feel 0 = .ok (.aload_n 0, 1) := by decide +kernel
theorem dX12_feel_1 : decode cX12_feel 1 = .ok (.getfield 84, 3) := by decide +kernel
theorem dX12_feel_4 : decode cX12_feel 4 = .ok (.iload_n 1, 1) := by decide +kernel
theorem dX12_feel_5 : decode cX12_feel 5 = .ok (.iaload, 1) := by decide +kernel
theorem dX12_feel_6 : decode cX12_feel 6 = .ok (.istore_n 2, 1) := by decide +kernel
theorem dX12_feel_7 : decode cX12_feel 7 = .ok (.aload_n 0, 1) := by decide +kernel
theorem dX12_feel_8 : decode cX12_feel 8 = .ok (.getfield 69, 3) := by decide +kernel
theorem dX12_feel_11 : decode cX12_feel 11 = .ok (.iload_n 2, 1) := by decide +kernel
theorem dX12_feel_12 : decode cX12_feel 12 = .ok (.iaload, 1) := by decide +kernel
theorem dX12_feel_13 : decode cX12_feel 13 = .ok (.aload_n 0, 1) := by decide +kernel
theorem dX12_feel_14 : decode cX12_feel 14 = .ok (.getfield 72, 3) := by decide +kernel
theorem dX12_feel_17 : decode cX12_feel 17 = .ok (.iload_n 2, 1) := by decide +kernel
theorem dX12_feel_18 : decode cX12_feel 18 = .ok (.iaload, 1) := by decide +kernel
theorem dX12_feel_19 : decode cX12_feel 19 = .ok (.if_icmp .le 19, 3) := by decide +kernel
theorem dX12_feel_22 : decode cX12_feel 22 = .ok (.aload_n 0, 1) := by decide +kernel
theorem dX12_feel_23 : decode cX12_feel 23 = .ok (.getfield 69, 3) := by decide +kernel
theorem dX12_feel_26 : decode cX12_feel 26 = .ok (.iload_n 2, 1) := by decide +kernel
theorem dX12_feel_27 : decode cX12_feel 27 = .ok (.iaload, 1) := by decide +kernel
theorem dX12_feel_28 : decode cX12_feel 28 = .ok (.aload_n 0, 1) := by decide +kernel
theorem dX12_feel_29 : decode cX12_feel 29 = .ok (.getfield 72, 3) := by decide +kernel
theorem dX12_feel_32 : decode cX12_feel 32 = .ok (.iload_n 2, 1) := by decide +kernel
theorem dX12_feel_33 : decode cX12_feel 33 = .ok (.iaload, 1) := by decide +kernel
theorem dX12_feel_34 : decode cX12_feel 34 = .ok (.isub, 1) := by decide +kernel
theorem dX12_feel_35 : decode cX12_feel 35 = .ok (.goto 16, 3) := by decide +kernel
theorem dX12_feel_38 : decode cX12_feel 38 = .ok (.aload_n 0, 1) := by decide +kernel
theorem dX12_feel_39 : decode cX12_feel 39 = .ok (.getfield 72, 3) := by decide +kernel
theorem dX12_feel_42 : decode cX12_feel 42 = .ok (.iload_n 2, 1) := by decide +kernel
theorem dX12_feel_43 : decode cX12_feel 43 = .ok (.iaload, 1) := by decide +kernel
theorem dX12_feel_44 : decode cX12_feel 44 = .ok (.aload_n 0, 1) := by decide +kernel
theorem dX12_feel_45 : decode cX12_feel 45 = .ok (.getfield 69, 3) := by decide +kernel
theorem dX12_feel_48 : decode cX12_feel 48 = .ok (.iload_n 2, 1) := by decide +kernel
theorem dX12_feel_49 : decode cX12_feel 49 = .ok (.iaload, 1) := by decide +kernel
theorem dX12_feel_50 : decode cX12_feel 50 = .ok (.isub, 1) := by decide +kernel
theorem dX12_feel_51 : decode cX12_feel 51 = .ok (.istore_n 3, 1) := by decide +kernel
theorem dX12_feel_52 : decode cX12_feel 52 = .ok (.iload_n 3, 1) := by decide +kernel
theorem dX12_feel_53 : decode cX12_feel 53 = .ok (.aload_n 0, 1) := by decide +kernel
theorem dX12_feel_54 : decode cX12_feel 54 = .ok (.getfield 29, 3) := by decide +kernel
theorem dX12_feel_57 : decode cX12_feel 57 = .ok (.iload_n 1, 1) := by decide +kernel
theorem dX12_feel_58 : decode cX12_feel 58 = .ok (.iaload, 1) := by decide +kernel
theorem dX12_feel_59 : decode cX12_feel 59 = .ok (.iconst 3, 1) := by decide +kernel
theorem dX12_feel_60 : decode cX12_feel 60 = .ok (.if_icmp .ne 8, 3) := by decide +kernel
theorem dX12_feel_63 : decode cX12_feel 63 = .ok (.bipush 20, 2) := by decide +kernel
theorem dX12_feel_65 : decode cX12_feel 65 = .ok (.goto 5, 3) := by decide +kernel
theorem dX12_feel_68 : decode cX12_feel 68 = .ok (.bipush 10, 2) := by decide +kernel
theorem dX12_feel_70 : decode cX12_feel 70 = .ok (.aload_n 0, 1) := by decide +kernel
theorem dX12_feel_71 : decode cX12_feel 71 = .ok (.getfield 41, 3) := by decide +kernel
theorem dX12_feel_74 : decode cX12_feel 74 = .ok (.iload_n 1, 1) := by decide +kernel
theorem dX12_feel_75 : decode cX12_feel 75 = .ok (.iaload, 1) := by decide +kernel
theorem dX12_feel_76 : decode cX12_feel 76 = .ok (.imul, 1) := by decide +kernel
theorem dX12_feel_77 : decode cX12_feel 77 = .ok (.if_icmp .le 5, 3) := by decide +kernel
theorem dX12_feel_80 : decode cX12_feel 80 = .ok (.iconst 2, 1) := by decide +kernel
theorem dX12_feel_81 : decode cX12_feel 81 = .ok (.ireturn, 1) := by decide +kernel
theorem dX12_feel_82 : decode cX12_feel 82 = .ok (.aload_n 0, 1) := by decide +kernel
theorem dX12_feel_83 : decode cX12_feel 83 = .ok (.getfield 29, 3) := by decide +kernel
theorem dX12_feel_86 : decode cX12_feel 86 = .ok (.iload_n 1, 1) := by decide +kernel
theorem dX12_feel_87 : decode cX12_feel 87 = .ok (.iaload, 1) := by decide +kernel
theorem dX12_feel_88 : decode cX12_feel 88 = .ok (.iconst 2, 1) := by decide +kernel
theorem dX12_feel_89 : decode cX12_feel 89 = .ok (.if_icmp .ne 13, 3) := by decide +kernel
theorem dX12_feel_92 : decode cX12_feel 92 = .ok (.aload_n 0, 1) := by decide +kernel
theorem dX12_feel_93 : decode cX12_feel 93 = .ok (.iload_n 1, 1) := by decide +kernel
theorem dX12_feel_94 : decode cX12_feel 94 = .ok (.invokevirtual 182, 3) := by decide +kernel
theorem dX12_feel_97 : decode cX12_feel 97 = .ok (.ifCond .eq 5, 3) := by decide +kernel
theorem dX12_feel_100 : decode cX12_feel 100 = .ok (.iconst 3, 1) := by decide +kernel
theorem dX12_feel_101 : decode cX12_feel 101 = .ok (.ireturn, 1) := by decide +kernel
theorem dX12_feel_102 : decode cX12_feel 102 = .ok (.aload_n 0, 1) := by decide +kernel
theorem dX12_feel_103 : decode cX12_feel 103 = .ok (.getfield 78, 3) := by decide +kernel
theorem dX12_feel_106 : decode cX12_feel 106 = .ok (.iload_n 1, 1) := by decide +kernel
theorem dX12_feel_107 : decode cX12_feel 107 = .ok (.dup2, 1) := by decide +kernel
theorem dX12_feel_108 : decode cX12_feel 108 = .ok (.iaload, 1) := by decide +kernel
theorem dX12_feel_109 : decode cX12_feel 109 = .ok (.aload_n 0, 1) := by decide +kernel
theorem dX12_feel_110 : decode cX12_feel 110 = .ok (.getfield 69, 3) := by decide +kernel
theorem dX12_feel_113 : decode cX12_feel 113 = .ok (.iload_n 2, 1) := by decide +kernel
theorem dX12_feel_114 : decode cX12_feel 114 = .ok (.iaload, 1) := by decide +kernel
theorem dX12_feel_115 : decode cX12_feel 115 = .ok (.i2l, 1) := by decide +kernel
theorem dX12_feel_116 : decode cX12_feel 116 = .ok (.bipush 10, 2) := by decide +kernel
theorem dX12_feel_118 : decode cX12_feel 118 = .ok (.aload_n 0, 1) := by decide +kernel
theorem dX12_feel_119 : decode cX12_feel 119 = .ok (.getfield 32, 3) := by decide +kernel
theorem dX12_feel_122 : decode cX12_feel 122 = .ok (.iload_n 1, 1) := by decide +kernel
theorem dX12_feel_123 : decode cX12_feel 123 = .ok (.iaload, 1) := by decide +kernel
theorem dX12_feel_124 : decode cX12_feel 124 = .ok (.imul, 1) := by decide +kernel
theorem dX12_feel_125 : decode cX12_feel 125 = .ok (.i2l, 1) := by decide +kernel
theorem dX12_feel_126 : decode cX12_feel 126 = .ok (.bipush 10, 2) := by decide +kernel
theorem dX12_feel_128 : decode cX12_feel 128 = .ok (.aload_n 0, 1) := by decide +kernel
theorem dX12_feel_129 : decode cX12_feel 129 = .ok (.getfield 35, 3) := by decide +kernel
theorem dX12_feel_132 : decode cX12_feel 132 = .ok (.iload_n 1, 1) := by decide +kernel
theorem dX12_feel_133 : decode cX12_feel 133 = .ok (.iaload, 1) := by decide +kernel
theorem dX12_feel_134 : decode cX12_feel 134 = .ok (.imul, 1) := by decide +kernel
theorem dX12_feel_135 : decode cX12_feel 135 = .ok (.i2l, 1) := by decide +kernel
theorem dX12_feel_136 : decode cX12_feel 136 = .ok (.invokestatic 111, 3) := by decide +kernel
theorem dX12_feel_139 : decode cX12_feel 139 = .ok (.ifCond .eq 7, 3) := by decide +kernel
theorem dX12_feel_142 : decode cX12_feel 142 = .ok (.iconst 1, 1) := by decide +kernel
theorem dX12_feel_143 : decode cX12_feel 143 = .ok (.goto 4, 3) := by decide +kernel
theorem dX12_feel_146 : decode cX12_feel 146 = .ok (.iconst 0, 1) := by decide +kernel
theorem dX12_feel_147 : decode cX12_feel 147 = .ok (.iadd, 1) := by decide +kernel
theorem dX12_feel_148 : decode cX12_feel 148 = .ok (.iastore, 1) := by decide +kernel
theorem dX12_feel_149 : decode cX12_feel 149 = .ok (.aload_n 0, 1) := by decide +kernel
theorem dX12_feel_150 : decode cX12_feel 150 = .ok (.getfield 78, 3) := by decide +kernel
theorem dX12_feel_153 : decode cX12_feel 153 = .ok (.iload_n 1, 1) := by decide +kernel
theorem dX12_feel_154 : decode cX12_feel 154 = .ok (.iaload, 1) := by decide +kernel
theorem dX12_feel_155 : decode cX12_feel 155 = .ok (.aload_n 0, 1) := by decide +kernel
theorem dX12_feel_156 : decode cX12_feel 156 = .ok (.getfield 38, 3) := by decide +kernel
theorem dX12_feel_159 : decode cX12_feel 159 = .ok (.iload_n 1, 1) := by decide +kernel
theorem dX12_feel_160 : decode cX12_feel 160 = .ok (.iaload, 1) := by decide +kernel
theorem dX12_feel_161 : decode cX12_feel 161 = .ok (.if_icmp .ne 7, 3) := by decide +kernel
theorem dX12_feel_164 : decode cX12_feel 164 = .ok (.iconst 1, 1) := by decide +kernel
theorem dX12_feel_165 : decode cX12_feel 165 = .ok (.goto 4, 3) := by decide +kernel
theorem dX12_feel_168 : decode cX12_feel 168 = .ok (.iconst 0, 1) := by decide +kernel
theorem dX12_feel_169 : decode cX12_feel 169 = .ok (.ireturn, 1) := by decide +kernel
theorem dX12_go_0 : decode cX12_go 0 = .ok (.iconst 0, 1) := by decide +kernel
theorem dX12_go_1 : decode cX12_go 1 = .ok (.istore_n 3, 1) := by decide +kernel
theorem dX12_go_2 : decode cX12_go 2 = .ok (.aload_n 0, 1) := by decide +kernel
theorem dX12_go_3 : decode cX12_go 3 = .ok (.iload_n 1, 1) := by decide +kernel
theorem dX12_go_4 : decode cX12_go 4 = .ok (.iload_n 2, 1) := by decide +kernel
theorem dX12_go_5 : decode cX12_go 5 = .ok (.invokevirtual 185, 3) := by decide +kernel
theorem dX12_go_8 : decode cX12_go 8 = .ok (.iconst 0, 1) := by decide +kernel
theorem dX12_go_9 : decode cX12_go 9 = .ok (.istore 4, 2) := by decide +kernel
theorem dX12_go_11 : decode cX12_go 11 = .ok (.iload 4, 2) := by decide +kernel
theorem dX12_go_13 : decode cX12_go 13 = .ok (.aload_n 0, 1) := by decide +kernel
theorem dX12_go_14 : decode cX12_go 14 = .ok (.getfield 115, 3) := by decide +kernel
theorem dX12_go_17 : decode cX12_go 17 = .ok (.if_icmp .ge 53, 3) := by decide +kernel
theorem dX12_go_20 : decode cX12_go 20 = .ok (.aload_n 0, 1) := by decide +kernel
theorem dX12_go_21 : decode cX12_go 21 = .ok (.getfield 81, 3) := by decide +kernel
theorem dX12_go_24 : decode cX12_go 24 = .ok (.iload 4, 2) := by decide +kernel
theorem dX12_go_26 : decode cX12_go 26 = .ok (.iaload, 1) := by decide +kernel
theorem dX12_go_27 : decode cX12_go 27 = .ok (.ifCond .ne 37, 3) := by decide +kernel
theorem dX12_go_30 : decode cX12_go 30 = .ok (.aload_n 0, 1) := by decide +kernel
theorem dX12_go_31 : decode cX12_go 31 = .ok (.getfield 81, 3) := by decide +kernel
theorem dX12_go_34 : decode cX12_go 34 = .ok (.iload 4, 2) := by decide +kernel
theorem dX12_go_36 : decode cX12_go 36 = .ok (.aload_n 0, 1) := by decide +kernel
theorem dX12_go_37 : decode cX12_go 37 = .ok (.iload 4, 2) := by decide +kernel
theorem dX12_go_39 : decode cX12_go 39 = .ok (.invokevirtual 189, 3) := by decide +kernel
theorem dX12_go_42 : decode cX12_go 42 = .ok (.iastore, 1) := by decide +kernel
theorem dX12_go_43 : decode cX12_go 43 = .ok (.iload_n 3, 1) := by decide +kernel
theorem dX12_go_44 : decode cX12_go 44 = .ok (.aload_n 0, 1) := by decide +kernel
theorem dX12_go_45 : decode cX12_go 45 = .ok (.getfield 81, 3) := by decide +kernel
theorem dX12_go_48 : decode cX12_go 48 = .ok (.iload 4, 2) := by decide +kernel
theorem dX12_go_50 : decode cX12_go 50 = .ok (.iaload, 1) := by decide +kernel
theorem dX12_go_51 : decode cX12_go 51 = .ok (.ifCond .eq 10, 3) := by decide +kernel
theorem dX12_go_54 : decode cX12_go 54 = .ok (.iconst 1, 1) := by decide +kernel
theorem dX12_go_55 : decode cX12_go 55 = .ok (.iload 4, 2) := by decide +kernel
theorem dX12_go_57 : decode cX12_go 57 = .ok (.ishl, 1) := by decide +kernel
theorem dX12_go_58 : decode cX12_go 58 = .ok (.goto 4, 3) := by decide +kernel
theorem dX12_go_61 : decode cX12_go 61 = .ok (.iconst 0, 1) := by decide +kernel
theorem dX12_go_62 : decode cX12_go 62 = .ok (.ior, 1) := by decide +kernel
theorem dX12_go_63 : decode cX12_go 63 = .ok (.istore_n 3, 1) := by decide +kernel
theorem dX12_go_64 : decode cX12_go 64 = .ok (.iinc 4 1, 3) := by decide +kernel
theorem dX12_go_67 : decode cX12_go 67 = .ok (.goto (-56), 3) := by decide +kernel
theorem dX12_go_70 : decode cX12_go 70 = .ok (.iload_n 3, 1) := by decide +kernel
theorem dX12_go_71 : decode cX12_go 71 = .ok (.ireturn, 1) := by decide +kernel
theorem dX12_goMany_0 : decode cX12_goMany 0 = .ok (.iconst 0, 1) := by decide +kernel
theorem dX12_goMany_1 : decode cX12_goMany 1 = .ok (.istore_n 3, 1) := by decide +kernel
theorem dX12_goMany_2 : decode cX12_goMany 2 = .ok (.iload_n 3, 1) := by decide +kernel
theorem dX12_goMany_3 : decode cX12_goMany 3 = .ok (.iload_n 1, 1) := by decide +kernel
theorem dX12_goMany_4 : decode cX12_goMany 4 = .ok (.if_icmp .ge 16, 3) := by decide +kernel
theorem dX12_goMany_7 : decode cX12_goMany 7 = .ok (.aload_n 0, 1) := by decide +kernel
theorem dX12_goMany_8 : decode cX12_goMany 8 = .ok (.iload_n 2, 1) := by decide +kernel
theorem dX12_goMany_9 : decode cX12_goMany 9 = .ok (.iconst 0, 1) := by decide +kernel
theorem dX12_goMany_10 : decode cX12_goMany 10 = .ok (.invokevirtual 192, 3) := by decide +kernel
theorem dX12_goMany_13 : decode cX12_goMany 13 = .ok (.pop, 1) := by decide +kernel
theorem dX12_goMany_14 : decode cX12_goMany 14 = .ok (.iinc 3 1, 3) := by decide +kernel
theorem dX12_goMany_17 : decode cX12_goMany 17 = .ok (.goto (-15), 3) := by decide +kernel
theorem dX12_goMany_20 : decode cX12_goMany 20 = .ok (.return_, 1) := by decide +kernel
theorem dX12_note_0 : decode cX12_note 0 = .ok (.aload_n 0, 1) := by decide +kernel
theorem dX12_note_1 : decode cX12_note 1 = .ok (.getfield 159, 3) := by decide +kernel
theorem dX12_note_4 : decode cX12_note 4 = .ok (.bipush 12, 2) := by decide +kernel
theorem dX12_note_6 : decode cX12_note 6 = .ok (.if_icmp .ne 43, 3) := by decide +kernel
theorem dX12_note_9 : decode cX12_note 9 = .ok (.iconst 0, 1) := by decide +kernel
theorem dX12_note_10 : decode cX12_note 10 = .ok (.istore_n 1, 1) := by decide +kernel
theorem dX12_note_11 : decode cX12_note 11 = .ok (.iload_n 1, 1) := by decide +kernel
theorem dX12_note_12 : decode cX12_note 12 = .ok (.sipush 176, 3) := by decide +kernel
theorem dX12_note_15 : decode cX12_note 15 = .ok (.if_icmp .ge 24, 3) := by decide +kernel
theorem dX12_note_18 : decode cX12_note 18 = .ok (.aload_n 0, 1) := by decide +kernel
theorem dX12_note_19 : decode cX12_note 19 = .ok (.getfield 59, 3) := by decide +kernel
theorem dX12_note_22 : decode cX12_note 22 = .ok (.iload_n 1, 1) := by decide +kernel
theorem dX12_note_23 : decode cX12_note 23 = .ok (.aload_n 0, 1) := by decide +kernel
theorem dX12_note_24 : decode cX12_note 24 = .ok (.getfield 59, 3) := by decide +kernel
theorem dX12_note_27 : decode cX12_note 27 = .ok (.iload_n 1, 1) := by decide +kernel
theorem dX12_note_28 : decode cX12_note 28 = .ok (.bipush 16, 2) := by decide +kernel
theorem dX12_note_30 : decode cX12_note 30 = .ok (.iadd, 1) := by decide +kernel
theorem dX12_note_31 : decode cX12_note 31 = .ok (.iaload, 1) := by decide +kernel
theorem dX12_note_32 : decode cX12_note 32 = .ok (.iastore, 1) := by decide +kernel
theorem dX12_note_33 : decode cX12_note 33 = .ok (.iinc 1 1, 3) := by decide +kernel
theorem dX12_note_36 : decode cX12_note 36 = .ok (.goto (-25), 3) := by decide +kernel
theorem dX12_note_39 : decode cX12_note 39 = .ok (.aload_n 0, 1) := by decide +kernel
theorem dX12_note_40 : decode cX12_note 40 = .ok (.dup, 1) := by decide +kernel
theorem dX12_note_41 : decode cX12_note 41 = .ok (.getfield 159, 3) := by decide +kernel
theorem dX12_note_44 : decode cX12_note 44 = .ok (.iconst 1, 1) := by decide +kernel
theorem dX12_note_45 : decode cX12_note 45 = .ok (.isub, 1) := by decide +kernel
theorem dX12_note_46 : decode cX12_note 46 = .ok (.putfield 159, 3) := by decide +kernel
theorem dX12_note_49 : decode cX12_note 49 = .ok (.bipush 16, 2) := by decide +kernel
theorem dX12_note_51 : decode cX12_note 51 = .ok (.aload_n 0, 1) := by decide +kernel
theorem dX12_note_52 : decode cX12_note 52 = .ok (.getfield 159, 3) := by decide +kernel
theorem dX12_note_55 : decode cX12_note 55 = .ok (.imul, 1) := by decide +kernel
theorem dX12_note_56 : decode cX12_note 56 = .ok (.istore_n 1, 1) := by decide +kernel
theorem dX12_note_57 : decode cX12_note 57 = .ok (.iconst 0, 1) := by decide +kernel
theorem dX12_note_58 : decode cX12_note 58 = .ok (.istore_n 2, 1) := by decide +kernel
theorem dX12_note_59 : decode cX12_note 59 = .ok (.iload_n 2, 1) := by decide +kernel
theorem dX12_note_60 : decode cX12_note 60 = .ok (.iconst 5, 1) := by decide +kernel
theorem dX12_note_61 : decode cX12_note 61 = .ok (.if_icmp .ge 56, 3) := by decide +kernel
theorem dX12_note_64 : decode cX12_note 64 = .ok (.aload_n 0, 1) := by decide +kernel
theorem dX12_note_65 : decode cX12_note 65 = .ok (.getfield 59, 3) := by decide +kernel
theorem dX12_note_68 : decode cX12_note 68 = .ok (.iload_n 1, 1) := by decide +kernel
theorem dX12_note_69 : decode cX12_note 69 = .ok (.iload_n 2, 1) := by decide +kernel
theorem dX12_note_70 : decode cX12_note 70 = .ok (.iadd, 1) := by decide +kernel
theorem dX12_note_71 : decode cX12_note 71 = .ok (.aload_n 0, 1) := by decide +kernel
theorem dX12_note_72 : decode cX12_note 72 = .ok (.getfield 23, 3) := by decide +kernel
theorem dX12_note_75 : decode cX12_note 75 = .ok (.iload_n 2, 1) := by decide +kernel
theorem dX12_note_76 : decode cX12_note 76 = .ok (.iaload, 1) := by decide +kernel
theorem dX12_note_77 : decode cX12_note 77 = .ok (.iastore, 1) := by decide +kernel
theorem dX12_note_78 : decode cX12_note 78 = .ok (.aload_n 0, 1) := by decide +kernel
theorem dX12_note_79 : decode cX12_note 79 = .ok (.getfield 59, 3) := by decide +kernel
theorem dX12_note_82 : decode cX12_note 82 = .ok (.iload_n 1, 1) := by decide +kernel
theorem dX12_note_83 : decode cX12_note 83 = .ok (.iconst 5, 1) := by decide +kernel
theorem dX12_note_84 : decode cX12_note 84 = .ok (.iadd, 1) := by decide +kernel
theorem dX12_note_85 : decode cX12_note 85 = .ok (.iload_n 2, 1) := by decide +kernel
theorem dX12_note_86 : decode cX12_note 86 = .ok (.iadd, 1) := by decide +kernel
theorem dX12_note_87 : decode cX12_note 87 = .ok (.aload_n 0, 1) := by decide +kernel
theorem dX12_note_88 : decode cX12_note 88 = .ok (.getfield 44, 3) := by decide +kernel
theorem dX12_note_91 : decode cX12_note 91 = .ok (.iload_n 2, 1) := by decide +kernel
theorem dX12_note_92 : decode cX12_note 92 = .ok (.iaload, 1) := by decide +kernel
theorem dX12_note_93 : decode cX12_note 93 = .ok (.iastore, 1) := by decide +kernel
theorem dX12_note_94 : decode cX12_note 94 = .ok (.aload_n 0, 1) := by decide +kernel
theorem dX12_note_95 : decode cX12_note 95 = .ok (.getfield 59, 3) := by decide +kernel
theorem dX12_note_98 : decode cX12_note 98 = .ok (.iload_n 1, 1) := by decide +kernel
theorem dX12_note_99 : decode cX12_note 99 = .ok (.bipush 10, 2) := by decide +kernel
theorem dX12_note_101 : decode cX12_note 101 = .ok (.iadd, 1) := by decide +kernel
theorem dX12_note_102 : decode cX12_note 102 = .ok (.iload_n 2, 1) := by decide +kernel
theorem dX12_note_103 : decode cX12_note 103 = .ok (.iadd, 1) := by decide +kernel
theorem dX12_note_104 : decode cX12_note 104 = .ok (.aload_n 0, 1) := by decide +kernel
theorem dX12_note_105 : decode cX12_note 105 = .ok (.getfield 47, 3) := by decide +kernel
theorem dX12_note_108 : decode cX12_note 108 = .ok (.iload_n 2, 1) := by decide +kernel
theorem dX12_note_109 : decode cX12_note 109 = .ok (.iaload, 1) := by decide +kernel
theorem dX12_note_110 : decode cX12_note 110 = .ok (.iastore, 1) := by decide +kernel
theorem dX12_note_111 : decode cX12_note 111 = .ok (.iinc 2 1, 3) := by decide +kernel
theorem dX12_note_114 : decode cX12_note 114 = .ok (.goto (-55), 3) := by decide +kernel
theorem dX12_note_117 : decode cX12_note 117 = .ok (.aload_n 0, 1) := by decide +kernel
theorem dX12_note_118 : decode cX12_note 118 = .ok (.getfield 59, 3) := by decide +kernel
theorem dX12_note_121 : decode cX12_note 121 = .ok (.iload_n 1, 1) := by decide +kernel
theorem dX12_note_122 : decode cX12_note 122 = .ok (.bipush 15, 2) := by decide +kernel
theorem dX12_note_124 : decode cX12_note 124 = .ok (.iadd, 1) := by decide +kernel
theorem dX12_note_125 : decode cX12_note 125 = .ok (.aload_n 0, 1) := by decide +kernel
theorem dX12_note_126 : decode cX12_note 126 = .ok (.getfield 156, 3) := by decide +kernel
theorem dX12_note_129 : decode cX12_note 129 = .ok (.iastore, 1) := by decide +kernel
theorem dX12_note_130 : decode cX12_note 130 = .ok (.aload_n 0, 1) := by decide +kernel
theorem dX12_note_131 : decode cX12_note 131 = .ok (.dup, 1) := by decide +kernel
theorem dX12_note_132 : decode cX12_note 132 = .ok (.getfield 159, 3) := by decide +kernel
theorem dX12_note_135 : decode cX12_note 135 = .ok (.iconst 1, 1) := by decide +kernel
theorem dX12_note_136 : decode cX12_note 136 = .ok (.iadd, 1) := by decide +kernel
theorem dX12_note_137 : decode cX12_note 137 = .ok (.putfield 159, 3) := by decide +kernel
theorem dX12_note_140 : decode cX12_note 140 = .ok (.return_, 1) := by decide +kernel
theorem dX12_quarter_0 : decode cX12_quarter 0 = .ok (.aload_n 0, 1) := by decide +kernel
theorem dX12_quarter_1 : decode cX12_quarter 1 = .ok (.iconst 0, 1) := by decide +kernel
theorem dX12_quarter_2 : decode cX12_quarter 2 = .ok (.putfield 108, 3) := by decide +kernel
theorem dX12_quarter_5 : decode cX12_quarter 5 = .ok (.iload_n 1, 1) := by decide +kernel
theorem dX12_quarter_6 : decode cX12_quarter 6 = .ok (.i2l, 1) := by decide +kernel
theorem dX12_quarter_7 : decode cX12_quarter 7 = .ok (.lconst 0, 1) := by decide +kernel
theorem dX12_quarter_8 : decode cX12_quarter 8 = .ok (.ldc2_w 118, 3) := by decide +kernel
theorem dX12_quarter_11 : decode cX12_quarter 11 = .ok (.invokestatic 111, 3) := by decide +kernel
theorem dX12_quarter_14 : decode cX12_quarter 14 = .ok (.ifCond .ne 6, 3) := by decide +kernel
theorem dX12_quarter_17 : decode cX12_quarter 17 = .ok (.bipush (-2), 2) := by decide +kernel
theorem dX12_quarter_19 : decode cX12_quarter 19 = .ok (.ireturn, 1) := by decide +kernel
theorem dX12_quarter_20 : decode cX12_quarter 20 = .ok (.aload_n 0, 1) := by decide +kernel
theorem dX12_quarter_21 : decode cX12_quarter 21 = .ok (.invokevirtual 196, 3) := by decide +kernel
theorem dX12_quarter_24 : decode cX12_quarter 24 = .ok (.aload_n 0, 1) := by decide +kernel
theorem dX12_quarter_25 : decode cX12_quarter 25 = .ok (.invokevirtual 199, 3) := by decide +kernel
theorem dX12_quarter_28 : decode cX12_quarter 28 = .ok (.aload_n 0, 1) := by decide +kernel
theorem dX12_quarter_29 : decode cX12_quarter 29 = .ok (.iload_n 1, 1) := by decide +kernel
theorem dX12_quarter_30 : decode cX12_quarter 30 = .ok (.iconst 0, 1) := by decide +kernel
theorem dX12_quarter_31 : decode cX12_quarter 31 = .ok (.invokevirtual 192, 3) := by decide +kernel
theorem dX12_quarter_34 : decode cX12_quarter 34 = .ok (.istore_n 2, 1) := by decide +kernel
theorem dX12_quarter_35 : decode cX12_quarter 35 = .ok (.iconst 0, 1) := by decide +kernel
theorem dX12_quarter_36 : decode cX12_quarter 36 = .ok (.istore_n 3, 1) := by decide +kernel
theorem dX12_quarter_37 : decode cX12_quarter 37 = .ok (.iload_n 3, 1) := by decide +kernel
theorem dX12_quarter_38 : decode cX12_quarter 38 = .ok (.aload_n 0, 1) := by decide +kernel
theorem dX12_quarter_39 : decode cX12_quarter 39 = .ok (.getfield 13, 3) := by decide +kernel
theorem dX12_quarter_42 : decode cX12_quarter 42 = .ok (.if_icmp .ge 21, 3) := by decide +kernel
theorem dX12_quarter_45 : decode cX12_quarter 45 = .ok (.aload_n 0, 1) := by decide +kernel
theorem dX12_quarter_46 : decode cX12_quarter 46 = .ok (.getfield 23, 3) := by decide +kernel
theorem dX12_quarter_49 : decode cX12_quarter 49 = .ok (.iload_n 3, 1) := by decide +kernel
theorem dX12_quarter_50 : decode cX12_quarter 50 = .ok (.aload_n 0, 1) := by decide +kernel
theorem dX12_quarter_51 : decode cX12_quarter 51 = .ok (.getfield 69, 3) := by decide +kernel
theorem dX12_quarter_54 : decode cX12_quarter 54 = .ok (.iload_n 3, 1) := by decide +kernel
theorem dX12_quarter_55 : decode cX12_quarter 55 = .ok (.iaload, 1) := by decide +kernel
theorem dX12_quarter_56 : decode cX12_quarter 56 = .ok (.iastore, 1) := by decide +kernel
theorem dX12_quarter_57 : decode cX12_quarter 57 = .ok (.iinc 3 1, 3) := by decide +kernel
theorem dX12_quarter_60 : decode cX12_quarter 60 = .ok (.goto (-23), 3) := by decide +kernel
theorem dX12_quarter_63 : decode cX12_quarter 63 = .ok (.iconst 0, 1) := by decide +kernel
theorem dX12_quarter_64 : decode cX12_quarter 64 = .ok (.istore_n 3, 1) := by decide +kernel
theorem dX12_quarter_65 : decode cX12_quarter 65 = .ok (.iload_n 3, 1) := by decide +kernel
theorem dX12_quarter_66 : decode cX12_quarter 66 = .ok (.aload_n 0, 1) := by decide +kernel
theorem dX12_quarter_67 : decode cX12_quarter 67 = .ok (.getfield 115, 3) := by decide +kernel
theorem dX12_quarter_70 : decode cX12_quarter 70 = .ok (.if_icmp .ge 33, 3) := by decide +kernel
theorem dX12_quarter_73 : decode cX12_quarter 73 = .ok (.aload_n 0, 1) := by decide +kernel
theorem dX12_quarter_74 : decode cX12_quarter 74 = .ok (.getfield 44, 3) := by decide +kernel
theorem dX12_quarter_77 : decode cX12_quarter 77 = .ok (.iload_n 3, 1) := by decide +kernel
theorem dX12_quarter_78 : decode cX12_quarter 78 = .ok (.aload_n 0, 1) := by decide +kernel
theorem dX12_quarter_79 : decode cX12_quarter 79 = .ok (.getfield 78, 3) := by decide +kernel
theorem dX12_quarter_82 : decode cX12_quarter 82 = .ok (.iload_n 3, 1) := by decide +kernel
theorem dX12_quarter_83 : decode cX12_quarter 83 = .ok (.iaload, 1) := by decide +kernel
theorem dX12_quarter_84 : decode cX12_quarter 84 = .ok (.iastore, 1) := by decide +kernel
theorem dX12_quarter_85 : decode cX12_quarter 85 = .ok (.aload_n 0, 1) := by decide +kernel
theorem dX12_quarter_86 : decode cX12_quarter 86 = .ok (.getfield 47, 3) := by decide +kernel
theorem dX12_quarter_89 : decode cX12_quarter 89 = .ok (.iload_n 3, 1) := by decide +kernel
theorem dX12_quarter_90 : decode cX12_quarter 90 = .ok (.aload_n 0, 1) := by decide +kernel
theorem dX12_quarter_91 : decode cX12_quarter 91 = .ok (.getfield 81, 3) := by decide +kernel
theorem dX12_quarter_94 : decode cX12_quarter 94 = .ok (.iload_n 3, 1) := by decide +kernel
theorem dX12_quarter_95 : decode cX12_quarter 95 = .ok (.iaload, 1) := by decide +kernel
theorem dX12_quarter_96 : decode cX12_quarter 96 = .ok (.iastore, 1) := by decide +kernel
theorem dX12_quarter_97 : decode cX12_quarter 97 = .ok (.iinc 3 1, 3) := by decide +kernel
theorem dX12_quarter_100 : decode cX12_quarter 100 = .ok (.goto (-35), 3) := by decide +kernel
theorem dX12_quarter_103 : decode cX12_quarter 103 = .ok (.aload_n 0, 1) := by decide +kernel
theorem dX12_quarter_104 : decode cX12_quarter 104 = .ok (.dup, 1) := by decide +kernel
theorem dX12_quarter_105 : decode cX12_quarter 105 = .ok (.getfield 156, 3) := by decide +kernel
theorem dX12_quarter_108 : decode cX12_quarter 108 = .ok (.aload_n 0, 1) := by decide +kernel
theorem dX12_quarter_109 : decode cX12_quarter 109 = .ok (.getfield 179, 3) := by decide +kernel
theorem dX12_quarter_112 : decode cX12_quarter 112 = .ok (.iadd, 1) := by decide +kernel
theorem dX12_quarter_113 : decode cX12_quarter 113 = .ok (.putfield 156, 3) := by decide +kernel
theorem dX12_quarter_116 : decode cX12_quarter 116 = .ok (.iload_n 2, 1) := by decide +kernel
theorem dX12_quarter_117 : decode cX12_quarter 117 = .ok (.ireturn, 1) := by decide +kernel
theorem dX12_undo_0 : decode cX12_undo 0 = .ok (.aload_n 0, 1) := by decide +kernel
theorem dX12_undo_1 : decode cX12_undo 1 = .ok (.iconst 0, 1) := by decide +kernel
theorem dX12_undo_2 : decode cX12_undo 2 = .ok (.putfield 108, 3) := by decide +kernel
theorem dX12_undo_5 : decode cX12_undo 5 = .ok (.aload_n 0, 1) := by decide +kernel
theorem dX12_undo_6 : decode cX12_undo 6 = .ok (.getfield 159, 3) := by decide +kernel
theorem dX12_undo_9 : decode cX12_undo 9 = .ok (.ifCond .ne 6, 3) := by decide +kernel
theorem dX12_undo_12 : decode cX12_undo 12 = .ok (.bipush (-3), 2) := by decide +kernel
theorem dX12_undo_14 : decode cX12_undo 14 = .ok (.ireturn, 1) := by decide +kernel
theorem dX12_undo_15 : decode cX12_undo 15 = .ok (.aload_n 0, 1) := by decide +kernel
theorem dX12_undo_16 : decode cX12_undo 16 = .ok (.dup, 1) := by decide +kernel
theorem dX12_undo_17 : decode cX12_undo 17 = .ok (.getfield 159, 3) := by decide +kernel
theorem dX12_undo_20 : decode cX12_undo 20 = .ok (.iconst 1, 1) := by decide +kernel
theorem dX12_undo_21 : decode cX12_undo 21 = .ok (.isub, 1) := by decide +kernel
theorem dX12_undo_22 : decode cX12_undo 22 = .ok (.putfield 159, 3) := by decide +kernel
theorem dX12_undo_25 : decode cX12_undo 25 = .ok (.bipush 16, 2) := by decide +kernel
theorem dX12_undo_27 : decode cX12_undo 27 = .ok (.aload_n 0, 1) := by decide +kernel
theorem dX12_undo_28 : decode cX12_undo 28 = .ok (.getfield 159, 3) := by decide +kernel
theorem dX12_undo_31 : decode cX12_undo 31 = .ok (.imul, 1) := by decide +kernel
theorem dX12_undo_32 : decode cX12_undo 32 = .ok (.istore_n 1, 1) := by decide +kernel
theorem dX12_undo_33 : decode cX12_undo 33 = .ok (.iconst 0, 1) := by decide +kernel
theorem dX12_undo_34 : decode cX12_undo 34 = .ok (.istore_n 2, 1) := by decide +kernel
theorem dX12_undo_35 : decode cX12_undo 35 = .ok (.iload_n 2, 1) := by decide +kernel
theorem dX12_undo_36 : decode cX12_undo 36 = .ok (.iconst 5, 1) := by decide +kernel
theorem dX12_undo_37 : decode cX12_undo 37 = .ok (.if_icmp .ge 56, 3) := by decide +kernel
theorem dX12_undo_40 : decode cX12_undo 40 = .ok (.aload_n 0, 1) := by decide +kernel
theorem dX12_undo_41 : decode cX12_undo 41 = .ok (.getfield 23, 3) := by decide +kernel
theorem dX12_undo_44 : decode cX12_undo 44 = .ok (.iload_n 2, 1) := by decide +kernel
theorem dX12_undo_45 : decode cX12_undo 45 = .ok (.aload_n 0, 1) := by decide +kernel
theorem dX12_undo_46 : decode cX12_undo 46 = .ok (.getfield 59, 3) := by decide +kernel
theorem dX12_undo_49 : decode cX12_undo 49 = .ok (.iload_n 1, 1) := by decide +kernel
theorem dX12_undo_50 : decode cX12_undo 50 = .ok (.iload_n 2, 1) := by decide +kernel
theorem dX12_undo_51 : decode cX12_undo 51 = .ok (.iadd, 1) := by decide +kernel
theorem dX12_undo_52 : decode cX12_undo 52 = .ok (.iaload, 1) := by decide +kernel
theorem dX12_undo_53 : decode cX12_undo 53 = .ok (.iastore, 1) := by decide +kernel
theorem dX12_undo_54 : decode cX12_undo 54 = .ok (.aload_n 0, 1) := by decide +kernel
theorem dX12_undo_55 : decode cX12_undo 55 = .ok (.getfield 44, 3) := by decide +kernel
theorem dX12_undo_58 : decode cX12_undo 58 = .ok (.iload_n 2, 1) := by decide +kernel
theorem dX12_undo_59 : decode cX12_undo 59 = .ok (.aload_n 0, 1) := by decide +kernel
theorem dX12_undo_60 : decode cX12_undo 60 = .ok (.getfield 59, 3) := by decide +kernel
theorem dX12_undo_63 : decode cX12_undo 63 = .ok (.iload_n 1, 1) := by decide +kernel
theorem dX12_undo_64 : decode cX12_undo 64 = .ok (.iconst 5, 1) := by decide +kernel
theorem dX12_undo_65 : decode cX12_undo 65 = .ok (.iadd, 1) := by decide +kernel
theorem dX12_undo_66 : decode cX12_undo 66 = .ok (.iload_n 2, 1) := by decide +kernel
theorem dX12_undo_67 : decode cX12_undo 67 = .ok (.iadd, 1) := by decide +kernel
theorem dX12_undo_68 : decode cX12_undo 68 = .ok (.iaload, 1) := by decide +kernel
theorem dX12_undo_69 : decode cX12_undo 69 = .ok (.iastore, 1) := by decide +kernel
theorem dX12_undo_70 : decode cX12_undo 70 = .ok (.aload_n 0, 1) := by decide +kernel
theorem dX12_undo_71 : decode cX12_undo 71 = .ok (.getfield 47, 3) := by decide +kernel
theorem dX12_undo_74 : decode cX12_undo 74 = .ok (.iload_n 2, 1) := by decide +kernel
theorem dX12_undo_75 : decode cX12_undo 75 = .ok (.aload_n 0, 1) := by decide +kernel
theorem dX12_undo_76 : decode cX12_undo 76 = .ok (.getfield 59, 3) := by decide +kernel
theorem dX12_undo_79 : decode cX12_undo 79 = .ok (.iload_n 1, 1) := by decide +kernel
theorem dX12_undo_80 : decode cX12_undo 80 = .ok (.bipush 10, 2) := by decide +kernel
theorem dX12_undo_82 : decode cX12_undo 82 = .ok (.iadd, 1) := by decide +kernel
theorem dX12_undo_83 : decode cX12_undo 83 = .ok (.iload_n 2, 1) := by decide +kernel
theorem dX12_undo_84 : decode cX12_undo 84 = .ok (.iadd, 1) := by decide +kernel
theorem dX12_undo_85 : decode cX12_undo 85 = .ok (.iaload, 1) := by decide +kernel
theorem dX12_undo_86 : decode cX12_undo 86 = .ok (.iastore, 1) := by decide +kernel
theorem dX12_undo_87 : decode cX12_undo 87 = .ok (.iinc 2 1, 3) := by decide +kernel
theorem dX12_undo_90 : decode cX12_undo 90 = .ok (.goto (-55), 3) := by decide +kernel
theorem dX12_undo_93 : decode cX12_undo 93 = .ok (.aload_n 0, 1) := by decide +kernel
theorem dX12_undo_94 : decode cX12_undo 94 = .ok (.aload_n 0, 1) := by decide +kernel
theorem dX12_undo_95 : decode cX12_undo 95 = .ok (.getfield 59, 3) := by decide +kernel
theorem dX12_undo_98 : decode cX12_undo 98 = .ok (.iload_n 1, 1) := by decide +kernel
theorem dX12_undo_99 : decode cX12_undo 99 = .ok (.bipush 15, 2) := by decide +kernel
theorem dX12_undo_101 : decode cX12_undo 101 = .ok (.iadd, 1) := by decide +kernel
theorem dX12_undo_102 : decode cX12_undo 102 = .ok (.iaload, 1) := by decide +kernel
theorem dX12_undo_103 : decode cX12_undo 103 = .ok (.putfield 156, 3) := by decide +kernel
theorem dX12_undo_106 : decode cX12_undo 106 = .ok (.aload_n 0, 1) := by decide +kernel
theorem dX12_undo_107 : decode cX12_undo 107 = .ok (.getfield 159, 3) := by decide +kernel
theorem dX12_undo_110 : decode cX12_undo 110 = .ok (.ireturn, 1) := by decide +kernel
theorem dX12_warm_0 : decode cX12_warm 0 = .ok (.aload_n 0, 1) := by decide +kernel
theorem dX12_warm_1 : decode cX12_warm 1 = .ok (.iconst 0, 1) := by decide +kernel
theorem dX12_warm_2 : decode cX12_warm 2 = .ok (.putfield 108, 3) := by decide +kernel
theorem dX12_warm_5 : decode cX12_warm 5 = .ok (.aload_n 0, 1) := by decide +kernel
theorem dX12_warm_6 : decode cX12_warm 6 = .ok (.iload_n 1, 1) := by decide +kernel
theorem dX12_warm_7 : decode cX12_warm 7 = .ok (.invokevirtual 172, 3) := by decide +kernel
theorem dX12_warm_10 : decode cX12_warm 10 = .ok (.ifCond .eq 5, 3) := by decide +kernel
theorem dX12_warm_13 : decode cX12_warm 13 = .ok (.iconst (-1), 1) := by decide +kernel
theorem dX12_warm_14 : decode cX12_warm 14 = .ok (.ireturn, 1) := by decide +kernel
theorem dX12_warm_15 : decode cX12_warm 15 = .ok (.iload_n 2, 1) := by decide +kernel
theorem dX12_warm_16 : decode cX12_warm 16 = .ok (.iload_n 3, 1) := by decide +kernel
theorem dX12_warm_17 : decode cX12_warm 17 = .ok (.invokestatic 202, 3) := by decide +kernel
theorem dX12_warm_20 : decode cX12_warm 20 = .ok (.ifCond .eq 6, 3) := by decide +kernel
theorem dX12_warm_23 : decode cX12_warm 23 = .ok (.bipush (-2), 2) := by decide +kernel
theorem dX12_warm_25 : decode cX12_warm 25 = .ok (.ireturn, 1) := by decide +kernel
theorem dX12_warm_26 : decode cX12_warm 26 = .ok (.aload_n 0, 1) := by decide +kernel
theorem dX12_warm_27 : decode cX12_warm 27 = .ok (.invokevirtual 199, 3) := by decide +kernel
theorem dX12_warm_30 : decode cX12_warm 30 = .ok (.aload_n 0, 1) := by decide +kernel
theorem dX12_warm_31 : decode cX12_warm 31 = .ok (.iload_n 2, 1) := by decide +kernel
theorem dX12_warm_32 : decode cX12_warm 32 = .ok (.iload_n 3, 1) := by decide +kernel
theorem dX12_warm_33 : decode cX12_warm 33 = .ok (.invokevirtual 205, 3) := by decide +kernel
theorem dX12_warm_36 : decode cX12_warm 36 = .ok (.aload_n 0, 1) := by decide +kernel
theorem dX12_warm_37 : decode cX12_warm 37 = .ok (.getfield 69, 3) := by decide +kernel
theorem dX12_warm_40 : decode cX12_warm 40 = .ok (.iload_n 1, 1) := by decide +kernel
theorem dX12_warm_41 : decode cX12_warm 41 = .ok (.iaload, 1) := by decide +kernel
theorem dX12_warm_42 : decode cX12_warm 42 = .ok (.ireturn, 1) := by decide +kernel
theorem dX12_then_0 : decode cX12_then 0 = .ok (.aload_n 0, 1) := by decide +kernel
theorem dX12_then_1 : decode cX12_then 1 = .ok (.iconst 0, 1) := by decide +kernel
theorem dX12_then_2 : decode cX12_then 2 = .ok (.putfield 108, 3) := by decide +kernel
theorem dX12_then_5 : decode cX12_then 5 = .ok (.aload_n 0, 1) := by decide +kernel
theorem dX12_then_6 : decode cX12_then 6 = .ok (.iload_n 1, 1) := by decide +kernel
theorem dX12_then_7 : decode cX12_then 7 = .ok (.invokevirtual 176, 3) := by decide +kernel
theorem dX12_then_10 : decode cX12_then 10 = .ok (.ifCond .eq 5, 3) := by decide +kernel
theorem dX12_then_13 : decode cX12_then 13 = .ok (.iconst (-1), 1) := by decide +kernel
theorem dX12_then_14 : decode cX12_then 14 = .ok (.ireturn, 1) := by decide +kernel
theorem dX12_then_15 : decode cX12_then 15 = .ok (.iload_n 2, 1) := by decide +kernel
theorem dX12_then_16 : decode cX12_then 16 = .ok (.iload_n 3, 1) := by decide +kernel
theorem dX12_then_17 : decode cX12_then 17 = .ok (.invokestatic 202, 3) := by decide +kernel
theorem dX12_then_20 : decode cX12_then 20 = .ok (.ifCond .eq 6, 3) := by decide +kernel
theorem dX12_then_23 : decode cX12_then 23 = .ok (.bipush (-2), 2) := by decide +kernel
theorem dX12_then_25 : decode cX12_then 25 = .ok (.ireturn, 1) := by decide +kernel
theorem dX12_then_26 : decode cX12_then 26 = .ok (.aload_n 0, 1) := by decide +kernel
theorem dX12_then_27 : decode cX12_then 27 = .ok (.invokevirtual 199, 3) := by decide +kernel
theorem dX12_then_30 : decode cX12_then 30 = .ok (.aload_n 0, 1) := by decide +kernel
theorem dX12_then_31 : decode cX12_then 31 = .ok (.iload_n 2, 1) := by decide +kernel
theorem dX12_then_32 : decode cX12_then 32 = .ok (.iload_n 3, 1) := by decide +kernel
theorem dX12_then_33 : decode cX12_then 33 = .ok (.invokevirtual 205, 3) := by decide +kernel
theorem dX12_then_36 : decode cX12_then 36 = .ok (.aload_n 0, 1) := by decide +kernel
theorem dX12_then_37 : decode cX12_then 37 = .ok (.getfield 81, 3) := by decide +kernel
theorem dX12_then_40 : decode cX12_then 40 = .ok (.iload_n 1, 1) := by decide +kernel
theorem dX12_then_41 : decode cX12_then 41 = .ok (.iaload, 1) := by decide +kernel
theorem dX12_then_42 : decode cX12_then 42 = .ok (.ireturn, 1) := by decide +kernel
theorem dX12_findLeast_0 : decode cX12_findLeast 0 = .ok (.iload_n 2, 1) := by decide +kernel
theorem dX12_findLeast_1 : decode cX12_findLeast 1 = .ok (.iconst 1, 1) := by decide +kernel
theorem dX12_findLeast_2 : decode cX12_findLeast 2 = .ok (.if_icmp .ne 8, 3) := by decide +kernel
theorem dX12_findLeast_5 : decode cX12_findLeast 5 = .ok (.bipush 10, 2) := by decide +kernel
theorem dX12_findLeast_7 : decode cX12_findLeast 7 = .ok (.goto 16, 3) := by decide +kernel
theorem dX12_findLeast_10 : decode cX12_findLeast 10 = .ok (.iload_n 2, 1) := by decide +kernel
theorem dX12_findLeast_11 : decode cX12_findLeast 11 = .ok (.iconst 2, 1) := by decide +kernel
theorem dX12_findLeast_12 : decode cX12_findLeast 12 = .ok (.if_icmp .ne 8, 3) := by decide +kernel
theorem dX12_findLeast_15 : decode cX12_findLeast 15 = .ok (.bipush 100, 2) := by decide +kernel
theorem dX12_findLeast_17 : decode cX12_findLeast 17 = .ok (.goto 6, 3) := by decide +kernel
theorem dX12_findLeast_20 : decode cX12_findLeast 20 = .ok (.sipush 1000, 3) := by decide +kernel
theorem dX12_findLeast_23 : decode cX12_findLeast 23 = .ok (.istore_n 3, 1) := by decide +kernel
theorem dX12_findLeast_24 : decode cX12_findLeast 24 = .ok (.bipush (-9), 2) := by decide +kernel
theorem dX12_findLeast_26 : decode cX12_findLeast 26 = .ok (.istore 4, 2) := by decide +kernel
theorem dX12_findLeast_28 : decode cX12_findLeast 28 = .ok (.iconst 0, 1) := by decide +kernel
theorem dX12_findLeast_29 : decode cX12_findLeast 29 = .ok (.istore 5, 2) := by decide +kernel
theorem dX12_findLeast_31 : decode cX12_findLeast 31 = .ok (.iload 5, 2) := by decide +kernel
theorem dX12_findLeast_33 : decode cX12_findLeast 33 = .ok (.iload_n 3, 1) := by decide +kernel
theorem dX12_findLeast_34 : decode cX12_findLeast 34 = .ok (.if_icmp .ge 184, 3) := by decide +kernel
theorem dX12_findLeast_37 : decode cX12_findLeast 37 = .ok (.iload_n 3, 1) := by decide +kernel
theorem dX12_findLeast_38 : decode cX12_findLeast 38 = .ok (.istore 6, 2) := by decide +kernel
theorem dX12_findLeast_40 : decode cX12_findLeast 40 = .ok (.iconst 0, 1) := by decide +kernel
theorem dX12_findLeast_41 : decode cX12_findLeast 41 = .ok (.istore 7, 2) := by decide +kernel
theorem dX12_findLeast_43 : decode cX12_findLeast 43 = .ok (.aload_n 0, 1) := by decide +kernel
theorem dX12_findLeast_44 : decode cX12_findLeast 44 = .ok (.invokevirtual 199, 3) := by decide +kernel
theorem dX12_findLeast_47 : decode cX12_findLeast 47 = .ok (.iconst 0, 1) := by decide +kernel
theorem dX12_findLeast_48 : decode cX12_findLeast 48 = .ok (.istore 8, 2) := by decide +kernel
theorem dX12_findLeast_50 : decode cX12_findLeast 50 = .ok (.iload 8, 2) := by decide +kernel
theorem dX12_findLeast_52 : decode cX12_findLeast 52 = .ok (.iload_n 2, 1) := by decide +kernel
theorem dX12_findLeast_53 : decode cX12_findLeast 53 = .ok (.if_icmp .ge 43, 3) := by decide +kernel
theorem dX12_findLeast_56 : decode cX12_findLeast 56 = .ok (.iload 6, 2) := by decide +kernel
theorem dX12_findLeast_58 : decode cX12_findLeast 58 = .ok (.bipush 10, 2) := by decide +kernel
theorem dX12_findLeast_60 : decode cX12_findLeast 60 = .ok (.idiv, 1) := by decide +kernel
theorem dX12_findLeast_61 : decode cX12_findLeast 61 = .ok (.istore 6, 2) := by decide +kernel
theorem dX12_findLeast_63 : decode cX12_findLeast 63 = .ok (.iload 7, 2) := by decide +kernel
theorem dX12_findLeast_65 : decode cX12_findLeast 65 = .ok (.iload 5, 2) := by decide +kernel
theorem dX12_findLeast_67 : decode cX12_findLeast 67 = .ok (.iload 6, 2) := by decide +kernel
theorem dX12_findLeast_69 : decode cX12_findLeast 69 = .ok (.idiv, 1) := by decide +kernel
theorem dX12_findLeast_70 : decode cX12_findLeast 70 = .ok (.bipush 10, 2) := by decide +kernel
theorem dX12_findLeast_72 : decode cX12_findLeast 72 = .ok (.irem, 1) := by decide +kernel
theorem dX12_findLeast_73 : decode cX12_findLeast 73 = .ok (.iadd, 1) := by decide +kernel
theorem dX12_findLeast_74 : decode cX12_findLeast 74 = .ok (.istore 7, 2) := by decide +kernel
theorem dX12_findLeast_76 : decode cX12_findLeast 76 = .ok (.aload_n 0, 1) := by decide +kernel
theorem dX12_findLeast_77 : decode cX12_findLeast 77 = .ok (.iload 5, 2) := by decide +kernel
theorem dX12_findLeast_79 : decode cX12_findLeast 79 = .ok (.iload 6, 2) := by decide +kernel
theorem dX12_findLeast_81 : decode cX12_findLeast 81 = .ok (.idiv, 1) := by decide +kernel
theorem dX12_findLeast_82 : decode cX12_findLeast 82 = .ok (.bipush 10, 2) := by decide +kernel
theorem dX12_findLeast_84 : decode cX12_findLeast 84 = .ok (.irem, 1) := by decide +kernel
theorem dX12_findLeast_85 : decode cX12_findLeast 85 = .ok (.iconst 0, 1) := by decide +kernel
theorem dX12_findLeast_86 : decode cX12_findLeast 86 = .ok (.invokevirtual 192, 3) := by decide +kernel
theorem dX12_findLeast_89 : decode cX12_findLeast 89 = .ok (.pop, 1) := by decide +kernel
theorem dX12_findLeast_90 : decode cX12_findLeast 90 = .ok (.iinc 8 1, 3) := by decide +kernel
theorem dX12_findLeast_93 : decode cX12_findLeast 93 = .ok (.goto (-43), 3) := by decide +kernel
theorem dX12_findLeast_96 : decode cX12_findLeast 96 = .ok (.iconst 1, 1) := by decide +kernel
theorem dX12_findLeast_97 : decode cX12_findLeast 97 = .ok (.istore 8, 2) := by decide +kernel
theorem dX12_findLeast_99 : decode cX12_findLeast 99 = .ok (.iconst 0, 1) := by decide +kernel
theorem dX12_findLeast_100 : decode cX12_findLeast 100 = .ok (.istore 9, 2) := by decide +kernel
theorem dX12_findLeast_102 : decode cX12_findLeast 102 = .ok (.iload 9, 2) := by decide +kernel
theorem dX12_findLeast_104 : decode cX12_findLeast 104 = .ok (.aload_n 0, 1) := by decide +kernel
theorem dX12_findLeast_105 : decode cX12_findLeast 105 = .ok (.getfield 115, 3) := by decide +kernel
theorem dX12_findLeast_108 : decode cX12_findLeast 108 = .ok (.if_icmp .ge 41, 3) := by decide +kernel
theorem dX12_findLeast_111 : decode cX12_findLeast 111 = .ok (.iload 8, 2) := by decide +kernel
theorem dX12_findLeast_113 : decode cX12_findLeast 113 = .ok (.ifCond .eq 27, 3) := by decide +kernel
theorem dX12_findLeast_116 : decode cX12_findLeast 116 = .ok (.iload_n 1, 1) := by decide +kernel
theorem dX12_findLeast_117 : decode cX12_findLeast 117 = .ok (.iload 9, 2) := by decide +kernel
theorem dX12_findLeast_119 : decode cX12_findLeast 119 = .ok (.invokestatic 134, 3) := by decide +kernel
theorem dX12_findLeast_122 : decode cX12_findLeast 122 = .ok (.ifCond .eq 14, 3) := by decide +kernel
theorem dX12_findLeast_125 : decode cX12_findLeast 125 = .ok (.aload_n 0, 1) := by decide +kernel
theorem dX12_findLeast_126 : decode cX12_findLeast 126 = .ok (.getfield 81, 3) := by decide +kernel
theorem dX12_findLeast_129 : decode cX12_findLeast 129 = .ok (.iload 9, 2) := by decide +kernel
theorem dX12_findLeast_131 : decode cX12_findLeast 131 = .ok (.iaload, 1) := by decide +kernel
theorem dX12_findLeast_132 : decode cX12_findLeast 132 = .ok (.iconst 1, 1) := by decide +kernel
theorem dX12_findLeast_133 : decode cX12_findLeast 133 = .ok (.if_icmp .ne 7, 3) := by decide +kernel
theorem dX12_findLeast_136 : decode cX12_findLeast 136 = .ok (.iconst 1, 1) := by decide +kernel
theorem dX12_findLeast_137 : decode cX12_findLeast 137 = .ok (.goto 4, 3) := by decide +kernel
theorem dX12_findLeast_140 : decode cX12_findLeast 140 = .ok (.iconst 0, 1) := by decide +kernel
theorem dX12_findLeast_141 : decode cX12_findLeast 141 = .ok (.istore 8, 2) := by decide +kernel
theorem dX12_findLeast_143 : decode cX12_findLeast 143 = .ok (.iinc 9 1, 3) := by decide +kernel
theorem dX12_findLeast_146 : decode cX12_findLeast 146 = .ok (.goto (-44), 3) := by decide +kernel
theorem dX12_findLeast_149 : decode cX12_findLeast 149 = .ok (.iload 8, 2) := by decide +kernel
theorem dX12_findLeast_151 : decode cX12_findLeast 151 = .ok (.ifCond .eq 61, 3) := by decide +kernel
theorem dX12_findLeast_154 : decode cX12_findLeast 154 = .ok (.iload 4, 2) := by decide +kernel
theorem dX12_findLeast_156 : decode cX12_findLeast 156 = .ok (.bipush (-9), 2) := by decide +kernel
theorem dX12_findLeast_158 : decode cX12_findLeast 158 = .ok (.if_icmp .eq 10, 3) := by decide +kernel
theorem dX12_findLeast_161 : decode cX12_findLeast 161 = .ok (.iload 7, 2) := by decide +kernel
theorem dX12_findLeast_163 : decode cX12_findLeast 163 = .ok (.iload 4, 2) := by decide +kernel
theorem dX12_findLeast_165 : decode cX12_findLeast 165 = .ok (.if_icmp .ge 47, 3) := by decide +kernel
theorem dX12_findLeast_168 : decode cX12_findLeast 168 = .ok (.iload 7, 2) := by decide +kernel
theorem dX12_findLeast_170 : decode cX12_findLeast 170 = .ok (.istore 4, 2) := by decide +kernel
theorem dX12_findLeast_172 : decode cX12_findLeast 172 = .ok (.iload_n 3, 1) := by decide +kernel
theorem dX12_findLeast_173 : decode cX12_findLeast 173 = .ok (.istore 6, 2) := by decide +kernel
theorem dX12_findLeast_175 : decode cX12_findLeast 175 = .ok (.iconst 0, 1) := by decide +kernel
theorem dX12_findLeast_176 : decode cX12_findLeast 176 = .ok (.istore 9, 2) := by decide +kernel
theorem dX12_findLeast_178 : decode cX12_findLeast 178 = .ok (.iload 9, 2) := by decide +kernel
theorem dX12_findLeast_180 : decode cX12_findLeast 180 = .ok (.iload_n 2, 1) := by decide +kernel
theorem dX12_findLeast_181 : decode cX12_findLeast 181 = .ok (.if_icmp .ge 31, 3) := by decide +kernel
theorem dX12_findLeast_184 : decode cX12_findLeast 184 = .ok (.iload 6, 2) := by decide +kernel
theorem dX12_findLeast_186 : decode cX12_findLeast 186 = .ok (.bipush 10, 2) := by decide +kernel
theorem dX12_findLeast_188 : decode cX12_findLeast 188 = .ok (.idiv, 1) := by decide +kernel
theorem dX12_findLeast_189 : decode cX12_findLeast 189 = .ok (.istore 6, 2) := by decide +kernel
theorem dX12_findLeast_191 : decode cX12_findLeast 191 = .ok (.aload_n 0, 1) := by decide +kernel
theorem dX12_findLeast_192 : decode cX12_findLeast 192 = .ok (.getfield 102, 3) := by decide +kernel
theorem dX12_findLeast_195 : decode cX12_findLeast 195 = .ok (.iload 9, 2) := by decide +kernel
theorem dX12_findLeast_197 : decode cX12_findLeast 197 = .ok (.iload 5, 2) := by decide +kernel
theorem dX12_findLeast_199 : decode cX12_findLeast 199 = .ok (.iload 6, 2) := by decide +kernel
theorem dX12_findLeast_201 : decode cX12_findLeast 201 = .ok (.idiv, 1) := by decide +kernel
theorem dX12_findLeast_202 : decode cX12_findLeast 202 = .ok (.bipush 10, 2) := by decide +kernel
theorem dX12_findLeast_204 : decode cX12_findLeast 204 = .ok (.irem, 1) := by decide +kernel
theorem dX12_findLeast_205 : decode cX12_findLeast 205 = .ok (.iastore, 1) := by decide +kernel
theorem dX12_findLeast_206 : decode cX12_findLeast 206 = .ok (.iinc 9 1, 3) := by decide +kernel
theorem dX12_findLeast_209 : decode cX12_findLeast 209 = .ok (.goto (-31), 3) := by decide +kernel
theorem dX12_findLeast_212 : decode cX12_findLeast 212 = .ok (.iinc 5 1, 3) := by decide +kernel
theorem dX12_findLeast_215 : decode cX12_findLeast 215 = .ok (.goto (-184), 3) := by decide +kernel
theorem dX12_findLeast_218 : decode cX12_findLeast 218 = .ok (.iload 4, 2) := by decide +kernel
theorem dX12_findLeast_220 : decode cX12_findLeast 220 = .ok (.ireturn, 1) := by decide +kernel
theorem dX12_noLeast_0 : decode cX12_noLeast 0 = .ok (.iload_n 1, 1) := by decide +kernel
theorem dX12_noLeast_1 : decode cX12_noLeast 1 = .ok (.i2l, 1) := by decide +kernel
theorem dX12_noLeast_2 : decode cX12_noLeast 2 = .ok (.lconst 0, 1) := by decide +kernel
theorem dX12_noLeast_3 : decode cX12_noLeast 3 = .ok (.iconst 1, 1) := by decide +kernel
theorem dX12_noLeast_4 : decode cX12_noLeast 4 = .ok (.aload_n 0, 1) := by decide +kernel
theorem dX12_noLeast_5 : decode cX12_noLeast 5 = .ok (.getfield 115, 3) := by decide +kernel
theorem dX12_noLeast_8 : decode cX12_noLeast 8 = .ok (.ishl, 1) := by decide +kernel
theorem dX12_noLeast_9 : decode cX12_noLeast 9 = .ok (.iconst 1, 1) := by decide +kernel
theorem dX12_noLeast_10 : decode cX12_noLeast 10 = .ok (.isub, 1) := by decide +kernel
theorem dX12_noLeast_11 : decode cX12_noLeast 11 = .ok (.i2l, 1) := by decide +kernel
theorem dX12_noLeast_12 : decode cX12_noLeast 12 = .ok (.invokestatic 111, 3) := by decide +kernel
theorem dX12_noLeast_15 : decode cX12_noLeast 15 = .ok (.ifCond .eq 15, 3) := by decide +kernel
theorem dX12_noLeast_18 : decode cX12_noLeast 18 = .ok (.iload_n 2, 1) := by decide +kernel
theorem dX12_noLeast_19 : decode cX12_noLeast 19 = .ok (.i2l, 1) := by decide +kernel
theorem dX12_noLeast_20 : decode cX12_noLeast 20 = .ok (.lconst 1, 1) := by decide +kernel
theorem dX12_noLeast_21 : decode cX12_noLeast 21 = .ok (.ldc2_w 209, 3) := by decide +kernel
theorem dX12_noLeast_24 : decode cX12_noLeast 24 = .ok (.invokestatic 111, 3) := by decide +kernel
theorem dX12_noLeast_27 : decode cX12_noLeast 27 = .ok (.ifCond .ne 7, 3) := by decide +kernel
theorem dX12_noLeast_30 : decode cX12_noLeast 30 = .ok (.iconst 1, 1) := by decide +kernel
theorem dX12_noLeast_31 : decode cX12_noLeast 31 = .ok (.goto 4, 3) := by decide +kernel
theorem dX12_noLeast_34 : decode cX12_noLeast 34 = .ok (.iconst 0, 1) := by decide +kernel
theorem dX12_noLeast_35 : decode cX12_noLeast 35 = .ok (.ireturn, 1) := by decide +kernel
theorem dX12_least_0 : decode cX12_least 0 = .ok (.aload_n 0, 1) := by decide +kernel
theorem dX12_least_1 : decode cX12_least 1 = .ok (.iconst 0, 1) := by decide +kernel
theorem dX12_least_2 : decode cX12_least 2 = .ok (.putfield 108, 3) := by decide +kernel
theorem dX12_least_5 : decode cX12_least 5 = .ok (.aload_n 0, 1) := by decide +kernel
theorem dX12_least_6 : decode cX12_least 6 = .ok (.iload_n 1, 1) := by decide +kernel
theorem dX12_least_7 : decode cX12_least 7 = .ok (.iload_n 2, 1) := by decide +kernel
theorem dX12_least_8 : decode cX12_least 8 = .ok (.invokevirtual 211, 3) := by decide +kernel
theorem dX12_least_11 : decode cX12_least 11 = .ok (.ifCond .eq 8, 3) := by decide +kernel
theorem dX12_least_14 : decode cX12_least 14 = .ok (.bipush (-2), 2) := by decide +kernel
theorem dX12_least_16 : decode cX12_least 16 = .ok (.goto 9, 3) := by decide +kernel
theorem dX12_least_19 : decode cX12_least 19 = .ok (.aload_n 0, 1) := by decide +kernel
theorem dX12_least_20 : decode cX12_least 20 = .ok (.iload_n 1, 1) := by decide +kernel
theorem dX12_least_21 : decode cX12_least 21 = .ok (.iload_n 2, 1) := by decide +kernel
theorem dX12_least_22 : decode cX12_least 22 = .ok (.invokevirtual 214, 3) := by decide +kernel
theorem dX12_least_25 : decode cX12_least 25 = .ok (.ireturn, 1) := by decide +kernel
theorem dX12_leastAt_0 : decode cX12_leastAt 0 = .ok (.aload_n 0, 1) := by decide +kernel
theorem dX12_leastAt_1 : decode cX12_leastAt 1 = .ok (.iconst 0, 1) := by decide +kernel
theorem dX12_leastAt_2 : decode cX12_leastAt 2 = .ok (.putfield 108, 3) := by decide +kernel
theorem dX12_leastAt_5 : decode cX12_leastAt 5 = .ok (.aload_n 0, 1) := by decide +kernel
theorem dX12_leastAt_6 : decode cX12_leastAt 6 = .ok (.iload_n 1, 1) := by decide +kernel
theorem dX12_leastAt_7 : decode cX12_leastAt 7 = .ok (.iload_n 2, 1) := by decide +kernel
theorem dX12_leastAt_8 : decode cX12_leastAt 8 = .ok (.invokevirtual 211, 3) := by decide +kernel
theorem dX12_leastAt_11 : decode cX12_leastAt 11 = .ok (.ifCond .eq 6, 3) := by decide +kernel
theorem dX12_leastAt_14 : decode cX12_leastAt 14 = .ok (.bipush (-2), 2) := by decide +kernel
theorem dX12_leastAt_16 : decode cX12_leastAt 16 = .ok (.ireturn, 1) := by decide +kernel
theorem dX12_leastAt_17 : decode cX12_leastAt 17 = .ok (.aload_n 0, 1) := by decide +kernel
theorem dX12_leastAt_18 : decode cX12_leastAt 18 = .ok (.iload_n 1, 1) := by decide +kernel
theorem dX12_leastAt_19 : decode cX12_leastAt 19 = .ok (.iload_n 2, 1) := by decide +kernel
theorem dX12_leastAt_20 : decode cX12_leastAt 20 = .ok (.invokevirtual 214, 3) := by decide +kernel
theorem dX12_leastAt_23 : decode cX12_leastAt 23 = .ok (.bipush (-9), 2) := by decide +kernel
theorem dX12_leastAt_25 : decode cX12_leastAt 25 = .ok (.if_icmp .eq 16, 3) := by decide +kernel
theorem dX12_leastAt_28 : decode cX12_leastAt 28 = .ok (.iload_n 3, 1) := by decide +kernel
theorem dX12_leastAt_29 : decode cX12_leastAt 29 = .ok (.i2l, 1) := by decide +kernel
theorem dX12_leastAt_30 : decode cX12_leastAt 30 = .ok (.lconst 0, 1) := by decide +kernel
theorem dX12_leastAt_31 : decode cX12_leastAt 31 = .ok (.iload_n 2, 1) := by decide +kernel
theorem dX12_leastAt_32 : decode cX12_leastAt 32 = .ok (.iconst 1, 1) := by decide +kernel
theorem dX12_leastAt_33 : decode cX12_leastAt 33 = .ok (.isub, 1) := by decide +kernel
theorem dX12_leastAt_34 : decode cX12_leastAt 34 = .ok (.i2l, 1) := by decide +kernel
theorem dX12_leastAt_35 : decode cX12_leastAt 35 = .ok (.invokestatic 111, 3) := by decide +kernel
theorem dX12_leastAt_38 : decode cX12_leastAt 38 = .ok (.ifCond .ne 8, 3) := by decide +kernel
theorem dX12_leastAt_41 : decode cX12_leastAt 41 = .ok (.bipush (-9), 2) := by decide +kernel
theorem dX12_leastAt_43 : decode cX12_leastAt 43 = .ok (.goto 9, 3) := by decide +kernel
theorem dX12_leastAt_46 : decode cX12_leastAt 46 = .ok (.aload_n 0, 1) := by decide +kernel
theorem dX12_leastAt_47 : decode cX12_leastAt 47 = .ok (.getfield 102, 3) := by decide +kernel
theorem dX12_leastAt_50 : decode cX12_leastAt 50 = .ok (.iload_n 3, 1) := by decide +kernel
theorem dX12_leastAt_51 : decode cX12_leastAt 51 = .ok (.iaload, 1) := by decide +kernel
theorem dX12_leastAt_52 : decode cX12_leastAt 52 = .ok (.ireturn, 1) := by decide +kernel
theorem dX12_findFloors_0 : decode cX12_findFloors 0 = .ok (.iconst 1, 1) := by decide +kernel
theorem dX12_findFloors_1 : decode cX12_findFloors 1 = .ok (.istore_n 3, 1) := by decide +kernel
theorem dX12_findFloors_2 : decode cX12_findFloors 2 = .ok (.iconst 0, 1) := by decide +kernel
theorem dX12_findFloors_3 : decode cX12_findFloors 3 = .ok (.istore 4, 2) := by decide +kernel
theorem dX12_findFloors_5 : decode cX12_findFloors 5 = .ok (.iload 4, 2) := by decide +kernel
theorem dX12_findFloors_7 : decode cX12_findFloors 7 = .ok (.aload_n 0, 1) := by decide +kernel
theorem dX12_findFloors_8 : decode cX12_findFloors 8 = .ok (.getfield 115, 3) := by decide +kernel
theorem dX12_findFloors_11 : decode cX12_findFloors 11 = .ok (.if_icmp .ge 30, 3) := by decide +kernel
theorem dX12_findFloors_14 : decode cX12_findFloors 14 = .ok (.iload_n 3, 1) := by decide +kernel
theorem dX12_findFloors_15 : decode cX12_findFloors 15 = .ok (.aload_n 0, 1) := by decide +kernel
theorem dX12_findFloors_16 : decode cX12_findFloors 16 = .ok (.getfield 47, 3) := by decide +kernel
theorem dX12_findFloors_19 : decode cX12_findFloors 19 = .ok (.iload 4, 2) := by decide +kernel
theorem dX12_findFloors_21 : decode cX12_findFloors 21 = .ok (.iaload, 1) := by decide +kernel
theorem dX12_findFloors_22 : decode cX12_findFloors 22 = .ok (.ifCond .ne 10, 3) := by decide +kernel
theorem dX12_findFloors_25 : decode cX12_findFloors 25 = .ok (.aload_n 0, 1) := by decide +kernel
theorem dX12_findFloors_26 : decode cX12_findFloors 26 = .ok (.getfield 13, 3) := by decide +kernel
theorem dX12_findFloors_29 : decode cX12_findFloors 29 = .ok (.goto 4, 3) := by decide +kernel
theorem dX12_findFloors_32 : decode cX12_findFloors 32 = .ok (.iconst 1, 1) := by decide +kernel
theorem dX12_findFloors_33 : decode cX12_findFloors 33 = .ok (.imul, 1) := by decide +kernel
theorem dX12_findFloors_34 : decode cX12_findFloors 34 = .ok (.istore_n 3, 1) := by decide +kernel
theorem dX12_findFloors_35 : decode cX12_findFloors 35 = .ok (.iinc 4 1, 3) := by decide +kernel
theorem dX12_findFloors_38 : decode cX12_findFloors 38 = .ok (.goto (-33), 3) := by decide +kernel
theorem dX12_findFloors_41 : decode cX12_findFloors 41 = .ok (.bipush (-9), 2) := by decide +kernel
theorem dX12_findFloors_43 : decode cX12_findFloors 43 = .ok (.istore 4, 2) := by decide +kernel
theorem dX12_findFloors_45 : decode cX12_findFloors 45 = .ok (.iconst 0, 1) := by decide +kernel
theorem dX12_findFloors_46 : decode cX12_findFloors 46 = .ok (.istore 5, 2) := by decide +kernel
theorem dX12_findFloors_48 : decode cX12_findFloors 48 = .ok (.iload 5, 2) := by decide +kernel
theorem dX12_findFloors_50 : decode cX12_findFloors 50 = .ok (.iload_n 3, 1) := by decide +kernel
theorem dX12_findFloors_51 : decode cX12_findFloors 51 = .ok (.if_icmp .ge 160, 3) := by decide +kernel
theorem dX12_findFloors_54 : decode cX12_findFloors 54 = .ok (.aload_n 0, 1) := by decide +kernel
theorem dX12_findFloors_55 : decode cX12_findFloors 55 = .ok (.invokevirtual 199, 3) := by decide +kernel
theorem dX12_findFloors_58 : decode cX12_findFloors 58 = .ok (.iload 5, 2) := by decide +kernel
theorem dX12_findFloors_60 : decode cX12_findFloors 60 = .ok (.istore 6, 2) := by decide +kernel
theorem dX12_findFloors_62 : decode cX12_findFloors 62 = .ok (.aload_n 0, 1) := by decide +kernel
theorem dX12_findFloors_63 : decode cX12_findFloors 63 = .ok (.getfield 115, 3) := by decide +kernel
theorem dX12_findFloors_66 : decode cX12_findFloors 66 = .ok (.iconst 1, 1) := by decide +kernel
theorem dX12_findFloors_67 : decode cX12_findFloors 67 = .ok (.isub, 1) := by decide +kernel
theorem dX12_findFloors_68 : decode cX12_findFloors 68 = .ok (.istore 7, 2) := by decide +kernel
theorem dX12_findFloors_70 : decode cX12_findFloors 70 = .ok (.iload 7, 2) := by decide +kernel
theorem dX12_findFloors_72 : decode cX12_findFloors 72 = .ok (.ifCond .lt 42, 3) := by decide +kernel
theorem dX12_findFloors_75 : decode cX12_findFloors 75 = .ok (.aload_n 0, 1) := by decide +kernel
theorem dX12_findFloors_76 : decode cX12_findFloors 76 = .ok (.getfield 47, 3) := by decide +kernel
theorem dX12_findFloors_79 : decode cX12_findFloors 79 = .ok (.iload 7, 2) := by decide +kernel
theorem dX12_findFloors_81 : decode cX12_findFloors 81 = .ok (.iaload, 1) := by decide +kernel
theorem dX12_findFloors_82 : decode cX12_findFloors 82 = .ok (.ifCond .ne 26, 3) := by decide +kernel
theorem dX12_findFloors_85 : decode cX12_findFloors 85 = .ok (.aload_n 0, 1) := by decide +kernel
theorem dX12_findFloors_86 : decode cX12_findFloors 86 = .ok (.getfield 84, 3) := by decide +kernel
theorem dX12_findFloors_89 : decode cX12_findFloors 89 = .ok (.iload 7, 2) := by decide +kernel
theorem dX12_findFloors_91 : decode cX12_findFloors 91 = .ok (.iload 6, 2) := by decide +kernel
theorem dX12_findFloors_93 : decode cX12_findFloors 93 = .ok (.aload_n 0, 1) := by decide +kernel
theorem dX12_findFloors_94 : decode cX12_findFloors 94 = .ok (.getfield 13, 3) := by decide +kernel
theorem dX12_findFloors_97 : decode cX12_findFloors 97 = .ok (.irem, 1) := by decide +kernel
theorem dX12_findFloors_98 : decode cX12_findFloors 98 = .ok (.iastore, 1) := by decide +kernel
theorem dX12_findFloors_99 : decode cX12_findFloors 99 = .ok (.iload 6, 2) := by decide +kernel
theorem dX12_findFloors_101 : decode cX12_findFloors 101 = .ok (.aload_n 0, 1) := by decide +kernel
theorem dX12_findFloors_102 : decode cX12_findFloors 102 = .ok (.getfield 13, 3) := by decide +kernel
theorem dX12_findFloors_105 : decode cX12_findFloors 105 = .ok (.idiv, 1) := by decide +kernel
theorem dX12_findFloors_106 : decode cX12_findFloors 106 = .ok (.istore 6, 2) := by decide +kernel
theorem dX12_findFloors_108 : decode cX12_findFloors 108 = .ok (.iinc 7 (-1), 3) := by decide +kernel
theorem dX12_findFloors_111 : decode cX12_findFloors 111 = .ok (.goto (-41), 3) := by decide +kernel
theorem dX12_findFloors_114 : decode cX12_findFloors 114 = .ok (.aload_n 0, 1) := by decide +kernel
theorem dX12_findFloors_115 : decode cX12_findFloors 115 = .ok (.iload_n 1, 1) := by decide +kernel
theorem dX12_findFloors_116 : decode cX12_findFloors 116 = .ok (.iload_n 2, 1) := by decide +kernel
theorem dX12_findFloors_117 : decode cX12_findFloors 117 = .ok (.invokevirtual 205, 3) := by decide +kernel
theorem dX12_findFloors_120 : decode cX12_findFloors 120 = .ok (.iconst 0, 1) := by decide +kernel
theorem dX12_findFloors_121 : decode cX12_findFloors 121 = .ok (.istore 7, 2) := by decide +kernel
theorem dX12_findFloors_123 : decode cX12_findFloors 123 = .ok (.iconst 0, 1) := by decide +kernel
theorem dX12_findFloors_124 : decode cX12_findFloors 124 = .ok (.istore 8, 2) := by decide +kernel
theorem dX12_findFloors_126 : decode cX12_findFloors 126 = .ok (.iload 8, 2) := by decide +kernel
theorem dX12_findFloors_128 : decode cX12_findFloors 128 = .ok (.aload_n 0, 1) := by decide +kernel
theorem dX12_findFloors_129 : decode cX12_findFloors 129 = .ok (.getfield 115, 3) := by decide +kernel
theorem dX12_findFloors_132 : decode cX12_findFloors 132 = .ok (.if_icmp .ge 30, 3) := by decide +kernel
theorem dX12_findFloors_135 : decode cX12_findFloors 135 = .ok (.iload 7, 2) := by decide +kernel
theorem dX12_findFloors_137 : decode cX12_findFloors 137 = .ok (.aload_n 0, 1) := by decide +kernel
theorem dX12_findFloors_138 : decode cX12_findFloors 138 = .ok (.getfield 81, 3) := by decide +kernel
theorem dX12_findFloors_141 : decode cX12_findFloors 141 = .ok (.iload 8, 2) := by decide +kernel
theorem dX12_findFloors_143 : decode cX12_findFloors 143 = .ok (.iaload, 1) := by decide +kernel
theorem dX12_findFloors_144 : decode cX12_findFloors 144 = .ok (.iconst 1, 1) := by decide +kernel
theorem dX12_findFloors_145 : decode cX12_findFloors 145 = .ok (.if_icmp .ne 7, 3) := by decide +kernel
theorem dX12_findFloors_148 : decode cX12_findFloors 148 = .ok (.iconst 1, 1) := by decide +kernel
theorem dX12_findFloors_149 : decode cX12_findFloors 149 = .ok (.goto 4, 3) := by decide +kernel
theorem dX12_findFloors_152 : decode cX12_findFloors 152 = .ok (.iconst 0, 1) := by decide +kernel
theorem dX12_findFloors_153 : decode cX12_findFloors 153 = .ok (.iadd, 1) := by decide +kernel
theorem dX12_findFloors_154 : decode cX12_findFloors 154 = .ok (.istore 7, 2) := by decide +kernel
theorem dX12_findFloors_156 : decode cX12_findFloors 156 = .ok (.iinc 8 1, 3) := by decide +kernel
theorem dX12_findFloors_159 : decode cX12_findFloors 159 = .ok (.goto (-33), 3) := by decide +kernel
theorem dX12_findFloors_162 : decode cX12_findFloors 162 = .ok (.iload 7, 2) := by decide +kernel
theorem dX12_findFloors_164 : decode cX12_findFloors 164 = .ok (.iload 4, 2) := by decide +kernel
theorem dX12_findFloors_166 : decode cX12_findFloors 166 = .ok (.if_icmp .le 39, 3) := by decide +kernel
theorem dX12_findFloors_169 : decode cX12_findFloors 169 = .ok (.iload 7, 2) := by decide +kernel
theorem dX12_findFloors_171 : decode cX12_findFloors 171 = .ok (.istore 4, 2) := by decide +kernel
theorem dX12_findFloors_173 : decode cX12_findFloors 173 = .ok (.iconst 0, 1) := by decide +kernel
theorem dX12_findFloors_174 : decode cX12_findFloors 174 = .ok (.istore 8, 2) := by decide +kernel
theorem dX12_findFloors_176 : decode cX12_findFloors 176 = .ok (.iload 8, 2) := by decide +kernel
theorem dX12_findFloors_178 : decode cX12_findFloors 178 = .ok (.aload_n 0, 1) := by decide +kernel
theorem dX12_findFloors_179 : decode cX12_findFloors 179 = .ok (.getfield 115, 3) := by decide +kernel
theorem dX12_findFloors_182 : decode cX12_findFloors 182 = .ok (.if_icmp .ge 23, 3) := by decide +kernel
theorem dX12_findFloors_185 : decode cX12_findFloors 185 = .ok (.aload_n 0, 1) := by decide +kernel
theorem dX12_findFloors_186 : decode cX12_findFloors 186 = .ok (.getfield 105, 3) := by decide +kernel
theorem dX12_findFloors_189 : decode cX12_findFloors 189 = .ok (.iload 8, 2) := by decide +kernel
theorem dX12_findFloors_191 : decode cX12_findFloors 191 = .ok (.aload_n 0, 1) := by decide +kernel
theorem dX12_findFloors_192 : decode cX12_findFloors 192 = .ok (.getfield 84, 3) := by decide +kernel
theorem dX12_findFloors_195 : decode cX12_findFloors 195 = .ok (.iload 8, 2) := by decide +kernel
theorem dX12_findFloors_197 : decode cX12_findFloors 197 = .ok (.iaload, 1) := by decide +kernel
theorem dX12_findFloors_198 : decode cX12_findFloors 198 = .ok (.iastore, 1) := by decide +kernel
theorem dX12_findFloors_199 : decode cX12_findFloors 199 = .ok (.iinc 8 1, 3) := by decide +kernel
theorem dX12_findFloors_202 : decode cX12_findFloors 202 = .ok (.goto (-26), 3) := by decide +kernel
theorem dX12_findFloors_205 : decode cX12_findFloors 205 = .ok (.iinc 5 1, 3) := by decide +kernel
theorem dX12_findFloors_208 : decode cX12_findFloors 208 = .ok (.goto (-160), 3) := by decide +kernel
theorem dX12_findFloors_211 : decode cX12_findFloors 211 = .ok (.iload 4, 2) := by decide +kernel
theorem dX12_findFloors_213 : decode cX12_findFloors 213 = .ok (.ireturn, 1) := by decide +kernel
theorem dX12_floors_0 : decode cX12_floors 0 = .ok (.aload_n 0, 1) := by decide +kernel
theorem dX12_floors_1 : decode cX12_floors 1 = .ok (.iconst 0, 1) := by decide +kernel
theorem dX12_floors_2 : decode cX12_floors 2 = .ok (.putfield 108, 3) := by decide +kernel
theorem dX12_floors_5 : decode cX12_floors 5 = .ok (.iload_n 1, 1) := by decide +kernel
theorem dX12_floors_6 : decode cX12_floors 6 = .ok (.iload_n 2, 1) := by decide +kernel
theorem dX12_floors_7 : decode cX12_floors 7 = .ok (.invokestatic 202, 3) := by decide +kernel
theorem dX12_floors_10 : decode cX12_floors 10 = .ok (.ifCond .eq 8, 3) := by decide +kernel
theorem dX12_floors_13 : decode cX12_floors 13 = .ok (.bipush (-2), 2) := by decide +kernel
theorem dX12_floors_15 : decode cX12_floors 15 = .ok (.goto 9, 3) := by decide +kernel
theorem dX12_floors_18 : decode cX12_floors 18 = .ok (.aload_n 0, 1) := by decide +kernel
theorem dX12_floors_19 : decode cX12_floors 19 = .ok (.iload_n 1, 1) := by decide +kernel
theorem dX12_floors_20 : decode cX12_floors 20 = .ok (.iload_n 2, 1) := by decide +kernel
theorem dX12_floors_21 : decode cX12_floors 21 = .ok (.invokevirtual 217, 3) := by decide +kernel
theorem dX12_floors_24 : decode cX12_floors 24 = .ok (.ireturn, 1) := by decide +kernel
theorem dX12_floorAt_0 : decode cX12_floorAt 0 = .ok (.aload_n 0, 1) := by decide +kernel
theorem dX12_floorAt_1 : decode cX12_floorAt 1 = .ok (.iconst 0, 1) := by decide +kernel
theorem dX12_floorAt_2 : decode cX12_floorAt 2 = .ok (.putfield 108, 3) := by decide +kernel
theorem dX12_floorAt_5 : decode cX12_floorAt 5 = .ok (.aload_n 0, 1) := by decide +kernel
theorem dX12_floorAt_6 : decode cX12_floorAt 6 = .ok (.iload_n 1, 1) := by decide +kernel
theorem dX12_floorAt_7 : decode cX12_floorAt 7 = .ok (.invokevirtual 176, 3) := by decide +kernel
theorem dX12_floorAt_10 : decode cX12_floorAt 10 = .ok (.ifCond .eq 5, 3) := by decide +kernel
theorem dX12_floorAt_13 : decode cX12_floorAt 13 = .ok (.iconst (-1), 1) := by decide +kernel
theorem dX12_floorAt_14 : decode cX12_floorAt 14 = .ok (.ireturn, 1) := by decide +kernel
theorem dX12_floorAt_15 : decode cX12_floorAt 15 = .ok (.iload_n 2, 1) := by decide +kernel
theorem dX12_floorAt_16 : decode cX12_floorAt 16 = .ok (.iload_n 3, 1) := by decide +kernel
theorem dX12_floorAt_17 : decode cX12_floorAt 17 = .ok (.invokestatic 202, 3) := by decide +kernel
theorem dX12_floorAt_20 : decode cX12_floorAt 20 = .ok (.ifCond .eq 6, 3) := by decide +kernel
theorem dX12_floorAt_23 : decode cX12_floorAt 23 = .ok (.bipush (-2), 2) := by decide +kernel
theorem dX12_floorAt_25 : decode cX12_floorAt 25 = .ok (.ireturn, 1) := by decide +kernel
theorem dX12_floorAt_26 : decode cX12_floorAt 26 = .ok (.aload_n 0, 1) := by decide +kernel
theorem dX12_floorAt_27 : decode cX12_floorAt 27 = .ok (.iload_n 2, 1) := by decide +kernel
theorem dX12_floorAt_28 : decode cX12_floorAt 28 = .ok (.iload_n 3, 1) := by decide +kernel
theorem dX12_floorAt_29 : decode cX12_floorAt 29 = .ok (.invokevirtual 217, 3) := by decide +kernel
theorem dX12_floorAt_32 : decode cX12_floorAt 32 = .ok (.pop, 1) := by decide +kernel
theorem dX12_floorAt_33 : decode cX12_floorAt 33 = .ok (.aload_n 0, 1) := by decide +kernel
theorem dX12_floorAt_34 : decode cX12_floorAt 34 = .ok (.getfield 105, 3) := by decide +kernel
theorem dX12_floorAt_37 : decode cX12_floorAt 37 = .ok (.iload_n 1, 1) := by decide +kernel
theorem dX12_floorAt_38 : decode cX12_floorAt 38 = .ok (.iaload, 1) := by decide +kernel
theorem dX12_floorAt_39 : decode cX12_floorAt 39 = .ok (.ireturn, 1) := by decide +kernel
theorem dX12_openFor_0 : decode cX12_openFor 0 = .ok (.aload_n 0, 1) := by decide +kernel
theorem dX12_openFor_1 : decode cX12_openFor 1 = .ok (.iconst 0, 1) := by decide +kernel
theorem dX12_openFor_2 : decode cX12_openFor 2 = .ok (.putfield 108, 3) := by decide +kernel
theorem dX12_openFor_5 : decode cX12_openFor 5 = .ok (.aload_n 0, 1) := by decide +kernel
theorem dX12_openFor_6 : decode cX12_openFor 6 = .ok (.iload_n 1, 1) := by decide +kernel
theorem dX12_openFor_7 : decode cX12_openFor 7 = .ok (.invokevirtual 172, 3) := by decide +kernel
theorem dX12_openFor_10 : decode cX12_openFor 10 = .ok (.ifCond .ne 11, 3) := by decide +kernel
theorem dX12_openFor_13 : decode cX12_openFor 13 = .ok (.aload_n 0, 1) := by decide +kernel
theorem dX12_openFor_14 : decode cX12_openFor 14 = .ok (.iload_n 2, 1) := by decide +kernel
theorem dX12_openFor_15 : decode cX12_openFor 15 = .ok (.invokevirtual 176, 3) := by decide +kernel
theorem dX12_openFor_18 : decode cX12_openFor 18 = .ok (.ifCond .eq 5, 3) := by decide +kernel
theorem dX12_openFor_21 : decode cX12_openFor 21 = .ok (.iconst (-1), 1) := by decide +kernel
theorem dX12_openFor_22 : decode cX12_openFor 22 = .ok (.ireturn, 1) := by decide +kernel
theorem dX12_openFor_23 : decode cX12_openFor 23 = .ok (.iload_n 3, 1) := by decide +kernel
theorem dX12_openFor_24 : decode cX12_openFor 24 = .ok (.iload 4, 2) := by decide +kernel
theorem dX12_openFor_26 : decode cX12_openFor 26 = .ok (.invokestatic 202, 3) := by decide +kernel
theorem dX12_openFor_29 : decode cX12_openFor 29 = .ok (.ifCond .eq 6, 3) := by decide +kernel
theorem dX12_openFor_32 : decode cX12_openFor 32 = .ok (.bipush (-2), 2) := by decide +kernel
theorem dX12_openFor_34 : decode cX12_openFor 34 = .ok (.ireturn, 1) := by decide +kernel
theorem dX12_openFor_35 : decode cX12_openFor 35 = .ok (.aload_n 0, 1) := by decide +kernel
theorem dX12_openFor_36 : decode cX12_openFor 36 = .ok (.getfield 17, 3) := by decide +kernel
theorem dX12_openFor_39 : decode cX12_openFor 39 = .ok (.iload_n 1, 1) := by decide +kernel
theorem dX12_openFor_40 : decode cX12_openFor 40 = .ok (.iaload, 1) := by decide +kernel
theorem dX12_openFor_41 : decode cX12_openFor 41 = .ok (.istore 5, 2) := by decide +kernel
theorem dX12_openFor_43 : decode cX12_openFor 43 = .ok (.bipush (-9), 2) := by decide +kernel
theorem dX12_openFor_45 : decode cX12_openFor 45 = .ok (.istore 6, 2) := by decide +kernel
theorem dX12_openFor_47 : decode cX12_openFor 47 = .ok (.bipush 10, 2) := by decide +kernel
theorem dX12_openFor_49 : decode cX12_openFor 49 = .ok (.aload_n 0, 1) := by decide +kernel
theorem dX12_openFor_50 : decode cX12_openFor 50 = .ok (.getfield 20, 3) := by decide +kernel
theorem dX12_openFor_53 : decode cX12_openFor 53 = .ok (.iload_n 1, 1) := by decide +kernel
theorem dX12_openFor_54 : decode cX12_openFor 54 = .ok (.iaload, 1) := by decide +kernel
theorem dX12_openFor_55 : decode cX12_openFor 55 = .ok (.isub, 1) := by decide +kernel
theorem dX12_openFor_56 : decode cX12_openFor 56 = .ok (.istore 7, 2) := by decide +kernel
theorem dX12_openFor_58 : decode cX12_openFor 58 = .ok (.iload 7, 2) := by decide +kernel
theorem dX12_openFor_60 : decode cX12_openFor 60 = .ok (.ifCond .lt 47, 3) := by decide +kernel
theorem dX12_openFor_63 : decode cX12_openFor 63 = .ok (.aload_n 0, 1) := by decide +kernel
theorem dX12_openFor_64 : decode cX12_openFor 64 = .ok (.getfield 17, 3) := by decide +kernel
theorem dX12_openFor_67 : decode cX12_openFor 67 = .ok (.iload_n 1, 1) := by decide +kernel
theorem dX12_openFor_68 : decode cX12_openFor 68 = .ok (.iload 7, 2) := by decide +kernel
theorem dX12_openFor_70 : decode cX12_openFor 70 = .ok (.iastore, 1) := by decide +kernel
theorem dX12_openFor_71 : decode cX12_openFor 71 = .ok (.aload_n 0, 1) := by decide +kernel
theorem dX12_openFor_72 : decode cX12_openFor 72 = .ok (.invokevirtual 199, 3) := by decide +kernel
theorem dX12_openFor_75 : decode cX12_openFor 75 = .ok (.aload_n 0, 1) := by decide +kernel
theorem dX12_openFor_76 : decode cX12_openFor 76 = .ok (.iload_n 3, 1) := by decide +kernel
theorem dX12_openFor_77 : decode cX12_openFor 77 = .ok (.iload 4, 2) := by decide +kernel
theorem dX12_openFor_79 : decode cX12_openFor 79 = .ok (.invokevirtual 205, 3) := by decide +kernel
theorem dX12_openFor_82 : decode cX12_openFor 82 = .ok (.aload_n 0, 1) := by decide +kernel
theorem dX12_openFor_83 : decode cX12_openFor 83 = .ok (.getfield 81, 3) := by decide +kernel
theorem dX12_openFor_86 : decode cX12_openFor 86 = .ok (.iload_n 2, 1) := by decide +kernel
theorem dX12_openFor_87 : decode cX12_openFor 87 = .ok (.iaload, 1) := by decide +kernel
theorem dX12_openFor_88 : decode cX12_openFor 88 = .ok (.iconst 1, 1) := by decide +kernel
theorem dX12_openFor_89 : decode cX12_openFor 89 = .ok (.if_icmp .ne 8, 3) := by decide +kernel
theorem dX12_openFor_92 : decode cX12_openFor 92 = .ok (.iload 7, 2) := by decide +kernel
theorem dX12_openFor_94 : decode cX12_openFor 94 = .ok (.goto 5, 3) := by decide +kernel
theorem dX12_openFor_97 : decode cX12_openFor 97 = .ok (.iload 6, 2) := by decide +kernel
theorem dX12_openFor_99 : decode cX12_openFor 99 = .ok (.istore 6, 2) := by decide +kernel
theorem dX12_openFor_101 : decode cX12_openFor 101 = .ok (.iinc 7 (-1), 3) := by decide +kernel
theorem dX12_openFor_104 : decode cX12_openFor 104 = .ok (.goto (-46), 3) := by decide +kernel
theorem dX12_openFor_107 : decode cX12_openFor 107 = .ok (.aload_n 0, 1) := by decide +kernel
theorem dX12_openFor_108 : decode cX12_openFor 108 = .ok (.getfield 17, 3) := by decide +kernel
theorem dX12_openFor_111 : decode cX12_openFor 111 = .ok (.iload_n 1, 1) := by decide +kernel
theorem dX12_openFor_112 : decode cX12_openFor 112 = .ok (.iload 5, 2) := by decide +kernel
theorem dX12_openFor_114 : decode cX12_openFor 114 = .ok (.iastore, 1) := by decide +kernel
theorem dX12_openFor_115 : decode cX12_openFor 115 = .ok (.iload 6, 2) := by decide +kernel
theorem dX12_openFor_117 : decode cX12_openFor 117 = .ok (.ireturn, 1) := by decide +kernel
theorem dX12_divisor_0 : decode cX12_divisor 0 = .ok (.lload_n 0, 1) := by decide +kernel
theorem dX12_divisor_1 : decode cX12_divisor 1 = .ok (.lstore 4, 2) := by decide +kernel
theorem dX12_divisor_3 : decode cX12_divisor 3 = .ok (.lload_n 2, 1) := by decide +kernel
theorem dX12_divisor_4 : decode cX12_divisor 4 = .ok (.lstore 6, 2) := by decide +kernel
theorem dX12_divisor_6 : decode cX12_divisor 6 = .ok (.lload 6, 2) := by decide +kernel
theorem dX12_divisor_8 : decode cX12_divisor 8 = .ok (.lconst 0, 1) := by decide +kernel
theorem dX12_divisor_9 : decode cX12_divisor 9 = .ok (.lcmp, 1) := by decide +kernel
theorem dX12_divisor_10 : decode cX12_divisor 10 = .ok (.ifCond .eq 21, 3) := by decide +kernel
theorem dX12_divisor_13 : decode cX12_divisor 13 = .ok (.lload 4, 2) := by decide +kernel
theorem dX12_divisor_15 : decode cX12_divisor 15 = .ok (.lload 6, 2) := by decide +kernel
theorem dX12_divisor_17 : decode cX12_divisor 17 = .ok (.lrem, 1) := by decide +kernel
theorem dX12_divisor_18 : decode cX12_divisor 18 = .ok (.lstore 8, 2) := by decide +kernel
theorem dX12_divisor_20 : decode cX12_divisor 20 = .ok (.lload 6, 2) := by decide +kernel
theorem dX12_divisor_22 : decode cX12_divisor 22 = .ok (.lstore 4, 2) := by decide +kernel
theorem dX12_divisor_24 : decode cX12_divisor 24 = .ok (.lload 8, 2) := by decide +kernel
theorem dX12_divisor_26 : decode cX12_divisor 26 = .ok (.lstore 6, 2) := by decide +kernel
theorem dX12_divisor_28 : decode cX12_divisor 28 = .ok (.goto (-22), 3) := by decide +kernel
theorem dX12_divisor_31 : decode cX12_divisor 31 = .ok (.lload 4, 2) := by decide +kernel
theorem dX12_divisor_33 : decode cX12_divisor 33 = .ok (.lreturn, 1) := by decide +kernel
theorem dX12_gales_0 : decode cX12_gales 0 = .ok (.aload_n 0, 1) := by decide +kernel
theorem dX12_gales_1 : decode cX12_gales 1 = .ok (.iconst 0, 1) := by decide +kernel
theorem dX12_gales_2 : decode cX12_gales 2 = .ok (.putfield 108, 3) := by decide +kernel
theorem dX12_gales_5 : decode cX12_gales 5 = .ok (.aload_n 0, 1) := by decide +kernel
theorem dX12_gales_6 : decode cX12_gales 6 = .ok (.iload_n 1, 1) := by decide +kernel
theorem dX12_gales_7 : decode cX12_gales 7 = .ok (.invokevirtual 176, 3) := by decide +kernel
theorem dX12_gales_10 : decode cX12_gales 10 = .ok (.ifCond .eq 7, 3) := by decide +kernel
theorem dX12_gales_13 : decode cX12_gales 13 = .ok (.ldc2_w 220, 3) := by decide +kernel
theorem dX12_gales_16 : decode cX12_gales 16 = .ok (.lreturn, 1) := by decide +kernel
theorem dX12_gales_17 : decode cX12_gales 17 = .ok (.iload_n 2, 1) := by decide +kernel
theorem dX12_gales_18 : decode cX12_gales 18 = .ok (.i2l, 1) := by decide +kernel
theorem dX12_gales_19 : decode cX12_gales 19 = .ok (.lconst 1, 1) := by decide +kernel
theorem dX12_gales_20 : decode cX12_gales 20 = .ok (.ldc2_w 120, 3) := by decide +kernel
theorem dX12_gales_23 : decode cX12_gales 23 = .ok (.invokestatic 111, 3) := by decide +kernel
theorem dX12_gales_26 : decode cX12_gales 26 = .ok (.ifCond .eq 28, 3) := by decide +kernel
theorem dX12_gales_29 : decode cX12_gales 29 = .ok (.iload_n 3, 1) := by decide +kernel
theorem dX12_gales_30 : decode cX12_gales 30 = .ok (.i2l, 1) := by decide +kernel
theorem dX12_gales_31 : decode cX12_gales 31 = .ok (.lconst 0, 1) := by decide +kernel
theorem dX12_gales_32 : decode cX12_gales 32 = .ok (.ldc2_w 118, 3) := by decide +kernel
theorem dX12_gales_35 : decode cX12_gales 35 = .ok (.invokestatic 111, 3) := by decide +kernel
theorem dX12_gales_38 : decode cX12_gales 38 = .ok (.ifCond .eq 16, 3) := by decide +kernel
theorem dX12_gales_41 : decode cX12_gales 41 = .ok (.iload 4, 2) := by decide +kernel
theorem dX12_gales_43 : decode cX12_gales 43 = .ok (.i2l, 1) := by decide +kernel
theorem dX12_gales_44 : decode cX12_gales 44 = .ok (.lconst 0, 1) := by decide +kernel
theorem dX12_gales_45 : decode cX12_gales 45 = .ok (.ldc2_w 222, 3) := by decide +kernel
theorem dX12_gales_48 : decode cX12_gales 48 = .ok (.invokestatic 111, 3) := by decide +kernel
theorem dX12_gales_51 : decode cX12_gales 51 = .ok (.ifCond .ne 7, 3) := by decide +kernel
theorem dX12_gales_54 : decode cX12_gales 54 = .ok (.ldc2_w 224, 3) := by decide +kernel
theorem dX12_gales_57 : decode cX12_gales 57 = .ok (.lreturn, 1) := by decide +kernel
theorem dX12_gales_58 : decode cX12_gales 58 = .ok (.lconst 0, 1) := by decide +kernel
theorem dX12_gales_59 : decode cX12_gales 59 = .ok (.lstore 6, 2) := by decide +kernel
theorem dX12_gales_61 : decode cX12_gales 61 = .ok (.lconst 1, 1) := by decide +kernel
theorem dX12_gales_62 : decode cX12_gales 62 = .ok (.lstore 8, 2) := by decide +kernel
theorem dX12_gales_64 : decode cX12_gales 64 = .ok (.iconst 0, 1) := by decide +kernel
theorem dX12_gales_65 : decode cX12_gales 65 = .ok (.istore 10, 2) := by decide +kernel
theorem dX12_gales_67 : decode cX12_gales 67 = .ok (.iload 10, 2) := by decide +kernel
theorem dX12_gales_69 : decode cX12_gales 69 = .ok (.iload_n 2, 1) := by decide +kernel
theorem dX12_gales_70 : decode cX12_gales 70 = .ok (.if_icmp .ge 17, 3) := by decide +kernel
theorem dX12_gales_73 : decode cX12_gales 73 = .ok (.lload 8, 2) := by decide +kernel
theorem dX12_gales_75 : decode cX12_gales 75 = .ok (.ldc2_w 222, 3) := by decide +kernel
theorem dX12_gales_78 : decode cX12_gales 78 = .ok (.lmul, 1) := by decide +kernel
theorem dX12_gales_79 : decode cX12_gales 79 = .ok (.lstore 8, 2) := by decide +kernel
theorem dX12_gales_81 : decode cX12_gales 81 = .ok (.iinc 10 1, 3) := by decide +kernel
theorem dX12_gales_84 : decode cX12_gales 84 = .ok (.goto (-17), 3) := by decide +kernel
theorem dX12_gales_87 : decode cX12_gales 87 = .ok (.iconst 0, 1) := by decide +kernel
theorem dX12_gales_88 : decode cX12_gales 88 = .ok (.istore 10, 2) := by decide +kernel
theorem dX12_gales_90 : decode cX12_gales 90 = .ok (.iload 10, 2) := by decide +kernel
theorem dX12_gales_92 : decode cX12_gales 92 = .ok (.iconst 1, 1) := by decide +kernel
theorem dX12_gales_93 : decode cX12_gales 93 = .ok (.iload_n 2, 1) := by decide +kernel
theorem dX12_gales_94 : decode cX12_gales 94 = .ok (.ishl, 1) := by decide +kernel
theorem dX12_gales_95 : decode cX12_gales 95 = .ok (.if_icmp .ge 92, 3) := by decide +kernel
theorem dX12_gales_98 : decode cX12_gales 98 = .ok (.lconst 1, 1) := by decide +kernel
theorem dX12_gales_99 : decode cX12_gales 99 = .ok (.lstore 11, 2) := by decide +kernel
theorem dX12_gales_101 : decode cX12_gales 101 = .ok (.aload_n 0, 1) := by decide +kernel
theorem dX12_gales_102 : decode cX12_gales 102 = .ok (.invokevirtual 199, 3) := by decide +kernel
theorem dX12_gales_105 : decode cX12_gales 105 = .ok (.iconst 0, 1) := by decide +kernel
theorem dX12_gales_106 : decode cX12_gales 106 = .ok (.istore 13, 2) := by decide +kernel
theorem dX12_gales_108 : decode cX12_gales 108 = .ok (.iload 13, 2) := by decide +kernel
theorem dX12_gales_110 : decode cX12_gales 110 = .ok (.iload_n 2, 1) := by decide +kernel
theorem dX12_gales_111 : decode cX12_gales 111 = .ok (.if_icmp .ge 49, 3) := by decide +kernel
theorem dX12_gales_114 : decode cX12_gales 114 = .ok (.lload 11, 2) := by decide +kernel
theorem dX12_gales_116 : decode cX12_gales 116 = .ok (.iload 10, 2) := by decide +kernel
theorem dX12_gales_118 : decode cX12_gales 118 = .ok (.iload 13, 2) := by decide +kernel
theorem dX12_gales_120 : decode cX12_gales 120 = .ok (.invokestatic 134, 3) := by decide +kernel
theorem dX12_gales_123 : decode cX12_gales 123 = .ok (.ifCond .eq 9, 3) := by decide +kernel
theorem dX12_gales_126 : decode cX12_gales 126 = .ok (.iload 4, 2) := by decide +kernel
theorem dX12_gales_128 : decode cX12_gales 128 = .ok (.i2l, 1) := by decide +kernel
theorem dX12_gales_129 : decode cX12_gales 129 = .ok (.goto 9, 3) := by decide +kernel
theorem dX12_gales_132 : decode cX12_gales 132 = .ok (.bipush 10, 2) := by decide +kernel
theorem dX12_gales_134 : decode cX12_gales 134 = .ok (.iload 4, 2) := by decide +kernel
theorem dX12_gales_136 : decode cX12_gales 136 = .ok (.isub, 1) := by decide +kernel
theorem dX12_gales_137 : decode cX12_gales 137 = .ok (.i2l, 1) := by decide +kernel
theorem dX12_gales_138 : decode cX12_gales 138 = .ok (.lmul, 1) := by decide +kernel
theorem dX12_gales_139 : decode cX12_gales 139 = .ok (.lstore 11, 2) := by decide +kernel
theorem dX12_gales_141 : decode cX12_gales 141 = .ok (.aload_n 0, 1) := by decide +kernel
theorem dX12_gales_142 : decode cX12_gales 142 = .ok (.iload_n 3, 1) := by decide +kernel
theorem dX12_gales_143 : decode cX12_gales 143 = .ok (.iload 10, 2) := by decide +kernel
theorem dX12_gales_145 : decode cX12_gales 145 = .ok (.iload 13, 2) := by decide +kernel
theorem dX12_gales_147 : decode cX12_gales 147 = .ok (.invokestatic 134, 3) := by decide +kernel
theorem dX12_gales_150 : decode cX12_gales 150 = .ok (.invokevirtual 192, 3) := by decide +kernel
theorem dX12_gales_153 : decode cX12_gales 153 = .ok (.pop, 1) := by decide +kernel
theorem dX12_gales_154 : decode cX12_gales 154 = .ok (.iinc 13 1, 3) := by decide +kernel
theorem dX12_gales_157 : decode cX12_gales 157 = .ok (.goto (-49), 3) := by decide +kernel
theorem dX12_gales_160 : decode cX12_gales 160 = .ok (.lload 6, 2) := by decide +kernel
theorem dX12_gales_162 : decode cX12_gales 162 = .ok (.aload_n 0, 1) := by decide +kernel
theorem dX12_gales_163 : decode cX12_gales 163 = .ok (.getfield 81, 3) := by decide +kernel
theorem dX12_gales_166 : decode cX12_gales 166 = .ok (.iload_n 1, 1) := by decide +kernel
theorem dX12_gales_167 : decode cX12_gales 167 = .ok (.iaload, 1) := by decide +kernel
theorem dX12_gales_168 : decode cX12_gales 168 = .ok (.iconst 2, 1) := by decide +kernel
theorem dX12_gales_169 : decode cX12_gales 169 = .ok (.if_icmp .ne 8, 3) := by decide +kernel
theorem dX12_gales_172 : decode cX12_gales 172 = .ok (.lload 11, 2) := by decide +kernel
theorem dX12_gales_174 : decode cX12_gales 174 = .ok (.goto 4, 3) := by decide +kernel
theorem dX12_gales_177 : decode cX12_gales 177 = .ok (.lconst 0, 1) := by decide +kernel
theorem dX12_gales_178 : decode cX12_gales 178 = .ok (.ladd, 1) := by decide +kernel
theorem dX12_gales_179 : decode cX12_gales 179 = .ok (.lstore 6, 2) := by decide +kernel
theorem dX12_gales_181 : decode cX12_gales 181 = .ok (.iinc 10 1, 3) := by decide +kernel
theorem dX12_gales_184 : decode cX12_gales 184 = .ok (.goto (-94), 3) := by decide +kernel
theorem dX12_gales_187 : decode cX12_gales 187 = .ok (.lload 6, 2) := by decide +kernel
theorem dX12_gales_189 : decode cX12_gales 189 = .ok (.lload 8, 2) := by decide +kernel
theorem dX12_gales_191 : decode cX12_gales 191 = .ok (.invokestatic 226, 3) := by decide +kernel
theorem dX12_gales_194 : decode cX12_gales 194 = .ok (.lstore 10, 2) := by decide +kernel
theorem dX12_gales_196 : decode cX12_gales 196 = .ok (.iload 5, 2) := by decide +kernel
theorem dX12_gales_198 : decode cX12_gales 198 = .ok (.ifCond .eq 11, 3) := by decide +kernel
theorem dX12_gales_201 : decode cX12_gales 201 = .ok (.lload 6, 2) := by decide +kernel
theorem dX12_gales_203 : decode cX12_gales 203 = .ok (.lload 10, 2) := by decide +kernel
theorem dX12_gales_205 : decode cX12_gales 205 = .ok (.ldiv, 1) := by decide +kernel
theorem dX12_gales_206 : decode cX12_gales 206 = .ok (.goto 8, 3) := by decide +kernel
theorem dX12_gales_209 : decode cX12_gales 209 = .ok (.lload 8, 2) := by decide +kernel
theorem dX12_gales_211 : decode cX12_gales 211 = .ok (.lload 10, 2) := by decide +kernel
theorem dX12_gales_213 : decode cX12_gales 213 = .ok (.ldiv, 1) := by decide +kernel
theorem dX12_gales_214 : decode cX12_gales 214 = .ok (.lreturn, 1) := by decide +kernel
theorem dX12_cone_0 : decode cX12_cone 0 = .ok (.aload_n 0, 1) := by decide +kernel
theorem dX12_cone_1 : decode cX12_cone 1 = .ok (.iconst 0, 1) := by decide +kernel
theorem dX12_cone_2 : decode cX12_cone 2 = .ok (.putfield 108, 3) := by decide +kernel
theorem dX12_cone_5 : decode cX12_cone 5 = .ok (.aload_n 0, 1) := by decide +kernel
theorem dX12_cone_6 : decode cX12_cone 6 = .ok (.iload_n 1, 1) := by decide +kernel
theorem dX12_cone_7 : decode cX12_cone 7 = .ok (.invokevirtual 172, 3) := by decide +kernel
theorem dX12_cone_10 : decode cX12_cone 10 = .ok (.ifCond .eq 5, 3) := by decide +kernel
theorem dX12_cone_13 : decode cX12_cone 13 = .ok (.iconst (-1), 1) := by decide +kernel
theorem dX12_cone_14 : decode cX12_cone 14 = .ok (.ireturn, 1) := by decide +kernel
theorem dX12_cone_15 : decode cX12_cone 15 = .ok (.iload_n 2, 1) := by decide +kernel
theorem dX12_cone_16 : decode cX12_cone 16 = .ok (.iload_n 3, 1) := by decide +kernel
theorem dX12_cone_17 : decode cX12_cone 17 = .ok (.invokestatic 202, 3) := by decide +kernel
theorem dX12_cone_20 : decode cX12_cone 20 = .ok (.ifCond .ne 16, 3) := by decide +kernel
theorem dX12_cone_23 : decode cX12_cone 23 = .ok (.iload 4, 2) := by decide +kernel
theorem dX12_cone_25 : decode cX12_cone 25 = .ok (.i2l, 1) := by decide +kernel
theorem dX12_cone_26 : decode cX12_cone 26 = .ok (.lconst 0, 1) := by decide +kernel
theorem dX12_cone_27 : decode cX12_cone 27 = .ok (.ldc2_w 230, 3) := by decide +kernel
theorem dX12_cone_30 : decode cX12_cone 30 = .ok (.invokestatic 111, 3) := by decide +kernel
theorem dX12_cone_33 : decode cX12_cone 33 = .ok (.ifCond .ne 6, 3) := by decide +kernel
theorem dX12_cone_36 : decode cX12_cone 36 = .ok (.bipush (-2), 2) := by decide +kernel
theorem dX12_cone_38 : decode cX12_cone 38 = .ok (.ireturn, 1) := by decide +kernel
theorem dX12_cone_39 : decode cX12_cone 39 = .ok (.aload_n 0, 1) := by decide +kernel
theorem dX12_cone_40 : decode cX12_cone 40 = .ok (.getfield 169, 3) := by decide +kernel
theorem dX12_cone_43 : decode cX12_cone 43 = .ok (.bipush 8, 2) := by decide +kernel
theorem dX12_cone_45 : decode cX12_cone 45 = .ok (.if_icmp .ne 6, 3) := by decide +kernel
theorem dX12_cone_48 : decode cX12_cone 48 = .ok (.bipush (-4), 2) := by decide +kernel
theorem dX12_cone_50 : decode cX12_cone 50 = .ok (.ireturn, 1) := by decide +kernel
theorem dX12_cone_51 : decode cX12_cone 51 = .ok (.aload_n 0, 1) := by decide +kernel
theorem dX12_cone_52 : decode cX12_cone 52 = .ok (.getfield 87, 3) := by decide +kernel
theorem dX12_cone_55 : decode cX12_cone 55 = .ok (.aload_n 0, 1) := by decide +kernel
theorem dX12_cone_56 : decode cX12_cone 56 = .ok (.getfield 169, 3) := by decide +kernel
theorem dX12_cone_59 : decode cX12_cone 59 = .ok (.iload_n 1, 1) := by decide +kernel
theorem dX12_cone_60 : decode cX12_cone 60 = .ok (.iastore, 1) := by decide +kernel
theorem dX12_cone_61 : decode cX12_cone 61 = .ok (.aload_n 0, 1) := by decide +kernel
theorem dX12_cone_62 : decode cX12_cone 62 = .ok (.getfield 90, 3) := by decide +kernel
theorem dX12_cone_65 : decode cX12_cone 65 = .ok (.aload_n 0, 1) := by decide +kernel
theorem dX12_cone_66 : decode cX12_cone 66 = .ok (.getfield 169, 3) := by decide +kernel
theorem dX12_cone_69 : decode cX12_cone 69 = .ok (.iload_n 2, 1) := by decide +kernel
theorem dX12_cone_70 : decode cX12_cone 70 = .ok (.iastore, 1) := by decide +kernel
theorem dX12_cone_71 : decode cX12_cone 71 = .ok (.aload_n 0, 1) := by decide +kernel
theorem dX12_cone_72 : decode cX12_cone 72 = .ok (.getfield 93, 3) := by decide +kernel
theorem dX12_cone_75 : decode cX12_cone 75 = .ok (.aload_n 0, 1) := by decide +kernel
theorem dX12_cone_76 : decode cX12_cone 76 = .ok (.getfield 169, 3) := by decide +kernel
theorem dX12_cone_79 : decode cX12_cone 79 = .ok (.iload_n 3, 1) := by decide +kernel
theorem dX12_cone_80 : decode cX12_cone 80 = .ok (.iastore, 1) := by decide +kernel
theorem dX12_cone_81 : decode cX12_cone 81 = .ok (.aload_n 0, 1) := by decide +kernel
theorem dX12_cone_82 : decode cX12_cone 82 = .ok (.getfield 96, 3) := by decide +kernel
theorem dX12_cone_85 : decode cX12_cone 85 = .ok (.aload_n 0, 1) := by decide +kernel
theorem dX12_cone_86 : decode cX12_cone 86 = .ok (.getfield 169, 3) := by decide +kernel
theorem dX12_cone_89 : decode cX12_cone 89 = .ok (.bipush 10, 2) := by decide +kernel
theorem dX12_cone_91 : decode cX12_cone 91 = .ok (.iload 4, 2) := by decide +kernel
theorem dX12_cone_93 : decode cX12_cone 93 = .ok (.imul, 1) := by decide +kernel
theorem dX12_cone_94 : decode cX12_cone 94 = .ok (.iastore, 1) := by decide +kernel
theorem dX12_cone_95 : decode cX12_cone 95 = .ok (.aload_n 0, 1) := by decide +kernel
theorem dX12_cone_96 : decode cX12_cone 96 = .ok (.getfield 99, 3) := by decide +kernel
theorem dX12_cone_99 : decode cX12_cone 99 = .ok (.aload_n 0, 1) := by decide +kernel
theorem dX12_cone_100 : decode cX12_cone 100 = .ok (.getfield 169, 3) := by decide +kernel
theorem dX12_cone_103 : decode cX12_cone 103 = .ok (.iload 5, 2) := by decide +kernel
theorem dX12_cone_105 : decode cX12_cone 105 = .ok (.bastore, 1) := by decide +kernel
theorem dX12_cone_106 : decode cX12_cone 106 = .ok (.aload_n 0, 1) := by decide +kernel
theorem dX12_cone_107 : decode cX12_cone 107 = .ok (.dup, 1) := by decide +kernel
theorem dX12_cone_108 : decode cX12_cone 108 = .ok (.getfield 169, 3) := by decide +kernel
theorem dX12_cone_111 : decode cX12_cone 111 = .ok (.iconst 1, 1) := by decide +kernel
theorem dX12_cone_112 : decode cX12_cone 112 = .ok (.iadd, 1) := by decide +kernel
theorem dX12_cone_113 : decode cX12_cone 113 = .ok (.putfield 169, 3) := by decide +kernel
theorem dX12_cone_116 : decode cX12_cone 116 = .ok (.aload_n 0, 1) := by decide +kernel
theorem dX12_cone_117 : decode cX12_cone 117 = .ok (.getfield 169, 3) := by decide +kernel
theorem dX12_cone_120 : decode cX12_cone 120 = .ok (.ireturn, 1) := by decide +kernel
theorem dX12_uncone_0 : decode cX12_uncone 0 = .ok (.aload_n 0, 1) := by decide +kernel
theorem dX12_uncone_1 : decode cX12_uncone 1 = .ok (.iconst 0, 1) := by decide +kernel
theorem dX12_uncone_2 : decode cX12_uncone 2 = .ok (.putfield 108, 3) := by decide +kernel
theorem dX12_uncone_5 : decode cX12_uncone 5 = .ok (.aload_n 0, 1) := by decide +kernel
theorem dX12_uncone_6 : decode cX12_uncone 6 = .ok (.getfield 169, 3) := by decide +kernel
theorem dX12_uncone_9 : decode cX12_uncone 9 = .ok (.istore_n 1, 1) := by decide +kernel
theorem dX12_uncone_10 : decode cX12_uncone 10 = .ok (.aload_n 0, 1) := by decide +kernel
theorem dX12_uncone_11 : decode cX12_uncone 11 = .ok (.iconst 0, 1) := by decide +kernel
theorem dX12_uncone_12 : decode cX12_uncone 12 = .ok (.putfield 169, 3) := by decide +kernel
theorem dX12_uncone_15 : decode cX12_uncone 15 = .ok (.iload_n 1, 1) := by decide +kernel
theorem dX12_uncone_16 : decode cX12_uncone 16 = .ok (.ireturn, 1) := by decide +kernel
theorem dX12_isTrue_0 : decode cX12_isTrue 0 = .ok (.aload_n 0, 1) := by decide +kernel
theorem dX12_isTrue_1 : decode cX12_isTrue 1 = .ok (.aload_n 0, 1) := by decide +kernel
theorem dX12_isTrue_2 : decode cX12_isTrue 2 = .ok (.getfield 87, 3) := by decide +kernel
theorem dX12_isTrue_5 : decode cX12_isTrue 5 = .ok (.iload_n 1, 1) := by decide +kernel
theorem dX12_isTrue_6 : decode cX12_isTrue 6 = .ok (.iaload, 1) := by decide +kernel
theorem dX12_isTrue_7 : decode cX12_isTrue 7 = .ok (.invokevirtual 172, 3) := by decide +kernel
theorem dX12_isTrue_10 : decode cX12_isTrue 10 = .ok (.ifCond .eq 5, 3) := by decide +kernel
theorem dX12_isTrue_13 : decode cX12_isTrue 13 = .ok (.iconst 0, 1) := by decide +kernel
theorem dX12_isTrue_14 : decode cX12_isTrue 14 = .ok (.ireturn, 1) := by decide +kernel
theorem dX12_isTrue_15 : decode cX12_isTrue 15 = .ok (.iconst 0, 1) := by decide +kernel
theorem dX12_isTrue_16 : decode cX12_isTrue 16 = .ok (.istore_n 2, 1) := by decide +kernel
theorem dX12_isTrue_17 : decode cX12_isTrue 17 = .ok (.iload_n 2, 1) := by decide +kernel
theorem dX12_isTrue_18 : decode cX12_isTrue 18 = .ok (.aload_n 0, 1) := by decide +kernel
theorem dX12_isTrue_19 : decode cX12_isTrue 19 = .ok (.getfield 13, 3) := by decide +kernel
theorem dX12_isTrue_22 : decode cX12_isTrue 22 = .ok (.if_icmp .ge 16, 3) := by decide +kernel
theorem dX12_isTrue_25 : decode cX12_isTrue 25 = .ok (.aload_n 0, 1) := by decide +kernel
theorem dX12_isTrue_26 : decode cX12_isTrue 26 = .ok (.getfield 69, 3) := by decide +kernel
theorem dX12_isTrue_29 : decode cX12_isTrue 29 = .ok (.iload_n 2, 1) := by decide +kernel
theorem dX12_isTrue_30 : decode cX12_isTrue 30 = .ok (.iconst 0, 1) := by decide +kernel
theorem dX12_isTrue_31 : decode cX12_isTrue 31 = .ok (.iastore, 1) := by decide +kernel
theorem dX12_isTrue_32 : decode cX12_isTrue 32 = .ok (.iinc 2 1, 3) := by decide +kernel
theorem dX12_isTrue_35 : decode cX12_isTrue 35 = .ok (.goto (-18), 3) := by decide +kernel
theorem dX12_isTrue_38 : decode cX12_isTrue 38 = .ok (.iconst 0, 1) := by decide +kernel
theorem dX12_isTrue_39 : decode cX12_isTrue 39 = .ok (.istore_n 2, 1) := by decide +kernel
theorem dX12_isTrue_40 : decode cX12_isTrue 40 = .ok (.iload_n 2, 1) := by decide +kernel
theorem dX12_isTrue_41 : decode cX12_isTrue 41 = .ok (.aload_n 0, 1) := by decide +kernel
theorem dX12_isTrue_42 : decode cX12_isTrue 42 = .ok (.getfield 90, 3) := by decide +kernel
theorem dX12_isTrue_45 : decode cX12_isTrue 45 = .ok (.iload_n 1, 1) := by decide +kernel
theorem dX12_isTrue_46 : decode cX12_isTrue 46 = .ok (.iaload, 1) := by decide +kernel
theorem dX12_isTrue_47 : decode cX12_isTrue 47 = .ok (.if_icmp .ge 20, 3) := by decide +kernel
theorem dX12_isTrue_50 : decode cX12_isTrue 50 = .ok (.aload_n 0, 1) := by decide +kernel
theorem dX12_isTrue_51 : decode cX12_isTrue 51 = .ok (.aload_n 0, 1) := by decide +kernel
theorem dX12_isTrue_52 : decode cX12_isTrue 52 = .ok (.getfield 93, 3) := by decide +kernel
theorem dX12_isTrue_55 : decode cX12_isTrue 55 = .ok (.iload_n 1, 1) := by decide +kernel
theorem dX12_isTrue_56 : decode cX12_isTrue 56 = .ok (.iaload, 1) := by decide +kernel
theorem dX12_isTrue_57 : decode cX12_isTrue 57 = .ok (.iconst 0, 1) := by decide +kernel
theorem dX12_isTrue_58 : decode cX12_isTrue 58 = .ok (.invokevirtual 185, 3) := by decide +kernel
theorem dX12_isTrue_61 : decode cX12_isTrue 61 = .ok (.iinc 2 1, 3) := by decide +kernel
theorem dX12_isTrue_64 : decode cX12_isTrue 64 = .ok (.goto (-24), 3) := by decide +kernel
theorem dX12_isTrue_67 : decode cX12_isTrue 67 = .ok (.aload_n 0, 1) := by decide +kernel
theorem dX12_isTrue_68 : decode cX12_isTrue 68 = .ok (.getfield 69, 3) := by decide +kernel
theorem dX12_isTrue_71 : decode cX12_isTrue 71 = .ok (.aload_n 0, 1) := by decide +kernel
theorem dX12_isTrue_72 : decode cX12_isTrue 72 = .ok (.getfield 87, 3) := by decide +kernel
theorem dX12_isTrue_75 : decode cX12_isTrue 75 = .ok (.iload_n 1, 1) := by decide +kernel
theorem dX12_isTrue_76 : decode cX12_isTrue 76 = .ok (.iaload, 1) := by decide +kernel
theorem dX12_isTrue_77 : decode cX12_isTrue 77 = .ok (.iaload, 1) := by decide +kernel
theorem dX12_isTrue_78 : decode cX12_isTrue 78 = .ok (.aload_n 0, 1) := by decide +kernel
theorem dX12_isTrue_79 : decode cX12_isTrue 79 = .ok (.getfield 96, 3) := by decide +kernel
theorem dX12_isTrue_82 : decode cX12_isTrue 82 = .ok (.iload_n 1, 1) := by decide +kernel
theorem dX12_isTrue_83 : decode cX12_isTrue 83 = .ok (.iaload, 1) := by decide +kernel
theorem dX12_isTrue_84 : decode cX12_isTrue 84 = .ok (.if_icmp .lt 7, 3) := by decide +kernel
theorem dX12_isTrue_87 : decode cX12_isTrue 87 = .ok (.iconst 1, 1) := by decide +kernel
theorem dX12_isTrue_88 : decode cX12_isTrue 88 = .ok (.goto 4, 3) := by decide +kernel
theorem dX12_isTrue_91 : decode cX12_isTrue 91 = .ok (.iconst 0, 1) := by decide +kernel
theorem dX12_isTrue_92 : decode cX12_isTrue 92 = .ok (.aload_n 0, 1) := by decide +kernel
theorem dX12_isTrue_93 : decode cX12_isTrue 93 = .ok (.getfield 99, 3) := by decide +kernel
theorem dX12_isTrue_96 : decode cX12_isTrue 96 = .ok (.iload_n 1, 1) := by decide +kernel
theorem dX12_isTrue_97 : decode cX12_isTrue 97 = .ok (.baload, 1) := by decide +kernel
theorem dX12_isTrue_98 : decode cX12_isTrue 98 = .ok (.if_icmp .ne 7, 3) := by decide +kernel
theorem dX12_isTrue_101 : decode cX12_isTrue 101 = .ok (.iconst 1, 1) := by decide +kernel
theorem dX12_isTrue_102 : decode cX12_isTrue 102 = .ok (.goto 4, 3) := by decide +kernel
theorem dX12_isTrue_105 : decode cX12_isTrue 105 = .ok (.iconst 0, 1) := by decide +kernel
theorem dX12_isTrue_106 : decode cX12_isTrue 106 = .ok (.ireturn, 1) := by decide +kernel
theorem dX12_blame_0 : decode cX12_blame 0 = .ok (.aload_n 0, 1) := by decide +kernel
theorem dX12_blame_1 : decode cX12_blame 1 = .ok (.iconst 0, 1) := by decide +kernel
theorem dX12_blame_2 : decode cX12_blame 2 = .ok (.putfield 108, 3) := by decide +kernel
theorem dX12_blame_5 : decode cX12_blame 5 = .ok (.aload_n 0, 1) := by decide +kernel
theorem dX12_blame_6 : decode cX12_blame 6 = .ok (.iload_n 1, 1) := by decide +kernel
theorem dX12_blame_7 : decode cX12_blame 7 = .ok (.invokevirtual 172, 3) := by decide +kernel
theorem dX12_blame_10 : decode cX12_blame 10 = .ok (.ifCond .eq 5, 3) := by decide +kernel
theorem dX12_blame_13 : decode cX12_blame 13 = .ok (.iconst (-1), 1) := by decide +kernel
theorem dX12_blame_14 : decode cX12_blame 14 = .ok (.ireturn, 1) := by decide +kernel
theorem dX12_blame_15 : decode cX12_blame 15 = .ok (.aload_n 0, 1) := by decide +kernel
theorem dX12_blame_16 : decode cX12_blame 16 = .ok (.getfield 17, 3) := by decide +kernel
theorem dX12_blame_19 : decode cX12_blame 19 = .ok (.iload_n 1, 1) := by decide +kernel
theorem dX12_blame_20 : decode cX12_blame 20 = .ok (.iaload, 1) := by decide +kernel
theorem dX12_blame_21 : decode cX12_blame 21 = .ok (.istore_n 2, 1) := by decide +kernel
theorem dX12_blame_22 : decode cX12_blame 22 = .ok (.iconst 0, 1) := by decide +kernel
theorem dX12_blame_23 : decode cX12_blame 23 = .ok (.istore_n 3, 1) := by decide +kernel
theorem dX12_blame_24 : decode cX12_blame 24 = .ok (.iconst 0, 1) := by decide +kernel
theorem dX12_blame_25 : decode cX12_blame 25 = .ok (.istore 4, 2) := by decide +kernel
theorem dX12_blame_27 : decode cX12_blame 27 = .ok (.iload 4, 2) := by decide +kernel
theorem dX12_blame_29 : decode cX12_blame 29 = .ok (.bipush 10, 2) := by decide +kernel
theorem dX12_blame_31 : decode cX12_blame 31 = .ok (.aload_n 0, 1) := by decide +kernel
theorem dX12_blame_32 : decode cX12_blame 32 = .ok (.getfield 20, 3) := by decide +kernel
theorem dX12_blame_35 : decode cX12_blame 35 = .ok (.iload_n 1, 1) := by decide +kernel
theorem dX12_blame_36 : decode cX12_blame 36 = .ok (.iaload, 1) := by decide +kernel
theorem dX12_blame_37 : decode cX12_blame 37 = .ok (.isub, 1) := by decide +kernel
theorem dX12_blame_38 : decode cX12_blame 38 = .ok (.if_icmp .gt 67, 3) := by decide +kernel
theorem dX12_blame_41 : decode cX12_blame 41 = .ok (.aload_n 0, 1) := by decide +kernel
theorem dX12_blame_42 : decode cX12_blame 42 = .ok (.getfield 17, 3) := by decide +kernel
theorem dX12_blame_45 : decode cX12_blame 45 = .ok (.iload_n 1, 1) := by decide +kernel
theorem dX12_blame_46 : decode cX12_blame 46 = .ok (.iload 4, 2) := by decide +kernel
theorem dX12_blame_48 : decode cX12_blame 48 = .ok (.iastore, 1) := by decide +kernel
theorem dX12_blame_49 : decode cX12_blame 49 = .ok (.iconst 1, 1) := by decide +kernel
theorem dX12_blame_50 : decode cX12_blame 50 = .ok (.istore 5, 2) := by decide +kernel
theorem dX12_blame_52 : decode cX12_blame 52 = .ok (.iconst 0, 1) := by decide +kernel
theorem dX12_blame_53 : decode cX12_blame 53 = .ok (.istore 6, 2) := by decide +kernel
theorem dX12_blame_55 : decode cX12_blame 55 = .ok (.iload 6, 2) := by decide +kernel
theorem dX12_blame_57 : decode cX12_blame 57 = .ok (.aload_n 0, 1) := by decide +kernel
theorem dX12_blame_58 : decode cX12_blame 58 = .ok (.getfield 169, 3) := by decide +kernel
theorem dX12_blame_61 : decode cX12_blame 61 = .ok (.if_icmp .ge 22, 3) := by decide +kernel
theorem dX12_blame_64 : decode cX12_blame 64 = .ok (.iload 5, 2) := by decide +kernel
theorem dX12_blame_66 : decode cX12_blame 66 = .ok (.ifCond .eq 17, 3) := by decide +kernel
theorem dX12_blame_69 : decode cX12_blame 69 = .ok (.aload_n 0, 1) := by decide +kernel
theorem dX12_blame_70 : decode cX12_blame 70 = .ok (.iload 6, 2) := by decide +kernel
theorem dX12_blame_72 : decode cX12_blame 72 = .ok (.invokevirtual 232, 3) := by decide +kernel
theorem dX12_blame_75 : decode cX12_blame 75 = .ok (.istore 5, 2) := by decide +kernel
theorem dX12_blame_77 : decode cX12_blame 77 = .ok (.iinc 6 1, 3) := by decide +kernel
theorem dX12_blame_80 : decode cX12_blame 80 = .ok (.goto (-25), 3) := by decide +kernel
theorem dX12_blame_83 : decode cX12_blame 83 = .ok (.iload_n 3, 1) := by decide +kernel
theorem dX12_blame_84 : decode cX12_blame 84 = .ok (.iload 5, 2) := by decide +kernel
theorem dX12_blame_86 : decode cX12_blame 86 = .ok (.ifCond .eq 10, 3) := by decide +kernel
theorem dX12_blame_89 : decode cX12_blame 89 = .ok (.iconst 1, 1) := by decide +kernel
theorem dX12_blame_90 : decode cX12_blame 90 = .ok (.iload 4, 2) := by decide +kernel
theorem dX12_blame_92 : decode cX12_blame 92 = .ok (.ishl, 1) := by decide +kernel
theorem dX12_blame_93 : decode cX12_blame 93 = .ok (.goto 4, 3) := by decide +kernel
theorem dX12_blame_96 : decode cX12_blame 96 = .ok (.iconst 0, 1) := by decide +kernel
theorem dX12_blame_97 : decode cX12_blame 97 = .ok (.ior, 1) := by decide +kernel
theorem dX12_blame_98 : decode cX12_blame 98 = .ok (.istore_n 3, 1) := by decide +kernel
theorem dX12_blame_99 : decode cX12_blame 99 = .ok (.iinc 4 1, 3) := by decide +kernel
theorem dX12_blame_102 : decode cX12_blame 102 = .ok (.goto (-75), 3) := by decide +kernel
theorem dX12_blame_105 : decode cX12_blame 105 = .ok (.aload_n 0, 1) := by decide +kernel
theorem dX12_blame_106 : decode cX12_blame 106 = .ok (.getfield 17, 3) := by decide +kernel
theorem dX12_blame_109 : decode cX12_blame 109 = .ok (.iload_n 1, 1) := by decide +kernel
theorem dX12_blame_110 : decode cX12_blame 110 = .ok (.iload_n 2, 1) := by decide +kernel
theorem dX12_blame_111 : decode cX12_blame 111 = .ok (.iastore, 1) := by decide +kernel
theorem dX12_blame_112 : decode cX12_blame 112 = .ok (.iload_n 3, 1) := by decide +kernel
theorem dX12_blame_113 : decode cX12_blame 113 = .ok (.ireturn, 1) := by decide +kernel
theorem dX12_owed_0 : decode cX12_owed 0 = .ok (.aload_n 0, 1) := by decide +kernel
theorem dX12_owed_1 : decode cX12_owed 1 = .ok (.iconst 0, 1) := by decide +kernel
theorem dX12_owed_2 : decode cX12_owed 2 = .ok (.putfield 108, 3) := by decide +kernel
theorem dX12_owed_5 : decode cX12_owed 5 = .ok (.aload_n 0, 1) := by decide +kernel
theorem dX12_owed_6 : decode cX12_owed 6 = .ok (.iload_n 1, 1) := by decide +kernel
theorem dX12_owed_7 : decode cX12_owed 7 = .ok (.invokevirtual 172, 3) := by decide +kernel
theorem dX12_owed_10 : decode cX12_owed 10 = .ok (.ifCond .eq 5, 3) := by decide +kernel
theorem dX12_owed_13 : decode cX12_owed 13 = .ok (.iconst (-1), 1) := by decide +kernel
theorem dX12_owed_14 : decode cX12_owed 14 = .ok (.ireturn, 1) := by decide +kernel
theorem dX12_owed_15 : decode cX12_owed 15 = .ok (.aload_n 0, 1) := by decide +kernel
theorem dX12_owed_16 : decode cX12_owed 16 = .ok (.invokevirtual 162, 3) := by decide +kernel
theorem dX12_owed_19 : decode cX12_owed 19 = .ok (.istore_n 3, 1) := by decide +kernel
theorem dX12_owed_20 : decode cX12_owed 20 = .ok (.iload_n 3, 1) := by decide +kernel
theorem dX12_owed_21 : decode cX12_owed 21 = .ok (.ifCond .ne 13, 3) := by decide +kernel
theorem dX12_owed_24 : decode cX12_owed 24 = .ok (.iload_n 2, 1) := by decide +kernel
theorem dX12_owed_25 : decode cX12_owed 25 = .ok (.ifCond .eq 7, 3) := by decide +kernel
theorem dX12_owed_28 : decode cX12_owed 28 = .ok (.iconst 0, 1) := by decide +kernel
theorem dX12_owed_29 : decode cX12_owed 29 = .ok (.goto 4, 3) := by decide +kernel
theorem dX12_owed_32 : decode cX12_owed 32 = .ok (.iconst 1, 1) := by decide +kernel
theorem dX12_owed_33 : decode cX12_owed 33 = .ok (.ireturn, 1) := by decide +kernel
theorem dX12_owed_34 : decode cX12_owed 34 = .ok (.aload_n 0, 1) := by decide +kernel
theorem dX12_owed_35 : decode cX12_owed 35 = .ok (.getfield 23, 3) := by decide +kernel
theorem dX12_owed_38 : decode cX12_owed 38 = .ok (.iload_n 1, 1) := by decide +kernel
theorem dX12_owed_39 : decode cX12_owed 39 = .ok (.iaload, 1) := by decide +kernel
theorem dX12_owed_40 : decode cX12_owed 40 = .ok (.i2l, 1) := by decide +kernel
theorem dX12_owed_41 : decode cX12_owed 41 = .ok (.iload_n 3, 1) := by decide +kernel
theorem dX12_owed_42 : decode cX12_owed 42 = .ok (.i2l, 1) := by decide +kernel
theorem dX12_owed_43 : decode cX12_owed 43 = .ok (.invokestatic 226, 3) := by decide +kernel
theorem dX12_owed_46 : decode cX12_owed 46 = .ok (.l2i, 1) := by decide +kernel
theorem dX12_owed_47 : decode cX12_owed 47 = .ok (.istore 4, 2) := by decide +kernel
theorem dX12_owed_49 : decode cX12_owed 49 = .ok (.iload_n 2, 1) := by decide +kernel
theorem dX12_owed_50 : decode cX12_owed 50 = .ok (.ifCond .eq 15, 3) := by decide +kernel
theorem dX12_owed_53 : decode cX12_owed 53 = .ok (.aload_n 0, 1) := by decide +kernel
theorem dX12_owed_54 : decode cX12_owed 54 = .ok (.getfield 23, 3) := by decide +kernel
theorem dX12_owed_57 : decode cX12_owed 57 = .ok (.iload_n 1, 1) := by decide +kernel
theorem dX12_owed_58 : decode cX12_owed 58 = .ok (.iaload, 1) := by decide +kernel
theorem dX12_owed_59 : decode cX12_owed 59 = .ok (.iload 4, 2) := by decide +kernel
theorem dX12_owed_61 : decode cX12_owed 61 = .ok (.idiv, 1) := by decide +kernel
theorem dX12_owed_62 : decode cX12_owed 62 = .ok (.goto 7, 3) := by decide +kernel
theorem dX12_owed_65 : decode cX12_owed 65 = .ok (.iload_n 3, 1) := by decide +kernel
theorem dX12_owed_66 : decode cX12_owed 66 = .ok (.iload 4, 2) := by decide +kernel
theorem dX12_owed_68 : decode cX12_owed 68 = .ok (.idiv, 1) := by decide +kernel
theorem dX12_owed_69 : decode cX12_owed 69 = .ok (.ireturn, 1) := by decide +kernel
theorem dX12_keep_0 : decode cX12_keep 0 = .ok (.aload_n 0, 1) := by decide +kernel
theorem dX12_keep_1 : decode cX12_keep 1 = .ok (.iconst 0, 1) := by decide +kernel
theorem dX12_keep_2 : decode cX12_keep 2 = .ok (.putfield 108, 3) := by decide +kernel
theorem dX12_keep_5 : decode cX12_keep 5 = .ok (.iload_n 1, 1) := by decide +kernel
theorem dX12_keep_6 : decode cX12_keep 6 = .ok (.i2l, 1) := by decide +kernel
theorem dX12_keep_7 : decode cX12_keep 7 = .ok (.lconst 0, 1) := by decide +kernel
theorem dX12_keep_8 : decode cX12_keep 8 = .ok (.lconst 1, 1) := by decide +kernel
theorem dX12_keep_9 : decode cX12_keep 9 = .ok (.invokestatic 111, 3) := by decide +kernel
theorem dX12_keep_12 : decode cX12_keep 12 = .ok (.ifCond .ne 5, 3) := by decide +kernel
theorem dX12_keep_15 : decode cX12_keep 15 = .ok (.iconst (-1), 1) := by decide +kernel
theorem dX12_keep_16 : decode cX12_keep 16 = .ok (.ireturn, 1) := by decide +kernel
theorem dX12_keep_17 : decode cX12_keep 17 = .ok (.aload_n 0, 1) := by decide +kernel
theorem dX12_keep_18 : decode cX12_keep 18 = .ok (.getfield 65, 3) := by decide +kernel
theorem dX12_keep_21 : decode cX12_keep 21 = .ok (.iload_n 1, 1) := by decide +kernel
theorem dX12_keep_22 : decode cX12_keep 22 = .ok (.iconst 1, 1) := by decide +kernel
theorem dX12_keep_23 : decode cX12_keep 23 = .ok (.bastore, 1) := by decide +kernel
theorem dX12_keep_24 : decode cX12_keep 24 = .ok (.bipush 36, 2) := by decide +kernel
theorem dX12_keep_26 : decode cX12_keep 26 = .ok (.iload_n 1, 1) := by decide +kernel
theorem dX12_keep_27 : decode cX12_keep 27 = .ok (.imul, 1) := by decide +kernel
theorem dX12_keep_28 : decode cX12_keep 28 = .ok (.istore_n 2, 1) := by decide +kernel
theorem dX12_keep_29 : decode cX12_keep 29 = .ok (.iconst 0, 1) := by decide +kernel
theorem dX12_keep_30 : decode cX12_keep 30 = .ok (.istore_n 3, 1) := by decide +kernel
theorem dX12_keep_31 : decode cX12_keep 31 = .ok (.iload_n 3, 1) := by decide +kernel
theorem dX12_keep_32 : decode cX12_keep 32 = .ok (.iconst 5, 1) := by decide +kernel
theorem dX12_keep_33 : decode cX12_keep 33 = .ok (.if_icmp .ge 107, 3) := by decide +kernel
theorem dX12_keep_36 : decode cX12_keep 36 = .ok (.aload_n 0, 1) := by decide +kernel
theorem dX12_keep_37 : decode cX12_keep 37 = .ok (.getfield 62, 3) := by decide +kernel
theorem dX12_keep_40 : decode cX12_keep 40 = .ok (.iload_n 2, 1) := by decide +kernel
theorem dX12_keep_41 : decode cX12_keep 41 = .ok (.iload_n 3, 1) := by decide +kernel
theorem dX12_keep_42 : decode cX12_keep 42 = .ok (.iadd, 1) := by decide +kernel
theorem dX12_keep_43 : decode cX12_keep 43 = .ok (.aload_n 0, 1) := by decide +kernel
theorem dX12_keep_44 : decode cX12_keep 44 = .ok (.getfield 23, 3) := by decide +kernel
theorem dX12_keep_47 : decode cX12_keep 47 = .ok (.iload_n 3, 1) := by decide +kernel
theorem dX12_keep_48 : decode cX12_keep 48 = .ok (.iaload, 1) := by decide +kernel
theorem dX12_keep_49 : decode cX12_keep 49 = .ok (.iastore, 1) := by decide +kernel
theorem dX12_keep_50 : decode cX12_keep 50 = .ok (.aload_n 0, 1) := by decide +kernel
theorem dX12_keep_51 : decode cX12_keep 51 = .ok (.getfield 62, 3) := by decide +kernel
theorem dX12_keep_54 : decode cX12_keep 54 = .ok (.iload_n 2, 1) := by decide +kernel
theorem dX12_keep_55 : decode cX12_keep 55 = .ok (.iconst 5, 1) := by decide +kernel
theorem dX12_keep_56 : decode cX12_keep 56 = .ok (.iadd, 1) := by decide +kernel
theorem dX12_keep_57 : decode cX12_keep 57 = .ok (.iload_n 3, 1) := by decide +kernel
theorem dX12_keep_58 : decode cX12_keep 58 = .ok (.iadd, 1) := by decide +kernel
theorem dX12_keep_59 : decode cX12_keep 59 = .ok (.aload_n 0, 1) := by decide +kernel
theorem dX12_keep_60 : decode cX12_keep 60 = .ok (.getfield 17, 3) := by decide +kernel
theorem dX12_keep_63 : decode cX12_keep 63 = .ok (.iload_n 3, 1) := by decide +kernel
theorem dX12_keep_64 : decode cX12_keep 64 = .ok (.iaload, 1) := by decide +kernel
theorem dX12_keep_65 : decode cX12_keep 65 = .ok (.iastore, 1) := by decide +kernel
theorem dX12_keep_66 : decode cX12_keep 66 = .ok (.aload_n 0, 1) := by decide +kernel
theorem dX12_keep_67 : decode cX12_keep 67 = .ok (.getfield 62, 3) := by decide +kernel
theorem dX12_keep_70 : decode cX12_keep 70 = .ok (.iload_n 2, 1) := by decide +kernel
theorem dX12_keep_71 : decode cX12_keep 71 = .ok (.bipush 10, 2) := by decide +kernel
theorem dX12_keep_73 : decode cX12_keep 73 = .ok (.iadd, 1) := by decide +kernel
theorem dX12_keep_74 : decode cX12_keep 74 = .ok (.iload_n 3, 1) := by decide +kernel
theorem dX12_keep_75 : decode cX12_keep 75 = .ok (.iadd, 1) := by decide +kernel
theorem dX12_keep_76 : decode cX12_keep 76 = .ok (.aload_n 0, 1) := by decide +kernel
theorem dX12_keep_77 : decode cX12_keep 77 = .ok (.getfield 20, 3) := by decide +kernel
theorem dX12_keep_80 : decode cX12_keep 80 = .ok (.iload_n 3, 1) := by decide +kernel
theorem dX12_keep_81 : decode cX12_keep 81 = .ok (.iaload, 1) := by decide +kernel
theorem dX12_keep_82 : decode cX12_keep 82 = .ok (.iastore, 1) := by decide +kernel
theorem dX12_keep_83 : decode cX12_keep 83 = .ok (.aload_n 0, 1) := by decide +kernel
theorem dX12_keep_84 : decode cX12_keep 84 = .ok (.getfield 62, 3) := by decide +kernel
theorem dX12_keep_87 : decode cX12_keep 87 = .ok (.iload_n 2, 1) := by decide +kernel
theorem dX12_keep_88 : decode cX12_keep 88 = .ok (.bipush 15, 2) := by decide +kernel
theorem dX12_keep_90 : decode cX12_keep 90 = .ok (.iadd, 1) := by decide +kernel
theorem dX12_keep_91 : decode cX12_keep 91 = .ok (.iload_n 3, 1) := by decide +kernel
theorem dX12_keep_92 : decode cX12_keep 92 = .ok (.iadd, 1) := by decide +kernel
theorem dX12_keep_93 : decode cX12_keep 93 = .ok (.aload_n 0, 1) := by decide +kernel
theorem dX12_keep_94 : decode cX12_keep 94 = .ok (.getfield 26, 3) := by decide +kernel
theorem dX12_keep_97 : decode cX12_keep 97 = .ok (.iload_n 3, 1) := by decide +kernel
theorem dX12_keep_98 : decode cX12_keep 98 = .ok (.iaload, 1) := by decide +kernel
theorem dX12_keep_99 : decode cX12_keep 99 = .ok (.iastore, 1) := by decide +kernel
theorem dX12_keep_100 : decode cX12_keep 100 = .ok (.aload_n 0, 1) := by decide +kernel
theorem dX12_keep_101 : decode cX12_keep 101 = .ok (.getfield 62, 3) := by decide +kernel
theorem dX12_keep_104 : decode cX12_keep 104 = .ok (.iload_n 2, 1) := by decide +kernel
theorem dX12_keep_105 : decode cX12_keep 105 = .ok (.bipush 20, 2) := by decide +kernel
theorem dX12_keep_107 : decode cX12_keep 107 = .ok (.iadd, 1) := by decide +kernel
theorem dX12_keep_108 : decode cX12_keep 108 = .ok (.iload_n 3, 1) := by decide +kernel
theorem dX12_keep_109 : decode cX12_keep 109 = .ok (.iadd, 1) := by decide +kernel
theorem dX12_keep_110 : decode cX12_keep 110 = .ok (.aload_n 0, 1) := by decide +kernel
theorem dX12_keep_111 : decode cX12_keep 111 = .ok (.getfield 44, 3) := by decide +kernel
theorem dX12_keep_114 : decode cX12_keep 114 = .ok (.iload_n 3, 1) := by decide +kernel
theorem dX12_keep_115 : decode cX12_keep 115 = .ok (.iaload, 1) := by decide +kernel
theorem dX12_keep_116 : decode cX12_keep 116 = .ok (.iastore, 1) := by decide +kernel
theorem dX12_keep_117 : decode cX12_keep 117 = .ok (.aload_n 0, 1) := by decide +kernel
theorem dX12_keep_118 : decode cX12_keep 118 = .ok (.getfield 62, 3) := by decide +kernel
theorem dX12_keep_121 : decode cX12_keep 121 = .ok (.iload_n 2, 1) := by decide +kernel
theorem dX12_keep_122 : decode cX12_keep 122 = .ok (.bipush 25, 2) := by decide +kernel
theorem dX12_keep_124 : decode cX12_keep 124 = .ok (.iadd, 1) := by decide +kernel
theorem dX12_keep_125 : decode cX12_keep 125 = .ok (.iload_n 3, 1) := by decide +kernel
theorem dX12_keep_126 : decode cX12_keep 126 = .ok (.iadd, 1) := by decide +kernel
theorem dX12_keep_127 : decode cX12_keep 127 = .ok (.aload_n 0, 1) := by decide +kernel
theorem dX12_keep_128 : decode cX12_keep 128 = .ok (.getfield 47, 3) := by decide +kernel
theorem dX12_keep_131 : decode cX12_keep 131 = .ok (.iload_n 3, 1) := by decide +kernel
theorem dX12_keep_132 : decode cX12_keep 132 = .ok (.iaload, 1) := by decide +kernel
theorem dX12_keep_133 : decode cX12_keep 133 = .ok (.iastore, 1) := by decide +kernel
theorem dX12_keep_134 : decode cX12_keep 134 = .ok (.iinc 3 1, 3) := by decide +kernel
theorem dX12_keep_137 : decode cX12_keep 137 = .ok (.goto (-106), 3) := by decide +kernel
theorem dX12_keep_140 : decode cX12_keep 140 = .ok (.aload_n 0, 1) := by decide +kernel
theorem dX12_keep_141 : decode cX12_keep 141 = .ok (.getfield 62, 3) := by decide +kernel
theorem dX12_keep_144 : decode cX12_keep 144 = .ok (.iload_n 2, 1) := by decide +kernel
theorem dX12_keep_145 : decode cX12_keep 145 = .ok (.bipush 30, 2) := by decide +kernel
theorem dX12_keep_147 : decode cX12_keep 147 = .ok (.iadd, 1) := by decide +kernel
theorem dX12_keep_148 : decode cX12_keep 148 = .ok (.aload_n 0, 1) := by decide +kernel
theorem dX12_keep_149 : decode cX12_keep 149 = .ok (.getfield 156, 3) := by decide +kernel
theorem dX12_keep_152 : decode cX12_keep 152 = .ok (.iastore, 1) := by decide +kernel
theorem dX12_keep_153 : decode cX12_keep 153 = .ok (.aload_n 0, 1) := by decide +kernel
theorem dX12_keep_154 : decode cX12_keep 154 = .ok (.invokevirtual 162, 3) := by decide +kernel
theorem dX12_keep_157 : decode cX12_keep 157 = .ok (.ireturn, 1) := by decide +kernel
theorem dX12_again_0 : decode cX12_again 0 = .ok (.aload_n 0, 1) := by decide +kernel
theorem dX12_again_1 : decode cX12_again 1 = .ok (.iconst 0, 1) := by decide +kernel
theorem dX12_again_2 : decode cX12_again 2 = .ok (.putfield 108, 3) := by decide +kernel
theorem dX12_again_5 : decode cX12_again 5 = .ok (.iload_n 1, 1) := by decide +kernel
theorem dX12_again_6 : decode cX12_again 6 = .ok (.i2l, 1) := by decide +kernel
theorem dX12_again_7 : decode cX12_again 7 = .ok (.lconst 0, 1) := by decide +kernel
theorem dX12_again_8 : decode cX12_again 8 = .ok (.lconst 1, 1) := by decide +kernel
theorem dX12_again_9 : decode cX12_again 9 = .ok (.invokestatic 111, 3) := by decide +kernel
theorem dX12_again_12 : decode cX12_again 12 = .ok (.ifCond .ne 5, 3) := by decide +kernel
theorem dX12_again_15 : decode cX12_again 15 = .ok (.iconst (-1), 1) := by decide +kernel
theorem dX12_again_16 : decode cX12_again 16 = .ok (.ireturn, 1) := by decide +kernel
theorem dX12_again_17 : decode cX12_again 17 = .ok (.aload_n 0, 1) := by decide +kernel
theorem dX12_again_18 : decode cX12_again 18 = .ok (.getfield 65, 3) := by decide +kernel
theorem dX12_again_21 : decode cX12_again 21 = .ok (.iload_n 1, 1) := by decide +kernel
theorem dX12_again_22 : decode cX12_again 22 = .ok (.baload, 1) := by decide +kernel
theorem dX12_again_23 : decode cX12_again 23 = .ok (.ifCond .ne 6, 3) := by decide +kernel
theorem dX12_again_26 : decode cX12_again 26 = .ok (.bipush (-3), 2) := by decide +kernel
theorem dX12_again_28 : decode cX12_again 28 = .ok (.ireturn, 1) := by decide +kernel
theorem dX12_again_29 : decode cX12_again 29 = .ok (.bipush 36, 2) := by decide +kernel
theorem dX12_again_31 : decode cX12_again 31 = .ok (.iload_n 1, 1) := by decide +kernel
theorem dX12_again_32 : decode cX12_again 32 = .ok (.imul, 1) := by decide +kernel
theorem dX12_again_33 : decode cX12_again 33 = .ok (.istore_n 2, 1) := by decide +kernel
theorem dX12_again_34 : decode cX12_again 34 = .ok (.iconst 0, 1) := by decide +kernel
theorem dX12_again_35 : decode cX12_again 35 = .ok (.istore_n 3, 1) := by decide +kernel
theorem dX12_again_36 : decode cX12_again 36 = .ok (.iload_n 3, 1) := by decide +kernel
theorem dX12_again_37 : decode cX12_again 37 = .ok (.iconst 5, 1) := by decide +kernel
theorem dX12_again_38 : decode cX12_again 38 = .ok (.if_icmp .ge 107, 3) := by decide +kernel
theorem dX12_again_41 : decode cX12_again 41 = .ok (.aload_n 0, 1) := by decide +kernel
theorem dX12_again_42 : decode cX12_again 42 = .ok (.getfield 23, 3) := by decide +kernel
theorem dX12_again_45 : decode cX12_again 45 = .ok (.iload_n 3, 1) := by decide +kernel
theorem dX12_again_46 : decode cX12_again 46 = .ok (.aload_n 0, 1) := by decide +kernel
theorem dX12_again_47 : decode cX12_again 47 = .ok (.getfield 62, 3) := by decide +kernel
theorem dX12_again_50 : decode cX12_again 50 = .ok (.iload_n 2, 1) := by decide +kernel
theorem dX12_again_51 : decode cX12_again 51 = .ok (.iload_n 3, 1) := by decide +kernel
theorem dX12_again_52 : decode cX12_again 52 = .ok (.iadd, 1) := by decide +kernel
theorem dX12_again_53 : decode cX12_again 53 = .ok (.iaload, 1) := by decide +kernel
theorem dX12_again_54 : decode cX12_again 54 = .ok (.iastore, 1) := by decide +kernel
theorem dX12_again_55 : decode cX12_again 55 = .ok (.aload_n 0, 1) := by decide +kernel
theorem dX12_again_56 : decode cX12_again 56 = .ok (.getfield 17, 3) := by decide +kernel
theorem dX12_again_59 : decode cX12_again 59 = .ok (.iload_n 3, 1) := by decide +kernel
theorem dX12_again_60 : decode cX12_again 60 = .ok (.aload_n 0, 1) := by decide +kernel
theorem dX12_again_61 : decode cX12_again 61 = .ok (.getfield 62, 3) := by decide +kernel
theorem dX12_again_64 : decode cX12_again 64 = .ok (.iload_n 2, 1) := by decide +kernel
theorem dX12_again_65 : decode cX12_again 65 = .ok (.iconst 5, 1) := by decide +kernel
theorem dX12_again_66 : decode cX12_again 66 = .ok (.iadd, 1) := by decide +kernel
theorem dX12_again_67 : decode cX12_again 67 = .ok (.iload_n 3, 1) := by decide +kernel
theorem dX12_again_68 : decode cX12_again 68 = .ok (.iadd, 1) := by decide +kernel
theorem dX12_again_69 : decode cX12_again 69 = .ok (.iaload, 1) := by decide +kernel
theorem dX12_again_70 : decode cX12_again 70 = .ok (.iastore, 1) := by decide +kernel
theorem dX12_again_71 : decode cX12_again 71 = .ok (.aload_n 0, 1) := by decide +kernel
theorem dX12_again_72 : decode cX12_again 72 = .ok (.getfield 20, 3) := by decide +kernel
theorem dX12_again_75 : decode cX12_again 75 = .ok (.iload_n 3, 1) := by decide +kernel
theorem dX12_again_76 : decode cX12_again 76 = .ok (.aload_n 0, 1) := by decide +kernel
theorem dX12_again_77 : decode cX12_again 77 = .ok (.getfield 62, 3) := by decide +kernel
theorem dX12_again_80 : decode cX12_again 80 = .ok (.iload_n 2, 1) := by decide +kernel
theorem dX12_again_81 : decode cX12_again 81 = .ok (.bipush 10, 2) := by decide +kernel
theorem dX12_again_83 : decode cX12_again 83 = .ok (.iadd, 1) := by decide +kernel
theorem dX12_again_84 : decode cX12_again 84 = .ok (.iload_n 3, 1) := by decide +kernel
theorem dX12_again_85 : decode cX12_again 85 = .ok (.iadd, 1) := by decide +kernel
theorem dX12_again_86 : decode cX12_again 86 = .ok (.iaload, 1) := by decide +kernel
theorem dX12_again_87 : decode cX12_again 87 = .ok (.iastore, 1) := by decide +kernel
theorem dX12_again_88 : decode cX12_again 88 = .ok (.aload_n 0, 1) := by decide +kernel
theorem dX12_again_89 : decode cX12_again 89 = .ok (.getfield 26, 3) := by decide +kernel
theorem dX12_again_92 : decode cX12_again 92 = .ok (.iload_n 3, 1) := by decide +kernel
theorem dX12_again_93 : decode cX12_again 93 = .ok (.aload_n 0, 1) := by decide +kernel
theorem dX12_again_94 : decode cX12_again 94 = .ok (.getfield 62, 3) := by decide +kernel
theorem dX12_again_97 : decode cX12_again 97 = .ok (.iload_n 2, 1) := by decide +kernel
theorem dX12_again_98 : decode cX12_again 98 = .ok (.bipush 15, 2) := by decide +kernel
theorem dX12_again_100 : decode cX12_again 100 = .ok (.iadd, 1) := by decide +kernel
theorem dX12_again_101 : decode cX12_again 101 = .ok (.iload_n 3, 1) := by decide +kernel
theorem dX12_again_102 : decode cX12_again 102 = .ok (.iadd, 1) := by decide +kernel
theorem dX12_again_103 : decode cX12_again 103 = .ok (.iaload, 1) := by decide +kernel
theorem dX12_again_104 : decode cX12_again 104 = .ok (.iastore, 1) := by decide +kernel
theorem dX12_again_105 : decode cX12_again 105 = .ok (.aload_n 0, 1) := by decide +kernel
theorem dX12_again_106 : decode cX12_again 106 = .ok (.getfield 44, 3) := by decide +kernel
theorem dX12_again_109 : decode cX12_again 109 = .ok (.iload_n 3, 1) := by decide +kernel
theorem dX12_again_110 : decode cX12_again 110 = .ok (.aload_n 0, 1) := by decide +kernel
theorem dX12_again_111 : decode cX12_again 111 = .ok (.getfield 62, 3) := by decide +kernel
theorem dX12_again_114 : decode cX12_again 114 = .ok (.iload_n 2, 1) := by decide +kernel
theorem dX12_again_115 : decode cX12_again 115 = .ok (.bipush 20, 2) := by decide +kernel
theorem dX12_again_117 : decode cX12_again 117 = .ok (.iadd, 1) := by decide +kernel
theorem dX12_again_118 : decode cX12_again 118 = .ok (.iload_n 3, 1) := by decide +kernel
theorem dX12_again_119 : decode cX12_again 119 = .ok (.iadd, 1) := by decide +kernel
theorem dX12_again_120 : decode cX12_again 120 = .ok (.iaload, 1) := by decide +kernel
theorem dX12_again_121 : decode cX12_again 121 = .ok (.iastore, 1) := by decide +kernel
theorem dX12_again_122 : decode cX12_again 122 = .ok (.aload_n 0, 1) := by decide +kernel
theorem dX12_again_123 : decode cX12_again 123 = .ok (.getfield 47, 3) := by decide +kernel
theorem dX12_again_126 : decode cX12_again 126 = .ok (.iload_n 3, 1) := by decide +kernel
theorem dX12_again_127 : decode cX12_again 127 = .ok (.aload_n 0, 1) := by decide +kernel
theorem dX12_again_128 : decode cX12_again 128 = .ok (.getfield 62, 3) := by decide +kernel
theorem dX12_again_131 : decode cX12_again 131 = .ok (.iload_n 2, 1) := by decide +kernel
theorem dX12_again_132 : decode cX12_again 132 = .ok (.bipush 25, 2) := by decide +kernel
theorem dX12_again_134 : decode cX12_again 134 = .ok (.iadd, 1) := by decide +kernel
theorem dX12_again_135 : decode cX12_again 135 = .ok (.iload_n 3, 1) := by decide +kernel
theorem dX12_again_136 : decode cX12_again 136 = .ok (.iadd, 1) := by decide +kernel
theorem dX12_again_137 : decode cX12_again 137 = .ok (.iaload, 1) := by decide +kernel
theorem dX12_again_138 : decode cX12_again 138 = .ok (.iastore, 1) := by decide +kernel
theorem dX12_again_139 : decode cX12_again 139 = .ok (.iinc 3 1, 3) := by decide +kernel
theorem dX12_again_142 : decode cX12_again 142 = .ok (.goto (-106), 3) := by decide +kernel
theorem dX12_again_145 : decode cX12_again 145 = .ok (.aload_n 0, 1) := by decide +kernel
theorem dX12_again_146 : decode cX12_again 146 = .ok (.aload_n 0, 1) := by decide +kernel
theorem dX12_again_147 : decode cX12_again 147 = .ok (.getfield 62, 3) := by decide +kernel
theorem dX12_again_150 : decode cX12_again 150 = .ok (.iload_n 2, 1) := by decide +kernel
theorem dX12_again_151 : decode cX12_again 151 = .ok (.bipush 30, 2) := by decide +kernel
theorem dX12_again_153 : decode cX12_again 153 = .ok (.iadd, 1) := by decide +kernel
theorem dX12_again_154 : decode cX12_again 154 = .ok (.iaload, 1) := by decide +kernel
theorem dX12_again_155 : decode cX12_again 155 = .ok (.putfield 156, 3) := by decide +kernel
theorem dX12_again_158 : decode cX12_again 158 = .ok (.aload_n 0, 1) := by decide +kernel
theorem dX12_again_159 : decode cX12_again 159 = .ok (.iconst 0, 1) := by decide +kernel
theorem dX12_again_160 : decode cX12_again 160 = .ok (.putfield 159, 3) := by decide +kernel
theorem dX12_again_163 : decode cX12_again 163 = .ok (.aload_n 0, 1) := by decide +kernel
theorem dX12_again_164 : decode cX12_again 164 = .ok (.invokevirtual 162, 3) := by decide +kernel
theorem dX12_again_167 : decode cX12_again 167 = .ok (.ireturn, 1) := by decide +kernel
