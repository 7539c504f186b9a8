/-! decode rows, printed (claim/NAMES.whole) -/
theorem dX8_init_0 : decode cX8_init 0 = .ok (.aload_n 0, 1) := by decide +kernel
theorem dX8_init_1 : decode cX8_init 1 = .ok (.invokespecial 3, 3) := by decide +kernel
theorem dX8_init_4 : decode cX8_init 4 = .ok (.aload_n 0, 1) := by decide +kernel
theorem dX8_init_5 : decode cX8_init 5 = .ok (.iconst 5, 1) := by decide +kernel
theorem dX8_init_6 : decode cX8_init 6 = .ok (.newarray .int, 2) := by decide +kernel
theorem dX8_init_8 : decode cX8_init 8 = .ok (.putfield 9, 3) := by decide +kernel
theorem dX8_init_11 : decode cX8_init 11 = .ok (.aload_n 0, 1) := by decide +kernel
theorem dX8_init_12 : decode cX8_init 12 = .ok (.iconst 5, 1) := by decide +kernel
theorem dX8_init_13 : decode cX8_init 13 = .ok (.newarray .int, 2) := by decide +kernel
theorem dX8_init_15 : decode cX8_init 15 = .ok (.putfield 15, 3) := by decide +kernel
theorem dX8_init_18 : decode cX8_init 18 = .ok (.aload_n 0, 1) := by decide +kernel
theorem dX8_init_19 : decode cX8_init 19 = .ok (.iconst 5, 1) := by decide +kernel
theorem dX8_init_20 : decode cX8_init 20 = .ok (.newarray .int, 2) := by decide +kernel
theorem dX8_init_22 : decode cX8_init 22 = .ok (.putfield 18, 3) := by decide +kernel
theorem dX8_init_25 : decode cX8_init 25 = .ok (.aload_n 0, 1) := by decide +kernel
theorem dX8_init_26 : decode cX8_init 26 = .ok (.iconst 5, 1) := by decide +kernel
theorem dX8_init_27 : decode cX8_init 27 = .ok (.newarray .int, 2) := by decide +kernel
theorem dX8_init_29 : decode cX8_init 29 = .ok (.putfield 21, 3) := by decide +kernel
theorem dX8_init_32 : decode cX8_init 32 = .ok (.aload_n 0, 1) := by decide +kernel
theorem dX8_init_33 : decode cX8_init 33 = .ok (.iconst 5, 1) := by decide +kernel
theorem dX8_init_34 : decode cX8_init 34 = .ok (.newarray .int, 2) := by decide +kernel
theorem dX8_init_36 : decode cX8_init 36 = .ok (.putfield 24, 3) := by decide +kernel
theorem dX8_init_39 : decode cX8_init 39 = .ok (.return_, 1) := by decide +kernel
theorem dX8_copyFrom_0 : decode cX8_copyFrom 0 = .ok (.aload_n 0, 1) := by decide +kernel
theorem dX8_copyFrom_1 : decode cX8_copyFrom 1 = .ok (.aload_n 1, 1) := by decide +kernel
theorem dX8_copyFrom_2 : decode cX8_copyFrom 2 = .ok (.getfield 27, 3) := by decide +kernel
theorem dX8_copyFrom_5 : decode cX8_copyFrom 5 = .ok (.putfield 33, 3) := by decide +kernel
theorem dX8_copyFrom_8 : decode cX8_copyFrom 8 = .ok (.iconst 0, 1) := by decide +kernel
theorem dX8_copyFrom_9 : decode cX8_copyFrom 9 = .ok (.istore_n 2, 1) := by decide +kernel
theorem dX8_copyFrom_10 : decode cX8_copyFrom 10 = .ok (.iload_n 2, 1) := by decide +kernel
theorem dX8_copyFrom_11 : decode cX8_copyFrom 11 = .ok (.aload_n 0, 1) := by decide +kernel
theorem dX8_copyFrom_12 : decode cX8_copyFrom 12 = .ok (.getfield 33, 3) := by decide +kernel
theorem dX8_copyFrom_15 : decode cX8_copyFrom 15 = .ok (.if_icmp .ge 79, 3) := by decide +kernel
theorem dX8_copyFrom_18 : decode cX8_copyFrom 18 = .ok (.aload_n 0, 1) := by decide +kernel
theorem dX8_copyFrom_19 : decode cX8_copyFrom 19 = .ok (.getfield 9, 3) := by decide +kernel
theorem dX8_copyFrom_22 : decode cX8_copyFrom 22 = .ok (.iload_n 2, 1) := by decide +kernel
theorem dX8_copyFrom_23 : decode cX8_copyFrom 23 = .ok (.aload_n 1, 1) := by decide +kernel
theorem dX8_copyFrom_24 : decode cX8_copyFrom 24 = .ok (.getfield 36, 3) := by decide +kernel
theorem dX8_copyFrom_27 : decode cX8_copyFrom 27 = .ok (.iload_n 2, 1) := by decide +kernel
theorem dX8_copyFrom_28 : decode cX8_copyFrom 28 = .ok (.aaload, 1) := by decide +kernel
theorem dX8_copyFrom_29 : decode cX8_copyFrom 29 = .ok (.iconst 1, 1) := by decide +kernel
theorem dX8_copyFrom_30 : decode cX8_copyFrom 30 = .ok (.iaload, 1) := by decide +kernel
theorem dX8_copyFrom_31 : decode cX8_copyFrom 31 = .ok (.iastore, 1) := by decide +kernel
theorem dX8_copyFrom_32 : decode cX8_copyFrom 32 = .ok (.aload_n 0, 1) := by decide +kernel
theorem dX8_copyFrom_33 : decode cX8_copyFrom 33 = .ok (.getfield 15, 3) := by decide +kernel
theorem dX8_copyFrom_36 : decode cX8_copyFrom 36 = .ok (.iload_n 2, 1) := by decide +kernel
theorem dX8_copyFrom_37 : decode cX8_copyFrom 37 = .ok (.aload_n 1, 1) := by decide +kernel
theorem dX8_copyFrom_38 : decode cX8_copyFrom 38 = .ok (.getfield 36, 3) := by decide +kernel
theorem dX8_copyFrom_41 : decode cX8_copyFrom 41 = .ok (.iload_n 2, 1) := by decide +kernel
theorem dX8_copyFrom_42 : decode cX8_copyFrom 42 = .ok (.aaload, 1) := by decide +kernel
theorem dX8_copyFrom_43 : decode cX8_copyFrom 43 = .ok (.iconst 2, 1) := by decide +kernel
theorem dX8_copyFrom_44 : decode cX8_copyFrom 44 = .ok (.iaload, 1) := by decide +kernel
theorem dX8_copyFrom_45 : decode cX8_copyFrom 45 = .ok (.iastore, 1) := by decide +kernel
theorem dX8_copyFrom_46 : decode cX8_copyFrom 46 = .ok (.aload_n 0, 1) := by decide +kernel
theorem dX8_copyFrom_47 : decode cX8_copyFrom 47 = .ok (.getfield 18, 3) := by decide +kernel
theorem dX8_copyFrom_50 : decode cX8_copyFrom 50 = .ok (.iload_n 2, 1) := by decide +kernel
theorem dX8_copyFrom_51 : decode cX8_copyFrom 51 = .ok (.aload_n 1, 1) := by decide +kernel
theorem dX8_copyFrom_52 : decode cX8_copyFrom 52 = .ok (.getfield 36, 3) := by decide +kernel
theorem dX8_copyFrom_55 : decode cX8_copyFrom 55 = .ok (.iload_n 2, 1) := by decide +kernel
theorem dX8_copyFrom_56 : decode cX8_copyFrom 56 = .ok (.aaload, 1) := by decide +kernel
theorem dX8_copyFrom_57 : decode cX8_copyFrom 57 = .ok (.iconst 3, 1) := by decide +kernel
theorem dX8_copyFrom_58 : decode cX8_copyFrom 58 = .ok (.iaload, 1) := by decide +kernel
theorem dX8_copyFrom_59 : decode cX8_copyFrom 59 = .ok (.iastore, 1) := by decide +kernel
theorem dX8_copyFrom_60 : decode cX8_copyFrom 60 = .ok (.aload_n 0, 1) := by decide +kernel
theorem dX8_copyFrom_61 : decode cX8_copyFrom 61 = .ok (.getfield 21, 3) := by decide +kernel
theorem dX8_copyFrom_64 : decode cX8_copyFrom 64 = .ok (.iload_n 2, 1) := by decide +kernel
theorem dX8_copyFrom_65 : decode cX8_copyFrom 65 = .ok (.aload_n 1, 1) := by decide +kernel
theorem dX8_copyFrom_66 : decode cX8_copyFrom 66 = .ok (.getfield 36, 3) := by decide +kernel
theorem dX8_copyFrom_69 : decode cX8_copyFrom 69 = .ok (.iload_n 2, 1) := by decide +kernel
theorem dX8_copyFrom_70 : decode cX8_copyFrom 70 = .ok (.aaload, 1) := by decide +kernel
theorem dX8_copyFrom_71 : decode cX8_copyFrom 71 = .ok (.iconst 4, 1) := by decide +kernel
theorem dX8_copyFrom_72 : decode cX8_copyFrom 72 = .ok (.iaload, 1) := by decide +kernel
theorem dX8_copyFrom_73 : decode cX8_copyFrom 73 = .ok (.iastore, 1) := by decide +kernel
theorem dX8_copyFrom_74 : decode cX8_copyFrom 74 = .ok (.aload_n 0, 1) := by decide +kernel
theorem dX8_copyFrom_75 : decode cX8_copyFrom 75 = .ok (.getfield 24, 3) := by decide +kernel
theorem dX8_copyFrom_78 : decode cX8_copyFrom 78 = .ok (.iload_n 2, 1) := by decide +kernel
theorem dX8_copyFrom_79 : decode cX8_copyFrom 79 = .ok (.aload_n 1, 1) := by decide +kernel
theorem dX8_copyFrom_80 : decode cX8_copyFrom 80 = .ok (.getfield 36, 3) := by decide +kernel
theorem dX8_copyFrom_83 : decode cX8_copyFrom 83 = .ok (.iload_n 2, 1) := by decide +kernel
theorem dX8_copyFrom_84 : decode cX8_copyFrom 84 = .ok (.aaload, 1) := by decide +kernel
theorem dX8_copyFrom_85 : decode cX8_copyFrom 85 = .ok (.iconst 5, 1) := by decide +kernel
theorem dX8_copyFrom_86 : decode cX8_copyFrom 86 = .ok (.iaload, 1) := by decide +kernel
theorem dX8_copyFrom_87 : decode cX8_copyFrom 87 = .ok (.iastore, 1) := by decide +kernel
theorem dX8_copyFrom_88 : decode cX8_copyFrom 88 = .ok (.iinc 2 1, 3) := by decide +kernel
theorem dX8_copyFrom_91 : decode cX8_copyFrom 91 = .ok (.goto (-81), 3) := by decide +kernel
theorem dX8_copyFrom_94 : decode cX8_copyFrom 94 = .ok (.return_, 1) := by decide +kernel
theorem dX8_isThere_0 : decode cX8_isThere 0 = .ok (.iload_n 1, 1) := by decide +kernel
theorem dX8_isThere_1 : decode cX8_isThere 1 = .ok (.ifCond .lt 15, 3) := by decide +kernel
theorem dX8_isThere_4 : decode cX8_isThere 4 = .ok (.iload_n 1, 1) := by decide +kernel
theorem dX8_isThere_5 : decode cX8_isThere 5 = .ok (.aload_n 0, 1) := by decide +kernel
theorem dX8_isThere_6 : decode cX8_isThere 6 = .ok (.getfield 33, 3) := by decide +kernel
theorem dX8_isThere_9 : decode cX8_isThere 9 = .ok (.if_icmp .ge 7, 3) := by decide +kernel
theorem dX8_isThere_12 : decode cX8_isThere 12 = .ok (.iconst 1, 1) := by decide +kernel
theorem dX8_isThere_13 : decode cX8_isThere 13 = .ok (.goto 4, 3) := by decide +kernel
theorem dX8_isThere_16 : decode cX8_isThere 16 = .ok (.iconst 0, 1) := by decide +kernel
theorem dX8_isThere_17 : decode cX8_isThere 17 = .ok (.ireturn, 1) := by decide +kernel
theorem dX8_isSet_0 : decode cX8_isSet 0 = .ok (.iload_n 1, 1) := by decide +kernel
theorem dX8_isSet_1 : decode cX8_isSet 1 = .ok (.ifCond .lt 17, 3) := by decide +kernel
theorem dX8_isSet_4 : decode cX8_isSet 4 = .ok (.iload_n 1, 1) := by decide +kernel
theorem dX8_isSet_5 : decode cX8_isSet 5 = .ok (.iconst 1, 1) := by decide +kernel
theorem dX8_isSet_6 : decode cX8_isSet 6 = .ok (.aload_n 0, 1) := by decide +kernel
theorem dX8_isSet_7 : decode cX8_isSet 7 = .ok (.getfield 33, 3) := by decide +kernel
theorem dX8_isSet_10 : decode cX8_isSet 10 = .ok (.ishl, 1) := by decide +kernel
theorem dX8_isSet_11 : decode cX8_isSet 11 = .ok (.if_icmp .ge 7, 3) := by decide +kernel
theorem dX8_isSet_14 : decode cX8_isSet 14 = .ok (.iconst 1, 1) := by decide +kernel
theorem dX8_isSet_15 : decode cX8_isSet 15 = .ok (.goto 4, 3) := by decide +kernel
theorem dX8_isSet_18 : decode cX8_isSet 18 = .ok (.iconst 0, 1) := by decide +kernel
theorem dX8_isSet_19 : decode cX8_isSet 19 = .ok (.ireturn, 1) := by decide +kernel
theorem dX8_isSalt_0 : decode cX8_isSalt 0 = .ok (.aload_n 0, 1) := by decide +kernel
theorem dX8_isSalt_1 : decode cX8_isSalt 1 = .ok (.getfield 9, 3) := by decide +kernel
theorem dX8_isSalt_4 : decode cX8_isSalt 4 = .ok (.iload_n 1, 1) := by decide +kernel
theorem dX8_isSalt_5 : decode cX8_isSalt 5 = .ok (.iaload, 1) := by decide +kernel
theorem dX8_isSalt_6 : decode cX8_isSalt 6 = .ok (.iconst 1, 1) := by decide +kernel
theorem dX8_isSalt_7 : decode cX8_isSalt 7 = .ok (.if_icmp .ne 7, 3) := by decide +kernel
theorem dX8_isSalt_10 : decode cX8_isSalt 10 = .ok (.iconst 1, 1) := by decide +kernel
theorem dX8_isSalt_11 : decode cX8_isSalt 11 = .ok (.goto 4, 3) := by decide +kernel
theorem dX8_isSalt_14 : decode cX8_isSalt 14 = .ok (.iconst 0, 1) := by decide +kernel
theorem dX8_isSalt_15 : decode cX8_isSalt 15 = .ok (.ireturn, 1) := by decide +kernel
theorem dX8_isRaw_0 : decode cX8_isRaw 0 = .ok (.aload_n 0, 1) := by decide +kernel
theorem dX8_isRaw_1 : decode cX8_isRaw 1 = .ok (.getfield 9, 3) := by decide +kernel
theorem dX8_isRaw_4 : decode cX8_isRaw 4 = .ok (.iload_n 1, 1) := by decide +kernel
theorem dX8_isRaw_5 : decode cX8_isRaw 5 = .ok (.iaload, 1) := by decide +kernel
theorem dX8_isRaw_6 : decode cX8_isRaw 6 = .ok (.iconst 2, 1) := by decide +kernel
theorem dX8_isRaw_7 : decode cX8_isRaw 7 = .ok (.if_icmp .ne 7, 3) := by decide +kernel
theorem dX8_isRaw_10 : decode cX8_isRaw 10 = .ok (.iconst 1, 1) := by decide +kernel
theorem dX8_isRaw_11 : decode cX8_isRaw 11 = .ok (.goto 4, 3) := by decide +kernel
theorem dX8_isRaw_14 : decode cX8_isRaw 14 = .ok (.iconst 0, 1) := by decide +kernel
theorem dX8_isRaw_15 : decode cX8_isRaw 15 = .ok (.ireturn, 1) := by decide +kernel
theorem dX8_mostJump_0 : decode cX8_mostJump 0 = .ok (.aload_n 0, 1) := by decide +kernel
theorem dX8_mostJump_1 : decode cX8_mostJump 1 = .ok (.getfield 24, 3) := by decide +kernel
theorem dX8_mostJump_4 : decode cX8_mostJump 4 = .ok (.iload_n 1, 1) := by decide +kernel
theorem dX8_mostJump_5 : decode cX8_mostJump 5 = .ok (.iaload, 1) := by decide +kernel
theorem dX8_mostJump_6 : decode cX8_mostJump 6 = .ok (.aload_n 0, 1) := by decide +kernel
theorem dX8_mostJump_7 : decode cX8_mostJump 7 = .ok (.getfield 9, 3) := by decide +kernel
theorem dX8_mostJump_10 : decode cX8_mostJump 10 = .ok (.iload_n 1, 1) := by decide +kernel
theorem dX8_mostJump_11 : decode cX8_mostJump 11 = .ok (.iaload, 1) := by decide +kernel
theorem dX8_mostJump_12 : decode cX8_mostJump 12 = .ok (.iconst 3, 1) := by decide +kernel
theorem dX8_mostJump_13 : decode cX8_mostJump 13 = .ok (.if_icmp .ne 8, 3) := by decide +kernel
theorem dX8_mostJump_16 : decode cX8_mostJump 16 = .ok (.bipush 20, 2) := by decide +kernel
theorem dX8_mostJump_18 : decode cX8_mostJump 18 = .ok (.goto 5, 3) := by decide +kernel
theorem dX8_mostJump_21 : decode cX8_mostJump 21 = .ok (.bipush 10, 2) := by decide +kernel
theorem dX8_mostJump_23 : decode cX8_mostJump 23 = .ok (.imul, 1) := by decide +kernel
theorem dX8_mostJump_24 : decode cX8_mostJump 24 = .ok (.ireturn, 1) := by decide +kernel
theorem dX8_wants_0 : decode cX8_wants 0 = .ok (.iload_n 2, 1) := by decide +kernel
theorem dX8_wants_1 : decode cX8_wants 1 = .ok (.bipush 10, 2) := by decide +kernel
theorem dX8_wants_3 : decode cX8_wants 3 = .ok (.aload_n 0, 1) := by decide +kernel
theorem dX8_wants_4 : decode cX8_wants 4 = .ok (.getfield 15, 3) := by decide +kernel
theorem dX8_wants_7 : decode cX8_wants 7 = .ok (.iload_n 1, 1) := by decide +kernel
theorem dX8_wants_8 : decode cX8_wants 8 = .ok (.iaload, 1) := by decide +kernel
theorem dX8_wants_9 : decode cX8_wants 9 = .ok (.imul, 1) := by decide +kernel
theorem dX8_wants_10 : decode cX8_wants 10 = .ok (.if_icmp .lt 20, 3) := by decide +kernel
theorem dX8_wants_13 : decode cX8_wants 13 = .ok (.iload_n 2, 1) := by decide +kernel
theorem dX8_wants_14 : decode cX8_wants 14 = .ok (.bipush 10, 2) := by decide +kernel
theorem dX8_wants_16 : decode cX8_wants 16 = .ok (.aload_n 0, 1) := by decide +kernel
theorem dX8_wants_17 : decode cX8_wants 17 = .ok (.getfield 18, 3) := by decide +kernel
theorem dX8_wants_20 : decode cX8_wants 20 = .ok (.iload_n 1, 1) := by decide +kernel
theorem dX8_wants_21 : decode cX8_wants 21 = .ok (.iaload, 1) := by decide +kernel
theorem dX8_wants_22 : decode cX8_wants 22 = .ok (.imul, 1) := by decide +kernel
theorem dX8_wants_23 : decode cX8_wants 23 = .ok (.if_icmp .gt 7, 3) := by decide +kernel
theorem dX8_wants_26 : decode cX8_wants 26 = .ok (.iconst 1, 1) := by decide +kernel
theorem dX8_wants_27 : decode cX8_wants 27 = .ok (.goto 4, 3) := by decide +kernel
theorem dX8_wants_30 : decode cX8_wants 30 = .ok (.iconst 0, 1) := by decide +kernel
theorem dX8_wants_31 : decode cX8_wants 31 = .ok (.ireturn, 1) := by decide +kernel
theorem dX9_init_0 : decode cX9_init 0 = .ok (.aload_n 0, 1) := by decide +kernel
theorem dX9_init_1 : decode cX9_init 1 = .ok (.invokespecial 1, 3) := by decide +kernel
theorem dX9_init_4 : decode cX9_init 4 = .ok (.aload_n 0, 1) := by decide +kernel
theorem dX9_init_5 : decode cX9_init 5 = .ok (.new 7, 3) := by decide +kernel
theorem dX9_init_8 : decode cX9_init 8 = .ok (.dup, 1) := by decide +kernel
theorem dX9_init_9 : decode cX9_init 9 = .ok (.invokespecial 9, 3) := by decide +kernel
theorem dX9_init_12 : decode cX9_init 12 = .ok (.putfield 10, 3) := by decide +kernel
theorem dX9_init_15 : decode cX9_init 15 = .ok (.aload_n 0, 1) := by decide +kernel
theorem dX9_init_16 : decode cX9_init 16 = .ok (.new 16, 3) := by decide +kernel
theorem dX9_init_19 : decode cX9_init 19 = .ok (.dup, 1) := by decide +kernel
theorem dX9_init_20 : decode cX9_init 20 = .ok (.aload_n 1, 1) := by decide +kernel
theorem dX9_init_21 : decode cX9_init 21 = .ok (.invokespecial 18, 3) := by decide +kernel
theorem dX9_init_24 : decode cX9_init 24 = .ok (.putfield 21, 3) := by decide +kernel
theorem dX9_init_27 : decode cX9_init 27 = .ok (.return_, 1) := by decide +kernel
theorem dX9_build_0 : decode cX9_build 0 = .ok (.aload_n 0, 1) := by decide +kernel
theorem dX9_build_1 : decode cX9_build 1 = .ok (.getfield 10, 3) := by decide +kernel
theorem dX9_build_4 : decode cX9_build 4 = .ok (.aload_n 1, 1) := by decide +kernel
theorem dX9_build_5 : decode cX9_build 5 = .ok (.invokevirtual 25, 3) := by decide +kernel
theorem dX9_build_8 : decode cX9_build 8 = .ok (.aload_n 0, 1) := by decide +kernel
theorem dX9_build_9 : decode cX9_build 9 = .ok (.getfield 21, 3) := by decide +kernel
theorem dX9_build_12 : decode cX9_build 12 = .ok (.aload_n 1, 1) := by decide +kernel
theorem dX9_build_13 : decode cX9_build 13 = .ok (.invokevirtual 29, 3) := by decide +kernel
theorem dX9_build_16 : decode cX9_build 16 = .ok (.return_, 1) := by decide +kernel
theorem dX9_copyFrom_0 : decode cX9_copyFrom 0 = .ok (.aload_n 0, 1) := by decide +kernel
theorem dX9_copyFrom_1 : decode cX9_copyFrom 1 = .ok (.getfield 10, 3) := by decide +kernel
theorem dX9_copyFrom_4 : decode cX9_copyFrom 4 = .ok (.aload_n 1, 1) := by decide +kernel
theorem dX9_copyFrom_5 : decode cX9_copyFrom 5 = .ok (.getfield 10, 3) := by decide +kernel
theorem dX9_copyFrom_8 : decode cX9_copyFrom 8 = .ok (.invokevirtual 30, 3) := by decide +kernel
theorem dX9_copyFrom_11 : decode cX9_copyFrom 11 = .ok (.aload_n 0, 1) := by decide +kernel
theorem dX9_copyFrom_12 : decode cX9_copyFrom 12 = .ok (.getfield 21, 3) := by decide +kernel
theorem dX9_copyFrom_15 : decode cX9_copyFrom 15 = .ok (.aload_n 1, 1) := by decide +kernel
theorem dX9_copyFrom_16 : decode cX9_copyFrom 16 = .ok (.getfield 21, 3) := by decide +kernel
theorem dX9_copyFrom_19 : decode cX9_copyFrom 19 = .ok (.invokevirtual 34, 3) := by decide +kernel
theorem dX9_copyFrom_22 : decode cX9_copyFrom 22 = .ok (.return_, 1) := by decide +kernel
theorem dX9_goBackTo_0 : decode cX9_goBackTo 0 = .ok (.aload_n 0, 1) := by decide +kernel
theorem dX9_goBackTo_1 : decode cX9_goBackTo 1 = .ok (.getfield 10, 3) := by decide +kernel
theorem dX9_goBackTo_4 : decode cX9_goBackTo 4 = .ok (.aload_n 1, 1) := by decide +kernel
theorem dX9_goBackTo_5 : decode cX9_goBackTo 5 = .ok (.getfield 10, 3) := by decide +kernel
theorem dX9_goBackTo_8 : decode cX9_goBackTo 8 = .ok (.invokevirtual 37, 3) := by decide +kernel
theorem dX9_goBackTo_11 : decode cX9_goBackTo 11 = .ok (.aload_n 0, 1) := by decide +kernel
theorem dX9_goBackTo_12 : decode cX9_goBackTo 12 = .ok (.getfield 21, 3) := by decide +kernel
theorem dX9_goBackTo_15 : decode cX9_goBackTo 15 = .ok (.aload_n 1, 1) := by decide +kernel
theorem dX9_goBackTo_16 : decode cX9_goBackTo 16 = .ok (.getfield 21, 3) := by decide +kernel
theorem dX9_goBackTo_19 : decode cX9_goBackTo 19 = .ok (.invokevirtual 40, 3) := by decide +kernel
theorem dX9_goBackTo_22 : decode cX9_goBackTo 22 = .ok (.return_, 1) := by decide +kernel
theorem dX9_fire_0 : decode cX9_fire 0 = .ok (.aload_n 0, 1) := by decide +kernel
theorem dX9_fire_1 : decode cX9_fire 1 = .ok (.getfield 10, 3) := by decide +kernel
theorem dX9_fire_4 : decode cX9_fire 4 = .ok (.iload_n 1, 1) := by decide +kernel
theorem dX9_fire_5 : decode cX9_fire 5 = .ok (.invokevirtual 43, 3) := by decide +kernel
theorem dX9_fire_8 : decode cX9_fire 8 = .ok (.aload_n 0, 1) := by decide +kernel
theorem dX9_fire_9 : decode cX9_fire 9 = .ok (.getfield 21, 3) := by decide +kernel
theorem dX9_fire_12 : decode cX9_fire 12 = .ok (.aload_n 0, 1) := by decide +kernel
theorem dX9_fire_13 : decode cX9_fire 13 = .ok (.getfield 10, 3) := by decide +kernel
theorem dX9_fire_16 : decode cX9_fire 16 = .ok (.invokevirtual 47, 3) := by decide +kernel
theorem dX9_fire_19 : decode cX9_fire 19 = .ok (.ireturn, 1) := by decide +kernel
theorem dX9_fireAll_0 : decode cX9_fireAll 0 = .ok (.iconst 0, 1) := by decide +kernel
theorem dX9_fireAll_1 : decode cX9_fireAll 1 = .ok (.istore_n 3, 1) := by decide +kernel
theorem dX9_fireAll_2 : decode cX9_fireAll 2 = .ok (.iload_n 3, 1) := by decide +kernel
theorem dX9_fireAll_3 : decode cX9_fireAll 3 = .ok (.iload_n 1, 1) := by decide +kernel
theorem dX9_fireAll_4 : decode cX9_fireAll 4 = .ok (.if_icmp .ge 15, 3) := by decide +kernel
theorem dX9_fireAll_7 : decode cX9_fireAll 7 = .ok (.aload_n 0, 1) := by decide +kernel
theorem dX9_fireAll_8 : decode cX9_fireAll 8 = .ok (.iload_n 2, 1) := by decide +kernel
theorem dX9_fireAll_9 : decode cX9_fireAll 9 = .ok (.invokevirtual 51, 3) := by decide +kernel
theorem dX9_fireAll_12 : decode cX9_fireAll 12 = .ok (.pop, 1) := by decide +kernel
theorem dX9_fireAll_13 : decode cX9_fireAll 13 = .ok (.iinc 3 1, 3) := by decide +kernel
theorem dX9_fireAll_16 : decode cX9_fireAll 16 = .ok (.goto (-14), 3) := by decide +kernel
theorem dX9_fireAll_19 : decode cX9_fireAll 19 = .ok (.return_, 1) := by decide +kernel
theorem dX10_init_0 : decode cX10_init 0 = .ok (.aload_n 0, 1) := by decide +kernel
theorem dX10_init_1 : decode cX10_init 1 = .ok (.invokespecial 3, 3) := by decide +kernel
theorem dX10_init_4 : decode cX10_init 4 = .ok (.aload_n 0, 1) := by decide +kernel
theorem dX10_init_5 : decode cX10_init 5 = .ok (.iconst 3, 1) := by decide +kernel
theorem dX10_init_6 : decode cX10_init 6 = .ok (.newarray .int, 2) := by decide +kernel
theorem dX10_init_8 : decode cX10_init 8 = .ok (.putfield 9, 3) := by decide +kernel
theorem dX10_init_11 : decode cX10_init 11 = .ok (.aload_n 0, 1) := by decide +kernel
theorem dX10_init_12 : decode cX10_init 12 = .ok (.iconst 3, 1) := by decide +kernel
theorem dX10_init_13 : decode cX10_init 13 = .ok (.anewarray 15, 3) := by decide +kernel
theorem dX10_init_16 : decode cX10_init 16 = .ok (.putfield 17, 3) := by decide +kernel
theorem dX10_init_19 : decode cX10_init 19 = .ok (.aload_n 0, 1) := by decide +kernel
theorem dX10_init_20 : decode cX10_init 20 = .ok (.iconst 3, 1) := by decide +kernel
theorem dX10_init_21 : decode cX10_init 21 = .ok (.newarray .int, 2) := by decide +kernel
theorem dX10_init_23 : decode cX10_init 23 = .ok (.putfield 21, 3) := by decide +kernel
theorem dX10_init_26 : decode cX10_init 26 = .ok (.aload_n 0, 1) := by decide +kernel
theorem dX10_init_27 : decode cX10_init 27 = .ok (.aload_n 1, 1) := by decide +kernel
theorem dX10_init_28 : decode cX10_init 28 = .ok (.putfield 24, 3) := by decide +kernel
theorem dX10_init_31 : decode cX10_init 31 = .ok (.iconst 0, 1) := by decide +kernel
theorem dX10_init_32 : decode cX10_init 32 = .ok (.istore_n 2, 1) := by decide +kernel
theorem dX10_init_33 : decode cX10_init 33 = .ok (.iload_n 2, 1) := by decide +kernel
theorem dX10_init_34 : decode cX10_init 34 = .ok (.iconst 3, 1) := by decide +kernel
theorem dX10_init_35 : decode cX10_init 35 = .ok (.if_icmp .ge 29, 3) := by decide +kernel
theorem dX10_init_38 : decode cX10_init 38 = .ok (.aload_n 0, 1) := by decide +kernel
theorem dX10_init_39 : decode cX10_init 39 = .ok (.getfield 17, 3) := by decide +kernel
theorem dX10_init_42 : decode cX10_init 42 = .ok (.iload_n 2, 1) := by decide +kernel
theorem dX10_init_43 : decode cX10_init 43 = .ok (.new 15, 3) := by decide +kernel
theorem dX10_init_46 : decode cX10_init 46 = .ok (.dup, 1) := by decide +kernel
theorem dX10_init_47 : decode cX10_init 47 = .ok (.aload_n 1, 1) := by decide +kernel
theorem dX10_init_48 : decode cX10_init 48 = .ok (.getfield 28, 3) := by decide +kernel
theorem dX10_init_51 : decode cX10_init 51 = .ok (.getfield 32, 3) := by decide +kernel
theorem dX10_init_54 : decode cX10_init 54 = .ok (.invokespecial 38, 3) := by decide +kernel
theorem dX10_init_57 : decode cX10_init 57 = .ok (.aastore, 1) := by decide +kernel
theorem dX10_init_58 : decode cX10_init 58 = .ok (.iinc 2 1, 3) := by decide +kernel
theorem dX10_init_61 : decode cX10_init 61 = .ok (.goto (-28), 3) := by decide +kernel
theorem dX10_init_64 : decode cX10_init 64 = .ok (.return_, 1) := by decide +kernel
theorem dX10_search_0 : decode cX10_search 0 = .ok (.bipush 28, 2) := by decide +kernel
theorem dX10_search_2 : decode cX10_search 2 = .ok (.istore_n 3, 1) := by decide +kernel
theorem dX10_search_3 : decode cX10_search 3 = .ok (.aload_n 0, 1) := by decide +kernel
theorem dX10_search_4 : decode cX10_search 4 = .ok (.iload_n 3, 1) := by decide +kernel
theorem dX10_search_5 : decode cX10_search 5 = .ok (.putfield 41, 3) := by decide +kernel
theorem dX10_search_8 : decode cX10_search 8 = .ok (.aload_n 0, 1) := by decide +kernel
theorem dX10_search_9 : decode cX10_search 9 = .ok (.getfield 24, 3) := by decide +kernel
theorem dX10_search_12 : decode cX10_search 12 = .ok (.getfield 28, 3) := by decide +kernel
theorem dX10_search_15 : decode cX10_search 15 = .ok (.iload_n 1, 1) := by decide +kernel
theorem dX10_search_16 : decode cX10_search 16 = .ok (.iload_n 2, 1) := by decide +kernel
theorem dX10_search_17 : decode cX10_search 17 = .ok (.invokevirtual 45, 3) := by decide +kernel
theorem dX10_search_20 : decode cX10_search 20 = .ok (.ifCond .eq 11, 3) := by decide +kernel
theorem dX10_search_23 : decode cX10_search 23 = .ok (.aload_n 0, 1) := by decide +kernel
theorem dX10_search_24 : decode cX10_search 24 = .ok (.iload_n 1, 1) := by decide +kernel
theorem dX10_search_25 : decode cX10_search 25 = .ok (.iload_n 2, 1) := by decide +kernel
theorem dX10_search_26 : decode cX10_search 26 = .ok (.iconst 0, 1) := by decide +kernel
theorem dX10_search_27 : decode cX10_search 27 = .ok (.iconst 0, 1) := by decide +kernel
theorem dX10_search_28 : decode cX10_search 28 = .ok (.invokevirtual 49, 3) := by decide +kernel
theorem dX10_search_31 : decode cX10_search 31 = .ok (.aload_n 0, 1) := by decide +kernel
theorem dX10_search_32 : decode cX10_search 32 = .ok (.getfield 41, 3) := by decide +kernel
theorem dX10_search_35 : decode cX10_search 35 = .ok (.iload_n 3, 1) := by decide +kernel
theorem dX10_search_36 : decode cX10_search 36 = .ok (.if_icmp .ne 8, 3) := by decide +kernel
theorem dX10_search_39 : decode cX10_search 39 = .ok (.bipush (-9), 2) := by decide +kernel
theorem dX10_search_41 : decode cX10_search 41 = .ok (.goto 7, 3) := by decide +kernel
theorem dX10_search_44 : decode cX10_search 44 = .ok (.aload_n 0, 1) := by decide +kernel
theorem dX10_search_45 : decode cX10_search 45 = .ok (.getfield 41, 3) := by decide +kernel
theorem dX10_search_48 : decode cX10_search 48 = .ok (.ireturn, 1) := by decide +kernel
theorem dX10_fireOn_0 : decode cX10_fireOn 0 = .ok (.iload_n 3, 1) := by decide +kernel
theorem dX10_fireOn_1 : decode cX10_fireOn 1 = .ok (.iload_n 2, 1) := by decide +kernel
theorem dX10_fireOn_2 : decode cX10_fireOn 2 = .ok (.if_icmp .ge 8, 3) := by decide +kernel
theorem dX10_fireOn_5 : decode cX10_fireOn 5 = .ok (.iload_n 3, 1) := by decide +kernel
theorem dX10_fireOn_6 : decode cX10_fireOn 6 = .ok (.iconst 3, 1) := by decide +kernel
theorem dX10_fireOn_7 : decode cX10_fireOn 7 = .ok (.if_icmp .lt 4, 3) := by decide +kernel
theorem dX10_fireOn_10 : decode cX10_fireOn 10 = .ok (.return_, 1) := by decide +kernel
theorem dX10_fireOn_11 : decode cX10_fireOn 11 = .ok (.iconst 0, 1) := by decide +kernel
theorem dX10_fireOn_12 : decode cX10_fireOn 12 = .ok (.istore 5, 2) := by decide +kernel
theorem dX10_fireOn_14 : decode cX10_fireOn 14 = .ok (.iload 5, 2) := by decide +kernel
theorem dX10_fireOn_16 : decode cX10_fireOn 16 = .ok (.bipush 9, 2) := by decide +kernel
theorem dX10_fireOn_18 : decode cX10_fireOn 18 = .ok (.if_icmp .gt 104, 3) := by decide +kernel
theorem dX10_fireOn_21 : decode cX10_fireOn 21 = .ok (.iload 4, 2) := by decide +kernel
theorem dX10_fireOn_23 : decode cX10_fireOn 23 = .ok (.iload 5, 2) := by decide +kernel
theorem dX10_fireOn_25 : decode cX10_fireOn 25 = .ok (.iadd, 1) := by decide +kernel
theorem dX10_fireOn_26 : decode cX10_fireOn 26 = .ok (.aload_n 0, 1) := by decide +kernel
theorem dX10_fireOn_27 : decode cX10_fireOn 27 = .ok (.getfield 41, 3) := by decide +kernel
theorem dX10_fireOn_30 : decode cX10_fireOn 30 = .ok (.if_icmp .ge 92, 3) := by decide +kernel
theorem dX10_fireOn_33 : decode cX10_fireOn 33 = .ok (.aload_n 0, 1) := by decide +kernel
theorem dX10_fireOn_34 : decode cX10_fireOn 34 = .ok (.getfield 17, 3) := by decide +kernel
theorem dX10_fireOn_37 : decode cX10_fireOn 37 = .ok (.iload_n 3, 1) := by decide +kernel
theorem dX10_fireOn_38 : decode cX10_fireOn 38 = .ok (.aaload, 1) := by decide +kernel
theorem dX10_fireOn_39 : decode cX10_fireOn 39 = .ok (.iload_n 3, 1) := by decide +kernel
theorem dX10_fireOn_40 : decode cX10_fireOn 40 = .ok (.ifCond .ne 10, 3) := by decide +kernel
theorem dX10_fireOn_43 : decode cX10_fireOn 43 = .ok (.aload_n 0, 1) := by decide +kernel
theorem dX10_fireOn_44 : decode cX10_fireOn 44 = .ok (.getfield 24, 3) := by decide +kernel
theorem dX10_fireOn_47 : decode cX10_fireOn 47 = .ok (.goto 11, 3) := by decide +kernel
theorem dX10_fireOn_50 : decode cX10_fireOn 50 = .ok (.aload_n 0, 1) := by decide +kernel
theorem dX10_fireOn_51 : decode cX10_fireOn 51 = .ok (.getfield 17, 3) := by decide +kernel
theorem dX10_fireOn_54 : decode cX10_fireOn 54 = .ok (.iload_n 3, 1) := by decide +kernel
theorem dX10_fireOn_55 : decode cX10_fireOn 55 = .ok (.iconst 1, 1) := by decide +kernel
theorem dX10_fireOn_56 : decode cX10_fireOn 56 = .ok (.isub, 1) := by decide +kernel
theorem dX10_fireOn_57 : decode cX10_fireOn 57 = .ok (.aaload, 1) := by decide +kernel
theorem dX10_fireOn_58 : decode cX10_fireOn 58 = .ok (.invokevirtual 53, 3) := by decide +kernel
theorem dX10_fireOn_61 : decode cX10_fireOn 61 = .ok (.aload_n 0, 1) := by decide +kernel
theorem dX10_fireOn_62 : decode cX10_fireOn 62 = .ok (.getfield 17, 3) := by decide +kernel
theorem dX10_fireOn_65 : decode cX10_fireOn 65 = .ok (.iload_n 3, 1) := by decide +kernel
theorem dX10_fireOn_66 : decode cX10_fireOn 66 = .ok (.aaload, 1) := by decide +kernel
theorem dX10_fireOn_67 : decode cX10_fireOn 67 = .ok (.iload 5, 2) := by decide +kernel
theorem dX10_fireOn_69 : decode cX10_fireOn 69 = .ok (.invokevirtual 57, 3) := by decide +kernel
theorem dX10_fireOn_72 : decode cX10_fireOn 72 = .ok (.pop, 1) := by decide +kernel
theorem dX10_fireOn_73 : decode cX10_fireOn 73 = .ok (.aload_n 0, 1) := by decide +kernel
theorem dX10_fireOn_74 : decode cX10_fireOn 74 = .ok (.getfield 21, 3) := by decide +kernel
theorem dX10_fireOn_77 : decode cX10_fireOn 77 = .ok (.iload_n 3, 1) := by decide +kernel
theorem dX10_fireOn_78 : decode cX10_fireOn 78 = .ok (.iload 5, 2) := by decide +kernel
theorem dX10_fireOn_80 : decode cX10_fireOn 80 = .ok (.iastore, 1) := by decide +kernel
theorem dX10_fireOn_81 : decode cX10_fireOn 81 = .ok (.aload_n 0, 1) := by decide +kernel
theorem dX10_fireOn_82 : decode cX10_fireOn 82 = .ok (.getfield 17, 3) := by decide +kernel
theorem dX10_fireOn_85 : decode cX10_fireOn 85 = .ok (.iload_n 3, 1) := by decide +kernel
theorem dX10_fireOn_86 : decode cX10_fireOn 86 = .ok (.aaload, 1) := by decide +kernel
theorem dX10_fireOn_87 : decode cX10_fireOn 87 = .ok (.getfield 28, 3) := by decide +kernel
theorem dX10_fireOn_90 : decode cX10_fireOn 90 = .ok (.iload_n 1, 1) := by decide +kernel
theorem dX10_fireOn_91 : decode cX10_fireOn 91 = .ok (.iload_n 2, 1) := by decide +kernel
theorem dX10_fireOn_92 : decode cX10_fireOn 92 = .ok (.iload_n 3, 1) := by decide +kernel
theorem dX10_fireOn_93 : decode cX10_fireOn 93 = .ok (.isub, 1) := by decide +kernel
theorem dX10_fireOn_94 : decode cX10_fireOn 94 = .ok (.iconst 1, 1) := by decide +kernel
theorem dX10_fireOn_95 : decode cX10_fireOn 95 = .ok (.isub, 1) := by decide +kernel
theorem dX10_fireOn_96 : decode cX10_fireOn 96 = .ok (.invokevirtual 45, 3) := by decide +kernel
theorem dX10_fireOn_99 : decode cX10_fireOn 99 = .ok (.ifCond .eq 17, 3) := by decide +kernel
theorem dX10_fireOn_102 : decode cX10_fireOn 102 = .ok (.aload_n 0, 1) := by decide +kernel
theorem dX10_fireOn_103 : decode cX10_fireOn 103 = .ok (.iload_n 1, 1) := by decide +kernel
theorem dX10_fireOn_104 : decode cX10_fireOn 104 = .ok (.iload_n 2, 1) := by decide +kernel
theorem dX10_fireOn_105 : decode cX10_fireOn 105 = .ok (.iload_n 3, 1) := by decide +kernel
theorem dX10_fireOn_106 : decode cX10_fireOn 106 = .ok (.iconst 1, 1) := by decide +kernel
theorem dX10_fireOn_107 : decode cX10_fireOn 107 = .ok (.iadd, 1) := by decide +kernel
theorem dX10_fireOn_108 : decode cX10_fireOn 108 = .ok (.iload 4, 2) := by decide +kernel
theorem dX10_fireOn_110 : decode cX10_fireOn 110 = .ok (.iload 5, 2) := by decide +kernel
theorem dX10_fireOn_112 : decode cX10_fireOn 112 = .ok (.iadd, 1) := by decide +kernel
theorem dX10_fireOn_113 : decode cX10_fireOn 113 = .ok (.invokevirtual 61, 3) := by decide +kernel
theorem dX10_fireOn_116 : decode cX10_fireOn 116 = .ok (.iinc 5 1, 3) := by decide +kernel
theorem dX10_fireOn_119 : decode cX10_fireOn 119 = .ok (.goto (-105), 3) := by decide +kernel
theorem dX10_fireOn_122 : decode cX10_fireOn 122 = .ok (.return_, 1) := by decide +kernel
theorem dX10_goOn_0 : decode cX10_goOn 0 = .ok (.iload_n 3, 1) := by decide +kernel
theorem dX10_goOn_1 : decode cX10_goOn 1 = .ok (.iload_n 2, 1) := by decide +kernel
theorem dX10_goOn_2 : decode cX10_goOn 2 = .ok (.if_icmp .ge 15, 3) := by decide +kernel
theorem dX10_goOn_5 : decode cX10_goOn 5 = .ok (.aload_n 0, 1) := by decide +kernel
theorem dX10_goOn_6 : decode cX10_goOn 6 = .ok (.iload_n 1, 1) := by decide +kernel
theorem dX10_goOn_7 : decode cX10_goOn 7 = .ok (.iload_n 2, 1) := by decide +kernel
theorem dX10_goOn_8 : decode cX10_goOn 8 = .ok (.iload_n 3, 1) := by decide +kernel
theorem dX10_goOn_9 : decode cX10_goOn 9 = .ok (.iload 4, 2) := by decide +kernel
theorem dX10_goOn_11 : decode cX10_goOn 11 = .ok (.invokevirtual 49, 3) := by decide +kernel
theorem dX10_goOn_14 : decode cX10_goOn 14 = .ok (.goto 23, 3) := by decide +kernel
theorem dX10_goOn_17 : decode cX10_goOn 17 = .ok (.aload_n 0, 1) := by decide +kernel
theorem dX10_goOn_18 : decode cX10_goOn 18 = .ok (.iload 4, 2) := by decide +kernel
theorem dX10_goOn_20 : decode cX10_goOn 20 = .ok (.putfield 41, 3) := by decide +kernel
theorem dX10_goOn_23 : decode cX10_goOn 23 = .ok (.aload_n 0, 1) := by decide +kernel
theorem dX10_goOn_24 : decode cX10_goOn 24 = .ok (.getfield 21, 3) := by decide +kernel
theorem dX10_goOn_27 : decode cX10_goOn 27 = .ok (.iconst 0, 1) := by decide +kernel
theorem dX10_goOn_28 : decode cX10_goOn 28 = .ok (.aload_n 0, 1) := by decide +kernel
theorem dX10_goOn_29 : decode cX10_goOn 29 = .ok (.getfield 9, 3) := by decide +kernel
theorem dX10_goOn_32 : decode cX10_goOn 32 = .ok (.iconst 0, 1) := by decide +kernel
theorem dX10_goOn_33 : decode cX10_goOn 33 = .ok (.iconst 3, 1) := by decide +kernel
theorem dX10_goOn_34 : decode cX10_goOn 34 = .ok (.invokestatic 64, 3) := by decide +kernel
theorem dX10_goOn_37 : decode cX10_goOn 37 = .ok (.return_, 1) := by decide +kernel
theorem dX11_init_0 : decode cX11_init 0 = .ok (.aload_n 0, 1) := by decide +kernel
theorem dX11_init_1 : decode cX11_init 1 = .ok (.invokespecial 1, 3) := by decide +kernel
theorem dX11_init_4 : decode cX11_init 4 = .ok (.aload_n 0, 1) := by decide +kernel
theorem dX11_init_5 : decode cX11_init 5 = .ok (.new 7, 3) := by decide +kernel
theorem dX11_init_8 : decode cX11_init 8 = .ok (.dup, 1) := by decide +kernel
theorem dX11_init_9 : decode cX11_init 9 = .ok (.invokespecial 9, 3) := by decide +kernel
theorem dX11_init_12 : decode cX11_init 12 = .ok (.putfield 10, 3) := by decide +kernel
theorem dX11_init_15 : decode cX11_init 15 = .ok (.aload_n 0, 1) := by decide +kernel
theorem dX11_init_16 : decode cX11_init 16 = .ok (.new 16, 3) := by decide +kernel
theorem dX11_init_19 : decode cX11_init 19 = .ok (.dup, 1) := by decide +kernel
theorem dX11_init_20 : decode cX11_init 20 = .ok (.invokespecial 18, 3) := by decide +kernel
theorem dX11_init_23 : decode cX11_init 23 = .ok (.putfield 19, 3) := by decide +kernel
theorem dX11_init_26 : decode cX11_init 26 = .ok (.aload_n 0, 1) := by decide +kernel
theorem dX11_init_27 : decode cX11_init 27 = .ok (.new 23, 3) := by decide +kernel
theorem dX11_init_30 : decode cX11_init 30 = .ok (.dup, 1) := by decide +kernel
theorem dX11_init_31 : decode cX11_init 31 = .ok (.invokespecial 25, 3) := by decide +kernel
theorem dX11_init_34 : decode cX11_init 34 = .ok (.putfield 26, 3) := by decide +kernel
theorem dX11_init_37 : decode cX11_init 37 = .ok (.aload_n 0, 1) := by decide +kernel
theorem dX11_init_38 : decode cX11_init 38 = .ok (.new 30, 3) := by decide +kernel
theorem dX11_init_41 : decode cX11_init 41 = .ok (.dup, 1) := by decide +kernel
theorem dX11_init_42 : decode cX11_init 42 = .ok (.aload_n 0, 1) := by decide +kernel
theorem dX11_init_43 : decode cX11_init 43 = .ok (.getfield 26, 3) := by decide +kernel
theorem dX11_init_46 : decode cX11_init 46 = .ok (.invokespecial 32, 3) := by decide +kernel
theorem dX11_init_49 : decode cX11_init 49 = .ok (.putfield 35, 3) := by decide +kernel
theorem dX11_init_52 : decode cX11_init 52 = .ok (.aload_n 0, 1) := by decide +kernel
theorem dX11_init_53 : decode cX11_init 53 = .ok (.new 39, 3) := by decide +kernel
theorem dX11_init_56 : decode cX11_init 56 = .ok (.dup, 1) := by decide +kernel
theorem dX11_init_57 : decode cX11_init 57 = .ok (.aload_n 0, 1) := by decide +kernel
theorem dX11_init_58 : decode cX11_init 58 = .ok (.getfield 26, 3) := by decide +kernel
theorem dX11_init_61 : decode cX11_init 61 = .ok (.invokespecial 41, 3) := by decide +kernel
theorem dX11_init_64 : decode cX11_init 64 = .ok (.putfield 42, 3) := by decide +kernel
theorem dX11_init_67 : decode cX11_init 67 = .ok (.aload_n 0, 1) := by decide +kernel
theorem dX11_init_68 : decode cX11_init 68 = .ok (.iconst 2, 1) := by decide +kernel
theorem dX11_init_69 : decode cX11_init 69 = .ok (.anewarray 30, 3) := by decide +kernel
theorem dX11_init_72 : decode cX11_init 72 = .ok (.putfield 46, 3) := by decide +kernel
theorem dX11_init_75 : decode cX11_init 75 = .ok (.iconst 0, 1) := by decide +kernel
theorem dX11_init_76 : decode cX11_init 76 = .ok (.istore_n 1, 1) := by decide +kernel
theorem dX11_init_77 : decode cX11_init 77 = .ok (.iload_n 1, 1) := by decide +kernel
theorem dX11_init_78 : decode cX11_init 78 = .ok (.iconst 2, 1) := by decide +kernel
theorem dX11_init_79 : decode cX11_init 79 = .ok (.if_icmp .ge 26, 3) := by decide +kernel
theorem dX11_init_82 : decode cX11_init 82 = .ok (.aload_n 0, 1) := by decide +kernel
theorem dX11_init_83 : decode cX11_init 83 = .ok (.getfield 46, 3) := by decide +kernel
theorem dX11_init_86 : decode cX11_init 86 = .ok (.iload_n 1, 1) := by decide +kernel
theorem dX11_init_87 : decode cX11_init 87 = .ok (.new 30, 3) := by decide +kernel
theorem dX11_init_90 : decode cX11_init 90 = .ok (.dup, 1) := by decide +kernel
theorem dX11_init_91 : decode cX11_init 91 = .ok (.aload_n 0, 1) := by decide +kernel
theorem dX11_init_92 : decode cX11_init 92 = .ok (.getfield 26, 3) := by decide +kernel
theorem dX11_init_95 : decode cX11_init 95 = .ok (.invokespecial 32, 3) := by decide +kernel
theorem dX11_init_98 : decode cX11_init 98 = .ok (.aastore, 1) := by decide +kernel
theorem dX11_init_99 : decode cX11_init 99 = .ok (.iinc 1 1, 3) := by decide +kernel
theorem dX11_init_102 : decode cX11_init 102 = .ok (.goto (-25), 3) := by decide +kernel
theorem dX11_init_105 : decode cX11_init 105 = .ok (.aload_n 0, 1) := by decide +kernel
theorem dX11_init_106 : decode cX11_init 106 = .ok (.iconst 2, 1) := by decide +kernel
theorem dX11_init_107 : decode cX11_init 107 = .ok (.newarray .boolean, 2) := by decide +kernel
theorem dX11_init_109 : decode cX11_init 109 = .ok (.putfield 50, 3) := by decide +kernel
theorem dX11_init_112 : decode cX11_init 112 = .ok (.new 30, 3) := by decide +kernel
theorem dX11_init_115 : decode cX11_init 115 = .ok (.dup, 1) := by decide +kernel
theorem dX11_init_116 : decode cX11_init 116 = .ok (.aload_n 0, 1) := by decide +kernel
theorem dX11_init_117 : decode cX11_init 117 = .ok (.getfield 26, 3) := by decide +kernel
theorem dX11_init_120 : decode cX11_init 120 = .ok (.invokespecial 32, 3) := by decide +kernel
theorem dX11_init_123 : decode cX11_init 123 = .ok (.astore_n 1, 1) := by decide +kernel
theorem dX11_init_124 : decode cX11_init 124 = .ok (.aload_n 0, 1) := by decide +kernel
theorem dX11_init_125 : decode cX11_init 125 = .ok (.new 54, 3) := by decide +kernel
theorem dX11_init_128 : decode cX11_init 128 = .ok (.dup, 1) := by decide +kernel
theorem dX11_init_129 : decode cX11_init 129 = .ok (.aload_n 0, 1) := by decide +kernel
theorem dX11_init_130 : decode cX11_init 130 = .ok (.getfield 35, 3) := by decide +kernel
theorem dX11_init_133 : decode cX11_init 133 = .ok (.getfield 56, 3) := by decide +kernel
theorem dX11_init_136 : decode cX11_init 136 = .ok (.aload_n 1, 1) := by decide +kernel
theorem dX11_init_137 : decode cX11_init 137 = .ok (.getfield 56, 3) := by decide +kernel
theorem dX11_init_140 : decode cX11_init 140 = .ok (.invokespecial 60, 3) := by decide +kernel
theorem dX11_init_143 : decode cX11_init 143 = .ok (.putfield 63, 3) := by decide +kernel
theorem dX11_init_146 : decode cX11_init 146 = .ok (.aload_n 0, 1) := by decide +kernel
theorem dX11_init_147 : decode cX11_init 147 = .ok (.new 67, 3) := by decide +kernel
theorem dX11_init_150 : decode cX11_init 150 = .ok (.dup, 1) := by decide +kernel
theorem dX11_init_151 : decode cX11_init 151 = .ok (.aload_n 0, 1) := by decide +kernel
theorem dX11_init_152 : decode cX11_init 152 = .ok (.getfield 35, 3) := by decide +kernel
theorem dX11_init_155 : decode cX11_init 155 = .ok (.aload_n 1, 1) := by decide +kernel
theorem dX11_init_156 : decode cX11_init 156 = .ok (.invokespecial 69, 3) := by decide +kernel
theorem dX11_init_159 : decode cX11_init 159 = .ok (.putfield 72, 3) := by decide +kernel
theorem dX11_init_162 : decode cX11_init 162 = .ok (.aload_n 0, 1) := by decide +kernel
theorem dX11_init_163 : decode cX11_init 163 = .ok (.new 76, 3) := by decide +kernel
theorem dX11_init_166 : decode cX11_init 166 = .ok (.dup, 1) := by decide +kernel
theorem dX11_init_167 : decode cX11_init 167 = .ok (.aload_n 0, 1) := by decide +kernel
theorem dX11_init_168 : decode cX11_init 168 = .ok (.getfield 35, 3) := by decide +kernel
theorem dX11_init_171 : decode cX11_init 171 = .ok (.invokespecial 78, 3) := by decide +kernel
theorem dX11_init_174 : decode cX11_init 174 = .ok (.putfield 81, 3) := by decide +kernel
theorem dX11_init_177 : decode cX11_init 177 = .ok (.aload_n 0, 1) := by decide +kernel
theorem dX11_init_178 : decode cX11_init 178 = .ok (.new 85, 3) := by decide +kernel
theorem dX11_init_181 : decode cX11_init 181 = .ok (.dup, 1) := by decide +kernel
theorem dX11_init_182 : decode cX11_init 182 = .ok (.aload_n 0, 1) := by decide +kernel
theorem dX11_init_183 : decode cX11_init 183 = .ok (.getfield 35, 3) := by decide +kernel
theorem dX11_init_186 : decode cX11_init 186 = .ok (.aload_n 1, 1) := by decide +kernel
theorem dX11_init_187 : decode cX11_init 187 = .ok (.invokespecial 87, 3) := by decide +kernel
theorem dX11_init_190 : decode cX11_init 190 = .ok (.putfield 88, 3) := by decide +kernel
theorem dX11_init_193 : decode cX11_init 193 = .ok (.return_, 1) := by decide +kernel
theorem dX11_write_0 : decode cX11_write 0 = .ok (.iload_n 1, 1) := by decide +kernel
theorem dX11_write_1 : decode cX11_write 1 = .ok (.iconst 1, 1) := by decide +kernel
theorem dX11_write_2 : decode cX11_write 2 = .ok (.if_icmp .lt 9, 3) := by decide +kernel
theorem dX11_write_5 : decode cX11_write 5 = .ok (.iload_n 1, 1) := by decide +kernel
theorem dX11_write_6 : decode cX11_write 6 = .ok (.bipush 8, 2) := by decide +kernel
theorem dX11_write_8 : decode cX11_write 8 = .ok (.if_icmp .le 6, 3) := by decide +kernel
theorem dX11_write_11 : decode cX11_write 11 = .ok (.bipush (-2), 2) := by decide +kernel
theorem dX11_write_13 : decode cX11_write 13 = .ok (.ireturn, 1) := by decide +kernel
theorem dX11_write_14 : decode cX11_write 14 = .ok (.aload_n 0, 1) := by decide +kernel
theorem dX11_write_15 : decode cX11_write 15 = .ok (.getfield 10, 3) := by decide +kernel
theorem dX11_write_18 : decode cX11_write 18 = .ok (.iload_n 1, 1) := by decide +kernel
theorem dX11_write_19 : decode cX11_write 19 = .ok (.invokevirtual 92, 3) := by decide +kernel
theorem dX11_write_22 : decode cX11_write 22 = .ok (.ifCond .ne 6, 3) := by decide +kernel
theorem dX11_write_25 : decode cX11_write 25 = .ok (.bipush (-4), 2) := by decide +kernel
theorem dX11_write_27 : decode cX11_write 27 = .ok (.ireturn, 1) := by decide +kernel
theorem dX11_write_28 : decode cX11_write 28 = .ok (.aload_n 0, 1) := by decide +kernel
theorem dX11_write_29 : decode cX11_write 29 = .ok (.getfield 10, 3) := by decide +kernel
theorem dX11_write_32 : decode cX11_write 32 = .ok (.iload_n 1, 1) := by decide +kernel
theorem dX11_write_33 : decode cX11_write 33 = .ok (.lload_n 2, 1) := by decide +kernel
theorem dX11_write_34 : decode cX11_write 34 = .ok (.invokevirtual 96, 3) := by decide +kernel
theorem dX11_write_37 : decode cX11_write 37 = .ok (.ireturn, 1) := by decide +kernel
theorem dX11_wipe_0 : decode cX11_wipe 0 = .ok (.aload_n 0, 1) := by decide +kernel
theorem dX11_wipe_1 : decode cX11_wipe 1 = .ok (.getfield 10, 3) := by decide +kernel
theorem dX11_wipe_4 : decode cX11_wipe 4 = .ok (.invokevirtual 100, 3) := by decide +kernel
theorem dX11_wipe_7 : decode cX11_wipe 7 = .ok (.ireturn, 1) := by decide +kernel
theorem dX11_fault_0 : decode cX11_fault 0 = .ok (.aload_n 0, 1) := by decide +kernel
theorem dX11_fault_1 : decode cX11_fault 1 = .ok (.getfield 19, 3) := by decide +kernel
theorem dX11_fault_4 : decode cX11_fault 4 = .ok (.aload_n 0, 1) := by decide +kernel
theorem dX11_fault_5 : decode cX11_fault 5 = .ok (.getfield 10, 3) := by decide +kernel
theorem dX11_fault_8 : decode cX11_fault 8 = .ok (.invokevirtual 104, 3) := by decide +kernel
theorem dX11_fault_11 : decode cX11_fault 11 = .ok (.ireturn, 1) := by decide +kernel
theorem dX11_tower_0 : decode cX11_tower 0 = .ok (.aload_n 0, 1) := by decide +kernel
theorem dX11_tower_1 : decode cX11_tower 1 = .ok (.getfield 19, 3) := by decide +kernel
theorem dX11_tower_4 : decode cX11_tower 4 = .ok (.aload_n 0, 1) := by decide +kernel
theorem dX11_tower_5 : decode cX11_tower 5 = .ok (.getfield 10, 3) := by decide +kernel
theorem dX11_tower_8 : decode cX11_tower 8 = .ok (.invokevirtual 104, 3) := by decide +kernel
theorem dX11_tower_11 : decode cX11_tower 11 = .ok (.bipush (-9), 2) := by decide +kernel
theorem dX11_tower_13 : decode cX11_tower 13 = .ok (.if_icmp .eq 6, 3) := by decide +kernel
theorem dX11_tower_16 : decode cX11_tower 16 = .ok (.bipush (-3), 2) := by decide +kernel
theorem dX11_tower_18 : decode cX11_tower 18 = .ok (.ireturn, 1) := by decide +kernel
theorem dX11_tower_19 : decode cX11_tower 19 = .ok (.aload_n 0, 1) := by decide +kernel
theorem dX11_tower_20 : decode cX11_tower 20 = .ok (.getfield 26, 3) := by decide +kernel
theorem dX11_tower_23 : decode cX11_tower 23 = .ok (.aload_n 0, 1) := by decide +kernel
theorem dX11_tower_24 : decode cX11_tower 24 = .ok (.getfield 19, 3) := by decide +kernel
theorem dX11_tower_27 : decode cX11_tower 27 = .ok (.invokevirtual 108, 3) := by decide +kernel
theorem dX11_tower_30 : decode cX11_tower 30 = .ok (.aload_n 0, 1) := by decide +kernel
theorem dX11_tower_31 : decode cX11_tower 31 = .ok (.getfield 35, 3) := by decide +kernel
theorem dX11_tower_34 : decode cX11_tower 34 = .ok (.aload_n 0, 1) := by decide +kernel
theorem dX11_tower_35 : decode cX11_tower 35 = .ok (.getfield 19, 3) := by decide +kernel
theorem dX11_tower_38 : decode cX11_tower 38 = .ok (.invokevirtual 112, 3) := by decide +kernel
theorem dX11_tower_41 : decode cX11_tower 41 = .ok (.aload_n 0, 1) := by decide +kernel
theorem dX11_tower_42 : decode cX11_tower 42 = .ok (.getfield 42, 3) := by decide +kernel
theorem dX11_tower_45 : decode cX11_tower 45 = .ok (.invokevirtual 115, 3) := by decide +kernel
theorem dX11_tower_48 : decode cX11_tower 48 = .ok (.iconst 0, 1) := by decide +kernel
theorem dX11_tower_49 : decode cX11_tower 49 = .ok (.istore_n 1, 1) := by decide +kernel
theorem dX11_tower_50 : decode cX11_tower 50 = .ok (.iload_n 1, 1) := by decide +kernel
theorem dX11_tower_51 : decode cX11_tower 51 = .ok (.iconst 2, 1) := by decide +kernel
theorem dX11_tower_52 : decode cX11_tower 52 = .ok (.if_icmp .ge 16, 3) := by decide +kernel
theorem dX11_tower_55 : decode cX11_tower 55 = .ok (.aload_n 0, 1) := by decide +kernel
theorem dX11_tower_56 : decode cX11_tower 56 = .ok (.getfield 50, 3) := by decide +kernel
theorem dX11_tower_59 : decode cX11_tower 59 = .ok (.iload_n 1, 1) := by decide +kernel
theorem dX11_tower_60 : decode cX11_tower 60 = .ok (.iconst 0, 1) := by decide +kernel
theorem dX11_tower_61 : decode cX11_tower 61 = .ok (.bastore, 1) := by decide +kernel
theorem dX11_tower_62 : decode cX11_tower 62 = .ok (.iinc 1 1, 3) := by decide +kernel
theorem dX11_tower_65 : decode cX11_tower 65 = .ok (.goto (-15), 3) := by decide +kernel
theorem dX11_tower_68 : decode cX11_tower 68 = .ok (.aload_n 0, 1) := by decide +kernel
theorem dX11_tower_69 : decode cX11_tower 69 = .ok (.getfield 35, 3) := by decide +kernel
theorem dX11_tower_72 : decode cX11_tower 72 = .ok (.getfield 56, 3) := by decide +kernel
theorem dX11_tower_75 : decode cX11_tower 75 = .ok (.getfield 118, 3) := by decide +kernel
theorem dX11_tower_78 : decode cX11_tower 78 = .ok (.ireturn, 1) := by decide +kernel
theorem dX11_about_0 : decode cX11_about 0 = .ok (.iload_n 1, 1) := by decide +kernel
theorem dX11_about_1 : decode cX11_about 1 = .ok (.tableswitch 156 0 9 #[55, 66, 74, 82, 93, 104, 116, 128, 140, 148], 55) := by decide +kernel
theorem dX11_about_56 : decode cX11_about 56 = .ok (.aload_n 0, 1) := by decide +kernel
theorem dX11_about_57 : decode cX11_about 57 = .ok (.getfield 35, 3) := by decide +kernel
theorem dX11_about_60 : decode cX11_about 60 = .ok (.getfield 56, 3) := by decide +kernel
theorem dX11_about_63 : decode cX11_about 63 = .ok (.getfield 118, 3) := by decide +kernel
theorem dX11_about_66 : decode cX11_about 66 = .ok (.ireturn, 1) := by decide +kernel
theorem dX11_about_67 : decode cX11_about 67 = .ok (.aload_n 0, 1) := by decide +kernel
theorem dX11_about_68 : decode cX11_about 68 = .ok (.getfield 26, 3) := by decide +kernel
theorem dX11_about_71 : decode cX11_about 71 = .ok (.getfield 124, 3) := by decide +kernel
theorem dX11_about_74 : decode cX11_about 74 = .ok (.ireturn, 1) := by decide +kernel
theorem dX11_about_75 : decode cX11_about 75 = .ok (.aload_n 0, 1) := by decide +kernel
theorem dX11_about_76 : decode cX11_about 76 = .ok (.getfield 42, 3) := by decide +kernel
theorem dX11_about_79 : decode cX11_about 79 = .ok (.invokevirtual 125, 3) := by decide +kernel
theorem dX11_about_82 : decode cX11_about 82 = .ok (.ireturn, 1) := by decide +kernel
theorem dX11_about_83 : decode cX11_about 83 = .ok (.aload_n 0, 1) := by decide +kernel
theorem dX11_about_84 : decode cX11_about 84 = .ok (.getfield 35, 3) := by decide +kernel
theorem dX11_about_87 : decode cX11_about 87 = .ok (.getfield 56, 3) := by decide +kernel
theorem dX11_about_90 : decode cX11_about 90 = .ok (.invokevirtual 128, 3) := by decide +kernel
theorem dX11_about_93 : decode cX11_about 93 = .ok (.ireturn, 1) := by decide +kernel
theorem dX11_about_94 : decode cX11_about 94 = .ok (.aload_n 0, 1) := by decide +kernel
theorem dX11_about_95 : decode cX11_about 95 = .ok (.getfield 35, 3) := by decide +kernel
theorem dX11_about_98 : decode cX11_about 98 = .ok (.getfield 56, 3) := by decide +kernel
theorem dX11_about_101 : decode cX11_about 101 = .ok (.getfield 131, 3) := by decide +kernel
theorem dX11_about_104 : decode cX11_about 104 = .ok (.ireturn, 1) := by decide +kernel
theorem dX11_about_105 : decode cX11_about 105 = .ok (.aload_n 0, 1) := by decide +kernel
theorem dX11_about_106 : decode cX11_about 106 = .ok (.getfield 35, 3) := by decide +kernel
theorem dX11_about_109 : decode cX11_about 109 = .ok (.getfield 134, 3) := by decide +kernel
theorem dX11_about_112 : decode cX11_about 112 = .ok (.iconst 1, 1) := by decide +kernel
theorem dX11_about_113 : decode cX11_about 113 = .ok (.invokevirtual 138, 3) := by decide +kernel
theorem dX11_about_116 : decode cX11_about 116 = .ok (.ireturn, 1) := by decide +kernel
theorem dX11_about_117 : decode cX11_about 117 = .ok (.aload_n 0, 1) := by decide +kernel
theorem dX11_about_118 : decode cX11_about 118 = .ok (.getfield 35, 3) := by decide +kernel
theorem dX11_about_121 : decode cX11_about 121 = .ok (.getfield 134, 3) := by decide +kernel
theorem dX11_about_124 : decode cX11_about 124 = .ok (.iconst 2, 1) := by decide +kernel
theorem dX11_about_125 : decode cX11_about 125 = .ok (.invokevirtual 138, 3) := by decide +kernel
theorem dX11_about_128 : decode cX11_about 128 = .ok (.ireturn, 1) := by decide +kernel
theorem dX11_about_129 : decode cX11_about 129 = .ok (.aload_n 0, 1) := by decide +kernel
theorem dX11_about_130 : decode cX11_about 130 = .ok (.getfield 35, 3) := by decide +kernel
theorem dX11_about_133 : decode cX11_about 133 = .ok (.getfield 134, 3) := by decide +kernel
theorem dX11_about_136 : decode cX11_about 136 = .ok (.iconst 3, 1) := by decide +kernel
theorem dX11_about_137 : decode cX11_about 137 = .ok (.invokevirtual 138, 3) := by decide +kernel
theorem dX11_about_140 : decode cX11_about 140 = .ok (.ireturn, 1) := by decide +kernel
theorem dX11_about_141 : decode cX11_about 141 = .ok (.aload_n 0, 1) := by decide +kernel
theorem dX11_about_142 : decode cX11_about 142 = .ok (.getfield 63, 3) := by decide +kernel
theorem dX11_about_145 : decode cX11_about 145 = .ok (.invokevirtual 144, 3) := by decide +kernel
theorem dX11_about_148 : decode cX11_about 148 = .ok (.ireturn, 1) := by decide +kernel
theorem dX11_about_149 : decode cX11_about 149 = .ok (.aload_n 0, 1) := by decide +kernel
theorem dX11_about_150 : decode cX11_about 150 = .ok (.getfield 10, 3) := by decide +kernel
theorem dX11_about_153 : decode cX11_about 153 = .ok (.invokevirtual 146, 3) := by decide +kernel
theorem dX11_about_156 : decode cX11_about 156 = .ok (.ireturn, 1) := by decide +kernel
theorem dX11_about_157 : decode cX11_about 157 = .ok (.bipush (-2), 2) := by decide +kernel
theorem dX11_about_159 : decode cX11_about 159 = .ok (.ireturn, 1) := by decide +kernel
theorem dX11_kiln_0 : decode cX11_kiln 0 = .ok (.aload_n 0, 1) := by decide +kernel
theorem dX11_kiln_1 : decode cX11_kiln 1 = .ok (.getfield 35, 3) := by decide +kernel
theorem dX11_kiln_4 : decode cX11_kiln 4 = .ok (.getfield 56, 3) := by decide +kernel
theorem dX11_kiln_7 : decode cX11_kiln 7 = .ok (.iload_n 1, 1) := by decide +kernel
theorem dX11_kiln_8 : decode cX11_kiln 8 = .ok (.invokevirtual 147, 3) := by decide +kernel
theorem dX11_kiln_11 : decode cX11_kiln 11 = .ok (.ifCond .ne 5, 3) := by decide +kernel
theorem dX11_kiln_14 : decode cX11_kiln 14 = .ok (.iconst (-1), 1) := by decide +kernel
theorem dX11_kiln_15 : decode cX11_kiln 15 = .ok (.ireturn, 1) := by decide +kernel
theorem dX11_kiln_16 : decode cX11_kiln 16 = .ok (.iload_n 2, 1) := by decide +kernel
theorem dX11_kiln_17 : decode cX11_kiln 17 = .ok (.tableswitch 82 0 3 #[31, 44, 57, 70], 31) := by decide +kernel
theorem dX11_kiln_48 : decode cX11_kiln 48 = .ok (.aload_n 0, 1) := by decide +kernel
theorem dX11_kiln_49 : decode cX11_kiln 49 = .ok (.getfield 35, 3) := by decide +kernel
theorem dX11_kiln_52 : decode cX11_kiln 52 = .ok (.getfield 56, 3) := by decide +kernel
theorem dX11_kiln_55 : decode cX11_kiln 55 = .ok (.getfield 150, 3) := by decide +kernel
theorem dX11_kiln_58 : decode cX11_kiln 58 = .ok (.iload_n 1, 1) := by decide +kernel
theorem dX11_kiln_59 : decode cX11_kiln 59 = .ok (.iaload, 1) := by decide +kernel
theorem dX11_kiln_60 : decode cX11_kiln 60 = .ok (.ireturn, 1) := by decide +kernel
theorem dX11_kiln_61 : decode cX11_kiln 61 = .ok (.aload_n 0, 1) := by decide +kernel
theorem dX11_kiln_62 : decode cX11_kiln 62 = .ok (.getfield 35, 3) := by decide +kernel
theorem dX11_kiln_65 : decode cX11_kiln 65 = .ok (.getfield 56, 3) := by decide +kernel
theorem dX11_kiln_68 : decode cX11_kiln 68 = .ok (.getfield 154, 3) := by decide +kernel
theorem dX11_kiln_71 : decode cX11_kiln 71 = .ok (.iload_n 1, 1) := by decide +kernel
theorem dX11_kiln_72 : decode cX11_kiln 72 = .ok (.iaload, 1) := by decide +kernel
theorem dX11_kiln_73 : decode cX11_kiln 73 = .ok (.ireturn, 1) := by decide +kernel
theorem dX11_kiln_74 : decode cX11_kiln 74 = .ok (.aload_n 0, 1) := by decide +kernel
theorem dX11_kiln_75 : decode cX11_kiln 75 = .ok (.getfield 35, 3) := by decide +kernel
theorem dX11_kiln_78 : decode cX11_kiln 78 = .ok (.getfield 56, 3) := by decide +kernel
theorem dX11_kiln_81 : decode cX11_kiln 81 = .ok (.getfield 157, 3) := by decide +kernel
theorem dX11_kiln_84 : decode cX11_kiln 84 = .ok (.iload_n 1, 1) := by decide +kernel
theorem dX11_kiln_85 : decode cX11_kiln 85 = .ok (.iaload, 1) := by decide +kernel
theorem dX11_kiln_86 : decode cX11_kiln 86 = .ok (.ireturn, 1) := by decide +kernel
theorem dX11_kiln_87 : decode cX11_kiln 87 = .ok (.aload_n 0, 1) := by decide +kernel
theorem dX11_kiln_88 : decode cX11_kiln 88 = .ok (.getfield 35, 3) := by decide +kernel
theorem dX11_kiln_91 : decode cX11_kiln 91 = .ok (.getfield 134, 3) := by decide +kernel
theorem dX11_kiln_94 : decode cX11_kiln 94 = .ok (.iload_n 1, 1) := by decide +kernel
theorem dX11_kiln_95 : decode cX11_kiln 95 = .ok (.invokevirtual 160, 3) := by decide +kernel
theorem dX11_kiln_98 : decode cX11_kiln 98 = .ok (.ireturn, 1) := by decide +kernel
theorem dX11_kiln_99 : decode cX11_kiln 99 = .ok (.bipush (-2), 2) := by decide +kernel
theorem dX11_kiln_101 : decode cX11_kiln 101 = .ok (.ireturn, 1) := by decide +kernel
theorem dX11_pot_0 : decode cX11_pot 0 = .ok (.aload_n 0, 1) := by decide +kernel
theorem dX11_pot_1 : decode cX11_pot 1 = .ok (.getfield 26, 3) := by decide +kernel
theorem dX11_pot_4 : decode cX11_pot 4 = .ok (.iload_n 1, 1) := by decide +kernel
theorem dX11_pot_5 : decode cX11_pot 5 = .ok (.invokevirtual 163, 3) := by decide +kernel
theorem dX11_pot_8 : decode cX11_pot 8 = .ok (.ifCond .ne 5, 3) := by decide +kernel
theorem dX11_pot_11 : decode cX11_pot 11 = .ok (.iconst (-1), 1) := by decide +kernel
theorem dX11_pot_12 : decode cX11_pot 12 = .ok (.ireturn, 1) := by decide +kernel
theorem dX11_pot_13 : decode cX11_pot 13 = .ok (.iload_n 2, 1) := by decide +kernel
theorem dX11_pot_14 : decode cX11_pot 14 = .ok (.tableswitch 135 0 7 #[46, 59, 69, 79, 89, 99, 109, 122], 46) := by decide +kernel
theorem dX11_pot_60 : decode cX11_pot 60 = .ok (.aload_n 0, 1) := by decide +kernel
theorem dX11_pot_61 : decode cX11_pot 61 = .ok (.getfield 35, 3) := by decide +kernel
theorem dX11_pot_64 : decode cX11_pot 64 = .ok (.getfield 134, 3) := by decide +kernel
theorem dX11_pot_67 : decode cX11_pot 67 = .ok (.getfield 164, 3) := by decide +kernel
theorem dX11_pot_70 : decode cX11_pot 70 = .ok (.iload_n 1, 1) := by decide +kernel
theorem dX11_pot_71 : decode cX11_pot 71 = .ok (.iaload, 1) := by decide +kernel
theorem dX11_pot_72 : decode cX11_pot 72 = .ok (.ireturn, 1) := by decide +kernel
theorem dX11_pot_73 : decode cX11_pot 73 = .ok (.aload_n 0, 1) := by decide +kernel
theorem dX11_pot_74 : decode cX11_pot 74 = .ok (.getfield 26, 3) := by decide +kernel
theorem dX11_pot_77 : decode cX11_pot 77 = .ok (.getfield 167, 3) := by decide +kernel
theorem dX11_pot_80 : decode cX11_pot 80 = .ok (.iload_n 1, 1) := by decide +kernel
theorem dX11_pot_81 : decode cX11_pot 81 = .ok (.iaload, 1) := by decide +kernel
theorem dX11_pot_82 : decode cX11_pot 82 = .ok (.ireturn, 1) := by decide +kernel
theorem dX11_pot_83 : decode cX11_pot 83 = .ok (.aload_n 0, 1) := by decide +kernel
theorem dX11_pot_84 : decode cX11_pot 84 = .ok (.getfield 26, 3) := by decide +kernel
theorem dX11_pot_87 : decode cX11_pot 87 = .ok (.getfield 170, 3) := by decide +kernel
theorem dX11_pot_90 : decode cX11_pot 90 = .ok (.iload_n 1, 1) := by decide +kernel
theorem dX11_pot_91 : decode cX11_pot 91 = .ok (.iaload, 1) := by decide +kernel
theorem dX11_pot_92 : decode cX11_pot 92 = .ok (.ireturn, 1) := by decide +kernel
theorem dX11_pot_93 : decode cX11_pot 93 = .ok (.aload_n 0, 1) := by decide +kernel
theorem dX11_pot_94 : decode cX11_pot 94 = .ok (.getfield 26, 3) := by decide +kernel
theorem dX11_pot_97 : decode cX11_pot 97 = .ok (.getfield 173, 3) := by decide +kernel
theorem dX11_pot_100 : decode cX11_pot 100 = .ok (.iload_n 1, 1) := by decide +kernel
theorem dX11_pot_101 : decode cX11_pot 101 = .ok (.iaload, 1) := by decide +kernel
theorem dX11_pot_102 : decode cX11_pot 102 = .ok (.ireturn, 1) := by decide +kernel
theorem dX11_pot_103 : decode cX11_pot 103 = .ok (.aload_n 0, 1) := by decide +kernel
theorem dX11_pot_104 : decode cX11_pot 104 = .ok (.getfield 26, 3) := by decide +kernel
theorem dX11_pot_107 : decode cX11_pot 107 = .ok (.getfield 176, 3) := by decide +kernel
theorem dX11_pot_110 : decode cX11_pot 110 = .ok (.iload_n 1, 1) := by decide +kernel
theorem dX11_pot_111 : decode cX11_pot 111 = .ok (.iaload, 1) := by decide +kernel
theorem dX11_pot_112 : decode cX11_pot 112 = .ok (.ireturn, 1) := by decide +kernel
theorem dX11_pot_113 : decode cX11_pot 113 = .ok (.aload_n 0, 1) := by decide +kernel
theorem dX11_pot_114 : decode cX11_pot 114 = .ok (.getfield 26, 3) := by decide +kernel
theorem dX11_pot_117 : decode cX11_pot 117 = .ok (.getfield 179, 3) := by decide +kernel
theorem dX11_pot_120 : decode cX11_pot 120 = .ok (.iload_n 1, 1) := by decide +kernel
theorem dX11_pot_121 : decode cX11_pot 121 = .ok (.iaload, 1) := by decide +kernel
theorem dX11_pot_122 : decode cX11_pot 122 = .ok (.ireturn, 1) := by decide +kernel
theorem dX11_pot_123 : decode cX11_pot 123 = .ok (.aload_n 0, 1) := by decide +kernel
theorem dX11_pot_124 : decode cX11_pot 124 = .ok (.getfield 35, 3) := by decide +kernel
theorem dX11_pot_127 : decode cX11_pot 127 = .ok (.getfield 134, 3) := by decide +kernel
theorem dX11_pot_130 : decode cX11_pot 130 = .ok (.getfield 182, 3) := by decide +kernel
theorem dX11_pot_133 : decode cX11_pot 133 = .ok (.iload_n 1, 1) := by decide +kernel
theorem dX11_pot_134 : decode cX11_pot 134 = .ok (.iaload, 1) := by decide +kernel
theorem dX11_pot_135 : decode cX11_pot 135 = .ok (.ireturn, 1) := by decide +kernel
theorem dX11_pot_136 : decode cX11_pot 136 = .ok (.aload_n 0, 1) := by decide +kernel
theorem dX11_pot_137 : decode cX11_pot 137 = .ok (.getfield 35, 3) := by decide +kernel
theorem dX11_pot_140 : decode cX11_pot 140 = .ok (.getfield 134, 3) := by decide +kernel
theorem dX11_pot_143 : decode cX11_pot 143 = .ok (.getfield 185, 3) := by decide +kernel
theorem dX11_pot_146 : decode cX11_pot 146 = .ok (.iload_n 1, 1) := by decide +kernel
theorem dX11_pot_147 : decode cX11_pot 147 = .ok (.iaload, 1) := by decide +kernel
theorem dX11_pot_148 : decode cX11_pot 148 = .ok (.ireturn, 1) := by decide +kernel
theorem dX11_pot_149 : decode cX11_pot 149 = .ok (.bipush (-2), 2) := by decide +kernel
theorem dX11_pot_151 : decode cX11_pot 151 = .ok (.ireturn, 1) := by decide +kernel
theorem dX11_open_0 : decode cX11_open 0 = .ok (.aload_n 0, 1) := by decide +kernel
theorem dX11_open_1 : decode cX11_open 1 = .ok (.getfield 35, 3) := by decide +kernel
theorem dX11_open_4 : decode cX11_open 4 = .ok (.getfield 56, 3) := by decide +kernel
theorem dX11_open_7 : decode cX11_open 7 = .ok (.iload_n 1, 1) := by decide +kernel
theorem dX11_open_8 : decode cX11_open 8 = .ok (.invokevirtual 147, 3) := by decide +kernel
theorem dX11_open_11 : decode cX11_open 11 = .ok (.ifCond .ne 5, 3) := by decide +kernel
theorem dX11_open_14 : decode cX11_open 14 = .ok (.iconst (-1), 1) := by decide +kernel
theorem dX11_open_15 : decode cX11_open 15 = .ok (.ireturn, 1) := by decide +kernel
theorem dX11_open_16 : decode cX11_open 16 = .ok (.iload_n 2, 1) := by decide +kernel
theorem dX11_open_17 : decode cX11_open 17 = .ok (.ifCond .lt 22, 3) := by decide +kernel
theorem dX11_open_20 : decode cX11_open 20 = .ok (.iload_n 2, 1) := by decide +kernel
theorem dX11_open_21 : decode cX11_open 21 = .ok (.bipush 10, 2) := by decide +kernel
theorem dX11_open_23 : decode cX11_open 23 = .ok (.aload_n 0, 1) := by decide +kernel
theorem dX11_open_24 : decode cX11_open 24 = .ok (.getfield 35, 3) := by decide +kernel
theorem dX11_open_27 : decode cX11_open 27 = .ok (.getfield 56, 3) := by decide +kernel
theorem dX11_open_30 : decode cX11_open 30 = .ok (.getfield 157, 3) := by decide +kernel
theorem dX11_open_33 : decode cX11_open 33 = .ok (.iload_n 1, 1) := by decide +kernel
theorem dX11_open_34 : decode cX11_open 34 = .ok (.iaload, 1) := by decide +kernel
theorem dX11_open_35 : decode cX11_open 35 = .ok (.isub, 1) := by decide +kernel
theorem dX11_open_36 : decode cX11_open 36 = .ok (.if_icmp .le 6, 3) := by decide +kernel
theorem dX11_open_39 : decode cX11_open 39 = .ok (.bipush (-2), 2) := by decide +kernel
theorem dX11_open_41 : decode cX11_open 41 = .ok (.ireturn, 1) := by decide +kernel
theorem dX11_open_42 : decode cX11_open 42 = .ok (.aload_n 0, 1) := by decide +kernel
theorem dX11_open_43 : decode cX11_open 43 = .ok (.getfield 35, 3) := by decide +kernel
theorem dX11_open_46 : decode cX11_open 46 = .ok (.getfield 56, 3) := by decide +kernel
theorem dX11_open_49 : decode cX11_open 49 = .ok (.getfield 154, 3) := by decide +kernel
theorem dX11_open_52 : decode cX11_open 52 = .ok (.iload_n 1, 1) := by decide +kernel
theorem dX11_open_53 : decode cX11_open 53 = .ok (.iaload, 1) := by decide +kernel
theorem dX11_open_54 : decode cX11_open 54 = .ok (.istore_n 3, 1) := by decide +kernel
theorem dX11_open_55 : decode cX11_open 55 = .ok (.aload_n 0, 1) := by decide +kernel
theorem dX11_open_56 : decode cX11_open 56 = .ok (.getfield 35, 3) := by decide +kernel
theorem dX11_open_59 : decode cX11_open 59 = .ok (.getfield 56, 3) := by decide +kernel
theorem dX11_open_62 : decode cX11_open 62 = .ok (.getfield 154, 3) := by decide +kernel
theorem dX11_open_65 : decode cX11_open 65 = .ok (.iload_n 1, 1) := by decide +kernel
theorem dX11_open_66 : decode cX11_open 66 = .ok (.iload_n 2, 1) := by decide +kernel
theorem dX11_open_67 : decode cX11_open 67 = .ok (.iastore, 1) := by decide +kernel
theorem dX11_open_68 : decode cX11_open 68 = .ok (.iload_n 3, 1) := by decide +kernel
theorem dX11_open_69 : decode cX11_open 69 = .ok (.ireturn, 1) := by decide +kernel
theorem dX11_damp_0 : decode cX11_damp 0 = .ok (.aload_n 0, 1) := by decide +kernel
theorem dX11_damp_1 : decode cX11_damp 1 = .ok (.getfield 35, 3) := by decide +kernel
theorem dX11_damp_4 : decode cX11_damp 4 = .ok (.getfield 56, 3) := by decide +kernel
theorem dX11_damp_7 : decode cX11_damp 7 = .ok (.iload_n 1, 1) := by decide +kernel
theorem dX11_damp_8 : decode cX11_damp 8 = .ok (.invokevirtual 147, 3) := by decide +kernel
theorem dX11_damp_11 : decode cX11_damp 11 = .ok (.ifCond .ne 5, 3) := by decide +kernel
theorem dX11_damp_14 : decode cX11_damp 14 = .ok (.iconst (-1), 1) := by decide +kernel
theorem dX11_damp_15 : decode cX11_damp 15 = .ok (.ireturn, 1) := by decide +kernel
theorem dX11_damp_16 : decode cX11_damp 16 = .ok (.iload_n 2, 1) := by decide +kernel
theorem dX11_damp_17 : decode cX11_damp 17 = .ok (.ifCond .lt 22, 3) := by decide +kernel
theorem dX11_damp_20 : decode cX11_damp 20 = .ok (.iload_n 2, 1) := by decide +kernel
theorem dX11_damp_21 : decode cX11_damp 21 = .ok (.bipush 10, 2) := by decide +kernel
theorem dX11_damp_23 : decode cX11_damp 23 = .ok (.aload_n 0, 1) := by decide +kernel
theorem dX11_damp_24 : decode cX11_damp 24 = .ok (.getfield 35, 3) := by decide +kernel
theorem dX11_damp_27 : decode cX11_damp 27 = .ok (.getfield 56, 3) := by decide +kernel
theorem dX11_damp_30 : decode cX11_damp 30 = .ok (.getfield 154, 3) := by decide +kernel
theorem dX11_damp_33 : decode cX11_damp 33 = .ok (.iload_n 1, 1) := by decide +kernel
theorem dX11_damp_34 : decode cX11_damp 34 = .ok (.iaload, 1) := by decide +kernel
theorem dX11_damp_35 : decode cX11_damp 35 = .ok (.isub, 1) := by decide +kernel
theorem dX11_damp_36 : decode cX11_damp 36 = .ok (.if_icmp .le 6, 3) := by decide +kernel
theorem dX11_damp_39 : decode cX11_damp 39 = .ok (.bipush (-2), 2) := by decide +kernel
theorem dX11_damp_41 : decode cX11_damp 41 = .ok (.ireturn, 1) := by decide +kernel
theorem dX11_damp_42 : decode cX11_damp 42 = .ok (.aload_n 0, 1) := by decide +kernel
theorem dX11_damp_43 : decode cX11_damp 43 = .ok (.getfield 35, 3) := by decide +kernel
theorem dX11_damp_46 : decode cX11_damp 46 = .ok (.getfield 56, 3) := by decide +kernel
theorem dX11_damp_49 : decode cX11_damp 49 = .ok (.getfield 157, 3) := by decide +kernel
theorem dX11_damp_52 : decode cX11_damp 52 = .ok (.iload_n 1, 1) := by decide +kernel
theorem dX11_damp_53 : decode cX11_damp 53 = .ok (.iaload, 1) := by decide +kernel
theorem dX11_damp_54 : decode cX11_damp 54 = .ok (.istore_n 3, 1) := by decide +kernel
theorem dX11_damp_55 : decode cX11_damp 55 = .ok (.aload_n 0, 1) := by decide +kernel
theorem dX11_damp_56 : decode cX11_damp 56 = .ok (.getfield 35, 3) := by decide +kernel
theorem dX11_damp_59 : decode cX11_damp 59 = .ok (.getfield 56, 3) := by decide +kernel
theorem dX11_damp_62 : decode cX11_damp 62 = .ok (.getfield 157, 3) := by decide +kernel
theorem dX11_damp_65 : decode cX11_damp 65 = .ok (.iload_n 1, 1) := by decide +kernel
theorem dX11_damp_66 : decode cX11_damp 66 = .ok (.iload_n 2, 1) := by decide +kernel
theorem dX11_damp_67 : decode cX11_damp 67 = .ok (.iastore, 1) := by decide +kernel
theorem dX11_damp_68 : decode cX11_damp 68 = .ok (.iload_n 3, 1) := by decide +kernel
theorem dX11_damp_69 : decode cX11_damp 69 = .ok (.ireturn, 1) := by decide +kernel
theorem dX11_put_0 : decode cX11_put 0 = .ok (.aload_n 0, 1) := by decide +kernel
theorem dX11_put_1 : decode cX11_put 1 = .ok (.getfield 26, 3) := by decide +kernel
theorem dX11_put_4 : decode cX11_put 4 = .ok (.iload_n 1, 1) := by decide +kernel
theorem dX11_put_5 : decode cX11_put 5 = .ok (.invokevirtual 163, 3) := by decide +kernel
theorem dX11_put_8 : decode cX11_put 8 = .ok (.ifCond .eq 17, 3) := by decide +kernel
theorem dX11_put_11 : decode cX11_put 11 = .ok (.aload_n 0, 1) := by decide +kernel
theorem dX11_put_12 : decode cX11_put 12 = .ok (.getfield 35, 3) := by decide +kernel
theorem dX11_put_15 : decode cX11_put 15 = .ok (.getfield 56, 3) := by decide +kernel
theorem dX11_put_18 : decode cX11_put 18 = .ok (.iload_n 2, 1) := by decide +kernel
theorem dX11_put_19 : decode cX11_put 19 = .ok (.invokevirtual 147, 3) := by decide +kernel
theorem dX11_put_22 : decode cX11_put 22 = .ok (.ifCond .ne 5, 3) := by decide +kernel
theorem dX11_put_25 : decode cX11_put 25 = .ok (.iconst (-1), 1) := by decide +kernel
theorem dX11_put_26 : decode cX11_put 26 = .ok (.ireturn, 1) := by decide +kernel
theorem dX11_put_27 : decode cX11_put 27 = .ok (.aload_n 0, 1) := by decide +kernel
theorem dX11_put_28 : decode cX11_put 28 = .ok (.getfield 35, 3) := by decide +kernel
theorem dX11_put_31 : decode cX11_put 31 = .ok (.getfield 134, 3) := by decide +kernel
theorem dX11_put_34 : decode cX11_put 34 = .ok (.getfield 185, 3) := by decide +kernel
theorem dX11_put_37 : decode cX11_put 37 = .ok (.iload_n 1, 1) := by decide +kernel
theorem dX11_put_38 : decode cX11_put 38 = .ok (.iaload, 1) := by decide +kernel
theorem dX11_put_39 : decode cX11_put 39 = .ok (.ifCond .eq 6, 3) := by decide +kernel
theorem dX11_put_42 : decode cX11_put 42 = .ok (.bipush (-3), 2) := by decide +kernel
theorem dX11_put_44 : decode cX11_put 44 = .ok (.ireturn, 1) := by decide +kernel
theorem dX11_put_45 : decode cX11_put 45 = .ok (.aload_n 0, 1) := by decide +kernel
theorem dX11_put_46 : decode cX11_put 46 = .ok (.getfield 35, 3) := by decide +kernel
theorem dX11_put_49 : decode cX11_put 49 = .ok (.getfield 134, 3) := by decide +kernel
theorem dX11_put_52 : decode cX11_put 52 = .ok (.getfield 164, 3) := by decide +kernel
theorem dX11_put_55 : decode cX11_put 55 = .ok (.iload_n 1, 1) := by decide +kernel
theorem dX11_put_56 : decode cX11_put 56 = .ok (.iaload, 1) := by decide +kernel
theorem dX11_put_57 : decode cX11_put 57 = .ok (.istore_n 3, 1) := by decide +kernel
theorem dX11_put_58 : decode cX11_put 58 = .ok (.aload_n 0, 1) := by decide +kernel
theorem dX11_put_59 : decode cX11_put 59 = .ok (.getfield 35, 3) := by decide +kernel
theorem dX11_put_62 : decode cX11_put 62 = .ok (.getfield 134, 3) := by decide +kernel
theorem dX11_put_65 : decode cX11_put 65 = .ok (.getfield 164, 3) := by decide +kernel
theorem dX11_put_68 : decode cX11_put 68 = .ok (.iload_n 1, 1) := by decide +kernel
theorem dX11_put_69 : decode cX11_put 69 = .ok (.iload_n 2, 1) := by decide +kernel
theorem dX11_put_70 : decode cX11_put 70 = .ok (.iastore, 1) := by decide +kernel
theorem dX11_put_71 : decode cX11_put 71 = .ok (.iload_n 3, 1) := by decide +kernel
theorem dX11_put_72 : decode cX11_put 72 = .ok (.ireturn, 1) := by decide +kernel
theorem dX11_quarter_0 : decode cX11_quarter 0 = .ok (.iload_n 1, 1) := by decide +kernel
theorem dX11_quarter_1 : decode cX11_quarter 1 = .ok (.invokestatic 188, 3) := by decide +kernel
theorem dX11_quarter_4 : decode cX11_quarter 4 = .ok (.ifCond .ne 6, 3) := by decide +kernel
theorem dX11_quarter_7 : decode cX11_quarter 7 = .ok (.bipush (-2), 2) := by decide +kernel
theorem dX11_quarter_9 : decode cX11_quarter 9 = .ok (.ireturn, 1) := by decide +kernel
theorem dX11_quarter_10 : decode cX11_quarter 10 = .ok (.aload_n 0, 1) := by decide +kernel
theorem dX11_quarter_11 : decode cX11_quarter 11 = .ok (.getfield 42, 3) := by decide +kernel
theorem dX11_quarter_14 : decode cX11_quarter 14 = .ok (.aload_n 0, 1) := by decide +kernel
theorem dX11_quarter_15 : decode cX11_quarter 15 = .ok (.getfield 35, 3) := by decide +kernel
theorem dX11_quarter_18 : decode cX11_quarter 18 = .ok (.invokevirtual 191, 3) := by decide +kernel
theorem dX11_quarter_21 : decode cX11_quarter 21 = .ok (.aload_n 0, 1) := by decide +kernel
theorem dX11_quarter_22 : decode cX11_quarter 22 = .ok (.getfield 35, 3) := by decide +kernel
theorem dX11_quarter_25 : decode cX11_quarter 25 = .ok (.iload_n 1, 1) := by decide +kernel
theorem dX11_quarter_26 : decode cX11_quarter 26 = .ok (.invokevirtual 194, 3) := by decide +kernel
theorem dX11_quarter_29 : decode cX11_quarter 29 = .ok (.ireturn, 1) := by decide +kernel
theorem dX11_undo_0 : decode cX11_undo 0 = .ok (.aload_n 0, 1) := by decide +kernel
theorem dX11_undo_1 : decode cX11_undo 1 = .ok (.getfield 42, 3) := by decide +kernel
theorem dX11_undo_4 : decode cX11_undo 4 = .ok (.invokevirtual 125, 3) := by decide +kernel
theorem dX11_undo_7 : decode cX11_undo 7 = .ok (.ifCond .ne 6, 3) := by decide +kernel
theorem dX11_undo_10 : decode cX11_undo 10 = .ok (.bipush (-3), 2) := by decide +kernel
theorem dX11_undo_12 : decode cX11_undo 12 = .ok (.ireturn, 1) := by decide +kernel
theorem dX11_undo_13 : decode cX11_undo 13 = .ok (.aload_n 0, 1) := by decide +kernel
theorem dX11_undo_14 : decode cX11_undo 14 = .ok (.getfield 42, 3) := by decide +kernel
theorem dX11_undo_17 : decode cX11_undo 17 = .ok (.aload_n 0, 1) := by decide +kernel
theorem dX11_undo_18 : decode cX11_undo 18 = .ok (.getfield 35, 3) := by decide +kernel
theorem dX11_undo_21 : decode cX11_undo 21 = .ok (.invokevirtual 197, 3) := by decide +kernel
theorem dX11_undo_24 : decode cX11_undo 24 = .ok (.ireturn, 1) := by decide +kernel
theorem dX11_warm_0 : decode cX11_warm 0 = .ok (.aload_n 0, 1) := by decide +kernel
theorem dX11_warm_1 : decode cX11_warm 1 = .ok (.getfield 35, 3) := by decide +kernel
theorem dX11_warm_4 : decode cX11_warm 4 = .ok (.getfield 56, 3) := by decide +kernel
theorem dX11_warm_7 : decode cX11_warm 7 = .ok (.iload_n 1, 1) := by decide +kernel
theorem dX11_warm_8 : decode cX11_warm 8 = .ok (.invokevirtual 147, 3) := by decide +kernel
theorem dX11_warm_11 : decode cX11_warm 11 = .ok (.ifCond .ne 5, 3) := by decide +kernel
theorem dX11_warm_14 : decode cX11_warm 14 = .ok (.iconst (-1), 1) := by decide +kernel
theorem dX11_warm_15 : decode cX11_warm 15 = .ok (.ireturn, 1) := by decide +kernel
theorem dX11_warm_16 : decode cX11_warm 16 = .ok (.iload_n 2, 1) := by decide +kernel
theorem dX11_warm_17 : decode cX11_warm 17 = .ok (.bipush 9, 2) := by decide +kernel
theorem dX11_warm_19 : decode cX11_warm 19 = .ok (.invokestatic 201, 3) := by decide +kernel
theorem dX11_warm_22 : decode cX11_warm 22 = .ok (.ifCond .eq 10, 3) := by decide +kernel
theorem dX11_warm_25 : decode cX11_warm 25 = .ok (.iload_n 3, 1) := by decide +kernel
theorem dX11_warm_26 : decode cX11_warm 26 = .ok (.invokestatic 188, 3) := by decide +kernel
theorem dX11_warm_29 : decode cX11_warm 29 = .ok (.ifCond .ne 6, 3) := by decide +kernel
theorem dX11_warm_32 : decode cX11_warm 32 = .ok (.bipush (-2), 2) := by decide +kernel
theorem dX11_warm_34 : decode cX11_warm 34 = .ok (.ireturn, 1) := by decide +kernel
theorem dX11_warm_35 : decode cX11_warm 35 = .ok (.aload_n 0, 1) := by decide +kernel
theorem dX11_warm_36 : decode cX11_warm 36 = .ok (.getfield 72, 3) := by decide +kernel
theorem dX11_warm_39 : decode cX11_warm 39 = .ok (.iload_n 1, 1) := by decide +kernel
theorem dX11_warm_40 : decode cX11_warm 40 = .ok (.iload_n 2, 1) := by decide +kernel
theorem dX11_warm_41 : decode cX11_warm 41 = .ok (.iload_n 3, 1) := by decide +kernel
theorem dX11_warm_42 : decode cX11_warm 42 = .ok (.invokevirtual 205, 3) := by decide +kernel
theorem dX11_warm_45 : decode cX11_warm 45 = .ok (.ireturn, 1) := by decide +kernel
theorem dX11_then_0 : decode cX11_then 0 = .ok (.aload_n 0, 1) := by decide +kernel
theorem dX11_then_1 : decode cX11_then 1 = .ok (.getfield 26, 3) := by decide +kernel
theorem dX11_then_4 : decode cX11_then 4 = .ok (.iload_n 1, 1) := by decide +kernel
theorem dX11_then_5 : decode cX11_then 5 = .ok (.invokevirtual 163, 3) := by decide +kernel
theorem dX11_then_8 : decode cX11_then 8 = .ok (.ifCond .ne 5, 3) := by decide +kernel
theorem dX11_then_11 : decode cX11_then 11 = .ok (.iconst (-1), 1) := by decide +kernel
theorem dX11_then_12 : decode cX11_then 12 = .ok (.ireturn, 1) := by decide +kernel
theorem dX11_then_13 : decode cX11_then 13 = .ok (.iload_n 2, 1) := by decide +kernel
theorem dX11_then_14 : decode cX11_then 14 = .ok (.bipush 9, 2) := by decide +kernel
theorem dX11_then_16 : decode cX11_then 16 = .ok (.invokestatic 201, 3) := by decide +kernel
theorem dX11_then_19 : decode cX11_then 19 = .ok (.ifCond .eq 10, 3) := by decide +kernel
theorem dX11_then_22 : decode cX11_then 22 = .ok (.iload_n 3, 1) := by decide +kernel
theorem dX11_then_23 : decode cX11_then 23 = .ok (.invokestatic 188, 3) := by decide +kernel
theorem dX11_then_26 : decode cX11_then 26 = .ok (.ifCond .ne 6, 3) := by decide +kernel
theorem dX11_then_29 : decode cX11_then 29 = .ok (.bipush (-2), 2) := by decide +kernel
theorem dX11_then_31 : decode cX11_then 31 = .ok (.ireturn, 1) := by decide +kernel
theorem dX11_then_32 : decode cX11_then 32 = .ok (.aload_n 0, 1) := by decide +kernel
theorem dX11_then_33 : decode cX11_then 33 = .ok (.getfield 72, 3) := by decide +kernel
theorem dX11_then_36 : decode cX11_then 36 = .ok (.iload_n 1, 1) := by decide +kernel
theorem dX11_then_37 : decode cX11_then 37 = .ok (.iload_n 2, 1) := by decide +kernel
theorem dX11_then_38 : decode cX11_then 38 = .ok (.iload_n 3, 1) := by decide +kernel
theorem dX11_then_39 : decode cX11_then 39 = .ok (.invokevirtual 209, 3) := by decide +kernel
theorem dX11_then_42 : decode cX11_then 42 = .ok (.ireturn, 1) := by decide +kernel
theorem dX11_least_0 : decode cX11_least 0 = .ok (.aload_n 0, 1) := by decide +kernel
theorem dX11_least_1 : decode cX11_least 1 = .ok (.getfield 26, 3) := by decide +kernel
theorem dX11_least_4 : decode cX11_least 4 = .ok (.iload_n 1, 1) := by decide +kernel
theorem dX11_least_5 : decode cX11_least 5 = .ok (.invokevirtual 212, 3) := by decide +kernel
theorem dX11_least_8 : decode cX11_least 8 = .ok (.ifCond .eq 11, 3) := by decide +kernel
theorem dX11_least_11 : decode cX11_least 11 = .ok (.iload_n 2, 1) := by decide +kernel
theorem dX11_least_12 : decode cX11_least 12 = .ok (.iconst 3, 1) := by decide +kernel
theorem dX11_least_13 : decode cX11_least 13 = .ok (.invokestatic 201, 3) := by decide +kernel
theorem dX11_least_16 : decode cX11_least 16 = .ok (.ifCond .ne 6, 3) := by decide +kernel
theorem dX11_least_19 : decode cX11_least 19 = .ok (.bipush (-2), 2) := by decide +kernel
theorem dX11_least_21 : decode cX11_least 21 = .ok (.ireturn, 1) := by decide +kernel
theorem dX11_least_22 : decode cX11_least 22 = .ok (.aload_n 0, 1) := by decide +kernel
theorem dX11_least_23 : decode cX11_least 23 = .ok (.getfield 81, 3) := by decide +kernel
theorem dX11_least_26 : decode cX11_least 26 = .ok (.iload_n 1, 1) := by decide +kernel
theorem dX11_least_27 : decode cX11_least 27 = .ok (.iload_n 2, 1) := by decide +kernel
theorem dX11_least_28 : decode cX11_least 28 = .ok (.invokevirtual 215, 3) := by decide +kernel
theorem dX11_least_31 : decode cX11_least 31 = .ok (.ireturn, 1) := by decide +kernel
theorem dX11_leastAt_0 : decode cX11_leastAt 0 = .ok (.aload_n 0, 1) := by decide +kernel
theorem dX11_leastAt_1 : decode cX11_leastAt 1 = .ok (.getfield 26, 3) := by decide +kernel
theorem dX11_leastAt_4 : decode cX11_leastAt 4 = .ok (.iload_n 1, 1) := by decide +kernel
theorem dX11_leastAt_5 : decode cX11_leastAt 5 = .ok (.invokevirtual 212, 3) := by decide +kernel
theorem dX11_leastAt_8 : decode cX11_leastAt 8 = .ok (.ifCond .eq 11, 3) := by decide +kernel
theorem dX11_leastAt_11 : decode cX11_leastAt 11 = .ok (.iload_n 2, 1) := by decide +kernel
theorem dX11_leastAt_12 : decode cX11_leastAt 12 = .ok (.iconst 3, 1) := by decide +kernel
theorem dX11_leastAt_13 : decode cX11_leastAt 13 = .ok (.invokestatic 201, 3) := by decide +kernel
theorem dX11_leastAt_16 : decode cX11_leastAt 16 = .ok (.ifCond .ne 6, 3) := by decide +kernel
theorem dX11_leastAt_19 : decode cX11_leastAt 19 = .ok (.bipush (-2), 2) := by decide +kernel
theorem dX11_leastAt_21 : decode cX11_leastAt 21 = .ok (.ireturn, 1) := by decide +kernel
theorem dX11_leastAt_22 : decode cX11_leastAt 22 = .ok (.iload_n 3, 1) := by decide +kernel
theorem dX11_leastAt_23 : decode cX11_leastAt 23 = .ok (.ifCond .lt 8, 3) := by decide +kernel
theorem dX11_leastAt_26 : decode cX11_leastAt 26 = .ok (.iload_n 3, 1) := by decide +kernel
theorem dX11_leastAt_27 : decode cX11_leastAt 27 = .ok (.iload_n 2, 1) := by decide +kernel
theorem dX11_leastAt_28 : decode cX11_leastAt 28 = .ok (.if_icmp .lt 6, 3) := by decide +kernel
theorem dX11_leastAt_31 : decode cX11_leastAt 31 = .ok (.bipush (-9), 2) := by decide +kernel
theorem dX11_leastAt_33 : decode cX11_leastAt 33 = .ok (.ireturn, 1) := by decide +kernel
theorem dX11_leastAt_34 : decode cX11_leastAt 34 = .ok (.aload_n 0, 1) := by decide +kernel
theorem dX11_leastAt_35 : decode cX11_leastAt 35 = .ok (.getfield 81, 3) := by decide +kernel
theorem dX11_leastAt_38 : decode cX11_leastAt 38 = .ok (.iload_n 1, 1) := by decide +kernel
theorem dX11_leastAt_39 : decode cX11_leastAt 39 = .ok (.iload_n 2, 1) := by decide +kernel
theorem dX11_leastAt_40 : decode cX11_leastAt 40 = .ok (.invokevirtual 215, 3) := by decide +kernel
theorem dX11_leastAt_43 : decode cX11_leastAt 43 = .ok (.bipush (-9), 2) := by decide +kernel
theorem dX11_leastAt_45 : decode cX11_leastAt 45 = .ok (.if_icmp .ne 8, 3) := by decide +kernel
theorem dX11_leastAt_48 : decode cX11_leastAt 48 = .ok (.bipush (-9), 2) := by decide +kernel
theorem dX11_leastAt_50 : decode cX11_leastAt 50 = .ok (.goto 12, 3) := by decide +kernel
theorem dX11_leastAt_53 : decode cX11_leastAt 53 = .ok (.aload_n 0, 1) := by decide +kernel
theorem dX11_leastAt_54 : decode cX11_leastAt 54 = .ok (.getfield 81, 3) := by decide +kernel
theorem dX11_leastAt_57 : decode cX11_leastAt 57 = .ok (.getfield 219, 3) := by decide +kernel
theorem dX11_leastAt_60 : decode cX11_leastAt 60 = .ok (.iload_n 3, 1) := by decide +kernel
theorem dX11_leastAt_61 : decode cX11_leastAt 61 = .ok (.iaload, 1) := by decide +kernel
theorem dX11_leastAt_62 : decode cX11_leastAt 62 = .ok (.ireturn, 1) := by decide +kernel
theorem dX11_floors_0 : decode cX11_floors 0 = .ok (.iload_n 1, 1) := by decide +kernel
theorem dX11_floors_1 : decode cX11_floors 1 = .ok (.bipush 9, 2) := by decide +kernel
theorem dX11_floors_3 : decode cX11_floors 3 = .ok (.invokestatic 201, 3) := by decide +kernel
theorem dX11_floors_6 : decode cX11_floors 6 = .ok (.ifCond .eq 10, 3) := by decide +kernel
theorem dX11_floors_9 : decode cX11_floors 9 = .ok (.iload_n 2, 1) := by decide +kernel
theorem dX11_floors_10 : decode cX11_floors 10 = .ok (.invokestatic 188, 3) := by decide +kernel
theorem dX11_floors_13 : decode cX11_floors 13 = .ok (.ifCond .ne 6, 3) := by decide +kernel
theorem dX11_floors_16 : decode cX11_floors 16 = .ok (.bipush (-2), 2) := by decide +kernel
theorem dX11_floors_18 : decode cX11_floors 18 = .ok (.ireturn, 1) := by decide +kernel
theorem dX11_floors_19 : decode cX11_floors 19 = .ok (.aload_n 0, 1) := by decide +kernel
theorem dX11_floors_20 : decode cX11_floors 20 = .ok (.getfield 88, 3) := by decide +kernel
theorem dX11_floors_23 : decode cX11_floors 23 = .ok (.iload_n 1, 1) := by decide +kernel
theorem dX11_floors_24 : decode cX11_floors 24 = .ok (.iload_n 2, 1) := by decide +kernel
theorem dX11_floors_25 : decode cX11_floors 25 = .ok (.invokevirtual 222, 3) := by decide +kernel
theorem dX11_floors_28 : decode cX11_floors 28 = .ok (.ireturn, 1) := by decide +kernel
theorem dX11_floorAt_0 : decode cX11_floorAt 0 = .ok (.aload_n 0, 1) := by decide +kernel
theorem dX11_floorAt_1 : decode cX11_floorAt 1 = .ok (.getfield 26, 3) := by decide +kernel
theorem dX11_floorAt_4 : decode cX11_floorAt 4 = .ok (.iload_n 1, 1) := by decide +kernel
theorem dX11_floorAt_5 : decode cX11_floorAt 5 = .ok (.invokevirtual 163, 3) := by decide +kernel
theorem dX11_floorAt_8 : decode cX11_floorAt 8 = .ok (.ifCond .ne 5, 3) := by decide +kernel
theorem dX11_floorAt_11 : decode cX11_floorAt 11 = .ok (.iconst (-1), 1) := by decide +kernel
theorem dX11_floorAt_12 : decode cX11_floorAt 12 = .ok (.ireturn, 1) := by decide +kernel
theorem dX11_floorAt_13 : decode cX11_floorAt 13 = .ok (.iload_n 2, 1) := by decide +kernel
theorem dX11_floorAt_14 : decode cX11_floorAt 14 = .ok (.bipush 9, 2) := by decide +kernel
theorem dX11_floorAt_16 : decode cX11_floorAt 16 = .ok (.invokestatic 201, 3) := by decide +kernel
theorem dX11_floorAt_19 : decode cX11_floorAt 19 = .ok (.ifCond .eq 10, 3) := by decide +kernel
theorem dX11_floorAt_22 : decode cX11_floorAt 22 = .ok (.iload_n 3, 1) := by decide +kernel
theorem dX11_floorAt_23 : decode cX11_floorAt 23 = .ok (.invokestatic 188, 3) := by decide +kernel
theorem dX11_floorAt_26 : decode cX11_floorAt 26 = .ok (.ifCond .ne 6, 3) := by decide +kernel
theorem dX11_floorAt_29 : decode cX11_floorAt 29 = .ok (.bipush (-2), 2) := by decide +kernel
theorem dX11_floorAt_31 : decode cX11_floorAt 31 = .ok (.ireturn, 1) := by decide +kernel
theorem dX11_floorAt_32 : decode cX11_floorAt 32 = .ok (.aload_n 0, 1) := by decide +kernel
theorem dX11_floorAt_33 : decode cX11_floorAt 33 = .ok (.getfield 88, 3) := by decide +kernel
theorem dX11_floorAt_36 : decode cX11_floorAt 36 = .ok (.iload_n 2, 1) := by decide +kernel
theorem dX11_floorAt_37 : decode cX11_floorAt 37 = .ok (.iload_n 3, 1) := by decide +kernel
theorem dX11_floorAt_38 : decode cX11_floorAt 38 = .ok (.invokevirtual 222, 3) := by decide +kernel
theorem dX11_floorAt_41 : decode cX11_floorAt 41 = .ok (.pop, 1) := by decide +kernel
theorem dX11_floorAt_42 : decode cX11_floorAt 42 = .ok (.aload_n 0, 1) := by decide +kernel
theorem dX11_floorAt_43 : decode cX11_floorAt 43 = .ok (.getfield 88, 3) := by decide +kernel
theorem dX11_floorAt_46 : decode cX11_floorAt 46 = .ok (.getfield 223, 3) := by decide +kernel
theorem dX11_floorAt_49 : decode cX11_floorAt 49 = .ok (.iload_n 1, 1) := by decide +kernel
theorem dX11_floorAt_50 : decode cX11_floorAt 50 = .ok (.iaload, 1) := by decide +kernel
theorem dX11_floorAt_51 : decode cX11_floorAt 51 = .ok (.ireturn, 1) := by decide +kernel
theorem dX11_openFor_0 : decode cX11_openFor 0 = .ok (.aload_n 0, 1) := by decide +kernel
theorem dX11_openFor_1 : decode cX11_openFor 1 = .ok (.getfield 35, 3) := by decide +kernel
theorem dX11_openFor_4 : decode cX11_openFor 4 = .ok (.getfield 56, 3) := by decide +kernel
theorem dX11_openFor_7 : decode cX11_openFor 7 = .ok (.iload_n 1, 1) := by decide +kernel
theorem dX11_openFor_8 : decode cX11_openFor 8 = .ok (.invokevirtual 147, 3) := by decide +kernel
theorem dX11_openFor_11 : decode cX11_openFor 11 = .ok (.ifCond .eq 14, 3) := by decide +kernel
theorem dX11_openFor_14 : decode cX11_openFor 14 = .ok (.aload_n 0, 1) := by decide +kernel
theorem dX11_openFor_15 : decode cX11_openFor 15 = .ok (.getfield 26, 3) := by decide +kernel
theorem dX11_openFor_18 : decode cX11_openFor 18 = .ok (.iload_n 2, 1) := by decide +kernel
theorem dX11_openFor_19 : decode cX11_openFor 19 = .ok (.invokevirtual 163, 3) := by decide +kernel
theorem dX11_openFor_22 : decode cX11_openFor 22 = .ok (.ifCond .ne 5, 3) := by decide +kernel
theorem dX11_openFor_25 : decode cX11_openFor 25 = .ok (.iconst (-1), 1) := by decide +kernel
theorem dX11_openFor_26 : decode cX11_openFor 26 = .ok (.ireturn, 1) := by decide +kernel
theorem dX11_openFor_27 : decode cX11_openFor 27 = .ok (.iload_n 3, 1) := by decide +kernel
theorem dX11_openFor_28 : decode cX11_openFor 28 = .ok (.bipush 9, 2) := by decide +kernel
theorem dX11_openFor_30 : decode cX11_openFor 30 = .ok (.invokestatic 201, 3) := by decide +kernel
theorem dX11_openFor_33 : decode cX11_openFor 33 = .ok (.ifCond .eq 11, 3) := by decide +kernel
theorem dX11_openFor_36 : decode cX11_openFor 36 = .ok (.iload 4, 2) := by decide +kernel
theorem dX11_openFor_38 : decode cX11_openFor 38 = .ok (.invokestatic 188, 3) := by decide +kernel
theorem dX11_openFor_41 : decode cX11_openFor 41 = .ok (.ifCond .ne 6, 3) := by decide +kernel
theorem dX11_openFor_44 : decode cX11_openFor 44 = .ok (.bipush (-2), 2) := by decide +kernel
theorem dX11_openFor_46 : decode cX11_openFor 46 = .ok (.ireturn, 1) := by decide +kernel
theorem dX11_openFor_47 : decode cX11_openFor 47 = .ok (.aload_n 0, 1) := by decide +kernel
theorem dX11_openFor_48 : decode cX11_openFor 48 = .ok (.getfield 72, 3) := by decide +kernel
theorem dX11_openFor_51 : decode cX11_openFor 51 = .ok (.iload_n 1, 1) := by decide +kernel
theorem dX11_openFor_52 : decode cX11_openFor 52 = .ok (.iload_n 2, 1) := by decide +kernel
theorem dX11_openFor_53 : decode cX11_openFor 53 = .ok (.iload_n 3, 1) := by decide +kernel
theorem dX11_openFor_54 : decode cX11_openFor 54 = .ok (.iload 4, 2) := by decide +kernel
theorem dX11_openFor_56 : decode cX11_openFor 56 = .ok (.invokevirtual 224, 3) := by decide +kernel
theorem dX11_openFor_59 : decode cX11_openFor 59 = .ok (.ireturn, 1) := by decide +kernel
theorem dX11_gales_0 : decode cX11_gales 0 = .ok (.aload_n 0, 1) := by decide +kernel
theorem dX11_gales_1 : decode cX11_gales 1 = .ok (.getfield 26, 3) := by decide +kernel
theorem dX11_gales_4 : decode cX11_gales 4 = .ok (.iload_n 1, 1) := by decide +kernel
theorem dX11_gales_5 : decode cX11_gales 5 = .ok (.invokevirtual 163, 3) := by decide +kernel
theorem dX11_gales_8 : decode cX11_gales 8 = .ok (.ifCond .ne 7, 3) := by decide +kernel
theorem dX11_gales_11 : decode cX11_gales 11 = .ok (.ldc2_w 228, 3) := by decide +kernel
theorem dX11_gales_14 : decode cX11_gales 14 = .ok (.lreturn, 1) := by decide +kernel
theorem dX11_gales_15 : decode cX11_gales 15 = .ok (.iload_n 2, 1) := by decide +kernel
theorem dX11_gales_16 : decode cX11_gales 16 = .ok (.bipush 8, 2) := by decide +kernel
theorem dX11_gales_18 : decode cX11_gales 18 = .ok (.invokestatic 201, 3) := by decide +kernel
theorem dX11_gales_21 : decode cX11_gales 21 = .ok (.ifCond .eq 22, 3) := by decide +kernel
theorem dX11_gales_24 : decode cX11_gales 24 = .ok (.iload_n 3, 1) := by decide +kernel
theorem dX11_gales_25 : decode cX11_gales 25 = .ok (.invokestatic 188, 3) := by decide +kernel
theorem dX11_gales_28 : decode cX11_gales 28 = .ok (.ifCond .eq 15, 3) := by decide +kernel
theorem dX11_gales_31 : decode cX11_gales 31 = .ok (.iload 4, 2) := by decide +kernel
theorem dX11_gales_33 : decode cX11_gales 33 = .ok (.ifCond .lt 10, 3) := by decide +kernel
theorem dX11_gales_36 : decode cX11_gales 36 = .ok (.iload 4, 2) := by decide +kernel
theorem dX11_gales_38 : decode cX11_gales 38 = .ok (.bipush 10, 2) := by decide +kernel
theorem dX11_gales_40 : decode cX11_gales 40 = .ok (.if_icmp .le 7, 3) := by decide +kernel
theorem dX11_gales_43 : decode cX11_gales 43 = .ok (.ldc2_w 230, 3) := by decide +kernel
theorem dX11_gales_46 : decode cX11_gales 46 = .ok (.lreturn, 1) := by decide +kernel
theorem dX11_gales_47 : decode cX11_gales 47 = .ok (.aload_n 0, 1) := by decide +kernel
theorem dX11_gales_48 : decode cX11_gales 48 = .ok (.getfield 72, 3) := by decide +kernel
theorem dX11_gales_51 : decode cX11_gales 51 = .ok (.iload_n 1, 1) := by decide +kernel
theorem dX11_gales_52 : decode cX11_gales 52 = .ok (.iload_n 2, 1) := by decide +kernel
theorem dX11_gales_53 : decode cX11_gales 53 = .ok (.iload_n 3, 1) := by decide +kernel
theorem dX11_gales_54 : decode cX11_gales 54 = .ok (.iload 4, 2) := by decide +kernel
theorem dX11_gales_56 : decode cX11_gales 56 = .ok (.invokevirtual 232, 3) := by decide +kernel
theorem dX11_gales_59 : decode cX11_gales 59 = .ok (.bipush 10, 2) := by decide +kernel
theorem dX11_gales_61 : decode cX11_gales 61 = .ok (.iload_n 2, 1) := by decide +kernel
theorem dX11_gales_62 : decode cX11_gales 62 = .ok (.invokestatic 236, 3) := by decide +kernel
theorem dX11_gales_65 : decode cX11_gales 65 = .ok (.iload 5, 2) := by decide +kernel
theorem dX11_gales_67 : decode cX11_gales 67 = .ok (.invokestatic 240, 3) := by decide +kernel
theorem dX11_gales_70 : decode cX11_gales 70 = .ok (.lreturn, 1) := by decide +kernel
theorem dX11_cone_0 : decode cX11_cone 0 = .ok (.aload_n 0, 1) := by decide +kernel
theorem dX11_cone_1 : decode cX11_cone 1 = .ok (.getfield 35, 3) := by decide +kernel
theorem dX11_cone_4 : decode cX11_cone 4 = .ok (.getfield 56, 3) := by decide +kernel
theorem dX11_cone_7 : decode cX11_cone 7 = .ok (.iload_n 1, 1) := by decide +kernel
theorem dX11_cone_8 : decode cX11_cone 8 = .ok (.invokevirtual 147, 3) := by decide +kernel
theorem dX11_cone_11 : decode cX11_cone 11 = .ok (.ifCond .ne 5, 3) := by decide +kernel
theorem dX11_cone_14 : decode cX11_cone 14 = .ok (.iconst (-1), 1) := by decide +kernel
theorem dX11_cone_15 : decode cX11_cone 15 = .ok (.ireturn, 1) := by decide +kernel
theorem dX11_cone_16 : decode cX11_cone 16 = .ok (.iload_n 2, 1) := by decide +kernel
theorem dX11_cone_17 : decode cX11_cone 17 = .ok (.bipush 9, 2) := by decide +kernel
theorem dX11_cone_19 : decode cX11_cone 19 = .ok (.invokestatic 201, 3) := by decide +kernel
theorem dX11_cone_22 : decode cX11_cone 22 = .ok (.ifCond .eq 22, 3) := by decide +kernel
theorem dX11_cone_25 : decode cX11_cone 25 = .ok (.iload_n 3, 1) := by decide +kernel
theorem dX11_cone_26 : decode cX11_cone 26 = .ok (.invokestatic 188, 3) := by decide +kernel
theorem dX11_cone_29 : decode cX11_cone 29 = .ok (.ifCond .eq 15, 3) := by decide +kernel
theorem dX11_cone_32 : decode cX11_cone 32 = .ok (.iload 4, 2) := by decide +kernel
theorem dX11_cone_34 : decode cX11_cone 34 = .ok (.ifCond .lt 10, 3) := by decide +kernel
theorem dX11_cone_37 : decode cX11_cone 37 = .ok (.iload 4, 2) := by decide +kernel
theorem dX11_cone_39 : decode cX11_cone 39 = .ok (.bipush 99, 2) := by decide +kernel
theorem dX11_cone_41 : decode cX11_cone 41 = .ok (.if_icmp .le 6, 3) := by decide +kernel
theorem dX11_cone_44 : decode cX11_cone 44 = .ok (.bipush (-2), 2) := by decide +kernel
theorem dX11_cone_46 : decode cX11_cone 46 = .ok (.ireturn, 1) := by decide +kernel
theorem dX11_cone_47 : decode cX11_cone 47 = .ok (.aload_n 0, 1) := by decide +kernel
theorem dX11_cone_48 : decode cX11_cone 48 = .ok (.getfield 63, 3) := by decide +kernel
theorem dX11_cone_51 : decode cX11_cone 51 = .ok (.invokevirtual 144, 3) := by decide +kernel
theorem dX11_cone_54 : decode cX11_cone 54 = .ok (.bipush 8, 2) := by decide +kernel
theorem dX11_cone_56 : decode cX11_cone 56 = .ok (.if_icmp .lt 6, 3) := by decide +kernel
theorem dX11_cone_59 : decode cX11_cone 59 = .ok (.bipush (-4), 2) := by decide +kernel
theorem dX11_cone_61 : decode cX11_cone 61 = .ok (.ireturn, 1) := by decide +kernel
theorem dX11_cone_62 : decode cX11_cone 62 = .ok (.aload_n 0, 1) := by decide +kernel
theorem dX11_cone_63 : decode cX11_cone 63 = .ok (.getfield 63, 3) := by decide +kernel
theorem dX11_cone_66 : decode cX11_cone 66 = .ok (.iload_n 1, 1) := by decide +kernel
theorem dX11_cone_67 : decode cX11_cone 67 = .ok (.iload_n 2, 1) := by decide +kernel
theorem dX11_cone_68 : decode cX11_cone 68 = .ok (.iload_n 3, 1) := by decide +kernel
theorem dX11_cone_69 : decode cX11_cone 69 = .ok (.iload 4, 2) := by decide +kernel
theorem dX11_cone_71 : decode cX11_cone 71 = .ok (.iload 5, 2) := by decide +kernel
theorem dX11_cone_73 : decode cX11_cone 73 = .ok (.invokevirtual 244, 3) := by decide +kernel
theorem dX11_cone_76 : decode cX11_cone 76 = .ok (.ireturn, 1) := by decide +kernel
theorem dX11_uncone_0 : decode cX11_uncone 0 = .ok (.aload_n 0, 1) := by decide +kernel
theorem dX11_uncone_1 : decode cX11_uncone 1 = .ok (.getfield 63, 3) := by decide +kernel
theorem dX11_uncone_4 : decode cX11_uncone 4 = .ok (.invokevirtual 247, 3) := by decide +kernel
theorem dX11_uncone_7 : decode cX11_uncone 7 = .ok (.ireturn, 1) := by decide +kernel
theorem dX11_blame_0 : decode cX11_blame 0 = .ok (.aload_n 0, 1) := by decide +kernel
theorem dX11_blame_1 : decode cX11_blame 1 = .ok (.getfield 35, 3) := by decide +kernel
theorem dX11_blame_4 : decode cX11_blame 4 = .ok (.getfield 56, 3) := by decide +kernel
theorem dX11_blame_7 : decode cX11_blame 7 = .ok (.iload_n 1, 1) := by decide +kernel
theorem dX11_blame_8 : decode cX11_blame 8 = .ok (.invokevirtual 147, 3) := by decide +kernel
theorem dX11_blame_11 : decode cX11_blame 11 = .ok (.ifCond .ne 5, 3) := by decide +kernel
theorem dX11_blame_14 : decode cX11_blame 14 = .ok (.iconst (-1), 1) := by decide +kernel
theorem dX11_blame_15 : decode cX11_blame 15 = .ok (.ireturn, 1) := by decide +kernel
theorem dX11_blame_16 : decode cX11_blame 16 = .ok (.aload_n 0, 1) := by decide +kernel
theorem dX11_blame_17 : decode cX11_blame 17 = .ok (.getfield 63, 3) := by decide +kernel
theorem dX11_blame_20 : decode cX11_blame 20 = .ok (.iload_n 1, 1) := by decide +kernel
theorem dX11_blame_21 : decode cX11_blame 21 = .ok (.invokevirtual 248, 3) := by decide +kernel
theorem dX11_blame_24 : decode cX11_blame 24 = .ok (.ireturn, 1) := by decide +kernel
theorem dX11_owed_0 : decode cX11_owed 0 = .ok (.aload_n 0, 1) := by decide +kernel
theorem dX11_owed_1 : decode cX11_owed 1 = .ok (.getfield 35, 3) := by decide +kernel
theorem dX11_owed_4 : decode cX11_owed 4 = .ok (.getfield 56, 3) := by decide +kernel
theorem dX11_owed_7 : decode cX11_owed 7 = .ok (.iload_n 1, 1) := by decide +kernel
theorem dX11_owed_8 : decode cX11_owed 8 = .ok (.invokevirtual 147, 3) := by decide +kernel
theorem dX11_owed_11 : decode cX11_owed 11 = .ok (.ifCond .ne 5, 3) := by decide +kernel
theorem dX11_owed_14 : decode cX11_owed 14 = .ok (.iconst (-1), 1) := by decide +kernel
theorem dX11_owed_15 : decode cX11_owed 15 = .ok (.ireturn, 1) := by decide +kernel
theorem dX11_owed_16 : decode cX11_owed 16 = .ok (.aload_n 0, 1) := by decide +kernel
theorem dX11_owed_17 : decode cX11_owed 17 = .ok (.getfield 35, 3) := by decide +kernel
theorem dX11_owed_20 : decode cX11_owed 20 = .ok (.getfield 56, 3) := by decide +kernel
theorem dX11_owed_23 : decode cX11_owed 23 = .ok (.getfield 150, 3) := by decide +kernel
theorem dX11_owed_26 : decode cX11_owed 26 = .ok (.iload_n 1, 1) := by decide +kernel
theorem dX11_owed_27 : decode cX11_owed 27 = .ok (.iaload, 1) := by decide +kernel
theorem dX11_owed_28 : decode cX11_owed 28 = .ok (.i2l, 1) := by decide +kernel
theorem dX11_owed_29 : decode cX11_owed 29 = .ok (.aload_n 0, 1) := by decide +kernel
theorem dX11_owed_30 : decode cX11_owed 30 = .ok (.getfield 35, 3) := by decide +kernel
theorem dX11_owed_33 : decode cX11_owed 33 = .ok (.getfield 56, 3) := by decide +kernel
theorem dX11_owed_36 : decode cX11_owed 36 = .ok (.invokevirtual 128, 3) := by decide +kernel
theorem dX11_owed_39 : decode cX11_owed 39 = .ok (.i2l, 1) := by decide +kernel
theorem dX11_owed_40 : decode cX11_owed 40 = .ok (.iload_n 2, 1) := by decide +kernel
theorem dX11_owed_41 : decode cX11_owed 41 = .ok (.invokestatic 240, 3) := by decide +kernel
theorem dX11_owed_44 : decode cX11_owed 44 = .ok (.l2i, 1) := by decide +kernel
theorem dX11_owed_45 : decode cX11_owed 45 = .ok (.ireturn, 1) := by decide +kernel
theorem dX11_keep_0 : decode cX11_keep 0 = .ok (.iload_n 1, 1) := by decide +kernel
theorem dX11_keep_1 : decode cX11_keep 1 = .ok (.ifCond .lt 8, 3) := by decide +kernel
theorem dX11_keep_4 : decode cX11_keep 4 = .ok (.iload_n 1, 1) := by decide +kernel
theorem dX11_keep_5 : decode cX11_keep 5 = .ok (.iconst 2, 1) := by decide +kernel
theorem dX11_keep_6 : decode cX11_keep 6 = .ok (.if_icmp .lt 5, 3) := by decide +kernel
theorem dX11_keep_9 : decode cX11_keep 9 = .ok (.iconst (-1), 1) := by decide +kernel
theorem dX11_keep_10 : decode cX11_keep 10 = .ok (.ireturn, 1) := by decide +kernel
theorem dX11_keep_11 : decode cX11_keep 11 = .ok (.aload_n 0, 1) := by decide +kernel
theorem dX11_keep_12 : decode cX11_keep 12 = .ok (.getfield 46, 3) := by decide +kernel
theorem dX11_keep_15 : decode cX11_keep 15 = .ok (.iload_n 1, 1) := by decide +kernel
theorem dX11_keep_16 : decode cX11_keep 16 = .ok (.aaload, 1) := by decide +kernel
theorem dX11_keep_17 : decode cX11_keep 17 = .ok (.aload_n 0, 1) := by decide +kernel
theorem dX11_keep_18 : decode cX11_keep 18 = .ok (.getfield 35, 3) := by decide +kernel
theorem dX11_keep_21 : decode cX11_keep 21 = .ok (.invokevirtual 251, 3) := by decide +kernel
theorem dX11_keep_24 : decode cX11_keep 24 = .ok (.aload_n 0, 1) := by decide +kernel
theorem dX11_keep_25 : decode cX11_keep 25 = .ok (.getfield 50, 3) := by decide +kernel
theorem dX11_keep_28 : decode cX11_keep 28 = .ok (.iload_n 1, 1) := by decide +kernel
theorem dX11_keep_29 : decode cX11_keep 29 = .ok (.iconst 1, 1) := by decide +kernel
theorem dX11_keep_30 : decode cX11_keep 30 = .ok (.bastore, 1) := by decide +kernel
theorem dX11_keep_31 : decode cX11_keep 31 = .ok (.aload_n 0, 1) := by decide +kernel
theorem dX11_keep_32 : decode cX11_keep 32 = .ok (.getfield 35, 3) := by decide +kernel
theorem dX11_keep_35 : decode cX11_keep 35 = .ok (.getfield 56, 3) := by decide +kernel
theorem dX11_keep_38 : decode cX11_keep 38 = .ok (.invokevirtual 128, 3) := by decide +kernel
theorem dX11_keep_41 : decode cX11_keep 41 = .ok (.ireturn, 1) := by decide +kernel
theorem dX11_again_0 : decode cX11_again 0 = .ok (.iload_n 1, 1) := by decide +kernel
theorem dX11_again_1 : decode cX11_again 1 = .ok (.ifCond .lt 8, 3) := by decide +kernel
theorem dX11_again_4 : decode cX11_again 4 = .ok (.iload_n 1, 1) := by decide +kernel
theorem dX11_again_5 : decode cX11_again 5 = .ok (.iconst 2, 1) := by decide +kernel
theorem dX11_again_6 : decode cX11_again 6 = .ok (.if_icmp .lt 5, 3) := by decide +kernel
theorem dX11_again_9 : decode cX11_again 9 = .ok (.iconst (-1), 1) := by decide +kernel
theorem dX11_again_10 : decode cX11_again 10 = .ok (.ireturn, 1) := by decide +kernel
theorem dX11_again_11 : decode cX11_again 11 = .ok (.aload_n 0, 1) := by decide +kernel
theorem dX11_again_12 : decode cX11_again 12 = .ok (.getfield 50, 3) := by decide +kernel
theorem dX11_again_15 : decode cX11_again 15 = .ok (.iload_n 1, 1) := by decide +kernel
theorem dX11_again_16 : decode cX11_again 16 = .ok (.baload, 1) := by decide +kernel
theorem dX11_again_17 : decode cX11_again 17 = .ok (.ifCond .ne 6, 3) := by decide +kernel
theorem dX11_again_20 : decode cX11_again 20 = .ok (.bipush (-3), 2) := by decide +kernel
theorem dX11_again_22 : decode cX11_again 22 = .ok (.ireturn, 1) := by decide +kernel
theorem dX11_again_23 : decode cX11_again 23 = .ok (.aload_n 0, 1) := by decide +kernel
theorem dX11_again_24 : decode cX11_again 24 = .ok (.getfield 35, 3) := by decide +kernel
theorem dX11_again_27 : decode cX11_again 27 = .ok (.aload_n 0, 1) := by decide +kernel
theorem dX11_again_28 : decode cX11_again 28 = .ok (.getfield 46, 3) := by decide +kernel
theorem dX11_again_31 : decode cX11_again 31 = .ok (.iload_n 1, 1) := by decide +kernel
theorem dX11_again_32 : decode cX11_again 32 = .ok (.aaload, 1) := by decide +kernel
theorem dX11_again_33 : decode cX11_again 33 = .ok (.invokevirtual 251, 3) := by decide +kernel
theorem dX11_again_36 : decode cX11_again 36 = .ok (.aload_n 0, 1) := by decide +kernel
theorem dX11_again_37 : decode cX11_again 37 = .ok (.getfield 42, 3) := by decide +kernel
theorem dX11_again_40 : decode cX11_again 40 = .ok (.invokevirtual 115, 3) := by decide +kernel
theorem dX11_again_43 : decode cX11_again 43 = .ok (.aload_n 0, 1) := by decide +kernel
theorem dX11_again_44 : decode cX11_again 44 = .ok (.getfield 35, 3) := by decide +kernel
theorem dX11_again_47 : decode cX11_again 47 = .ok (.getfield 56, 3) := by decide +kernel
theorem dX11_again_50 : decode cX11_again 50 = .ok (.invokevirtual 128, 3) := by decide +kernel
theorem dX11_again_53 : decode cX11_again 53 = .ok (.ireturn, 1) := by decide +kernel
theorem dX11_isWood_0 : decode cX11_isWood 0 = .ok (.iload_n 0, 1) := by decide +kernel
theorem dX11_isWood_1 : decode cX11_isWood 1 = .ok (.ifCond .lt 13, 3) := by decide +kernel
theorem dX11_isWood_4 : decode cX11_isWood 4 = .ok (.iload_n 0, 1) := by decide +kernel
theorem dX11_isWood_5 : decode cX11_isWood 5 = .ok (.bipush 9, 2) := by decide +kernel
theorem dX11_isWood_7 : decode cX11_isWood 7 = .ok (.if_icmp .gt 7, 3) := by decide +kernel
theorem dX11_isWood_10 : decode cX11_isWood 10 = .ok (.iconst 1, 1) := by decide +kernel
theorem dX11_isWood_11 : decode cX11_isWood 11 = .ok (.goto 4, 3) := by decide +kernel
theorem dX11_isWood_14 : decode cX11_isWood 14 = .ok (.iconst 0, 1) := by decide +kernel
theorem dX11_isWood_15 : decode cX11_isWood 15 = .ok (.ireturn, 1) := by decide +kernel
theorem dX11_isSpan_0 : decode cX11_isSpan 0 = .ok (.iload_n 0, 1) := by decide +kernel
theorem dX11_isSpan_1 : decode cX11_isSpan 1 = .ok (.iconst 1, 1) := by decide +kernel
theorem dX11_isSpan_2 : decode cX11_isSpan 2 = .ok (.if_icmp .lt 12, 3) := by decide +kernel
theorem dX11_isSpan_5 : decode cX11_isSpan 5 = .ok (.iload_n 0, 1) := by decide +kernel
theorem dX11_isSpan_6 : decode cX11_isSpan 6 = .ok (.iload_n 1, 1) := by decide +kernel
theorem dX11_isSpan_7 : decode cX11_isSpan 7 = .ok (.if_icmp .gt 7, 3) := by decide +kernel
theorem dX11_isSpan_10 : decode cX11_isSpan 10 = .ok (.iconst 1, 1) := by decide +kernel
theorem dX11_isSpan_11 : decode cX11_isSpan 11 = .ok (.goto 4, 3) := by decide +kernel
theorem dX11_isSpan_14 : decode cX11_isSpan 14 = .ok (.iconst 0, 1) := by decide +kernel
theorem dX11_isSpan_15 : decode cX11_isSpan 15 = .ok (.ireturn, 1) := by decide +kernel
theorem dX11_part_0 : decode cX11_part 0 = .ok (.lload_n 0, 1) := by decide +kernel
theorem dX11_part_1 : decode cX11_part 1 = .ok (.lload_n 2, 1) := by decide +kernel
theorem dX11_part_2 : decode cX11_part 2 = .ok (.invokestatic 253, 3) := by decide +kernel
theorem dX11_part_5 : decode cX11_part 5 = .ok (.lstore 5, 2) := by decide +kernel
theorem dX11_part_7 : decode cX11_part 7 = .ok (.lload 5, 2) := by decide +kernel
theorem dX11_part_9 : decode cX11_part 9 = .ok (.lconst 0, 1) := by decide +kernel
theorem dX11_part_10 : decode cX11_part 10 = .ok (.lcmp, 1) := by decide +kernel
theorem dX11_part_11 : decode cX11_part 11 = .ok (.ifCond .ne 14, 3) := by decide +kernel
theorem dX11_part_14 : decode cX11_part 14 = .ok (.iload 4, 2) := by decide +kernel
theorem dX11_part_16 : decode cX11_part 16 = .ok (.ifCond .eq 7, 3) := by decide +kernel
theorem dX11_part_19 : decode cX11_part 19 = .ok (.lconst 0, 1) := by decide +kernel
theorem dX11_part_20 : decode cX11_part 20 = .ok (.goto 4, 3) := by decide +kernel
theorem dX11_part_23 : decode cX11_part 23 = .ok (.lconst 1, 1) := by decide +kernel
theorem dX11_part_24 : decode cX11_part 24 = .ok (.lreturn, 1) := by decide +kernel
theorem dX11_part_25 : decode cX11_part 25 = .ok (.iload 4, 2) := by decide +kernel
theorem dX11_part_27 : decode cX11_part 27 = .ok (.ifCond .eq 7, 3) := by decide +kernel
theorem dX11_part_30 : decode cX11_part 30 = .ok (.lload_n 0, 1) := by decide +kernel
theorem dX11_part_31 : decode cX11_part 31 = .ok (.goto 4, 3) := by decide +kernel
theorem dX11_part_34 : decode cX11_part 34 = .ok (.lload_n 2, 1) := by decide +kernel
theorem dX11_part_35 : decode cX11_part 35 = .ok (.lload 5, 2) := by decide +kernel
theorem dX11_part_37 : decode cX11_part 37 = .ok (.ldiv, 1) := by decide +kernel
theorem dX11_part_38 : decode cX11_part 38 = .ok (.lreturn, 1) := by decide +kernel
theorem dX11_commonDivisor_0 : decode cX11_commonDivisor 0 = .ok (.lload_n 0, 1) := by decide +kernel
theorem dX11_commonDivisor_1 : decode cX11_commonDivisor 1 = .ok (.lstore 4, 2) := by decide +kernel
theorem dX11_commonDivisor_3 : decode cX11_commonDivisor 3 = .ok (.lload_n 2, 1) := by decide +kernel
theorem dX11_commonDivisor_4 : decode cX11_commonDivisor 4 = .ok (.lstore 6, 2) := by decide +kernel
theorem dX11_commonDivisor_6 : decode cX11_commonDivisor 6 = .ok (.iconst 0, 1) := by decide +kernel
theorem dX11_commonDivisor_7 : decode cX11_commonDivisor 7 = .ok (.istore 8, 2) := by decide +kernel
theorem dX11_commonDivisor_9 : decode cX11_commonDivisor 9 = .ok (.iload 8, 2) := by decide +kernel
theorem dX11_commonDivisor_11 : decode cX11_commonDivisor 11 = .ok (.sipush 200, 3) := by decide +kernel
theorem dX11_commonDivisor_14 : decode cX11_commonDivisor 14 = .ok (.if_icmp .ge 31, 3) := by decide +kernel
theorem dX11_commonDivisor_17 : decode cX11_commonDivisor 17 = .ok (.lload 6, 2) := by decide +kernel
theorem dX11_commonDivisor_19 : decode cX11_commonDivisor 19 = .ok (.lconst 0, 1) := by decide +kernel
theorem dX11_commonDivisor_20 : decode cX11_commonDivisor 20 = .ok (.lcmp, 1) := by decide +kernel
theorem dX11_commonDivisor_21 : decode cX11_commonDivisor 21 = .ok (.ifCond .eq 24, 3) := by decide +kernel
theorem dX11_commonDivisor_24 : decode cX11_commonDivisor 24 = .ok (.lload 4, 2) := by decide +kernel
theorem dX11_commonDivisor_26 : decode cX11_commonDivisor 26 = .ok (.lload 6, 2) := by decide +kernel
theorem dX11_commonDivisor_28 : decode cX11_commonDivisor 28 = .ok (.lrem, 1) := by decide +kernel
theorem dX11_commonDivisor_29 : decode cX11_commonDivisor 29 = .ok (.lstore 9, 2) := by decide +kernel
theorem dX11_commonDivisor_31 : decode cX11_commonDivisor 31 = .ok (.lload 6, 2) := by decide +kernel
theorem dX11_commonDivisor_33 : decode cX11_commonDivisor 33 = .ok (.lstore 4, 2) := by decide +kernel
theorem dX11_commonDivisor_35 : decode cX11_commonDivisor 35 = .ok (.lload 9, 2) := by decide +kernel
theorem dX11_commonDivisor_37 : decode cX11_commonDivisor 37 = .ok (.lstore 6, 2) := by decide +kernel
theorem dX11_commonDivisor_39 : decode cX11_commonDivisor 39 = .ok (.iinc 8 1, 3) := by decide +kernel
theorem dX11_commonDivisor_42 : decode cX11_commonDivisor 42 = .ok (.goto (-33), 3) := by decide +kernel
theorem dX11_commonDivisor_45 : decode cX11_commonDivisor 45 = .ok (.lload 4, 2) := by decide +kernel
theorem dX11_commonDivisor_47 : decode cX11_commonDivisor 47 = .ok (.lreturn, 1) := by decide +kernel
theorem dJ6_bitCount_0f7a4_0 : decode cJ6_bitCount_0f7a4 0 = .ok (.iload_n 0, 1) := by decide +kernel
theorem dJ6_bitCount_0f7a4_1 : decode cJ6_bitCount_0f7a4 1 = .ok (.iload_n 0, 1) := by decide +kernel
theorem dJ6_bitCount_0f7a4_2 : decode cJ6_bitCount_0f7a4 2 = .ok (.iconst 1, 1) := by decide +kernel
theorem dJ6_bitCount_0f7a4_3 : decode cJ6_bitCount_0f7a4 3 = .ok (.iushr, 1) := by decide +kernel
theorem dJ6_bitCount_0f7a4_4 : decode cJ6_bitCount_0f7a4 4 = .ok (.ldc_w 265, 3) := by decide +kernel
theorem dJ6_bitCount_0f7a4_7 : decode cJ6_bitCount_0f7a4 7 = .ok (.iand, 1) := by decide +kernel
theorem dJ6_bitCount_0f7a4_8 : decode cJ6_bitCount_0f7a4 8 = .ok (.isub, 1) := by decide +kernel
theorem dJ6_bitCount_0f7a4_9 : decode cJ6_bitCount_0f7a4 9 = .ok (.istore_n 0, 1) := by decide +kernel
theorem dJ6_bitCount_0f7a4_10 : decode cJ6_bitCount_0f7a4 10 = .ok (.iload_n 0, 1) := by decide +kernel
theorem dJ6_bitCount_0f7a4_11 : decode cJ6_bitCount_0f7a4 11 = .ok (.ldc_w 266, 3) := by decide +kernel
theorem dJ6_bitCount_0f7a4_14 : decode cJ6_bitCount_0f7a4 14 = .ok (.iand, 1) := by decide +kernel
theorem dJ6_bitCount_0f7a4_15 : decode cJ6_bitCount_0f7a4 15 = .ok (.iload_n 0, 1) := by decide +kernel
theorem dJ6_bitCount_0f7a4_16 : decode cJ6_bitCount_0f7a4 16 = .ok (.iconst 2, 1) := by decide +kernel
theorem dJ6_bitCount_0f7a4_17 : decode cJ6_bitCount_0f7a4 17 = .ok (.iushr, 1) := by decide +kernel
theorem dJ6_bitCount_0f7a4_18 : decode cJ6_bitCount_0f7a4 18 = .ok (.ldc_w 266, 3) := by decide +kernel
theorem dJ6_bitCount_0f7a4_21 : decode cJ6_bitCount_0f7a4 21 = .ok (.iand, 1) := by decide +kernel
theorem dJ6_bitCount_0f7a4_22 : decode cJ6_bitCount_0f7a4 22 = .ok (.iadd, 1) := by decide +kernel
theorem dJ6_bitCount_0f7a4_23 : decode cJ6_bitCount_0f7a4 23 = .ok (.istore_n 0, 1) := by decide +kernel
theorem dJ6_bitCount_0f7a4_24 : decode cJ6_bitCount_0f7a4 24 = .ok (.iload_n 0, 1) := by decide +kernel
theorem dJ6_bitCount_0f7a4_25 : decode cJ6_bitCount_0f7a4 25 = .ok (.iload_n 0, 1) := by decide +kernel
theorem dJ6_bitCount_0f7a4_26 : decode cJ6_bitCount_0f7a4 26 = .ok (.iconst 4, 1) := by decide +kernel
theorem dJ6_bitCount_0f7a4_27 : decode cJ6_bitCount_0f7a4 27 = .ok (.iushr, 1) := by decide +kernel
theorem dJ6_bitCount_0f7a4_28 : decode cJ6_bitCount_0f7a4 28 = .ok (.iadd, 1) := by decide +kernel
theorem dJ6_bitCount_0f7a4_29 : decode cJ6_bitCount_0f7a4 29 = .ok (.ldc_w 267, 3) := by decide +kernel
theorem dJ6_bitCount_0f7a4_32 : decode cJ6_bitCount_0f7a4 32 = .ok (.iand, 1) := by decide +kernel
theorem dJ6_bitCount_0f7a4_33 : decode cJ6_bitCount_0f7a4 33 = .ok (.istore_n 0, 1) := by decide +kernel
theorem dJ6_bitCount_0f7a4_34 : decode cJ6_bitCount_0f7a4 34 = .ok (.iload_n 0, 1) := by decide +kernel
theorem dJ6_bitCount_0f7a4_35 : decode cJ6_bitCount_0f7a4 35 = .ok (.iload_n 0, 1) := by decide +kernel
theorem dJ6_bitCount_0f7a4_36 : decode cJ6_bitCount_0f7a4 36 = .ok (.bipush 8, 2) := by decide +kernel
theorem dJ6_bitCount_0f7a4_38 : decode cJ6_bitCount_0f7a4 38 = .ok (.iushr, 1) := by decide +kernel
theorem dJ6_bitCount_0f7a4_39 : decode cJ6_bitCount_0f7a4 39 = .ok (.iadd, 1) := by decide +kernel
theorem dJ6_bitCount_0f7a4_40 : decode cJ6_bitCount_0f7a4 40 = .ok (.istore_n 0, 1) := by decide +kernel
theorem dJ6_bitCount_0f7a4_41 : decode cJ6_bitCount_0f7a4 41 = .ok (.iload_n 0, 1) := by decide +kernel
theorem dJ6_bitCount_0f7a4_42 : decode cJ6_bitCount_0f7a4 42 = .ok (.iload_n 0, 1) := by decide +kernel
theorem dJ6_bitCount_0f7a4_43 : decode cJ6_bitCount_0f7a4 43 = .ok (.bipush 16, 2) := by decide +kernel
theorem dJ6_bitCount_0f7a4_45 : decode cJ6_bitCount_0f7a4 45 = .ok (.iushr, 1) := by decide +kernel
theorem dJ6_bitCount_0f7a4_46 : decode cJ6_bitCount_0f7a4 46 = .ok (.iadd, 1) := by decide +kernel
theorem dJ6_bitCount_0f7a4_47 : decode cJ6_bitCount_0f7a4 47 = .ok (.istore_n 0, 1) := by decide +kernel
theorem dJ6_bitCount_0f7a4_48 : decode cJ6_bitCount_0f7a4 48 = .ok (.iload_n 0, 1) := by decide +kernel
theorem dJ6_bitCount_0f7a4_49 : decode cJ6_bitCount_0f7a4 49 = .ok (.bipush 63, 2) := by decide +kernel
theorem dJ6_bitCount_0f7a4_51 : decode cJ6_bitCount_0f7a4 51 = .ok (.iand, 1) := by decide +kernel
theorem dJ6_bitCount_0f7a4_52 : decode cJ6_bitCount_0f7a4 52 = .ok (.ireturn, 1) := by decide +kernel
