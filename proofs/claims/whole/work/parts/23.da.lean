/-! decode rows, printed (claim/NAMES.whole) -/
theorem dX0_init_0 : decode cX0_init 0 = .ok (.aload_n 0, 1) := by decide +kernel
theorem dX0_init_1 : decode cX0_init 1 = .ok (.invokespecial 3, 3) := by decide +kernel
theorem dX0_init_4 : decode cX0_init 4 = .ok (.aload_n 0, 1) := by decide +kernel
theorem dX0_init_5 : decode cX0_init 5 = .ok (.bipush 8, 2) := by decide +kernel
theorem dX0_init_7 : decode cX0_init 7 = .ok (.newarray .int, 2) := by decide +kernel
theorem dX0_init_9 : decode cX0_init 9 = .ok (.putfield 9, 3) := by decide +kernel
theorem dX0_init_12 : decode cX0_init 12 = .ok (.aload_n 0, 1) := by decide +kernel
theorem dX0_init_13 : decode cX0_init 13 = .ok (.bipush 8, 2) := by decide +kernel
theorem dX0_init_15 : decode cX0_init 15 = .ok (.newarray .int, 2) := by decide +kernel
theorem dX0_init_17 : decode cX0_init 17 = .ok (.putfield 15, 3) := by decide +kernel
theorem dX0_init_20 : decode cX0_init 20 = .ok (.aload_n 0, 1) := by decide +kernel
theorem dX0_init_21 : decode cX0_init 21 = .ok (.bipush 8, 2) := by decide +kernel
theorem dX0_init_23 : decode cX0_init 23 = .ok (.newarray .int, 2) := by decide +kernel
theorem dX0_init_25 : decode cX0_init 25 = .ok (.putfield 18, 3) := by decide +kernel
theorem dX0_init_28 : decode cX0_init 28 = .ok (.aload_n 0, 1) := by decide +kernel
theorem dX0_init_29 : decode cX0_init 29 = .ok (.bipush 8, 2) := by decide +kernel
theorem dX0_init_31 : decode cX0_init 31 = .ok (.newarray .int, 2) := by decide +kernel
theorem dX0_init_33 : decode cX0_init 33 = .ok (.putfield 21, 3) := by decide +kernel
theorem dX0_init_36 : decode cX0_init 36 = .ok (.aload_n 0, 1) := by decide +kernel
theorem dX0_init_37 : decode cX0_init 37 = .ok (.bipush 8, 2) := by decide +kernel
theorem dX0_init_39 : decode cX0_init 39 = .ok (.newarray .boolean, 2) := by decide +kernel
theorem dX0_init_41 : decode cX0_init 41 = .ok (.putfield 24, 3) := by decide +kernel
theorem dX0_init_44 : decode cX0_init 44 = .ok (.aload_n 0, 1) := by decide +kernel
theorem dX0_init_45 : decode cX0_init 45 = .ok (.aload_n 1, 1) := by decide +kernel
theorem dX0_init_46 : decode cX0_init 46 = .ok (.putfield 28, 3) := by decide +kernel
theorem dX0_init_49 : decode cX0_init 49 = .ok (.aload_n 0, 1) := by decide +kernel
theorem dX0_init_50 : decode cX0_init 50 = .ok (.aload_n 2, 1) := by decide +kernel
theorem dX0_init_51 : decode cX0_init 51 = .ok (.putfield 32, 3) := by decide +kernel
theorem dX0_init_54 : decode cX0_init 54 = .ok (.return_, 1) := by decide +kernel
theorem dX0_count_0 : decode cX0_count 0 = .ok (.aload_n 0, 1) := by decide +kernel
theorem dX0_count_1 : decode cX0_count 1 = .ok (.getfield 35, 3) := by decide +kernel
theorem dX0_count_4 : decode cX0_count 4 = .ok (.ireturn, 1) := by decide +kernel
theorem dX0_add_0 : decode cX0_add 0 = .ok (.aload_n 0, 1) := by decide +kernel
theorem dX0_add_1 : decode cX0_add 1 = .ok (.getfield 35, 3) := by decide +kernel
theorem dX0_add_4 : decode cX0_add 4 = .ok (.bipush 8, 2) := by decide +kernel
theorem dX0_add_6 : decode cX0_add 6 = .ok (.if_icmp .ge 68, 3) := by decide +kernel
theorem dX0_add_9 : decode cX0_add 9 = .ok (.aload_n 0, 1) := by decide +kernel
theorem dX0_add_10 : decode cX0_add 10 = .ok (.getfield 9, 3) := by decide +kernel
theorem dX0_add_13 : decode cX0_add 13 = .ok (.aload_n 0, 1) := by decide +kernel
theorem dX0_add_14 : decode cX0_add 14 = .ok (.getfield 35, 3) := by decide +kernel
theorem dX0_add_17 : decode cX0_add 17 = .ok (.iload_n 1, 1) := by decide +kernel
theorem dX0_add_18 : decode cX0_add 18 = .ok (.iastore, 1) := by decide +kernel
theorem dX0_add_19 : decode cX0_add 19 = .ok (.aload_n 0, 1) := by decide +kernel
theorem dX0_add_20 : decode cX0_add 20 = .ok (.getfield 15, 3) := by decide +kernel
theorem dX0_add_23 : decode cX0_add 23 = .ok (.aload_n 0, 1) := by decide +kernel
theorem dX0_add_24 : decode cX0_add 24 = .ok (.getfield 35, 3) := by decide +kernel
theorem dX0_add_27 : decode cX0_add 27 = .ok (.iload_n 2, 1) := by decide +kernel
theorem dX0_add_28 : decode cX0_add 28 = .ok (.iastore, 1) := by decide +kernel
theorem dX0_add_29 : decode cX0_add 29 = .ok (.aload_n 0, 1) := by decide +kernel
theorem dX0_add_30 : decode cX0_add 30 = .ok (.getfield 18, 3) := by decide +kernel
theorem dX0_add_33 : decode cX0_add 33 = .ok (.aload_n 0, 1) := by decide +kernel
theorem dX0_add_34 : decode cX0_add 34 = .ok (.getfield 35, 3) := by decide +kernel
theorem dX0_add_37 : decode cX0_add 37 = .ok (.iload_n 3, 1) := by decide +kernel
theorem dX0_add_38 : decode cX0_add 38 = .ok (.iastore, 1) := by decide +kernel
theorem dX0_add_39 : decode cX0_add 39 = .ok (.aload_n 0, 1) := by decide +kernel
theorem dX0_add_40 : decode cX0_add 40 = .ok (.getfield 21, 3) := by decide +kernel
theorem dX0_add_43 : decode cX0_add 43 = .ok (.aload_n 0, 1) := by decide +kernel
theorem dX0_add_44 : decode cX0_add 44 = .ok (.getfield 35, 3) := by decide +kernel
theorem dX0_add_47 : decode cX0_add 47 = .ok (.bipush 10, 2) := by decide +kernel
theorem dX0_add_49 : decode cX0_add 49 = .ok (.iload 4, 2) := by decide +kernel
theorem dX0_add_51 : decode cX0_add 51 = .ok (.imul, 1) := by decide +kernel
theorem dX0_add_52 : decode cX0_add 52 = .ok (.iastore, 1) := by decide +kernel
theorem dX0_add_53 : decode cX0_add 53 = .ok (.aload_n 0, 1) := by decide +kernel
theorem dX0_add_54 : decode cX0_add 54 = .ok (.getfield 24, 3) := by decide +kernel
theorem dX0_add_57 : decode cX0_add 57 = .ok (.aload_n 0, 1) := by decide +kernel
theorem dX0_add_58 : decode cX0_add 58 = .ok (.getfield 35, 3) := by decide +kernel
theorem dX0_add_61 : decode cX0_add 61 = .ok (.iload 5, 2) := by decide +kernel
theorem dX0_add_63 : decode cX0_add 63 = .ok (.bastore, 1) := by decide +kernel
theorem dX0_add_64 : decode cX0_add 64 = .ok (.aload_n 0, 1) := by decide +kernel
theorem dX0_add_65 : decode cX0_add 65 = .ok (.dup, 1) := by decide +kernel
theorem dX0_add_66 : decode cX0_add 66 = .ok (.getfield 35, 3) := by decide +kernel
theorem dX0_add_69 : decode cX0_add 69 = .ok (.iconst 1, 1) := by decide +kernel
theorem dX0_add_70 : decode cX0_add 70 = .ok (.iadd, 1) := by decide +kernel
theorem dX0_add_71 : decode cX0_add 71 = .ok (.putfield 35, 3) := by decide +kernel
theorem dX0_add_74 : decode cX0_add 74 = .ok (.aload_n 0, 1) := by decide +kernel
theorem dX0_add_75 : decode cX0_add 75 = .ok (.getfield 35, 3) := by decide +kernel
theorem dX0_add_78 : decode cX0_add 78 = .ok (.ireturn, 1) := by decide +kernel
theorem dX0_clear_0 : decode cX0_clear 0 = .ok (.aload_n 0, 1) := by decide +kernel
theorem dX0_clear_1 : decode cX0_clear 1 = .ok (.getfield 35, 3) := by decide +kernel
theorem dX0_clear_4 : decode cX0_clear 4 = .ok (.istore_n 1, 1) := by decide +kernel
theorem dX0_clear_5 : decode cX0_clear 5 = .ok (.aload_n 0, 1) := by decide +kernel
theorem dX0_clear_6 : decode cX0_clear 6 = .ok (.iconst 0, 1) := by decide +kernel
theorem dX0_clear_7 : decode cX0_clear 7 = .ok (.putfield 35, 3) := by decide +kernel
theorem dX0_clear_10 : decode cX0_clear 10 = .ok (.iload_n 1, 1) := by decide +kernel
theorem dX0_clear_11 : decode cX0_clear 11 = .ok (.ireturn, 1) := by decide +kernel
theorem dX0_trueTenths_0 : decode cX0_trueTenths 0 = .ok (.iconst 0, 1) := by decide +kernel
theorem dX0_trueTenths_1 : decode cX0_trueTenths 1 = .ok (.istore_n 2, 1) := by decide +kernel
theorem dX0_trueTenths_2 : decode cX0_trueTenths 2 = .ok (.iconst 0, 1) := by decide +kernel
theorem dX0_trueTenths_3 : decode cX0_trueTenths 3 = .ok (.istore_n 3, 1) := by decide +kernel
theorem dX0_trueTenths_4 : decode cX0_trueTenths 4 = .ok (.iload_n 3, 1) := by decide +kernel
theorem dX0_trueTenths_5 : decode cX0_trueTenths 5 = .ok (.bipush 10, 2) := by decide +kernel
theorem dX0_trueTenths_7 : decode cX0_trueTenths 7 = .ok (.aload_n 0, 1) := by decide +kernel
theorem dX0_trueTenths_8 : decode cX0_trueTenths 8 = .ok (.getfield 28, 3) := by decide +kernel
theorem dX0_trueTenths_11 : decode cX0_trueTenths 11 = .ok (.getfield 39, 3) := by decide +kernel
theorem dX0_trueTenths_14 : decode cX0_trueTenths 14 = .ok (.iload_n 1, 1) := by decide +kernel
theorem dX0_trueTenths_15 : decode cX0_trueTenths 15 = .ok (.iaload, 1) := by decide +kernel
theorem dX0_trueTenths_16 : decode cX0_trueTenths 16 = .ok (.isub, 1) := by decide +kernel
theorem dX0_trueTenths_17 : decode cX0_trueTenths 17 = .ok (.if_icmp .gt 28, 3) := by decide +kernel
theorem dX0_trueTenths_20 : decode cX0_trueTenths 20 = .ok (.iload_n 2, 1) := by decide +kernel
theorem dX0_trueTenths_21 : decode cX0_trueTenths 21 = .ok (.aload_n 0, 1) := by decide +kernel
theorem dX0_trueTenths_22 : decode cX0_trueTenths 22 = .ok (.iload_n 1, 1) := by decide +kernel
theorem dX0_trueTenths_23 : decode cX0_trueTenths 23 = .ok (.iload_n 3, 1) := by decide +kernel
theorem dX0_trueTenths_24 : decode cX0_trueTenths 24 = .ok (.invokevirtual 44, 3) := by decide +kernel
theorem dX0_trueTenths_27 : decode cX0_trueTenths 27 = .ok (.ifCond .eq 9, 3) := by decide +kernel
theorem dX0_trueTenths_30 : decode cX0_trueTenths 30 = .ok (.iconst 1, 1) := by decide +kernel
theorem dX0_trueTenths_31 : decode cX0_trueTenths 31 = .ok (.iload_n 3, 1) := by decide +kernel
theorem dX0_trueTenths_32 : decode cX0_trueTenths 32 = .ok (.ishl, 1) := by decide +kernel
theorem dX0_trueTenths_33 : decode cX0_trueTenths 33 = .ok (.goto 4, 3) := by decide +kernel
theorem dX0_trueTenths_36 : decode cX0_trueTenths 36 = .ok (.iconst 0, 1) := by decide +kernel
theorem dX0_trueTenths_37 : decode cX0_trueTenths 37 = .ok (.ior, 1) := by decide +kernel
theorem dX0_trueTenths_38 : decode cX0_trueTenths 38 = .ok (.istore_n 2, 1) := by decide +kernel
theorem dX0_trueTenths_39 : decode cX0_trueTenths 39 = .ok (.iinc 3 1, 3) := by decide +kernel
theorem dX0_trueTenths_42 : decode cX0_trueTenths 42 = .ok (.goto (-38), 3) := by decide +kernel
theorem dX0_trueTenths_45 : decode cX0_trueTenths 45 = .ok (.iload_n 2, 1) := by decide +kernel
theorem dX0_trueTenths_46 : decode cX0_trueTenths 46 = .ok (.ireturn, 1) := by decide +kernel
theorem dX0_areAllTrue_0 : decode cX0_areAllTrue 0 = .ok (.iconst 0, 1) := by decide +kernel
theorem dX0_areAllTrue_1 : decode cX0_areAllTrue 1 = .ok (.istore_n 3, 1) := by decide +kernel
theorem dX0_areAllTrue_2 : decode cX0_areAllTrue 2 = .ok (.iload_n 3, 1) := by decide +kernel
theorem dX0_areAllTrue_3 : decode cX0_areAllTrue 3 = .ok (.aload_n 0, 1) := by decide +kernel
theorem dX0_areAllTrue_4 : decode cX0_areAllTrue 4 = .ok (.getfield 35, 3) := by decide +kernel
theorem dX0_areAllTrue_7 : decode cX0_areAllTrue 7 = .ok (.if_icmp .ge 21, 3) := by decide +kernel
theorem dX0_areAllTrue_10 : decode cX0_areAllTrue 10 = .ok (.aload_n 0, 1) := by decide +kernel
theorem dX0_areAllTrue_11 : decode cX0_areAllTrue 11 = .ok (.iload_n 3, 1) := by decide +kernel
theorem dX0_areAllTrue_12 : decode cX0_areAllTrue 12 = .ok (.iload_n 1, 1) := by decide +kernel
theorem dX0_areAllTrue_13 : decode cX0_areAllTrue 13 = .ok (.iload_n 2, 1) := by decide +kernel
theorem dX0_areAllTrue_14 : decode cX0_areAllTrue 14 = .ok (.invokevirtual 48, 3) := by decide +kernel
theorem dX0_areAllTrue_17 : decode cX0_areAllTrue 17 = .ok (.ifCond .ne 5, 3) := by decide +kernel
theorem dX0_areAllTrue_20 : decode cX0_areAllTrue 20 = .ok (.iconst 0, 1) := by decide +kernel
theorem dX0_areAllTrue_21 : decode cX0_areAllTrue 21 = .ok (.ireturn, 1) := by decide +kernel
theorem dX0_areAllTrue_22 : decode cX0_areAllTrue 22 = .ok (.iinc 3 1, 3) := by decide +kernel
theorem dX0_areAllTrue_25 : decode cX0_areAllTrue 25 = .ok (.goto (-23), 3) := by decide +kernel
theorem dX0_areAllTrue_28 : decode cX0_areAllTrue 28 = .ok (.iconst 1, 1) := by decide +kernel
theorem dX0_areAllTrue_29 : decode cX0_areAllTrue 29 = .ok (.ireturn, 1) := by decide +kernel
theorem dX0_isTrue_0 : decode cX0_isTrue 0 = .ok (.aload_n 0, 1) := by decide +kernel
theorem dX0_isTrue_1 : decode cX0_isTrue 1 = .ok (.getfield 28, 3) := by decide +kernel
theorem dX0_isTrue_4 : decode cX0_isTrue 4 = .ok (.aload_n 0, 1) := by decide +kernel
theorem dX0_isTrue_5 : decode cX0_isTrue 5 = .ok (.getfield 9, 3) := by decide +kernel
theorem dX0_isTrue_8 : decode cX0_isTrue 8 = .ok (.iload_n 1, 1) := by decide +kernel
theorem dX0_isTrue_9 : decode cX0_isTrue 9 = .ok (.iaload, 1) := by decide +kernel
theorem dX0_isTrue_10 : decode cX0_isTrue 10 = .ok (.invokevirtual 52, 3) := by decide +kernel
theorem dX0_isTrue_13 : decode cX0_isTrue 13 = .ok (.ifCond .ne 5, 3) := by decide +kernel
theorem dX0_isTrue_16 : decode cX0_isTrue 16 = .ok (.iconst 0, 1) := by decide +kernel
theorem dX0_isTrue_17 : decode cX0_isTrue 17 = .ok (.ireturn, 1) := by decide +kernel
theorem dX0_isTrue_18 : decode cX0_isTrue 18 = .ok (.aload_n 0, 1) := by decide +kernel
theorem dX0_isTrue_19 : decode cX0_isTrue 19 = .ok (.getfield 32, 3) := by decide +kernel
theorem dX0_isTrue_22 : decode cX0_isTrue 22 = .ok (.aload_n 0, 1) := by decide +kernel
theorem dX0_isTrue_23 : decode cX0_isTrue 23 = .ok (.getfield 28, 3) := by decide +kernel
theorem dX0_isTrue_26 : decode cX0_isTrue 26 = .ok (.invokevirtual 56, 3) := by decide +kernel
theorem dX0_isTrue_29 : decode cX0_isTrue 29 = .ok (.aload_n 0, 1) := by decide +kernel
theorem dX0_isTrue_30 : decode cX0_isTrue 30 = .ok (.getfield 32, 3) := by decide +kernel
theorem dX0_isTrue_33 : decode cX0_isTrue 33 = .ok (.invokevirtual 60, 3) := by decide +kernel
theorem dX0_isTrue_36 : decode cX0_isTrue 36 = .ok (.aload_n 0, 1) := by decide +kernel
theorem dX0_isTrue_37 : decode cX0_isTrue 37 = .ok (.getfield 32, 3) := by decide +kernel
theorem dX0_isTrue_40 : decode cX0_isTrue 40 = .ok (.getfield 63, 3) := by decide +kernel
theorem dX0_isTrue_43 : decode cX0_isTrue 43 = .ok (.iload_n 2, 1) := by decide +kernel
theorem dX0_isTrue_44 : decode cX0_isTrue 44 = .ok (.iload_n 3, 1) := by decide +kernel
theorem dX0_isTrue_45 : decode cX0_isTrue 45 = .ok (.iastore, 1) := by decide +kernel
theorem dX0_isTrue_46 : decode cX0_isTrue 46 = .ok (.aload_n 0, 1) := by decide +kernel
theorem dX0_isTrue_47 : decode cX0_isTrue 47 = .ok (.getfield 32, 3) := by decide +kernel
theorem dX0_isTrue_50 : decode cX0_isTrue 50 = .ok (.aload_n 0, 1) := by decide +kernel
theorem dX0_isTrue_51 : decode cX0_isTrue 51 = .ok (.getfield 15, 3) := by decide +kernel
theorem dX0_isTrue_54 : decode cX0_isTrue 54 = .ok (.iload_n 1, 1) := by decide +kernel
theorem dX0_isTrue_55 : decode cX0_isTrue 55 = .ok (.iaload, 1) := by decide +kernel
theorem dX0_isTrue_56 : decode cX0_isTrue 56 = .ok (.aload_n 0, 1) := by decide +kernel
theorem dX0_isTrue_57 : decode cX0_isTrue 57 = .ok (.getfield 18, 3) := by decide +kernel
theorem dX0_isTrue_60 : decode cX0_isTrue 60 = .ok (.iload_n 1, 1) := by decide +kernel
theorem dX0_isTrue_61 : decode cX0_isTrue 61 = .ok (.iaload, 1) := by decide +kernel
theorem dX0_isTrue_62 : decode cX0_isTrue 62 = .ok (.invokevirtual 66, 3) := by decide +kernel
theorem dX0_isTrue_65 : decode cX0_isTrue 65 = .ok (.aload_n 0, 1) := by decide +kernel
theorem dX0_isTrue_66 : decode cX0_isTrue 66 = .ok (.getfield 32, 3) := by decide +kernel
theorem dX0_isTrue_69 : decode cX0_isTrue 69 = .ok (.getfield 70, 3) := by decide +kernel
theorem dX0_isTrue_72 : decode cX0_isTrue 72 = .ok (.aload_n 0, 1) := by decide +kernel
theorem dX0_isTrue_73 : decode cX0_isTrue 73 = .ok (.getfield 9, 3) := by decide +kernel
theorem dX0_isTrue_76 : decode cX0_isTrue 76 = .ok (.iload_n 1, 1) := by decide +kernel
theorem dX0_isTrue_77 : decode cX0_isTrue 77 = .ok (.iaload, 1) := by decide +kernel
theorem dX0_isTrue_78 : decode cX0_isTrue 78 = .ok (.iaload, 1) := by decide +kernel
theorem dX0_isTrue_79 : decode cX0_isTrue 79 = .ok (.aload_n 0, 1) := by decide +kernel
theorem dX0_isTrue_80 : decode cX0_isTrue 80 = .ok (.getfield 21, 3) := by decide +kernel
theorem dX0_isTrue_83 : decode cX0_isTrue 83 = .ok (.iload_n 1, 1) := by decide +kernel
theorem dX0_isTrue_84 : decode cX0_isTrue 84 = .ok (.iaload, 1) := by decide +kernel
theorem dX0_isTrue_85 : decode cX0_isTrue 85 = .ok (.if_icmp .lt 7, 3) := by decide +kernel
theorem dX0_isTrue_88 : decode cX0_isTrue 88 = .ok (.iconst 1, 1) := by decide +kernel
theorem dX0_isTrue_89 : decode cX0_isTrue 89 = .ok (.goto 4, 3) := by decide +kernel
theorem dX0_isTrue_92 : decode cX0_isTrue 92 = .ok (.iconst 0, 1) := by decide +kernel
theorem dX0_isTrue_93 : decode cX0_isTrue 93 = .ok (.aload_n 0, 1) := by decide +kernel
theorem dX0_isTrue_94 : decode cX0_isTrue 94 = .ok (.getfield 24, 3) := by decide +kernel
theorem dX0_isTrue_97 : decode cX0_isTrue 97 = .ok (.iload_n 1, 1) := by decide +kernel
theorem dX0_isTrue_98 : decode cX0_isTrue 98 = .ok (.baload, 1) := by decide +kernel
theorem dX0_isTrue_99 : decode cX0_isTrue 99 = .ok (.if_icmp .ne 7, 3) := by decide +kernel
theorem dX0_isTrue_102 : decode cX0_isTrue 102 = .ok (.iconst 1, 1) := by decide +kernel
theorem dX0_isTrue_103 : decode cX0_isTrue 103 = .ok (.goto 4, 3) := by decide +kernel
theorem dX0_isTrue_106 : decode cX0_isTrue 106 = .ok (.iconst 0, 1) := by decide +kernel
theorem dX0_isTrue_107 : decode cX0_isTrue 107 = .ok (.ireturn, 1) := by decide +kernel
theorem dX1_init_0 : decode cX1_init 0 = .ok (.aload_n 0, 1) := by decide +kernel
theorem dX1_init_1 : decode cX1_init 1 = .ok (.invokespecial 3, 3) := by decide +kernel
theorem dX1_init_4 : decode cX1_init 4 = .ok (.aload_n 0, 1) := by decide +kernel
theorem dX1_init_5 : decode cX1_init 5 = .ok (.iconst 5, 1) := by decide +kernel
theorem dX1_init_6 : decode cX1_init 6 = .ok (.newarray .int, 2) := by decide +kernel
theorem dX1_init_8 : decode cX1_init 8 = .ok (.putfield 9, 3) := by decide +kernel
theorem dX1_init_11 : decode cX1_init 11 = .ok (.aload_n 0, 1) := by decide +kernel
theorem dX1_init_12 : decode cX1_init 12 = .ok (.iconst 5, 1) := by decide +kernel
theorem dX1_init_13 : decode cX1_init 13 = .ok (.newarray .int, 2) := by decide +kernel
theorem dX1_init_15 : decode cX1_init 15 = .ok (.putfield 15, 3) := by decide +kernel
theorem dX1_init_18 : decode cX1_init 18 = .ok (.aload_n 0, 1) := by decide +kernel
theorem dX1_init_19 : decode cX1_init 19 = .ok (.iconst 5, 1) := by decide +kernel
theorem dX1_init_20 : decode cX1_init 20 = .ok (.newarray .int, 2) := by decide +kernel
theorem dX1_init_22 : decode cX1_init 22 = .ok (.putfield 18, 3) := by decide +kernel
theorem dX1_init_25 : decode cX1_init 25 = .ok (.aload_n 0, 1) := by decide +kernel
theorem dX1_init_26 : decode cX1_init 26 = .ok (.iconst 5, 1) := by decide +kernel
theorem dX1_init_27 : decode cX1_init 27 = .ok (.newarray .int, 2) := by decide +kernel
theorem dX1_init_29 : decode cX1_init 29 = .ok (.putfield 21, 3) := by decide +kernel
theorem dX1_init_32 : decode cX1_init 32 = .ok (.aload_n 0, 1) := by decide +kernel
theorem dX1_init_33 : decode cX1_init 33 = .ok (.aload_n 1, 1) := by decide +kernel
theorem dX1_init_34 : decode cX1_init 34 = .ok (.putfield 24, 3) := by decide +kernel
theorem dX1_init_37 : decode cX1_init 37 = .ok (.aload_n 0, 1) := by decide +kernel
theorem dX1_init_38 : decode cX1_init 38 = .ok (.aload_n 2, 1) := by decide +kernel
theorem dX1_init_39 : decode cX1_init 39 = .ok (.putfield 28, 3) := by decide +kernel
theorem dX1_init_42 : decode cX1_init 42 = .ok (.aload_n 0, 1) := by decide +kernel
theorem dX1_init_43 : decode cX1_init 43 = .ok (.aload_n 1, 1) := by decide +kernel
theorem dX1_init_44 : decode cX1_init 44 = .ok (.getfield 31, 3) := by decide +kernel
theorem dX1_init_47 : decode cX1_init 47 = .ok (.getfield 37, 3) := by decide +kernel
theorem dX1_init_50 : decode cX1_init 50 = .ok (.putfield 43, 3) := by decide +kernel
theorem dX1_init_53 : decode cX1_init 53 = .ok (.return_, 1) := by decide +kernel
theorem dX1_search_0 : decode cX1_search 0 = .ok (.aload_n 0, 1) := by decide +kernel
theorem dX1_search_1 : decode cX1_search 1 = .ok (.iload_n 1, 1) := by decide +kernel
theorem dX1_search_2 : decode cX1_search 2 = .ok (.iload_n 2, 1) := by decide +kernel
theorem dX1_search_3 : decode cX1_search 3 = .ok (.invokevirtual 44, 3) := by decide +kernel
theorem dX1_search_6 : decode cX1_search 6 = .ok (.iconst 0, 1) := by decide +kernel
theorem dX1_search_7 : decode cX1_search 7 = .ok (.istore_n 3, 1) := by decide +kernel
theorem dX1_search_8 : decode cX1_search 8 = .ok (.iload_n 3, 1) := by decide +kernel
theorem dX1_search_9 : decode cX1_search 9 = .ok (.aload_n 0, 1) := by decide +kernel
theorem dX1_search_10 : decode cX1_search 10 = .ok (.getfield 43, 3) := by decide +kernel
theorem dX1_search_13 : decode cX1_search 13 = .ok (.getfield 48, 3) := by decide +kernel
theorem dX1_search_16 : decode cX1_search 16 = .ok (.if_icmp .ge 39, 3) := by decide +kernel
theorem dX1_search_19 : decode cX1_search 19 = .ok (.aload_n 0, 1) := by decide +kernel
theorem dX1_search_20 : decode cX1_search 20 = .ok (.getfield 15, 3) := by decide +kernel
theorem dX1_search_23 : decode cX1_search 23 = .ok (.iload_n 3, 1) := by decide +kernel
theorem dX1_search_24 : decode cX1_search 24 = .ok (.aload_n 0, 1) := by decide +kernel
theorem dX1_search_25 : decode cX1_search 25 = .ok (.iload_n 3, 1) := by decide +kernel
theorem dX1_search_26 : decode cX1_search 26 = .ok (.invokevirtual 54, 3) := by decide +kernel
theorem dX1_search_29 : decode cX1_search 29 = .ok (.ifCond .eq 7, 3) := by decide +kernel
theorem dX1_search_32 : decode cX1_search 32 = .ok (.iconst 0, 1) := by decide +kernel
theorem dX1_search_33 : decode cX1_search 33 = .ok (.goto 15, 3) := by decide +kernel
theorem dX1_search_36 : decode cX1_search 36 = .ok (.aload_n 0, 1) := by decide +kernel
theorem dX1_search_37 : decode cX1_search 37 = .ok (.getfield 24, 3) := by decide +kernel
theorem dX1_search_40 : decode cX1_search 40 = .ok (.getfield 31, 3) := by decide +kernel
theorem dX1_search_43 : decode cX1_search 43 = .ok (.getfield 58, 3) := by decide +kernel
theorem dX1_search_46 : decode cX1_search 46 = .ok (.iload_n 3, 1) := by decide +kernel
theorem dX1_search_47 : decode cX1_search 47 = .ok (.iaload, 1) := by decide +kernel
theorem dX1_search_48 : decode cX1_search 48 = .ok (.iastore, 1) := by decide +kernel
theorem dX1_search_49 : decode cX1_search 49 = .ok (.iinc 3 1, 3) := by decide +kernel
theorem dX1_search_52 : decode cX1_search 52 = .ok (.goto (-44), 3) := by decide +kernel
theorem dX1_search_55 : decode cX1_search 55 = .ok (.iconst (-1), 1) := by decide +kernel
theorem dX1_search_56 : decode cX1_search 56 = .ok (.istore_n 3, 1) := by decide +kernel
theorem dX1_search_57 : decode cX1_search 57 = .ok (.aload_n 0, 1) := by decide +kernel
theorem dX1_search_58 : decode cX1_search 58 = .ok (.invokevirtual 59, 3) := by decide +kernel
theorem dX1_search_61 : decode cX1_search 61 = .ok (.istore 4, 2) := by decide +kernel
theorem dX1_search_63 : decode cX1_search 63 = .ok (.iconst 1, 1) := by decide +kernel
theorem dX1_search_64 : decode cX1_search 64 = .ok (.istore 5, 2) := by decide +kernel
theorem dX1_search_66 : decode cX1_search 66 = .ok (.iconst 0, 1) := by decide +kernel
theorem dX1_search_67 : decode cX1_search 67 = .ok (.istore 6, 2) := by decide +kernel
theorem dX1_search_69 : decode cX1_search 69 = .ok (.iload 6, 2) := by decide +kernel
theorem dX1_search_71 : decode cX1_search 71 = .ok (.sipush 3125, 3) := by decide +kernel
theorem dX1_search_74 : decode cX1_search 74 = .ok (.if_icmp .ge 63, 3) := by decide +kernel
theorem dX1_search_77 : decode cX1_search 77 = .ok (.iload 5, 2) := by decide +kernel
theorem dX1_search_79 : decode cX1_search 79 = .ok (.ifCond .eq 58, 3) := by decide +kernel
theorem dX1_search_82 : decode cX1_search 82 = .ok (.aload_n 0, 1) := by decide +kernel
theorem dX1_search_83 : decode cX1_search 83 = .ok (.invokevirtual 63, 3) := by decide +kernel
theorem dX1_search_86 : decode cX1_search 86 = .ok (.istore 7, 2) := by decide +kernel
theorem dX1_search_88 : decode cX1_search 88 = .ok (.iload 7, 2) := by decide +kernel
theorem dX1_search_90 : decode cX1_search 90 = .ok (.iload_n 3, 1) := by decide +kernel
theorem dX1_search_91 : decode cX1_search 91 = .ok (.if_icmp .le 20, 3) := by decide +kernel
theorem dX1_search_94 : decode cX1_search 94 = .ok (.iload 7, 2) := by decide +kernel
theorem dX1_search_96 : decode cX1_search 96 = .ok (.istore_n 3, 1) := by decide +kernel
theorem dX1_search_97 : decode cX1_search 97 = .ok (.aload_n 0, 1) := by decide +kernel
theorem dX1_search_98 : decode cX1_search 98 = .ok (.getfield 15, 3) := by decide +kernel
theorem dX1_search_101 : decode cX1_search 101 = .ok (.iconst 0, 1) := by decide +kernel
theorem dX1_search_102 : decode cX1_search 102 = .ok (.aload_n 0, 1) := by decide +kernel
theorem dX1_search_103 : decode cX1_search 103 = .ok (.getfield 9, 3) := by decide +kernel
theorem dX1_search_106 : decode cX1_search 106 = .ok (.iconst 0, 1) := by decide +kernel
theorem dX1_search_107 : decode cX1_search 107 = .ok (.iconst 5, 1) := by decide +kernel
theorem dX1_search_108 : decode cX1_search 108 = .ok (.invokestatic 66, 3) := by decide +kernel
theorem dX1_search_111 : decode cX1_search 111 = .ok (.iload_n 3, 1) := by decide +kernel
theorem dX1_search_112 : decode cX1_search 112 = .ok (.iload 4, 2) := by decide +kernel
theorem dX1_search_114 : decode cX1_search 114 = .ok (.if_icmp .ge 14, 3) := by decide +kernel
theorem dX1_search_117 : decode cX1_search 117 = .ok (.aload_n 0, 1) := by decide +kernel
theorem dX1_search_118 : decode cX1_search 118 = .ok (.invokevirtual 72, 3) := by decide +kernel
theorem dX1_search_121 : decode cX1_search 121 = .ok (.ifCond .eq 7, 3) := by decide +kernel
theorem dX1_search_124 : decode cX1_search 124 = .ok (.iconst 1, 1) := by decide +kernel
theorem dX1_search_125 : decode cX1_search 125 = .ok (.goto 4, 3) := by decide +kernel
theorem dX1_search_128 : decode cX1_search 128 = .ok (.iconst 0, 1) := by decide +kernel
theorem dX1_search_129 : decode cX1_search 129 = .ok (.istore 5, 2) := by decide +kernel
theorem dX1_search_131 : decode cX1_search 131 = .ok (.iinc 6 1, 3) := by decide +kernel
theorem dX1_search_134 : decode cX1_search 134 = .ok (.goto (-65), 3) := by decide +kernel
theorem dX1_search_137 : decode cX1_search 137 = .ok (.iload_n 3, 1) := by decide +kernel
theorem dX1_search_138 : decode cX1_search 138 = .ok (.ireturn, 1) := by decide +kernel
theorem dX1_isFree_0 : decode cX1_isFree 0 = .ok (.aload_n 0, 1) := by decide +kernel
theorem dX1_isFree_1 : decode cX1_isFree 1 = .ok (.getfield 24, 3) := by decide +kernel
theorem dX1_isFree_4 : decode cX1_isFree 4 = .ok (.getfield 31, 3) := by decide +kernel
theorem dX1_isFree_7 : decode cX1_isFree 7 = .ok (.getfield 76, 3) := by decide +kernel
theorem dX1_isFree_10 : decode cX1_isFree 10 = .ok (.iload_n 1, 1) := by decide +kernel
theorem dX1_isFree_11 : decode cX1_isFree 11 = .ok (.iaload, 1) := by decide +kernel
theorem dX1_isFree_12 : decode cX1_isFree 12 = .ok (.ifCond .ne 7, 3) := by decide +kernel
theorem dX1_isFree_15 : decode cX1_isFree 15 = .ok (.iconst 1, 1) := by decide +kernel
theorem dX1_isFree_16 : decode cX1_isFree 16 = .ok (.goto 4, 3) := by decide +kernel
theorem dX1_isFree_19 : decode cX1_isFree 19 = .ok (.iconst 0, 1) := by decide +kernel
theorem dX1_isFree_20 : decode cX1_isFree 20 = .ok (.ireturn, 1) := by decide +kernel
theorem dX1_foresee_0 : decode cX1_foresee 0 = .ok (.iconst 0, 1) := by decide +kernel
theorem dX1_foresee_1 : decode cX1_foresee 1 = .ok (.istore_n 3, 1) := by decide +kernel
theorem dX1_foresee_2 : decode cX1_foresee 2 = .ok (.iload_n 3, 1) := by decide +kernel
theorem dX1_foresee_3 : decode cX1_foresee 3 = .ok (.aload_n 0, 1) := by decide +kernel
theorem dX1_foresee_4 : decode cX1_foresee 4 = .ok (.getfield 43, 3) := by decide +kernel
theorem dX1_foresee_7 : decode cX1_foresee 7 = .ok (.getfield 48, 3) := by decide +kernel
theorem dX1_foresee_10 : decode cX1_foresee 10 = .ok (.if_icmp .ge 107, 3) := by decide +kernel
theorem dX1_foresee_13 : decode cX1_foresee 13 = .ok (.aload_n 0, 1) := by decide +kernel
theorem dX1_foresee_14 : decode cX1_foresee 14 = .ok (.getfield 18, 3) := by decide +kernel
theorem dX1_foresee_17 : decode cX1_foresee 17 = .ok (.iload_n 3, 1) := by decide +kernel
theorem dX1_foresee_18 : decode cX1_foresee 18 = .ok (.iconst 0, 1) := by decide +kernel
theorem dX1_foresee_19 : decode cX1_foresee 19 = .ok (.iastore, 1) := by decide +kernel
theorem dX1_foresee_20 : decode cX1_foresee 20 = .ok (.aload_n 0, 1) := by decide +kernel
theorem dX1_foresee_21 : decode cX1_foresee 21 = .ok (.getfield 21, 3) := by decide +kernel
theorem dX1_foresee_24 : decode cX1_foresee 24 = .ok (.iload_n 3, 1) := by decide +kernel
theorem dX1_foresee_25 : decode cX1_foresee 25 = .ok (.iconst 0, 1) := by decide +kernel
theorem dX1_foresee_26 : decode cX1_foresee 26 = .ok (.iastore, 1) := by decide +kernel
theorem dX1_foresee_27 : decode cX1_foresee 27 = .ok (.iconst 0, 1) := by decide +kernel
theorem dX1_foresee_28 : decode cX1_foresee 28 = .ok (.istore 4, 2) := by decide +kernel
theorem dX1_foresee_30 : decode cX1_foresee 30 = .ok (.iload 4, 2) := by decide +kernel
theorem dX1_foresee_32 : decode cX1_foresee 32 = .ok (.aload_n 0, 1) := by decide +kernel
theorem dX1_foresee_33 : decode cX1_foresee 33 = .ok (.getfield 24, 3) := by decide +kernel
theorem dX1_foresee_36 : decode cX1_foresee 36 = .ok (.getfield 79, 3) := by decide +kernel
theorem dX1_foresee_39 : decode cX1_foresee 39 = .ok (.getfield 83, 3) := by decide +kernel
theorem dX1_foresee_42 : decode cX1_foresee 42 = .ok (.if_icmp .ge 69, 3) := by decide +kernel
theorem dX1_foresee_45 : decode cX1_foresee 45 = .ok (.aload_n 0, 1) := by decide +kernel
theorem dX1_foresee_46 : decode cX1_foresee 46 = .ok (.getfield 18, 3) := by decide +kernel
theorem dX1_foresee_49 : decode cX1_foresee 49 = .ok (.iload_n 3, 1) := by decide +kernel
theorem dX1_foresee_50 : decode cX1_foresee 50 = .ok (.dup2, 1) := by decide +kernel
theorem dX1_foresee_51 : decode cX1_foresee 51 = .ok (.iaload, 1) := by decide +kernel
theorem dX1_foresee_52 : decode cX1_foresee 52 = .ok (.aload_n 0, 1) := by decide +kernel
theorem dX1_foresee_53 : decode cX1_foresee 53 = .ok (.iload_n 3, 1) := by decide +kernel
theorem dX1_foresee_54 : decode cX1_foresee 54 = .ok (.iload 4, 2) := by decide +kernel
theorem dX1_foresee_56 : decode cX1_foresee 56 = .ok (.iconst 0, 1) := by decide +kernel
theorem dX1_foresee_57 : decode cX1_foresee 57 = .ok (.iload_n 1, 1) := by decide +kernel
theorem dX1_foresee_58 : decode cX1_foresee 58 = .ok (.iload_n 2, 1) := by decide +kernel
theorem dX1_foresee_59 : decode cX1_foresee 59 = .ok (.invokevirtual 86, 3) := by decide +kernel
theorem dX1_foresee_62 : decode cX1_foresee 62 = .ok (.ifCond .eq 10, 3) := by decide +kernel
theorem dX1_foresee_65 : decode cX1_foresee 65 = .ok (.iconst 1, 1) := by decide +kernel
theorem dX1_foresee_66 : decode cX1_foresee 66 = .ok (.iload 4, 2) := by decide +kernel
theorem dX1_foresee_68 : decode cX1_foresee 68 = .ok (.ishl, 1) := by decide +kernel
theorem dX1_foresee_69 : decode cX1_foresee 69 = .ok (.goto 4, 3) := by decide +kernel
theorem dX1_foresee_72 : decode cX1_foresee 72 = .ok (.iconst 0, 1) := by decide +kernel
theorem dX1_foresee_73 : decode cX1_foresee 73 = .ok (.ior, 1) := by decide +kernel
theorem dX1_foresee_74 : decode cX1_foresee 74 = .ok (.iastore, 1) := by decide +kernel
theorem dX1_foresee_75 : decode cX1_foresee 75 = .ok (.aload_n 0, 1) := by decide +kernel
theorem dX1_foresee_76 : decode cX1_foresee 76 = .ok (.getfield 21, 3) := by decide +kernel
theorem dX1_foresee_79 : decode cX1_foresee 79 = .ok (.iload_n 3, 1) := by decide +kernel
theorem dX1_foresee_80 : decode cX1_foresee 80 = .ok (.dup2, 1) := by decide +kernel
theorem dX1_foresee_81 : decode cX1_foresee 81 = .ok (.iaload, 1) := by decide +kernel
theorem dX1_foresee_82 : decode cX1_foresee 82 = .ok (.aload_n 0, 1) := by decide +kernel
theorem dX1_foresee_83 : decode cX1_foresee 83 = .ok (.iload_n 3, 1) := by decide +kernel
theorem dX1_foresee_84 : decode cX1_foresee 84 = .ok (.iload 4, 2) := by decide +kernel
theorem dX1_foresee_86 : decode cX1_foresee 86 = .ok (.iconst 1, 1) := by decide +kernel
theorem dX1_foresee_87 : decode cX1_foresee 87 = .ok (.iload_n 1, 1) := by decide +kernel
theorem dX1_foresee_88 : decode cX1_foresee 88 = .ok (.iload_n 2, 1) := by decide +kernel
theorem dX1_foresee_89 : decode cX1_foresee 89 = .ok (.invokevirtual 86, 3) := by decide +kernel
theorem dX1_foresee_92 : decode cX1_foresee 92 = .ok (.ifCond .eq 10, 3) := by decide +kernel
theorem dX1_foresee_95 : decode cX1_foresee 95 = .ok (.iconst 1, 1) := by decide +kernel
theorem dX1_foresee_96 : decode cX1_foresee 96 = .ok (.iload 4, 2) := by decide +kernel
theorem dX1_foresee_98 : decode cX1_foresee 98 = .ok (.ishl, 1) := by decide +kernel
theorem dX1_foresee_99 : decode cX1_foresee 99 = .ok (.goto 4, 3) := by decide +kernel
theorem dX1_foresee_102 : decode cX1_foresee 102 = .ok (.iconst 0, 1) := by decide +kernel
theorem dX1_foresee_103 : decode cX1_foresee 103 = .ok (.ior, 1) := by decide +kernel
theorem dX1_foresee_104 : decode cX1_foresee 104 = .ok (.iastore, 1) := by decide +kernel
theorem dX1_foresee_105 : decode cX1_foresee 105 = .ok (.iinc 4 1, 3) := by decide +kernel
theorem dX1_foresee_108 : decode cX1_foresee 108 = .ok (.goto (-78), 3) := by decide +kernel
theorem dX1_foresee_111 : decode cX1_foresee 111 = .ok (.iinc 3 1, 3) := by decide +kernel
theorem dX1_foresee_114 : decode cX1_foresee 114 = .ok (.goto (-112), 3) := by decide +kernel
theorem dX1_foresee_117 : decode cX1_foresee 117 = .ok (.return_, 1) := by decide +kernel
theorem dX1_isReadyIn_0 : decode cX1_isReadyIn 0 = .ok (.aload_n 0, 1) := by decide +kernel
theorem dX1_isReadyIn_1 : decode cX1_isReadyIn 1 = .ok (.getfield 28, 3) := by decide +kernel
theorem dX1_isReadyIn_4 : decode cX1_isReadyIn 4 = .ok (.aload_n 0, 1) := by decide +kernel
theorem dX1_isReadyIn_5 : decode cX1_isReadyIn 5 = .ok (.getfield 24, 3) := by decide +kernel
theorem dX1_isReadyIn_8 : decode cX1_isReadyIn 8 = .ok (.invokevirtual 90, 3) := by decide +kernel
theorem dX1_isReadyIn_11 : decode cX1_isReadyIn 11 = .ok (.aload_n 0, 1) := by decide +kernel
theorem dX1_isReadyIn_12 : decode cX1_isReadyIn 12 = .ok (.getfield 28, 3) := by decide +kernel
theorem dX1_isReadyIn_15 : decode cX1_isReadyIn 15 = .ok (.getfield 31, 3) := by decide +kernel
theorem dX1_isReadyIn_18 : decode cX1_isReadyIn 18 = .ok (.getfield 58, 3) := by decide +kernel
theorem dX1_isReadyIn_21 : decode cX1_isReadyIn 21 = .ok (.iload_n 1, 1) := by decide +kernel
theorem dX1_isReadyIn_22 : decode cX1_isReadyIn 22 = .ok (.iload_n 2, 1) := by decide +kernel
theorem dX1_isReadyIn_23 : decode cX1_isReadyIn 23 = .ok (.iastore, 1) := by decide +kernel
theorem dX1_isReadyIn_24 : decode cX1_isReadyIn 24 = .ok (.iconst 0, 1) := by decide +kernel
theorem dX1_isReadyIn_25 : decode cX1_isReadyIn 25 = .ok (.istore 6, 2) := by decide +kernel
theorem dX1_isReadyIn_27 : decode cX1_isReadyIn 27 = .ok (.iload 6, 2) := by decide +kernel
theorem dX1_isReadyIn_29 : decode cX1_isReadyIn 29 = .ok (.iload 4, 2) := by decide +kernel
theorem dX1_isReadyIn_31 : decode cX1_isReadyIn 31 = .ok (.if_icmp .ge 40, 3) := by decide +kernel
theorem dX1_isReadyIn_34 : decode cX1_isReadyIn 34 = .ok (.aload_n 0, 1) := by decide +kernel
theorem dX1_isReadyIn_35 : decode cX1_isReadyIn 35 = .ok (.getfield 28, 3) := by decide +kernel
theorem dX1_isReadyIn_38 : decode cX1_isReadyIn 38 = .ok (.getfield 79, 3) := by decide +kernel
theorem dX1_isReadyIn_41 : decode cX1_isReadyIn 41 = .ok (.iload 5, 2) := by decide +kernel
theorem dX1_isReadyIn_43 : decode cX1_isReadyIn 43 = .ok (.invokevirtual 94, 3) := by decide +kernel
theorem dX1_isReadyIn_46 : decode cX1_isReadyIn 46 = .ok (.aload_n 0, 1) := by decide +kernel
theorem dX1_isReadyIn_47 : decode cX1_isReadyIn 47 = .ok (.getfield 28, 3) := by decide +kernel
theorem dX1_isReadyIn_50 : decode cX1_isReadyIn 50 = .ok (.getfield 31, 3) := by decide +kernel
theorem dX1_isReadyIn_53 : decode cX1_isReadyIn 53 = .ok (.iload_n 1, 1) := by decide +kernel
theorem dX1_isReadyIn_54 : decode cX1_isReadyIn 54 = .ok (.aload_n 0, 1) := by decide +kernel
theorem dX1_isReadyIn_55 : decode cX1_isReadyIn 55 = .ok (.getfield 28, 3) := by decide +kernel
theorem dX1_isReadyIn_58 : decode cX1_isReadyIn 58 = .ok (.getfield 79, 3) := by decide +kernel
theorem dX1_isReadyIn_61 : decode cX1_isReadyIn 61 = .ok (.iload_n 3, 1) := by decide +kernel
theorem dX1_isReadyIn_62 : decode cX1_isReadyIn 62 = .ok (.invokevirtual 98, 3) := by decide +kernel
theorem dX1_isReadyIn_65 : decode cX1_isReadyIn 65 = .ok (.iinc 6 1, 3) := by decide +kernel
theorem dX1_isReadyIn_68 : decode cX1_isReadyIn 68 = .ok (.goto (-41), 3) := by decide +kernel
theorem dX1_isReadyIn_71 : decode cX1_isReadyIn 71 = .ok (.aload_n 0, 1) := by decide +kernel
theorem dX1_isReadyIn_72 : decode cX1_isReadyIn 72 = .ok (.getfield 28, 3) := by decide +kernel
theorem dX1_isReadyIn_75 : decode cX1_isReadyIn 75 = .ok (.getfield 31, 3) := by decide +kernel
theorem dX1_isReadyIn_78 : decode cX1_isReadyIn 78 = .ok (.getfield 76, 3) := by decide +kernel
theorem dX1_isReadyIn_81 : decode cX1_isReadyIn 81 = .ok (.iload_n 1, 1) := by decide +kernel
theorem dX1_isReadyIn_82 : decode cX1_isReadyIn 82 = .ok (.iaload, 1) := by decide +kernel
theorem dX1_isReadyIn_83 : decode cX1_isReadyIn 83 = .ok (.iconst 1, 1) := by decide +kernel
theorem dX1_isReadyIn_84 : decode cX1_isReadyIn 84 = .ok (.if_icmp .ne 7, 3) := by decide +kernel
theorem dX1_isReadyIn_87 : decode cX1_isReadyIn 87 = .ok (.iconst 1, 1) := by decide +kernel
theorem dX1_isReadyIn_88 : decode cX1_isReadyIn 88 = .ok (.goto 4, 3) := by decide +kernel
theorem dX1_isReadyIn_91 : decode cX1_isReadyIn 91 = .ok (.iconst 0, 1) := by decide +kernel
theorem dX1_isReadyIn_92 : decode cX1_isReadyIn 92 = .ok (.ireturn, 1) := by decide +kernel
theorem dX1_mostPossible_0 : decode cX1_mostPossible 0 = .ok (.iconst 0, 1) := by decide +kernel
theorem dX1_mostPossible_1 : decode cX1_mostPossible 1 = .ok (.istore_n 1, 1) := by decide +kernel
theorem dX1_mostPossible_2 : decode cX1_mostPossible 2 = .ok (.iconst 0, 1) := by decide +kernel
theorem dX1_mostPossible_3 : decode cX1_mostPossible 3 = .ok (.istore_n 2, 1) := by decide +kernel
theorem dX1_mostPossible_4 : decode cX1_mostPossible 4 = .ok (.iload_n 2, 1) := by decide +kernel
theorem dX1_mostPossible_5 : decode cX1_mostPossible 5 = .ok (.aload_n 0, 1) := by decide +kernel
theorem dX1_mostPossible_6 : decode cX1_mostPossible 6 = .ok (.getfield 43, 3) := by decide +kernel
theorem dX1_mostPossible_9 : decode cX1_mostPossible 9 = .ok (.getfield 48, 3) := by decide +kernel
theorem dX1_mostPossible_12 : decode cX1_mostPossible 12 = .ok (.if_icmp .ge 33, 3) := by decide +kernel
theorem dX1_mostPossible_15 : decode cX1_mostPossible 15 = .ok (.iload_n 1, 1) := by decide +kernel
theorem dX1_mostPossible_16 : decode cX1_mostPossible 16 = .ok (.aload_n 0, 1) := by decide +kernel
theorem dX1_mostPossible_17 : decode cX1_mostPossible 17 = .ok (.getfield 18, 3) := by decide +kernel
theorem dX1_mostPossible_20 : decode cX1_mostPossible 20 = .ok (.iload_n 2, 1) := by decide +kernel
theorem dX1_mostPossible_21 : decode cX1_mostPossible 21 = .ok (.iaload, 1) := by decide +kernel
theorem dX1_mostPossible_22 : decode cX1_mostPossible 22 = .ok (.aload_n 0, 1) := by decide +kernel
theorem dX1_mostPossible_23 : decode cX1_mostPossible 23 = .ok (.getfield 21, 3) := by decide +kernel
theorem dX1_mostPossible_26 : decode cX1_mostPossible 26 = .ok (.iload_n 2, 1) := by decide +kernel
theorem dX1_mostPossible_27 : decode cX1_mostPossible 27 = .ok (.iaload, 1) := by decide +kernel
theorem dX1_mostPossible_28 : decode cX1_mostPossible 28 = .ok (.ior, 1) := by decide +kernel
theorem dX1_mostPossible_29 : decode cX1_mostPossible 29 = .ok (.ifCond .eq 7, 3) := by decide +kernel
theorem dX1_mostPossible_32 : decode cX1_mostPossible 32 = .ok (.iconst 1, 1) := by decide +kernel
theorem dX1_mostPossible_33 : decode cX1_mostPossible 33 = .ok (.goto 4, 3) := by decide +kernel
theorem dX1_mostPossible_36 : decode cX1_mostPossible 36 = .ok (.iconst 0, 1) := by decide +kernel
theorem dX1_mostPossible_37 : decode cX1_mostPossible 37 = .ok (.iadd, 1) := by decide +kernel
theorem dX1_mostPossible_38 : decode cX1_mostPossible 38 = .ok (.istore_n 1, 1) := by decide +kernel
theorem dX1_mostPossible_39 : decode cX1_mostPossible 39 = .ok (.iinc 2 1, 3) := by decide +kernel
theorem dX1_mostPossible_42 : decode cX1_mostPossible 42 = .ok (.goto (-38), 3) := by decide +kernel
theorem dX1_mostPossible_45 : decode cX1_mostPossible 45 = .ok (.iload_n 1, 1) := by decide +kernel
theorem dX1_mostPossible_46 : decode cX1_mostPossible 46 = .ok (.ireturn, 1) := by decide +kernel
theorem dX1_readyHere_0 : decode cX1_readyHere 0 = .ok (.iconst 0, 1) := by decide +kernel
theorem dX1_readyHere_1 : decode cX1_readyHere 1 = .ok (.istore_n 1, 1) := by decide +kernel
theorem dX1_readyHere_2 : decode cX1_readyHere 2 = .ok (.iconst 0, 1) := by decide +kernel
theorem dX1_readyHere_3 : decode cX1_readyHere 3 = .ok (.istore_n 2, 1) := by decide +kernel
theorem dX1_readyHere_4 : decode cX1_readyHere 4 = .ok (.iload_n 2, 1) := by decide +kernel
theorem dX1_readyHere_5 : decode cX1_readyHere 5 = .ok (.aload_n 0, 1) := by decide +kernel
theorem dX1_readyHere_6 : decode cX1_readyHere 6 = .ok (.getfield 43, 3) := by decide +kernel
theorem dX1_readyHere_9 : decode cX1_readyHere 9 = .ok (.getfield 48, 3) := by decide +kernel
theorem dX1_readyHere_12 : decode cX1_readyHere 12 = .ok (.if_icmp .ge 35, 3) := by decide +kernel
theorem dX1_readyHere_15 : decode cX1_readyHere 15 = .ok (.iload_n 1, 1) := by decide +kernel
theorem dX1_readyHere_16 : decode cX1_readyHere 16 = .ok (.aload_n 0, 1) := by decide +kernel
theorem dX1_readyHere_17 : decode cX1_readyHere 17 = .ok (.getfield 43, 3) := by decide +kernel
theorem dX1_readyHere_20 : decode cX1_readyHere 20 = .ok (.iload_n 2, 1) := by decide +kernel
theorem dX1_readyHere_21 : decode cX1_readyHere 21 = .ok (.invokevirtual 102, 3) := by decide +kernel
theorem dX1_readyHere_24 : decode cX1_readyHere 24 = .ok (.ifCond .eq 14, 3) := by decide +kernel
theorem dX1_readyHere_27 : decode cX1_readyHere 27 = .ok (.iconst 2, 1) := by decide +kernel
theorem dX1_readyHere_28 : decode cX1_readyHere 28 = .ok (.aload_n 0, 1) := by decide +kernel
theorem dX1_readyHere_29 : decode cX1_readyHere 29 = .ok (.getfield 15, 3) := by decide +kernel
theorem dX1_readyHere_32 : decode cX1_readyHere 32 = .ok (.iload_n 2, 1) := by decide +kernel
theorem dX1_readyHere_33 : decode cX1_readyHere 33 = .ok (.iaload, 1) := by decide +kernel
theorem dX1_readyHere_34 : decode cX1_readyHere 34 = .ok (.ishl, 1) := by decide +kernel
theorem dX1_readyHere_35 : decode cX1_readyHere 35 = .ok (.goto 4, 3) := by decide +kernel
theorem dX1_readyHere_38 : decode cX1_readyHere 38 = .ok (.iconst 0, 1) := by decide +kernel
theorem dX1_readyHere_39 : decode cX1_readyHere 39 = .ok (.ior, 1) := by decide +kernel
theorem dX1_readyHere_40 : decode cX1_readyHere 40 = .ok (.istore_n 1, 1) := by decide +kernel
theorem dX1_readyHere_41 : decode cX1_readyHere 41 = .ok (.iinc 2 1, 3) := by decide +kernel
theorem dX1_readyHere_44 : decode cX1_readyHere 44 = .ok (.goto (-40), 3) := by decide +kernel
theorem dX1_readyHere_47 : decode cX1_readyHere 47 = .ok (.iconst 0, 1) := by decide +kernel
theorem dX1_readyHere_48 : decode cX1_readyHere 48 = .ok (.istore_n 2, 1) := by decide +kernel
theorem dX1_readyHere_49 : decode cX1_readyHere 49 = .ok (.iconst 0, 1) := by decide +kernel
theorem dX1_readyHere_50 : decode cX1_readyHere 50 = .ok (.istore_n 3, 1) := by decide +kernel
theorem dX1_readyHere_51 : decode cX1_readyHere 51 = .ok (.iload_n 3, 1) := by decide +kernel
theorem dX1_readyHere_52 : decode cX1_readyHere 52 = .ok (.aload_n 0, 1) := by decide +kernel
theorem dX1_readyHere_53 : decode cX1_readyHere 53 = .ok (.getfield 43, 3) := by decide +kernel
theorem dX1_readyHere_56 : decode cX1_readyHere 56 = .ok (.getfield 48, 3) := by decide +kernel
theorem dX1_readyHere_59 : decode cX1_readyHere 59 = .ok (.if_icmp .ge 62, 3) := by decide +kernel
theorem dX1_readyHere_62 : decode cX1_readyHere 62 = .ok (.iload_n 1, 1) := by decide +kernel
theorem dX1_readyHere_63 : decode cX1_readyHere 63 = .ok (.aload_n 0, 1) := by decide +kernel
theorem dX1_readyHere_64 : decode cX1_readyHere 64 = .ok (.getfield 15, 3) := by decide +kernel
theorem dX1_readyHere_67 : decode cX1_readyHere 67 = .ok (.iload_n 3, 1) := by decide +kernel
theorem dX1_readyHere_68 : decode cX1_readyHere 68 = .ok (.iaload, 1) := by decide +kernel
theorem dX1_readyHere_69 : decode cX1_readyHere 69 = .ok (.ishr, 1) := by decide +kernel
theorem dX1_readyHere_70 : decode cX1_readyHere 70 = .ok (.iconst 1, 1) := by decide +kernel
theorem dX1_readyHere_71 : decode cX1_readyHere 71 = .ok (.iand, 1) := by decide +kernel
theorem dX1_readyHere_72 : decode cX1_readyHere 72 = .ok (.iconst 1, 1) := by decide +kernel
theorem dX1_readyHere_73 : decode cX1_readyHere 73 = .ok (.if_icmp .ne 7, 3) := by decide +kernel
theorem dX1_readyHere_76 : decode cX1_readyHere 76 = .ok (.iconst 1, 1) := by decide +kernel
theorem dX1_readyHere_77 : decode cX1_readyHere 77 = .ok (.goto 4, 3) := by decide +kernel
theorem dX1_readyHere_80 : decode cX1_readyHere 80 = .ok (.iconst 0, 1) := by decide +kernel
theorem dX1_readyHere_81 : decode cX1_readyHere 81 = .ok (.istore 4, 2) := by decide +kernel
theorem dX1_readyHere_83 : decode cX1_readyHere 83 = .ok (.iload_n 2, 1) := by decide +kernel
theorem dX1_readyHere_84 : decode cX1_readyHere 84 = .ok (.iload 4, 2) := by decide +kernel
theorem dX1_readyHere_86 : decode cX1_readyHere 86 = .ok (.ifCond .eq 12, 3) := by decide +kernel
theorem dX1_readyHere_89 : decode cX1_readyHere 89 = .ok (.aload_n 0, 1) := by decide +kernel
theorem dX1_readyHere_90 : decode cX1_readyHere 90 = .ok (.getfield 21, 3) := by decide +kernel
theorem dX1_readyHere_93 : decode cX1_readyHere 93 = .ok (.iload_n 3, 1) := by decide +kernel
theorem dX1_readyHere_94 : decode cX1_readyHere 94 = .ok (.iaload, 1) := by decide +kernel
theorem dX1_readyHere_95 : decode cX1_readyHere 95 = .ok (.goto 9, 3) := by decide +kernel
theorem dX1_readyHere_98 : decode cX1_readyHere 98 = .ok (.aload_n 0, 1) := by decide +kernel
theorem dX1_readyHere_99 : decode cX1_readyHere 99 = .ok (.getfield 18, 3) := by decide +kernel
theorem dX1_readyHere_102 : decode cX1_readyHere 102 = .ok (.iload_n 3, 1) := by decide +kernel
theorem dX1_readyHere_103 : decode cX1_readyHere 103 = .ok (.iaload, 1) := by decide +kernel
theorem dX1_readyHere_104 : decode cX1_readyHere 104 = .ok (.aload_n 0, 1) := by decide +kernel
theorem dX1_readyHere_105 : decode cX1_readyHere 105 = .ok (.getfield 15, 3) := by decide +kernel
theorem dX1_readyHere_108 : decode cX1_readyHere 108 = .ok (.iload_n 3, 1) := by decide +kernel
theorem dX1_readyHere_109 : decode cX1_readyHere 109 = .ok (.iaload, 1) := by decide +kernel
theorem dX1_readyHere_110 : decode cX1_readyHere 110 = .ok (.ishr, 1) := by decide +kernel
theorem dX1_readyHere_111 : decode cX1_readyHere 111 = .ok (.iconst 1, 1) := by decide +kernel
theorem dX1_readyHere_112 : decode cX1_readyHere 112 = .ok (.iand, 1) := by decide +kernel
theorem dX1_readyHere_113 : decode cX1_readyHere 113 = .ok (.iadd, 1) := by decide +kernel
theorem dX1_readyHere_114 : decode cX1_readyHere 114 = .ok (.istore_n 2, 1) := by decide +kernel
theorem dX1_readyHere_115 : decode cX1_readyHere 115 = .ok (.iinc 3 1, 3) := by decide +kernel
theorem dX1_readyHere_118 : decode cX1_readyHere 118 = .ok (.goto (-67), 3) := by decide +kernel
theorem dX1_readyHere_121 : decode cX1_readyHere 121 = .ok (.iload_n 2, 1) := by decide +kernel
theorem dX1_readyHere_122 : decode cX1_readyHere 122 = .ok (.ireturn, 1) := by decide +kernel
theorem dX1_nextPlacing_0 : decode cX1_nextPlacing 0 = .ok (.aload_n 0, 1) := by decide +kernel
theorem dX1_nextPlacing_1 : decode cX1_nextPlacing 1 = .ok (.getfield 43, 3) := by decide +kernel
theorem dX1_nextPlacing_4 : decode cX1_nextPlacing 4 = .ok (.getfield 48, 3) := by decide +kernel
theorem dX1_nextPlacing_7 : decode cX1_nextPlacing 7 = .ok (.iconst 1, 1) := by decide +kernel
theorem dX1_nextPlacing_8 : decode cX1_nextPlacing 8 = .ok (.isub, 1) := by decide +kernel
theorem dX1_nextPlacing_9 : decode cX1_nextPlacing 9 = .ok (.istore_n 1, 1) := by decide +kernel
theorem dX1_nextPlacing_10 : decode cX1_nextPlacing 10 = .ok (.iload_n 1, 1) := by decide +kernel
theorem dX1_nextPlacing_11 : decode cX1_nextPlacing 11 = .ok (.ifCond .lt 57, 3) := by decide +kernel
theorem dX1_nextPlacing_14 : decode cX1_nextPlacing 14 = .ok (.aload_n 0, 1) := by decide +kernel
theorem dX1_nextPlacing_15 : decode cX1_nextPlacing 15 = .ok (.iload_n 1, 1) := by decide +kernel
theorem dX1_nextPlacing_16 : decode cX1_nextPlacing 16 = .ok (.invokevirtual 54, 3) := by decide +kernel
theorem dX1_nextPlacing_19 : decode cX1_nextPlacing 19 = .ok (.ifCond .eq 43, 3) := by decide +kernel
theorem dX1_nextPlacing_22 : decode cX1_nextPlacing 22 = .ok (.aload_n 0, 1) := by decide +kernel
theorem dX1_nextPlacing_23 : decode cX1_nextPlacing 23 = .ok (.getfield 15, 3) := by decide +kernel
theorem dX1_nextPlacing_26 : decode cX1_nextPlacing 26 = .ok (.iload_n 1, 1) := by decide +kernel
theorem dX1_nextPlacing_27 : decode cX1_nextPlacing 27 = .ok (.iaload, 1) := by decide +kernel
theorem dX1_nextPlacing_28 : decode cX1_nextPlacing 28 = .ok (.iconst 1, 1) := by decide +kernel
theorem dX1_nextPlacing_29 : decode cX1_nextPlacing 29 = .ok (.iadd, 1) := by decide +kernel
theorem dX1_nextPlacing_30 : decode cX1_nextPlacing 30 = .ok (.aload_n 0, 1) := by decide +kernel
theorem dX1_nextPlacing_31 : decode cX1_nextPlacing 31 = .ok (.getfield 24, 3) := by decide +kernel
theorem dX1_nextPlacing_34 : decode cX1_nextPlacing 34 = .ok (.getfield 79, 3) := by decide +kernel
theorem dX1_nextPlacing_37 : decode cX1_nextPlacing 37 = .ok (.getfield 83, 3) := by decide +kernel
theorem dX1_nextPlacing_40 : decode cX1_nextPlacing 40 = .ok (.if_icmp .ge 15, 3) := by decide +kernel
theorem dX1_nextPlacing_43 : decode cX1_nextPlacing 43 = .ok (.aload_n 0, 1) := by decide +kernel
theorem dX1_nextPlacing_44 : decode cX1_nextPlacing 44 = .ok (.getfield 15, 3) := by decide +kernel
theorem dX1_nextPlacing_47 : decode cX1_nextPlacing 47 = .ok (.iload_n 1, 1) := by decide +kernel
theorem dX1_nextPlacing_48 : decode cX1_nextPlacing 48 = .ok (.dup2, 1) := by decide +kernel
theorem dX1_nextPlacing_49 : decode cX1_nextPlacing 49 = .ok (.iaload, 1) := by decide +kernel
theorem dX1_nextPlacing_50 : decode cX1_nextPlacing 50 = .ok (.iconst 1, 1) := by decide +kernel
theorem dX1_nextPlacing_51 : decode cX1_nextPlacing 51 = .ok (.iadd, 1) := by decide +kernel
theorem dX1_nextPlacing_52 : decode cX1_nextPlacing 52 = .ok (.iastore, 1) := by decide +kernel
theorem dX1_nextPlacing_53 : decode cX1_nextPlacing 53 = .ok (.iconst 1, 1) := by decide +kernel
theorem dX1_nextPlacing_54 : decode cX1_nextPlacing 54 = .ok (.ireturn, 1) := by decide +kernel
theorem dX1_nextPlacing_55 : decode cX1_nextPlacing 55 = .ok (.aload_n 0, 1) := by decide +kernel
theorem dX1_nextPlacing_56 : decode cX1_nextPlacing 56 = .ok (.getfield 15, 3) := by decide +kernel
theorem dX1_nextPlacing_59 : decode cX1_nextPlacing 59 = .ok (.iload_n 1, 1) := by decide +kernel
theorem dX1_nextPlacing_60 : decode cX1_nextPlacing 60 = .ok (.iconst 0, 1) := by decide +kernel
theorem dX1_nextPlacing_61 : decode cX1_nextPlacing 61 = .ok (.iastore, 1) := by decide +kernel
theorem dX1_nextPlacing_62 : decode cX1_nextPlacing 62 = .ok (.iinc 1 (-1), 3) := by decide +kernel
theorem dX1_nextPlacing_65 : decode cX1_nextPlacing 65 = .ok (.goto (-55), 3) := by decide +kernel
theorem dX1_nextPlacing_68 : decode cX1_nextPlacing 68 = .ok (.iconst 0, 1) := by decide +kernel
theorem dX1_nextPlacing_69 : decode cX1_nextPlacing 69 = .ok (.ireturn, 1) := by decide +kernel
theorem dX2_init_0 : decode cX2_init 0 = .ok (.aload_n 0, 1) := by decide +kernel
theorem dX2_init_1 : decode cX2_init 1 = .ok (.invokespecial 3, 3) := by decide +kernel
theorem dX2_init_4 : decode cX2_init 4 = .ok (.aload_n 0, 1) := by decide +kernel
theorem dX2_init_5 : decode cX2_init 5 = .ok (.iconst 5, 1) := by decide +kernel
theorem dX2_init_6 : decode cX2_init 6 = .ok (.newarray .int, 2) := by decide +kernel
theorem dX2_init_8 : decode cX2_init 8 = .ok (.putfield 9, 3) := by decide +kernel
theorem dX2_init_11 : decode cX2_init 11 = .ok (.aload_n 0, 1) := by decide +kernel
theorem dX2_init_12 : decode cX2_init 12 = .ok (.iconst 5, 1) := by decide +kernel
theorem dX2_init_13 : decode cX2_init 13 = .ok (.newarray .int, 2) := by decide +kernel
theorem dX2_init_15 : decode cX2_init 15 = .ok (.putfield 15, 3) := by decide +kernel
theorem dX2_init_18 : decode cX2_init 18 = .ok (.aload_n 0, 1) := by decide +kernel
theorem dX2_init_19 : decode cX2_init 19 = .ok (.iconst 5, 1) := by decide +kernel
theorem dX2_init_20 : decode cX2_init 20 = .ok (.newarray .int, 2) := by decide +kernel
theorem dX2_init_22 : decode cX2_init 22 = .ok (.putfield 18, 3) := by decide +kernel
theorem dX2_init_25 : decode cX2_init 25 = .ok (.aload_n 0, 1) := by decide +kernel
theorem dX2_init_26 : decode cX2_init 26 = .ok (.iconst 5, 1) := by decide +kernel
theorem dX2_init_27 : decode cX2_init 27 = .ok (.newarray .int, 2) := by decide +kernel
theorem dX2_init_29 : decode cX2_init 29 = .ok (.putfield 21, 3) := by decide +kernel
theorem dX2_init_32 : decode cX2_init 32 = .ok (.aload_n 0, 1) := by decide +kernel
theorem dX2_init_33 : decode cX2_init 33 = .ok (.iconst 5, 1) := by decide +kernel
theorem dX2_init_34 : decode cX2_init 34 = .ok (.newarray .int, 2) := by decide +kernel
theorem dX2_init_36 : decode cX2_init 36 = .ok (.putfield 24, 3) := by decide +kernel
theorem dX2_init_39 : decode cX2_init 39 = .ok (.aload_n 0, 1) := by decide +kernel
theorem dX2_init_40 : decode cX2_init 40 = .ok (.iconst 2, 1) := by decide +kernel
theorem dX2_init_41 : decode cX2_init 41 = .ok (.putfield 27, 3) := by decide +kernel
theorem dX2_init_44 : decode cX2_init 44 = .ok (.iconst 0, 1) := by decide +kernel
theorem dX2_init_45 : decode cX2_init 45 = .ok (.istore_n 1, 1) := by decide +kernel
theorem dX2_init_46 : decode cX2_init 46 = .ok (.iload_n 1, 1) := by decide +kernel
theorem dX2_init_47 : decode cX2_init 47 = .ok (.iconst 5, 1) := by decide +kernel
theorem dX2_init_48 : decode cX2_init 48 = .ok (.if_icmp .ge 16, 3) := by decide +kernel
theorem dX2_init_51 : decode cX2_init 51 = .ok (.aload_n 0, 1) := by decide +kernel
theorem dX2_init_52 : decode cX2_init 52 = .ok (.getfield 15, 3) := by decide +kernel
theorem dX2_init_55 : decode cX2_init 55 = .ok (.iload_n 1, 1) := by decide +kernel
theorem dX2_init_56 : decode cX2_init 56 = .ok (.iconst 5, 1) := by decide +kernel
theorem dX2_init_57 : decode cX2_init 57 = .ok (.iastore, 1) := by decide +kernel
theorem dX2_init_58 : decode cX2_init 58 = .ok (.iinc 1 1, 3) := by decide +kernel
theorem dX2_init_61 : decode cX2_init 61 = .ok (.goto (-15), 3) := by decide +kernel
theorem dX2_init_64 : decode cX2_init 64 = .ok (.return_, 1) := by decide +kernel
theorem dX2_isThere_0 : decode cX2_isThere 0 = .ok (.iload_n 1, 1) := by decide +kernel
theorem dX2_isThere_1 : decode cX2_isThere 1 = .ok (.ifCond .lt 15, 3) := by decide +kernel
theorem dX2_isThere_4 : decode cX2_isThere 4 = .ok (.iload_n 1, 1) := by decide +kernel
theorem dX2_isThere_5 : decode cX2_isThere 5 = .ok (.aload_n 0, 1) := by decide +kernel
theorem dX2_isThere_6 : decode cX2_isThere 6 = .ok (.getfield 27, 3) := by decide +kernel
theorem dX2_isThere_9 : decode cX2_isThere 9 = .ok (.if_icmp .ge 7, 3) := by decide +kernel
theorem dX2_isThere_12 : decode cX2_isThere 12 = .ok (.iconst 1, 1) := by decide +kernel
theorem dX2_isThere_13 : decode cX2_isThere 13 = .ok (.goto 4, 3) := by decide +kernel
theorem dX2_isThere_16 : decode cX2_isThere 16 = .ok (.iconst 0, 1) := by decide +kernel
theorem dX2_isThere_17 : decode cX2_isThere 17 = .ok (.ireturn, 1) := by decide +kernel
theorem dX2_build_0 : decode cX2_build 0 = .ok (.aload_n 0, 1) := by decide +kernel
theorem dX2_build_1 : decode cX2_build 1 = .ok (.aload_n 1, 1) := by decide +kernel
theorem dX2_build_2 : decode cX2_build 2 = .ok (.getfield 31, 3) := by decide +kernel
theorem dX2_build_5 : decode cX2_build 5 = .ok (.putfield 27, 3) := by decide +kernel
theorem dX2_build_8 : decode cX2_build 8 = .ok (.aload_n 0, 1) := by decide +kernel
theorem dX2_build_9 : decode cX2_build 9 = .ok (.iconst 0, 1) := by decide +kernel
theorem dX2_build_10 : decode cX2_build 10 = .ok (.putfield 36, 3) := by decide +kernel
theorem dX2_build_13 : decode cX2_build 13 = .ok (.aload_n 0, 1) := by decide +kernel
theorem dX2_build_14 : decode cX2_build 14 = .ok (.invokevirtual 39, 3) := by decide +kernel
theorem dX2_build_17 : decode cX2_build 17 = .ok (.aload_n 1, 1) := by decide +kernel
theorem dX2_build_18 : decode cX2_build 18 = .ok (.getfield 42, 3) := by decide +kernel
theorem dX2_build_21 : decode cX2_build 21 = .ok (.iconst 0, 1) := by decide +kernel
theorem dX2_build_22 : decode cX2_build 22 = .ok (.aload_n 0, 1) := by decide +kernel
theorem dX2_build_23 : decode cX2_build 23 = .ok (.getfield 15, 3) := by decide +kernel
theorem dX2_build_26 : decode cX2_build 26 = .ok (.iconst 0, 1) := by decide +kernel
theorem dX2_build_27 : decode cX2_build 27 = .ok (.iconst 5, 1) := by decide +kernel
theorem dX2_build_28 : decode cX2_build 28 = .ok (.invokestatic 43, 3) := by decide +kernel
theorem dX2_build_31 : decode cX2_build 31 = .ok (.aload_n 1, 1) := by decide +kernel
theorem dX2_build_32 : decode cX2_build 32 = .ok (.getfield 49, 3) := by decide +kernel
theorem dX2_build_35 : decode cX2_build 35 = .ok (.iconst 0, 1) := by decide +kernel
theorem dX2_build_36 : decode cX2_build 36 = .ok (.aload_n 0, 1) := by decide +kernel
theorem dX2_build_37 : decode cX2_build 37 = .ok (.getfield 18, 3) := by decide +kernel
theorem dX2_build_40 : decode cX2_build 40 = .ok (.iconst 0, 1) := by decide +kernel
theorem dX2_build_41 : decode cX2_build 41 = .ok (.iconst 5, 1) := by decide +kernel
theorem dX2_build_42 : decode cX2_build 42 = .ok (.invokestatic 43, 3) := by decide +kernel
theorem dX2_build_45 : decode cX2_build 45 = .ok (.return_, 1) := by decide +kernel
theorem dX2_cool_0 : decode cX2_cool 0 = .ok (.iconst 0, 1) := by decide +kernel
theorem dX2_cool_1 : decode cX2_cool 1 = .ok (.istore_n 1, 1) := by decide +kernel
theorem dX2_cool_2 : decode cX2_cool 2 = .ok (.iload_n 1, 1) := by decide +kernel
theorem dX2_cool_3 : decode cX2_cool 3 = .ok (.iconst 5, 1) := by decide +kernel
theorem dX2_cool_4 : decode cX2_cool 4 = .ok (.if_icmp .ge 16, 3) := by decide +kernel
theorem dX2_cool_7 : decode cX2_cool 7 = .ok (.aload_n 0, 1) := by decide +kernel
theorem dX2_cool_8 : decode cX2_cool 8 = .ok (.getfield 9, 3) := by decide +kernel
theorem dX2_cool_11 : decode cX2_cool 11 = .ok (.iload_n 1, 1) := by decide +kernel
theorem dX2_cool_12 : decode cX2_cool 12 = .ok (.iconst 0, 1) := by decide +kernel
theorem dX2_cool_13 : decode cX2_cool 13 = .ok (.iastore, 1) := by decide +kernel
theorem dX2_cool_14 : decode cX2_cool 14 = .ok (.iinc 1 1, 3) := by decide +kernel
theorem dX2_cool_17 : decode cX2_cool 17 = .ok (.goto (-15), 3) := by decide +kernel
theorem dX2_cool_20 : decode cX2_cool 20 = .ok (.return_, 1) := by decide +kernel
theorem dX2_copyFrom_0 : decode cX2_copyFrom 0 = .ok (.aload_n 0, 1) := by decide +kernel
theorem dX2_copyFrom_1 : decode cX2_copyFrom 1 = .ok (.aload_n 1, 1) := by decide +kernel
theorem dX2_copyFrom_2 : decode cX2_copyFrom 2 = .ok (.getfield 27, 3) := by decide +kernel
theorem dX2_copyFrom_5 : decode cX2_copyFrom 5 = .ok (.putfield 27, 3) := by decide +kernel
theorem dX2_copyFrom_8 : decode cX2_copyFrom 8 = .ok (.aload_n 0, 1) := by decide +kernel
theorem dX2_copyFrom_9 : decode cX2_copyFrom 9 = .ok (.aload_n 1, 1) := by decide +kernel
theorem dX2_copyFrom_10 : decode cX2_copyFrom 10 = .ok (.invokevirtual 50, 3) := by decide +kernel
theorem dX2_copyFrom_13 : decode cX2_copyFrom 13 = .ok (.aload_n 1, 1) := by decide +kernel
theorem dX2_copyFrom_14 : decode cX2_copyFrom 14 = .ok (.getfield 15, 3) := by decide +kernel
theorem dX2_copyFrom_17 : decode cX2_copyFrom 17 = .ok (.iconst 0, 1) := by decide +kernel
theorem dX2_copyFrom_18 : decode cX2_copyFrom 18 = .ok (.aload_n 0, 1) := by decide +kernel
theorem dX2_copyFrom_19 : decode cX2_copyFrom 19 = .ok (.getfield 15, 3) := by decide +kernel
theorem dX2_copyFrom_22 : decode cX2_copyFrom 22 = .ok (.iconst 0, 1) := by decide +kernel
theorem dX2_copyFrom_23 : decode cX2_copyFrom 23 = .ok (.iconst 5, 1) := by decide +kernel
theorem dX2_copyFrom_24 : decode cX2_copyFrom 24 = .ok (.invokestatic 43, 3) := by decide +kernel
theorem dX2_copyFrom_27 : decode cX2_copyFrom 27 = .ok (.aload_n 1, 1) := by decide +kernel
theorem dX2_copyFrom_28 : decode cX2_copyFrom 28 = .ok (.getfield 18, 3) := by decide +kernel
theorem dX2_copyFrom_31 : decode cX2_copyFrom 31 = .ok (.iconst 0, 1) := by decide +kernel
theorem dX2_copyFrom_32 : decode cX2_copyFrom 32 = .ok (.aload_n 0, 1) := by decide +kernel
theorem dX2_copyFrom_33 : decode cX2_copyFrom 33 = .ok (.getfield 18, 3) := by decide +kernel
theorem dX2_copyFrom_36 : decode cX2_copyFrom 36 = .ok (.iconst 0, 1) := by decide +kernel
theorem dX2_copyFrom_37 : decode cX2_copyFrom 37 = .ok (.iconst 5, 1) := by decide +kernel
theorem dX2_copyFrom_38 : decode cX2_copyFrom 38 = .ok (.invokestatic 43, 3) := by decide +kernel
theorem dX2_copyFrom_41 : decode cX2_copyFrom 41 = .ok (.return_, 1) := by decide +kernel
theorem dX2_copyHeat_0 : decode cX2_copyHeat 0 = .ok (.aload_n 0, 1) := by decide +kernel
theorem dX2_copyHeat_1 : decode cX2_copyHeat 1 = .ok (.aload_n 1, 1) := by decide +kernel
theorem dX2_copyHeat_2 : decode cX2_copyHeat 2 = .ok (.getfield 36, 3) := by decide +kernel
theorem dX2_copyHeat_5 : decode cX2_copyHeat 5 = .ok (.putfield 36, 3) := by decide +kernel
theorem dX2_copyHeat_8 : decode cX2_copyHeat 8 = .ok (.aload_n 1, 1) := by decide +kernel
theorem dX2_copyHeat_9 : decode cX2_copyHeat 9 = .ok (.getfield 9, 3) := by decide +kernel
theorem dX2_copyHeat_12 : decode cX2_copyHeat 12 = .ok (.iconst 0, 1) := by decide +kernel
theorem dX2_copyHeat_13 : decode cX2_copyHeat 13 = .ok (.aload_n 0, 1) := by decide +kernel
theorem dX2_copyHeat_14 : decode cX2_copyHeat 14 = .ok (.getfield 9, 3) := by decide +kernel
theorem dX2_copyHeat_17 : decode cX2_copyHeat 17 = .ok (.iconst 0, 1) := by decide +kernel
theorem dX2_copyHeat_18 : decode cX2_copyHeat 18 = .ok (.iconst 5, 1) := by decide +kernel
theorem dX2_copyHeat_19 : decode cX2_copyHeat 19 = .ok (.invokestatic 43, 3) := by decide +kernel
theorem dX2_copyHeat_22 : decode cX2_copyHeat 22 = .ok (.return_, 1) := by decide +kernel
theorem dX2_burn_0 : decode cX2_burn 0 = .ok (.bipush 20, 2) := by decide +kernel
theorem dX2_burn_2 : decode cX2_burn 2 = .ok (.iload_n 1, 1) := by decide +kernel
theorem dX2_burn_3 : decode cX2_burn 3 = .ok (.imul, 1) := by decide +kernel
theorem dX2_burn_4 : decode cX2_burn 4 = .ok (.istore_n 2, 1) := by decide +kernel
theorem dX2_burn_5 : decode cX2_burn 5 = .ok (.iconst 0, 1) := by decide +kernel
theorem dX2_burn_6 : decode cX2_burn 6 = .ok (.istore_n 3, 1) := by decide +kernel
theorem dX2_burn_7 : decode cX2_burn 7 = .ok (.iload_n 3, 1) := by decide +kernel
theorem dX2_burn_8 : decode cX2_burn 8 = .ok (.aload_n 0, 1) := by decide +kernel
theorem dX2_burn_9 : decode cX2_burn 9 = .ok (.getfield 27, 3) := by decide +kernel
theorem dX2_burn_12 : decode cX2_burn 12 = .ok (.if_icmp .ge 94, 3) := by decide +kernel
theorem dX2_burn_15 : decode cX2_burn 15 = .ok (.aload_n 0, 1) := by decide +kernel
theorem dX2_burn_16 : decode cX2_burn 16 = .ok (.getfield 9, 3) := by decide +kernel
theorem dX2_burn_19 : decode cX2_burn 19 = .ok (.iload_n 3, 1) := by decide +kernel
theorem dX2_burn_20 : decode cX2_burn 20 = .ok (.iaload, 1) := by decide +kernel
theorem dX2_burn_21 : decode cX2_burn 21 = .ok (.aload_n 0, 1) := by decide +kernel
theorem dX2_burn_22 : decode cX2_burn 22 = .ok (.getfield 15, 3) := by decide +kernel
theorem dX2_burn_25 : decode cX2_burn 25 = .ok (.iload_n 3, 1) := by decide +kernel
theorem dX2_burn_26 : decode cX2_burn 26 = .ok (.iaload, 1) := by decide +kernel
theorem dX2_burn_27 : decode cX2_burn 27 = .ok (.imul, 1) := by decide +kernel
theorem dX2_burn_28 : decode cX2_burn 28 = .ok (.bipush 10, 2) := by decide +kernel
theorem dX2_burn_30 : decode cX2_burn 30 = .ok (.idiv, 1) := by decide +kernel
theorem dX2_burn_31 : decode cX2_burn 31 = .ok (.istore 4, 2) := by decide +kernel
theorem dX2_burn_33 : decode cX2_burn 33 = .ok (.aload_n 0, 1) := by decide +kernel
theorem dX2_burn_34 : decode cX2_burn 34 = .ok (.getfield 9, 3) := by decide +kernel
theorem dX2_burn_37 : decode cX2_burn 37 = .ok (.iload_n 3, 1) := by decide +kernel
theorem dX2_burn_38 : decode cX2_burn 38 = .ok (.iaload, 1) := by decide +kernel
theorem dX2_burn_39 : decode cX2_burn 39 = .ok (.aload_n 0, 1) := by decide +kernel
theorem dX2_burn_40 : decode cX2_burn 40 = .ok (.getfield 18, 3) := by decide +kernel
theorem dX2_burn_43 : decode cX2_burn 43 = .ok (.iload_n 3, 1) := by decide +kernel
theorem dX2_burn_44 : decode cX2_burn 44 = .ok (.iaload, 1) := by decide +kernel
theorem dX2_burn_45 : decode cX2_burn 45 = .ok (.imul, 1) := by decide +kernel
theorem dX2_burn_46 : decode cX2_burn 46 = .ok (.bipush 10, 2) := by decide +kernel
theorem dX2_burn_48 : decode cX2_burn 48 = .ok (.idiv, 1) := by decide +kernel
theorem dX2_burn_49 : decode cX2_burn 49 = .ok (.istore 5, 2) := by decide +kernel
theorem dX2_burn_51 : decode cX2_burn 51 = .ok (.aload_n 0, 1) := by decide +kernel
theorem dX2_burn_52 : decode cX2_burn 52 = .ok (.getfield 21, 3) := by decide +kernel
theorem dX2_burn_55 : decode cX2_burn 55 = .ok (.iload_n 3, 1) := by decide +kernel
theorem dX2_burn_56 : decode cX2_burn 56 = .ok (.aload_n 0, 1) := by decide +kernel
theorem dX2_burn_57 : decode cX2_burn 57 = .ok (.getfield 9, 3) := by decide +kernel
theorem dX2_burn_60 : decode cX2_burn 60 = .ok (.iload_n 3, 1) := by decide +kernel
theorem dX2_burn_61 : decode cX2_burn 61 = .ok (.iaload, 1) := by decide +kernel
theorem dX2_burn_62 : decode cX2_burn 62 = .ok (.iastore, 1) := by decide +kernel
theorem dX2_burn_63 : decode cX2_burn 63 = .ok (.aload_n 0, 1) := by decide +kernel
theorem dX2_burn_64 : decode cX2_burn 64 = .ok (.getfield 24, 3) := by decide +kernel
theorem dX2_burn_67 : decode cX2_burn 67 = .ok (.iload_n 3, 1) := by decide +kernel
theorem dX2_burn_68 : decode cX2_burn 68 = .ok (.iload_n 2, 1) := by decide +kernel
theorem dX2_burn_69 : decode cX2_burn 69 = .ok (.iastore, 1) := by decide +kernel
theorem dX2_burn_70 : decode cX2_burn 70 = .ok (.aload_n 0, 1) := by decide +kernel
theorem dX2_burn_71 : decode cX2_burn 71 = .ok (.getfield 9, 3) := by decide +kernel
theorem dX2_burn_74 : decode cX2_burn 74 = .ok (.iload_n 3, 1) := by decide +kernel
theorem dX2_burn_75 : decode cX2_burn 75 = .ok (.dup2, 1) := by decide +kernel
theorem dX2_burn_76 : decode cX2_burn 76 = .ok (.iaload, 1) := by decide +kernel
theorem dX2_burn_77 : decode cX2_burn 77 = .ok (.iload_n 2, 1) := by decide +kernel
theorem dX2_burn_78 : decode cX2_burn 78 = .ok (.iload 4, 2) := by decide +kernel
theorem dX2_burn_80 : decode cX2_burn 80 = .ok (.isub, 1) := by decide +kernel
theorem dX2_burn_81 : decode cX2_burn 81 = .ok (.iload 5, 2) := by decide +kernel
theorem dX2_burn_83 : decode cX2_burn 83 = .ok (.isub, 1) := by decide +kernel
theorem dX2_burn_84 : decode cX2_burn 84 = .ok (.iadd, 1) := by decide +kernel
theorem dX2_burn_85 : decode cX2_burn 85 = .ok (.iastore, 1) := by decide +kernel
theorem dX2_burn_86 : decode cX2_burn 86 = .ok (.aload_n 0, 1) := by decide +kernel
theorem dX2_burn_87 : decode cX2_burn 87 = .ok (.dup, 1) := by decide +kernel
theorem dX2_burn_88 : decode cX2_burn 88 = .ok (.getfield 36, 3) := by decide +kernel
theorem dX2_burn_91 : decode cX2_burn 91 = .ok (.iload 5, 2) := by decide +kernel
theorem dX2_burn_93 : decode cX2_burn 93 = .ok (.iadd, 1) := by decide +kernel
theorem dX2_burn_94 : decode cX2_burn 94 = .ok (.putfield 36, 3) := by decide +kernel
theorem dX2_burn_97 : decode cX2_burn 97 = .ok (.iload 4, 2) := by decide +kernel
theorem dX2_burn_99 : decode cX2_burn 99 = .ok (.istore_n 2, 1) := by decide +kernel
theorem dX2_burn_100 : decode cX2_burn 100 = .ok (.iinc 3 1, 3) := by decide +kernel
theorem dX2_burn_103 : decode cX2_burn 103 = .ok (.goto (-96), 3) := by decide +kernel
theorem dX2_burn_106 : decode cX2_burn 106 = .ok (.aload_n 0, 1) := by decide +kernel
theorem dX2_burn_107 : decode cX2_burn 107 = .ok (.dup, 1) := by decide +kernel
theorem dX2_burn_108 : decode cX2_burn 108 = .ok (.getfield 36, 3) := by decide +kernel
theorem dX2_burn_111 : decode cX2_burn 111 = .ok (.iload_n 2, 1) := by decide +kernel
theorem dX2_burn_112 : decode cX2_burn 112 = .ok (.iadd, 1) := by decide +kernel
theorem dX2_burn_113 : decode cX2_burn 113 = .ok (.putfield 36, 3) := by decide +kernel
theorem dX2_burn_116 : decode cX2_burn 116 = .ok (.return_, 1) := by decide +kernel
theorem dX2_burnAll_0 : decode cX2_burnAll 0 = .ok (.iconst 0, 1) := by decide +kernel
theorem dX2_burnAll_1 : decode cX2_burnAll 1 = .ok (.istore_n 3, 1) := by decide +kernel
theorem dX2_burnAll_2 : decode cX2_burnAll 2 = .ok (.iload_n 3, 1) := by decide +kernel
theorem dX2_burnAll_3 : decode cX2_burnAll 3 = .ok (.iload_n 1, 1) := by decide +kernel
theorem dX2_burnAll_4 : decode cX2_burnAll 4 = .ok (.if_icmp .ge 14, 3) := by decide +kernel
theorem dX2_burnAll_7 : decode cX2_burnAll 7 = .ok (.aload_n 0, 1) := by decide +kernel
theorem dX2_burnAll_8 : decode cX2_burnAll 8 = .ok (.iload_n 2, 1) := by decide +kernel
theorem dX2_burnAll_9 : decode cX2_burnAll 9 = .ok (.invokevirtual 54, 3) := by decide +kernel
theorem dX2_burnAll_12 : decode cX2_burnAll 12 = .ok (.iinc 3 1, 3) := by decide +kernel
theorem dX2_burnAll_15 : decode cX2_burnAll 15 = .ok (.goto (-13), 3) := by decide +kernel
theorem dX2_burnAll_18 : decode cX2_burnAll 18 = .ok (.return_, 1) := by decide +kernel
theorem dX2_blow_0 : decode cX2_blow 0 = .ok (.iconst 0, 1) := by decide +kernel
theorem dX2_blow_1 : decode cX2_blow 1 = .ok (.istore_n 1, 1) := by decide +kernel
theorem dX2_blow_2 : decode cX2_blow 2 = .ok (.iload_n 1, 1) := by decide +kernel
theorem dX2_blow_3 : decode cX2_blow 3 = .ok (.aload_n 0, 1) := by decide +kernel
theorem dX2_blow_4 : decode cX2_blow 4 = .ok (.getfield 27, 3) := by decide +kernel
theorem dX2_blow_7 : decode cX2_blow 7 = .ok (.if_icmp .ge 27, 3) := by decide +kernel
theorem dX2_blow_10 : decode cX2_blow 10 = .ok (.aload_n 0, 1) := by decide +kernel
theorem dX2_blow_11 : decode cX2_blow 11 = .ok (.getfield 9, 3) := by decide +kernel
theorem dX2_blow_14 : decode cX2_blow 14 = .ok (.iload_n 1, 1) := by decide +kernel
theorem dX2_blow_15 : decode cX2_blow 15 = .ok (.dup2, 1) := by decide +kernel
theorem dX2_blow_16 : decode cX2_blow 16 = .ok (.iaload, 1) := by decide +kernel
theorem dX2_blow_17 : decode cX2_blow 17 = .ok (.aload_n 0, 1) := by decide +kernel
theorem dX2_blow_18 : decode cX2_blow 18 = .ok (.getfield 9, 3) := by decide +kernel
theorem dX2_blow_21 : decode cX2_blow 21 = .ok (.iload_n 1, 1) := by decide +kernel
theorem dX2_blow_22 : decode cX2_blow 22 = .ok (.iaload, 1) := by decide +kernel
theorem dX2_blow_23 : decode cX2_blow 23 = .ok (.bipush 10, 2) := by decide +kernel
theorem dX2_blow_25 : decode cX2_blow 25 = .ok (.idiv, 1) := by decide +kernel
theorem dX2_blow_26 : decode cX2_blow 26 = .ok (.isub, 1) := by decide +kernel
theorem dX2_blow_27 : decode cX2_blow 27 = .ok (.iastore, 1) := by decide +kernel
theorem dX2_blow_28 : decode cX2_blow 28 = .ok (.iinc 1 1, 3) := by decide +kernel
theorem dX2_blow_31 : decode cX2_blow 31 = .ok (.goto (-29), 3) := by decide +kernel
theorem dX2_blow_34 : decode cX2_blow 34 = .ok (.return_, 1) := by decide +kernel
theorem dX2_jump_0 : decode cX2_jump 0 = .ok (.aload_n 0, 1) := by decide +kernel
theorem dX2_jump_1 : decode cX2_jump 1 = .ok (.getfield 9, 3) := by decide +kernel
theorem dX2_jump_4 : decode cX2_jump 4 = .ok (.iload_n 1, 1) := by decide +kernel
theorem dX2_jump_5 : decode cX2_jump 5 = .ok (.iaload, 1) := by decide +kernel
theorem dX2_jump_6 : decode cX2_jump 6 = .ok (.aload_n 0, 1) := by decide +kernel
theorem dX2_jump_7 : decode cX2_jump 7 = .ok (.getfield 21, 3) := by decide +kernel
theorem dX2_jump_10 : decode cX2_jump 10 = .ok (.iload_n 1, 1) := by decide +kernel
theorem dX2_jump_11 : decode cX2_jump 11 = .ok (.iaload, 1) := by decide +kernel
theorem dX2_jump_12 : decode cX2_jump 12 = .ok (.isub, 1) := by decide +kernel
theorem dX2_jump_13 : decode cX2_jump 13 = .ok (.invokestatic 58, 3) := by decide +kernel
theorem dX2_jump_16 : decode cX2_jump 16 = .ok (.ireturn, 1) := by decide +kernel
theorem dX2_allHeat_0 : decode cX2_allHeat 0 = .ok (.iconst 0, 1) := by decide +kernel
theorem dX2_allHeat_1 : decode cX2_allHeat 1 = .ok (.istore_n 1, 1) := by decide +kernel
theorem dX2_allHeat_2 : decode cX2_allHeat 2 = .ok (.iconst 0, 1) := by decide +kernel
theorem dX2_allHeat_3 : decode cX2_allHeat 3 = .ok (.istore_n 2, 1) := by decide +kernel
theorem dX2_allHeat_4 : decode cX2_allHeat 4 = .ok (.iload_n 2, 1) := by decide +kernel
theorem dX2_allHeat_5 : decode cX2_allHeat 5 = .ok (.aload_n 0, 1) := by decide +kernel
theorem dX2_allHeat_6 : decode cX2_allHeat 6 = .ok (.getfield 27, 3) := by decide +kernel
theorem dX2_allHeat_9 : decode cX2_allHeat 9 = .ok (.if_icmp .ge 18, 3) := by decide +kernel
theorem dX2_allHeat_12 : decode cX2_allHeat 12 = .ok (.iload_n 1, 1) := by decide +kernel
theorem dX2_allHeat_13 : decode cX2_allHeat 13 = .ok (.aload_n 0, 1) := by decide +kernel
theorem dX2_allHeat_14 : decode cX2_allHeat 14 = .ok (.getfield 9, 3) := by decide +kernel
theorem dX2_allHeat_17 : decode cX2_allHeat 17 = .ok (.iload_n 2, 1) := by decide +kernel
theorem dX2_allHeat_18 : decode cX2_allHeat 18 = .ok (.iaload, 1) := by decide +kernel
theorem dX2_allHeat_19 : decode cX2_allHeat 19 = .ok (.iadd, 1) := by decide +kernel
theorem dX2_allHeat_20 : decode cX2_allHeat 20 = .ok (.istore_n 1, 1) := by decide +kernel
theorem dX2_allHeat_21 : decode cX2_allHeat 21 = .ok (.iinc 2 1, 3) := by decide +kernel
theorem dX2_allHeat_24 : decode cX2_allHeat 24 = .ok (.goto (-20), 3) := by decide +kernel
theorem dX2_allHeat_27 : decode cX2_allHeat 27 = .ok (.iload_n 1, 1) := by decide +kernel
theorem dX2_allHeat_28 : decode cX2_allHeat 28 = .ok (.ireturn, 1) := by decide +kernel
theorem dX3_init_0 : decode cX3_init 0 = .ok (.aload_n 0, 1) := by decide +kernel
theorem dX3_init_1 : decode cX3_init 1 = .ok (.invokespecial 3, 3) := by decide +kernel
theorem dX3_init_4 : decode cX3_init 4 = .ok (.aload_n 0, 1) := by decide +kernel
theorem dX3_init_5 : decode cX3_init 5 = .ok (.aload_n 1, 1) := by decide +kernel
theorem dX3_init_6 : decode cX3_init 6 = .ok (.putfield 9, 3) := by decide +kernel
theorem dX3_init_9 : decode cX3_init 9 = .ok (.aload_n 0, 1) := by decide +kernel
theorem dX3_init_10 : decode cX3_init 10 = .ok (.aload_n 2, 1) := by decide +kernel
theorem dX3_init_11 : decode cX3_init 11 = .ok (.putfield 15, 3) := by decide +kernel
theorem dX3_init_14 : decode cX3_init 14 = .ok (.return_, 1) := by decide +kernel
theorem dX3_heatBehind_0 : decode cX3_heatBehind 0 = .ok (.aload_n 0, 1) := by decide +kernel
theorem dX3_heatBehind_1 : decode cX3_heatBehind 1 = .ok (.getfield 15, 3) := by decide +kernel
theorem dX3_heatBehind_4 : decode cX3_heatBehind 4 = .ok (.getfield 18, 3) := by decide +kernel
theorem dX3_heatBehind_7 : decode cX3_heatBehind 7 = .ok (.aload_n 0, 1) := by decide +kernel
theorem dX3_heatBehind_8 : decode cX3_heatBehind 8 = .ok (.getfield 9, 3) := by decide +kernel
theorem dX3_heatBehind_11 : decode cX3_heatBehind 11 = .ok (.getfield 18, 3) := by decide +kernel
theorem dX3_heatBehind_14 : decode cX3_heatBehind 14 = .ok (.invokevirtual 24, 3) := by decide +kernel
theorem dX3_heatBehind_17 : decode cX3_heatBehind 17 = .ok (.aload_n 0, 1) := by decide +kernel
theorem dX3_heatBehind_18 : decode cX3_heatBehind 18 = .ok (.getfield 15, 3) := by decide +kernel
theorem dX3_heatBehind_21 : decode cX3_heatBehind 21 = .ok (.getfield 18, 3) := by decide +kernel
theorem dX3_heatBehind_24 : decode cX3_heatBehind 24 = .ok (.iload_n 2, 1) := by decide +kernel
theorem dX3_heatBehind_25 : decode cX3_heatBehind 25 = .ok (.iload_n 3, 1) := by decide +kernel
theorem dX3_heatBehind_26 : decode cX3_heatBehind 26 = .ok (.invokevirtual 30, 3) := by decide +kernel
theorem dX3_heatBehind_29 : decode cX3_heatBehind 29 = .ok (.aload_n 0, 1) := by decide +kernel
theorem dX3_heatBehind_30 : decode cX3_heatBehind 30 = .ok (.getfield 15, 3) := by decide +kernel
theorem dX3_heatBehind_33 : decode cX3_heatBehind 33 = .ok (.getfield 18, 3) := by decide +kernel
theorem dX3_heatBehind_36 : decode cX3_heatBehind 36 = .ok (.getfield 34, 3) := by decide +kernel
theorem dX3_heatBehind_39 : decode cX3_heatBehind 39 = .ok (.iload_n 1, 1) := by decide +kernel
theorem dX3_heatBehind_40 : decode cX3_heatBehind 40 = .ok (.iaload, 1) := by decide +kernel
theorem dX3_heatBehind_41 : decode cX3_heatBehind 41 = .ok (.ireturn, 1) := by decide +kernel
theorem dX3_howBehind_0 : decode cX3_howBehind 0 = .ok (.aload_n 0, 1) := by decide +kernel
theorem dX3_howBehind_1 : decode cX3_howBehind 1 = .ok (.getfield 15, 3) := by decide +kernel
theorem dX3_howBehind_4 : decode cX3_howBehind 4 = .ok (.aload_n 0, 1) := by decide +kernel
theorem dX3_howBehind_5 : decode cX3_howBehind 5 = .ok (.getfield 9, 3) := by decide +kernel
theorem dX3_howBehind_8 : decode cX3_howBehind 8 = .ok (.invokevirtual 38, 3) := by decide +kernel
theorem dX3_howBehind_11 : decode cX3_howBehind 11 = .ok (.aload_n 0, 1) := by decide +kernel
theorem dX3_howBehind_12 : decode cX3_howBehind 12 = .ok (.getfield 15, 3) := by decide +kernel
theorem dX3_howBehind_15 : decode cX3_howBehind 15 = .ok (.iload_n 2, 1) := by decide +kernel
theorem dX3_howBehind_16 : decode cX3_howBehind 16 = .ok (.iload_n 3, 1) := by decide +kernel
theorem dX3_howBehind_17 : decode cX3_howBehind 17 = .ok (.invokevirtual 41, 3) := by decide +kernel
theorem dX3_howBehind_20 : decode cX3_howBehind 20 = .ok (.aload_n 0, 1) := by decide +kernel
theorem dX3_howBehind_21 : decode cX3_howBehind 21 = .ok (.getfield 15, 3) := by decide +kernel
theorem dX3_howBehind_24 : decode cX3_howBehind 24 = .ok (.getfield 44, 3) := by decide +kernel
theorem dX3_howBehind_27 : decode cX3_howBehind 27 = .ok (.getfield 48, 3) := by decide +kernel
theorem dX3_howBehind_30 : decode cX3_howBehind 30 = .ok (.iload_n 1, 1) := by decide +kernel
theorem dX3_howBehind_31 : decode cX3_howBehind 31 = .ok (.iaload, 1) := by decide +kernel
theorem dX3_howBehind_32 : decode cX3_howBehind 32 = .ok (.ireturn, 1) := by decide +kernel
theorem dX3_fewestTenths_0 : decode cX3_fewestTenths 0 = .ok (.iconst 0, 1) := by decide +kernel
theorem dX3_fewestTenths_1 : decode cX3_fewestTenths 1 = .ok (.istore 5, 2) := by decide +kernel
theorem dX3_fewestTenths_3 : decode cX3_fewestTenths 3 = .ok (.iload 5, 2) := by decide +kernel
theorem dX3_fewestTenths_5 : decode cX3_fewestTenths 5 = .ok (.bipush 10, 2) := by decide +kernel
theorem dX3_fewestTenths_7 : decode cX3_fewestTenths 7 = .ok (.aload_n 0, 1) := by decide +kernel
theorem dX3_fewestTenths_8 : decode cX3_fewestTenths 8 = .ok (.getfield 9, 3) := by decide +kernel
theorem dX3_fewestTenths_11 : decode cX3_fewestTenths 11 = .ok (.getfield 18, 3) := by decide +kernel
theorem dX3_fewestTenths_14 : decode cX3_fewestTenths 14 = .ok (.getfield 53, 3) := by decide +kernel
theorem dX3_fewestTenths_17 : decode cX3_fewestTenths 17 = .ok (.iload_n 1, 1) := by decide +kernel
theorem dX3_fewestTenths_18 : decode cX3_fewestTenths 18 = .ok (.iaload, 1) := by decide +kernel
theorem dX3_fewestTenths_19 : decode cX3_fewestTenths 19 = .ok (.isub, 1) := by decide +kernel
theorem dX3_fewestTenths_20 : decode cX3_fewestTenths 20 = .ok (.if_icmp .gt 63, 3) := by decide +kernel
theorem dX3_fewestTenths_23 : decode cX3_fewestTenths 23 = .ok (.aload_n 0, 1) := by decide +kernel
theorem dX3_fewestTenths_24 : decode cX3_fewestTenths 24 = .ok (.getfield 15, 3) := by decide +kernel
theorem dX3_fewestTenths_27 : decode cX3_fewestTenths 27 = .ok (.aload_n 0, 1) := by decide +kernel
theorem dX3_fewestTenths_28 : decode cX3_fewestTenths 28 = .ok (.getfield 9, 3) := by decide +kernel
theorem dX3_fewestTenths_31 : decode cX3_fewestTenths 31 = .ok (.invokevirtual 38, 3) := by decide +kernel
theorem dX3_fewestTenths_34 : decode cX3_fewestTenths 34 = .ok (.aload_n 0, 1) := by decide +kernel
theorem dX3_fewestTenths_35 : decode cX3_fewestTenths 35 = .ok (.getfield 15, 3) := by decide +kernel
theorem dX3_fewestTenths_38 : decode cX3_fewestTenths 38 = .ok (.getfield 18, 3) := by decide +kernel
theorem dX3_fewestTenths_41 : decode cX3_fewestTenths 41 = .ok (.getfield 56, 3) := by decide +kernel
theorem dX3_fewestTenths_44 : decode cX3_fewestTenths 44 = .ok (.iload_n 1, 1) := by decide +kernel
theorem dX3_fewestTenths_45 : decode cX3_fewestTenths 45 = .ok (.iload 5, 2) := by decide +kernel
theorem dX3_fewestTenths_47 : decode cX3_fewestTenths 47 = .ok (.iastore, 1) := by decide +kernel
theorem dX3_fewestTenths_48 : decode cX3_fewestTenths 48 = .ok (.aload_n 0, 1) := by decide +kernel
theorem dX3_fewestTenths_49 : decode cX3_fewestTenths 49 = .ok (.getfield 15, 3) := by decide +kernel
theorem dX3_fewestTenths_52 : decode cX3_fewestTenths 52 = .ok (.iload_n 3, 1) := by decide +kernel
theorem dX3_fewestTenths_53 : decode cX3_fewestTenths 53 = .ok (.iload 4, 2) := by decide +kernel
theorem dX3_fewestTenths_55 : decode cX3_fewestTenths 55 = .ok (.invokevirtual 41, 3) := by decide +kernel
theorem dX3_fewestTenths_58 : decode cX3_fewestTenths 58 = .ok (.aload_n 0, 1) := by decide +kernel
theorem dX3_fewestTenths_59 : decode cX3_fewestTenths 59 = .ok (.getfield 15, 3) := by decide +kernel
theorem dX3_fewestTenths_62 : decode cX3_fewestTenths 62 = .ok (.getfield 44, 3) := by decide +kernel
theorem dX3_fewestTenths_65 : decode cX3_fewestTenths 65 = .ok (.getfield 48, 3) := by decide +kernel
theorem dX3_fewestTenths_68 : decode cX3_fewestTenths 68 = .ok (.iload_n 2, 1) := by decide +kernel
theorem dX3_fewestTenths_69 : decode cX3_fewestTenths 69 = .ok (.iaload, 1) := by decide +kernel
theorem dX3_fewestTenths_70 : decode cX3_fewestTenths 70 = .ok (.iconst 1, 1) := by decide +kernel
theorem dX3_fewestTenths_71 : decode cX3_fewestTenths 71 = .ok (.if_icmp .ne 6, 3) := by decide +kernel
theorem dX3_fewestTenths_74 : decode cX3_fewestTenths 74 = .ok (.iload 5, 2) := by decide +kernel
theorem dX3_fewestTenths_76 : decode cX3_fewestTenths 76 = .ok (.ireturn, 1) := by decide +kernel
theorem dX3_fewestTenths_77 : decode cX3_fewestTenths 77 = .ok (.iinc 5 1, 3) := by decide +kernel
theorem dX3_fewestTenths_80 : decode cX3_fewestTenths 80 = .ok (.goto (-77), 3) := by decide +kernel
theorem dX3_fewestTenths_83 : decode cX3_fewestTenths 83 = .ok (.bipush (-9), 2) := by decide +kernel
theorem dX3_fewestTenths_85 : decode cX3_fewestTenths 85 = .ok (.ireturn, 1) := by decide +kernel
theorem dX3_crackingWays_0 : decode cX3_crackingWays 0 = .ok (.lconst 0, 1) := by decide +kernel
theorem dX3_crackingWays_1 : decode cX3_crackingWays 1 = .ok (.lstore 5, 2) := by decide +kernel
theorem dX3_crackingWays_3 : decode cX3_crackingWays 3 = .ok (.iconst 0, 1) := by decide +kernel
theorem dX3_crackingWays_4 : decode cX3_crackingWays 4 = .ok (.istore 7, 2) := by decide +kernel
theorem dX3_crackingWays_6 : decode cX3_crackingWays 6 = .ok (.iload 7, 2) := by decide +kernel
theorem dX3_crackingWays_8 : decode cX3_crackingWays 8 = .ok (.iconst 1, 1) := by decide +kernel
theorem dX3_crackingWays_9 : decode cX3_crackingWays 9 = .ok (.iload_n 2, 1) := by decide +kernel
theorem dX3_crackingWays_10 : decode cX3_crackingWays 10 = .ok (.ishl, 1) := by decide +kernel
theorem dX3_crackingWays_11 : decode cX3_crackingWays 11 = .ok (.if_icmp .ge 64, 3) := by decide +kernel
theorem dX3_crackingWays_14 : decode cX3_crackingWays 14 = .ok (.iload 7, 2) := by decide +kernel
theorem dX3_crackingWays_16 : decode cX3_crackingWays 16 = .ok (.invokestatic 59, 3) := by decide +kernel
theorem dX3_crackingWays_19 : decode cX3_crackingWays 19 = .ok (.istore 8, 2) := by decide +kernel
theorem dX3_crackingWays_21 : decode cX3_crackingWays 21 = .ok (.iload 4, 2) := by decide +kernel
theorem dX3_crackingWays_23 : decode cX3_crackingWays 23 = .ok (.iload 8, 2) := by decide +kernel
theorem dX3_crackingWays_25 : decode cX3_crackingWays 25 = .ok (.invokestatic 65, 3) := by decide +kernel
theorem dX3_crackingWays_28 : decode cX3_crackingWays 28 = .ok (.bipush 10, 2) := by decide +kernel
theorem dX3_crackingWays_30 : decode cX3_crackingWays 30 = .ok (.iload 4, 2) := by decide +kernel
theorem dX3_crackingWays_32 : decode cX3_crackingWays 32 = .ok (.isub, 1) := by decide +kernel
theorem dX3_crackingWays_33 : decode cX3_crackingWays 33 = .ok (.iload_n 2, 1) := by decide +kernel
theorem dX3_crackingWays_34 : decode cX3_crackingWays 34 = .ok (.iload 8, 2) := by decide +kernel
theorem dX3_crackingWays_36 : decode cX3_crackingWays 36 = .ok (.isub, 1) := by decide +kernel
theorem dX3_crackingWays_37 : decode cX3_crackingWays 37 = .ok (.invokestatic 65, 3) := by decide +kernel
theorem dX3_crackingWays_40 : decode cX3_crackingWays 40 = .ok (.lmul, 1) := by decide +kernel
theorem dX3_crackingWays_41 : decode cX3_crackingWays 41 = .ok (.lstore 9, 2) := by decide +kernel
theorem dX3_crackingWays_43 : decode cX3_crackingWays 43 = .ok (.lload 9, 2) := by decide +kernel
theorem dX3_crackingWays_45 : decode cX3_crackingWays 45 = .ok (.lconst 0, 1) := by decide +kernel
theorem dX3_crackingWays_46 : decode cX3_crackingWays 46 = .ok (.lcmp, 1) := by decide +kernel
theorem dX3_crackingWays_47 : decode cX3_crackingWays 47 = .ok (.ifCond .le 22, 3) := by decide +kernel
theorem dX3_crackingWays_50 : decode cX3_crackingWays 50 = .ok (.aload_n 0, 1) := by decide +kernel
theorem dX3_crackingWays_51 : decode cX3_crackingWays 51 = .ok (.iload_n 1, 1) := by decide +kernel
theorem dX3_crackingWays_52 : decode cX3_crackingWays 52 = .ok (.iload_n 2, 1) := by decide +kernel
theorem dX3_crackingWays_53 : decode cX3_crackingWays 53 = .ok (.iload_n 3, 1) := by decide +kernel
theorem dX3_crackingWays_54 : decode cX3_crackingWays 54 = .ok (.iload 7, 2) := by decide +kernel
theorem dX3_crackingWays_56 : decode cX3_crackingWays 56 = .ok (.invokevirtual 69, 3) := by decide +kernel
theorem dX3_crackingWays_59 : decode cX3_crackingWays 59 = .ok (.ifCond .eq 10, 3) := by decide +kernel
theorem dX3_crackingWays_62 : decode cX3_crackingWays 62 = .ok (.lload 5, 2) := by decide +kernel
theorem dX3_crackingWays_64 : decode cX3_crackingWays 64 = .ok (.lload 9, 2) := by decide +kernel
theorem dX3_crackingWays_66 : decode cX3_crackingWays 66 = .ok (.ladd, 1) := by decide +kernel
theorem dX3_crackingWays_67 : decode cX3_crackingWays 67 = .ok (.lstore 5, 2) := by decide +kernel
theorem dX3_crackingWays_69 : decode cX3_crackingWays 69 = .ok (.iinc 7 1, 3) := by decide +kernel
theorem dX3_crackingWays_72 : decode cX3_crackingWays 72 = .ok (.goto (-66), 3) := by decide +kernel
theorem dX3_crackingWays_75 : decode cX3_crackingWays 75 = .ok (.lload 5, 2) := by decide +kernel
theorem dX3_crackingWays_77 : decode cX3_crackingWays 77 = .ok (.lreturn, 1) := by decide +kernel
theorem dX3_isCracked_0 : decode cX3_isCracked 0 = .ok (.aload_n 0, 1) := by decide +kernel
theorem dX3_isCracked_1 : decode cX3_isCracked 1 = .ok (.getfield 15, 3) := by decide +kernel
theorem dX3_isCracked_4 : decode cX3_isCracked 4 = .ok (.aload_n 0, 1) := by decide +kernel
theorem dX3_isCracked_5 : decode cX3_isCracked 5 = .ok (.getfield 9, 3) := by decide +kernel
theorem dX3_isCracked_8 : decode cX3_isCracked 8 = .ok (.invokevirtual 38, 3) := by decide +kernel
theorem dX3_isCracked_11 : decode cX3_isCracked 11 = .ok (.aload_n 0, 1) := by decide +kernel
theorem dX3_isCracked_12 : decode cX3_isCracked 12 = .ok (.getfield 9, 3) := by decide +kernel
theorem dX3_isCracked_15 : decode cX3_isCracked 15 = .ok (.getfield 44, 3) := by decide +kernel
theorem dX3_isCracked_18 : decode cX3_isCracked 18 = .ok (.aload_n 0, 1) := by decide +kernel
theorem dX3_isCracked_19 : decode cX3_isCracked 19 = .ok (.getfield 9, 3) := by decide +kernel
theorem dX3_isCracked_22 : decode cX3_isCracked 22 = .ok (.getfield 44, 3) := by decide +kernel
theorem dX3_isCracked_25 : decode cX3_isCracked 25 = .ok (.getfield 73, 3) := by decide +kernel
theorem dX3_isCracked_28 : decode cX3_isCracked 28 = .ok (.iload_n 1, 1) := by decide +kernel
theorem dX3_isCracked_29 : decode cX3_isCracked 29 = .ok (.iaload, 1) := by decide +kernel
theorem dX3_isCracked_30 : decode cX3_isCracked 30 = .ok (.invokevirtual 76, 3) := by decide +kernel
theorem dX3_isCracked_33 : decode cX3_isCracked 33 = .ok (.istore 5, 2) := by decide +kernel
theorem dX3_isCracked_35 : decode cX3_isCracked 35 = .ok (.iconst 0, 1) := by decide +kernel
theorem dX3_isCracked_36 : decode cX3_isCracked 36 = .ok (.istore 6, 2) := by decide +kernel
theorem dX3_isCracked_38 : decode cX3_isCracked 38 = .ok (.iload 6, 2) := by decide +kernel
theorem dX3_isCracked_40 : decode cX3_isCracked 40 = .ok (.iload_n 2, 1) := by decide +kernel
theorem dX3_isCracked_41 : decode cX3_isCracked 41 = .ok (.if_icmp .ge 76, 3) := by decide +kernel
theorem dX3_isCracked_44 : decode cX3_isCracked 44 = .ok (.aload_n 0, 1) := by decide +kernel
theorem dX3_isCracked_45 : decode cX3_isCracked 45 = .ok (.getfield 15, 3) := by decide +kernel
theorem dX3_isCracked_48 : decode cX3_isCracked 48 = .ok (.getfield 44, 3) := by decide +kernel
theorem dX3_isCracked_51 : decode cX3_isCracked 51 = .ok (.getfield 48, 3) := by decide +kernel
theorem dX3_isCracked_54 : decode cX3_isCracked 54 = .ok (.iload_n 1, 1) := by decide +kernel
theorem dX3_isCracked_55 : decode cX3_isCracked 55 = .ok (.iaload, 1) := by decide +kernel
theorem dX3_isCracked_56 : decode cX3_isCracked 56 = .ok (.ifCond .ne 61, 3) := by decide +kernel
theorem dX3_isCracked_59 : decode cX3_isCracked 59 = .ok (.aload_n 0, 1) := by decide +kernel
theorem dX3_isCracked_60 : decode cX3_isCracked 60 = .ok (.getfield 15, 3) := by decide +kernel
theorem dX3_isCracked_63 : decode cX3_isCracked 63 = .ok (.getfield 18, 3) := by decide +kernel
theorem dX3_isCracked_66 : decode cX3_isCracked 66 = .ok (.iload_n 3, 1) := by decide +kernel
theorem dX3_isCracked_67 : decode cX3_isCracked 67 = .ok (.invokevirtual 80, 3) := by decide +kernel
theorem dX3_isCracked_70 : decode cX3_isCracked 70 = .ok (.iload 4, 2) := by decide +kernel
theorem dX3_isCracked_72 : decode cX3_isCracked 72 = .ok (.iload 6, 2) := by decide +kernel
theorem dX3_isCracked_74 : decode cX3_isCracked 74 = .ok (.ishr, 1) := by decide +kernel
theorem dX3_isCracked_75 : decode cX3_isCracked 75 = .ok (.iconst 1, 1) := by decide +kernel
theorem dX3_isCracked_76 : decode cX3_isCracked 76 = .ok (.iand, 1) := by decide +kernel
theorem dX3_isCracked_77 : decode cX3_isCracked 77 = .ok (.iconst 1, 1) := by decide +kernel
theorem dX3_isCracked_78 : decode cX3_isCracked 78 = .ok (.if_icmp .ne 13, 3) := by decide +kernel
theorem dX3_isCracked_81 : decode cX3_isCracked 81 = .ok (.aload_n 0, 1) := by decide +kernel
theorem dX3_isCracked_82 : decode cX3_isCracked 82 = .ok (.getfield 15, 3) := by decide +kernel
theorem dX3_isCracked_85 : decode cX3_isCracked 85 = .ok (.getfield 18, 3) := by decide +kernel
theorem dX3_isCracked_88 : decode cX3_isCracked 88 = .ok (.invokevirtual 84, 3) := by decide +kernel
theorem dX3_isCracked_91 : decode cX3_isCracked 91 = .ok (.aload_n 0, 1) := by decide +kernel
theorem dX3_isCracked_92 : decode cX3_isCracked 92 = .ok (.getfield 15, 3) := by decide +kernel
theorem dX3_isCracked_95 : decode cX3_isCracked 95 = .ok (.getfield 44, 3) := by decide +kernel
theorem dX3_isCracked_98 : decode cX3_isCracked 98 = .ok (.iload_n 1, 1) := by decide +kernel
theorem dX3_isCracked_99 : decode cX3_isCracked 99 = .ok (.aload_n 0, 1) := by decide +kernel
theorem dX3_isCracked_100 : decode cX3_isCracked 100 = .ok (.getfield 15, 3) := by decide +kernel
theorem dX3_isCracked_103 : decode cX3_isCracked 103 = .ok (.getfield 18, 3) := by decide +kernel
theorem dX3_isCracked_106 : decode cX3_isCracked 106 = .ok (.iload 5, 2) := by decide +kernel
theorem dX3_isCracked_108 : decode cX3_isCracked 108 = .ok (.invokevirtual 87, 3) := by decide +kernel
theorem dX3_isCracked_111 : decode cX3_isCracked 111 = .ok (.iinc 6 1, 3) := by decide +kernel
theorem dX3_isCracked_114 : decode cX3_isCracked 114 = .ok (.goto (-76), 3) := by decide +kernel
theorem dX3_isCracked_117 : decode cX3_isCracked 117 = .ok (.aload_n 0, 1) := by decide +kernel
theorem dX3_isCracked_118 : decode cX3_isCracked 118 = .ok (.getfield 15, 3) := by decide +kernel
theorem dX3_isCracked_121 : decode cX3_isCracked 121 = .ok (.getfield 44, 3) := by decide +kernel
theorem dX3_isCracked_124 : decode cX3_isCracked 124 = .ok (.getfield 48, 3) := by decide +kernel
theorem dX3_isCracked_127 : decode cX3_isCracked 127 = .ok (.iload_n 1, 1) := by decide +kernel
theorem dX3_isCracked_128 : decode cX3_isCracked 128 = .ok (.iaload, 1) := by decide +kernel
theorem dX3_isCracked_129 : decode cX3_isCracked 129 = .ok (.iconst 2, 1) := by decide +kernel
theorem dX3_isCracked_130 : decode cX3_isCracked 130 = .ok (.if_icmp .ne 7, 3) := by decide +kernel
theorem dX3_isCracked_133 : decode cX3_isCracked 133 = .ok (.iconst 1, 1) := by decide +kernel
theorem dX3_isCracked_134 : decode cX3_isCracked 134 = .ok (.goto 4, 3) := by decide +kernel
theorem dX3_isCracked_137 : decode cX3_isCracked 137 = .ok (.iconst 0, 1) := by decide +kernel
theorem dX3_isCracked_138 : decode cX3_isCracked 138 = .ok (.ireturn, 1) := by decide +kernel
theorem dX3_power_0 : decode cX3_power 0 = .ok (.lconst 1, 1) := by decide +kernel
theorem dX3_power_1 : decode cX3_power 1 = .ok (.lstore_n 2, 1) := by decide +kernel
theorem dX3_power_2 : decode cX3_power 2 = .ok (.iconst 0, 1) := by decide +kernel
theorem dX3_power_3 : decode cX3_power 3 = .ok (.istore 4, 2) := by decide +kernel
theorem dX3_power_5 : decode cX3_power 5 = .ok (.iload 4, 2) := by decide +kernel
theorem dX3_power_7 : decode cX3_power 7 = .ok (.iload_n 1, 1) := by decide +kernel
theorem dX3_power_8 : decode cX3_power 8 = .ok (.if_icmp .ge 14, 3) := by decide +kernel
theorem dX3_power_11 : decode cX3_power 11 = .ok (.lload_n 2, 1) := by decide +kernel
theorem dX3_power_12 : decode cX3_power 12 = .ok (.iload_n 0, 1) := by decide +kernel
theorem dX3_power_13 : decode cX3_power 13 = .ok (.i2l, 1) := by decide +kernel
theorem dX3_power_14 : decode cX3_power 14 = .ok (.lmul, 1) := by decide +kernel
theorem dX3_power_15 : decode cX3_power 15 = .ok (.lstore_n 2, 1) := by decide +kernel
theorem dX3_power_16 : decode cX3_power 16 = .ok (.iinc 4 1, 3) := by decide +kernel
theorem dX3_power_19 : decode cX3_power 19 = .ok (.goto (-14), 3) := by decide +kernel
theorem dX3_power_22 : decode cX3_power 22 = .ok (.lload_n 2, 1) := by decide +kernel
theorem dX3_power_23 : decode cX3_power 23 = .ok (.lreturn, 1) := by decide +kernel
theorem dX4_init_0 : decode cX4_init 0 = .ok (.aload_n 0, 1) := by decide +kernel
theorem dX4_init_1 : decode cX4_init 1 = .ok (.invokespecial 3, 3) := by decide +kernel
theorem dX4_init_4 : decode cX4_init 4 = .ok (.aload_n 0, 1) := by decide +kernel
theorem dX4_init_5 : decode cX4_init 5 = .ok (.iconst 5, 1) := by decide +kernel
theorem dX4_init_6 : decode cX4_init 6 = .ok (.newarray .int, 2) := by decide +kernel
theorem dX4_init_8 : decode cX4_init 8 = .ok (.putfield 9, 3) := by decide +kernel
theorem dX4_init_11 : decode cX4_init 11 = .ok (.aload_n 0, 1) := by decide +kernel
theorem dX4_init_12 : decode cX4_init 12 = .ok (.iconst 5, 1) := by decide +kernel
theorem dX4_init_13 : decode cX4_init 13 = .ok (.newarray .int, 2) := by decide +kernel
theorem dX4_init_15 : decode cX4_init 15 = .ok (.putfield 15, 3) := by decide +kernel
theorem dX4_init_18 : decode cX4_init 18 = .ok (.aload_n 0, 1) := by decide +kernel
theorem dX4_init_19 : decode cX4_init 19 = .ok (.iconst 5, 1) := by decide +kernel
theorem dX4_init_20 : decode cX4_init 20 = .ok (.newarray .int, 2) := by decide +kernel
theorem dX4_init_22 : decode cX4_init 22 = .ok (.putfield 18, 3) := by decide +kernel
theorem dX4_init_25 : decode cX4_init 25 = .ok (.aload_n 0, 1) := by decide +kernel
theorem dX4_init_26 : decode cX4_init 26 = .ok (.aload_n 1, 1) := by decide +kernel
theorem dX4_init_27 : decode cX4_init 27 = .ok (.putfield 21, 3) := by decide +kernel
theorem dX4_init_30 : decode cX4_init 30 = .ok (.return_, 1) := by decide +kernel
theorem dX4_build_0 : decode cX4_build 0 = .ok (.iconst 0, 1) := by decide +kernel
theorem dX4_build_1 : decode cX4_build 1 = .ok (.istore_n 2, 1) := by decide +kernel
theorem dX4_build_2 : decode cX4_build 2 = .ok (.iload_n 2, 1) := by decide +kernel
theorem dX4_build_3 : decode cX4_build 3 = .ok (.iconst 5, 1) := by decide +kernel
theorem dX4_build_4 : decode cX4_build 4 = .ok (.if_icmp .ge 49, 3) := by decide +kernel
theorem dX4_build_7 : decode cX4_build 7 = .ok (.aload_n 0, 1) := by decide +kernel
theorem dX4_build_8 : decode cX4_build 8 = .ok (.getfield 9, 3) := by decide +kernel
theorem dX4_build_11 : decode cX4_build 11 = .ok (.iload_n 2, 1) := by decide +kernel
theorem dX4_build_12 : decode cX4_build 12 = .ok (.iload_n 2, 1) := by decide +kernel
theorem dX4_build_13 : decode cX4_build 13 = .ok (.aload_n 1, 1) := by decide +kernel
theorem dX4_build_14 : decode cX4_build 14 = .ok (.getfield 25, 3) := by decide +kernel
theorem dX4_build_17 : decode cX4_build 17 = .ok (.if_icmp .ge 14, 3) := by decide +kernel
theorem dX4_build_20 : decode cX4_build 20 = .ok (.aload_n 1, 1) := by decide +kernel
theorem dX4_build_21 : decode cX4_build 21 = .ok (.getfield 31, 3) := by decide +kernel
theorem dX4_build_24 : decode cX4_build 24 = .ok (.iload_n 2, 1) := by decide +kernel
theorem dX4_build_25 : decode cX4_build 25 = .ok (.aaload, 1) := by decide +kernel
theorem dX4_build_26 : decode cX4_build 26 = .ok (.iconst 0, 1) := by decide +kernel
theorem dX4_build_27 : decode cX4_build 27 = .ok (.iaload, 1) := by decide +kernel
theorem dX4_build_28 : decode cX4_build 28 = .ok (.goto 4, 3) := by decide +kernel
theorem dX4_build_31 : decode cX4_build 31 = .ok (.iconst 0, 1) := by decide +kernel
theorem dX4_build_32 : decode cX4_build 32 = .ok (.iastore, 1) := by decide +kernel
theorem dX4_build_33 : decode cX4_build 33 = .ok (.aload_n 0, 1) := by decide +kernel
theorem dX4_build_34 : decode cX4_build 34 = .ok (.getfield 15, 3) := by decide +kernel
theorem dX4_build_37 : decode cX4_build 37 = .ok (.iload_n 2, 1) := by decide +kernel
theorem dX4_build_38 : decode cX4_build 38 = .ok (.iconst 0, 1) := by decide +kernel
theorem dX4_build_39 : decode cX4_build 39 = .ok (.iastore, 1) := by decide +kernel
theorem dX4_build_40 : decode cX4_build 40 = .ok (.aload_n 0, 1) := by decide +kernel
theorem dX4_build_41 : decode cX4_build 41 = .ok (.getfield 18, 3) := by decide +kernel
theorem dX4_build_44 : decode cX4_build 44 = .ok (.iload_n 2, 1) := by decide +kernel
theorem dX4_build_45 : decode cX4_build 45 = .ok (.iconst 0, 1) := by decide +kernel
theorem dX4_build_46 : decode cX4_build 46 = .ok (.iastore, 1) := by decide +kernel
theorem dX4_build_47 : decode cX4_build 47 = .ok (.iinc 2 1, 3) := by decide +kernel
theorem dX4_build_50 : decode cX4_build 50 = .ok (.goto (-48), 3) := by decide +kernel
theorem dX4_build_53 : decode cX4_build 53 = .ok (.return_, 1) := by decide +kernel
theorem dX4_copyFrom_0 : decode cX4_copyFrom 0 = .ok (.aload_n 1, 1) := by decide +kernel
theorem dX4_copyFrom_1 : decode cX4_copyFrom 1 = .ok (.getfield 9, 3) := by decide +kernel
theorem dX4_copyFrom_4 : decode cX4_copyFrom 4 = .ok (.iconst 0, 1) := by decide +kernel
theorem dX4_copyFrom_5 : decode cX4_copyFrom 5 = .ok (.aload_n 0, 1) := by decide +kernel
theorem dX4_copyFrom_6 : decode cX4_copyFrom 6 = .ok (.getfield 9, 3) := by decide +kernel
theorem dX4_copyFrom_9 : decode cX4_copyFrom 9 = .ok (.iconst 0, 1) := by decide +kernel
theorem dX4_copyFrom_10 : decode cX4_copyFrom 10 = .ok (.iconst 5, 1) := by decide +kernel
theorem dX4_copyFrom_11 : decode cX4_copyFrom 11 = .ok (.invokestatic 35, 3) := by decide +kernel
theorem dX4_copyFrom_14 : decode cX4_copyFrom 14 = .ok (.aload_n 0, 1) := by decide +kernel
theorem dX4_copyFrom_15 : decode cX4_copyFrom 15 = .ok (.aload_n 1, 1) := by decide +kernel
theorem dX4_copyFrom_16 : decode cX4_copyFrom 16 = .ok (.invokevirtual 41, 3) := by decide +kernel
theorem dX4_copyFrom_19 : decode cX4_copyFrom 19 = .ok (.return_, 1) := by decide +kernel
theorem dX4_copyHow_0 : decode cX4_copyHow 0 = .ok (.aload_n 1, 1) := by decide +kernel
theorem dX4_copyHow_1 : decode cX4_copyHow 1 = .ok (.getfield 15, 3) := by decide +kernel
theorem dX4_copyHow_4 : decode cX4_copyHow 4 = .ok (.iconst 0, 1) := by decide +kernel
theorem dX4_copyHow_5 : decode cX4_copyHow 5 = .ok (.aload_n 0, 1) := by decide +kernel
theorem dX4_copyHow_6 : decode cX4_copyHow 6 = .ok (.getfield 15, 3) := by decide +kernel
theorem dX4_copyHow_9 : decode cX4_copyHow 9 = .ok (.iconst 0, 1) := by decide +kernel
theorem dX4_copyHow_10 : decode cX4_copyHow 10 = .ok (.iconst 5, 1) := by decide +kernel
theorem dX4_copyHow_11 : decode cX4_copyHow 11 = .ok (.invokestatic 35, 3) := by decide +kernel
theorem dX4_copyHow_14 : decode cX4_copyHow 14 = .ok (.aload_n 1, 1) := by decide +kernel
theorem dX4_copyHow_15 : decode cX4_copyHow 15 = .ok (.getfield 18, 3) := by decide +kernel
theorem dX4_copyHow_18 : decode cX4_copyHow 18 = .ok (.iconst 0, 1) := by decide +kernel
theorem dX4_copyHow_19 : decode cX4_copyHow 19 = .ok (.aload_n 0, 1) := by decide +kernel
theorem dX4_copyHow_20 : decode cX4_copyHow 20 = .ok (.getfield 18, 3) := by decide +kernel
theorem dX4_copyHow_23 : decode cX4_copyHow 23 = .ok (.iconst 0, 1) := by decide +kernel
theorem dX4_copyHow_24 : decode cX4_copyHow 24 = .ok (.iconst 5, 1) := by decide +kernel
theorem dX4_copyHow_25 : decode cX4_copyHow 25 = .ok (.invokestatic 35, 3) := by decide +kernel
theorem dX4_copyHow_28 : decode cX4_copyHow 28 = .ok (.return_, 1) := by decide +kernel
theorem dX4_feelAll_0 : decode cX4_feelAll 0 = .ok (.iconst 0, 1) := by decide +kernel
theorem dX4_feelAll_1 : decode cX4_feelAll 1 = .ok (.istore_n 2, 1) := by decide +kernel
theorem dX4_feelAll_2 : decode cX4_feelAll 2 = .ok (.iconst 0, 1) := by decide +kernel
theorem dX4_feelAll_3 : decode cX4_feelAll 3 = .ok (.istore_n 3, 1) := by decide +kernel
theorem dX4_feelAll_4 : decode cX4_feelAll 4 = .ok (.iload_n 3, 1) := by decide +kernel
theorem dX4_feelAll_5 : decode cX4_feelAll 5 = .ok (.aload_n 0, 1) := by decide +kernel
theorem dX4_feelAll_6 : decode cX4_feelAll 6 = .ok (.getfield 21, 3) := by decide +kernel
theorem dX4_feelAll_9 : decode cX4_feelAll 9 = .ok (.getfield 45, 3) := by decide +kernel
theorem dX4_feelAll_12 : decode cX4_feelAll 12 = .ok (.if_icmp .ge 53, 3) := by decide +kernel
theorem dX4_feelAll_15 : decode cX4_feelAll 15 = .ok (.aload_n 0, 1) := by decide +kernel
theorem dX4_feelAll_16 : decode cX4_feelAll 16 = .ok (.getfield 18, 3) := by decide +kernel
theorem dX4_feelAll_19 : decode cX4_feelAll 19 = .ok (.iload_n 3, 1) := by decide +kernel
theorem dX4_feelAll_20 : decode cX4_feelAll 20 = .ok (.iaload, 1) := by decide +kernel
theorem dX4_feelAll_21 : decode cX4_feelAll 21 = .ok (.ifCond .ne 38, 3) := by decide +kernel
theorem dX4_feelAll_24 : decode cX4_feelAll 24 = .ok (.aload_n 0, 1) := by decide +kernel
theorem dX4_feelAll_25 : decode cX4_feelAll 25 = .ok (.iload_n 3, 1) := by decide +kernel
theorem dX4_feelAll_26 : decode cX4_feelAll 26 = .ok (.aload_n 1, 1) := by decide +kernel
theorem dX4_feelAll_27 : decode cX4_feelAll 27 = .ok (.aload_n 0, 1) := by decide +kernel
theorem dX4_feelAll_28 : decode cX4_feelAll 28 = .ok (.aload_n 0, 1) := by decide +kernel
theorem dX4_feelAll_29 : decode cX4_feelAll 29 = .ok (.getfield 9, 3) := by decide +kernel
theorem dX4_feelAll_32 : decode cX4_feelAll 32 = .ok (.iload_n 3, 1) := by decide +kernel
theorem dX4_feelAll_33 : decode cX4_feelAll 33 = .ok (.iaload, 1) := by decide +kernel
theorem dX4_feelAll_34 : decode cX4_feelAll 34 = .ok (.invokevirtual 50, 3) := by decide +kernel
theorem dX4_feelAll_37 : decode cX4_feelAll 37 = .ok (.invokevirtual 54, 3) := by decide +kernel
theorem dX4_feelAll_40 : decode cX4_feelAll 40 = .ok (.iload_n 2, 1) := by decide +kernel
theorem dX4_feelAll_41 : decode cX4_feelAll 41 = .ok (.aload_n 0, 1) := by decide +kernel
theorem dX4_feelAll_42 : decode cX4_feelAll 42 = .ok (.getfield 18, 3) := by decide +kernel
theorem dX4_feelAll_45 : decode cX4_feelAll 45 = .ok (.iload_n 3, 1) := by decide +kernel
theorem dX4_feelAll_46 : decode cX4_feelAll 46 = .ok (.iaload, 1) := by decide +kernel
theorem dX4_feelAll_47 : decode cX4_feelAll 47 = .ok (.ifCond .ne 7, 3) := by decide +kernel
theorem dX4_feelAll_50 : decode cX4_feelAll 50 = .ok (.iconst 0, 1) := by decide +kernel
theorem dX4_feelAll_51 : decode cX4_feelAll 51 = .ok (.goto 6, 3) := by decide +kernel
theorem dX4_feelAll_54 : decode cX4_feelAll 54 = .ok (.iconst 1, 1) := by decide +kernel
theorem dX4_feelAll_55 : decode cX4_feelAll 55 = .ok (.iload_n 3, 1) := by decide +kernel
theorem dX4_feelAll_56 : decode cX4_feelAll 56 = .ok (.ishl, 1) := by decide +kernel
theorem dX4_feelAll_57 : decode cX4_feelAll 57 = .ok (.ior, 1) := by decide +kernel
theorem dX4_feelAll_58 : decode cX4_feelAll 58 = .ok (.istore_n 2, 1) := by decide +kernel
theorem dX4_feelAll_59 : decode cX4_feelAll 59 = .ok (.iinc 3 1, 3) := by decide +kernel
theorem dX4_feelAll_62 : decode cX4_feelAll 62 = .ok (.goto (-58), 3) := by decide +kernel
theorem dX4_feelAll_65 : decode cX4_feelAll 65 = .ok (.iload_n 2, 1) := by decide +kernel
theorem dX4_feelAll_66 : decode cX4_feelAll 66 = .ok (.ireturn, 1) := by decide +kernel
theorem dX4_feel_0 : decode cX4_feel 0 = .ok (.aload_n 0, 1) := by decide +kernel
theorem dX4_feel_1 : decode cX4_feel 1 = .ok (.getfield 9, 3) := by decide +kernel
theorem dX4_feel_4 : decode cX4_feel 4 = .ok (.iload_n 1, 1) := by decide +kernel
theorem dX4_feel_5 : decode cX4_feel 5 = .ok (.iaload, 1) := by decide +kernel
theorem dX4_feel_6 : decode cX4_feel 6 = .ok (.istore 4, 2) := by decide +kernel
theorem dX4_feel_8 : decode cX4_feel 8 = .ok (.aload_n 0, 1) := by decide +kernel
theorem dX4_feel_9 : decode cX4_feel 9 = .ok (.getfield 18, 3) := by decide +kernel
theorem dX4_feel_12 : decode cX4_feel 12 = .ok (.iload_n 1, 1) := by decide +kernel
theorem dX4_feel_13 : decode cX4_feel 13 = .ok (.iaload, 1) := by decide +kernel
theorem dX4_feel_14 : decode cX4_feel 14 = .ok (.ifCond .eq 4, 3) := by decide +kernel
theorem dX4_feel_17 : decode cX4_feel 17 = .ok (.return_, 1) := by decide +kernel
theorem dX4_feel_18 : decode cX4_feel 18 = .ok (.aload_n 2, 1) := by decide +kernel
theorem dX4_feel_19 : decode cX4_feel 19 = .ok (.iload 4, 2) := by decide +kernel
theorem dX4_feel_21 : decode cX4_feel 21 = .ok (.invokevirtual 58, 3) := by decide +kernel
theorem dX4_feel_24 : decode cX4_feel 24 = .ok (.aload_n 0, 1) := by decide +kernel
theorem dX4_feel_25 : decode cX4_feel 25 = .ok (.getfield 21, 3) := by decide +kernel
theorem dX4_feel_28 : decode cX4_feel 28 = .ok (.iload_n 1, 1) := by decide +kernel
theorem dX4_feel_29 : decode cX4_feel 29 = .ok (.invokevirtual 64, 3) := by decide +kernel
theorem dX4_feel_32 : decode cX4_feel 32 = .ok (.if_icmp .le 13, 3) := by decide +kernel
theorem dX4_feel_35 : decode cX4_feel 35 = .ok (.aload_n 0, 1) := by decide +kernel
theorem dX4_feel_36 : decode cX4_feel 36 = .ok (.getfield 18, 3) := by decide +kernel
theorem dX4_feel_39 : decode cX4_feel 39 = .ok (.iload_n 1, 1) := by decide +kernel
theorem dX4_feel_40 : decode cX4_feel 40 = .ok (.iconst 2, 1) := by decide +kernel
theorem dX4_feel_41 : decode cX4_feel 41 = .ok (.iastore, 1) := by decide +kernel
theorem dX4_feel_42 : decode cX4_feel 42 = .ok (.goto 95, 3) := by decide +kernel
theorem dX4_feel_45 : decode cX4_feel 45 = .ok (.aload_n 0, 1) := by decide +kernel
theorem dX4_feel_46 : decode cX4_feel 46 = .ok (.getfield 21, 3) := by decide +kernel
theorem dX4_feel_49 : decode cX4_feel 49 = .ok (.iload_n 1, 1) := by decide +kernel
theorem dX4_feel_50 : decode cX4_feel 50 = .ok (.invokevirtual 67, 3) := by decide +kernel
theorem dX4_feel_53 : decode cX4_feel 53 = .ok (.ifCond .eq 27, 3) := by decide +kernel
theorem dX4_feel_56 : decode cX4_feel 56 = .ok (.iload_n 3, 1) := by decide +kernel
theorem dX4_feel_57 : decode cX4_feel 57 = .ok (.ifCond .eq 23, 3) := by decide +kernel
theorem dX4_feel_60 : decode cX4_feel 60 = .ok (.aload_n 2, 1) := by decide +kernel
theorem dX4_feel_61 : decode cX4_feel 61 = .ok (.getfield 70, 3) := by decide +kernel
theorem dX4_feel_64 : decode cX4_feel 64 = .ok (.iload 4, 2) := by decide +kernel
theorem dX4_feel_66 : decode cX4_feel 66 = .ok (.iaload, 1) := by decide +kernel
theorem dX4_feel_67 : decode cX4_feel 67 = .ok (.ifCond .le 13, 3) := by decide +kernel
theorem dX4_feel_70 : decode cX4_feel 70 = .ok (.aload_n 0, 1) := by decide +kernel
theorem dX4_feel_71 : decode cX4_feel 71 = .ok (.getfield 18, 3) := by decide +kernel
theorem dX4_feel_74 : decode cX4_feel 74 = .ok (.iload_n 1, 1) := by decide +kernel
theorem dX4_feel_75 : decode cX4_feel 75 = .ok (.iconst 3, 1) := by decide +kernel
theorem dX4_feel_76 : decode cX4_feel 76 = .ok (.iastore, 1) := by decide +kernel
theorem dX4_feel_77 : decode cX4_feel 77 = .ok (.goto 60, 3) := by decide +kernel
theorem dX4_feel_80 : decode cX4_feel 80 = .ok (.aload_n 0, 1) := by decide +kernel
theorem dX4_feel_81 : decode cX4_feel 81 = .ok (.getfield 21, 3) := by decide +kernel
theorem dX4_feel_84 : decode cX4_feel 84 = .ok (.iload_n 1, 1) := by decide +kernel
theorem dX4_feel_85 : decode cX4_feel 85 = .ok (.aload_n 2, 1) := by decide +kernel
theorem dX4_feel_86 : decode cX4_feel 86 = .ok (.getfield 73, 3) := by decide +kernel
theorem dX4_feel_89 : decode cX4_feel 89 = .ok (.iload 4, 2) := by decide +kernel
theorem dX4_feel_91 : decode cX4_feel 91 = .ok (.iaload, 1) := by decide +kernel
theorem dX4_feel_92 : decode cX4_feel 92 = .ok (.invokevirtual 76, 3) := by decide +kernel
theorem dX4_feel_95 : decode cX4_feel 95 = .ok (.ifCond .eq 42, 3) := by decide +kernel
theorem dX4_feel_98 : decode cX4_feel 98 = .ok (.aload_n 0, 1) := by decide +kernel
theorem dX4_feel_99 : decode cX4_feel 99 = .ok (.getfield 15, 3) := by decide +kernel
theorem dX4_feel_102 : decode cX4_feel 102 = .ok (.iload_n 1, 1) := by decide +kernel
theorem dX4_feel_103 : decode cX4_feel 103 = .ok (.dup2, 1) := by decide +kernel
theorem dX4_feel_104 : decode cX4_feel 104 = .ok (.iaload, 1) := by decide +kernel
theorem dX4_feel_105 : decode cX4_feel 105 = .ok (.iconst 1, 1) := by decide +kernel
theorem dX4_feel_106 : decode cX4_feel 106 = .ok (.iadd, 1) := by decide +kernel
theorem dX4_feel_107 : decode cX4_feel 107 = .ok (.iastore, 1) := by decide +kernel
theorem dX4_feel_108 : decode cX4_feel 108 = .ok (.aload_n 0, 1) := by decide +kernel
theorem dX4_feel_109 : decode cX4_feel 109 = .ok (.getfield 18, 3) := by decide +kernel
theorem dX4_feel_112 : decode cX4_feel 112 = .ok (.iload_n 1, 1) := by decide +kernel
theorem dX4_feel_113 : decode cX4_feel 113 = .ok (.aload_n 0, 1) := by decide +kernel
theorem dX4_feel_114 : decode cX4_feel 114 = .ok (.getfield 15, 3) := by decide +kernel
theorem dX4_feel_117 : decode cX4_feel 117 = .ok (.iload_n 1, 1) := by decide +kernel
theorem dX4_feel_118 : decode cX4_feel 118 = .ok (.iaload, 1) := by decide +kernel
theorem dX4_feel_119 : decode cX4_feel 119 = .ok (.aload_n 0, 1) := by decide +kernel
theorem dX4_feel_120 : decode cX4_feel 120 = .ok (.getfield 21, 3) := by decide +kernel
theorem dX4_feel_123 : decode cX4_feel 123 = .ok (.getfield 80, 3) := by decide +kernel
theorem dX4_feel_126 : decode cX4_feel 126 = .ok (.iload_n 1, 1) := by decide +kernel
theorem dX4_feel_127 : decode cX4_feel 127 = .ok (.iaload, 1) := by decide +kernel
theorem dX4_feel_128 : decode cX4_feel 128 = .ok (.if_icmp .lt 7, 3) := by decide +kernel
theorem dX4_feel_131 : decode cX4_feel 131 = .ok (.iconst 1, 1) := by decide +kernel
theorem dX4_feel_132 : decode cX4_feel 132 = .ok (.goto 4, 3) := by decide +kernel
theorem dX4_feel_135 : decode cX4_feel 135 = .ok (.iconst 0, 1) := by decide +kernel
theorem dX4_feel_136 : decode cX4_feel 136 = .ok (.iastore, 1) := by decide +kernel
theorem dX4_feel_137 : decode cX4_feel 137 = .ok (.return_, 1) := by decide +kernel
theorem dX4_isSaltBelow_0 : decode cX4_isSaltBelow 0 = .ok (.iconst 0, 1) := by decide +kernel
theorem dX4_isSaltBelow_1 : decode cX4_isSaltBelow 1 = .ok (.istore_n 2, 1) := by decide +kernel
theorem dX4_isSaltBelow_2 : decode cX4_isSaltBelow 2 = .ok (.iload_n 2, 1) := by decide +kernel
theorem dX4_isSaltBelow_3 : decode cX4_isSaltBelow 3 = .ok (.aload_n 0, 1) := by decide +kernel
theorem dX4_isSaltBelow_4 : decode cX4_isSaltBelow 4 = .ok (.getfield 21, 3) := by decide +kernel
theorem dX4_isSaltBelow_7 : decode cX4_isSaltBelow 7 = .ok (.getfield 45, 3) := by decide +kernel
theorem dX4_isSaltBelow_10 : decode cX4_isSaltBelow 10 = .ok (.if_icmp .ge 34, 3) := by decide +kernel
theorem dX4_isSaltBelow_13 : decode cX4_isSaltBelow 13 = .ok (.aload_n 0, 1) := by decide +kernel
theorem dX4_isSaltBelow_14 : decode cX4_isSaltBelow 14 = .ok (.getfield 21, 3) := by decide +kernel
theorem dX4_isSaltBelow_17 : decode cX4_isSaltBelow 17 = .ok (.iload_n 2, 1) := by decide +kernel
theorem dX4_isSaltBelow_18 : decode cX4_isSaltBelow 18 = .ok (.invokevirtual 83, 3) := by decide +kernel
theorem dX4_isSaltBelow_21 : decode cX4_isSaltBelow 21 = .ok (.ifCond .eq 17, 3) := by decide +kernel
theorem dX4_isSaltBelow_24 : decode cX4_isSaltBelow 24 = .ok (.aload_n 0, 1) := by decide +kernel
theorem dX4_isSaltBelow_25 : decode cX4_isSaltBelow 25 = .ok (.getfield 9, 3) := by decide +kernel
theorem dX4_isSaltBelow_28 : decode cX4_isSaltBelow 28 = .ok (.iload_n 2, 1) := by decide +kernel
theorem dX4_isSaltBelow_29 : decode cX4_isSaltBelow 29 = .ok (.iaload, 1) := by decide +kernel
theorem dX4_isSaltBelow_30 : decode cX4_isSaltBelow 30 = .ok (.iload_n 1, 1) := by decide +kernel
theorem dX4_isSaltBelow_31 : decode cX4_isSaltBelow 31 = .ok (.iconst 1, 1) := by decide +kernel
theorem dX4_isSaltBelow_32 : decode cX4_isSaltBelow 32 = .ok (.isub, 1) := by decide +kernel
theorem dX4_isSaltBelow_33 : decode cX4_isSaltBelow 33 = .ok (.if_icmp .ne 5, 3) := by decide +kernel
theorem dX4_isSaltBelow_36 : decode cX4_isSaltBelow 36 = .ok (.iconst 1, 1) := by decide +kernel
theorem dX4_isSaltBelow_37 : decode cX4_isSaltBelow 37 = .ok (.ireturn, 1) := by decide +kernel
theorem dX4_isSaltBelow_38 : decode cX4_isSaltBelow 38 = .ok (.iinc 2 1, 3) := by decide +kernel
theorem dX4_isSaltBelow_41 : decode cX4_isSaltBelow 41 = .ok (.goto (-39), 3) := by decide +kernel
theorem dX4_isSaltBelow_44 : decode cX4_isSaltBelow 44 = .ok (.iconst 0, 1) := by decide +kernel
theorem dX4_isSaltBelow_45 : decode cX4_isSaltBelow 45 = .ok (.ireturn, 1) := by decide +kernel
theorem dX4_potsIn_0 : decode cX4_potsIn 0 = .ok (.iconst 0, 1) := by decide +kernel
theorem dX4_potsIn_1 : decode cX4_potsIn 1 = .ok (.istore_n 2, 1) := by decide +kernel
theorem dX4_potsIn_2 : decode cX4_potsIn 2 = .ok (.iconst 0, 1) := by decide +kernel
theorem dX4_potsIn_3 : decode cX4_potsIn 3 = .ok (.istore_n 3, 1) := by decide +kernel
theorem dX4_potsIn_4 : decode cX4_potsIn 4 = .ok (.iload_n 3, 1) := by decide +kernel
theorem dX4_potsIn_5 : decode cX4_potsIn 5 = .ok (.aload_n 0, 1) := by decide +kernel
theorem dX4_potsIn_6 : decode cX4_potsIn 6 = .ok (.getfield 21, 3) := by decide +kernel
theorem dX4_potsIn_9 : decode cX4_potsIn 9 = .ok (.getfield 45, 3) := by decide +kernel
theorem dX4_potsIn_12 : decode cX4_potsIn 12 = .ok (.if_icmp .ge 29, 3) := by decide +kernel
theorem dX4_potsIn_15 : decode cX4_potsIn 15 = .ok (.iload_n 2, 1) := by decide +kernel
theorem dX4_potsIn_16 : decode cX4_potsIn 16 = .ok (.aload_n 0, 1) := by decide +kernel
theorem dX4_potsIn_17 : decode cX4_potsIn 17 = .ok (.getfield 9, 3) := by decide +kernel
theorem dX4_potsIn_20 : decode cX4_potsIn 20 = .ok (.iload_n 3, 1) := by decide +kernel
theorem dX4_potsIn_21 : decode cX4_potsIn 21 = .ok (.iaload, 1) := by decide +kernel
theorem dX4_potsIn_22 : decode cX4_potsIn 22 = .ok (.iload_n 1, 1) := by decide +kernel
theorem dX4_potsIn_23 : decode cX4_potsIn 23 = .ok (.if_icmp .ne 9, 3) := by decide +kernel
theorem dX4_potsIn_26 : decode cX4_potsIn 26 = .ok (.iconst 1, 1) := by decide +kernel
theorem dX4_potsIn_27 : decode cX4_potsIn 27 = .ok (.iload_n 3, 1) := by decide +kernel
theorem dX4_potsIn_28 : decode cX4_potsIn 28 = .ok (.ishl, 1) := by decide +kernel
theorem dX4_potsIn_29 : decode cX4_potsIn 29 = .ok (.goto 4, 3) := by decide +kernel
theorem dX4_potsIn_32 : decode cX4_potsIn 32 = .ok (.iconst 0, 1) := by decide +kernel
theorem dX4_potsIn_33 : decode cX4_potsIn 33 = .ok (.ior, 1) := by decide +kernel
theorem dX4_potsIn_34 : decode cX4_potsIn 34 = .ok (.istore_n 2, 1) := by decide +kernel
theorem dX4_potsIn_35 : decode cX4_potsIn 35 = .ok (.iinc 3 1, 3) := by decide +kernel
theorem dX4_potsIn_38 : decode cX4_potsIn 38 = .ok (.goto (-34), 3) := by decide +kernel
theorem dX4_potsIn_41 : decode cX4_potsIn 41 = .ok (.iload_n 2, 1) := by decide +kernel
theorem dX4_potsIn_42 : decode cX4_potsIn 42 = .ok (.ireturn, 1) := by decide +kernel
theorem dX4_howMany_0 : decode cX4_howMany 0 = .ok (.iconst 0, 1) := by decide +kernel
theorem dX4_howMany_1 : decode cX4_howMany 1 = .ok (.istore_n 2, 1) := by decide +kernel
theorem dX4_howMany_2 : decode cX4_howMany 2 = .ok (.iconst 0, 1) := by decide +kernel
theorem dX4_howMany_3 : decode cX4_howMany 3 = .ok (.istore_n 3, 1) := by decide +kernel
theorem dX4_howMany_4 : decode cX4_howMany 4 = .ok (.iload_n 3, 1) := by decide +kernel
theorem dX4_howMany_5 : decode cX4_howMany 5 = .ok (.aload_n 0, 1) := by decide +kernel
theorem dX4_howMany_6 : decode cX4_howMany 6 = .ok (.getfield 21, 3) := by decide +kernel
theorem dX4_howMany_9 : decode cX4_howMany 9 = .ok (.getfield 45, 3) := by decide +kernel
theorem dX4_howMany_12 : decode cX4_howMany 12 = .ok (.if_icmp .ge 27, 3) := by decide +kernel
theorem dX4_howMany_15 : decode cX4_howMany 15 = .ok (.iload_n 2, 1) := by decide +kernel
theorem dX4_howMany_16 : decode cX4_howMany 16 = .ok (.aload_n 0, 1) := by decide +kernel
theorem dX4_howMany_17 : decode cX4_howMany 17 = .ok (.getfield 18, 3) := by decide +kernel
theorem dX4_howMany_20 : decode cX4_howMany 20 = .ok (.iload_n 3, 1) := by decide +kernel
theorem dX4_howMany_21 : decode cX4_howMany 21 = .ok (.iaload, 1) := by decide +kernel
theorem dX4_howMany_22 : decode cX4_howMany 22 = .ok (.iload_n 1, 1) := by decide +kernel
theorem dX4_howMany_23 : decode cX4_howMany 23 = .ok (.if_icmp .ne 7, 3) := by decide +kernel
theorem dX4_howMany_26 : decode cX4_howMany 26 = .ok (.iconst 1, 1) := by decide +kernel
theorem dX4_howMany_27 : decode cX4_howMany 27 = .ok (.goto 4, 3) := by decide +kernel
theorem dX4_howMany_30 : decode cX4_howMany 30 = .ok (.iconst 0, 1) := by decide +kernel
theorem dX4_howMany_31 : decode cX4_howMany 31 = .ok (.iadd, 1) := by decide +kernel
theorem dX4_howMany_32 : decode cX4_howMany 32 = .ok (.istore_n 2, 1) := by decide +kernel
theorem dX4_howMany_33 : decode cX4_howMany 33 = .ok (.iinc 3 1, 3) := by decide +kernel
theorem dX4_howMany_36 : decode cX4_howMany 36 = .ok (.goto (-32), 3) := by decide +kernel
theorem dX4_howMany_39 : decode cX4_howMany 39 = .ok (.iload_n 2, 1) := by decide +kernel
theorem dX4_howMany_40 : decode cX4_howMany 40 = .ok (.ireturn, 1) := by decide +kernel
theorem dX4_canBeReady_0 : decode cX4_canBeReady 0 = .ok (.iconst 0, 1) := by decide +kernel
theorem dX4_canBeReady_1 : decode cX4_canBeReady 1 = .ok (.istore_n 3, 1) := by decide +kernel
theorem dX4_canBeReady_2 : decode cX4_canBeReady 2 = .ok (.iload_n 3, 1) := by decide +kernel
theorem dX4_canBeReady_3 : decode cX4_canBeReady 3 = .ok (.aload_n 0, 1) := by decide +kernel
theorem dX4_canBeReady_4 : decode cX4_canBeReady 4 = .ok (.getfield 21, 3) := by decide +kernel
theorem dX4_canBeReady_7 : decode cX4_canBeReady 7 = .ok (.getfield 45, 3) := by decide +kernel
theorem dX4_canBeReady_10 : decode cX4_canBeReady 10 = .ok (.if_icmp .ge 71, 3) := by decide +kernel
theorem dX4_canBeReady_13 : decode cX4_canBeReady 13 = .ok (.aload_n 0, 1) := by decide +kernel
theorem dX4_canBeReady_14 : decode cX4_canBeReady 14 = .ok (.getfield 18, 3) := by decide +kernel
theorem dX4_canBeReady_17 : decode cX4_canBeReady 17 = .ok (.iload_n 3, 1) := by decide +kernel
theorem dX4_canBeReady_18 : decode cX4_canBeReady 18 = .ok (.iaload, 1) := by decide +kernel
theorem dX4_canBeReady_19 : decode cX4_canBeReady 19 = .ok (.iconst 1, 1) := by decide +kernel
theorem dX4_canBeReady_20 : decode cX4_canBeReady 20 = .ok (.if_icmp .eq 32, 3) := by decide +kernel
theorem dX4_canBeReady_23 : decode cX4_canBeReady 23 = .ok (.aload_n 0, 1) := by decide +kernel
theorem dX4_canBeReady_24 : decode cX4_canBeReady 24 = .ok (.getfield 18, 3) := by decide +kernel
theorem dX4_canBeReady_27 : decode cX4_canBeReady 27 = .ok (.iload_n 3, 1) := by decide +kernel
theorem dX4_canBeReady_28 : decode cX4_canBeReady 28 = .ok (.iaload, 1) := by decide +kernel
theorem dX4_canBeReady_29 : decode cX4_canBeReady 29 = .ok (.ifCond .ne 27, 3) := by decide +kernel
theorem dX4_canBeReady_32 : decode cX4_canBeReady 32 = .ok (.aload_n 0, 1) := by decide +kernel
theorem dX4_canBeReady_33 : decode cX4_canBeReady 33 = .ok (.getfield 21, 3) := by decide +kernel
theorem dX4_canBeReady_36 : decode cX4_canBeReady 36 = .ok (.getfield 80, 3) := by decide +kernel
theorem dX4_canBeReady_39 : decode cX4_canBeReady 39 = .ok (.iload_n 3, 1) := by decide +kernel
theorem dX4_canBeReady_40 : decode cX4_canBeReady 40 = .ok (.iaload, 1) := by decide +kernel
theorem dX4_canBeReady_41 : decode cX4_canBeReady 41 = .ok (.aload_n 0, 1) := by decide +kernel
theorem dX4_canBeReady_42 : decode cX4_canBeReady 42 = .ok (.getfield 15, 3) := by decide +kernel
theorem dX4_canBeReady_45 : decode cX4_canBeReady 45 = .ok (.iload_n 3, 1) := by decide +kernel
theorem dX4_canBeReady_46 : decode cX4_canBeReady 46 = .ok (.iaload, 1) := by decide +kernel
theorem dX4_canBeReady_47 : decode cX4_canBeReady 47 = .ok (.isub, 1) := by decide +kernel
theorem dX4_canBeReady_48 : decode cX4_canBeReady 48 = .ok (.iload_n 2, 1) := by decide +kernel
theorem dX4_canBeReady_49 : decode cX4_canBeReady 49 = .ok (.if_icmp .gt 7, 3) := by decide +kernel
theorem dX4_canBeReady_52 : decode cX4_canBeReady 52 = .ok (.iconst 1, 1) := by decide +kernel
theorem dX4_canBeReady_53 : decode cX4_canBeReady 53 = .ok (.goto 4, 3) := by decide +kernel
theorem dX4_canBeReady_56 : decode cX4_canBeReady 56 = .ok (.iconst 0, 1) := by decide +kernel
theorem dX4_canBeReady_57 : decode cX4_canBeReady 57 = .ok (.istore 4, 2) := by decide +kernel
theorem dX4_canBeReady_59 : decode cX4_canBeReady 59 = .ok (.iload_n 1, 1) := by decide +kernel
theorem dX4_canBeReady_60 : decode cX4_canBeReady 60 = .ok (.iload_n 3, 1) := by decide +kernel
theorem dX4_canBeReady_61 : decode cX4_canBeReady 61 = .ok (.ishr, 1) := by decide +kernel
theorem dX4_canBeReady_62 : decode cX4_canBeReady 62 = .ok (.iconst 1, 1) := by decide +kernel
theorem dX4_canBeReady_63 : decode cX4_canBeReady 63 = .ok (.iand, 1) := by decide +kernel
theorem dX4_canBeReady_64 : decode cX4_canBeReady 64 = .ok (.iconst 1, 1) := by decide +kernel
theorem dX4_canBeReady_65 : decode cX4_canBeReady 65 = .ok (.if_icmp .ne 10, 3) := by decide +kernel
theorem dX4_canBeReady_68 : decode cX4_canBeReady 68 = .ok (.iload 4, 2) := by decide +kernel
theorem dX4_canBeReady_70 : decode cX4_canBeReady 70 = .ok (.ifCond .ne 5, 3) := by decide +kernel
theorem dX4_canBeReady_73 : decode cX4_canBeReady 73 = .ok (.iconst 0, 1) := by decide +kernel
theorem dX4_canBeReady_74 : decode cX4_canBeReady 74 = .ok (.ireturn, 1) := by decide +kernel
theorem dX4_canBeReady_75 : decode cX4_canBeReady 75 = .ok (.iinc 3 1, 3) := by decide +kernel
theorem dX4_canBeReady_78 : decode cX4_canBeReady 78 = .ok (.goto (-76), 3) := by decide +kernel
theorem dX4_canBeReady_81 : decode cX4_canBeReady 81 = .ok (.iconst 1, 1) := by decide +kernel
theorem dX4_canBeReady_82 : decode cX4_canBeReady 82 = .ok (.ireturn, 1) := by decide +kernel
theorem dX5_init_0 : decode cX5_init 0 = .ok (.aload_n 0, 1) := by decide +kernel
theorem dX5_init_1 : decode cX5_init 1 = .ok (.invokespecial 3, 3) := by decide +kernel
theorem dX5_init_4 : decode cX5_init 4 = .ok (.aload_n 0, 1) := by decide +kernel
theorem dX5_init_5 : decode cX5_init 5 = .ok (.iconst 5, 1) := by decide +kernel
theorem dX5_init_6 : decode cX5_init 6 = .ok (.newarray .int, 2) := by decide +kernel
theorem dX5_init_8 : decode cX5_init 8 = .ok (.putfield 9, 3) := by decide +kernel
theorem dX5_init_11 : decode cX5_init 11 = .ok (.aload_n 0, 1) := by decide +kernel
theorem dX5_init_12 : decode cX5_init 12 = .ok (.iconst 5, 1) := by decide +kernel
theorem dX5_init_13 : decode cX5_init 13 = .ok (.newarray .int, 2) := by decide +kernel
theorem dX5_init_15 : decode cX5_init 15 = .ok (.putfield 15, 3) := by decide +kernel
theorem dX5_init_18 : decode cX5_init 18 = .ok (.aload_n 0, 1) := by decide +kernel
theorem dX5_init_19 : decode cX5_init 19 = .ok (.iconst 5, 1) := by decide +kernel
theorem dX5_init_20 : decode cX5_init 20 = .ok (.bipush 6, 2) := by decide +kernel
theorem dX5_init_22 : decode cX5_init 22 = .ok (.multianewarray 18 2, 4) := by decide +kernel
theorem dX5_init_26 : decode cX5_init 26 = .ok (.putfield 20, 3) := by decide +kernel
theorem dX5_init_29 : decode cX5_init 29 = .ok (.aload_n 0, 1) := by decide +kernel
theorem dX5_init_30 : decode cX5_init 30 = .ok (.iconst 5, 1) := by decide +kernel
theorem dX5_init_31 : decode cX5_init 31 = .ok (.newarray .boolean, 2) := by decide +kernel
theorem dX5_init_33 : decode cX5_init 33 = .ok (.putfield 23, 3) := by decide +kernel
theorem dX5_init_36 : decode cX5_init 36 = .ok (.return_, 1) := by decide +kernel
theorem dX5_read_0 : decode cX5_read 0 = .ok (.aload_n 1, 1) := by decide +kernel
theorem dX5_read_1 : decode cX5_read 1 = .ok (.iconst 0, 1) := by decide +kernel
theorem dX5_read_2 : decode cX5_read 2 = .ok (.invokevirtual 27, 3) := by decide +kernel
theorem dX5_read_5 : decode cX5_read 5 = .ok (.bipush 75, 2) := by decide +kernel
theorem dX5_read_7 : decode cX5_read 7 = .ok (.if_icmp .eq 5, 3) := by decide +kernel
theorem dX5_read_10 : decode cX5_read 10 = .ok (.iconst 0, 1) := by decide +kernel
theorem dX5_read_11 : decode cX5_read 11 = .ok (.ireturn, 1) := by decide +kernel
theorem dX5_read_12 : decode cX5_read 12 = .ok (.aload_n 1, 1) := by decide +kernel
theorem dX5_read_13 : decode cX5_read 13 = .ok (.iconst 1, 1) := by decide +kernel
theorem dX5_read_14 : decode cX5_read 14 = .ok (.invokevirtual 33, 3) := by decide +kernel
theorem dX5_read_17 : decode cX5_read 17 = .ok (.istore_n 2, 1) := by decide +kernel
theorem dX5_read_18 : decode cX5_read 18 = .ok (.iload_n 2, 1) := by decide +kernel
theorem dX5_read_19 : decode cX5_read 19 = .ok (.iconst 2, 1) := by decide +kernel
theorem dX5_read_20 : decode cX5_read 20 = .ok (.if_icmp .lt 8, 3) := by decide +kernel
theorem dX5_read_23 : decode cX5_read 23 = .ok (.iload_n 2, 1) := by decide +kernel
theorem dX5_read_24 : decode cX5_read 24 = .ok (.iconst 5, 1) := by decide +kernel
theorem dX5_read_25 : decode cX5_read 25 = .ok (.if_icmp .le 5, 3) := by decide +kernel
theorem dX5_read_28 : decode cX5_read 28 = .ok (.iconst 1, 1) := by decide +kernel
theorem dX5_read_29 : decode cX5_read 29 = .ok (.ireturn, 1) := by decide +kernel
theorem dX5_read_30 : decode cX5_read 30 = .ok (.aload_n 0, 1) := by decide +kernel
theorem dX5_read_31 : decode cX5_read 31 = .ok (.iload_n 2, 1) := by decide +kernel
theorem dX5_read_32 : decode cX5_read 32 = .ok (.invokevirtual 36, 3) := by decide +kernel
theorem dX5_read_35 : decode cX5_read 35 = .ok (.aload_n 0, 1) := by decide +kernel
theorem dX5_read_36 : decode cX5_read 36 = .ok (.aload_n 1, 1) := by decide +kernel
theorem dX5_read_37 : decode cX5_read 37 = .ok (.invokevirtual 40, 3) := by decide +kernel
theorem dX5_read_40 : decode cX5_read 40 = .ok (.ireturn, 1) := by decide +kernel
theorem dX5_begin_0 : decode cX5_begin 0 = .ok (.aload_n 0, 1) := by decide +kernel
theorem dX5_begin_1 : decode cX5_begin 1 = .ok (.iload_n 1, 1) := by decide +kernel
theorem dX5_begin_2 : decode cX5_begin 2 = .ok (.putfield 44, 3) := by decide +kernel
theorem dX5_begin_5 : decode cX5_begin 5 = .ok (.aload_n 0, 1) := by decide +kernel
theorem dX5_begin_6 : decode cX5_begin 6 = .ok (.iconst 0, 1) := by decide +kernel
theorem dX5_begin_7 : decode cX5_begin 7 = .ok (.putfield 48, 3) := by decide +kernel
theorem dX5_begin_10 : decode cX5_begin 10 = .ok (.aload_n 0, 1) := by decide +kernel
theorem dX5_begin_11 : decode cX5_begin 11 = .ok (.iconst 0, 1) := by decide +kernel
theorem dX5_begin_12 : decode cX5_begin 12 = .ok (.putfield 51, 3) := by decide +kernel
theorem dX5_begin_15 : decode cX5_begin 15 = .ok (.iconst 0, 1) := by decide +kernel
theorem dX5_begin_16 : decode cX5_begin 16 = .ok (.istore_n 2, 1) := by decide +kernel
theorem dX5_begin_17 : decode cX5_begin 17 = .ok (.iload_n 2, 1) := by decide +kernel
theorem dX5_begin_18 : decode cX5_begin 18 = .ok (.iconst 5, 1) := by decide +kernel
theorem dX5_begin_19 : decode cX5_begin 19 = .ok (.if_icmp .ge 30, 3) := by decide +kernel
theorem dX5_begin_22 : decode cX5_begin 22 = .ok (.aload_n 0, 1) := by decide +kernel
theorem dX5_begin_23 : decode cX5_begin 23 = .ok (.getfield 9, 3) := by decide +kernel
theorem dX5_begin_26 : decode cX5_begin 26 = .ok (.iload_n 2, 1) := by decide +kernel
theorem dX5_begin_27 : decode cX5_begin 27 = .ok (.iconst 5, 1) := by decide +kernel
theorem dX5_begin_28 : decode cX5_begin 28 = .ok (.iastore, 1) := by decide +kernel
theorem dX5_begin_29 : decode cX5_begin 29 = .ok (.aload_n 0, 1) := by decide +kernel
theorem dX5_begin_30 : decode cX5_begin 30 = .ok (.getfield 15, 3) := by decide +kernel
theorem dX5_begin_33 : decode cX5_begin 33 = .ok (.iload_n 2, 1) := by decide +kernel
theorem dX5_begin_34 : decode cX5_begin 34 = .ok (.iconst 0, 1) := by decide +kernel
theorem dX5_begin_35 : decode cX5_begin 35 = .ok (.iastore, 1) := by decide +kernel
theorem dX5_begin_36 : decode cX5_begin 36 = .ok (.aload_n 0, 1) := by decide +kernel
theorem dX5_begin_37 : decode cX5_begin 37 = .ok (.getfield 23, 3) := by decide +kernel
theorem dX5_begin_40 : decode cX5_begin 40 = .ok (.iload_n 2, 1) := by decide +kernel
theorem dX5_begin_41 : decode cX5_begin 41 = .ok (.iconst 0, 1) := by decide +kernel
theorem dX5_begin_42 : decode cX5_begin 42 = .ok (.bastore, 1) := by decide +kernel
theorem dX5_begin_43 : decode cX5_begin 43 = .ok (.iinc 2 1, 3) := by decide +kernel
theorem dX5_begin_46 : decode cX5_begin 46 = .ok (.goto (-29), 3) := by decide +kernel
theorem dX5_begin_49 : decode cX5_begin 49 = .ok (.return_, 1) := by decide +kernel
theorem dX5_readParts_0 : decode cX5_readParts 0 = .ok (.iconst 2, 1) := by decide +kernel
theorem dX5_readParts_1 : decode cX5_readParts 1 = .ok (.istore_n 2, 1) := by decide +kernel
theorem dX5_readParts_2 : decode cX5_readParts 2 = .ok (.iconst 0, 1) := by decide +kernel
theorem dX5_readParts_3 : decode cX5_readParts 3 = .ok (.istore_n 3, 1) := by decide +kernel
theorem dX5_readParts_4 : decode cX5_readParts 4 = .ok (.iload_n 3, 1) := by decide +kernel
theorem dX5_readParts_5 : decode cX5_readParts 5 = .ok (.bipush 10, 2) := by decide +kernel
theorem dX5_readParts_7 : decode cX5_readParts 7 = .ok (.if_icmp .gt 80, 3) := by decide +kernel
theorem dX5_readParts_10 : decode cX5_readParts 10 = .ok (.iload_n 2, 1) := by decide +kernel
theorem dX5_readParts_11 : decode cX5_readParts 11 = .ok (.aload_n 1, 1) := by decide +kernel
theorem dX5_readParts_12 : decode cX5_readParts 12 = .ok (.invokevirtual 54, 3) := by decide +kernel
theorem dX5_readParts_15 : decode cX5_readParts 15 = .ok (.if_icmp .ge 72, 3) := by decide +kernel
theorem dX5_readParts_18 : decode cX5_readParts 18 = .ok (.aload_n 1, 1) := by decide +kernel
theorem dX5_readParts_19 : decode cX5_readParts 19 = .ok (.iload_n 2, 1) := by decide +kernel
theorem dX5_readParts_20 : decode cX5_readParts 20 = .ok (.invokevirtual 27, 3) := by decide +kernel
theorem dX5_readParts_23 : decode cX5_readParts 23 = .ok (.bipush 80, 2) := by decide +kernel
theorem dX5_readParts_25 : decode cX5_readParts 25 = .ok (.if_icmp .ne 7, 3) := by decide +kernel
theorem dX5_readParts_28 : decode cX5_readParts 28 = .ok (.iconst 1, 1) := by decide +kernel
theorem dX5_readParts_29 : decode cX5_readParts 29 = .ok (.goto 4, 3) := by decide +kernel
theorem dX5_readParts_32 : decode cX5_readParts 32 = .ok (.iconst 0, 1) := by decide +kernel
theorem dX5_readParts_33 : decode cX5_readParts 33 = .ok (.istore 4, 2) := by decide +kernel
theorem dX5_readParts_35 : decode cX5_readParts 35 = .ok (.iload 4, 2) := by decide +kernel
theorem dX5_readParts_37 : decode cX5_readParts 37 = .ok (.ifCond .eq 12, 3) := by decide +kernel
theorem dX5_readParts_40 : decode cX5_readParts 40 = .ok (.aload_n 0, 1) := by decide +kernel
theorem dX5_readParts_41 : decode cX5_readParts 41 = .ok (.aload_n 1, 1) := by decide +kernel
theorem dX5_readParts_42 : decode cX5_readParts 42 = .ok (.iload_n 2, 1) := by decide +kernel
theorem dX5_readParts_43 : decode cX5_readParts 43 = .ok (.invokevirtual 58, 3) := by decide +kernel
theorem dX5_readParts_46 : decode cX5_readParts 46 = .ok (.goto 9, 3) := by decide +kernel
theorem dX5_readParts_49 : decode cX5_readParts 49 = .ok (.aload_n 0, 1) := by decide +kernel
theorem dX5_readParts_50 : decode cX5_readParts 50 = .ok (.aload_n 1, 1) := by decide +kernel
theorem dX5_readParts_51 : decode cX5_readParts 51 = .ok (.iload_n 2, 1) := by decide +kernel
theorem dX5_readParts_52 : decode cX5_readParts 52 = .ok (.invokevirtual 62, 3) := by decide +kernel
theorem dX5_readParts_55 : decode cX5_readParts 55 = .ok (.istore 5, 2) := by decide +kernel
theorem dX5_readParts_57 : decode cX5_readParts 57 = .ok (.iload 5, 2) := by decide +kernel
theorem dX5_readParts_59 : decode cX5_readParts 59 = .ok (.bipush (-9), 2) := by decide +kernel
theorem dX5_readParts_61 : decode cX5_readParts 61 = .ok (.if_icmp .eq 6, 3) := by decide +kernel
theorem dX5_readParts_64 : decode cX5_readParts 64 = .ok (.iload 5, 2) := by decide +kernel
theorem dX5_readParts_66 : decode cX5_readParts 66 = .ok (.ireturn, 1) := by decide +kernel
theorem dX5_readParts_67 : decode cX5_readParts 67 = .ok (.iload_n 2, 1) := by decide +kernel
theorem dX5_readParts_68 : decode cX5_readParts 68 = .ok (.iload 4, 2) := by decide +kernel
theorem dX5_readParts_70 : decode cX5_readParts 70 = .ok (.ifCond .eq 8, 3) := by decide +kernel
theorem dX5_readParts_73 : decode cX5_readParts 73 = .ok (.bipush 7, 2) := by decide +kernel
theorem dX5_readParts_75 : decode cX5_readParts 75 = .ok (.goto 4, 3) := by decide +kernel
theorem dX5_readParts_78 : decode cX5_readParts 78 = .ok (.iconst 4, 1) := by decide +kernel
theorem dX5_readParts_79 : decode cX5_readParts 79 = .ok (.iadd, 1) := by decide +kernel
theorem dX5_readParts_80 : decode cX5_readParts 80 = .ok (.istore_n 2, 1) := by decide +kernel
theorem dX5_readParts_81 : decode cX5_readParts 81 = .ok (.iinc 3 1, 3) := by decide +kernel
theorem dX5_readParts_84 : decode cX5_readParts 84 = .ok (.goto (-80), 3) := by decide +kernel
theorem dX5_readParts_87 : decode cX5_readParts 87 = .ok (.bipush (-9), 2) := by decide +kernel
theorem dX5_readParts_89 : decode cX5_readParts 89 = .ok (.ireturn, 1) := by decide +kernel
theorem dX5_readShutter_0 : decode cX5_readShutter 0 = .ok (.aload_n 1, 1) := by decide +kernel
theorem dX5_readShutter_1 : decode cX5_readShutter 1 = .ok (.iload_n 2, 1) := by decide +kernel
theorem dX5_readShutter_2 : decode cX5_readShutter 2 = .ok (.invokevirtual 27, 3) := by decide +kernel
theorem dX5_readShutter_5 : decode cX5_readShutter 5 = .ok (.bipush 83, 2) := by decide +kernel
theorem dX5_readShutter_7 : decode cX5_readShutter 7 = .ok (.if_icmp .ne 14, 3) := by decide +kernel
theorem dX5_readShutter_10 : decode cX5_readShutter 10 = .ok (.aload_n 0, 1) := by decide +kernel
theorem dX5_readShutter_11 : decode cX5_readShutter 11 = .ok (.getfield 51, 3) := by decide +kernel
theorem dX5_readShutter_14 : decode cX5_readShutter 14 = .ok (.aload_n 0, 1) := by decide +kernel
theorem dX5_readShutter_15 : decode cX5_readShutter 15 = .ok (.getfield 44, 3) := by decide +kernel
theorem dX5_readShutter_18 : decode cX5_readShutter 18 = .ok (.if_icmp .lt 5, 3) := by decide +kernel
theorem dX5_readShutter_21 : decode cX5_readShutter 21 = .ok (.iload_n 2, 1) := by decide +kernel
theorem dX5_readShutter_22 : decode cX5_readShutter 22 = .ok (.ireturn, 1) := by decide +kernel
theorem dX5_readShutter_23 : decode cX5_readShutter 23 = .ok (.aload_n 1, 1) := by decide +kernel
theorem dX5_readShutter_24 : decode cX5_readShutter 24 = .ok (.iload_n 2, 1) := by decide +kernel
theorem dX5_readShutter_25 : decode cX5_readShutter 25 = .ok (.iconst 1, 1) := by decide +kernel
theorem dX5_readShutter_26 : decode cX5_readShutter 26 = .ok (.iadd, 1) := by decide +kernel
theorem dX5_readShutter_27 : decode cX5_readShutter 27 = .ok (.invokevirtual 33, 3) := by decide +kernel
theorem dX5_readShutter_30 : decode cX5_readShutter 30 = .ok (.istore_n 3, 1) := by decide +kernel
theorem dX5_readShutter_31 : decode cX5_readShutter 31 = .ok (.iload_n 3, 1) := by decide +kernel
theorem dX5_readShutter_32 : decode cX5_readShutter 32 = .ok (.ifCond .lt 20, 3) := by decide +kernel
theorem dX5_readShutter_35 : decode cX5_readShutter 35 = .ok (.iload_n 3, 1) := by decide +kernel
theorem dX5_readShutter_36 : decode cX5_readShutter 36 = .ok (.aload_n 0, 1) := by decide +kernel
theorem dX5_readShutter_37 : decode cX5_readShutter 37 = .ok (.getfield 44, 3) := by decide +kernel
theorem dX5_readShutter_40 : decode cX5_readShutter 40 = .ok (.if_icmp .ge 12, 3) := by decide +kernel
theorem dX5_readShutter_43 : decode cX5_readShutter 43 = .ok (.aload_n 0, 1) := by decide +kernel
theorem dX5_readShutter_44 : decode cX5_readShutter 44 = .ok (.getfield 23, 3) := by decide +kernel
theorem dX5_readShutter_47 : decode cX5_readShutter 47 = .ok (.iload_n 3, 1) := by decide +kernel
theorem dX5_readShutter_48 : decode cX5_readShutter 48 = .ok (.baload, 1) := by decide +kernel
theorem dX5_readShutter_49 : decode cX5_readShutter 49 = .ok (.ifCond .eq 7, 3) := by decide +kernel
theorem dX5_readShutter_52 : decode cX5_readShutter 52 = .ok (.iload_n 2, 1) := by decide +kernel
theorem dX5_readShutter_53 : decode cX5_readShutter 53 = .ok (.iconst 1, 1) := by decide +kernel
theorem dX5_readShutter_54 : decode cX5_readShutter 54 = .ok (.iadd, 1) := by decide +kernel
theorem dX5_readShutter_55 : decode cX5_readShutter 55 = .ok (.ireturn, 1) := by decide +kernel
theorem dX5_readShutter_56 : decode cX5_readShutter 56 = .ok (.aload_n 1, 1) := by decide +kernel
theorem dX5_readShutter_57 : decode cX5_readShutter 57 = .ok (.iload_n 2, 1) := by decide +kernel
theorem dX5_readShutter_58 : decode cX5_readShutter 58 = .ok (.iconst 2, 1) := by decide +kernel
theorem dX5_readShutter_59 : decode cX5_readShutter 59 = .ok (.iadd, 1) := by decide +kernel
theorem dX5_readShutter_60 : decode cX5_readShutter 60 = .ok (.invokevirtual 33, 3) := by decide +kernel
theorem dX5_readShutter_63 : decode cX5_readShutter 63 = .ok (.istore 4, 2) := by decide +kernel
theorem dX5_readShutter_65 : decode cX5_readShutter 65 = .ok (.iload 4, 2) := by decide +kernel
theorem dX5_readShutter_67 : decode cX5_readShutter 67 = .ok (.ifCond .ge 7, 3) := by decide +kernel
theorem dX5_readShutter_70 : decode cX5_readShutter 70 = .ok (.iload_n 2, 1) := by decide +kernel
theorem dX5_readShutter_71 : decode cX5_readShutter 71 = .ok (.iconst 2, 1) := by decide +kernel
theorem dX5_readShutter_72 : decode cX5_readShutter 72 = .ok (.iadd, 1) := by decide +kernel
theorem dX5_readShutter_73 : decode cX5_readShutter 73 = .ok (.ireturn, 1) := by decide +kernel
theorem dX5_readShutter_74 : decode cX5_readShutter 74 = .ok (.aload_n 1, 1) := by decide +kernel
theorem dX5_readShutter_75 : decode cX5_readShutter 75 = .ok (.iload_n 2, 1) := by decide +kernel
theorem dX5_readShutter_76 : decode cX5_readShutter 76 = .ok (.iconst 3, 1) := by decide +kernel
theorem dX5_readShutter_77 : decode cX5_readShutter 77 = .ok (.iadd, 1) := by decide +kernel
theorem dX5_readShutter_78 : decode cX5_readShutter 78 = .ok (.invokevirtual 33, 3) := by decide +kernel
theorem dX5_readShutter_81 : decode cX5_readShutter 81 = .ok (.istore 5, 2) := by decide +kernel
theorem dX5_readShutter_83 : decode cX5_readShutter 83 = .ok (.iload 5, 2) := by decide +kernel
theorem dX5_readShutter_85 : decode cX5_readShutter 85 = .ok (.ifCond .lt 13, 3) := by decide +kernel
theorem dX5_readShutter_88 : decode cX5_readShutter 88 = .ok (.iload 4, 2) := by decide +kernel
theorem dX5_readShutter_90 : decode cX5_readShutter 90 = .ok (.iload 5, 2) := by decide +kernel
theorem dX5_readShutter_92 : decode cX5_readShutter 92 = .ok (.iadd, 1) := by decide +kernel
theorem dX5_readShutter_93 : decode cX5_readShutter 93 = .ok (.bipush 10, 2) := by decide +kernel
theorem dX5_readShutter_95 : decode cX5_readShutter 95 = .ok (.if_icmp .le 7, 3) := by decide +kernel
theorem dX5_readShutter_98 : decode cX5_readShutter 98 = .ok (.iload_n 2, 1) := by decide +kernel
theorem dX5_readShutter_99 : decode cX5_readShutter 99 = .ok (.iconst 3, 1) := by decide +kernel
theorem dX5_readShutter_100 : decode cX5_readShutter 100 = .ok (.iadd, 1) := by decide +kernel
theorem dX5_readShutter_101 : decode cX5_readShutter 101 = .ok (.ireturn, 1) := by decide +kernel
theorem dX5_readShutter_102 : decode cX5_readShutter 102 = .ok (.aload_n 0, 1) := by decide +kernel
theorem dX5_readShutter_103 : decode cX5_readShutter 103 = .ok (.getfield 9, 3) := by decide +kernel
theorem dX5_readShutter_106 : decode cX5_readShutter 106 = .ok (.iload_n 3, 1) := by decide +kernel
theorem dX5_readShutter_107 : decode cX5_readShutter 107 = .ok (.iload 4, 2) := by decide +kernel
theorem dX5_readShutter_109 : decode cX5_readShutter 109 = .ok (.iastore, 1) := by decide +kernel
theorem dX5_readShutter_110 : decode cX5_readShutter 110 = .ok (.aload_n 0, 1) := by decide +kernel
theorem dX5_readShutter_111 : decode cX5_readShutter 111 = .ok (.getfield 15, 3) := by decide +kernel
theorem dX5_readShutter_114 : decode cX5_readShutter 114 = .ok (.iload_n 3, 1) := by decide +kernel
theorem dX5_readShutter_115 : decode cX5_readShutter 115 = .ok (.iload 5, 2) := by decide +kernel
theorem dX5_readShutter_117 : decode cX5_readShutter 117 = .ok (.iastore, 1) := by decide +kernel
theorem dX5_readShutter_118 : decode cX5_readShutter 118 = .ok (.aload_n 0, 1) := by decide +kernel
theorem dX5_readShutter_119 : decode cX5_readShutter 119 = .ok (.getfield 23, 3) := by decide +kernel
theorem dX5_readShutter_122 : decode cX5_readShutter 122 = .ok (.iload_n 3, 1) := by decide +kernel
theorem dX5_readShutter_123 : decode cX5_readShutter 123 = .ok (.iconst 1, 1) := by decide +kernel
theorem dX5_readShutter_124 : decode cX5_readShutter 124 = .ok (.bastore, 1) := by decide +kernel
theorem dX5_readShutter_125 : decode cX5_readShutter 125 = .ok (.aload_n 0, 1) := by decide +kernel
theorem dX5_readShutter_126 : decode cX5_readShutter 126 = .ok (.dup, 1) := by decide +kernel
theorem dX5_readShutter_127 : decode cX5_readShutter 127 = .ok (.getfield 51, 3) := by decide +kernel
theorem dX5_readShutter_130 : decode cX5_readShutter 130 = .ok (.iconst 1, 1) := by decide +kernel
theorem dX5_readShutter_131 : decode cX5_readShutter 131 = .ok (.iadd, 1) := by decide +kernel
theorem dX5_readShutter_132 : decode cX5_readShutter 132 = .ok (.putfield 51, 3) := by decide +kernel
theorem dX5_readShutter_135 : decode cX5_readShutter 135 = .ok (.bipush (-9), 2) := by decide +kernel
theorem dX5_readShutter_137 : decode cX5_readShutter 137 = .ok (.ireturn, 1) := by decide +kernel
theorem dX5_readPot_0 : decode cX5_readPot 0 = .ok (.aload_n 0, 1) := by decide +kernel
theorem dX5_readPot_1 : decode cX5_readPot 1 = .ok (.getfield 48, 3) := by decide +kernel
theorem dX5_readPot_4 : decode cX5_readPot 4 = .ok (.iconst 5, 1) := by decide +kernel
theorem dX5_readPot_5 : decode cX5_readPot 5 = .ok (.if_icmp .lt 5, 3) := by decide +kernel
theorem dX5_readPot_8 : decode cX5_readPot 8 = .ok (.iload_n 2, 1) := by decide +kernel
theorem dX5_readPot_9 : decode cX5_readPot 9 = .ok (.ireturn, 1) := by decide +kernel
theorem dX5_readPot_10 : decode cX5_readPot 10 = .ok (.iconst 0, 1) := by decide +kernel
theorem dX5_readPot_11 : decode cX5_readPot 11 = .ok (.istore_n 3, 1) := by decide +kernel
theorem dX5_readPot_12 : decode cX5_readPot 12 = .ok (.iload_n 3, 1) := by decide +kernel
theorem dX5_readPot_13 : decode cX5_readPot 13 = .ok (.bipush 6, 2) := by decide +kernel
theorem dX5_readPot_15 : decode cX5_readPot 15 = .ok (.if_icmp .ge 59, 3) := by decide +kernel
theorem dX5_readPot_18 : decode cX5_readPot 18 = .ok (.aload_n 1, 1) := by decide +kernel
theorem dX5_readPot_19 : decode cX5_readPot 19 = .ok (.iload_n 2, 1) := by decide +kernel
theorem dX5_readPot_20 : decode cX5_readPot 20 = .ok (.iconst 1, 1) := by decide +kernel
theorem dX5_readPot_21 : decode cX5_readPot 21 = .ok (.iadd, 1) := by decide +kernel
theorem dX5_readPot_22 : decode cX5_readPot 22 = .ok (.iload_n 3, 1) := by decide +kernel
theorem dX5_readPot_23 : decode cX5_readPot 23 = .ok (.iadd, 1) := by decide +kernel
theorem dX5_readPot_24 : decode cX5_readPot 24 = .ok (.invokevirtual 33, 3) := by decide +kernel
theorem dX5_readPot_27 : decode cX5_readPot 27 = .ok (.istore 4, 2) := by decide +kernel
theorem dX5_readPot_29 : decode cX5_readPot 29 = .ok (.iload 4, 2) := by decide +kernel
theorem dX5_readPot_31 : decode cX5_readPot 31 = .ok (.aload_n 0, 1) := by decide +kernel
theorem dX5_readPot_32 : decode cX5_readPot 32 = .ok (.iload_n 3, 1) := by decide +kernel
theorem dX5_readPot_33 : decode cX5_readPot 33 = .ok (.invokevirtual 65, 3) := by decide +kernel
theorem dX5_readPot_36 : decode cX5_readPot 36 = .ok (.if_icmp .lt 13, 3) := by decide +kernel
theorem dX5_readPot_39 : decode cX5_readPot 39 = .ok (.iload 4, 2) := by decide +kernel
theorem dX5_readPot_41 : decode cX5_readPot 41 = .ok (.aload_n 0, 1) := by decide +kernel
theorem dX5_readPot_42 : decode cX5_readPot 42 = .ok (.iload_n 3, 1) := by decide +kernel
theorem dX5_readPot_43 : decode cX5_readPot 43 = .ok (.invokevirtual 68, 3) := by decide +kernel
theorem dX5_readPot_46 : decode cX5_readPot 46 = .ok (.if_icmp .le 9, 3) := by decide +kernel
theorem dX5_readPot_49 : decode cX5_readPot 49 = .ok (.iload_n 2, 1) := by decide +kernel
theorem dX5_readPot_50 : decode cX5_readPot 50 = .ok (.iconst 1, 1) := by decide +kernel
theorem dX5_readPot_51 : decode cX5_readPot 51 = .ok (.iadd, 1) := by decide +kernel
theorem dX5_readPot_52 : decode cX5_readPot 52 = .ok (.iload_n 3, 1) := by decide +kernel
theorem dX5_readPot_53 : decode cX5_readPot 53 = .ok (.iadd, 1) := by decide +kernel
theorem dX5_readPot_54 : decode cX5_readPot 54 = .ok (.ireturn, 1) := by decide +kernel
theorem dX5_readPot_55 : decode cX5_readPot 55 = .ok (.aload_n 0, 1) := by decide +kernel
theorem dX5_readPot_56 : decode cX5_readPot 56 = .ok (.getfield 20, 3) := by decide +kernel
theorem dX5_readPot_59 : decode cX5_readPot 59 = .ok (.aload_n 0, 1) := by decide +kernel
theorem dX5_readPot_60 : decode cX5_readPot 60 = .ok (.getfield 48, 3) := by decide +kernel
theorem dX5_readPot_63 : decode cX5_readPot 63 = .ok (.aaload, 1) := by decide +kernel
theorem dX5_readPot_64 : decode cX5_readPot 64 = .ok (.iload_n 3, 1) := by decide +kernel
theorem dX5_readPot_65 : decode cX5_readPot 65 = .ok (.iload 4, 2) := by decide +kernel
theorem dX5_readPot_67 : decode cX5_readPot 67 = .ok (.iastore, 1) := by decide +kernel
theorem dX5_readPot_68 : decode cX5_readPot 68 = .ok (.iinc 3 1, 3) := by decide +kernel
theorem dX5_readPot_71 : decode cX5_readPot 71 = .ok (.goto (-59), 3) := by decide +kernel
theorem dX5_readPot_74 : decode cX5_readPot 74 = .ok (.aload_n 0, 1) := by decide +kernel
theorem dX5_readPot_75 : decode cX5_readPot 75 = .ok (.dup, 1) := by decide +kernel
theorem dX5_readPot_76 : decode cX5_readPot 76 = .ok (.getfield 48, 3) := by decide +kernel
theorem dX5_readPot_79 : decode cX5_readPot 79 = .ok (.iconst 1, 1) := by decide +kernel
theorem dX5_readPot_80 : decode cX5_readPot 80 = .ok (.iadd, 1) := by decide +kernel
theorem dX5_readPot_81 : decode cX5_readPot 81 = .ok (.putfield 48, 3) := by decide +kernel
theorem dX5_readPot_84 : decode cX5_readPot 84 = .ok (.bipush (-9), 2) := by decide +kernel
theorem dX5_readPot_86 : decode cX5_readPot 86 = .ok (.ireturn, 1) := by decide +kernel
theorem dX5_leastDigit_0 : decode cX5_leastDigit 0 = .ok (.iload_n 1, 1) := by decide +kernel
theorem dX5_leastDigit_1 : decode cX5_leastDigit 1 = .ok (.tableswitch 41 3 5 #[27, 39, 39], 27) := by decide +kernel
theorem dX5_leastDigit_28 : decode cX5_leastDigit 28 = .ok (.aload_n 0, 1) := by decide +kernel
theorem dX5_leastDigit_29 : decode cX5_leastDigit 29 = .ok (.getfield 20, 3) := by decide +kernel
theorem dX5_leastDigit_32 : decode cX5_leastDigit 32 = .ok (.aload_n 0, 1) := by decide +kernel
theorem dX5_leastDigit_33 : decode cX5_leastDigit 33 = .ok (.getfield 48, 3) := by decide +kernel
theorem dX5_leastDigit_36 : decode cX5_leastDigit 36 = .ok (.aaload, 1) := by decide +kernel
theorem dX5_leastDigit_37 : decode cX5_leastDigit 37 = .ok (.iconst 2, 1) := by decide +kernel
theorem dX5_leastDigit_38 : decode cX5_leastDigit 38 = .ok (.iaload, 1) := by decide +kernel
theorem dX5_leastDigit_39 : decode cX5_leastDigit 39 = .ok (.ireturn, 1) := by decide +kernel
theorem dX5_leastDigit_40 : decode cX5_leastDigit 40 = .ok (.iconst 1, 1) := by decide +kernel
theorem dX5_leastDigit_41 : decode cX5_leastDigit 41 = .ok (.ireturn, 1) := by decide +kernel
theorem dX5_leastDigit_42 : decode cX5_leastDigit 42 = .ok (.iconst 0, 1) := by decide +kernel
theorem dX5_leastDigit_43 : decode cX5_leastDigit 43 = .ok (.ireturn, 1) := by decide +kernel
theorem dX5_mostDigit_0 : decode cX5_mostDigit 0 = .ok (.iload_n 1, 1) := by decide +kernel
theorem dX5_mostDigit_1 : decode cX5_mostDigit 1 = .ok (.lookupswitch 36 #[(0, 27), (1, 34)], 27) := by decide +kernel
theorem dX5_mostDigit_28 : decode cX5_mostDigit 28 = .ok (.aload_n 0, 1) := by decide +kernel
theorem dX5_mostDigit_29 : decode cX5_mostDigit 29 = .ok (.getfield 44, 3) := by decide +kernel
theorem dX5_mostDigit_32 : decode cX5_mostDigit 32 = .ok (.iconst 1, 1) := by decide +kernel
theorem dX5_mostDigit_33 : decode cX5_mostDigit 33 = .ok (.isub, 1) := by decide +kernel
theorem dX5_mostDigit_34 : decode cX5_mostDigit 34 = .ok (.ireturn, 1) := by decide +kernel
theorem dX5_mostDigit_35 : decode cX5_mostDigit 35 = .ok (.iconst 3, 1) := by decide +kernel
theorem dX5_mostDigit_36 : decode cX5_mostDigit 36 = .ok (.ireturn, 1) := by decide +kernel
theorem dX5_mostDigit_37 : decode cX5_mostDigit 37 = .ok (.bipush 9, 2) := by decide +kernel
theorem dX5_mostDigit_39 : decode cX5_mostDigit 39 = .ok (.ireturn, 1) := by decide +kernel
theorem dX6_init_0 : decode cX6_init 0 = .ok (.aload_n 0, 1) := by decide +kernel
theorem dX6_init_1 : decode cX6_init 1 = .ok (.invokespecial 3, 3) := by decide +kernel
theorem dX6_init_4 : decode cX6_init 4 = .ok (.aload_n 0, 1) := by decide +kernel
theorem dX6_init_5 : decode cX6_init 5 = .ok (.bipush 12, 2) := by decide +kernel
theorem dX6_init_7 : decode cX6_init 7 = .ok (.anewarray 9, 3) := by decide +kernel
theorem dX6_init_10 : decode cX6_init 10 = .ok (.putfield 11, 3) := by decide +kernel
theorem dX6_init_13 : decode cX6_init 13 = .ok (.iconst 0, 1) := by decide +kernel
theorem dX6_init_14 : decode cX6_init 14 = .ok (.istore_n 2, 1) := by decide +kernel
theorem dX6_init_15 : decode cX6_init 15 = .ok (.iload_n 2, 1) := by decide +kernel
theorem dX6_init_16 : decode cX6_init 16 = .ok (.bipush 12, 2) := by decide +kernel
theorem dX6_init_18 : decode cX6_init 18 = .ok (.if_icmp .ge 23, 3) := by decide +kernel
theorem dX6_init_21 : decode cX6_init 21 = .ok (.aload_n 0, 1) := by decide +kernel
theorem dX6_init_22 : decode cX6_init 22 = .ok (.getfield 11, 3) := by decide +kernel
theorem dX6_init_25 : decode cX6_init 25 = .ok (.iload_n 2, 1) := by decide +kernel
theorem dX6_init_26 : decode cX6_init 26 = .ok (.new 9, 3) := by decide +kernel
theorem dX6_init_29 : decode cX6_init 29 = .ok (.dup, 1) := by decide +kernel
theorem dX6_init_30 : decode cX6_init 30 = .ok (.aload_n 1, 1) := by decide +kernel
theorem dX6_init_31 : decode cX6_init 31 = .ok (.invokespecial 17, 3) := by decide +kernel
theorem dX6_init_34 : decode cX6_init 34 = .ok (.aastore, 1) := by decide +kernel
theorem dX6_init_35 : decode cX6_init 35 = .ok (.iinc 2 1, 3) := by decide +kernel
theorem dX6_init_38 : decode cX6_init 38 = .ok (.goto (-23), 3) := by decide +kernel
theorem dX6_init_41 : decode cX6_init 41 = .ok (.return_, 1) := by decide +kernel
theorem dX6_length_0 : decode cX6_length 0 = .ok (.aload_n 0, 1) := by decide +kernel
theorem dX6_length_1 : decode cX6_length 1 = .ok (.getfield 20, 3) := by decide +kernel
theorem dX6_length_4 : decode cX6_length 4 = .ok (.ireturn, 1) := by decide +kernel
theorem dX6_forget_0 : decode cX6_forget 0 = .ok (.aload_n 0, 1) := by decide +kernel
theorem dX6_forget_1 : decode cX6_forget 1 = .ok (.iconst 0, 1) := by decide +kernel
theorem dX6_forget_2 : decode cX6_forget 2 = .ok (.putfield 20, 3) := by decide +kernel
theorem dX6_forget_5 : decode cX6_forget 5 = .ok (.return_, 1) := by decide +kernel
theorem dX6_add_0 : decode cX6_add 0 = .ok (.aload_n 0, 1) := by decide +kernel
theorem dX6_add_1 : decode cX6_add 1 = .ok (.getfield 20, 3) := by decide +kernel
theorem dX6_add_4 : decode cX6_add 4 = .ok (.bipush 12, 2) := by decide +kernel
theorem dX6_add_6 : decode cX6_add 6 = .ok (.if_icmp .lt 7, 3) := by decide +kernel
theorem dX6_add_9 : decode cX6_add 9 = .ok (.aload_n 0, 1) := by decide +kernel
theorem dX6_add_10 : decode cX6_add 10 = .ok (.invokevirtual 24, 3) := by decide +kernel
theorem dX6_add_13 : decode cX6_add 13 = .ok (.aload_n 0, 1) := by decide +kernel
theorem dX6_add_14 : decode cX6_add 14 = .ok (.getfield 11, 3) := by decide +kernel
theorem dX6_add_17 : decode cX6_add 17 = .ok (.aload_n 0, 1) := by decide +kernel
theorem dX6_add_18 : decode cX6_add 18 = .ok (.getfield 20, 3) := by decide +kernel
theorem dX6_add_21 : decode cX6_add 21 = .ok (.aaload, 1) := by decide +kernel
theorem dX6_add_22 : decode cX6_add 22 = .ok (.aload_n 1, 1) := by decide +kernel
theorem dX6_add_23 : decode cX6_add 23 = .ok (.invokevirtual 27, 3) := by decide +kernel
theorem dX6_add_26 : decode cX6_add 26 = .ok (.aload_n 0, 1) := by decide +kernel
theorem dX6_add_27 : decode cX6_add 27 = .ok (.dup, 1) := by decide +kernel
theorem dX6_add_28 : decode cX6_add 28 = .ok (.getfield 20, 3) := by decide +kernel
theorem dX6_add_31 : decode cX6_add 31 = .ok (.iconst 1, 1) := by decide +kernel
theorem dX6_add_32 : decode cX6_add 32 = .ok (.iadd, 1) := by decide +kernel
theorem dX6_add_33 : decode cX6_add 33 = .ok (.putfield 20, 3) := by decide +kernel
theorem dX6_add_36 : decode cX6_add 36 = .ok (.return_, 1) := by decide +kernel
theorem dX6_forgetFirst_0 : decode cX6_forgetFirst 0 = .ok (.aload_n 0, 1) := by decide +kernel
theorem dX6_forgetFirst_1 : decode cX6_forgetFirst 1 = .ok (.getfield 11, 3) := by decide +kernel
theorem dX6_forgetFirst_4 : decode cX6_forgetFirst 4 = .ok (.iconst 0, 1) := by decide +kernel
theorem dX6_forgetFirst_5 : decode cX6_forgetFirst 5 = .ok (.aaload, 1) := by decide +kernel
theorem dX6_forgetFirst_6 : decode cX6_forgetFirst 6 = .ok (.astore_n 1, 1) := by decide +kernel
theorem dX6_forgetFirst_7 : decode cX6_forgetFirst 7 = .ok (.iconst 1, 1) := by decide +kernel
theorem dX6_forgetFirst_8 : decode cX6_forgetFirst 8 = .ok (.istore_n 2, 1) := by decide +kernel
theorem dX6_forgetFirst_9 : decode cX6_forgetFirst 9 = .ok (.iload_n 2, 1) := by decide +kernel
theorem dX6_forgetFirst_10 : decode cX6_forgetFirst 10 = .ok (.bipush 12, 2) := by decide +kernel
theorem dX6_forgetFirst_12 : decode cX6_forgetFirst 12 = .ok (.if_icmp .ge 23, 3) := by decide +kernel
theorem dX6_forgetFirst_15 : decode cX6_forgetFirst 15 = .ok (.aload_n 0, 1) := by decide +kernel
theorem dX6_forgetFirst_16 : decode cX6_forgetFirst 16 = .ok (.getfield 11, 3) := by decide +kernel
theorem dX6_forgetFirst_19 : decode cX6_forgetFirst 19 = .ok (.iload_n 2, 1) := by decide +kernel
theorem dX6_forgetFirst_20 : decode cX6_forgetFirst 20 = .ok (.iconst 1, 1) := by decide +kernel
theorem dX6_forgetFirst_21 : decode cX6_forgetFirst 21 = .ok (.isub, 1) := by decide +kernel
theorem dX6_forgetFirst_22 : decode cX6_forgetFirst 22 = .ok (.aload_n 0, 1) := by decide +kernel
theorem dX6_forgetFirst_23 : decode cX6_forgetFirst 23 = .ok (.getfield 11, 3) := by decide +kernel
theorem dX6_forgetFirst_26 : decode cX6_forgetFirst 26 = .ok (.iload_n 2, 1) := by decide +kernel
theorem dX6_forgetFirst_27 : decode cX6_forgetFirst 27 = .ok (.aaload, 1) := by decide +kernel
theorem dX6_forgetFirst_28 : decode cX6_forgetFirst 28 = .ok (.aastore, 1) := by decide +kernel
theorem dX6_forgetFirst_29 : decode cX6_forgetFirst 29 = .ok (.iinc 2 1, 3) := by decide +kernel
theorem dX6_forgetFirst_32 : decode cX6_forgetFirst 32 = .ok (.goto (-23), 3) := by decide +kernel
theorem dX6_forgetFirst_35 : decode cX6_forgetFirst 35 = .ok (.aload_n 0, 1) := by decide +kernel
theorem dX6_forgetFirst_36 : decode cX6_forgetFirst 36 = .ok (.getfield 11, 3) := by decide +kernel
theorem dX6_forgetFirst_39 : decode cX6_forgetFirst 39 = .ok (.bipush 11, 2) := by decide +kernel
theorem dX6_forgetFirst_41 : decode cX6_forgetFirst 41 = .ok (.aload_n 1, 1) := by decide +kernel
theorem dX6_forgetFirst_42 : decode cX6_forgetFirst 42 = .ok (.aastore, 1) := by decide +kernel
theorem dX6_forgetFirst_43 : decode cX6_forgetFirst 43 = .ok (.aload_n 0, 1) := by decide +kernel
theorem dX6_forgetFirst_44 : decode cX6_forgetFirst 44 = .ok (.bipush 11, 2) := by decide +kernel
theorem dX6_forgetFirst_46 : decode cX6_forgetFirst 46 = .ok (.putfield 20, 3) := by decide +kernel
theorem dX6_forgetFirst_49 : decode cX6_forgetFirst 49 = .ok (.return_, 1) := by decide +kernel
theorem dX6_takeBack_0 : decode cX6_takeBack 0 = .ok (.aload_n 0, 1) := by decide +kernel
theorem dX6_takeBack_1 : decode cX6_takeBack 1 = .ok (.getfield 20, 3) := by decide +kernel
theorem dX6_takeBack_4 : decode cX6_takeBack 4 = .ok (.ifCond .le 26, 3) := by decide +kernel
theorem dX6_takeBack_7 : decode cX6_takeBack 7 = .ok (.aload_n 0, 1) := by decide +kernel
theorem dX6_takeBack_8 : decode cX6_takeBack 8 = .ok (.dup, 1) := by decide +kernel
theorem dX6_takeBack_9 : decode cX6_takeBack 9 = .ok (.getfield 20, 3) := by decide +kernel
theorem dX6_takeBack_12 : decode cX6_takeBack 12 = .ok (.iconst 1, 1) := by decide +kernel
theorem dX6_takeBack_13 : decode cX6_takeBack 13 = .ok (.isub, 1) := by decide +kernel
theorem dX6_takeBack_14 : decode cX6_takeBack 14 = .ok (.putfield 20, 3) := by decide +kernel
theorem dX6_takeBack_17 : decode cX6_takeBack 17 = .ok (.aload_n 1, 1) := by decide +kernel
theorem dX6_takeBack_18 : decode cX6_takeBack 18 = .ok (.aload_n 0, 1) := by decide +kernel
theorem dX6_takeBack_19 : decode cX6_takeBack 19 = .ok (.getfield 11, 3) := by decide +kernel
theorem dX6_takeBack_22 : decode cX6_takeBack 22 = .ok (.aload_n 0, 1) := by decide +kernel
theorem dX6_takeBack_23 : decode cX6_takeBack 23 = .ok (.getfield 20, 3) := by decide +kernel
theorem dX6_takeBack_26 : decode cX6_takeBack 26 = .ok (.aaload, 1) := by decide +kernel
theorem dX6_takeBack_27 : decode cX6_takeBack 27 = .ok (.invokevirtual 31, 3) := by decide +kernel
theorem dX6_takeBack_30 : decode cX6_takeBack 30 = .ok (.aload_n 0, 1) := by decide +kernel
theorem dX6_takeBack_31 : decode cX6_takeBack 31 = .ok (.getfield 20, 3) := by decide +kernel
theorem dX6_takeBack_34 : decode cX6_takeBack 34 = .ok (.ireturn, 1) := by decide +kernel
theorem dX7_init_0 : decode cX7_init 0 = .ok (.aload_n 0, 1) := by decide +kernel
theorem dX7_init_1 : decode cX7_init 1 = .ok (.invokespecial 3, 3) := by decide +kernel
theorem dX7_init_4 : decode cX7_init 4 = .ok (.aload_n 0, 1) := by decide +kernel
theorem dX7_init_5 : decode cX7_init 5 = .ok (.bipush 64, 2) := by decide +kernel
theorem dX7_init_7 : decode cX7_init 7 = .ok (.newarray .int, 2) := by decide +kernel
theorem dX7_init_9 : decode cX7_init 9 = .ok (.putfield 9, 3) := by decide +kernel
theorem dX7_init_12 : decode cX7_init 12 = .ok (.return_, 1) := by decide +kernel
theorem dX7_length_0 : decode cX7_length 0 = .ok (.aload_n 0, 1) := by decide +kernel
theorem dX7_length_1 : decode cX7_length 1 = .ok (.getfield 15, 3) := by decide +kernel
theorem dX7_length_4 : decode cX7_length 4 = .ok (.ireturn, 1) := by decide +kernel
theorem dX7_hasRoomFor_0 : decode cX7_hasRoomFor 0 = .ok (.aload_n 0, 1) := by decide +kernel
theorem dX7_hasRoomFor_1 : decode cX7_hasRoomFor 1 = .ok (.getfield 15, 3) := by decide +kernel
theorem dX7_hasRoomFor_4 : decode cX7_hasRoomFor 4 = .ok (.iload_n 1, 1) := by decide +kernel
theorem dX7_hasRoomFor_5 : decode cX7_hasRoomFor 5 = .ok (.iadd, 1) := by decide +kernel
theorem dX7_hasRoomFor_6 : decode cX7_hasRoomFor 6 = .ok (.bipush 64, 2) := by decide +kernel
theorem dX7_hasRoomFor_8 : decode cX7_hasRoomFor 8 = .ok (.if_icmp .gt 7, 3) := by decide +kernel
theorem dX7_hasRoomFor_11 : decode cX7_hasRoomFor 11 = .ok (.iconst 1, 1) := by decide +kernel
theorem dX7_hasRoomFor_12 : decode cX7_hasRoomFor 12 = .ok (.goto 4, 3) := by decide +kernel
theorem dX7_hasRoomFor_15 : decode cX7_hasRoomFor 15 = .ok (.iconst 0, 1) := by decide +kernel
theorem dX7_hasRoomFor_16 : decode cX7_hasRoomFor 16 = .ok (.ireturn, 1) := by decide +kernel
theorem dX7_append_0 : decode cX7_append 0 = .ok (.iload_n 1, 1) := by decide +kernel
theorem dX7_append_1 : decode cX7_append 1 = .ok (.iconst 1, 1) := by decide +kernel
theorem dX7_append_2 : decode cX7_append 2 = .ok (.isub, 1) := by decide +kernel
theorem dX7_append_3 : decode cX7_append 3 = .ok (.istore 4, 2) := by decide +kernel
theorem dX7_append_5 : decode cX7_append 5 = .ok (.iload 4, 2) := by decide +kernel
theorem dX7_append_7 : decode cX7_append 7 = .ok (.ifCond .lt 49, 3) := by decide +kernel
theorem dX7_append_10 : decode cX7_append 10 = .ok (.aload_n 0, 1) := by decide +kernel
theorem dX7_append_11 : decode cX7_append 11 = .ok (.getfield 15, 3) := by decide +kernel
theorem dX7_append_14 : decode cX7_append 14 = .ok (.bipush 64, 2) := by decide +kernel
theorem dX7_append_16 : decode cX7_append 16 = .ok (.if_icmp .ge 40, 3) := by decide +kernel
theorem dX7_append_19 : decode cX7_append 19 = .ok (.aload_n 0, 1) := by decide +kernel
theorem dX7_append_20 : decode cX7_append 20 = .ok (.getfield 9, 3) := by decide +kernel
theorem dX7_append_23 : decode cX7_append 23 = .ok (.aload_n 0, 1) := by decide +kernel
theorem dX7_append_24 : decode cX7_append 24 = .ok (.getfield 15, 3) := by decide +kernel
theorem dX7_append_27 : decode cX7_append 27 = .ok (.lload_n 2, 1) := by decide +kernel
theorem dX7_append_28 : decode cX7_append 28 = .ok (.bipush 8, 2) := by decide +kernel
theorem dX7_append_30 : decode cX7_append 30 = .ok (.iload 4, 2) := by decide +kernel
theorem dX7_append_32 : decode cX7_append 32 = .ok (.imul, 1) := by decide +kernel
theorem dX7_append_33 : decode cX7_append 33 = .ok (.lushr, 1) := by decide +kernel
theorem dX7_append_34 : decode cX7_append 34 = .ok (.l2i, 1) := by decide +kernel
theorem dX7_append_35 : decode cX7_append 35 = .ok (.sipush 255, 3) := by decide +kernel
theorem dX7_append_38 : decode cX7_append 38 = .ok (.iand, 1) := by decide +kernel
theorem dX7_append_39 : decode cX7_append 39 = .ok (.iastore, 1) := by decide +kernel
theorem dX7_append_40 : decode cX7_append 40 = .ok (.aload_n 0, 1) := by decide +kernel
theorem dX7_append_41 : decode cX7_append 41 = .ok (.dup, 1) := by decide +kernel
theorem dX7_append_42 : decode cX7_append 42 = .ok (.getfield 15, 3) := by decide +kernel
theorem dX7_append_45 : decode cX7_append 45 = .ok (.iconst 1, 1) := by decide +kernel
theorem dX7_append_46 : decode cX7_append 46 = .ok (.iadd, 1) := by decide +kernel
theorem dX7_append_47 : decode cX7_append 47 = .ok (.putfield 15, 3) := by decide +kernel
theorem dX7_append_50 : decode cX7_append 50 = .ok (.iinc 4 (-1), 3) := by decide +kernel
theorem dX7_append_53 : decode cX7_append 53 = .ok (.goto (-48), 3) := by decide +kernel
theorem dX7_append_56 : decode cX7_append 56 = .ok (.aload_n 0, 1) := by decide +kernel
theorem dX7_append_57 : decode cX7_append 57 = .ok (.getfield 15, 3) := by decide +kernel
theorem dX7_append_60 : decode cX7_append 60 = .ok (.ireturn, 1) := by decide +kernel
theorem dX7_clear_0 : decode cX7_clear 0 = .ok (.aload_n 0, 1) := by decide +kernel
theorem dX7_clear_1 : decode cX7_clear 1 = .ok (.getfield 15, 3) := by decide +kernel
theorem dX7_clear_4 : decode cX7_clear 4 = .ok (.istore_n 1, 1) := by decide +kernel
theorem dX7_clear_5 : decode cX7_clear 5 = .ok (.aload_n 0, 1) := by decide +kernel
theorem dX7_clear_6 : decode cX7_clear 6 = .ok (.iconst 0, 1) := by decide +kernel
theorem dX7_clear_7 : decode cX7_clear 7 = .ok (.putfield 15, 3) := by decide +kernel
theorem dX7_clear_10 : decode cX7_clear 10 = .ok (.iload_n 1, 1) := by decide +kernel
theorem dX7_clear_11 : decode cX7_clear 11 = .ok (.ireturn, 1) := by decide +kernel
theorem dX7_byteAt_0 : decode cX7_byteAt 0 = .ok (.iload_n 1, 1) := by decide +kernel
theorem dX7_byteAt_1 : decode cX7_byteAt 1 = .ok (.ifCond .lt 11, 3) := by decide +kernel
theorem dX7_byteAt_4 : decode cX7_byteAt 4 = .ok (.iload_n 1, 1) := by decide +kernel
theorem dX7_byteAt_5 : decode cX7_byteAt 5 = .ok (.aload_n 0, 1) := by decide +kernel
theorem dX7_byteAt_6 : decode cX7_byteAt 6 = .ok (.getfield 15, 3) := by decide +kernel
theorem dX7_byteAt_9 : decode cX7_byteAt 9 = .ok (.if_icmp .lt 7, 3) := by decide +kernel
theorem dX7_byteAt_12 : decode cX7_byteAt 12 = .ok (.iconst (-1), 1) := by decide +kernel
theorem dX7_byteAt_13 : decode cX7_byteAt 13 = .ok (.goto 9, 3) := by decide +kernel
theorem dX7_byteAt_16 : decode cX7_byteAt 16 = .ok (.aload_n 0, 1) := by decide +kernel
theorem dX7_byteAt_17 : decode cX7_byteAt 17 = .ok (.getfield 9, 3) := by decide +kernel
theorem dX7_byteAt_20 : decode cX7_byteAt 20 = .ok (.iload_n 1, 1) := by decide +kernel
theorem dX7_byteAt_21 : decode cX7_byteAt 21 = .ok (.iaload, 1) := by decide +kernel
theorem dX7_byteAt_22 : decode cX7_byteAt 22 = .ok (.ireturn, 1) := by decide +kernel
theorem dX7_digitAt_0 : decode cX7_digitAt 0 = .ok (.aload_n 0, 1) := by decide +kernel
theorem dX7_digitAt_1 : decode cX7_digitAt 1 = .ok (.iload_n 1, 1) := by decide +kernel
theorem dX7_digitAt_2 : decode cX7_digitAt 2 = .ok (.invokevirtual 19, 3) := by decide +kernel
theorem dX7_digitAt_5 : decode cX7_digitAt 5 = .ok (.istore_n 2, 1) := by decide +kernel
theorem dX7_digitAt_6 : decode cX7_digitAt 6 = .ok (.iload_n 2, 1) := by decide +kernel
theorem dX7_digitAt_7 : decode cX7_digitAt 7 = .ok (.bipush 48, 2) := by decide +kernel
theorem dX7_digitAt_9 : decode cX7_digitAt 9 = .ok (.if_icmp .lt 9, 3) := by decide +kernel
theorem dX7_digitAt_12 : decode cX7_digitAt 12 = .ok (.iload_n 2, 1) := by decide +kernel
theorem dX7_digitAt_13 : decode cX7_digitAt 13 = .ok (.bipush 57, 2) := by decide +kernel
theorem dX7_digitAt_15 : decode cX7_digitAt 15 = .ok (.if_icmp .le 7, 3) := by decide +kernel
theorem dX7_digitAt_18 : decode cX7_digitAt 18 = .ok (.iconst (-1), 1) := by decide +kernel
theorem dX7_digitAt_19 : decode cX7_digitAt 19 = .ok (.goto 7, 3) := by decide +kernel
theorem dX7_digitAt_22 : decode cX7_digitAt 22 = .ok (.iload_n 2, 1) := by decide +kernel
theorem dX7_digitAt_23 : decode cX7_digitAt 23 = .ok (.bipush 48, 2) := by decide +kernel
theorem dX7_digitAt_25 : decode cX7_digitAt 25 = .ok (.isub, 1) := by decide +kernel
theorem dX7_digitAt_26 : decode cX7_digitAt 26 = .ok (.ireturn, 1) := by decide +kernel
