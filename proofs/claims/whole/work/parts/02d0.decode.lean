theorem dX0_init_0 : decode cX0_init 0 = .ok (.aload_n 0, 1) := by decide +kernel
theorem dX0_init_1 : decode cX0_init 1 = .ok (.invokespecial 3, 3) := by decide +kernel
theorem dX0_init_4 : decode cX0_init 4 = .ok (.aload_n 0, 1) := by decide +kernel
theorem dX0_init_5 : decode cX0_init 5 = .ok (.bipush 8, 2) := by decide +kernel
theorem dX0_init_7 : decode cX0_init 7 = .ok (.newarray .int, 2) := by decide +kernel
theorem dX0_init_9 : decode cX0_init 9 = .ok (.putfield 9, 3) := by decide +kernel
theorem dX0_init_12 : decode cX0_init 12 = .ok (.aload_n 0, 1) := by decide +kernel
theorem dX0_init_13 : decode cX0_init 13 = .ok (.bipush 8, 2) := by decide +kernel
theorem dX0_init_15 : decode cX0_init 15 = .ok (.newarray .int, 2) := by decide +kernel
theorem dX0_init_17 : decode cX0_init 17 = .ok (.putfield 15, 3) := by decide +kernel
theorem dX0_init_20 : decode cX0_init 20 = .ok (.aload_n 0, 1) := by decide +kernel
theorem dX0_init_21 : decode cX0_init 21 = .ok (.bipush 8, 2) := by decide +kernel
theorem dX0_init_23 : decode cX0_init 23 = .ok (.newarray .int, 2) := by decide +kernel
theorem dX0_init_25 : decode cX0_init 25 = .ok (.putfield 18, 3) := by decide +kernel
theorem dX0_init_28 : decode cX0_init 28 = .ok (.aload_n 0, 1) := by decide +kernel
theorem dX0_init_29 : decode cX0_init 29 = .ok (.bipush 8, 2) := by decide +kernel
theorem dX0_init_31 : decode cX0_init 31 = .ok (.newarray .int, 2) := by decide +kernel
theorem dX0_init_33 : decode cX0_init 33 = .ok (.putfield 21, 3) := by decide +kernel
theorem dX0_init_36 : decode cX0_init 36 = .ok (.aload_n 0, 1) := by decide +kernel
theorem dX0_init_37 : decode cX0_init 37 = .ok (.bipush 8, 2) := by decide +kernel
theorem dX0_init_39 : decode cX0_init 39 = .ok (.newarray .int, 2) := by decide +kernel
theorem dX0_init_41 : decode cX0_init 41 = .ok (.putfield 24, 3) := by decide +kernel
theorem dX0_init_44 : decode cX0_init 44 = .ok (.return_, 1) := by decide +kernel
theorem dX0_add_0 : decode cX0_add 0 = .ok (.aload_n 0, 1) := by decide +kernel
theorem dX0_add_1 : decode cX0_add 1 = .ok (.getfield 9, 3) := by decide +kernel
theorem dX0_add_4 : decode cX0_add 4 = .ok (.aload_n 0, 1) := by decide +kernel
theorem dX0_add_5 : decode cX0_add 5 = .ok (.getfield 27, 3) := by decide +kernel
theorem dX0_add_8 : decode cX0_add 8 = .ok (.iload_n 1, 1) := by decide +kernel
theorem dX0_add_9 : decode cX0_add 9 = .ok (.iastore, 1) := by decide +kernel
theorem dX0_add_10 : decode cX0_add 10 = .ok (.aload_n 0, 1) := by decide +kernel
theorem dX0_add_11 : decode cX0_add 11 = .ok (.getfield 15, 3) := by decide +kernel
theorem dX0_add_14 : decode cX0_add 14 = .ok (.aload_n 0, 1) := by decide +kernel
theorem dX0_add_15 : decode cX0_add 15 = .ok (.getfield 27, 3) := by decide +kernel
theorem dX0_add_18 : decode cX0_add 18 = .ok (.iload_n 2, 1) := by decide +kernel
theorem dX0_add_19 : decode cX0_add 19 = .ok (.iastore, 1) := by decide +kernel
theorem dX0_add_20 : decode cX0_add 20 = .ok (.aload_n 0, 1) := by decide +kernel
theorem dX0_add_21 : decode cX0_add 21 = .ok (.getfield 18, 3) := by decide +kernel
theorem dX0_add_24 : decode cX0_add 24 = .ok (.aload_n 0, 1) := by decide +kernel
theorem dX0_add_25 : decode cX0_add 25 = .ok (.getfield 27, 3) := by decide +kernel
theorem dX0_add_28 : decode cX0_add 28 = .ok (.iload_n 3, 1) := by decide +kernel
theorem dX0_add_29 : decode cX0_add 29 = .ok (.iastore, 1) := by decide +kernel
theorem dX0_add_30 : decode cX0_add 30 = .ok (.aload_n 0, 1) := by decide +kernel
theorem dX0_add_31 : decode cX0_add 31 = .ok (.dup, 1) := by decide +kernel
theorem dX0_add_32 : decode cX0_add 32 = .ok (.getfield 27, 3) := by decide +kernel
theorem dX0_add_35 : decode cX0_add 35 = .ok (.iconst 1, 1) := by decide +kernel
theorem dX0_add_36 : decode cX0_add 36 = .ok (.iadd, 1) := by decide +kernel
theorem dX0_add_37 : decode cX0_add 37 = .ok (.putfield 27, 3) := by decide +kernel
theorem dX0_add_40 : decode cX0_add 40 = .ok (.return_, 1) := by decide +kernel
theorem dX0_placeOf_0 : decode cX0_placeOf 0 = .ok (.iconst 0, 1) := by decide +kernel
theorem dX0_placeOf_1 : decode cX0_placeOf 1 = .ok (.istore_n 2, 1) := by decide +kernel
theorem dX0_placeOf_2 : decode cX0_placeOf 2 = .ok (.iload_n 2, 1) := by decide +kernel
theorem dX0_placeOf_3 : decode cX0_placeOf 3 = .ok (.aload_n 0, 1) := by decide +kernel
theorem dX0_placeOf_4 : decode cX0_placeOf 4 = .ok (.getfield 27, 3) := by decide +kernel
theorem dX0_placeOf_7 : decode cX0_placeOf 7 = .ok (.if_icmp .ge 21, 3) := by decide +kernel
theorem dX0_placeOf_10 : decode cX0_placeOf 10 = .ok (.aload_n 0, 1) := by decide +kernel
theorem dX0_placeOf_11 : decode cX0_placeOf 11 = .ok (.getfield 9, 3) := by decide +kernel
theorem dX0_placeOf_14 : decode cX0_placeOf 14 = .ok (.iload_n 2, 1) := by decide +kernel
theorem dX0_placeOf_15 : decode cX0_placeOf 15 = .ok (.iaload, 1) := by decide +kernel
theorem dX0_placeOf_16 : decode cX0_placeOf 16 = .ok (.iload_n 1, 1) := by decide +kernel
theorem dX0_placeOf_17 : decode cX0_placeOf 17 = .ok (.if_icmp .ne 5, 3) := by decide +kernel
theorem dX0_placeOf_20 : decode cX0_placeOf 20 = .ok (.iload_n 2, 1) := by decide +kernel
theorem dX0_placeOf_21 : decode cX0_placeOf 21 = .ok (.ireturn, 1) := by decide +kernel
theorem dX0_placeOf_22 : decode cX0_placeOf 22 = .ok (.iinc 2 1, 3) := by decide +kernel
theorem dX0_placeOf_25 : decode cX0_placeOf 25 = .ok (.goto (-23), 3) := by decide +kernel
theorem dX0_placeOf_28 : decode cX0_placeOf 28 = .ok (.iconst (-1), 1) := by decide +kernel
theorem dX0_placeOf_29 : decode cX0_placeOf 29 = .ok (.ireturn, 1) := by decide +kernel
theorem dX0_settle_0 : decode cX0_settle 0 = .ok (.iconst 0, 1) := by decide +kernel
theorem dX0_settle_1 : decode cX0_settle 1 = .ok (.istore_n 3, 1) := by decide +kernel
theorem dX0_settle_2 : decode cX0_settle 2 = .ok (.iconst 0, 1) := by decide +kernel
theorem dX0_settle_3 : decode cX0_settle 3 = .ok (.istore 4, 2) := by decide +kernel
theorem dX0_settle_5 : decode cX0_settle 5 = .ok (.iload 4, 2) := by decide +kernel
theorem dX0_settle_7 : decode cX0_settle 7 = .ok (.aload_n 0, 1) := by decide +kernel
theorem dX0_settle_8 : decode cX0_settle 8 = .ok (.getfield 27, 3) := by decide +kernel
theorem dX0_settle_11 : decode cX0_settle 11 = .ok (.if_icmp .ge 19, 3) := by decide +kernel
theorem dX0_settle_14 : decode cX0_settle 14 = .ok (.iload_n 3, 1) := by decide +kernel
theorem dX0_settle_15 : decode cX0_settle 15 = .ok (.aload_n 0, 1) := by decide +kernel
theorem dX0_settle_16 : decode cX0_settle 16 = .ok (.getfield 18, 3) := by decide +kernel
theorem dX0_settle_19 : decode cX0_settle 19 = .ok (.iload 4, 2) := by decide +kernel
theorem dX0_settle_21 : decode cX0_settle 21 = .ok (.iaload, 1) := by decide +kernel
theorem dX0_settle_22 : decode cX0_settle 22 = .ok (.iadd, 1) := by decide +kernel
theorem dX0_settle_23 : decode cX0_settle 23 = .ok (.istore_n 3, 1) := by decide +kernel
theorem dX0_settle_24 : decode cX0_settle 24 = .ok (.iinc 4 1, 3) := by decide +kernel
theorem dX0_settle_27 : decode cX0_settle 27 = .ok (.goto (-22), 3) := by decide +kernel
theorem dX0_settle_30 : decode cX0_settle 30 = .ok (.aload_n 0, 1) := by decide +kernel
theorem dX0_settle_31 : decode cX0_settle 31 = .ok (.iconst (-1), 1) := by decide +kernel
theorem dX0_settle_32 : decode cX0_settle 32 = .ok (.putfield 31, 3) := by decide +kernel
theorem dX0_settle_35 : decode cX0_settle 35 = .ok (.aload_n 0, 1) := by decide +kernel
theorem dX0_settle_36 : decode cX0_settle 36 = .ok (.iconst 0, 1) := by decide +kernel
theorem dX0_settle_37 : decode cX0_settle 37 = .ok (.iload_n 1, 1) := by decide +kernel
theorem dX0_settle_38 : decode cX0_settle 38 = .ok (.iload_n 2, 1) := by decide +kernel
theorem dX0_settle_39 : decode cX0_settle 39 = .ok (.iconst 0, 1) := by decide +kernel
theorem dX0_settle_40 : decode cX0_settle 40 = .ok (.iload_n 3, 1) := by decide +kernel
theorem dX0_settle_41 : decode cX0_settle 41 = .ok (.invokevirtual 34, 3) := by decide +kernel
theorem dX0_settle_44 : decode cX0_settle 44 = .ok (.return_, 1) := by decide +kernel
theorem dX0_attempt_0 : decode cX0_attempt 0 = .ok (.iload 4, 2) := by decide +kernel
theorem dX0_attempt_2 : decode cX0_attempt 2 = .ok (.iload 5, 2) := by decide +kernel
theorem dX0_attempt_4 : decode cX0_attempt 4 = .ok (.iadd, 1) := by decide +kernel
theorem dX0_attempt_5 : decode cX0_attempt 5 = .ok (.aload_n 0, 1) := by decide +kernel
theorem dX0_attempt_6 : decode cX0_attempt 6 = .ok (.getfield 31, 3) := by decide +kernel
theorem dX0_attempt_9 : decode cX0_attempt 9 = .ok (.if_icmp .gt 4, 3) := by decide +kernel
theorem dX0_attempt_12 : decode cX0_attempt 12 = .ok (.return_, 1) := by decide +kernel
theorem dX0_attempt_13 : decode cX0_attempt 13 = .ok (.iload_n 1, 1) := by decide +kernel
theorem dX0_attempt_14 : decode cX0_attempt 14 = .ok (.aload_n 0, 1) := by decide +kernel
theorem dX0_attempt_15 : decode cX0_attempt 15 = .ok (.getfield 27, 3) := by decide +kernel
theorem dX0_attempt_18 : decode cX0_attempt 18 = .ok (.if_icmp .lt 27, 3) := by decide +kernel
theorem dX0_attempt_21 : decode cX0_attempt 21 = .ok (.aload_n 0, 1) := by decide +kernel
theorem dX0_attempt_22 : decode cX0_attempt 22 = .ok (.iload 4, 2) := by decide +kernel
theorem dX0_attempt_24 : decode cX0_attempt 24 = .ok (.putfield 31, 3) := by decide +kernel
theorem dX0_attempt_27 : decode cX0_attempt 27 = .ok (.aload_n 0, 1) := by decide +kernel
theorem dX0_attempt_28 : decode cX0_attempt 28 = .ok (.getfield 21, 3) := by decide +kernel
theorem dX0_attempt_31 : decode cX0_attempt 31 = .ok (.iconst 0, 1) := by decide +kernel
theorem dX0_attempt_32 : decode cX0_attempt 32 = .ok (.aload_n 0, 1) := by decide +kernel
theorem dX0_attempt_33 : decode cX0_attempt 33 = .ok (.getfield 24, 3) := by decide +kernel
theorem dX0_attempt_36 : decode cX0_attempt 36 = .ok (.iconst 0, 1) := by decide +kernel
theorem dX0_attempt_37 : decode cX0_attempt 37 = .ok (.aload_n 0, 1) := by decide +kernel
theorem dX0_attempt_38 : decode cX0_attempt 38 = .ok (.getfield 27, 3) := by decide +kernel
theorem dX0_attempt_41 : decode cX0_attempt 41 = .ok (.invokestatic 38, 3) := by decide +kernel
theorem dX0_attempt_44 : decode cX0_attempt 44 = .ok (.return_, 1) := by decide +kernel
theorem dX0_attempt_45 : decode cX0_attempt 45 = .ok (.aload_n 0, 1) := by decide +kernel
theorem dX0_attempt_46 : decode cX0_attempt 46 = .ok (.getfield 15, 3) := by decide +kernel
theorem dX0_attempt_49 : decode cX0_attempt 49 = .ok (.iload_n 1, 1) := by decide +kernel
theorem dX0_attempt_50 : decode cX0_attempt 50 = .ok (.iaload, 1) := by decide +kernel
theorem dX0_attempt_51 : decode cX0_attempt 51 = .ok (.istore 6, 2) := by decide +kernel
theorem dX0_attempt_53 : decode cX0_attempt 53 = .ok (.aload_n 0, 1) := by decide +kernel
theorem dX0_attempt_54 : decode cX0_attempt 54 = .ok (.getfield 18, 3) := by decide +kernel
theorem dX0_attempt_57 : decode cX0_attempt 57 = .ok (.iload_n 1, 1) := by decide +kernel
theorem dX0_attempt_58 : decode cX0_attempt 58 = .ok (.iaload, 1) := by decide +kernel
theorem dX0_attempt_59 : decode cX0_attempt 59 = .ok (.istore 7, 2) := by decide +kernel
theorem dX0_attempt_61 : decode cX0_attempt 61 = .ok (.iload 6, 2) := by decide +kernel
theorem dX0_attempt_63 : decode cX0_attempt 63 = .ok (.iload_n 2, 1) := by decide +kernel
theorem dX0_attempt_64 : decode cX0_attempt 64 = .ok (.if_icmp .gt 32, 3) := by decide +kernel
theorem dX0_attempt_67 : decode cX0_attempt 67 = .ok (.aload_n 0, 1) := by decide +kernel
theorem dX0_attempt_68 : decode cX0_attempt 68 = .ok (.getfield 21, 3) := by decide +kernel
theorem dX0_attempt_71 : decode cX0_attempt 71 = .ok (.iload_n 1, 1) := by decide +kernel
theorem dX0_attempt_72 : decode cX0_attempt 72 = .ok (.iconst 1, 1) := by decide +kernel
theorem dX0_attempt_73 : decode cX0_attempt 73 = .ok (.iastore, 1) := by decide +kernel
theorem dX0_attempt_74 : decode cX0_attempt 74 = .ok (.aload_n 0, 1) := by decide +kernel
theorem dX0_attempt_75 : decode cX0_attempt 75 = .ok (.iload_n 1, 1) := by decide +kernel
theorem dX0_attempt_76 : decode cX0_attempt 76 = .ok (.iconst 1, 1) := by decide +kernel
theorem dX0_attempt_77 : decode cX0_attempt 77 = .ok (.iadd, 1) := by decide +kernel
theorem dX0_attempt_78 : decode cX0_attempt 78 = .ok (.iload_n 2, 1) := by decide +kernel
theorem dX0_attempt_79 : decode cX0_attempt 79 = .ok (.iload 6, 2) := by decide +kernel
theorem dX0_attempt_81 : decode cX0_attempt 81 = .ok (.isub, 1) := by decide +kernel
theorem dX0_attempt_82 : decode cX0_attempt 82 = .ok (.iload_n 3, 1) := by decide +kernel
theorem dX0_attempt_83 : decode cX0_attempt 83 = .ok (.iload 4, 2) := by decide +kernel
theorem dX0_attempt_85 : decode cX0_attempt 85 = .ok (.iload 7, 2) := by decide +kernel
theorem dX0_attempt_87 : decode cX0_attempt 87 = .ok (.iadd, 1) := by decide +kernel
theorem dX0_attempt_88 : decode cX0_attempt 88 = .ok (.iload 5, 2) := by decide +kernel
theorem dX0_attempt_90 : decode cX0_attempt 90 = .ok (.iload 7, 2) := by decide +kernel
theorem dX0_attempt_92 : decode cX0_attempt 92 = .ok (.isub, 1) := by decide +kernel
theorem dX0_attempt_93 : decode cX0_attempt 93 = .ok (.invokevirtual 34, 3) := by decide +kernel
theorem dX0_attempt_96 : decode cX0_attempt 96 = .ok (.iload 6, 2) := by decide +kernel
theorem dX0_attempt_98 : decode cX0_attempt 98 = .ok (.iload_n 3, 1) := by decide +kernel
theorem dX0_attempt_99 : decode cX0_attempt 99 = .ok (.if_icmp .gt 32, 3) := by decide +kernel
theorem dX0_attempt_102 : decode cX0_attempt 102 = .ok (.aload_n 0, 1) := by decide +kernel
theorem dX0_attempt_103 : decode cX0_attempt 103 = .ok (.getfield 21, 3) := by decide +kernel
theorem dX0_attempt_106 : decode cX0_attempt 106 = .ok (.iload_n 1, 1) := by decide +kernel
theorem dX0_attempt_107 : decode cX0_attempt 107 = .ok (.iconst 2, 1) := by decide +kernel
theorem dX0_attempt_108 : decode cX0_attempt 108 = .ok (.iastore, 1) := by decide +kernel
theorem dX0_attempt_109 : decode cX0_attempt 109 = .ok (.aload_n 0, 1) := by decide +kernel
theorem dX0_attempt_110 : decode cX0_attempt 110 = .ok (.iload_n 1, 1) := by decide +kernel
theorem dX0_attempt_111 : decode cX0_attempt 111 = .ok (.iconst 1, 1) := by decide +kernel
theorem dX0_attempt_112 : decode cX0_attempt 112 = .ok (.iadd, 1) := by decide +kernel
theorem dX0_attempt_113 : decode cX0_attempt 113 = .ok (.iload_n 2, 1) := by decide +kernel
theorem dX0_attempt_114 : decode cX0_attempt 114 = .ok (.iload_n 3, 1) := by decide +kernel
theorem dX0_attempt_115 : decode cX0_attempt 115 = .ok (.iload 6, 2) := by decide +kernel
theorem dX0_attempt_117 : decode cX0_attempt 117 = .ok (.isub, 1) := by decide +kernel
theorem dX0_attempt_118 : decode cX0_attempt 118 = .ok (.iload 4, 2) := by decide +kernel
theorem dX0_attempt_120 : decode cX0_attempt 120 = .ok (.iload 7, 2) := by decide +kernel
theorem dX0_attempt_122 : decode cX0_attempt 122 = .ok (.iadd, 1) := by decide +kernel
theorem dX0_attempt_123 : decode cX0_attempt 123 = .ok (.iload 5, 2) := by decide +kernel
theorem dX0_attempt_125 : decode cX0_attempt 125 = .ok (.iload 7, 2) := by decide +kernel
theorem dX0_attempt_127 : decode cX0_attempt 127 = .ok (.isub, 1) := by decide +kernel
theorem dX0_attempt_128 : decode cX0_attempt 128 = .ok (.invokevirtual 34, 3) := by decide +kernel
theorem dX0_attempt_131 : decode cX0_attempt 131 = .ok (.aload_n 0, 1) := by decide +kernel
theorem dX0_attempt_132 : decode cX0_attempt 132 = .ok (.getfield 21, 3) := by decide +kernel
theorem dX0_attempt_135 : decode cX0_attempt 135 = .ok (.iload_n 1, 1) := by decide +kernel
theorem dX0_attempt_136 : decode cX0_attempt 136 = .ok (.iconst 0, 1) := by decide +kernel
theorem dX0_attempt_137 : decode cX0_attempt 137 = .ok (.iastore, 1) := by decide +kernel
theorem dX0_attempt_138 : decode cX0_attempt 138 = .ok (.aload_n 0, 1) := by decide +kernel
theorem dX0_attempt_139 : decode cX0_attempt 139 = .ok (.iload_n 1, 1) := by decide +kernel
theorem dX0_attempt_140 : decode cX0_attempt 140 = .ok (.iconst 1, 1) := by decide +kernel
theorem dX0_attempt_141 : decode cX0_attempt 141 = .ok (.iadd, 1) := by decide +kernel
theorem dX0_attempt_142 : decode cX0_attempt 142 = .ok (.iload_n 2, 1) := by decide +kernel
theorem dX0_attempt_143 : decode cX0_attempt 143 = .ok (.iload_n 3, 1) := by decide +kernel
theorem dX0_attempt_144 : decode cX0_attempt 144 = .ok (.iload 4, 2) := by decide +kernel
theorem dX0_attempt_146 : decode cX0_attempt 146 = .ok (.iload 5, 2) := by decide +kernel
theorem dX0_attempt_148 : decode cX0_attempt 148 = .ok (.iload 7, 2) := by decide +kernel
theorem dX0_attempt_150 : decode cX0_attempt 150 = .ok (.isub, 1) := by decide +kernel
theorem dX0_attempt_151 : decode cX0_attempt 151 = .ok (.invokevirtual 34, 3) := by decide +kernel
theorem dX0_attempt_154 : decode cX0_attempt 154 = .ok (.return_, 1) := by decide +kernel
theorem dX1_init_0 : decode cX1_init 0 = .ok (.aload_n 0, 1) := by decide +kernel
theorem dX1_init_1 : decode cX1_init 1 = .ok (.invokespecial 1, 3) := by decide +kernel
theorem dX1_init_4 : decode cX1_init 4 = .ok (.aload_n 0, 1) := by decide +kernel
theorem dX1_init_5 : decode cX1_init 5 = .ok (.iconst (-1), 1) := by decide +kernel
theorem dX1_init_6 : decode cX1_init 6 = .ok (.putfield 7, 3) := by decide +kernel
theorem dX1_init_9 : decode cX1_init 9 = .ok (.aload_n 0, 1) := by decide +kernel
theorem dX1_init_10 : decode cX1_init 10 = .ok (.iload_n 1, 1) := by decide +kernel
theorem dX1_init_11 : decode cX1_init 11 = .ok (.putfield 13, 3) := by decide +kernel
theorem dX1_init_14 : decode cX1_init 14 = .ok (.aload_n 0, 1) := by decide +kernel
theorem dX1_init_15 : decode cX1_init 15 = .ok (.aload_n 2, 1) := by decide +kernel
theorem dX1_init_16 : decode cX1_init 16 = .ok (.putfield 16, 3) := by decide +kernel
theorem dX1_init_19 : decode cX1_init 19 = .ok (.aload_n 0, 1) := by decide +kernel
theorem dX1_init_20 : decode cX1_init 20 = .ok (.iload_n 3, 1) := by decide +kernel
theorem dX1_init_21 : decode cX1_init 21 = .ok (.putfield 20, 3) := by decide +kernel
theorem dX1_init_24 : decode cX1_init 24 = .ok (.aload_n 0, 1) := by decide +kernel
theorem dX1_init_25 : decode cX1_init 25 = .ok (.iload 4, 2) := by decide +kernel
theorem dX1_init_27 : decode cX1_init 27 = .ok (.putfield 23, 3) := by decide +kernel
theorem dX1_init_30 : decode cX1_init 30 = .ok (.return_, 1) := by decide +kernel
theorem dX1_isOver_0 : decode cX1_isOver 0 = .ok (.aload_n 0, 1) := by decide +kernel
theorem dX1_isOver_1 : decode cX1_isOver 1 = .ok (.getfield 7, 3) := by decide +kernel
theorem dX1_isOver_4 : decode cX1_isOver 4 = .ok (.ifCond .lt 7, 3) := by decide +kernel
theorem dX1_isOver_7 : decode cX1_isOver 7 = .ok (.iconst 1, 1) := by decide +kernel
theorem dX1_isOver_8 : decode cX1_isOver 8 = .ok (.goto 4, 3) := by decide +kernel
theorem dX1_isOver_11 : decode cX1_isOver 11 = .ok (.iconst 0, 1) := by decide +kernel
theorem dX1_isOver_12 : decode cX1_isOver 12 = .ok (.ireturn, 1) := by decide +kernel
theorem dX2_init_0 : decode cX2_init 0 = .ok (.aload_n 0, 1) := by decide +kernel
theorem dX2_init_1 : decode cX2_init 1 = .ok (.invokespecial 1, 3) := by decide +kernel
theorem dX2_init_4 : decode cX2_init 4 = .ok (.aload_n 0, 1) := by decide +kernel
theorem dX2_init_5 : decode cX2_init 5 = .ok (.aload_n 1, 1) := by decide +kernel
theorem dX2_init_6 : decode cX2_init 6 = .ok (.putfield 7, 3) := by decide +kernel
theorem dX2_init_9 : decode cX2_init 9 = .ok (.aload_n 0, 1) := by decide +kernel
theorem dX2_init_10 : decode cX2_init 10 = .ok (.iload_n 2, 1) := by decide +kernel
theorem dX2_init_11 : decode cX2_init 11 = .ok (.putfield 13, 3) := by decide +kernel
theorem dX2_init_14 : decode cX2_init 14 = .ok (.aload_n 0, 1) := by decide +kernel
theorem dX2_init_15 : decode cX2_init 15 = .ok (.iload_n 3, 1) := by decide +kernel
theorem dX2_init_16 : decode cX2_init 16 = .ok (.putfield 17, 3) := by decide +kernel
theorem dX2_init_19 : decode cX2_init 19 = .ok (.aload_n 0, 1) := by decide +kernel
theorem dX2_init_20 : decode cX2_init 20 = .ok (.iload 4, 2) := by decide +kernel
theorem dX2_init_22 : decode cX2_init 22 = .ok (.putfield 20, 3) := by decide +kernel
theorem dX2_init_25 : decode cX2_init 25 = .ok (.aload_n 0, 1) := by decide +kernel
theorem dX2_init_26 : decode cX2_init 26 = .ok (.iload 5, 2) := by decide +kernel
theorem dX2_init_28 : decode cX2_init 28 = .ok (.putfield 23, 3) := by decide +kernel
theorem dX2_init_31 : decode cX2_init 31 = .ok (.return_, 1) := by decide +kernel
theorem dX2_isDrawn_0 : decode cX2_isDrawn 0 = .ok (.aload_n 0, 1) := by decide +kernel
theorem dX2_isDrawn_1 : decode cX2_isDrawn 1 = .ok (.getfield 27, 3) := by decide +kernel
theorem dX2_isDrawn_4 : decode cX2_isDrawn 4 = .ok (.ifCond .le 7, 3) := by decide +kernel
theorem dX2_isDrawn_7 : decode cX2_isDrawn 7 = .ok (.iconst 1, 1) := by decide +kernel
theorem dX2_isDrawn_8 : decode cX2_isDrawn 8 = .ok (.goto 4, 3) := by decide +kernel
theorem dX2_isDrawn_11 : decode cX2_isDrawn 11 = .ok (.iconst 0, 1) := by decide +kernel
theorem dX2_isDrawn_12 : decode cX2_isDrawn 12 = .ok (.ireturn, 1) := by decide +kernel
theorem dX2_isDoubleOf_0 : decode cX2_isDoubleOf 0 = .ok (.aload_n 0, 1) := by decide +kernel
theorem dX2_isDoubleOf_1 : decode cX2_isDoubleOf 1 = .ok (.getfield 7, 3) := by decide +kernel
theorem dX2_isDoubleOf_4 : decode cX2_isDoubleOf 4 = .ok (.aload_n 1, 1) := by decide +kernel
theorem dX2_isDoubleOf_5 : decode cX2_isDoubleOf 5 = .ok (.getfield 7, 3) := by decide +kernel
theorem dX2_isDoubleOf_8 : decode cX2_isDoubleOf 8 = .ok (.if_acmp .ne 18, 3) := by decide +kernel
theorem dX2_isDoubleOf_11 : decode cX2_isDoubleOf 11 = .ok (.aload_n 0, 1) := by decide +kernel
theorem dX2_isDoubleOf_12 : decode cX2_isDoubleOf 12 = .ok (.getfield 13, 3) := by decide +kernel
theorem dX2_isDoubleOf_15 : decode cX2_isDoubleOf 15 = .ok (.aload_n 1, 1) := by decide +kernel
theorem dX2_isDoubleOf_16 : decode cX2_isDoubleOf 16 = .ok (.getfield 13, 3) := by decide +kernel
theorem dX2_isDoubleOf_19 : decode cX2_isDoubleOf 19 = .ok (.if_icmp .eq 7, 3) := by decide +kernel
theorem dX2_isDoubleOf_22 : decode cX2_isDoubleOf 22 = .ok (.iconst 1, 1) := by decide +kernel
theorem dX2_isDoubleOf_23 : decode cX2_isDoubleOf 23 = .ok (.goto 4, 3) := by decide +kernel
theorem dX2_isDoubleOf_26 : decode cX2_isDoubleOf 26 = .ok (.iconst 0, 1) := by decide +kernel
theorem dX2_isDoubleOf_27 : decode cX2_isDoubleOf 27 = .ok (.ireturn, 1) := by decide +kernel
theorem dX3_init_0 : decode cX3_init 0 = .ok (.aload_n 0, 1) := by decide +kernel
theorem dX3_init_1 : decode cX3_init 1 = .ok (.invokespecial 3, 3) := by decide +kernel
theorem dX3_init_4 : decode cX3_init 4 = .ok (.aload_n 0, 1) := by decide +kernel
theorem dX3_init_5 : decode cX3_init 5 = .ok (.bipush 10, 2) := by decide +kernel
theorem dX3_init_7 : decode cX3_init 7 = .ok (.newarray .int, 2) := by decide +kernel
theorem dX3_init_9 : decode cX3_init 9 = .ok (.dup, 1) := by decide +kernel
theorem dX3_init_10 : decode cX3_init 10 = .ok (.iconst 0, 1) := by decide +kernel
theorem dX3_init_11 : decode cX3_init 11 = .ok (.iconst 0, 1) := by decide +kernel
theorem dX3_init_12 : decode cX3_init 12 = .ok (.iastore, 1) := by decide +kernel
theorem dX3_init_13 : decode cX3_init 13 = .ok (.dup, 1) := by decide +kernel
theorem dX3_init_14 : decode cX3_init 14 = .ok (.iconst 1, 1) := by decide +kernel
theorem dX3_init_15 : decode cX3_init 15 = .ok (.iconst 1, 1) := by decide +kernel
theorem dX3_init_16 : decode cX3_init 16 = .ok (.iastore, 1) := by decide +kernel
theorem dX3_init_17 : decode cX3_init 17 = .ok (.dup, 1) := by decide +kernel
theorem dX3_init_18 : decode cX3_init 18 = .ok (.iconst 2, 1) := by decide +kernel
theorem dX3_init_19 : decode cX3_init 19 = .ok (.iconst 2, 1) := by decide +kernel
theorem dX3_init_20 : decode cX3_init 20 = .ok (.iastore, 1) := by decide +kernel
theorem dX3_init_21 : decode cX3_init 21 = .ok (.dup, 1) := by decide +kernel
theorem dX3_init_22 : decode cX3_init 22 = .ok (.iconst 3, 1) := by decide +kernel
theorem dX3_init_23 : decode cX3_init 23 = .ok (.iconst 3, 1) := by decide +kernel
theorem dX3_init_24 : decode cX3_init 24 = .ok (.iastore, 1) := by decide +kernel
theorem dX3_init_25 : decode cX3_init 25 = .ok (.dup, 1) := by decide +kernel
theorem dX3_init_26 : decode cX3_init 26 = .ok (.iconst 4, 1) := by decide +kernel
theorem dX3_init_27 : decode cX3_init 27 = .ok (.iconst 4, 1) := by decide +kernel
theorem dX3_init_28 : decode cX3_init 28 = .ok (.iastore, 1) := by decide +kernel
theorem dX3_init_29 : decode cX3_init 29 = .ok (.dup, 1) := by decide +kernel
theorem dX3_init_30 : decode cX3_init 30 = .ok (.iconst 5, 1) := by decide +kernel
theorem dX3_init_31 : decode cX3_init 31 = .ok (.iconst 5, 1) := by decide +kernel
theorem dX3_init_32 : decode cX3_init 32 = .ok (.iastore, 1) := by decide +kernel
theorem dX3_init_33 : decode cX3_init 33 = .ok (.dup, 1) := by decide +kernel
theorem dX3_init_34 : decode cX3_init 34 = .ok (.bipush 6, 2) := by decide +kernel
theorem dX3_init_36 : decode cX3_init 36 = .ok (.bipush 6, 2) := by decide +kernel
theorem dX3_init_38 : decode cX3_init 38 = .ok (.iastore, 1) := by decide +kernel
theorem dX3_init_39 : decode cX3_init 39 = .ok (.dup, 1) := by decide +kernel
theorem dX3_init_40 : decode cX3_init 40 = .ok (.bipush 7, 2) := by decide +kernel
theorem dX3_init_42 : decode cX3_init 42 = .ok (.bipush 7, 2) := by decide +kernel
theorem dX3_init_44 : decode cX3_init 44 = .ok (.iastore, 1) := by decide +kernel
theorem dX3_init_45 : decode cX3_init 45 = .ok (.dup, 1) := by decide +kernel
theorem dX3_init_46 : decode cX3_init 46 = .ok (.bipush 8, 2) := by decide +kernel
theorem dX3_init_48 : decode cX3_init 48 = .ok (.bipush 8, 2) := by decide +kernel
theorem dX3_init_50 : decode cX3_init 50 = .ok (.iastore, 1) := by decide +kernel
theorem dX3_init_51 : decode cX3_init 51 = .ok (.dup, 1) := by decide +kernel
theorem dX3_init_52 : decode cX3_init 52 = .ok (.bipush 9, 2) := by decide +kernel
theorem dX3_init_54 : decode cX3_init 54 = .ok (.bipush 9, 2) := by decide +kernel
theorem dX3_init_56 : decode cX3_init 56 = .ok (.iastore, 1) := by decide +kernel
theorem dX3_init_57 : decode cX3_init 57 = .ok (.putfield 9, 3) := by decide +kernel
theorem dX3_init_60 : decode cX3_init 60 = .ok (.return_, 1) := by decide +kernel
theorem dX3_join_0 : decode cX3_join 0 = .ok (.aload_n 0, 1) := by decide +kernel
theorem dX3_join_1 : decode cX3_join 1 = .ok (.getfield 9, 3) := by decide +kernel
theorem dX3_join_4 : decode cX3_join 4 = .ok (.iload_n 1, 1) := by decide +kernel
theorem dX3_join_5 : decode cX3_join 5 = .ok (.iaload, 1) := by decide +kernel
theorem dX3_join_6 : decode cX3_join 6 = .ok (.istore_n 3, 1) := by decide +kernel
theorem dX3_join_7 : decode cX3_join 7 = .ok (.aload_n 0, 1) := by decide +kernel
theorem dX3_join_8 : decode cX3_join 8 = .ok (.getfield 9, 3) := by decide +kernel
theorem dX3_join_11 : decode cX3_join 11 = .ok (.iload_n 2, 1) := by decide +kernel
theorem dX3_join_12 : decode cX3_join 12 = .ok (.iaload, 1) := by decide +kernel
theorem dX3_join_13 : decode cX3_join 13 = .ok (.istore 4, 2) := by decide +kernel
theorem dX3_join_15 : decode cX3_join 15 = .ok (.iconst 0, 1) := by decide +kernel
theorem dX3_join_16 : decode cX3_join 16 = .ok (.istore 5, 2) := by decide +kernel
theorem dX3_join_18 : decode cX3_join 18 = .ok (.iload 5, 2) := by decide +kernel
theorem dX3_join_20 : decode cX3_join 20 = .ok (.bipush 10, 2) := by decide +kernel
theorem dX3_join_22 : decode cX3_join 22 = .ok (.if_icmp .ge 29, 3) := by decide +kernel
theorem dX3_join_25 : decode cX3_join 25 = .ok (.aload_n 0, 1) := by decide +kernel
theorem dX3_join_26 : decode cX3_join 26 = .ok (.getfield 9, 3) := by decide +kernel
theorem dX3_join_29 : decode cX3_join 29 = .ok (.iload 5, 2) := by decide +kernel
theorem dX3_join_31 : decode cX3_join 31 = .ok (.iaload, 1) := by decide +kernel
theorem dX3_join_32 : decode cX3_join 32 = .ok (.iload 4, 2) := by decide +kernel
theorem dX3_join_34 : decode cX3_join 34 = .ok (.if_icmp .ne 11, 3) := by decide +kernel
theorem dX3_join_37 : decode cX3_join 37 = .ok (.aload_n 0, 1) := by decide +kernel
theorem dX3_join_38 : decode cX3_join 38 = .ok (.getfield 9, 3) := by decide +kernel
theorem dX3_join_41 : decode cX3_join 41 = .ok (.iload 5, 2) := by decide +kernel
theorem dX3_join_43 : decode cX3_join 43 = .ok (.iload_n 3, 1) := by decide +kernel
theorem dX3_join_44 : decode cX3_join 44 = .ok (.iastore, 1) := by decide +kernel
theorem dX3_join_45 : decode cX3_join 45 = .ok (.iinc 5 1, 3) := by decide +kernel
theorem dX3_join_48 : decode cX3_join 48 = .ok (.goto (-30), 3) := by decide +kernel
theorem dX3_join_51 : decode cX3_join 51 = .ok (.aload_n 0, 1) := by decide +kernel
theorem dX3_join_52 : decode cX3_join 52 = .ok (.dup, 1) := by decide +kernel
theorem dX3_join_53 : decode cX3_join 53 = .ok (.getfield 15, 3) := by decide +kernel
theorem dX3_join_56 : decode cX3_join 56 = .ok (.iconst 1, 1) := by decide +kernel
theorem dX3_join_57 : decode cX3_join 57 = .ok (.iadd, 1) := by decide +kernel
theorem dX3_join_58 : decode cX3_join 58 = .ok (.putfield 15, 3) := by decide +kernel
theorem dX3_join_61 : decode cX3_join 61 = .ok (.return_, 1) := by decide +kernel
theorem dX3_areOne_0 : decode cX3_areOne 0 = .ok (.aload_n 0, 1) := by decide +kernel
theorem dX3_areOne_1 : decode cX3_areOne 1 = .ok (.getfield 9, 3) := by decide +kernel
theorem dX3_areOne_4 : decode cX3_areOne 4 = .ok (.iload_n 1, 1) := by decide +kernel
theorem dX3_areOne_5 : decode cX3_areOne 5 = .ok (.iaload, 1) := by decide +kernel
theorem dX3_areOne_6 : decode cX3_areOne 6 = .ok (.aload_n 0, 1) := by decide +kernel
theorem dX3_areOne_7 : decode cX3_areOne 7 = .ok (.getfield 9, 3) := by decide +kernel
theorem dX3_areOne_10 : decode cX3_areOne 10 = .ok (.iload_n 2, 1) := by decide +kernel
theorem dX3_areOne_11 : decode cX3_areOne 11 = .ok (.iaload, 1) := by decide +kernel
theorem dX3_areOne_12 : decode cX3_areOne 12 = .ok (.if_icmp .ne 7, 3) := by decide +kernel
theorem dX3_areOne_15 : decode cX3_areOne 15 = .ok (.iconst 1, 1) := by decide +kernel
theorem dX3_areOne_16 : decode cX3_areOne 16 = .ok (.goto 4, 3) := by decide +kernel
theorem dX3_areOne_19 : decode cX3_areOne 19 = .ok (.iconst 0, 1) := by decide +kernel
theorem dX3_areOne_20 : decode cX3_areOne 20 = .ok (.ireturn, 1) := by decide +kernel
theorem dX4_init_0 : decode cX4_init 0 = .ok (.aload_n 0, 1) := by decide +kernel
theorem dX4_init_1 : decode cX4_init 1 = .ok (.invokespecial 3, 3) := by decide +kernel
theorem dX4_init_4 : decode cX4_init 4 = .ok (.aload_n 0, 1) := by decide +kernel
theorem dX4_init_5 : decode cX4_init 5 = .ok (.bipush 7, 2) := by decide +kernel
theorem dX4_init_7 : decode cX4_init 7 = .ok (.newarray .int, 2) := by decide +kernel
theorem dX4_init_9 : decode cX4_init 9 = .ok (.putfield 9, 3) := by decide +kernel
theorem dX4_init_12 : decode cX4_init 12 = .ok (.return_, 1) := by decide +kernel
theorem dX4_putDay_0 : decode cX4_putDay 0 = .ok (.iconst 1, 1) := by decide +kernel
theorem dX4_putDay_1 : decode cX4_putDay 1 = .ok (.istore_n 2, 1) := by decide +kernel
theorem dX4_putDay_2 : decode cX4_putDay 2 = .ok (.iload_n 2, 1) := by decide +kernel
theorem dX4_putDay_3 : decode cX4_putDay 3 = .ok (.bipush 7, 2) := by decide +kernel
theorem dX4_putDay_5 : decode cX4_putDay 5 = .ok (.if_icmp .ge 23, 3) := by decide +kernel
theorem dX4_putDay_8 : decode cX4_putDay 8 = .ok (.aload_n 0, 1) := by decide +kernel
theorem dX4_putDay_9 : decode cX4_putDay 9 = .ok (.getfield 9, 3) := by decide +kernel
theorem dX4_putDay_12 : decode cX4_putDay 12 = .ok (.iload_n 2, 1) := by decide +kernel
theorem dX4_putDay_13 : decode cX4_putDay 13 = .ok (.iconst 1, 1) := by decide +kernel
theorem dX4_putDay_14 : decode cX4_putDay 14 = .ok (.isub, 1) := by decide +kernel
theorem dX4_putDay_15 : decode cX4_putDay 15 = .ok (.aload_n 0, 1) := by decide +kernel
theorem dX4_putDay_16 : decode cX4_putDay 16 = .ok (.getfield 9, 3) := by decide +kernel
theorem dX4_putDay_19 : decode cX4_putDay 19 = .ok (.iload_n 2, 1) := by decide +kernel
theorem dX4_putDay_20 : decode cX4_putDay 20 = .ok (.iaload, 1) := by decide +kernel
theorem dX4_putDay_21 : decode cX4_putDay 21 = .ok (.iastore, 1) := by decide +kernel
theorem dX4_putDay_22 : decode cX4_putDay 22 = .ok (.iinc 2 1, 3) := by decide +kernel
theorem dX4_putDay_25 : decode cX4_putDay 25 = .ok (.goto (-23), 3) := by decide +kernel
theorem dX4_putDay_28 : decode cX4_putDay 28 = .ok (.aload_n 0, 1) := by decide +kernel
theorem dX4_putDay_29 : decode cX4_putDay 29 = .ok (.getfield 9, 3) := by decide +kernel
theorem dX4_putDay_32 : decode cX4_putDay 32 = .ok (.bipush 6, 2) := by decide +kernel
theorem dX4_putDay_34 : decode cX4_putDay 34 = .ok (.iload_n 1, 1) := by decide +kernel
theorem dX4_putDay_35 : decode cX4_putDay 35 = .ok (.iastore, 1) := by decide +kernel
theorem dX4_putDay_36 : decode cX4_putDay 36 = .ok (.return_, 1) := by decide +kernel
theorem dX4_hoursOfRest_0 : decode cX4_hoursOfRest 0 = .ok (.iconst 0, 1) := by decide +kernel
theorem dX4_hoursOfRest_1 : decode cX4_hoursOfRest 1 = .ok (.istore_n 1, 1) := by decide +kernel
theorem dX4_hoursOfRest_2 : decode cX4_hoursOfRest 2 = .ok (.iconst 0, 1) := by decide +kernel
theorem dX4_hoursOfRest_3 : decode cX4_hoursOfRest 3 = .ok (.istore_n 2, 1) := by decide +kernel
theorem dX4_hoursOfRest_4 : decode cX4_hoursOfRest 4 = .ok (.iload_n 2, 1) := by decide +kernel
theorem dX4_hoursOfRest_5 : decode cX4_hoursOfRest 5 = .ok (.bipush 7, 2) := by decide +kernel
theorem dX4_hoursOfRest_7 : decode cX4_hoursOfRest 7 = .ok (.if_icmp .ge 21, 3) := by decide +kernel
theorem dX4_hoursOfRest_10 : decode cX4_hoursOfRest 10 = .ok (.iload_n 1, 1) := by decide +kernel
theorem dX4_hoursOfRest_11 : decode cX4_hoursOfRest 11 = .ok (.aload_n 0, 1) := by decide +kernel
theorem dX4_hoursOfRest_12 : decode cX4_hoursOfRest 12 = .ok (.getfield 9, 3) := by decide +kernel
theorem dX4_hoursOfRest_15 : decode cX4_hoursOfRest 15 = .ok (.iload_n 2, 1) := by decide +kernel
theorem dX4_hoursOfRest_16 : decode cX4_hoursOfRest 16 = .ok (.iaload, 1) := by decide +kernel
theorem dX4_hoursOfRest_17 : decode cX4_hoursOfRest 17 = .ok (.invokestatic 15, 3) := by decide +kernel
theorem dX4_hoursOfRest_20 : decode cX4_hoursOfRest 20 = .ok (.iadd, 1) := by decide +kernel
theorem dX4_hoursOfRest_21 : decode cX4_hoursOfRest 21 = .ok (.istore_n 1, 1) := by decide +kernel
theorem dX4_hoursOfRest_22 : decode cX4_hoursOfRest 22 = .ok (.iinc 2 1, 3) := by decide +kernel
theorem dX4_hoursOfRest_25 : decode cX4_hoursOfRest 25 = .ok (.goto (-21), 3) := by decide +kernel
theorem dX4_hoursOfRest_28 : decode cX4_hoursOfRest 28 = .ok (.iload_n 1, 1) := by decide +kernel
theorem dX4_hoursOfRest_29 : decode cX4_hoursOfRest 29 = .ok (.ireturn, 1) := by decide +kernel
theorem dX4_restIn_0 : decode cX4_restIn 0 = .ok (.aload_n 0, 1) := by decide +kernel
theorem dX4_restIn_1 : decode cX4_restIn 1 = .ok (.getfield 9, 3) := by decide +kernel
theorem dX4_restIn_4 : decode cX4_restIn 4 = .ok (.iload_n 1, 1) := by decide +kernel
theorem dX4_restIn_5 : decode cX4_restIn 5 = .ok (.bipush 24, 2) := by decide +kernel
theorem dX4_restIn_7 : decode cX4_restIn 7 = .ok (.idiv, 1) := by decide +kernel
theorem dX4_restIn_8 : decode cX4_restIn 8 = .ok (.iaload, 1) := by decide +kernel
theorem dX4_restIn_9 : decode cX4_restIn 9 = .ok (.iload_n 1, 1) := by decide +kernel
theorem dX4_restIn_10 : decode cX4_restIn 10 = .ok (.bipush 24, 2) := by decide +kernel
theorem dX4_restIn_12 : decode cX4_restIn 12 = .ok (.irem, 1) := by decide +kernel
theorem dX4_restIn_13 : decode cX4_restIn 13 = .ok (.ishr, 1) := by decide +kernel
theorem dX4_restIn_14 : decode cX4_restIn 14 = .ok (.iconst 1, 1) := by decide +kernel
theorem dX4_restIn_15 : decode cX4_restIn 15 = .ok (.iand, 1) := by decide +kernel
theorem dX4_restIn_16 : decode cX4_restIn 16 = .ok (.ireturn, 1) := by decide +kernel
theorem dX4_firstWrong_0 : decode cX4_firstWrong 0 = .ok (.iconst 0, 1) := by decide +kernel
theorem dX4_firstWrong_1 : decode cX4_firstWrong 1 = .ok (.istore_n 1, 1) := by decide +kernel
theorem dX4_firstWrong_2 : decode cX4_firstWrong 2 = .ok (.iconst 0, 1) := by decide +kernel
theorem dX4_firstWrong_3 : decode cX4_firstWrong 3 = .ok (.istore_n 2, 1) := by decide +kernel
theorem dX4_firstWrong_4 : decode cX4_firstWrong 4 = .ok (.iload_n 2, 1) := by decide +kernel
theorem dX4_firstWrong_5 : decode cX4_firstWrong 5 = .ok (.sipush 168, 3) := by decide +kernel
theorem dX4_firstWrong_8 : decode cX4_firstWrong 8 = .ok (.if_icmp .ge 48, 3) := by decide +kernel
theorem dX4_firstWrong_11 : decode cX4_firstWrong 11 = .ok (.iload_n 1, 1) := by decide +kernel
theorem dX4_firstWrong_12 : decode cX4_firstWrong 12 = .ok (.aload_n 0, 1) := by decide +kernel
theorem dX4_firstWrong_13 : decode cX4_firstWrong 13 = .ok (.iload_n 2, 1) := by decide +kernel
theorem dX4_firstWrong_14 : decode cX4_firstWrong 14 = .ok (.invokevirtual 21, 3) := by decide +kernel
theorem dX4_firstWrong_17 : decode cX4_firstWrong 17 = .ok (.iadd, 1) := by decide +kernel
theorem dX4_firstWrong_18 : decode cX4_firstWrong 18 = .ok (.istore_n 1, 1) := by decide +kernel
theorem dX4_firstWrong_19 : decode cX4_firstWrong 19 = .ok (.iload_n 2, 1) := by decide +kernel
theorem dX4_firstWrong_20 : decode cX4_firstWrong 20 = .ok (.bipush 24, 2) := by decide +kernel
theorem dX4_firstWrong_22 : decode cX4_firstWrong 22 = .ok (.if_icmp .lt 14, 3) := by decide +kernel
theorem dX4_firstWrong_25 : decode cX4_firstWrong 25 = .ok (.iload_n 1, 1) := by decide +kernel
theorem dX4_firstWrong_26 : decode cX4_firstWrong 26 = .ok (.aload_n 0, 1) := by decide +kernel
theorem dX4_firstWrong_27 : decode cX4_firstWrong 27 = .ok (.iload_n 2, 1) := by decide +kernel
theorem dX4_firstWrong_28 : decode cX4_firstWrong 28 = .ok (.bipush 24, 2) := by decide +kernel
theorem dX4_firstWrong_30 : decode cX4_firstWrong 30 = .ok (.isub, 1) := by decide +kernel
theorem dX4_firstWrong_31 : decode cX4_firstWrong 31 = .ok (.invokevirtual 21, 3) := by decide +kernel
theorem dX4_firstWrong_34 : decode cX4_firstWrong 34 = .ok (.isub, 1) := by decide +kernel
theorem dX4_firstWrong_35 : decode cX4_firstWrong 35 = .ok (.istore_n 1, 1) := by decide +kernel
theorem dX4_firstWrong_36 : decode cX4_firstWrong 36 = .ok (.iload_n 2, 1) := by decide +kernel
theorem dX4_firstWrong_37 : decode cX4_firstWrong 37 = .ok (.bipush 23, 2) := by decide +kernel
theorem dX4_firstWrong_39 : decode cX4_firstWrong 39 = .ok (.if_icmp .lt 11, 3) := by decide +kernel
theorem dX4_firstWrong_42 : decode cX4_firstWrong 42 = .ok (.iload_n 1, 1) := by decide +kernel
theorem dX4_firstWrong_43 : decode cX4_firstWrong 43 = .ok (.bipush 10, 2) := by decide +kernel
theorem dX4_firstWrong_45 : decode cX4_firstWrong 45 = .ok (.if_icmp .ge 5, 3) := by decide +kernel
theorem dX4_firstWrong_48 : decode cX4_firstWrong 48 = .ok (.iload_n 2, 1) := by decide +kernel
theorem dX4_firstWrong_49 : decode cX4_firstWrong 49 = .ok (.ireturn, 1) := by decide +kernel
theorem dX4_firstWrong_50 : decode cX4_firstWrong 50 = .ok (.iinc 2 1, 3) := by decide +kernel
theorem dX4_firstWrong_53 : decode cX4_firstWrong 53 = .ok (.goto (-49), 3) := by decide +kernel
theorem dX4_firstWrong_56 : decode cX4_firstWrong 56 = .ok (.iconst (-1), 1) := by decide +kernel
theorem dX4_firstWrong_57 : decode cX4_firstWrong 57 = .ok (.ireturn, 1) := by decide +kernel
theorem dX5_init_0 : decode cX5_init 0 = .ok (.aload_n 0, 1) := by decide +kernel
theorem dX5_init_1 : decode cX5_init 1 = .ok (.invokespecial 3, 3) := by decide +kernel
theorem dX5_init_4 : decode cX5_init 4 = .ok (.aload_n 0, 1) := by decide +kernel
theorem dX5_init_5 : decode cX5_init 5 = .ok (.iconst 3, 1) := by decide +kernel
theorem dX5_init_6 : decode cX5_init 6 = .ok (.anewarray 9, 3) := by decide +kernel
theorem dX5_init_9 : decode cX5_init 9 = .ok (.putfield 11, 3) := by decide +kernel
theorem dX5_init_12 : decode cX5_init 12 = .ok (.aload_n 0, 1) := by decide +kernel
theorem dX5_init_13 : decode cX5_init 13 = .ok (.new 17, 3) := by decide +kernel
theorem dX5_init_16 : decode cX5_init 16 = .ok (.dup, 1) := by decide +kernel
theorem dX5_init_17 : decode cX5_init 17 = .ok (.invokespecial 19, 3) := by decide +kernel
theorem dX5_init_20 : decode cX5_init 20 = .ok (.putfield 20, 3) := by decide +kernel
theorem dX5_init_23 : decode cX5_init 23 = .ok (.aload_n 0, 1) := by decide +kernel
theorem dX5_init_24 : decode cX5_init 24 = .ok (.iconst (-1), 1) := by decide +kernel
theorem dX5_init_25 : decode cX5_init 25 = .ok (.putfield 24, 3) := by decide +kernel
theorem dX5_init_28 : decode cX5_init 28 = .ok (.aload_n 0, 1) := by decide +kernel
theorem dX5_init_29 : decode cX5_init 29 = .ok (.iconst (-1), 1) := by decide +kernel
theorem dX5_init_30 : decode cX5_init 30 = .ok (.putfield 28, 3) := by decide +kernel
theorem dX5_init_33 : decode cX5_init 33 = .ok (.aload_n 0, 1) := by decide +kernel
theorem dX5_init_34 : decode cX5_init 34 = .ok (.iload_n 1, 1) := by decide +kernel
theorem dX5_init_35 : decode cX5_init 35 = .ok (.putfield 31, 3) := by decide +kernel
theorem dX5_init_38 : decode cX5_init 38 = .ok (.aload_n 0, 1) := by decide +kernel
theorem dX5_init_39 : decode cX5_init 39 = .ok (.iload_n 2, 1) := by decide +kernel
theorem dX5_init_40 : decode cX5_init 40 = .ok (.bipush 10, 2) := by decide +kernel
theorem dX5_init_42 : decode cX5_init 42 = .ok (.idiv, 1) := by decide +kernel
theorem dX5_init_43 : decode cX5_init 43 = .ok (.putfield 34, 3) := by decide +kernel
theorem dX5_init_46 : decode cX5_init 46 = .ok (.aload_n 0, 1) := by decide +kernel
theorem dX5_init_47 : decode cX5_init 47 = .ok (.iload_n 2, 1) := by decide +kernel
theorem dX5_init_48 : decode cX5_init 48 = .ok (.bipush 10, 2) := by decide +kernel
theorem dX5_init_50 : decode cX5_init 50 = .ok (.irem, 1) := by decide +kernel
theorem dX5_init_51 : decode cX5_init 51 = .ok (.putfield 37, 3) := by decide +kernel
theorem dX5_init_54 : decode cX5_init 54 = .ok (.aload_n 0, 1) := by decide +kernel
theorem dX5_init_55 : decode cX5_init 55 = .ok (.iload 4, 2) := by decide +kernel
theorem dX5_init_57 : decode cX5_init 57 = .ok (.putfield 40, 3) := by decide +kernel
theorem dX5_init_60 : decode cX5_init 60 = .ok (.aload_n 0, 1) := by decide +kernel
theorem dX5_init_61 : decode cX5_init 61 = .ok (.getfield 11, 3) := by decide +kernel
theorem dX5_init_64 : decode cX5_init 64 = .ok (.iconst 0, 1) := by decide +kernel
theorem dX5_init_65 : decode cX5_init 65 = .ok (.new 9, 3) := by decide +kernel
theorem dX5_init_68 : decode cX5_init 68 = .ok (.dup, 1) := by decide +kernel
theorem dX5_init_69 : decode cX5_init 69 = .ok (.iconst 0, 1) := by decide +kernel
theorem dX5_init_70 : decode cX5_init 70 = .ok (.iload_n 3, 1) := by decide +kernel
theorem dX5_init_71 : decode cX5_init 71 = .ok (.bipush 100, 2) := by decide +kernel
theorem dX5_init_73 : decode cX5_init 73 = .ok (.idiv, 1) := by decide +kernel
theorem dX5_init_74 : decode cX5_init 74 = .ok (.aconst_null, 1) := by decide +kernel
theorem dX5_init_75 : decode cX5_init 75 = .ok (.invokespecial 43, 3) := by decide +kernel
theorem dX5_init_78 : decode cX5_init 78 = .ok (.aastore, 1) := by decide +kernel
theorem dX5_init_79 : decode cX5_init 79 = .ok (.aload_n 0, 1) := by decide +kernel
theorem dX5_init_80 : decode cX5_init 80 = .ok (.getfield 11, 3) := by decide +kernel
theorem dX5_init_83 : decode cX5_init 83 = .ok (.iconst 2, 1) := by decide +kernel
theorem dX5_init_84 : decode cX5_init 84 = .ok (.new 9, 3) := by decide +kernel
theorem dX5_init_87 : decode cX5_init 87 = .ok (.dup, 1) := by decide +kernel
theorem dX5_init_88 : decode cX5_init 88 = .ok (.iconst 0, 1) := by decide +kernel
theorem dX5_init_89 : decode cX5_init 89 = .ok (.iload_n 3, 1) := by decide +kernel
theorem dX5_init_90 : decode cX5_init 90 = .ok (.bipush 10, 2) := by decide +kernel
theorem dX5_init_92 : decode cX5_init 92 = .ok (.idiv, 1) := by decide +kernel
theorem dX5_init_93 : decode cX5_init 93 = .ok (.bipush 10, 2) := by decide +kernel
theorem dX5_init_95 : decode cX5_init 95 = .ok (.irem, 1) := by decide +kernel
theorem dX5_init_96 : decode cX5_init 96 = .ok (.aconst_null, 1) := by decide +kernel
theorem dX5_init_97 : decode cX5_init 97 = .ok (.invokespecial 43, 3) := by decide +kernel
theorem dX5_init_100 : decode cX5_init 100 = .ok (.aastore, 1) := by decide +kernel
theorem dX5_init_101 : decode cX5_init 101 = .ok (.aload_n 0, 1) := by decide +kernel
theorem dX5_init_102 : decode cX5_init 102 = .ok (.getfield 11, 3) := by decide +kernel
theorem dX5_init_105 : decode cX5_init 105 = .ok (.iconst 1, 1) := by decide +kernel
theorem dX5_init_106 : decode cX5_init 106 = .ok (.new 9, 3) := by decide +kernel
theorem dX5_init_109 : decode cX5_init 109 = .ok (.dup, 1) := by decide +kernel
theorem dX5_init_110 : decode cX5_init 110 = .ok (.iconst 0, 1) := by decide +kernel
theorem dX5_init_111 : decode cX5_init 111 = .ok (.iload_n 3, 1) := by decide +kernel
theorem dX5_init_112 : decode cX5_init 112 = .ok (.bipush 10, 2) := by decide +kernel
theorem dX5_init_114 : decode cX5_init 114 = .ok (.irem, 1) := by decide +kernel
theorem dX5_init_115 : decode cX5_init 115 = .ok (.aconst_null, 1) := by decide +kernel
theorem dX5_init_116 : decode cX5_init 116 = .ok (.invokespecial 43, 3) := by decide +kernel
theorem dX5_init_119 : decode cX5_init 119 = .ok (.aastore, 1) := by decide +kernel
theorem dX5_init_120 : decode cX5_init 120 = .ok (.return_, 1) := by decide +kernel
theorem dX5_traitOn_0 : decode cX5_traitOn 0 = .ok (.aload_n 0, 1) := by decide +kernel
theorem dX5_traitOn_1 : decode cX5_traitOn 1 = .ok (.getfield 11, 3) := by decide +kernel
theorem dX5_traitOn_4 : decode cX5_traitOn 4 = .ok (.iload_n 1, 1) := by decide +kernel
theorem dX5_traitOn_5 : decode cX5_traitOn 5 = .ok (.aaload, 1) := by decide +kernel
theorem dX5_traitOn_6 : decode cX5_traitOn 6 = .ok (.astore_n 3, 1) := by decide +kernel
theorem dX5_traitOn_7 : decode cX5_traitOn 7 = .ok (.aload_n 3, 1) := by decide +kernel
theorem dX5_traitOn_8 : decode cX5_traitOn 8 = .ok (.getfield 46, 3) := by decide +kernel
theorem dX5_traitOn_11 : decode cX5_traitOn 11 = .ok (.ifnull 19, 3) := by decide +kernel
theorem dX5_traitOn_14 : decode cX5_traitOn 14 = .ok (.aload_n 3, 1) := by decide +kernel
theorem dX5_traitOn_15 : decode cX5_traitOn 15 = .ok (.getfield 50, 3) := by decide +kernel
theorem dX5_traitOn_18 : decode cX5_traitOn 18 = .ok (.iload_n 2, 1) := by decide +kernel
theorem dX5_traitOn_19 : decode cX5_traitOn 19 = .ok (.if_icmp .le 11, 3) := by decide +kernel
theorem dX5_traitOn_22 : decode cX5_traitOn 22 = .ok (.aload_n 3, 1) := by decide +kernel
theorem dX5_traitOn_23 : decode cX5_traitOn 23 = .ok (.getfield 46, 3) := by decide +kernel
theorem dX5_traitOn_26 : decode cX5_traitOn 26 = .ok (.astore_n 3, 1) := by decide +kernel
theorem dX5_traitOn_27 : decode cX5_traitOn 27 = .ok (.goto (-20), 3) := by decide +kernel
theorem dX5_traitOn_30 : decode cX5_traitOn 30 = .ok (.aload_n 3, 1) := by decide +kernel
theorem dX5_traitOn_31 : decode cX5_traitOn 31 = .ok (.getfield 53, 3) := by decide +kernel
theorem dX5_traitOn_34 : decode cX5_traitOn 34 = .ok (.ireturn, 1) := by decide +kernel
theorem dX5_setTrait_0 : decode cX5_setTrait 0 = .ok (.aload_n 0, 1) := by decide +kernel
theorem dX5_setTrait_1 : decode cX5_setTrait 1 = .ok (.getfield 11, 3) := by decide +kernel
theorem dX5_setTrait_4 : decode cX5_setTrait 4 = .ok (.iload_n 1, 1) := by decide +kernel
theorem dX5_setTrait_5 : decode cX5_setTrait 5 = .ok (.new 9, 3) := by decide +kernel
theorem dX5_setTrait_8 : decode cX5_setTrait 8 = .ok (.dup, 1) := by decide +kernel
theorem dX5_setTrait_9 : decode cX5_setTrait 9 = .ok (.iload_n 2, 1) := by decide +kernel
theorem dX5_setTrait_10 : decode cX5_setTrait 10 = .ok (.iload_n 3, 1) := by decide +kernel
theorem dX5_setTrait_11 : decode cX5_setTrait 11 = .ok (.aload_n 0, 1) := by decide +kernel
theorem dX5_setTrait_12 : decode cX5_setTrait 12 = .ok (.getfield 11, 3) := by decide +kernel
theorem dX5_setTrait_15 : decode cX5_setTrait 15 = .ok (.iload_n 1, 1) := by decide +kernel
theorem dX5_setTrait_16 : decode cX5_setTrait 16 = .ok (.aaload, 1) := by decide +kernel
theorem dX5_setTrait_17 : decode cX5_setTrait 17 = .ok (.invokespecial 43, 3) := by decide +kernel
theorem dX5_setTrait_20 : decode cX5_setTrait 20 = .ok (.aastore, 1) := by decide +kernel
theorem dX5_setTrait_21 : decode cX5_setTrait 21 = .ok (.return_, 1) := by decide +kernel
theorem dX5_isBanned_0 : decode cX5_isBanned 0 = .ok (.aload_n 0, 1) := by decide +kernel
theorem dX5_isBanned_1 : decode cX5_isBanned 1 = .ok (.getfield 28, 3) := by decide +kernel
theorem dX5_isBanned_4 : decode cX5_isBanned 4 = .ok (.ifCond .lt 7, 3) := by decide +kernel
theorem dX5_isBanned_7 : decode cX5_isBanned 7 = .ok (.iconst 1, 1) := by decide +kernel
theorem dX5_isBanned_8 : decode cX5_isBanned 8 = .ok (.goto 4, 3) := by decide +kernel
theorem dX5_isBanned_11 : decode cX5_isBanned 11 = .ok (.iconst 0, 1) := by decide +kernel
theorem dX5_isBanned_12 : decode cX5_isBanned 12 = .ok (.ireturn, 1) := by decide +kernel
theorem dX6_init_0 : decode cX6_init 0 = .ok (.aload_n 0, 1) := by decide +kernel
theorem dX6_init_1 : decode cX6_init 1 = .ok (.invokespecial 1, 3) := by decide +kernel
theorem dX6_init_4 : decode cX6_init 4 = .ok (.return_, 1) := by decide +kernel
theorem dX6_clear_0 : decode cX6_clear 0 = .ok (.aload_n 0, 1) := by decide +kernel
theorem dX6_clear_1 : decode cX6_clear 1 = .ok (.iconst 0, 1) := by decide +kernel
theorem dX6_clear_2 : decode cX6_clear 2 = .ok (.putfield 7, 3) := by decide +kernel
theorem dX6_clear_5 : decode cX6_clear 5 = .ok (.aload_n 0, 1) := by decide +kernel
theorem dX6_clear_6 : decode cX6_clear 6 = .ok (.iconst 0, 1) := by decide +kernel
theorem dX6_clear_7 : decode cX6_clear 7 = .ok (.putfield 13, 3) := by decide +kernel
theorem dX6_clear_10 : decode cX6_clear 10 = .ok (.aload_n 0, 1) := by decide +kernel
theorem dX6_clear_11 : decode cX6_clear 11 = .ok (.iconst 0, 1) := by decide +kernel
theorem dX6_clear_12 : decode cX6_clear 12 = .ok (.putfield 16, 3) := by decide +kernel
theorem dX6_clear_15 : decode cX6_clear 15 = .ok (.aload_n 0, 1) := by decide +kernel
theorem dX6_clear_16 : decode cX6_clear 16 = .ok (.iconst 0, 1) := by decide +kernel
theorem dX6_clear_17 : decode cX6_clear 17 = .ok (.putfield 19, 3) := by decide +kernel
theorem dX6_clear_20 : decode cX6_clear 20 = .ok (.return_, 1) := by decide +kernel
theorem dX6_add_0 : decode cX6_add 0 = .ok (.aload_n 0, 1) := by decide +kernel
theorem dX6_add_1 : decode cX6_add 1 = .ok (.dup, 1) := by decide +kernel
theorem dX6_add_2 : decode cX6_add 2 = .ok (.getfield 16, 3) := by decide +kernel
theorem dX6_add_5 : decode cX6_add 5 = .ok (.iconst 1, 1) := by decide +kernel
theorem dX6_add_6 : decode cX6_add 6 = .ok (.iadd, 1) := by decide +kernel
theorem dX6_add_7 : decode cX6_add 7 = .ok (.putfield 16, 3) := by decide +kernel
theorem dX6_add_10 : decode cX6_add 10 = .ok (.aload_n 0, 1) := by decide +kernel
theorem dX6_add_11 : decode cX6_add 11 = .ok (.dup, 1) := by decide +kernel
theorem dX6_add_12 : decode cX6_add 12 = .ok (.getfield 19, 3) := by decide +kernel
theorem dX6_add_15 : decode cX6_add 15 = .ok (.iload_n 2, 1) := by decide +kernel
theorem dX6_add_16 : decode cX6_add 16 = .ok (.ifCond .eq 7, 3) := by decide +kernel
theorem dX6_add_19 : decode cX6_add 19 = .ok (.iconst 1, 1) := by decide +kernel
theorem dX6_add_20 : decode cX6_add 20 = .ok (.goto 4, 3) := by decide +kernel
theorem dX6_add_23 : decode cX6_add 23 = .ok (.iconst 0, 1) := by decide +kernel
theorem dX6_add_24 : decode cX6_add 24 = .ok (.iadd, 1) := by decide +kernel
theorem dX6_add_25 : decode cX6_add 25 = .ok (.putfield 19, 3) := by decide +kernel
theorem dX6_add_28 : decode cX6_add 28 = .ok (.aload_n 0, 1) := by decide +kernel
theorem dX6_add_29 : decode cX6_add 29 = .ok (.dup, 1) := by decide +kernel
theorem dX6_add_30 : decode cX6_add 30 = .ok (.getfield 7, 3) := by decide +kernel
theorem dX6_add_33 : decode cX6_add 33 = .ok (.iload_n 1, 1) := by decide +kernel
theorem dX6_add_34 : decode cX6_add 34 = .ok (.ifCond .eq 7, 3) := by decide +kernel
theorem dX6_add_37 : decode cX6_add 37 = .ok (.iconst 1, 1) := by decide +kernel
theorem dX6_add_38 : decode cX6_add 38 = .ok (.goto 4, 3) := by decide +kernel
theorem dX6_add_41 : decode cX6_add 41 = .ok (.iconst 0, 1) := by decide +kernel
theorem dX6_add_42 : decode cX6_add 42 = .ok (.iadd, 1) := by decide +kernel
theorem dX6_add_43 : decode cX6_add 43 = .ok (.putfield 7, 3) := by decide +kernel
theorem dX6_add_46 : decode cX6_add 46 = .ok (.aload_n 0, 1) := by decide +kernel
theorem dX6_add_47 : decode cX6_add 47 = .ok (.dup, 1) := by decide +kernel
theorem dX6_add_48 : decode cX6_add 48 = .ok (.getfield 13, 3) := by decide +kernel
theorem dX6_add_51 : decode cX6_add 51 = .ok (.iload_n 1, 1) := by decide +kernel
theorem dX6_add_52 : decode cX6_add 52 = .ok (.ifCond .eq 11, 3) := by decide +kernel
theorem dX6_add_55 : decode cX6_add 55 = .ok (.iload_n 2, 1) := by decide +kernel
theorem dX6_add_56 : decode cX6_add 56 = .ok (.ifCond .eq 7, 3) := by decide +kernel
theorem dX6_add_59 : decode cX6_add 59 = .ok (.iconst 1, 1) := by decide +kernel
theorem dX6_add_60 : decode cX6_add 60 = .ok (.goto 4, 3) := by decide +kernel
theorem dX6_add_63 : decode cX6_add 63 = .ok (.iconst 0, 1) := by decide +kernel
theorem dX6_add_64 : decode cX6_add 64 = .ok (.iadd, 1) := by decide +kernel
theorem dX6_add_65 : decode cX6_add 65 = .ok (.putfield 13, 3) := by decide +kernel
theorem dX6_add_68 : decode cX6_add 68 = .ok (.return_, 1) := by decide +kernel
theorem dX6_isDark_0 : decode cX6_isDark 0 = .ok (.aload_n 0, 1) := by decide +kernel
theorem dX6_isDark_1 : decode cX6_isDark 1 = .ok (.getfield 13, 3) := by decide +kernel
theorem dX6_isDark_4 : decode cX6_isDark 4 = .ok (.aload_n 0, 1) := by decide +kernel
theorem dX6_isDark_5 : decode cX6_isDark 5 = .ok (.getfield 16, 3) := by decide +kernel
theorem dX6_isDark_8 : decode cX6_isDark 8 = .ok (.imul, 1) := by decide +kernel
theorem dX6_isDark_9 : decode cX6_isDark 9 = .ok (.aload_n 0, 1) := by decide +kernel
theorem dX6_isDark_10 : decode cX6_isDark 10 = .ok (.getfield 7, 3) := by decide +kernel
theorem dX6_isDark_13 : decode cX6_isDark 13 = .ok (.aload_n 0, 1) := by decide +kernel
theorem dX6_isDark_14 : decode cX6_isDark 14 = .ok (.getfield 19, 3) := by decide +kernel
theorem dX6_isDark_17 : decode cX6_isDark 17 = .ok (.imul, 1) := by decide +kernel
theorem dX6_isDark_18 : decode cX6_isDark 18 = .ok (.isub, 1) := by decide +kernel
theorem dX6_isDark_19 : decode cX6_isDark 19 = .ok (.istore_n 1, 1) := by decide +kernel
theorem dX6_isDark_20 : decode cX6_isDark 20 = .ok (.iload_n 1, 1) := by decide +kernel
theorem dX6_isDark_21 : decode cX6_isDark 21 = .ok (.ifCond .le 29, 3) := by decide +kernel
theorem dX6_isDark_24 : decode cX6_isDark 24 = .ok (.iload_n 1, 1) := by decide +kernel
theorem dX6_isDark_25 : decode cX6_isDark 25 = .ok (.iload_n 1, 1) := by decide +kernel
theorem dX6_isDark_26 : decode cX6_isDark 26 = .ok (.imul, 1) := by decide +kernel
theorem dX6_isDark_27 : decode cX6_isDark 27 = .ok (.iconst 4, 1) := by decide +kernel
theorem dX6_isDark_28 : decode cX6_isDark 28 = .ok (.aload_n 0, 1) := by decide +kernel
theorem dX6_isDark_29 : decode cX6_isDark 29 = .ok (.getfield 7, 3) := by decide +kernel
theorem dX6_isDark_32 : decode cX6_isDark 32 = .ok (.imul, 1) := by decide +kernel
theorem dX6_isDark_33 : decode cX6_isDark 33 = .ok (.aload_n 0, 1) := by decide +kernel
theorem dX6_isDark_34 : decode cX6_isDark 34 = .ok (.getfield 16, 3) := by decide +kernel
theorem dX6_isDark_37 : decode cX6_isDark 37 = .ok (.imul, 1) := by decide +kernel
theorem dX6_isDark_38 : decode cX6_isDark 38 = .ok (.aload_n 0, 1) := by decide +kernel
theorem dX6_isDark_39 : decode cX6_isDark 39 = .ok (.getfield 19, 3) := by decide +kernel
theorem dX6_isDark_42 : decode cX6_isDark 42 = .ok (.imul, 1) := by decide +kernel
theorem dX6_isDark_43 : decode cX6_isDark 43 = .ok (.if_icmp .le 7, 3) := by decide +kernel
theorem dX6_isDark_46 : decode cX6_isDark 46 = .ok (.iconst 1, 1) := by decide +kernel
theorem dX6_isDark_47 : decode cX6_isDark 47 = .ok (.goto 4, 3) := by decide +kernel
theorem dX6_isDark_50 : decode cX6_isDark 50 = .ok (.iconst 0, 1) := by decide +kernel
theorem dX6_isDark_51 : decode cX6_isDark 51 = .ok (.ireturn, 1) := by decide +kernel
theorem dX7_init_0 : decode cX7_init 0 = .ok (.aload_n 0, 1) := by decide +kernel
theorem dX7_init_1 : decode cX7_init 1 = .ok (.invokespecial 3, 3) := by decide +kernel
theorem dX7_init_4 : decode cX7_init 4 = .ok (.aload_n 0, 1) := by decide +kernel
theorem dX7_init_5 : decode cX7_init 5 = .ok (.bipush 60, 2) := by decide +kernel
theorem dX7_init_7 : decode cX7_init 7 = .ok (.newarray .int, 2) := by decide +kernel
theorem dX7_init_9 : decode cX7_init 9 = .ok (.putfield 9, 3) := by decide +kernel
theorem dX7_init_12 : decode cX7_init 12 = .ok (.return_, 1) := by decide +kernel
theorem dX7_put_0 : decode cX7_put 0 = .ok (.aload_n 0, 1) := by decide +kernel
theorem dX7_put_1 : decode cX7_put 1 = .ok (.getfield 9, 3) := by decide +kernel
theorem dX7_put_4 : decode cX7_put 4 = .ok (.aload_n 0, 1) := by decide +kernel
theorem dX7_put_5 : decode cX7_put 5 = .ok (.getfield 15, 3) := by decide +kernel
theorem dX7_put_8 : decode cX7_put 8 = .ok (.iload_n 1, 1) := by decide +kernel
theorem dX7_put_9 : decode cX7_put 9 = .ok (.iastore, 1) := by decide +kernel
theorem dX7_put_10 : decode cX7_put 10 = .ok (.aload_n 0, 1) := by decide +kernel
theorem dX7_put_11 : decode cX7_put 11 = .ok (.dup, 1) := by decide +kernel
theorem dX7_put_12 : decode cX7_put 12 = .ok (.getfield 15, 3) := by decide +kernel
theorem dX7_put_15 : decode cX7_put 15 = .ok (.iconst 1, 1) := by decide +kernel
theorem dX7_put_16 : decode cX7_put 16 = .ok (.iadd, 1) := by decide +kernel
theorem dX7_put_17 : decode cX7_put 17 = .ok (.putfield 15, 3) := by decide +kernel
theorem dX7_put_20 : decode cX7_put 20 = .ok (.return_, 1) := by decide +kernel
theorem dX7_readInto_0 : decode cX7_readInto 0 = .ok (.aload_n 0, 1) := by decide +kernel
theorem dX7_readInto_1 : decode cX7_readInto 1 = .ok (.iconst 0, 1) := by decide +kernel
theorem dX7_readInto_2 : decode cX7_readInto 2 = .ok (.putfield 19, 3) := by decide +kernel
theorem dX7_readInto_5 : decode cX7_readInto 5 = .ok (.iconst 1, 1) := by decide +kernel
theorem dX7_readInto_6 : decode cX7_readInto 6 = .ok (.istore_n 2, 1) := by decide +kernel
theorem dX7_readInto_7 : decode cX7_readInto 7 = .ok (.iconst 0, 1) := by decide +kernel
theorem dX7_readInto_8 : decode cX7_readInto 8 = .ok (.istore_n 3, 1) := by decide +kernel
theorem dX7_readInto_9 : decode cX7_readInto 9 = .ok (.iload_n 3, 1) := by decide +kernel
theorem dX7_readInto_10 : decode cX7_readInto 10 = .ok (.bipush 60, 2) := by decide +kernel
theorem dX7_readInto_12 : decode cX7_readInto 12 = .ok (.if_icmp .ge 30, 3) := by decide +kernel
theorem dX7_readInto_15 : decode cX7_readInto 15 = .ok (.iload_n 2, 1) := by decide +kernel
theorem dX7_readInto_16 : decode cX7_readInto 16 = .ok (.ifCond .eq 26, 3) := by decide +kernel
theorem dX7_readInto_19 : decode cX7_readInto 19 = .ok (.aload_n 0, 1) := by decide +kernel
theorem dX7_readInto_20 : decode cX7_readInto 20 = .ok (.getfield 19, 3) := by decide +kernel
theorem dX7_readInto_23 : decode cX7_readInto 23 = .ok (.aload_n 0, 1) := by decide +kernel
theorem dX7_readInto_24 : decode cX7_readInto 24 = .ok (.getfield 15, 3) := by decide +kernel
theorem dX7_readInto_27 : decode cX7_readInto 27 = .ok (.if_icmp .ge 15, 3) := by decide +kernel
theorem dX7_readInto_30 : decode cX7_readInto 30 = .ok (.aload_n 0, 1) := by decide +kernel
theorem dX7_readInto_31 : decode cX7_readInto 31 = .ok (.aload_n 1, 1) := by decide +kernel
theorem dX7_readInto_32 : decode cX7_readInto 32 = .ok (.invokevirtual 22, 3) := by decide +kernel
theorem dX7_readInto_35 : decode cX7_readInto 35 = .ok (.istore_n 2, 1) := by decide +kernel
theorem dX7_readInto_36 : decode cX7_readInto 36 = .ok (.iinc 3 1, 3) := by decide +kernel
theorem dX7_readInto_39 : decode cX7_readInto 39 = .ok (.goto (-30), 3) := by decide +kernel
theorem dX7_readInto_42 : decode cX7_readInto 42 = .ok (.iload_n 2, 1) := by decide +kernel
theorem dX7_readInto_43 : decode cX7_readInto 43 = .ok (.ireturn, 1) := by decide +kernel
theorem dX7_readRow_0 : decode cX7_readRow 0 = .ok (.aload_n 0, 1) := by decide +kernel
theorem dX7_readRow_1 : decode cX7_readRow 1 = .ok (.bipush 103, 2) := by decide +kernel
theorem dX7_readRow_3 : decode cX7_readRow 3 = .ok (.invokevirtual 26, 3) := by decide +kernel
theorem dX7_readRow_6 : decode cX7_readRow 6 = .ok (.ifCond .eq 9, 3) := by decide +kernel
theorem dX7_readRow_9 : decode cX7_readRow 9 = .ok (.aload_n 0, 1) := by decide +kernel
theorem dX7_readRow_10 : decode cX7_readRow 10 = .ok (.aload_n 1, 1) := by decide +kernel
theorem dX7_readRow_11 : decode cX7_readRow 11 = .ok (.invokevirtual 30, 3) := by decide +kernel
theorem dX7_readRow_14 : decode cX7_readRow 14 = .ok (.ireturn, 1) := by decide +kernel
theorem dX7_readRow_15 : decode cX7_readRow 15 = .ok (.aload_n 0, 1) := by decide +kernel
theorem dX7_readRow_16 : decode cX7_readRow 16 = .ok (.bipush 119, 2) := by decide +kernel
theorem dX7_readRow_18 : decode cX7_readRow 18 = .ok (.invokevirtual 26, 3) := by decide +kernel
theorem dX7_readRow_21 : decode cX7_readRow 21 = .ok (.ifCond .eq 9, 3) := by decide +kernel
theorem dX7_readRow_24 : decode cX7_readRow 24 = .ok (.aload_n 0, 1) := by decide +kernel
theorem dX7_readRow_25 : decode cX7_readRow 25 = .ok (.aload_n 1, 1) := by decide +kernel
theorem dX7_readRow_26 : decode cX7_readRow 26 = .ok (.invokevirtual 33, 3) := by decide +kernel
theorem dX7_readRow_29 : decode cX7_readRow 29 = .ok (.ireturn, 1) := by decide +kernel
theorem dX7_readRow_30 : decode cX7_readRow 30 = .ok (.aload_n 0, 1) := by decide +kernel
theorem dX7_readRow_31 : decode cX7_readRow 31 = .ok (.bipush 108, 2) := by decide +kernel
theorem dX7_readRow_33 : decode cX7_readRow 33 = .ok (.invokevirtual 26, 3) := by decide +kernel
theorem dX7_readRow_36 : decode cX7_readRow 36 = .ok (.ifCond .eq 15, 3) := by decide +kernel
theorem dX7_readRow_39 : decode cX7_readRow 39 = .ok (.aload_n 0, 1) := by decide +kernel
theorem dX7_readRow_40 : decode cX7_readRow 40 = .ok (.aload_n 1, 1) := by decide +kernel
theorem dX7_readRow_41 : decode cX7_readRow 41 = .ok (.invokevirtual 36, 3) := by decide +kernel
theorem dX7_readRow_44 : decode cX7_readRow 44 = .ok (.ifCond .eq 7, 3) := by decide +kernel
theorem dX7_readRow_47 : decode cX7_readRow 47 = .ok (.iconst 1, 1) := by decide +kernel
theorem dX7_readRow_48 : decode cX7_readRow 48 = .ok (.goto 4, 3) := by decide +kernel
theorem dX7_readRow_51 : decode cX7_readRow 51 = .ok (.iconst 0, 1) := by decide +kernel
theorem dX7_readRow_52 : decode cX7_readRow 52 = .ok (.ireturn, 1) := by decide +kernel
theorem dX7_readGrave_0 : decode cX7_readGrave 0 = .ok (.aload_n 0, 1) := by decide +kernel
theorem dX7_readGrave_1 : decode cX7_readGrave 1 = .ok (.invokevirtual 39, 3) := by decide +kernel
theorem dX7_readGrave_4 : decode cX7_readGrave 4 = .ok (.istore_n 2, 1) := by decide +kernel
theorem dX7_readGrave_5 : decode cX7_readGrave 5 = .ok (.iload_n 2, 1) := by decide +kernel
theorem dX7_readGrave_6 : decode cX7_readGrave 6 = .ok (.ifCond .ge 7, 3) := by decide +kernel
theorem dX7_readGrave_9 : decode cX7_readGrave 9 = .ok (.iconst (-1), 1) := by decide +kernel
theorem dX7_readGrave_10 : decode cX7_readGrave 10 = .ok (.goto 7, 3) := by decide +kernel
theorem dX7_readGrave_13 : decode cX7_readGrave 13 = .ok (.aload_n 0, 1) := by decide +kernel
theorem dX7_readGrave_14 : decode cX7_readGrave 14 = .ok (.invokevirtual 43, 3) := by decide +kernel
theorem dX7_readGrave_17 : decode cX7_readGrave 17 = .ok (.istore_n 3, 1) := by decide +kernel
theorem dX7_readGrave_18 : decode cX7_readGrave 18 = .ok (.iload_n 3, 1) := by decide +kernel
theorem dX7_readGrave_19 : decode cX7_readGrave 19 = .ok (.ifCond .lt 12, 3) := by decide +kernel
theorem dX7_readGrave_22 : decode cX7_readGrave 22 = .ok (.aload_n 0, 1) := by decide +kernel
theorem dX7_readGrave_23 : decode cX7_readGrave 23 = .ok (.bipush 59, 2) := by decide +kernel
theorem dX7_readGrave_25 : decode cX7_readGrave 25 = .ok (.invokevirtual 26, 3) := by decide +kernel
theorem dX7_readGrave_28 : decode cX7_readGrave 28 = .ok (.ifCond .ne 5, 3) := by decide +kernel
theorem dX7_readGrave_31 : decode cX7_readGrave 31 = .ok (.iconst 0, 1) := by decide +kernel
theorem dX7_readGrave_32 : decode cX7_readGrave 32 = .ok (.ireturn, 1) := by decide +kernel
theorem dX7_readGrave_33 : decode cX7_readGrave 33 = .ok (.aload_n 1, 1) := by decide +kernel
theorem dX7_readGrave_34 : decode cX7_readGrave 34 = .ok (.iload_n 2, 1) := by decide +kernel
theorem dX7_readGrave_35 : decode cX7_readGrave 35 = .ok (.iload_n 3, 1) := by decide +kernel
theorem dX7_readGrave_36 : decode cX7_readGrave 36 = .ok (.invokevirtual 46, 3) := by decide +kernel
theorem dX7_readGrave_39 : decode cX7_readGrave 39 = .ok (.iconst 1, 1) := by decide +kernel
theorem dX7_readGrave_40 : decode cX7_readGrave 40 = .ok (.ireturn, 1) := by decide +kernel
theorem dX7_readWeight_0 : decode cX7_readWeight 0 = .ok (.aload_n 0, 1) := by decide +kernel
theorem dX7_readWeight_1 : decode cX7_readWeight 1 = .ok (.invokevirtual 39, 3) := by decide +kernel
theorem dX7_readWeight_4 : decode cX7_readWeight 4 = .ok (.istore_n 2, 1) := by decide +kernel
theorem dX7_readWeight_5 : decode cX7_readWeight 5 = .ok (.iload_n 2, 1) := by decide +kernel
theorem dX7_readWeight_6 : decode cX7_readWeight 6 = .ok (.ifCond .ge 7, 3) := by decide +kernel
theorem dX7_readWeight_9 : decode cX7_readWeight 9 = .ok (.iconst (-1), 1) := by decide +kernel
theorem dX7_readWeight_10 : decode cX7_readWeight 10 = .ok (.goto 7, 3) := by decide +kernel
theorem dX7_readWeight_13 : decode cX7_readWeight 13 = .ok (.aload_n 0, 1) := by decide +kernel
theorem dX7_readWeight_14 : decode cX7_readWeight 14 = .ok (.invokevirtual 39, 3) := by decide +kernel
theorem dX7_readWeight_17 : decode cX7_readWeight 17 = .ok (.istore_n 3, 1) := by decide +kernel
theorem dX7_readWeight_18 : decode cX7_readWeight 18 = .ok (.iload_n 3, 1) := by decide +kernel
theorem dX7_readWeight_19 : decode cX7_readWeight 19 = .ok (.ifCond .lt 12, 3) := by decide +kernel
theorem dX7_readWeight_22 : decode cX7_readWeight 22 = .ok (.aload_n 0, 1) := by decide +kernel
theorem dX7_readWeight_23 : decode cX7_readWeight 23 = .ok (.bipush 59, 2) := by decide +kernel
theorem dX7_readWeight_25 : decode cX7_readWeight 25 = .ok (.invokevirtual 26, 3) := by decide +kernel
theorem dX7_readWeight_28 : decode cX7_readWeight 28 = .ok (.ifCond .ne 5, 3) := by decide +kernel
theorem dX7_readWeight_31 : decode cX7_readWeight 31 = .ok (.iconst 0, 1) := by decide +kernel
theorem dX7_readWeight_32 : decode cX7_readWeight 32 = .ok (.ireturn, 1) := by decide +kernel
theorem dX7_readWeight_33 : decode cX7_readWeight 33 = .ok (.aload_n 1, 1) := by decide +kernel
theorem dX7_readWeight_34 : decode cX7_readWeight 34 = .ok (.getfield 52, 3) := by decide +kernel
theorem dX7_readWeight_37 : decode cX7_readWeight 37 = .ok (.iload_n 2, 1) := by decide +kernel
theorem dX7_readWeight_38 : decode cX7_readWeight 38 = .ok (.iload_n 3, 1) := by decide +kernel
theorem dX7_readWeight_39 : decode cX7_readWeight 39 = .ok (.iastore, 1) := by decide +kernel
theorem dX7_readWeight_40 : decode cX7_readWeight 40 = .ok (.iconst 1, 1) := by decide +kernel
theorem dX7_readWeight_41 : decode cX7_readWeight 41 = .ok (.ireturn, 1) := by decide +kernel
theorem dX7_readLimit_0 : decode cX7_readLimit 0 = .ok (.aload_n 0, 1) := by decide +kernel
theorem dX7_readLimit_1 : decode cX7_readLimit 1 = .ok (.invokevirtual 39, 3) := by decide +kernel
theorem dX7_readLimit_4 : decode cX7_readLimit 4 = .ok (.istore_n 2, 1) := by decide +kernel
theorem dX7_readLimit_5 : decode cX7_readLimit 5 = .ok (.iload_n 2, 1) := by decide +kernel
theorem dX7_readLimit_6 : decode cX7_readLimit 6 = .ok (.ifCond .ge 5, 3) := by decide +kernel
theorem dX7_readLimit_9 : decode cX7_readLimit 9 = .ok (.iconst 0, 1) := by decide +kernel
theorem dX7_readLimit_10 : decode cX7_readLimit 10 = .ok (.ireturn, 1) := by decide +kernel
theorem dX7_readLimit_11 : decode cX7_readLimit 11 = .ok (.aload_n 0, 1) := by decide +kernel
theorem dX7_readLimit_12 : decode cX7_readLimit 12 = .ok (.invokevirtual 39, 3) := by decide +kernel
theorem dX7_readLimit_15 : decode cX7_readLimit 15 = .ok (.istore_n 3, 1) := by decide +kernel
theorem dX7_readLimit_16 : decode cX7_readLimit 16 = .ok (.iload_n 3, 1) := by decide +kernel
theorem dX7_readLimit_17 : decode cX7_readLimit 17 = .ok (.ifCond .lt 10, 3) := by decide +kernel
theorem dX7_readLimit_20 : decode cX7_readLimit 20 = .ok (.bipush 10, 2) := by decide +kernel
theorem dX7_readLimit_22 : decode cX7_readLimit 22 = .ok (.iload_n 2, 1) := by decide +kernel
theorem dX7_readLimit_23 : decode cX7_readLimit 23 = .ok (.imul, 1) := by decide +kernel
theorem dX7_readLimit_24 : decode cX7_readLimit 24 = .ok (.iload_n 3, 1) := by decide +kernel
theorem dX7_readLimit_25 : decode cX7_readLimit 25 = .ok (.iadd, 1) := by decide +kernel
theorem dX7_readLimit_26 : decode cX7_readLimit 26 = .ok (.istore_n 2, 1) := by decide +kernel
theorem dX7_readLimit_27 : decode cX7_readLimit 27 = .ok (.aload_n 0, 1) := by decide +kernel
theorem dX7_readLimit_28 : decode cX7_readLimit 28 = .ok (.bipush 59, 2) := by decide +kernel
theorem dX7_readLimit_30 : decode cX7_readLimit 30 = .ok (.invokevirtual 26, 3) := by decide +kernel
theorem dX7_readLimit_33 : decode cX7_readLimit 33 = .ok (.ifCond .ne 5, 3) := by decide +kernel
theorem dX7_readLimit_36 : decode cX7_readLimit 36 = .ok (.iconst 0, 1) := by decide +kernel
theorem dX7_readLimit_37 : decode cX7_readLimit 37 = .ok (.ireturn, 1) := by decide +kernel
theorem dX7_readLimit_38 : decode cX7_readLimit 38 = .ok (.aload_n 1, 1) := by decide +kernel
theorem dX7_readLimit_39 : decode cX7_readLimit 39 = .ok (.iload_n 2, 1) := by decide +kernel
theorem dX7_readLimit_40 : decode cX7_readLimit 40 = .ok (.putfield 55, 3) := by decide +kernel
theorem dX7_readLimit_43 : decode cX7_readLimit 43 = .ok (.iconst 1, 1) := by decide +kernel
theorem dX7_readLimit_44 : decode cX7_readLimit 44 = .ok (.ireturn, 1) := by decide +kernel
theorem dX7_take_0 : decode cX7_take 0 = .ok (.aload_n 0, 1) := by decide +kernel
theorem dX7_take_1 : decode cX7_take 1 = .ok (.getfield 19, 3) := by decide +kernel
theorem dX7_take_4 : decode cX7_take 4 = .ok (.aload_n 0, 1) := by decide +kernel
theorem dX7_take_5 : decode cX7_take 5 = .ok (.getfield 15, 3) := by decide +kernel
theorem dX7_take_8 : decode cX7_take 8 = .ok (.if_icmp .ge 16, 3) := by decide +kernel
theorem dX7_take_11 : decode cX7_take 11 = .ok (.aload_n 0, 1) := by decide +kernel
theorem dX7_take_12 : decode cX7_take 12 = .ok (.getfield 9, 3) := by decide +kernel
theorem dX7_take_15 : decode cX7_take 15 = .ok (.aload_n 0, 1) := by decide +kernel
theorem dX7_take_16 : decode cX7_take 16 = .ok (.getfield 19, 3) := by decide +kernel
theorem dX7_take_19 : decode cX7_take 19 = .ok (.iaload, 1) := by decide +kernel
theorem dX7_take_20 : decode cX7_take 20 = .ok (.iload_n 1, 1) := by decide +kernel
theorem dX7_take_21 : decode cX7_take 21 = .ok (.if_icmp .eq 5, 3) := by decide +kernel
theorem dX7_take_24 : decode cX7_take 24 = .ok (.iconst 0, 1) := by decide +kernel
theorem dX7_take_25 : decode cX7_take 25 = .ok (.ireturn, 1) := by decide +kernel
theorem dX7_take_26 : decode cX7_take 26 = .ok (.aload_n 0, 1) := by decide +kernel
theorem dX7_take_27 : decode cX7_take 27 = .ok (.dup, 1) := by decide +kernel
theorem dX7_take_28 : decode cX7_take 28 = .ok (.getfield 19, 3) := by decide +kernel
theorem dX7_take_31 : decode cX7_take 31 = .ok (.iconst 1, 1) := by decide +kernel
theorem dX7_take_32 : decode cX7_take 32 = .ok (.iadd, 1) := by decide +kernel
theorem dX7_take_33 : decode cX7_take 33 = .ok (.putfield 19, 3) := by decide +kernel
theorem dX7_take_36 : decode cX7_take 36 = .ok (.iconst 1, 1) := by decide +kernel
theorem dX7_take_37 : decode cX7_take 37 = .ok (.ireturn, 1) := by decide +kernel
theorem dX7_takeDigit_0 : decode cX7_takeDigit 0 = .ok (.aload_n 0, 1) := by decide +kernel
theorem dX7_takeDigit_1 : decode cX7_takeDigit 1 = .ok (.getfield 19, 3) := by decide +kernel
theorem dX7_takeDigit_4 : decode cX7_takeDigit 4 = .ok (.aload_n 0, 1) := by decide +kernel
theorem dX7_takeDigit_5 : decode cX7_takeDigit 5 = .ok (.getfield 15, 3) := by decide +kernel
theorem dX7_takeDigit_8 : decode cX7_takeDigit 8 = .ok (.if_icmp .ge 31, 3) := by decide +kernel
theorem dX7_takeDigit_11 : decode cX7_takeDigit 11 = .ok (.aload_n 0, 1) := by decide +kernel
theorem dX7_takeDigit_12 : decode cX7_takeDigit 12 = .ok (.getfield 9, 3) := by decide +kernel
theorem dX7_takeDigit_15 : decode cX7_takeDigit 15 = .ok (.aload_n 0, 1) := by decide +kernel
theorem dX7_takeDigit_16 : decode cX7_takeDigit 16 = .ok (.getfield 19, 3) := by decide +kernel
theorem dX7_takeDigit_19 : decode cX7_takeDigit 19 = .ok (.iaload, 1) := by decide +kernel
theorem dX7_takeDigit_20 : decode cX7_takeDigit 20 = .ok (.bipush 48, 2) := by decide +kernel
theorem dX7_takeDigit_22 : decode cX7_takeDigit 22 = .ok (.if_icmp .lt 17, 3) := by decide +kernel
theorem dX7_takeDigit_25 : decode cX7_takeDigit 25 = .ok (.aload_n 0, 1) := by decide +kernel
theorem dX7_takeDigit_26 : decode cX7_takeDigit 26 = .ok (.getfield 9, 3) := by decide +kernel
theorem dX7_takeDigit_29 : decode cX7_takeDigit 29 = .ok (.aload_n 0, 1) := by decide +kernel
theorem dX7_takeDigit_30 : decode cX7_takeDigit 30 = .ok (.getfield 19, 3) := by decide +kernel
theorem dX7_takeDigit_33 : decode cX7_takeDigit 33 = .ok (.iaload, 1) := by decide +kernel
theorem dX7_takeDigit_34 : decode cX7_takeDigit 34 = .ok (.bipush 57, 2) := by decide +kernel
theorem dX7_takeDigit_36 : decode cX7_takeDigit 36 = .ok (.if_icmp .le 5, 3) := by decide +kernel
theorem dX7_takeDigit_39 : decode cX7_takeDigit 39 = .ok (.iconst (-1), 1) := by decide +kernel
theorem dX7_takeDigit_40 : decode cX7_takeDigit 40 = .ok (.ireturn, 1) := by decide +kernel
theorem dX7_takeDigit_41 : decode cX7_takeDigit 41 = .ok (.aload_n 0, 1) := by decide +kernel
theorem dX7_takeDigit_42 : decode cX7_takeDigit 42 = .ok (.dup, 1) := by decide +kernel
theorem dX7_takeDigit_43 : decode cX7_takeDigit 43 = .ok (.getfield 19, 3) := by decide +kernel
theorem dX7_takeDigit_46 : decode cX7_takeDigit 46 = .ok (.iconst 1, 1) := by decide +kernel
theorem dX7_takeDigit_47 : decode cX7_takeDigit 47 = .ok (.iadd, 1) := by decide +kernel
theorem dX7_takeDigit_48 : decode cX7_takeDigit 48 = .ok (.putfield 19, 3) := by decide +kernel
theorem dX7_takeDigit_51 : decode cX7_takeDigit 51 = .ok (.aload_n 0, 1) := by decide +kernel
theorem dX7_takeDigit_52 : decode cX7_takeDigit 52 = .ok (.getfield 9, 3) := by decide +kernel
theorem dX7_takeDigit_55 : decode cX7_takeDigit 55 = .ok (.aload_n 0, 1) := by decide +kernel
theorem dX7_takeDigit_56 : decode cX7_takeDigit 56 = .ok (.getfield 19, 3) := by decide +kernel
theorem dX7_takeDigit_59 : decode cX7_takeDigit 59 = .ok (.iconst 1, 1) := by decide +kernel
theorem dX7_takeDigit_60 : decode cX7_takeDigit 60 = .ok (.isub, 1) := by decide +kernel
theorem dX7_takeDigit_61 : decode cX7_takeDigit 61 = .ok (.iaload, 1) := by decide +kernel
theorem dX7_takeDigit_62 : decode cX7_takeDigit 62 = .ok (.bipush 48, 2) := by decide +kernel
theorem dX7_takeDigit_64 : decode cX7_takeDigit 64 = .ok (.isub, 1) := by decide +kernel
theorem dX7_takeDigit_65 : decode cX7_takeDigit 65 = .ok (.ireturn, 1) := by decide +kernel
theorem dX7_takeKind_0 : decode cX7_takeKind 0 = .ok (.aload_n 0, 1) := by decide +kernel
theorem dX7_takeKind_1 : decode cX7_takeKind 1 = .ok (.bipush 115, 2) := by decide +kernel
theorem dX7_takeKind_3 : decode cX7_takeKind 3 = .ok (.invokevirtual 26, 3) := by decide +kernel
theorem dX7_takeKind_6 : decode cX7_takeKind 6 = .ok (.ifCond .eq 5, 3) := by decide +kernel
theorem dX7_takeKind_9 : decode cX7_takeKind 9 = .ok (.iconst 0, 1) := by decide +kernel
theorem dX7_takeKind_10 : decode cX7_takeKind 10 = .ok (.ireturn, 1) := by decide +kernel
theorem dX7_takeKind_11 : decode cX7_takeKind 11 = .ok (.aload_n 0, 1) := by decide +kernel
theorem dX7_takeKind_12 : decode cX7_takeKind 12 = .ok (.bipush 116, 2) := by decide +kernel
theorem dX7_takeKind_14 : decode cX7_takeKind 14 = .ok (.invokevirtual 26, 3) := by decide +kernel
theorem dX7_takeKind_17 : decode cX7_takeKind 17 = .ok (.ifCond .eq 5, 3) := by decide +kernel
theorem dX7_takeKind_20 : decode cX7_takeKind 20 = .ok (.iconst 1, 1) := by decide +kernel
theorem dX7_takeKind_21 : decode cX7_takeKind 21 = .ok (.ireturn, 1) := by decide +kernel
theorem dX7_takeKind_22 : decode cX7_takeKind 22 = .ok (.aload_n 0, 1) := by decide +kernel
theorem dX7_takeKind_23 : decode cX7_takeKind 23 = .ok (.bipush 103, 2) := by decide +kernel
theorem dX7_takeKind_25 : decode cX7_takeKind 25 = .ok (.invokevirtual 26, 3) := by decide +kernel
theorem dX7_takeKind_28 : decode cX7_takeKind 28 = .ok (.ifCond .eq 5, 3) := by decide +kernel
theorem dX7_takeKind_31 : decode cX7_takeKind 31 = .ok (.iconst 2, 1) := by decide +kernel
theorem dX7_takeKind_32 : decode cX7_takeKind 32 = .ok (.ireturn, 1) := by decide +kernel
theorem dX7_takeKind_33 : decode cX7_takeKind 33 = .ok (.aload_n 0, 1) := by decide +kernel
theorem dX7_takeKind_34 : decode cX7_takeKind 34 = .ok (.bipush 102, 2) := by decide +kernel
theorem dX7_takeKind_36 : decode cX7_takeKind 36 = .ok (.invokevirtual 26, 3) := by decide +kernel
theorem dX7_takeKind_39 : decode cX7_takeKind 39 = .ok (.ifCond .eq 7, 3) := by decide +kernel
theorem dX7_takeKind_42 : decode cX7_takeKind 42 = .ok (.iconst 3, 1) := by decide +kernel
theorem dX7_takeKind_43 : decode cX7_takeKind 43 = .ok (.goto 4, 3) := by decide +kernel
theorem dX7_takeKind_46 : decode cX7_takeKind 46 = .ok (.iconst (-1), 1) := by decide +kernel
theorem dX7_takeKind_47 : decode cX7_takeKind 47 = .ok (.ireturn, 1) := by decide +kernel
theorem dX8_init_0 : decode cX8_init 0 = .ok (.aload_n 0, 1) := by decide +kernel
theorem dX8_init_1 : decode cX8_init 1 = .ok (.invokespecial 1, 3) := by decide +kernel
theorem dX8_init_4 : decode cX8_init 4 = .ok (.aload_n 0, 1) := by decide +kernel
theorem dX8_init_5 : decode cX8_init 5 = .ok (.iload_n 1, 1) := by decide +kernel
theorem dX8_init_6 : decode cX8_init 6 = .ok (.putfield 7, 3) := by decide +kernel
theorem dX8_init_9 : decode cX8_init 9 = .ok (.aload_n 0, 1) := by decide +kernel
theorem dX8_init_10 : decode cX8_init 10 = .ok (.iload_n 2, 1) := by decide +kernel
theorem dX8_init_11 : decode cX8_init 11 = .ok (.putfield 13, 3) := by decide +kernel
theorem dX8_init_14 : decode cX8_init 14 = .ok (.aload_n 0, 1) := by decide +kernel
theorem dX8_init_15 : decode cX8_init 15 = .ok (.aload_n 3, 1) := by decide +kernel
theorem dX8_init_16 : decode cX8_init 16 = .ok (.putfield 16, 3) := by decide +kernel
theorem dX8_init_19 : decode cX8_init 19 = .ok (.return_, 1) := by decide +kernel
theorem dX9_init_0 : decode cX9_init 0 = .ok (.aload_n 0, 1) := by decide +kernel
theorem dX9_init_1 : decode cX9_init 1 = .ok (.invokespecial 3, 3) := by decide +kernel
theorem dX9_init_4 : decode cX9_init 4 = .ok (.aload_n 0, 1) := by decide +kernel
theorem dX9_init_5 : decode cX9_init 5 = .ok (.bipush 10, 2) := by decide +kernel
theorem dX9_init_7 : decode cX9_init 7 = .ok (.newarray .int, 2) := by decide +kernel
theorem dX9_init_9 : decode cX9_init 9 = .ok (.dup, 1) := by decide +kernel
theorem dX9_init_10 : decode cX9_init 10 = .ok (.iconst 0, 1) := by decide +kernel
theorem dX9_init_11 : decode cX9_init 11 = .ok (.iconst 1, 1) := by decide +kernel
theorem dX9_init_12 : decode cX9_init 12 = .ok (.iastore, 1) := by decide +kernel
theorem dX9_init_13 : decode cX9_init 13 = .ok (.dup, 1) := by decide +kernel
theorem dX9_init_14 : decode cX9_init 14 = .ok (.iconst 1, 1) := by decide +kernel
theorem dX9_init_15 : decode cX9_init 15 = .ok (.iconst 1, 1) := by decide +kernel
theorem dX9_init_16 : decode cX9_init 16 = .ok (.iastore, 1) := by decide +kernel
theorem dX9_init_17 : decode cX9_init 17 = .ok (.dup, 1) := by decide +kernel
theorem dX9_init_18 : decode cX9_init 18 = .ok (.iconst 2, 1) := by decide +kernel
theorem dX9_init_19 : decode cX9_init 19 = .ok (.iconst 1, 1) := by decide +kernel
theorem dX9_init_20 : decode cX9_init 20 = .ok (.iastore, 1) := by decide +kernel
theorem dX9_init_21 : decode cX9_init 21 = .ok (.dup, 1) := by decide +kernel
theorem dX9_init_22 : decode cX9_init 22 = .ok (.iconst 3, 1) := by decide +kernel
theorem dX9_init_23 : decode cX9_init 23 = .ok (.iconst 1, 1) := by decide +kernel
theorem dX9_init_24 : decode cX9_init 24 = .ok (.iastore, 1) := by decide +kernel
theorem dX9_init_25 : decode cX9_init 25 = .ok (.dup, 1) := by decide +kernel
theorem dX9_init_26 : decode cX9_init 26 = .ok (.iconst 4, 1) := by decide +kernel
theorem dX9_init_27 : decode cX9_init 27 = .ok (.iconst 1, 1) := by decide +kernel
theorem dX9_init_28 : decode cX9_init 28 = .ok (.iastore, 1) := by decide +kernel
theorem dX9_init_29 : decode cX9_init 29 = .ok (.dup, 1) := by decide +kernel
theorem dX9_init_30 : decode cX9_init 30 = .ok (.iconst 5, 1) := by decide +kernel
theorem dX9_init_31 : decode cX9_init 31 = .ok (.iconst 1, 1) := by decide +kernel
theorem dX9_init_32 : decode cX9_init 32 = .ok (.iastore, 1) := by decide +kernel
theorem dX9_init_33 : decode cX9_init 33 = .ok (.dup, 1) := by decide +kernel
theorem dX9_init_34 : decode cX9_init 34 = .ok (.bipush 6, 2) := by decide +kernel
theorem dX9_init_36 : decode cX9_init 36 = .ok (.iconst 1, 1) := by decide +kernel
theorem dX9_init_37 : decode cX9_init 37 = .ok (.iastore, 1) := by decide +kernel
theorem dX9_init_38 : decode cX9_init 38 = .ok (.dup, 1) := by decide +kernel
theorem dX9_init_39 : decode cX9_init 39 = .ok (.bipush 7, 2) := by decide +kernel
theorem dX9_init_41 : decode cX9_init 41 = .ok (.iconst 1, 1) := by decide +kernel
theorem dX9_init_42 : decode cX9_init 42 = .ok (.iastore, 1) := by decide +kernel
theorem dX9_init_43 : decode cX9_init 43 = .ok (.dup, 1) := by decide +kernel
theorem dX9_init_44 : decode cX9_init 44 = .ok (.bipush 8, 2) := by decide +kernel
theorem dX9_init_46 : decode cX9_init 46 = .ok (.iconst 1, 1) := by decide +kernel
theorem dX9_init_47 : decode cX9_init 47 = .ok (.iastore, 1) := by decide +kernel
theorem dX9_init_48 : decode cX9_init 48 = .ok (.dup, 1) := by decide +kernel
theorem dX9_init_49 : decode cX9_init 49 = .ok (.bipush 9, 2) := by decide +kernel
theorem dX9_init_51 : decode cX9_init 51 = .ok (.iconst 1, 1) := by decide +kernel
theorem dX9_init_52 : decode cX9_init 52 = .ok (.iastore, 1) := by decide +kernel
theorem dX9_init_53 : decode cX9_init 53 = .ok (.putfield 9, 3) := by decide +kernel
theorem dX9_init_56 : decode cX9_init 56 = .ok (.aload_n 0, 1) := by decide +kernel
theorem dX9_init_57 : decode cX9_init 57 = .ok (.iconst 4, 1) := by decide +kernel
theorem dX9_init_58 : decode cX9_init 58 = .ok (.newarray .int, 2) := by decide +kernel
theorem dX9_init_60 : decode cX9_init 60 = .ok (.putfield 15, 3) := by decide +kernel
theorem dX9_init_63 : decode cX9_init 63 = .ok (.aload_n 0, 1) := by decide +kernel
theorem dX9_init_64 : decode cX9_init 64 = .ok (.bipush 99, 2) := by decide +kernel
theorem dX9_init_66 : decode cX9_init 66 = .ok (.putfield 18, 3) := by decide +kernel
theorem dX9_init_69 : decode cX9_init 69 = .ok (.aload_n 0, 1) := by decide +kernel
theorem dX9_init_70 : decode cX9_init 70 = .ok (.iload_n 1, 1) := by decide +kernel
theorem dX9_init_71 : decode cX9_init 71 = .ok (.putfield 22, 3) := by decide +kernel
theorem dX9_init_74 : decode cX9_init 74 = .ok (.return_, 1) := by decide +kernel
theorem dX9_addGrave_0 : decode cX9_addGrave 0 = .ok (.iconst 0, 1) := by decide +kernel
theorem dX9_addGrave_1 : decode cX9_addGrave 1 = .ok (.istore_n 3, 1) := by decide +kernel
theorem dX9_addGrave_2 : decode cX9_addGrave 2 = .ok (.iload_n 3, 1) := by decide +kernel
theorem dX9_addGrave_3 : decode cX9_addGrave 3 = .ok (.iconst 4, 1) := by decide +kernel
theorem dX9_addGrave_4 : decode cX9_addGrave 4 = .ok (.if_icmp .ge 29, 3) := by decide +kernel
theorem dX9_addGrave_7 : decode cX9_addGrave 7 = .ok (.iload_n 3, 1) := by decide +kernel
theorem dX9_addGrave_8 : decode cX9_addGrave 8 = .ok (.iload_n 2, 1) := by decide +kernel
theorem dX9_addGrave_9 : decode cX9_addGrave 9 = .ok (.invokestatic 25, 3) := by decide +kernel
theorem dX9_addGrave_12 : decode cX9_addGrave 12 = .ok (.ifCond .eq 15, 3) := by decide +kernel
theorem dX9_addGrave_15 : decode cX9_addGrave 15 = .ok (.aload_n 0, 1) := by decide +kernel
theorem dX9_addGrave_16 : decode cX9_addGrave 16 = .ok (.getfield 15, 3) := by decide +kernel
theorem dX9_addGrave_19 : decode cX9_addGrave 19 = .ok (.iload_n 3, 1) := by decide +kernel
theorem dX9_addGrave_20 : decode cX9_addGrave 20 = .ok (.dup2, 1) := by decide +kernel
theorem dX9_addGrave_21 : decode cX9_addGrave 21 = .ok (.iaload, 1) := by decide +kernel
theorem dX9_addGrave_22 : decode cX9_addGrave 22 = .ok (.iconst 1, 1) := by decide +kernel
theorem dX9_addGrave_23 : decode cX9_addGrave 23 = .ok (.iload_n 1, 1) := by decide +kernel
theorem dX9_addGrave_24 : decode cX9_addGrave 24 = .ok (.ishl, 1) := by decide +kernel
theorem dX9_addGrave_25 : decode cX9_addGrave 25 = .ok (.ior, 1) := by decide +kernel
theorem dX9_addGrave_26 : decode cX9_addGrave 26 = .ok (.iastore, 1) := by decide +kernel
theorem dX9_addGrave_27 : decode cX9_addGrave 27 = .ok (.iinc 3 1, 3) := by decide +kernel
theorem dX9_addGrave_30 : decode cX9_addGrave 30 = .ok (.goto (-28), 3) := by decide +kernel
theorem dX9_addGrave_33 : decode cX9_addGrave 33 = .ok (.return_, 1) := by decide +kernel
theorem dX9_holdsFor_0 : decode cX9_holdsFor 0 = .ok (.iconst 0, 1) := by decide +kernel
theorem dX9_holdsFor_1 : decode cX9_holdsFor 1 = .ok (.istore_n 3, 1) := by decide +kernel
theorem dX9_holdsFor_2 : decode cX9_holdsFor 2 = .ok (.iconst 0, 1) := by decide +kernel
theorem dX9_holdsFor_3 : decode cX9_holdsFor 3 = .ok (.istore 4, 2) := by decide +kernel
theorem dX9_holdsFor_5 : decode cX9_holdsFor 5 = .ok (.iload 4, 2) := by decide +kernel
theorem dX9_holdsFor_7 : decode cX9_holdsFor 7 = .ok (.bipush 10, 2) := by decide +kernel
theorem dX9_holdsFor_9 : decode cX9_holdsFor 9 = .ok (.if_icmp .ge 26, 3) := by decide +kernel
theorem dX9_holdsFor_12 : decode cX9_holdsFor 12 = .ok (.iload_n 3, 1) := by decide +kernel
theorem dX9_holdsFor_13 : decode cX9_holdsFor 13 = .ok (.iload_n 2, 1) := by decide +kernel
theorem dX9_holdsFor_14 : decode cX9_holdsFor 14 = .ok (.iload 4, 2) := by decide +kernel
theorem dX9_holdsFor_16 : decode cX9_holdsFor 16 = .ok (.ishr, 1) := by decide +kernel
theorem dX9_holdsFor_17 : decode cX9_holdsFor 17 = .ok (.iconst 1, 1) := by decide +kernel
theorem dX9_holdsFor_18 : decode cX9_holdsFor 18 = .ok (.iand, 1) := by decide +kernel
theorem dX9_holdsFor_19 : decode cX9_holdsFor 19 = .ok (.aload_n 0, 1) := by decide +kernel
theorem dX9_holdsFor_20 : decode cX9_holdsFor 20 = .ok (.getfield 9, 3) := by decide +kernel
theorem dX9_holdsFor_23 : decode cX9_holdsFor 23 = .ok (.iload 4, 2) := by decide +kernel
theorem dX9_holdsFor_25 : decode cX9_holdsFor 25 = .ok (.iaload, 1) := by decide +kernel
theorem dX9_holdsFor_26 : decode cX9_holdsFor 26 = .ok (.imul, 1) := by decide +kernel
theorem dX9_holdsFor_27 : decode cX9_holdsFor 27 = .ok (.iadd, 1) := by decide +kernel
theorem dX9_holdsFor_28 : decode cX9_holdsFor 28 = .ok (.istore_n 3, 1) := by decide +kernel
theorem dX9_holdsFor_29 : decode cX9_holdsFor 29 = .ok (.iinc 4 1, 3) := by decide +kernel
theorem dX9_holdsFor_32 : decode cX9_holdsFor 32 = .ok (.goto (-27), 3) := by decide +kernel
theorem dX9_holdsFor_35 : decode cX9_holdsFor 35 = .ok (.aload_n 0, 1) := by decide +kernel
theorem dX9_holdsFor_36 : decode cX9_holdsFor 36 = .ok (.getfield 15, 3) := by decide +kernel
theorem dX9_holdsFor_39 : decode cX9_holdsFor 39 = .ok (.iload_n 1, 1) := by decide +kernel
theorem dX9_holdsFor_40 : decode cX9_holdsFor 40 = .ok (.iaload, 1) := by decide +kernel
theorem dX9_holdsFor_41 : decode cX9_holdsFor 41 = .ok (.iload_n 2, 1) := by decide +kernel
theorem dX9_holdsFor_42 : decode cX9_holdsFor 42 = .ok (.iand, 1) := by decide +kernel
theorem dX9_holdsFor_43 : decode cX9_holdsFor 43 = .ok (.ifCond .ne 11, 3) := by decide +kernel
theorem dX9_holdsFor_46 : decode cX9_holdsFor 46 = .ok (.iload_n 3, 1) := by decide +kernel
theorem dX9_holdsFor_47 : decode cX9_holdsFor 47 = .ok (.aload_n 0, 1) := by decide +kernel
theorem dX9_holdsFor_48 : decode cX9_holdsFor 48 = .ok (.getfield 18, 3) := by decide +kernel
theorem dX9_holdsFor_51 : decode cX9_holdsFor 51 = .ok (.if_icmp .lt 7, 3) := by decide +kernel
theorem dX9_holdsFor_54 : decode cX9_holdsFor 54 = .ok (.iconst 1, 1) := by decide +kernel
theorem dX9_holdsFor_55 : decode cX9_holdsFor 55 = .ok (.goto 4, 3) := by decide +kernel
theorem dX9_holdsFor_58 : decode cX9_holdsFor 58 = .ok (.iconst 0, 1) := by decide +kernel
theorem dX9_holdsFor_59 : decode cX9_holdsFor 59 = .ok (.ireturn, 1) := by decide +kernel
theorem dX10_init_0 : decode cX10_init 0 = .ok (.aload_n 0, 1) := by decide +kernel
theorem dX10_init_1 : decode cX10_init 1 = .ok (.invokespecial 3, 3) := by decide +kernel
theorem dX10_init_4 : decode cX10_init 4 = .ok (.aload_n 0, 1) := by decide +kernel
theorem dX10_init_5 : decode cX10_init 5 = .ok (.bipush 16, 2) := by decide +kernel
theorem dX10_init_7 : decode cX10_init 7 = .ok (.anewarray 9, 3) := by decide +kernel
theorem dX10_init_10 : decode cX10_init 10 = .ok (.putfield 11, 3) := by decide +kernel
theorem dX10_init_13 : decode cX10_init 13 = .ok (.aload_n 0, 1) := by decide +kernel
theorem dX10_init_14 : decode cX10_init 14 = .ok (.new 15, 3) := by decide +kernel
theorem dX10_init_17 : decode cX10_init 17 = .ok (.dup, 1) := by decide +kernel
theorem dX10_init_18 : decode cX10_init 18 = .ok (.invokespecial 17, 3) := by decide +kernel
theorem dX10_init_21 : decode cX10_init 21 = .ok (.putfield 18, 3) := by decide +kernel
theorem dX10_init_24 : decode cX10_init 24 = .ok (.aload_n 0, 1) := by decide +kernel
theorem dX10_init_25 : decode cX10_init 25 = .ok (.bipush 50, 2) := by decide +kernel
theorem dX10_init_27 : decode cX10_init 27 = .ok (.anewarray 22, 3) := by decide +kernel
theorem dX10_init_30 : decode cX10_init 30 = .ok (.putfield 24, 3) := by decide +kernel
theorem dX10_init_33 : decode cX10_init 33 = .ok (.aload_n 0, 1) := by decide +kernel
theorem dX10_init_34 : decode cX10_init 34 = .ok (.bipush 60, 2) := by decide +kernel
theorem dX10_init_36 : decode cX10_init 36 = .ok (.anewarray 28, 3) := by decide +kernel
theorem dX10_init_39 : decode cX10_init 39 = .ok (.putfield 30, 3) := by decide +kernel
theorem dX10_init_42 : decode cX10_init 42 = .ok (.aload_n 0, 1) := by decide +kernel
theorem dX10_init_43 : decode cX10_init 43 = .ok (.bipush 6, 2) := by decide +kernel
theorem dX10_init_45 : decode cX10_init 45 = .ok (.anewarray 34, 3) := by decide +kernel
theorem dX10_init_48 : decode cX10_init 48 = .ok (.putfield 36, 3) := by decide +kernel
theorem dX10_init_51 : decode cX10_init 51 = .ok (.aload_n 0, 1) := by decide +kernel
theorem dX10_init_52 : decode cX10_init 52 = .ok (.new 40, 3) := by decide +kernel
theorem dX10_init_55 : decode cX10_init 55 = .ok (.dup, 1) := by decide +kernel
theorem dX10_init_56 : decode cX10_init 56 = .ok (.invokespecial 42, 3) := by decide +kernel
theorem dX10_init_59 : decode cX10_init 59 = .ok (.putfield 43, 3) := by decide +kernel
theorem dX10_init_62 : decode cX10_init 62 = .ok (.aload_n 0, 1) := by decide +kernel
theorem dX10_init_63 : decode cX10_init 63 = .ok (.bipush 36, 2) := by decide +kernel
theorem dX10_init_65 : decode cX10_init 65 = .ok (.putfield 47, 3) := by decide +kernel
theorem dX10_init_68 : decode cX10_init 68 = .ok (.aload_n 0, 1) := by decide +kernel
theorem dX10_init_69 : decode cX10_init 69 = .ok (.bipush 16, 2) := by decide +kernel
theorem dX10_init_71 : decode cX10_init 71 = .ok (.newarray .int, 2) := by decide +kernel
theorem dX10_init_73 : decode cX10_init 73 = .ok (.putfield 51, 3) := by decide +kernel
theorem dX10_init_76 : decode cX10_init 76 = .ok (.aload_n 0, 1) := by decide +kernel
theorem dX10_init_77 : decode cX10_init 77 = .ok (.bipush 6, 2) := by decide +kernel
theorem dX10_init_79 : decode cX10_init 79 = .ok (.newarray .int, 2) := by decide +kernel
theorem dX10_init_81 : decode cX10_init 81 = .ok (.putfield 55, 3) := by decide +kernel
theorem dX10_init_84 : decode cX10_init 84 = .ok (.aload_n 0, 1) := by decide +kernel
theorem dX10_init_85 : decode cX10_init 85 = .ok (.new 58, 3) := by decide +kernel
theorem dX10_init_88 : decode cX10_init 88 = .ok (.dup, 1) := by decide +kernel
theorem dX10_init_89 : decode cX10_init 89 = .ok (.invokespecial 60, 3) := by decide +kernel
theorem dX10_init_92 : decode cX10_init 92 = .ok (.putfield 61, 3) := by decide +kernel
theorem dX10_init_95 : decode cX10_init 95 = .ok (.aload_n 0, 1) := by decide +kernel
theorem dX10_init_96 : decode cX10_init 96 = .ok (.new 65, 3) := by decide +kernel
theorem dX10_init_99 : decode cX10_init 99 = .ok (.dup, 1) := by decide +kernel
theorem dX10_init_100 : decode cX10_init 100 = .ok (.invokespecial 67, 3) := by decide +kernel
theorem dX10_init_103 : decode cX10_init 103 = .ok (.putfield 68, 3) := by decide +kernel
theorem dX10_init_106 : decode cX10_init 106 = .ok (.return_, 1) := by decide +kernel
theorem dX10_ship_0 : decode cX10_ship 0 = .ok (.iload_n 1, 1) := by decide +kernel
theorem dX10_ship_1 : decode cX10_ship 1 = .ok (.invokestatic 72, 3) := by decide +kernel
theorem dX10_ship_4 : decode cX10_ship 4 = .ok (.ifCond .eq 22, 3) := by decide +kernel
theorem dX10_ship_7 : decode cX10_ship 7 = .ok (.iload_n 2, 1) := by decide +kernel
theorem dX10_ship_8 : decode cX10_ship 8 = .ok (.invokestatic 76, 3) := by decide +kernel
theorem dX10_ship_11 : decode cX10_ship 11 = .ok (.ifCond .eq 15, 3) := by decide +kernel
theorem dX10_ship_14 : decode cX10_ship 14 = .ok (.iload_n 3, 1) := by decide +kernel
theorem dX10_ship_15 : decode cX10_ship 15 = .ok (.ifCond .lt 11, 3) := by decide +kernel
theorem dX10_ship_18 : decode cX10_ship 18 = .ok (.iload_n 3, 1) := by decide +kernel
theorem dX10_ship_19 : decode cX10_ship 19 = .ok (.aload_n 0, 1) := by decide +kernel
theorem dX10_ship_20 : decode cX10_ship 20 = .ok (.getfield 79, 3) := by decide +kernel
theorem dX10_ship_23 : decode cX10_ship 23 = .ok (.if_icmp .le 9, 3) := by decide +kernel
theorem dX10_ship_26 : decode cX10_ship 26 = .ok (.aload_n 0, 1) := by decide +kernel
theorem dX10_ship_27 : decode cX10_ship 27 = .ok (.iconst 1, 1) := by decide +kernel
theorem dX10_ship_28 : decode cX10_ship 28 = .ok (.invokevirtual 82, 3) := by decide +kernel
theorem dX10_ship_31 : decode cX10_ship 31 = .ok (.ireturn, 1) := by decide +kernel
theorem dX10_ship_32 : decode cX10_ship 32 = .ok (.aload_n 0, 1) := by decide +kernel
theorem dX10_ship_33 : decode cX10_ship 33 = .ok (.getfield 86, 3) := by decide +kernel
theorem dX10_ship_36 : decode cX10_ship 36 = .ok (.bipush 16, 2) := by decide +kernel
theorem dX10_ship_38 : decode cX10_ship 38 = .ok (.if_icmp .lt 9, 3) := by decide +kernel
theorem dX10_ship_41 : decode cX10_ship 41 = .ok (.aload_n 0, 1) := by decide +kernel
theorem dX10_ship_42 : decode cX10_ship 42 = .ok (.iconst 4, 1) := by decide +kernel
theorem dX10_ship_43 : decode cX10_ship 43 = .ok (.invokevirtual 82, 3) := by decide +kernel
theorem dX10_ship_46 : decode cX10_ship 46 = .ok (.ireturn, 1) := by decide +kernel
theorem dX10_ship_47 : decode cX10_ship 47 = .ok (.aload_n 0, 1) := by decide +kernel
theorem dX10_ship_48 : decode cX10_ship 48 = .ok (.getfield 11, 3) := by decide +kernel
theorem dX10_ship_51 : decode cX10_ship 51 = .ok (.aload_n 0, 1) := by decide +kernel
theorem dX10_ship_52 : decode cX10_ship 52 = .ok (.getfield 86, 3) := by decide +kernel
theorem dX10_ship_55 : decode cX10_ship 55 = .ok (.new 9, 3) := by decide +kernel
theorem dX10_ship_58 : decode cX10_ship 58 = .ok (.dup, 1) := by decide +kernel
theorem dX10_ship_59 : decode cX10_ship 59 = .ok (.aload_n 0, 1) := by decide +kernel
theorem dX10_ship_60 : decode cX10_ship 60 = .ok (.getfield 86, 3) := by decide +kernel
theorem dX10_ship_63 : decode cX10_ship 63 = .ok (.iload_n 1, 1) := by decide +kernel
theorem dX10_ship_64 : decode cX10_ship 64 = .ok (.iload_n 2, 1) := by decide +kernel
theorem dX10_ship_65 : decode cX10_ship 65 = .ok (.iload_n 3, 1) := by decide +kernel
theorem dX10_ship_66 : decode cX10_ship 66 = .ok (.invokespecial 89, 3) := by decide +kernel
theorem dX10_ship_69 : decode cX10_ship 69 = .ok (.aastore, 1) := by decide +kernel
theorem dX10_ship_70 : decode cX10_ship 70 = .ok (.aload_n 0, 1) := by decide +kernel
theorem dX10_ship_71 : decode cX10_ship 71 = .ok (.dup, 1) := by decide +kernel
theorem dX10_ship_72 : decode cX10_ship 72 = .ok (.getfield 86, 3) := by decide +kernel
theorem dX10_ship_75 : decode cX10_ship 75 = .ok (.iconst 1, 1) := by decide +kernel
theorem dX10_ship_76 : decode cX10_ship 76 = .ok (.iadd, 1) := by decide +kernel
theorem dX10_ship_77 : decode cX10_ship 77 = .ok (.putfield 86, 3) := by decide +kernel
theorem dX10_ship_80 : decode cX10_ship 80 = .ok (.aload_n 0, 1) := by decide +kernel
theorem dX10_ship_81 : decode cX10_ship 81 = .ok (.getfield 86, 3) := by decide +kernel
theorem dX10_ship_84 : decode cX10_ship 84 = .ok (.iconst 1, 1) := by decide +kernel
theorem dX10_ship_85 : decode cX10_ship 85 = .ok (.isub, 1) := by decide +kernel
theorem dX10_ship_86 : decode cX10_ship 86 = .ok (.ireturn, 1) := by decide +kernel
theorem dX10_as_0 : decode cX10_as 0 = .ok (.aload_n 0, 1) := by decide +kernel
theorem dX10_as_1 : decode cX10_as 1 = .ok (.iload_n 1, 1) := by decide +kernel
theorem dX10_as_2 : decode cX10_as 2 = .ok (.invokevirtual 92, 3) := by decide +kernel
theorem dX10_as_5 : decode cX10_as 5 = .ok (.astore_n 3, 1) := by decide +kernel
theorem dX10_as_6 : decode cX10_as 6 = .ok (.aload_n 3, 1) := by decide +kernel
theorem dX10_as_7 : decode cX10_as 7 = .ok (.ifnull 11, 3) := by decide +kernel
theorem dX10_as_10 : decode cX10_as 10 = .ok (.iload_n 2, 1) := by decide +kernel
theorem dX10_as_11 : decode cX10_as 11 = .ok (.iconst 4, 1) := by decide +kernel
theorem dX10_as_12 : decode cX10_as 12 = .ok (.invokestatic 96, 3) := by decide +kernel
theorem dX10_as_15 : decode cX10_as 15 = .ok (.ifCond .ne 9, 3) := by decide +kernel
theorem dX10_as_18 : decode cX10_as 18 = .ok (.aload_n 0, 1) := by decide +kernel
theorem dX10_as_19 : decode cX10_as 19 = .ok (.iconst 1, 1) := by decide +kernel
theorem dX10_as_20 : decode cX10_as 20 = .ok (.invokevirtual 82, 3) := by decide +kernel
theorem dX10_as_23 : decode cX10_as 23 = .ok (.ireturn, 1) := by decide +kernel
theorem dX10_as_24 : decode cX10_as 24 = .ok (.aload_n 3, 1) := by decide +kernel
theorem dX10_as_25 : decode cX10_as 25 = .ok (.getfield 100, 3) := by decide +kernel
theorem dX10_as_28 : decode cX10_as 28 = .ok (.iload_n 2, 1) := by decide +kernel
theorem dX10_as_29 : decode cX10_as 29 = .ok (.invokestatic 103, 3) := by decide +kernel
theorem dX10_as_32 : decode cX10_as 32 = .ok (.ifCond .ne 9, 3) := by decide +kernel
theorem dX10_as_35 : decode cX10_as 35 = .ok (.aload_n 0, 1) := by decide +kernel
theorem dX10_as_36 : decode cX10_as 36 = .ok (.iconst 5, 1) := by decide +kernel
theorem dX10_as_37 : decode cX10_as 37 = .ok (.invokevirtual 82, 3) := by decide +kernel
theorem dX10_as_40 : decode cX10_as 40 = .ok (.ireturn, 1) := by decide +kernel
theorem dX10_as_41 : decode cX10_as 41 = .ok (.getstatic 106, 3) := by decide +kernel
theorem dX10_as_44 : decode cX10_as 44 = .ok (.aload_n 3, 1) := by decide +kernel
theorem dX10_as_45 : decode cX10_as 45 = .ok (.getfield 100, 3) := by decide +kernel
theorem dX10_as_48 : decode cX10_as 48 = .ok (.iaload, 1) := by decide +kernel
theorem dX10_as_49 : decode cX10_as 49 = .ok (.ireturn, 1) := by decide +kernel
