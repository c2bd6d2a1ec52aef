theorem dX11_counted_0 : decode cX11_counted 0 = .ok (.iconst 0, 1) := by decide +kernel
theorem dX11_counted_1 : decode cX11_counted 1 = .ok (.istore 4, 2) := by decide +kernel
theorem dX11_counted_3 : decode cX11_counted 3 = .ok (.iconst 0, 1) := by decide +kernel
theorem dX11_counted_4 : decode cX11_counted 4 = .ok (.istore 5, 2) := by decide +kernel
theorem dX11_counted_6 : decode cX11_counted 6 = .ok (.iload 5, 2) := by decide +kernel
theorem dX11_counted_8 : decode cX11_counted 8 = .ok (.aload_n 0, 1) := by decide +kernel
theorem dX11_counted_9 : decode cX11_counted 9 = .ok (.getfield 131, 3) := by decide +kernel
theorem dX11_counted_12 : decode cX11_counted 12 = .ok (.if_icmp .ge 108, 3) := by decide +kernel
theorem dX11_counted_15 : decode cX11_counted 15 = .ok (.aload_n 0, 1) := by decide +kernel
theorem dX11_counted_16 : decode cX11_counted 16 = .ok (.iload 5, 2) := by decide +kernel
theorem dX11_counted_18 : decode cX11_counted 18 = .ok (.invokevirtual 216, 3) := by decide +kernel
theorem dX11_counted_21 : decode cX11_counted 21 = .ok (.istore 6, 2) := by decide +kernel
theorem dX11_counted_23 : decode cX11_counted 23 = .ok (.iload_n 1, 1) := by decide +kernel
theorem dX11_counted_24 : decode cX11_counted 24 = .ok (.iconst 2, 1) := by decide +kernel
theorem dX11_counted_25 : decode cX11_counted 25 = .ok (.if_icmp .eq 35, 3) := by decide +kernel
theorem dX11_counted_28 : decode cX11_counted 28 = .ok (.iload_n 1, 1) := by decide +kernel
theorem dX11_counted_29 : decode cX11_counted 29 = .ok (.ifCond .ne 20, 3) := by decide +kernel
theorem dX11_counted_32 : decode cX11_counted 32 = .ok (.aload_n 0, 1) := by decide +kernel
theorem dX11_counted_33 : decode cX11_counted 33 = .ok (.iload 6, 2) := by decide +kernel
theorem dX11_counted_35 : decode cX11_counted 35 = .ok (.iconst 1, 1) := by decide +kernel
theorem dX11_counted_36 : decode cX11_counted 36 = .ok (.aload_n 0, 1) := by decide +kernel
theorem dX11_counted_37 : decode cX11_counted 37 = .ok (.getfield 74, 3) := by decide +kernel
theorem dX11_counted_40 : decode cX11_counted 40 = .ok (.iload 5, 2) := by decide +kernel
theorem dX11_counted_42 : decode cX11_counted 42 = .ok (.iaload, 1) := by decide +kernel
theorem dX11_counted_43 : decode cX11_counted 43 = .ok (.invokevirtual 155, 3) := by decide +kernel
theorem dX11_counted_46 : decode cX11_counted 46 = .ok (.goto 10, 3) := by decide +kernel
theorem dX11_counted_49 : decode cX11_counted 49 = .ok (.aload_n 0, 1) := by decide +kernel
theorem dX11_counted_50 : decode cX11_counted 50 = .ok (.getfield 13, 3) := by decide +kernel
theorem dX11_counted_53 : decode cX11_counted 53 = .ok (.iload 6, 2) := by decide +kernel
theorem dX11_counted_55 : decode cX11_counted 55 = .ok (.iaload, 1) := by decide +kernel
theorem dX11_counted_56 : decode cX11_counted 56 = .ok (.iload_n 2, 1) := by decide +kernel
theorem dX11_counted_57 : decode cX11_counted 57 = .ok (.if_icmp .ne 7, 3) := by decide +kernel
theorem dX11_counted_60 : decode cX11_counted 60 = .ok (.iconst 1, 1) := by decide +kernel
theorem dX11_counted_61 : decode cX11_counted 61 = .ok (.goto 4, 3) := by decide +kernel
theorem dX11_counted_64 : decode cX11_counted 64 = .ok (.iconst 0, 1) := by decide +kernel
theorem dX11_counted_65 : decode cX11_counted 65 = .ok (.istore 7, 2) := by decide +kernel
theorem dX11_counted_67 : decode cX11_counted 67 = .ok (.iload 4, 2) := by decide +kernel
theorem dX11_counted_69 : decode cX11_counted 69 = .ok (.iload 7, 2) := by decide +kernel
theorem dX11_counted_71 : decode cX11_counted 71 = .ok (.ifCond .eq 39, 3) := by decide +kernel
theorem dX11_counted_74 : decode cX11_counted 74 = .ok (.aload_n 0, 1) := by decide +kernel
theorem dX11_counted_75 : decode cX11_counted 75 = .ok (.getfield 74, 3) := by decide +kernel
theorem dX11_counted_78 : decode cX11_counted 78 = .ok (.iload 5, 2) := by decide +kernel
theorem dX11_counted_80 : decode cX11_counted 80 = .ok (.iaload, 1) := by decide +kernel
theorem dX11_counted_81 : decode cX11_counted 81 = .ok (.aload_n 0, 1) := by decide +kernel
theorem dX11_counted_82 : decode cX11_counted 82 = .ok (.getfield 134, 3) := by decide +kernel
theorem dX11_counted_85 : decode cX11_counted 85 = .ok (.sipush 1095, 3) := by decide +kernel
theorem dX11_counted_88 : decode cX11_counted 88 = .ok (.isub, 1) := by decide +kernel
theorem dX11_counted_89 : decode cX11_counted 89 = .ok (.if_icmp .le 21, 3) := by decide +kernel
theorem dX11_counted_92 : decode cX11_counted 92 = .ok (.aload_n 0, 1) := by decide +kernel
theorem dX11_counted_93 : decode cX11_counted 93 = .ok (.getfield 80, 3) := by decide +kernel
theorem dX11_counted_96 : decode cX11_counted 96 = .ok (.iload 5, 2) := by decide +kernel
theorem dX11_counted_98 : decode cX11_counted 98 = .ok (.baload, 1) := by decide +kernel
theorem dX11_counted_99 : decode cX11_counted 99 = .ok (.ifCond .ne 7, 3) := by decide +kernel
theorem dX11_counted_102 : decode cX11_counted 102 = .ok (.iload_n 3, 1) := by decide +kernel
theorem dX11_counted_103 : decode cX11_counted 103 = .ok (.ifCond .ne 7, 3) := by decide +kernel
theorem dX11_counted_106 : decode cX11_counted 106 = .ok (.iconst 1, 1) := by decide +kernel
theorem dX11_counted_107 : decode cX11_counted 107 = .ok (.goto 4, 3) := by decide +kernel
theorem dX11_counted_110 : decode cX11_counted 110 = .ok (.iconst 0, 1) := by decide +kernel
theorem dX11_counted_111 : decode cX11_counted 111 = .ok (.iadd, 1) := by decide +kernel
theorem dX11_counted_112 : decode cX11_counted 112 = .ok (.istore 4, 2) := by decide +kernel
theorem dX11_counted_114 : decode cX11_counted 114 = .ok (.iinc 5 1, 3) := by decide +kernel
theorem dX11_counted_117 : decode cX11_counted 117 = .ok (.goto (-111), 3) := by decide +kernel
theorem dX11_counted_120 : decode cX11_counted 120 = .ok (.iload 4, 2) := by decide +kernel
theorem dX11_counted_122 : decode cX11_counted 122 = .ok (.ireturn, 1) := by decide +kernel
theorem dX11_darkOf_0 : decode cX11_darkOf 0 = .ok (.aload_n 0, 1) := by decide +kernel
theorem dX11_darkOf_1 : decode cX11_darkOf 1 = .ok (.iload_n 1, 1) := by decide +kernel
theorem dX11_darkOf_2 : decode cX11_darkOf 2 = .ok (.iload_n 2, 1) := by decide +kernel
theorem dX11_darkOf_3 : decode cX11_darkOf 3 = .ok (.iconst 0, 1) := by decide +kernel
theorem dX11_darkOf_4 : decode cX11_darkOf 4 = .ok (.invokevirtual 229, 3) := by decide +kernel
theorem dX11_darkOf_7 : decode cX11_darkOf 7 = .ok (.i2l, 1) := by decide +kernel
theorem dX11_darkOf_8 : decode cX11_darkOf 8 = .ok (.lstore_n 3, 1) := by decide +kernel
theorem dX11_darkOf_9 : decode cX11_darkOf 9 = .ok (.aload_n 0, 1) := by decide +kernel
theorem dX11_darkOf_10 : decode cX11_darkOf 10 = .ok (.iload_n 1, 1) := by decide +kernel
theorem dX11_darkOf_11 : decode cX11_darkOf 11 = .ok (.iload_n 2, 1) := by decide +kernel
theorem dX11_darkOf_12 : decode cX11_darkOf 12 = .ok (.iconst 1, 1) := by decide +kernel
theorem dX11_darkOf_13 : decode cX11_darkOf 13 = .ok (.invokevirtual 229, 3) := by decide +kernel
theorem dX11_darkOf_16 : decode cX11_darkOf 16 = .ok (.i2l, 1) := by decide +kernel
theorem dX11_darkOf_17 : decode cX11_darkOf 17 = .ok (.lstore 5, 2) := by decide +kernel
theorem dX11_darkOf_19 : decode cX11_darkOf 19 = .ok (.aload_n 0, 1) := by decide +kernel
theorem dX11_darkOf_20 : decode cX11_darkOf 20 = .ok (.iconst 2, 1) := by decide +kernel
theorem dX11_darkOf_21 : decode cX11_darkOf 21 = .ok (.iconst 0, 1) := by decide +kernel
theorem dX11_darkOf_22 : decode cX11_darkOf 22 = .ok (.iconst 0, 1) := by decide +kernel
theorem dX11_darkOf_23 : decode cX11_darkOf 23 = .ok (.invokevirtual 229, 3) := by decide +kernel
theorem dX11_darkOf_26 : decode cX11_darkOf 26 = .ok (.i2l, 1) := by decide +kernel
theorem dX11_darkOf_27 : decode cX11_darkOf 27 = .ok (.lstore 7, 2) := by decide +kernel
theorem dX11_darkOf_29 : decode cX11_darkOf 29 = .ok (.aload_n 0, 1) := by decide +kernel
theorem dX11_darkOf_30 : decode cX11_darkOf 30 = .ok (.iconst 2, 1) := by decide +kernel
theorem dX11_darkOf_31 : decode cX11_darkOf 31 = .ok (.iconst 0, 1) := by decide +kernel
theorem dX11_darkOf_32 : decode cX11_darkOf 32 = .ok (.iconst 1, 1) := by decide +kernel
theorem dX11_darkOf_33 : decode cX11_darkOf 33 = .ok (.invokevirtual 229, 3) := by decide +kernel
theorem dX11_darkOf_36 : decode cX11_darkOf 36 = .ok (.i2l, 1) := by decide +kernel
theorem dX11_darkOf_37 : decode cX11_darkOf 37 = .ok (.lstore 9, 2) := by decide +kernel
theorem dX11_darkOf_39 : decode cX11_darkOf 39 = .ok (.lload 5, 2) := by decide +kernel
theorem dX11_darkOf_41 : decode cX11_darkOf 41 = .ok (.lload 7, 2) := by decide +kernel
theorem dX11_darkOf_43 : decode cX11_darkOf 43 = .ok (.lmul, 1) := by decide +kernel
theorem dX11_darkOf_44 : decode cX11_darkOf 44 = .ok (.lload_n 3, 1) := by decide +kernel
theorem dX11_darkOf_45 : decode cX11_darkOf 45 = .ok (.lload 9, 2) := by decide +kernel
theorem dX11_darkOf_47 : decode cX11_darkOf 47 = .ok (.lmul, 1) := by decide +kernel
theorem dX11_darkOf_48 : decode cX11_darkOf 48 = .ok (.lsub, 1) := by decide +kernel
theorem dX11_darkOf_49 : decode cX11_darkOf 49 = .ok (.lstore 11, 2) := by decide +kernel
theorem dX11_darkOf_51 : decode cX11_darkOf 51 = .ok (.lload 9, 2) := by decide +kernel
theorem dX11_darkOf_53 : decode cX11_darkOf 53 = .ok (.lconst 0, 1) := by decide +kernel
theorem dX11_darkOf_54 : decode cX11_darkOf 54 = .ok (.lcmp, 1) := by decide +kernel
theorem dX11_darkOf_55 : decode cX11_darkOf 55 = .ok (.ifCond .le 34, 3) := by decide +kernel
theorem dX11_darkOf_58 : decode cX11_darkOf 58 = .ok (.lload 11, 2) := by decide +kernel
theorem dX11_darkOf_60 : decode cX11_darkOf 60 = .ok (.lconst 0, 1) := by decide +kernel
theorem dX11_darkOf_61 : decode cX11_darkOf 61 = .ok (.lcmp, 1) := by decide +kernel
theorem dX11_darkOf_62 : decode cX11_darkOf 62 = .ok (.ifCond .le 27, 3) := by decide +kernel
theorem dX11_darkOf_65 : decode cX11_darkOf 65 = .ok (.lload 11, 2) := by decide +kernel
theorem dX11_darkOf_67 : decode cX11_darkOf 67 = .ok (.lload 11, 2) := by decide +kernel
theorem dX11_darkOf_69 : decode cX11_darkOf 69 = .ok (.lmul, 1) := by decide +kernel
theorem dX11_darkOf_70 : decode cX11_darkOf 70 = .ok (.ldc2_w 233, 3) := by decide +kernel
theorem dX11_darkOf_73 : decode cX11_darkOf 73 = .ok (.lload_n 3, 1) := by decide +kernel
theorem dX11_darkOf_74 : decode cX11_darkOf 74 = .ok (.lmul, 1) := by decide +kernel
theorem dX11_darkOf_75 : decode cX11_darkOf 75 = .ok (.lload 7, 2) := by decide +kernel
theorem dX11_darkOf_77 : decode cX11_darkOf 77 = .ok (.lmul, 1) := by decide +kernel
theorem dX11_darkOf_78 : decode cX11_darkOf 78 = .ok (.lload 9, 2) := by decide +kernel
theorem dX11_darkOf_80 : decode cX11_darkOf 80 = .ok (.lmul, 1) := by decide +kernel
theorem dX11_darkOf_81 : decode cX11_darkOf 81 = .ok (.lcmp, 1) := by decide +kernel
theorem dX11_darkOf_82 : decode cX11_darkOf 82 = .ok (.ifCond .le 7, 3) := by decide +kernel
theorem dX11_darkOf_85 : decode cX11_darkOf 85 = .ok (.iconst 1, 1) := by decide +kernel
theorem dX11_darkOf_86 : decode cX11_darkOf 86 = .ok (.goto 4, 3) := by decide +kernel
theorem dX11_darkOf_89 : decode cX11_darkOf 89 = .ok (.iconst 0, 1) := by decide +kernel
theorem dX11_darkOf_90 : decode cX11_darkOf 90 = .ok (.ireturn, 1) := by decide +kernel
theorem dX11_share_0 : decode cX11_share 0 = .ok (.iload_n 1, 1) := by decide +kernel
theorem dX11_share_1 : decode cX11_share 1 = .ok (.iconst 0, 1) := by decide +kernel
theorem dX11_share_2 : decode cX11_share 2 = .ok (.iconst 2, 1) := by decide +kernel
theorem dX11_share_3 : decode cX11_share 3 = .ok (.invokestatic 124, 3) := by decide +kernel
theorem dX11_share_6 : decode cX11_share 6 = .ok (.ifCond .eq 38, 3) := by decide +kernel
theorem dX11_share_9 : decode cX11_share 9 = .ok (.iload_n 2, 1) := by decide +kernel
theorem dX11_share_10 : decode cX11_share 10 = .ok (.iconst 0, 1) := by decide +kernel
theorem dX11_share_11 : decode cX11_share 11 = .ok (.iload_n 1, 1) := by decide +kernel
theorem dX11_share_12 : decode cX11_share 12 = .ok (.ifCond .ne 7, 3) := by decide +kernel
theorem dX11_share_15 : decode cX11_share 15 = .ok (.iconst 5, 1) := by decide +kernel
theorem dX11_share_16 : decode cX11_share 16 = .ok (.goto 13, 3) := by decide +kernel
theorem dX11_share_19 : decode cX11_share 19 = .ok (.iload_n 1, 1) := by decide +kernel
theorem dX11_share_20 : decode cX11_share 20 = .ok (.iconst 1, 1) := by decide +kernel
theorem dX11_share_21 : decode cX11_share 21 = .ok (.if_icmp .ne 7, 3) := by decide +kernel
theorem dX11_share_24 : decode cX11_share 24 = .ok (.iconst 3, 1) := by decide +kernel
theorem dX11_share_25 : decode cX11_share 25 = .ok (.goto 4, 3) := by decide +kernel
theorem dX11_share_28 : decode cX11_share 28 = .ok (.iconst 0, 1) := by decide +kernel
theorem dX11_share_29 : decode cX11_share 29 = .ok (.invokestatic 124, 3) := by decide +kernel
theorem dX11_share_32 : decode cX11_share 32 = .ok (.ifCond .eq 12, 3) := by decide +kernel
theorem dX11_share_35 : decode cX11_share 35 = .ok (.iload_n 3, 1) := by decide +kernel
theorem dX11_share_36 : decode cX11_share 36 = .ok (.iconst 0, 1) := by decide +kernel
theorem dX11_share_37 : decode cX11_share 37 = .ok (.iconst 2, 1) := by decide +kernel
theorem dX11_share_38 : decode cX11_share 38 = .ok (.invokestatic 124, 3) := by decide +kernel
theorem dX11_share_41 : decode cX11_share 41 = .ok (.ifCond .ne 9, 3) := by decide +kernel
theorem dX11_share_44 : decode cX11_share 44 = .ok (.aload_n 0, 1) := by decide +kernel
theorem dX11_share_45 : decode cX11_share 45 = .ok (.iconst 1, 1) := by decide +kernel
theorem dX11_share_46 : decode cX11_share 46 = .ok (.invokevirtual 137, 3) := by decide +kernel
theorem dX11_share_49 : decode cX11_share 49 = .ok (.ireturn, 1) := by decide +kernel
theorem dX11_share_50 : decode cX11_share 50 = .ok (.iload_n 3, 1) := by decide +kernel
theorem dX11_share_51 : decode cX11_share 51 = .ok (.iconst 2, 1) := by decide +kernel
theorem dX11_share_52 : decode cX11_share 52 = .ok (.if_icmp .ge 22, 3) := by decide +kernel
theorem dX11_share_55 : decode cX11_share 55 = .ok (.aload_n 0, 1) := by decide +kernel
theorem dX11_share_56 : decode cX11_share 56 = .ok (.iload_n 1, 1) := by decide +kernel
theorem dX11_share_57 : decode cX11_share 57 = .ok (.iload_n 2, 1) := by decide +kernel
theorem dX11_share_58 : decode cX11_share 58 = .ok (.iload_n 3, 1) := by decide +kernel
theorem dX11_share_59 : decode cX11_share 59 = .ok (.iconst 1, 1) := by decide +kernel
theorem dX11_share_60 : decode cX11_share 60 = .ok (.if_icmp .ne 7, 3) := by decide +kernel
theorem dX11_share_63 : decode cX11_share 63 = .ok (.iconst 1, 1) := by decide +kernel
theorem dX11_share_64 : decode cX11_share 64 = .ok (.goto 4, 3) := by decide +kernel
theorem dX11_share_67 : decode cX11_share 67 = .ok (.iconst 0, 1) := by decide +kernel
theorem dX11_share_68 : decode cX11_share 68 = .ok (.invokevirtual 229, 3) := by decide +kernel
theorem dX11_share_71 : decode cX11_share 71 = .ok (.goto 18, 3) := by decide +kernel
theorem dX11_share_74 : decode cX11_share 74 = .ok (.iload_n 1, 1) := by decide +kernel
theorem dX11_share_75 : decode cX11_share 75 = .ok (.iconst 2, 1) := by decide +kernel
theorem dX11_share_76 : decode cX11_share 76 = .ok (.if_icmp .ne 7, 3) := by decide +kernel
theorem dX11_share_79 : decode cX11_share 79 = .ok (.iconst 0, 1) := by decide +kernel
theorem dX11_share_80 : decode cX11_share 80 = .ok (.goto 9, 3) := by decide +kernel
theorem dX11_share_83 : decode cX11_share 83 = .ok (.aload_n 0, 1) := by decide +kernel
theorem dX11_share_84 : decode cX11_share 84 = .ok (.iload_n 1, 1) := by decide +kernel
theorem dX11_share_85 : decode cX11_share 85 = .ok (.iload_n 2, 1) := by decide +kernel
theorem dX11_share_86 : decode cX11_share 86 = .ok (.invokevirtual 213, 3) := by decide +kernel
theorem dX11_share_89 : decode cX11_share 89 = .ok (.ireturn, 1) := by decide +kernel
theorem dX11_riskOf_0 : decode cX11_riskOf 0 = .ok (.iconst 1, 1) := by decide +kernel
theorem dX11_riskOf_1 : decode cX11_riskOf 1 = .ok (.istore_n 2, 1) := by decide +kernel
theorem dX11_riskOf_2 : decode cX11_riskOf 2 = .ok (.iload_n 2, 1) := by decide +kernel
theorem dX11_riskOf_3 : decode cX11_riskOf 3 = .ok (.aload_n 0, 1) := by decide +kernel
theorem dX11_riskOf_4 : decode cX11_riskOf 4 = .ok (.getfield 134, 3) := by decide +kernel
theorem dX11_riskOf_7 : decode cX11_riskOf 7 = .ok (.aload_n 0, 1) := by decide +kernel
theorem dX11_riskOf_8 : decode cX11_riskOf 8 = .ok (.getfield 16, 3) := by decide +kernel
theorem dX11_riskOf_11 : decode cX11_riskOf 11 = .ok (.iload_n 1, 1) := by decide +kernel
theorem dX11_riskOf_12 : decode cX11_riskOf 12 = .ok (.iaload, 1) := by decide +kernel
theorem dX11_riskOf_13 : decode cX11_riskOf 13 = .ok (.isub, 1) := by decide +kernel
theorem dX11_riskOf_14 : decode cX11_riskOf 14 = .ok (.sipush 5475, 3) := by decide +kernel
theorem dX11_riskOf_17 : decode cX11_riskOf 17 = .ok (.if_icmp .lt 7, 3) := by decide +kernel
theorem dX11_riskOf_20 : decode cX11_riskOf 20 = .ok (.iconst 2, 1) := by decide +kernel
theorem dX11_riskOf_21 : decode cX11_riskOf 21 = .ok (.goto 4, 3) := by decide +kernel
theorem dX11_riskOf_24 : decode cX11_riskOf 24 = .ok (.iconst 0, 1) := by decide +kernel
theorem dX11_riskOf_25 : decode cX11_riskOf 25 = .ok (.iadd, 1) := by decide +kernel
theorem dX11_riskOf_26 : decode cX11_riskOf 26 = .ok (.istore_n 2, 1) := by decide +kernel
theorem dX11_riskOf_27 : decode cX11_riskOf 27 = .ok (.iload_n 2, 1) := by decide +kernel
theorem dX11_riskOf_28 : decode cX11_riskOf 28 = .ok (.iconst 3, 1) := by decide +kernel
theorem dX11_riskOf_29 : decode cX11_riskOf 29 = .ok (.aload_n 0, 1) := by decide +kernel
theorem dX11_riskOf_30 : decode cX11_riskOf 30 = .ok (.iconst 0, 1) := by decide +kernel
theorem dX11_riskOf_31 : decode cX11_riskOf 31 = .ok (.aload_n 0, 1) := by decide +kernel
theorem dX11_riskOf_32 : decode cX11_riskOf 32 = .ok (.iload_n 1, 1) := by decide +kernel
theorem dX11_riskOf_33 : decode cX11_riskOf 33 = .ok (.iconst 1, 1) := by decide +kernel
theorem dX11_riskOf_34 : decode cX11_riskOf 34 = .ok (.aload_n 0, 1) := by decide +kernel
theorem dX11_riskOf_35 : decode cX11_riskOf 35 = .ok (.getfield 134, 3) := by decide +kernel
theorem dX11_riskOf_38 : decode cX11_riskOf 38 = .ok (.invokevirtual 155, 3) := by decide +kernel
theorem dX11_riskOf_41 : decode cX11_riskOf 41 = .ok (.invokevirtual 213, 3) := by decide +kernel
theorem dX11_riskOf_44 : decode cX11_riskOf 44 = .ok (.imul, 1) := by decide +kernel
theorem dX11_riskOf_45 : decode cX11_riskOf 45 = .ok (.iadd, 1) := by decide +kernel
theorem dX11_riskOf_46 : decode cX11_riskOf 46 = .ok (.istore_n 2, 1) := by decide +kernel
theorem dX11_riskOf_47 : decode cX11_riskOf 47 = .ok (.iload_n 2, 1) := by decide +kernel
theorem dX11_riskOf_48 : decode cX11_riskOf 48 = .ok (.iconst 2, 1) := by decide +kernel
theorem dX11_riskOf_49 : decode cX11_riskOf 49 = .ok (.aload_n 0, 1) := by decide +kernel
theorem dX11_riskOf_50 : decode cX11_riskOf 50 = .ok (.iconst 1, 1) := by decide +kernel
theorem dX11_riskOf_51 : decode cX11_riskOf 51 = .ok (.aload_n 0, 1) := by decide +kernel
theorem dX11_riskOf_52 : decode cX11_riskOf 52 = .ok (.getfield 13, 3) := by decide +kernel
theorem dX11_riskOf_55 : decode cX11_riskOf 55 = .ok (.iload_n 1, 1) := by decide +kernel
theorem dX11_riskOf_56 : decode cX11_riskOf 56 = .ok (.iaload, 1) := by decide +kernel
theorem dX11_riskOf_57 : decode cX11_riskOf 57 = .ok (.invokevirtual 213, 3) := by decide +kernel
theorem dX11_riskOf_60 : decode cX11_riskOf 60 = .ok (.imul, 1) := by decide +kernel
theorem dX11_riskOf_61 : decode cX11_riskOf 61 = .ok (.iadd, 1) := by decide +kernel
theorem dX11_riskOf_62 : decode cX11_riskOf 62 = .ok (.istore_n 2, 1) := by decide +kernel
theorem dX11_riskOf_63 : decode cX11_riskOf 63 = .ok (.aload_n 0, 1) := by decide +kernel
theorem dX11_riskOf_64 : decode cX11_riskOf 64 = .ok (.aload_n 0, 1) := by decide +kernel
theorem dX11_riskOf_65 : decode cX11_riskOf 65 = .ok (.iload_n 1, 1) := by decide +kernel
theorem dX11_riskOf_66 : decode cX11_riskOf 66 = .ok (.iconst 2, 1) := by decide +kernel
theorem dX11_riskOf_67 : decode cX11_riskOf 67 = .ok (.aload_n 0, 1) := by decide +kernel
theorem dX11_riskOf_68 : decode cX11_riskOf 68 = .ok (.getfield 134, 3) := by decide +kernel
theorem dX11_riskOf_71 : decode cX11_riskOf 71 = .ok (.invokevirtual 155, 3) := by decide +kernel
theorem dX11_riskOf_74 : decode cX11_riskOf 74 = .ok (.aload_n 0, 1) := by decide +kernel
theorem dX11_riskOf_75 : decode cX11_riskOf 75 = .ok (.getfield 134, 3) := by decide +kernel
theorem dX11_riskOf_78 : decode cX11_riskOf 78 = .ok (.invokevirtual 168, 3) := by decide +kernel
theorem dX11_riskOf_81 : decode cX11_riskOf 81 = .ok (.istore_n 3, 1) := by decide +kernel
theorem dX11_riskOf_82 : decode cX11_riskOf 82 = .ok (.iconst 0, 1) := by decide +kernel
theorem dX11_riskOf_83 : decode cX11_riskOf 83 = .ok (.istore 4, 2) := by decide +kernel
theorem dX11_riskOf_85 : decode cX11_riskOf 85 = .ok (.aload_n 0, 1) := by decide +kernel
theorem dX11_riskOf_86 : decode cX11_riskOf 86 = .ok (.getfield 16, 3) := by decide +kernel
theorem dX11_riskOf_89 : decode cX11_riskOf 89 = .ok (.iload_n 1, 1) := by decide +kernel
theorem dX11_riskOf_90 : decode cX11_riskOf 90 = .ok (.iaload, 1) := by decide +kernel
theorem dX11_riskOf_91 : decode cX11_riskOf 91 = .ok (.istore 5, 2) := by decide +kernel
theorem dX11_riskOf_93 : decode cX11_riskOf 93 = .ok (.iconst 0, 1) := by decide +kernel
theorem dX11_riskOf_94 : decode cX11_riskOf 94 = .ok (.istore 6, 2) := by decide +kernel
theorem dX11_riskOf_96 : decode cX11_riskOf 96 = .ok (.iload 6, 2) := by decide +kernel
theorem dX11_riskOf_98 : decode cX11_riskOf 98 = .ok (.aload_n 0, 1) := by decide +kernel
theorem dX11_riskOf_99 : decode cX11_riskOf 99 = .ok (.getfield 131, 3) := by decide +kernel
theorem dX11_riskOf_102 : decode cX11_riskOf 102 = .ok (.if_icmp .ge 91, 3) := by decide +kernel
theorem dX11_riskOf_105 : decode cX11_riskOf 105 = .ok (.aload_n 0, 1) := by decide +kernel
theorem dX11_riskOf_106 : decode cX11_riskOf 106 = .ok (.iload 6, 2) := by decide +kernel
theorem dX11_riskOf_108 : decode cX11_riskOf 108 = .ok (.invokevirtual 216, 3) := by decide +kernel
theorem dX11_riskOf_111 : decode cX11_riskOf 111 = .ok (.istore 7, 2) := by decide +kernel
theorem dX11_riskOf_113 : decode cX11_riskOf 113 = .ok (.iload 4, 2) := by decide +kernel
theorem dX11_riskOf_115 : decode cX11_riskOf 115 = .ok (.iload 7, 2) := by decide +kernel
theorem dX11_riskOf_117 : decode cX11_riskOf 117 = .ok (.iload_n 1, 1) := by decide +kernel
theorem dX11_riskOf_118 : decode cX11_riskOf 118 = .ok (.if_icmp .eq 45, 3) := by decide +kernel
theorem dX11_riskOf_121 : decode cX11_riskOf 121 = .ok (.aload_n 0, 1) := by decide +kernel
theorem dX11_riskOf_122 : decode cX11_riskOf 122 = .ok (.getfield 80, 3) := by decide +kernel
theorem dX11_riskOf_125 : decode cX11_riskOf 125 = .ok (.iload 6, 2) := by decide +kernel
theorem dX11_riskOf_127 : decode cX11_riskOf 127 = .ok (.baload, 1) := by decide +kernel
theorem dX11_riskOf_128 : decode cX11_riskOf 128 = .ok (.ifCond .eq 35, 3) := by decide +kernel
theorem dX11_riskOf_131 : decode cX11_riskOf 131 = .ok (.iload_n 3, 1) := by decide +kernel
theorem dX11_riskOf_132 : decode cX11_riskOf 132 = .ok (.iload 7, 2) := by decide +kernel
theorem dX11_riskOf_134 : decode cX11_riskOf 134 = .ok (.ishr, 1) := by decide +kernel
theorem dX11_riskOf_135 : decode cX11_riskOf 135 = .ok (.iconst 1, 1) := by decide +kernel
theorem dX11_riskOf_136 : decode cX11_riskOf 136 = .ok (.iand, 1) := by decide +kernel
theorem dX11_riskOf_137 : decode cX11_riskOf 137 = .ok (.iconst 1, 1) := by decide +kernel
theorem dX11_riskOf_138 : decode cX11_riskOf 138 = .ok (.if_icmp .ne 25, 3) := by decide +kernel
theorem dX11_riskOf_141 : decode cX11_riskOf 141 = .ok (.aload_n 0, 1) := by decide +kernel
theorem dX11_riskOf_142 : decode cX11_riskOf 142 = .ok (.getfield 74, 3) := by decide +kernel
theorem dX11_riskOf_145 : decode cX11_riskOf 145 = .ok (.iload 6, 2) := by decide +kernel
theorem dX11_riskOf_147 : decode cX11_riskOf 147 = .ok (.iaload, 1) := by decide +kernel
theorem dX11_riskOf_148 : decode cX11_riskOf 148 = .ok (.aload_n 0, 1) := by decide +kernel
theorem dX11_riskOf_149 : decode cX11_riskOf 149 = .ok (.getfield 134, 3) := by decide +kernel
theorem dX11_riskOf_152 : decode cX11_riskOf 152 = .ok (.sipush 365, 3) := by decide +kernel
theorem dX11_riskOf_155 : decode cX11_riskOf 155 = .ok (.isub, 1) := by decide +kernel
theorem dX11_riskOf_156 : decode cX11_riskOf 156 = .ok (.if_icmp .le 7, 3) := by decide +kernel
theorem dX11_riskOf_159 : decode cX11_riskOf 159 = .ok (.iconst 1, 1) := by decide +kernel
theorem dX11_riskOf_160 : decode cX11_riskOf 160 = .ok (.goto 4, 3) := by decide +kernel
theorem dX11_riskOf_163 : decode cX11_riskOf 163 = .ok (.iconst 0, 1) := by decide +kernel
theorem dX11_riskOf_164 : decode cX11_riskOf 164 = .ok (.iadd, 1) := by decide +kernel
theorem dX11_riskOf_165 : decode cX11_riskOf 165 = .ok (.istore 4, 2) := by decide +kernel
theorem dX11_riskOf_167 : decode cX11_riskOf 167 = .ok (.iload 7, 2) := by decide +kernel
theorem dX11_riskOf_169 : decode cX11_riskOf 169 = .ok (.iload_n 1, 1) := by decide +kernel
theorem dX11_riskOf_170 : decode cX11_riskOf 170 = .ok (.if_icmp .ne 13, 3) := by decide +kernel
theorem dX11_riskOf_173 : decode cX11_riskOf 173 = .ok (.aload_n 0, 1) := by decide +kernel
theorem dX11_riskOf_174 : decode cX11_riskOf 174 = .ok (.getfield 74, 3) := by decide +kernel
theorem dX11_riskOf_177 : decode cX11_riskOf 177 = .ok (.iload 6, 2) := by decide +kernel
theorem dX11_riskOf_179 : decode cX11_riskOf 179 = .ok (.iaload, 1) := by decide +kernel
theorem dX11_riskOf_180 : decode cX11_riskOf 180 = .ok (.goto 5, 3) := by decide +kernel
theorem dX11_riskOf_183 : decode cX11_riskOf 183 = .ok (.iload 5, 2) := by decide +kernel
theorem dX11_riskOf_185 : decode cX11_riskOf 185 = .ok (.istore 5, 2) := by decide +kernel
theorem dX11_riskOf_187 : decode cX11_riskOf 187 = .ok (.iinc 6 1, 3) := by decide +kernel
theorem dX11_riskOf_190 : decode cX11_riskOf 190 = .ok (.goto (-94), 3) := by decide +kernel
theorem dX11_riskOf_193 : decode cX11_riskOf 193 = .ok (.aload_n 0, 1) := by decide +kernel
theorem dX11_riskOf_194 : decode cX11_riskOf 194 = .ok (.getfield 134, 3) := by decide +kernel
theorem dX11_riskOf_197 : decode cX11_riskOf 197 = .ok (.iload 5, 2) := by decide +kernel
theorem dX11_riskOf_199 : decode cX11_riskOf 199 = .ok (.isub, 1) := by decide +kernel
theorem dX11_riskOf_200 : decode cX11_riskOf 200 = .ok (.sipush 365, 3) := by decide +kernel
theorem dX11_riskOf_203 : decode cX11_riskOf 203 = .ok (.idiv, 1) := by decide +kernel
theorem dX11_riskOf_204 : decode cX11_riskOf 204 = .ok (.istore 6, 2) := by decide +kernel
theorem dX11_riskOf_206 : decode cX11_riskOf 206 = .ok (.iload_n 2, 1) := by decide +kernel
theorem dX11_riskOf_207 : decode cX11_riskOf 207 = .ok (.iload 4, 2) := by decide +kernel
theorem dX11_riskOf_209 : decode cX11_riskOf 209 = .ok (.iconst 4, 1) := by decide +kernel
theorem dX11_riskOf_210 : decode cX11_riskOf 210 = .ok (.if_icmp .le 7, 3) := by decide +kernel
theorem dX11_riskOf_213 : decode cX11_riskOf 213 = .ok (.iconst 4, 1) := by decide +kernel
theorem dX11_riskOf_214 : decode cX11_riskOf 214 = .ok (.goto 5, 3) := by decide +kernel
theorem dX11_riskOf_217 : decode cX11_riskOf 217 = .ok (.iload 4, 2) := by decide +kernel
theorem dX11_riskOf_219 : decode cX11_riskOf 219 = .ok (.iadd, 1) := by decide +kernel
theorem dX11_riskOf_220 : decode cX11_riskOf 220 = .ok (.istore_n 2, 1) := by decide +kernel
theorem dX11_riskOf_221 : decode cX11_riskOf 221 = .ok (.iload_n 2, 1) := by decide +kernel
theorem dX11_riskOf_222 : decode cX11_riskOf 222 = .ok (.iload 6, 2) := by decide +kernel
theorem dX11_riskOf_224 : decode cX11_riskOf 224 = .ok (.iconst 5, 1) := by decide +kernel
theorem dX11_riskOf_225 : decode cX11_riskOf 225 = .ok (.if_icmp .le 7, 3) := by decide +kernel
theorem dX11_riskOf_228 : decode cX11_riskOf 228 = .ok (.iconst 5, 1) := by decide +kernel
theorem dX11_riskOf_229 : decode cX11_riskOf 229 = .ok (.goto 5, 3) := by decide +kernel
theorem dX11_riskOf_232 : decode cX11_riskOf 232 = .ok (.iload 6, 2) := by decide +kernel
theorem dX11_riskOf_234 : decode cX11_riskOf 234 = .ok (.iadd, 1) := by decide +kernel
theorem dX11_riskOf_235 : decode cX11_riskOf 235 = .ok (.istore_n 2, 1) := by decide +kernel
theorem dX11_riskOf_236 : decode cX11_riskOf 236 = .ok (.aload_n 0, 1) := by decide +kernel
theorem dX11_riskOf_237 : decode cX11_riskOf 237 = .ok (.iload_n 1, 1) := by decide +kernel
theorem dX11_riskOf_238 : decode cX11_riskOf 238 = .ok (.iconst 1, 1) := by decide +kernel
theorem dX11_riskOf_239 : decode cX11_riskOf 239 = .ok (.invokevirtual 145, 3) := by decide +kernel
theorem dX11_riskOf_242 : decode cX11_riskOf 242 = .ok (.ifCond .eq 9, 3) := by decide +kernel
theorem dX11_riskOf_245 : decode cX11_riskOf 245 = .ok (.iconst 2, 1) := by decide +kernel
theorem dX11_riskOf_246 : decode cX11_riskOf 246 = .ok (.iload_n 2, 1) := by decide +kernel
theorem dX11_riskOf_247 : decode cX11_riskOf 247 = .ok (.imul, 1) := by decide +kernel
theorem dX11_riskOf_248 : decode cX11_riskOf 248 = .ok (.goto 4, 3) := by decide +kernel
theorem dX11_riskOf_251 : decode cX11_riskOf 251 = .ok (.iload_n 2, 1) := by decide +kernel
theorem dX11_riskOf_252 : decode cX11_riskOf 252 = .ok (.ireturn, 1) := by decide +kernel
theorem dX11_risk_0 : decode cX11_risk 0 = .ok (.aload_n 0, 1) := by decide +kernel
theorem dX11_risk_1 : decode cX11_risk 1 = .ok (.iload_n 1, 1) := by decide +kernel
theorem dX11_risk_2 : decode cX11_risk 2 = .ok (.invokevirtual 141, 3) := by decide +kernel
theorem dX11_risk_5 : decode cX11_risk 5 = .ok (.ifCond .eq 11, 3) := by decide +kernel
theorem dX11_risk_8 : decode cX11_risk 8 = .ok (.aload_n 0, 1) := by decide +kernel
theorem dX11_risk_9 : decode cX11_risk 9 = .ok (.iload_n 1, 1) := by decide +kernel
theorem dX11_risk_10 : decode cX11_risk 10 = .ok (.invokevirtual 235, 3) := by decide +kernel
theorem dX11_risk_13 : decode cX11_risk 13 = .ok (.goto 8, 3) := by decide +kernel
theorem dX11_risk_16 : decode cX11_risk 16 = .ok (.aload_n 0, 1) := by decide +kernel
theorem dX11_risk_17 : decode cX11_risk 17 = .ok (.iconst 1, 1) := by decide +kernel
theorem dX11_risk_18 : decode cX11_risk 18 = .ok (.invokevirtual 137, 3) := by decide +kernel
theorem dX11_risk_21 : decode cX11_risk 21 = .ok (.ireturn, 1) := by decide +kernel
theorem dX11_gather_0 : decode cX11_gather 0 = .ok (.aload_n 0, 1) := by decide +kernel
theorem dX11_gather_1 : decode cX11_gather 1 = .ok (.iconst 0, 1) := by decide +kernel
theorem dX11_gather_2 : decode cX11_gather 2 = .ok (.putfield 238, 3) := by decide +kernel
theorem dX11_gather_5 : decode cX11_gather 5 = .ok (.iconst 0, 1) := by decide +kernel
theorem dX11_gather_6 : decode cX11_gather 6 = .ok (.istore_n 2, 1) := by decide +kernel
theorem dX11_gather_7 : decode cX11_gather 7 = .ok (.iload_n 2, 1) := by decide +kernel
theorem dX11_gather_8 : decode cX11_gather 8 = .ok (.aload_n 0, 1) := by decide +kernel
theorem dX11_gather_9 : decode cX11_gather 9 = .ok (.getfield 121, 3) := by decide +kernel
theorem dX11_gather_12 : decode cX11_gather 12 = .ok (.if_icmp .ge 72, 3) := by decide +kernel
theorem dX11_gather_15 : decode cX11_gather 15 = .ok (.aload_n 0, 1) := by decide +kernel
theorem dX11_gather_16 : decode cX11_gather 16 = .ok (.getfield 238, 3) := by decide +kernel
theorem dX11_gather_19 : decode cX11_gather 19 = .ok (.bipush 8, 2) := by decide +kernel
theorem dX11_gather_21 : decode cX11_gather 21 = .ok (.if_icmp .ge 63, 3) := by decide +kernel
theorem dX11_gather_24 : decode cX11_gather 24 = .ok (.aload_n 0, 1) := by decide +kernel
theorem dX11_gather_25 : decode cX11_gather 25 = .ok (.iload_n 2, 1) := by decide +kernel
theorem dX11_gather_26 : decode cX11_gather 26 = .ok (.invokevirtual 172, 3) := by decide +kernel
theorem dX11_gather_29 : decode cX11_gather 29 = .ok (.istore_n 3, 1) := by decide +kernel
theorem dX11_gather_30 : decode cX11_gather 30 = .ok (.iload_n 3, 1) := by decide +kernel
theorem dX11_gather_31 : decode cX11_gather 31 = .ok (.ifCond .lt 47, 3) := by decide +kernel
theorem dX11_gather_34 : decode cX11_gather 34 = .ok (.aload_n 0, 1) := by decide +kernel
theorem dX11_gather_35 : decode cX11_gather 35 = .ok (.getfield 40, 3) := by decide +kernel
theorem dX11_gather_38 : decode cX11_gather 38 = .ok (.iload_n 3, 1) := by decide +kernel
theorem dX11_gather_39 : decode cX11_gather 39 = .ok (.iaload, 1) := by decide +kernel
theorem dX11_gather_40 : decode cX11_gather 40 = .ok (.iload_n 1, 1) := by decide +kernel
theorem dX11_gather_41 : decode cX11_gather 41 = .ok (.if_icmp .ne 37, 3) := by decide +kernel
theorem dX11_gather_44 : decode cX11_gather 44 = .ok (.aload_n 0, 1) := by decide +kernel
theorem dX11_gather_45 : decode cX11_gather 45 = .ok (.getfield 108, 3) := by decide +kernel
theorem dX11_gather_48 : decode cX11_gather 48 = .ok (.aload_n 0, 1) := by decide +kernel
theorem dX11_gather_49 : decode cX11_gather 49 = .ok (.getfield 238, 3) := by decide +kernel
theorem dX11_gather_52 : decode cX11_gather 52 = .ok (.iload_n 2, 1) := by decide +kernel
theorem dX11_gather_53 : decode cX11_gather 53 = .ok (.iastore, 1) := by decide +kernel
theorem dX11_gather_54 : decode cX11_gather 54 = .ok (.aload_n 0, 1) := by decide +kernel
theorem dX11_gather_55 : decode cX11_gather 55 = .ok (.getfield 111, 3) := by decide +kernel
theorem dX11_gather_58 : decode cX11_gather 58 = .ok (.aload_n 0, 1) := by decide +kernel
theorem dX11_gather_59 : decode cX11_gather 59 = .ok (.getfield 238, 3) := by decide +kernel
theorem dX11_gather_62 : decode cX11_gather 62 = .ok (.aload_n 0, 1) := by decide +kernel
theorem dX11_gather_63 : decode cX11_gather 63 = .ok (.iload_n 2, 1) := by decide +kernel
theorem dX11_gather_64 : decode cX11_gather 64 = .ok (.invokevirtual 235, 3) := by decide +kernel
theorem dX11_gather_67 : decode cX11_gather 67 = .ok (.iastore, 1) := by decide +kernel
theorem dX11_gather_68 : decode cX11_gather 68 = .ok (.aload_n 0, 1) := by decide +kernel
theorem dX11_gather_69 : decode cX11_gather 69 = .ok (.dup, 1) := by decide +kernel
theorem dX11_gather_70 : decode cX11_gather 70 = .ok (.getfield 238, 3) := by decide +kernel
theorem dX11_gather_73 : decode cX11_gather 73 = .ok (.iconst 1, 1) := by decide +kernel
theorem dX11_gather_74 : decode cX11_gather 74 = .ok (.iadd, 1) := by decide +kernel
theorem dX11_gather_75 : decode cX11_gather 75 = .ok (.putfield 238, 3) := by decide +kernel
theorem dX11_gather_78 : decode cX11_gather 78 = .ok (.iinc 2 1, 3) := by decide +kernel
theorem dX11_gather_81 : decode cX11_gather 81 = .ok (.goto (-74), 3) := by decide +kernel
theorem dX11_gather_84 : decode cX11_gather 84 = .ok (.return_, 1) := by decide +kernel
theorem dX11_tryFrom_0 : decode cX11_tryFrom 0 = .ok (.iload_n 1, 1) := by decide +kernel
theorem dX11_tryFrom_1 : decode cX11_tryFrom 1 = .ok (.aload_n 0, 1) := by decide +kernel
theorem dX11_tryFrom_2 : decode cX11_tryFrom 2 = .ok (.getfield 238, 3) := by decide +kernel
theorem dX11_tryFrom_5 : decode cX11_tryFrom 5 = .ok (.if_icmp .ne 51, 3) := by decide +kernel
theorem dX11_tryFrom_8 : decode cX11_tryFrom 8 = .ok (.iload 4, 2) := by decide +kernel
theorem dX11_tryFrom_10 : decode cX11_tryFrom 10 = .ok (.aload_n 0, 1) := by decide +kernel
theorem dX11_tryFrom_11 : decode cX11_tryFrom 11 = .ok (.getfield 241, 3) := by decide +kernel
theorem dX11_tryFrom_14 : decode cX11_tryFrom 14 = .ok (.if_icmp .le 41, 3) := by decide +kernel
theorem dX11_tryFrom_17 : decode cX11_tryFrom 17 = .ok (.aload_n 0, 1) := by decide +kernel
theorem dX11_tryFrom_18 : decode cX11_tryFrom 18 = .ok (.iload 4, 2) := by decide +kernel
theorem dX11_tryFrom_20 : decode cX11_tryFrom 20 = .ok (.putfield 241, 3) := by decide +kernel
theorem dX11_tryFrom_23 : decode cX11_tryFrom 23 = .ok (.iconst 0, 1) := by decide +kernel
theorem dX11_tryFrom_24 : decode cX11_tryFrom 24 = .ok (.istore 5, 2) := by decide +kernel
theorem dX11_tryFrom_26 : decode cX11_tryFrom 26 = .ok (.iload 5, 2) := by decide +kernel
theorem dX11_tryFrom_28 : decode cX11_tryFrom 28 = .ok (.aload_n 0, 1) := by decide +kernel
theorem dX11_tryFrom_29 : decode cX11_tryFrom 29 = .ok (.getfield 238, 3) := by decide +kernel
theorem dX11_tryFrom_32 : decode cX11_tryFrom 32 = .ok (.if_icmp .ge 23, 3) := by decide +kernel
theorem dX11_tryFrom_35 : decode cX11_tryFrom 35 = .ok (.aload_n 0, 1) := by decide +kernel
theorem dX11_tryFrom_36 : decode cX11_tryFrom 36 = .ok (.getfield 117, 3) := by decide +kernel
theorem dX11_tryFrom_39 : decode cX11_tryFrom 39 = .ok (.iload 5, 2) := by decide +kernel
theorem dX11_tryFrom_41 : decode cX11_tryFrom 41 = .ok (.aload_n 0, 1) := by decide +kernel
theorem dX11_tryFrom_42 : decode cX11_tryFrom 42 = .ok (.getfield 114, 3) := by decide +kernel
theorem dX11_tryFrom_45 : decode cX11_tryFrom 45 = .ok (.iload 5, 2) := by decide +kernel
theorem dX11_tryFrom_47 : decode cX11_tryFrom 47 = .ok (.iaload, 1) := by decide +kernel
theorem dX11_tryFrom_48 : decode cX11_tryFrom 48 = .ok (.iastore, 1) := by decide +kernel
theorem dX11_tryFrom_49 : decode cX11_tryFrom 49 = .ok (.iinc 5 1, 3) := by decide +kernel
theorem dX11_tryFrom_52 : decode cX11_tryFrom 52 = .ok (.goto (-26), 3) := by decide +kernel
theorem dX11_tryFrom_55 : decode cX11_tryFrom 55 = .ok (.return_, 1) := by decide +kernel
theorem dX11_tryFrom_56 : decode cX11_tryFrom 56 = .ok (.aload_n 0, 1) := by decide +kernel
theorem dX11_tryFrom_57 : decode cX11_tryFrom 57 = .ok (.aload_n 0, 1) := by decide +kernel
theorem dX11_tryFrom_58 : decode cX11_tryFrom 58 = .ok (.getfield 108, 3) := by decide +kernel
theorem dX11_tryFrom_61 : decode cX11_tryFrom 61 = .ok (.iload_n 1, 1) := by decide +kernel
theorem dX11_tryFrom_62 : decode cX11_tryFrom 62 = .ok (.iaload, 1) := by decide +kernel
theorem dX11_tryFrom_63 : decode cX11_tryFrom 63 = .ok (.invokevirtual 149, 3) := by decide +kernel
theorem dX11_tryFrom_66 : decode cX11_tryFrom 66 = .ok (.istore 5, 2) := by decide +kernel
theorem dX11_tryFrom_68 : decode cX11_tryFrom 68 = .ok (.iload 5, 2) := by decide +kernel
theorem dX11_tryFrom_70 : decode cX11_tryFrom 70 = .ok (.iload_n 2, 1) := by decide +kernel
theorem dX11_tryFrom_71 : decode cX11_tryFrom 71 = .ok (.if_icmp .gt 31, 3) := by decide +kernel
theorem dX11_tryFrom_74 : decode cX11_tryFrom 74 = .ok (.aload_n 0, 1) := by decide +kernel
theorem dX11_tryFrom_75 : decode cX11_tryFrom 75 = .ok (.getfield 114, 3) := by decide +kernel
theorem dX11_tryFrom_78 : decode cX11_tryFrom 78 = .ok (.iload_n 1, 1) := by decide +kernel
theorem dX11_tryFrom_79 : decode cX11_tryFrom 79 = .ok (.iconst 1, 1) := by decide +kernel
theorem dX11_tryFrom_80 : decode cX11_tryFrom 80 = .ok (.iastore, 1) := by decide +kernel
theorem dX11_tryFrom_81 : decode cX11_tryFrom 81 = .ok (.aload_n 0, 1) := by decide +kernel
theorem dX11_tryFrom_82 : decode cX11_tryFrom 82 = .ok (.iload_n 1, 1) := by decide +kernel
theorem dX11_tryFrom_83 : decode cX11_tryFrom 83 = .ok (.iconst 1, 1) := by decide +kernel
theorem dX11_tryFrom_84 : decode cX11_tryFrom 84 = .ok (.iadd, 1) := by decide +kernel
theorem dX11_tryFrom_85 : decode cX11_tryFrom 85 = .ok (.iload_n 2, 1) := by decide +kernel
theorem dX11_tryFrom_86 : decode cX11_tryFrom 86 = .ok (.iload 5, 2) := by decide +kernel
theorem dX11_tryFrom_88 : decode cX11_tryFrom 88 = .ok (.isub, 1) := by decide +kernel
theorem dX11_tryFrom_89 : decode cX11_tryFrom 89 = .ok (.iload_n 3, 1) := by decide +kernel
theorem dX11_tryFrom_90 : decode cX11_tryFrom 90 = .ok (.iload 4, 2) := by decide +kernel
theorem dX11_tryFrom_92 : decode cX11_tryFrom 92 = .ok (.aload_n 0, 1) := by decide +kernel
theorem dX11_tryFrom_93 : decode cX11_tryFrom 93 = .ok (.getfield 111, 3) := by decide +kernel
theorem dX11_tryFrom_96 : decode cX11_tryFrom 96 = .ok (.iload_n 1, 1) := by decide +kernel
theorem dX11_tryFrom_97 : decode cX11_tryFrom 97 = .ok (.iaload, 1) := by decide +kernel
theorem dX11_tryFrom_98 : decode cX11_tryFrom 98 = .ok (.iadd, 1) := by decide +kernel
theorem dX11_tryFrom_99 : decode cX11_tryFrom 99 = .ok (.invokevirtual 244, 3) := by decide +kernel
theorem dX11_tryFrom_102 : decode cX11_tryFrom 102 = .ok (.iload 5, 2) := by decide +kernel
theorem dX11_tryFrom_104 : decode cX11_tryFrom 104 = .ok (.iload_n 3, 1) := by decide +kernel
theorem dX11_tryFrom_105 : decode cX11_tryFrom 105 = .ok (.if_icmp .gt 31, 3) := by decide +kernel
theorem dX11_tryFrom_108 : decode cX11_tryFrom 108 = .ok (.aload_n 0, 1) := by decide +kernel
theorem dX11_tryFrom_109 : decode cX11_tryFrom 109 = .ok (.getfield 114, 3) := by decide +kernel
theorem dX11_tryFrom_112 : decode cX11_tryFrom 112 = .ok (.iload_n 1, 1) := by decide +kernel
theorem dX11_tryFrom_113 : decode cX11_tryFrom 113 = .ok (.iconst 2, 1) := by decide +kernel
theorem dX11_tryFrom_114 : decode cX11_tryFrom 114 = .ok (.iastore, 1) := by decide +kernel
theorem dX11_tryFrom_115 : decode cX11_tryFrom 115 = .ok (.aload_n 0, 1) := by decide +kernel
theorem dX11_tryFrom_116 : decode cX11_tryFrom 116 = .ok (.iload_n 1, 1) := by decide +kernel
theorem dX11_tryFrom_117 : decode cX11_tryFrom 117 = .ok (.iconst 1, 1) := by decide +kernel
theorem dX11_tryFrom_118 : decode cX11_tryFrom 118 = .ok (.iadd, 1) := by decide +kernel
theorem dX11_tryFrom_119 : decode cX11_tryFrom 119 = .ok (.iload_n 2, 1) := by decide +kernel
theorem dX11_tryFrom_120 : decode cX11_tryFrom 120 = .ok (.iload_n 3, 1) := by decide +kernel
theorem dX11_tryFrom_121 : decode cX11_tryFrom 121 = .ok (.iload 5, 2) := by decide +kernel
theorem dX11_tryFrom_123 : decode cX11_tryFrom 123 = .ok (.isub, 1) := by decide +kernel
theorem dX11_tryFrom_124 : decode cX11_tryFrom 124 = .ok (.iload 4, 2) := by decide +kernel
theorem dX11_tryFrom_126 : decode cX11_tryFrom 126 = .ok (.aload_n 0, 1) := by decide +kernel
theorem dX11_tryFrom_127 : decode cX11_tryFrom 127 = .ok (.getfield 111, 3) := by decide +kernel
theorem dX11_tryFrom_130 : decode cX11_tryFrom 130 = .ok (.iload_n 1, 1) := by decide +kernel
theorem dX11_tryFrom_131 : decode cX11_tryFrom 131 = .ok (.iaload, 1) := by decide +kernel
theorem dX11_tryFrom_132 : decode cX11_tryFrom 132 = .ok (.iadd, 1) := by decide +kernel
theorem dX11_tryFrom_133 : decode cX11_tryFrom 133 = .ok (.invokevirtual 244, 3) := by decide +kernel
theorem dX11_tryFrom_136 : decode cX11_tryFrom 136 = .ok (.aload_n 0, 1) := by decide +kernel
theorem dX11_tryFrom_137 : decode cX11_tryFrom 137 = .ok (.getfield 114, 3) := by decide +kernel
theorem dX11_tryFrom_140 : decode cX11_tryFrom 140 = .ok (.iload_n 1, 1) := by decide +kernel
theorem dX11_tryFrom_141 : decode cX11_tryFrom 141 = .ok (.iconst 0, 1) := by decide +kernel
theorem dX11_tryFrom_142 : decode cX11_tryFrom 142 = .ok (.iastore, 1) := by decide +kernel
theorem dX11_tryFrom_143 : decode cX11_tryFrom 143 = .ok (.aload_n 0, 1) := by decide +kernel
theorem dX11_tryFrom_144 : decode cX11_tryFrom 144 = .ok (.iload_n 1, 1) := by decide +kernel
theorem dX11_tryFrom_145 : decode cX11_tryFrom 145 = .ok (.iconst 1, 1) := by decide +kernel
theorem dX11_tryFrom_146 : decode cX11_tryFrom 146 = .ok (.iadd, 1) := by decide +kernel
theorem dX11_tryFrom_147 : decode cX11_tryFrom 147 = .ok (.iload_n 2, 1) := by decide +kernel
theorem dX11_tryFrom_148 : decode cX11_tryFrom 148 = .ok (.iload_n 3, 1) := by decide +kernel
theorem dX11_tryFrom_149 : decode cX11_tryFrom 149 = .ok (.iload 4, 2) := by decide +kernel
theorem dX11_tryFrom_151 : decode cX11_tryFrom 151 = .ok (.invokevirtual 244, 3) := by decide +kernel
theorem dX11_tryFrom_154 : decode cX11_tryFrom 154 = .ok (.return_, 1) := by decide +kernel
theorem dX11_board_0 : decode cX11_board 0 = .ok (.iload_n 1, 1) := by decide +kernel
theorem dX11_board_1 : decode cX11_board 1 = .ok (.iconst 0, 1) := by decide +kernel
theorem dX11_board_2 : decode cX11_board 2 = .ok (.iconst 4, 1) := by decide +kernel
theorem dX11_board_3 : decode cX11_board 3 = .ok (.invokestatic 124, 3) := by decide +kernel
theorem dX11_board_6 : decode cX11_board 6 = .ok (.ifCond .eq 38, 3) := by decide +kernel
theorem dX11_board_9 : decode cX11_board 9 = .ok (.iload_n 2, 1) := by decide +kernel
theorem dX11_board_10 : decode cX11_board 10 = .ok (.ifCond .lt 34, 3) := by decide +kernel
theorem dX11_board_13 : decode cX11_board 13 = .ok (.iload_n 2, 1) := by decide +kernel
theorem dX11_board_14 : decode cX11_board 14 = .ok (.bipush 100, 2) := by decide +kernel
theorem dX11_board_16 : decode cX11_board 16 = .ok (.idiv, 1) := by decide +kernel
theorem dX11_board_17 : decode cX11_board 17 = .ok (.bipush 24, 2) := by decide +kernel
theorem dX11_board_19 : decode cX11_board 19 = .ok (.if_icmp .gt 25, 3) := by decide +kernel
theorem dX11_board_22 : decode cX11_board 22 = .ok (.iload_n 2, 1) := by decide +kernel
theorem dX11_board_23 : decode cX11_board 23 = .ok (.bipush 100, 2) := by decide +kernel
theorem dX11_board_25 : decode cX11_board 25 = .ok (.irem, 1) := by decide +kernel
theorem dX11_board_26 : decode cX11_board 26 = .ok (.bipush 24, 2) := by decide +kernel
theorem dX11_board_28 : decode cX11_board 28 = .ok (.if_icmp .gt 16, 3) := by decide +kernel
theorem dX11_board_31 : decode cX11_board 31 = .ok (.iload_n 3, 1) := by decide +kernel
theorem dX11_board_32 : decode cX11_board 32 = .ok (.iconst (-1), 1) := by decide +kernel
theorem dX11_board_33 : decode cX11_board 33 = .ok (.if_icmp .eq 17, 3) := by decide +kernel
theorem dX11_board_36 : decode cX11_board 36 = .ok (.aload_n 0, 1) := by decide +kernel
theorem dX11_board_37 : decode cX11_board 37 = .ok (.iload_n 3, 1) := by decide +kernel
theorem dX11_board_38 : decode cX11_board 38 = .ok (.invokevirtual 141, 3) := by decide +kernel
theorem dX11_board_41 : decode cX11_board 41 = .ok (.ifCond .ne 9, 3) := by decide +kernel
theorem dX11_board_44 : decode cX11_board 44 = .ok (.aload_n 0, 1) := by decide +kernel
theorem dX11_board_45 : decode cX11_board 45 = .ok (.iconst 1, 1) := by decide +kernel
theorem dX11_board_46 : decode cX11_board 46 = .ok (.invokevirtual 137, 3) := by decide +kernel
theorem dX11_board_49 : decode cX11_board 49 = .ok (.ireturn, 1) := by decide +kernel
theorem dX11_board_50 : decode cX11_board 50 = .ok (.aload_n 0, 1) := by decide +kernel
theorem dX11_board_51 : decode cX11_board 51 = .ok (.iload_n 1, 1) := by decide +kernel
theorem dX11_board_52 : decode cX11_board 52 = .ok (.invokevirtual 248, 3) := by decide +kernel
theorem dX11_board_55 : decode cX11_board 55 = .ok (.aload_n 0, 1) := by decide +kernel
theorem dX11_board_56 : decode cX11_board 56 = .ok (.iconst (-1), 1) := by decide +kernel
theorem dX11_board_57 : decode cX11_board 57 = .ok (.putfield 241, 3) := by decide +kernel
theorem dX11_board_60 : decode cX11_board 60 = .ok (.aload_n 0, 1) := by decide +kernel
theorem dX11_board_61 : decode cX11_board 61 = .ok (.iconst 0, 1) := by decide +kernel
theorem dX11_board_62 : decode cX11_board 62 = .ok (.iload_n 2, 1) := by decide +kernel
theorem dX11_board_63 : decode cX11_board 63 = .ok (.bipush 100, 2) := by decide +kernel
theorem dX11_board_65 : decode cX11_board 65 = .ok (.idiv, 1) := by decide +kernel
theorem dX11_board_66 : decode cX11_board 66 = .ok (.iload_n 2, 1) := by decide +kernel
theorem dX11_board_67 : decode cX11_board 67 = .ok (.bipush 100, 2) := by decide +kernel
theorem dX11_board_69 : decode cX11_board 69 = .ok (.irem, 1) := by decide +kernel
theorem dX11_board_70 : decode cX11_board 70 = .ok (.iconst 0, 1) := by decide +kernel
theorem dX11_board_71 : decode cX11_board 71 = .ok (.invokevirtual 244, 3) := by decide +kernel
theorem dX11_board_74 : decode cX11_board 74 = .ok (.iload_n 3, 1) := by decide +kernel
theorem dX11_board_75 : decode cX11_board 75 = .ok (.iconst (-1), 1) := by decide +kernel
theorem dX11_board_76 : decode cX11_board 76 = .ok (.if_icmp .ne 8, 3) := by decide +kernel
theorem dX11_board_79 : decode cX11_board 79 = .ok (.aload_n 0, 1) := by decide +kernel
theorem dX11_board_80 : decode cX11_board 80 = .ok (.getfield 241, 3) := by decide +kernel
theorem dX11_board_83 : decode cX11_board 83 = .ok (.ireturn, 1) := by decide +kernel
theorem dX11_board_84 : decode cX11_board 84 = .ok (.iconst 0, 1) := by decide +kernel
theorem dX11_board_85 : decode cX11_board 85 = .ok (.istore 4, 2) := by decide +kernel
theorem dX11_board_87 : decode cX11_board 87 = .ok (.iload 4, 2) := by decide +kernel
theorem dX11_board_89 : decode cX11_board 89 = .ok (.aload_n 0, 1) := by decide +kernel
theorem dX11_board_90 : decode cX11_board 90 = .ok (.getfield 238, 3) := by decide +kernel
theorem dX11_board_93 : decode cX11_board 93 = .ok (.if_icmp .ge 28, 3) := by decide +kernel
theorem dX11_board_96 : decode cX11_board 96 = .ok (.aload_n 0, 1) := by decide +kernel
theorem dX11_board_97 : decode cX11_board 97 = .ok (.getfield 108, 3) := by decide +kernel
theorem dX11_board_100 : decode cX11_board 100 = .ok (.iload 4, 2) := by decide +kernel
theorem dX11_board_102 : decode cX11_board 102 = .ok (.iaload, 1) := by decide +kernel
theorem dX11_board_103 : decode cX11_board 103 = .ok (.iload_n 3, 1) := by decide +kernel
theorem dX11_board_104 : decode cX11_board 104 = .ok (.if_icmp .ne 11, 3) := by decide +kernel
theorem dX11_board_107 : decode cX11_board 107 = .ok (.aload_n 0, 1) := by decide +kernel
theorem dX11_board_108 : decode cX11_board 108 = .ok (.getfield 117, 3) := by decide +kernel
theorem dX11_board_111 : decode cX11_board 111 = .ok (.iload 4, 2) := by decide +kernel
theorem dX11_board_113 : decode cX11_board 113 = .ok (.iaload, 1) := by decide +kernel
theorem dX11_board_114 : decode cX11_board 114 = .ok (.ireturn, 1) := by decide +kernel
theorem dX11_board_115 : decode cX11_board 115 = .ok (.iinc 4 1, 3) := by decide +kernel
theorem dX11_board_118 : decode cX11_board 118 = .ok (.goto (-31), 3) := by decide +kernel
theorem dX11_board_121 : decode cX11_board 121 = .ok (.aload_n 0, 1) := by decide +kernel
theorem dX11_board_122 : decode cX11_board 122 = .ok (.iconst 2, 1) := by decide +kernel
theorem dX11_board_123 : decode cX11_board 123 = .ok (.invokevirtual 137, 3) := by decide +kernel
theorem dX11_board_126 : decode cX11_board 126 = .ok (.ireturn, 1) := by decide +kernel
theorem dX11_isRest_0 : decode cX11_isRest 0 = .ok (.aload_n 0, 1) := by decide +kernel
theorem dX11_isRest_1 : decode cX11_isRest 1 = .ok (.getfield 86, 3) := by decide +kernel
theorem dX11_isRest_4 : decode cX11_isRest 4 = .ok (.bipush 7, 2) := by decide +kernel
theorem dX11_isRest_6 : decode cX11_isRest 6 = .ok (.iload_n 1, 1) := by decide +kernel
theorem dX11_isRest_7 : decode cX11_isRest 7 = .ok (.imul, 1) := by decide +kernel
theorem dX11_isRest_8 : decode cX11_isRest 8 = .ok (.iload_n 2, 1) := by decide +kernel
theorem dX11_isRest_9 : decode cX11_isRest 9 = .ok (.bipush 24, 2) := by decide +kernel
theorem dX11_isRest_11 : decode cX11_isRest 11 = .ok (.idiv, 1) := by decide +kernel
theorem dX11_isRest_12 : decode cX11_isRest 12 = .ok (.iadd, 1) := by decide +kernel
theorem dX11_isRest_13 : decode cX11_isRest 13 = .ok (.iaload, 1) := by decide +kernel
theorem dX11_isRest_14 : decode cX11_isRest 14 = .ok (.iload_n 2, 1) := by decide +kernel
theorem dX11_isRest_15 : decode cX11_isRest 15 = .ok (.bipush 24, 2) := by decide +kernel
theorem dX11_isRest_17 : decode cX11_isRest 17 = .ok (.irem, 1) := by decide +kernel
theorem dX11_isRest_18 : decode cX11_isRest 18 = .ok (.ishr, 1) := by decide +kernel
theorem dX11_isRest_19 : decode cX11_isRest 19 = .ok (.iconst 1, 1) := by decide +kernel
theorem dX11_isRest_20 : decode cX11_isRest 20 = .ok (.iand, 1) := by decide +kernel
theorem dX11_isRest_21 : decode cX11_isRest 21 = .ok (.iconst 1, 1) := by decide +kernel
theorem dX11_isRest_22 : decode cX11_isRest 22 = .ok (.if_icmp .ne 7, 3) := by decide +kernel
theorem dX11_isRest_25 : decode cX11_isRest 25 = .ok (.iconst 1, 1) := by decide +kernel
theorem dX11_isRest_26 : decode cX11_isRest 26 = .ok (.goto 4, 3) := by decide +kernel
theorem dX11_isRest_29 : decode cX11_isRest 29 = .ok (.iconst 0, 1) := by decide +kernel
theorem dX11_isRest_30 : decode cX11_isRest 30 = .ok (.ireturn, 1) := by decide +kernel
theorem dX11_restIn_0 : decode cX11_restIn 0 = .ok (.iconst 0, 1) := by decide +kernel
theorem dX11_restIn_1 : decode cX11_restIn 1 = .ok (.istore 4, 2) := by decide +kernel
theorem dX11_restIn_3 : decode cX11_restIn 3 = .ok (.iload_n 2, 1) := by decide +kernel
theorem dX11_restIn_4 : decode cX11_restIn 4 = .ok (.istore 5, 2) := by decide +kernel
theorem dX11_restIn_6 : decode cX11_restIn 6 = .ok (.iload 5, 2) := by decide +kernel
theorem dX11_restIn_8 : decode cX11_restIn 8 = .ok (.iload_n 2, 1) := by decide +kernel
theorem dX11_restIn_9 : decode cX11_restIn 9 = .ok (.iload_n 3, 1) := by decide +kernel
theorem dX11_restIn_10 : decode cX11_restIn 10 = .ok (.iadd, 1) := by decide +kernel
theorem dX11_restIn_11 : decode cX11_restIn 11 = .ok (.if_icmp .ge 29, 3) := by decide +kernel
theorem dX11_restIn_14 : decode cX11_restIn 14 = .ok (.iload 4, 2) := by decide +kernel
theorem dX11_restIn_16 : decode cX11_restIn 16 = .ok (.aload_n 0, 1) := by decide +kernel
theorem dX11_restIn_17 : decode cX11_restIn 17 = .ok (.iload_n 1, 1) := by decide +kernel
theorem dX11_restIn_18 : decode cX11_restIn 18 = .ok (.iload 5, 2) := by decide +kernel
theorem dX11_restIn_20 : decode cX11_restIn 20 = .ok (.invokevirtual 251, 3) := by decide +kernel
theorem dX11_restIn_23 : decode cX11_restIn 23 = .ok (.ifCond .eq 7, 3) := by decide +kernel
theorem dX11_restIn_26 : decode cX11_restIn 26 = .ok (.iconst 1, 1) := by decide +kernel
theorem dX11_restIn_27 : decode cX11_restIn 27 = .ok (.goto 4, 3) := by decide +kernel
theorem dX11_restIn_30 : decode cX11_restIn 30 = .ok (.iconst 0, 1) := by decide +kernel
theorem dX11_restIn_31 : decode cX11_restIn 31 = .ok (.iadd, 1) := by decide +kernel
theorem dX11_restIn_32 : decode cX11_restIn 32 = .ok (.istore 4, 2) := by decide +kernel
theorem dX11_restIn_34 : decode cX11_restIn 34 = .ok (.iinc 5 1, 3) := by decide +kernel
theorem dX11_restIn_37 : decode cX11_restIn 37 = .ok (.goto (-31), 3) := by decide +kernel
theorem dX11_restIn_40 : decode cX11_restIn 40 = .ok (.iload 4, 2) := by decide +kernel
theorem dX11_restIn_42 : decode cX11_restIn 42 = .ok (.ireturn, 1) := by decide +kernel
theorem dX11_rest_0 : decode cX11_rest 0 = .ok (.aload_n 0, 1) := by decide +kernel
theorem dX11_rest_1 : decode cX11_rest 1 = .ok (.iload_n 1, 1) := by decide +kernel
theorem dX11_rest_2 : decode cX11_rest 2 = .ok (.invokevirtual 141, 3) := by decide +kernel
theorem dX11_rest_5 : decode cX11_rest 5 = .ok (.ifCond .eq 13, 3) := by decide +kernel
theorem dX11_rest_8 : decode cX11_rest 8 = .ok (.iload_n 2, 1) := by decide +kernel
theorem dX11_rest_9 : decode cX11_rest 9 = .ok (.iconst 0, 1) := by decide +kernel
theorem dX11_rest_10 : decode cX11_rest 10 = .ok (.ldc 254, 2) := by decide +kernel
theorem dX11_rest_12 : decode cX11_rest 12 = .ok (.invokestatic 124, 3) := by decide +kernel
theorem dX11_rest_15 : decode cX11_rest 15 = .ok (.ifCond .ne 9, 3) := by decide +kernel
theorem dX11_rest_18 : decode cX11_rest 18 = .ok (.aload_n 0, 1) := by decide +kernel
theorem dX11_rest_19 : decode cX11_rest 19 = .ok (.iconst 1, 1) := by decide +kernel
theorem dX11_rest_20 : decode cX11_rest 20 = .ok (.invokevirtual 137, 3) := by decide +kernel
theorem dX11_rest_23 : decode cX11_rest 23 = .ok (.ireturn, 1) := by decide +kernel
theorem dX11_rest_24 : decode cX11_rest 24 = .ok (.iconst 0, 1) := by decide +kernel
theorem dX11_rest_25 : decode cX11_rest 25 = .ok (.istore_n 3, 1) := by decide +kernel
theorem dX11_rest_26 : decode cX11_rest 26 = .ok (.iload_n 3, 1) := by decide +kernel
theorem dX11_rest_27 : decode cX11_rest 27 = .ok (.bipush 6, 2) := by decide +kernel
theorem dX11_rest_29 : decode cX11_rest 29 = .ok (.if_icmp .ge 33, 3) := by decide +kernel
theorem dX11_rest_32 : decode cX11_rest 32 = .ok (.aload_n 0, 1) := by decide +kernel
theorem dX11_rest_33 : decode cX11_rest 33 = .ok (.getfield 86, 3) := by decide +kernel
theorem dX11_rest_36 : decode cX11_rest 36 = .ok (.bipush 7, 2) := by decide +kernel
theorem dX11_rest_38 : decode cX11_rest 38 = .ok (.iload_n 1, 1) := by decide +kernel
theorem dX11_rest_39 : decode cX11_rest 39 = .ok (.imul, 1) := by decide +kernel
theorem dX11_rest_40 : decode cX11_rest 40 = .ok (.iload_n 3, 1) := by decide +kernel
theorem dX11_rest_41 : decode cX11_rest 41 = .ok (.iadd, 1) := by decide +kernel
theorem dX11_rest_42 : decode cX11_rest 42 = .ok (.aload_n 0, 1) := by decide +kernel
theorem dX11_rest_43 : decode cX11_rest 43 = .ok (.getfield 86, 3) := by decide +kernel
theorem dX11_rest_46 : decode cX11_rest 46 = .ok (.bipush 7, 2) := by decide +kernel
theorem dX11_rest_48 : decode cX11_rest 48 = .ok (.iload_n 1, 1) := by decide +kernel
theorem dX11_rest_49 : decode cX11_rest 49 = .ok (.imul, 1) := by decide +kernel
theorem dX11_rest_50 : decode cX11_rest 50 = .ok (.iload_n 3, 1) := by decide +kernel
theorem dX11_rest_51 : decode cX11_rest 51 = .ok (.iadd, 1) := by decide +kernel
theorem dX11_rest_52 : decode cX11_rest 52 = .ok (.iconst 1, 1) := by decide +kernel
theorem dX11_rest_53 : decode cX11_rest 53 = .ok (.iadd, 1) := by decide +kernel
theorem dX11_rest_54 : decode cX11_rest 54 = .ok (.iaload, 1) := by decide +kernel
theorem dX11_rest_55 : decode cX11_rest 55 = .ok (.iastore, 1) := by decide +kernel
theorem dX11_rest_56 : decode cX11_rest 56 = .ok (.iinc 3 1, 3) := by decide +kernel
theorem dX11_rest_59 : decode cX11_rest 59 = .ok (.goto (-33), 3) := by decide +kernel
theorem dX11_rest_62 : decode cX11_rest 62 = .ok (.aload_n 0, 1) := by decide +kernel
theorem dX11_rest_63 : decode cX11_rest 63 = .ok (.getfield 86, 3) := by decide +kernel
theorem dX11_rest_66 : decode cX11_rest 66 = .ok (.bipush 7, 2) := by decide +kernel
theorem dX11_rest_68 : decode cX11_rest 68 = .ok (.iload_n 1, 1) := by decide +kernel
theorem dX11_rest_69 : decode cX11_rest 69 = .ok (.imul, 1) := by decide +kernel
theorem dX11_rest_70 : decode cX11_rest 70 = .ok (.bipush 6, 2) := by decide +kernel
theorem dX11_rest_72 : decode cX11_rest 72 = .ok (.iadd, 1) := by decide +kernel
theorem dX11_rest_73 : decode cX11_rest 73 = .ok (.iload_n 2, 1) := by decide +kernel
theorem dX11_rest_74 : decode cX11_rest 74 = .ok (.iastore, 1) := by decide +kernel
theorem dX11_rest_75 : decode cX11_rest 75 = .ok (.aload_n 0, 1) := by decide +kernel
theorem dX11_rest_76 : decode cX11_rest 76 = .ok (.iload_n 1, 1) := by decide +kernel
theorem dX11_rest_77 : decode cX11_rest 77 = .ok (.iconst 0, 1) := by decide +kernel
theorem dX11_rest_78 : decode cX11_rest 78 = .ok (.sipush 168, 3) := by decide +kernel
theorem dX11_rest_81 : decode cX11_rest 81 = .ok (.invokevirtual 255, 3) := by decide +kernel
theorem dX11_rest_84 : decode cX11_rest 84 = .ok (.ireturn, 1) := by decide +kernel
theorem dX11_tired_0 : decode cX11_tired 0 = .ok (.aload_n 0, 1) := by decide +kernel
theorem dX11_tired_1 : decode cX11_tired 1 = .ok (.iload_n 1, 1) := by decide +kernel
theorem dX11_tired_2 : decode cX11_tired 2 = .ok (.invokevirtual 141, 3) := by decide +kernel
theorem dX11_tired_5 : decode cX11_tired 5 = .ok (.ifCond .eq 12, 3) := by decide +kernel
theorem dX11_tired_8 : decode cX11_tired 8 = .ok (.iload_n 2, 1) := by decide +kernel
theorem dX11_tired_9 : decode cX11_tired 9 = .ok (.iconst 0, 1) := by decide +kernel
theorem dX11_tired_10 : decode cX11_tired 10 = .ok (.iconst 2, 1) := by decide +kernel
theorem dX11_tired_11 : decode cX11_tired 11 = .ok (.invokestatic 124, 3) := by decide +kernel
theorem dX11_tired_14 : decode cX11_tired 14 = .ok (.ifCond .ne 9, 3) := by decide +kernel
theorem dX11_tired_17 : decode cX11_tired 17 = .ok (.aload_n 0, 1) := by decide +kernel
theorem dX11_tired_18 : decode cX11_tired 18 = .ok (.iconst 1, 1) := by decide +kernel
theorem dX11_tired_19 : decode cX11_tired 19 = .ok (.invokevirtual 137, 3) := by decide +kernel
theorem dX11_tired_22 : decode cX11_tired 22 = .ok (.ireturn, 1) := by decide +kernel
theorem dX11_tired_23 : decode cX11_tired 23 = .ok (.iload_n 2, 1) := by decide +kernel
theorem dX11_tired_24 : decode cX11_tired 24 = .ok (.ifCond .le 34, 3) := by decide +kernel
theorem dX11_tired_27 : decode cX11_tired 27 = .ok (.aload_n 0, 1) := by decide +kernel
theorem dX11_tired_28 : decode cX11_tired 28 = .ok (.iload_n 1, 1) := by decide +kernel
theorem dX11_tired_29 : decode cX11_tired 29 = .ok (.iconst 0, 1) := by decide +kernel
theorem dX11_tired_30 : decode cX11_tired 30 = .ok (.sipush 168, 3) := by decide +kernel
theorem dX11_tired_33 : decode cX11_tired 33 = .ok (.invokevirtual 255, 3) := by decide +kernel
theorem dX11_tired_36 : decode cX11_tired 36 = .ok (.istore_n 3, 1) := by decide +kernel
theorem dX11_tired_37 : decode cX11_tired 37 = .ok (.iload_n 2, 1) := by decide +kernel
theorem dX11_tired_38 : decode cX11_tired 38 = .ok (.iconst 2, 1) := by decide +kernel
theorem dX11_tired_39 : decode cX11_tired 39 = .ok (.if_icmp .ne 7, 3) := by decide +kernel
theorem dX11_tired_42 : decode cX11_tired 42 = .ok (.iload_n 3, 1) := by decide +kernel
theorem dX11_tired_43 : decode cX11_tired 43 = .ok (.goto 14, 3) := by decide +kernel
theorem dX11_tired_46 : decode cX11_tired 46 = .ok (.iload_n 3, 1) := by decide +kernel
theorem dX11_tired_47 : decode cX11_tired 47 = .ok (.bipush 77, 2) := by decide +kernel
theorem dX11_tired_49 : decode cX11_tired 49 = .ok (.if_icmp .ge 7, 3) := by decide +kernel
theorem dX11_tired_52 : decode cX11_tired 52 = .ok (.iconst 1, 1) := by decide +kernel
theorem dX11_tired_53 : decode cX11_tired 53 = .ok (.goto 4, 3) := by decide +kernel
theorem dX11_tired_56 : decode cX11_tired 56 = .ok (.iconst 0, 1) := by decide +kernel
theorem dX11_tired_57 : decode cX11_tired 57 = .ok (.ireturn, 1) := by decide +kernel
theorem dX11_tired_58 : decode cX11_tired 58 = .ok (.bipush 23, 2) := by decide +kernel
theorem dX11_tired_60 : decode cX11_tired 60 = .ok (.istore_n 3, 1) := by decide +kernel
theorem dX11_tired_61 : decode cX11_tired 61 = .ok (.iload_n 3, 1) := by decide +kernel
theorem dX11_tired_62 : decode cX11_tired 62 = .ok (.sipush 168, 3) := by decide +kernel
theorem dX11_tired_65 : decode cX11_tired 65 = .ok (.if_icmp .ge 27, 3) := by decide +kernel
theorem dX11_tired_68 : decode cX11_tired 68 = .ok (.aload_n 0, 1) := by decide +kernel
theorem dX11_tired_69 : decode cX11_tired 69 = .ok (.iload_n 1, 1) := by decide +kernel
theorem dX11_tired_70 : decode cX11_tired 70 = .ok (.iload_n 3, 1) := by decide +kernel
theorem dX11_tired_71 : decode cX11_tired 71 = .ok (.bipush 23, 2) := by decide +kernel
theorem dX11_tired_73 : decode cX11_tired 73 = .ok (.isub, 1) := by decide +kernel
theorem dX11_tired_74 : decode cX11_tired 74 = .ok (.bipush 24, 2) := by decide +kernel
theorem dX11_tired_76 : decode cX11_tired 76 = .ok (.invokevirtual 255, 3) := by decide +kernel
theorem dX11_tired_79 : decode cX11_tired 79 = .ok (.bipush 10, 2) := by decide +kernel
theorem dX11_tired_81 : decode cX11_tired 81 = .ok (.if_icmp .ge 5, 3) := by decide +kernel
theorem dX11_tired_84 : decode cX11_tired 84 = .ok (.iload_n 3, 1) := by decide +kernel
theorem dX11_tired_85 : decode cX11_tired 85 = .ok (.ireturn, 1) := by decide +kernel
theorem dX11_tired_86 : decode cX11_tired 86 = .ok (.iinc 3 1, 3) := by decide +kernel
theorem dX11_tired_89 : decode cX11_tired 89 = .ok (.goto (-28), 3) := by decide +kernel
theorem dX11_tired_92 : decode cX11_tired 92 = .ok (.aload_n 0, 1) := by decide +kernel
theorem dX11_tired_93 : decode cX11_tired 93 = .ok (.iconst 2, 1) := by decide +kernel
theorem dX11_tired_94 : decode cX11_tired 94 = .ok (.invokevirtual 137, 3) := by decide +kernel
theorem dX11_tired_97 : decode cX11_tired 97 = .ok (.ireturn, 1) := by decide +kernel
theorem dX11_months_0 : decode cX11_months 0 = .ok (.iload_n 1, 1) := by decide +kernel
theorem dX11_months_1 : decode cX11_months 1 = .ok (.iconst 1, 1) := by decide +kernel
theorem dX11_months_2 : decode cX11_months 2 = .ok (.bipush 99, 2) := by decide +kernel
theorem dX11_months_4 : decode cX11_months 4 = .ok (.invokestatic 124, 3) := by decide +kernel
theorem dX11_months_7 : decode cX11_months 7 = .ok (.ifCond .ne 9, 3) := by decide +kernel
theorem dX11_months_10 : decode cX11_months 10 = .ok (.aload_n 0, 1) := by decide +kernel
theorem dX11_months_11 : decode cX11_months 11 = .ok (.iconst 1, 1) := by decide +kernel
theorem dX11_months_12 : decode cX11_months 12 = .ok (.invokevirtual 137, 3) := by decide +kernel
theorem dX11_months_15 : decode cX11_months 15 = .ok (.ireturn, 1) := by decide +kernel
theorem dX11_months_16 : decode cX11_months 16 = .ok (.aload_n 0, 1) := by decide +kernel
theorem dX11_months_17 : decode cX11_months 17 = .ok (.getfield 89, 3) := by decide +kernel
theorem dX11_months_20 : decode cX11_months 20 = .ok (.istore_n 2, 1) := by decide +kernel
theorem dX11_months_21 : decode cX11_months 21 = .ok (.aload_n 0, 1) := by decide +kernel
theorem dX11_months_22 : decode cX11_months 22 = .ok (.iload_n 1, 1) := by decide +kernel
theorem dX11_months_23 : decode cX11_months 23 = .ok (.putfield 89, 3) := by decide +kernel
theorem dX11_months_26 : decode cX11_months 26 = .ok (.iload_n 2, 1) := by decide +kernel
theorem dX11_months_27 : decode cX11_months 27 = .ok (.ireturn, 1) := by decide +kernel
theorem dX11_banned_0 : decode cX11_banned 0 = .ok (.aload_n 0, 1) := by decide +kernel
theorem dX11_banned_1 : decode cX11_banned 1 = .ok (.iload_n 1, 1) := by decide +kernel
theorem dX11_banned_2 : decode cX11_banned 2 = .ok (.invokevirtual 141, 3) := by decide +kernel
theorem dX11_banned_5 : decode cX11_banned 5 = .ok (.ifCond .eq 12, 3) := by decide +kernel
theorem dX11_banned_8 : decode cX11_banned 8 = .ok (.iload_n 2, 1) := by decide +kernel
theorem dX11_banned_9 : decode cX11_banned 9 = .ok (.iconst 0, 1) := by decide +kernel
theorem dX11_banned_10 : decode cX11_banned 10 = .ok (.iconst 2, 1) := by decide +kernel
theorem dX11_banned_11 : decode cX11_banned 11 = .ok (.invokestatic 124, 3) := by decide +kernel
theorem dX11_banned_14 : decode cX11_banned 14 = .ok (.ifCond .ne 9, 3) := by decide +kernel
theorem dX11_banned_17 : decode cX11_banned 17 = .ok (.aload_n 0, 1) := by decide +kernel
theorem dX11_banned_18 : decode cX11_banned 18 = .ok (.iconst 1, 1) := by decide +kernel
theorem dX11_banned_19 : decode cX11_banned 19 = .ok (.invokevirtual 137, 3) := by decide +kernel
theorem dX11_banned_22 : decode cX11_banned 22 = .ok (.ireturn, 1) := by decide +kernel
theorem dX11_banned_23 : decode cX11_banned 23 = .ok (.iload_n 2, 1) := by decide +kernel
theorem dX11_banned_24 : decode cX11_banned 24 = .ok (.ifCond .ne 20, 3) := by decide +kernel
theorem dX11_banned_27 : decode cX11_banned 27 = .ok (.aload_n 0, 1) := by decide +kernel
theorem dX11_banned_28 : decode cX11_banned 28 = .ok (.getfield 93, 3) := by decide +kernel
theorem dX11_banned_31 : decode cX11_banned 31 = .ok (.iload_n 1, 1) := by decide +kernel
theorem dX11_banned_32 : decode cX11_banned 32 = .ok (.baload, 1) := by decide +kernel
theorem dX11_banned_33 : decode cX11_banned 33 = .ok (.ifCond .eq 7, 3) := by decide +kernel
theorem dX11_banned_36 : decode cX11_banned 36 = .ok (.iconst 1, 1) := by decide +kernel
theorem dX11_banned_37 : decode cX11_banned 37 = .ok (.goto 44, 3) := by decide +kernel
theorem dX11_banned_40 : decode cX11_banned 40 = .ok (.iconst 0, 1) := by decide +kernel
theorem dX11_banned_41 : decode cX11_banned 41 = .ok (.goto 40, 3) := by decide +kernel
theorem dX11_banned_44 : decode cX11_banned 44 = .ok (.iload_n 2, 1) := by decide +kernel
theorem dX11_banned_45 : decode cX11_banned 45 = .ok (.iconst 1, 1) := by decide +kernel
theorem dX11_banned_46 : decode cX11_banned 46 = .ok (.if_icmp .ne 12, 3) := by decide +kernel
theorem dX11_banned_49 : decode cX11_banned 49 = .ok (.aload_n 0, 1) := by decide +kernel
theorem dX11_banned_50 : decode cX11_banned 50 = .ok (.getfield 96, 3) := by decide +kernel
theorem dX11_banned_53 : decode cX11_banned 53 = .ok (.iload_n 1, 1) := by decide +kernel
theorem dX11_banned_54 : decode cX11_banned 54 = .ok (.iaload, 1) := by decide +kernel
theorem dX11_banned_55 : decode cX11_banned 55 = .ok (.goto 26, 3) := by decide +kernel
theorem dX11_banned_58 : decode cX11_banned 58 = .ok (.aload_n 0, 1) := by decide +kernel
theorem dX11_banned_59 : decode cX11_banned 59 = .ok (.getfield 93, 3) := by decide +kernel
theorem dX11_banned_62 : decode cX11_banned 62 = .ok (.iload_n 1, 1) := by decide +kernel
theorem dX11_banned_63 : decode cX11_banned 63 = .ok (.baload, 1) := by decide +kernel
theorem dX11_banned_64 : decode cX11_banned 64 = .ok (.ifCond .eq 12, 3) := by decide +kernel
theorem dX11_banned_67 : decode cX11_banned 67 = .ok (.aload_n 0, 1) := by decide +kernel
theorem dX11_banned_68 : decode cX11_banned 68 = .ok (.getfield 99, 3) := by decide +kernel
theorem dX11_banned_71 : decode cX11_banned 71 = .ok (.iload_n 1, 1) := by decide +kernel
theorem dX11_banned_72 : decode cX11_banned 72 = .ok (.iaload, 1) := by decide +kernel
theorem dX11_banned_73 : decode cX11_banned 73 = .ok (.goto 8, 3) := by decide +kernel
theorem dX11_banned_76 : decode cX11_banned 76 = .ok (.aload_n 0, 1) := by decide +kernel
theorem dX11_banned_77 : decode cX11_banned 77 = .ok (.iconst 2, 1) := by decide +kernel
theorem dX11_banned_78 : decode cX11_banned 78 = .ok (.invokevirtual 137, 3) := by decide +kernel
theorem dX11_banned_81 : decode cX11_banned 81 = .ok (.ireturn, 1) := by decide +kernel
theorem dX11_lift_0 : decode cX11_lift 0 = .ok (.aload_n 0, 1) := by decide +kernel
theorem dX11_lift_1 : decode cX11_lift 1 = .ok (.iload_n 1, 1) := by decide +kernel
theorem dX11_lift_2 : decode cX11_lift 2 = .ok (.invokevirtual 141, 3) := by decide +kernel
theorem dX11_lift_5 : decode cX11_lift 5 = .ok (.ifCond .ne 9, 3) := by decide +kernel
theorem dX11_lift_8 : decode cX11_lift 8 = .ok (.aload_n 0, 1) := by decide +kernel
theorem dX11_lift_9 : decode cX11_lift 9 = .ok (.iconst 1, 1) := by decide +kernel
theorem dX11_lift_10 : decode cX11_lift 10 = .ok (.invokevirtual 137, 3) := by decide +kernel
theorem dX11_lift_13 : decode cX11_lift 13 = .ok (.ireturn, 1) := by decide +kernel
theorem dX11_lift_14 : decode cX11_lift 14 = .ok (.aload_n 0, 1) := by decide +kernel
theorem dX11_lift_15 : decode cX11_lift 15 = .ok (.getfield 93, 3) := by decide +kernel
theorem dX11_lift_18 : decode cX11_lift 18 = .ok (.iload_n 1, 1) := by decide +kernel
theorem dX11_lift_19 : decode cX11_lift 19 = .ok (.baload, 1) := by decide +kernel
theorem dX11_lift_20 : decode cX11_lift 20 = .ok (.ifCond .eq 34, 3) := by decide +kernel
theorem dX11_lift_23 : decode cX11_lift 23 = .ok (.aload_n 0, 1) := by decide +kernel
theorem dX11_lift_24 : decode cX11_lift 24 = .ok (.iload_n 1, 1) := by decide +kernel
theorem dX11_lift_25 : decode cX11_lift 25 = .ok (.invokevirtual 172, 3) := by decide +kernel
theorem dX11_lift_28 : decode cX11_lift 28 = .ok (.ifCond .ge 26, 3) := by decide +kernel
theorem dX11_lift_31 : decode cX11_lift 31 = .ok (.aload_n 0, 1) := by decide +kernel
theorem dX11_lift_32 : decode cX11_lift 32 = .ok (.getfield 134, 3) := by decide +kernel
theorem dX11_lift_35 : decode cX11_lift 35 = .ok (.aload_n 0, 1) := by decide +kernel
theorem dX11_lift_36 : decode cX11_lift 36 = .ok (.getfield 99, 3) := by decide +kernel
theorem dX11_lift_39 : decode cX11_lift 39 = .ok (.iload_n 1, 1) := by decide +kernel
theorem dX11_lift_40 : decode cX11_lift 40 = .ok (.iaload, 1) := by decide +kernel
theorem dX11_lift_41 : decode cX11_lift 41 = .ok (.isub, 1) := by decide +kernel
theorem dX11_lift_42 : decode cX11_lift 42 = .ok (.bipush 90, 2) := by decide +kernel
theorem dX11_lift_44 : decode cX11_lift 44 = .ok (.aload_n 0, 1) := by decide +kernel
theorem dX11_lift_45 : decode cX11_lift 45 = .ok (.getfield 96, 3) := by decide +kernel
theorem dX11_lift_48 : decode cX11_lift 48 = .ok (.iload_n 1, 1) := by decide +kernel
theorem dX11_lift_49 : decode cX11_lift 49 = .ok (.iaload, 1) := by decide +kernel
theorem dX11_lift_50 : decode cX11_lift 50 = .ok (.imul, 1) := by decide +kernel
theorem dX11_lift_51 : decode cX11_lift 51 = .ok (.if_icmp .ge 9, 3) := by decide +kernel
theorem dX11_lift_54 : decode cX11_lift 54 = .ok (.aload_n 0, 1) := by decide +kernel
theorem dX11_lift_55 : decode cX11_lift 55 = .ok (.iconst 3, 1) := by decide +kernel
theorem dX11_lift_56 : decode cX11_lift 56 = .ok (.invokevirtual 137, 3) := by decide +kernel
theorem dX11_lift_59 : decode cX11_lift 59 = .ok (.ireturn, 1) := by decide +kernel
theorem dX11_lift_60 : decode cX11_lift 60 = .ok (.aload_n 0, 1) := by decide +kernel
theorem dX11_lift_61 : decode cX11_lift 61 = .ok (.getfield 93, 3) := by decide +kernel
theorem dX11_lift_64 : decode cX11_lift 64 = .ok (.iload_n 1, 1) := by decide +kernel
theorem dX11_lift_65 : decode cX11_lift 65 = .ok (.iconst 0, 1) := by decide +kernel
theorem dX11_lift_66 : decode cX11_lift 66 = .ok (.bastore, 1) := by decide +kernel
theorem dX11_lift_67 : decode cX11_lift 67 = .ok (.iconst 1, 1) := by decide +kernel
theorem dX11_lift_68 : decode cX11_lift 68 = .ok (.ireturn, 1) := by decide +kernel
theorem dX11_ones_0 : decode cX11_ones 0 = .ok (.iconst 0, 1) := by decide +kernel
theorem dX11_ones_1 : decode cX11_ones 1 = .ok (.istore_n 1, 1) := by decide +kernel
theorem dX11_ones_2 : decode cX11_ones 2 = .ok (.iconst 0, 1) := by decide +kernel
theorem dX11_ones_3 : decode cX11_ones 3 = .ok (.istore_n 2, 1) := by decide +kernel
theorem dX11_ones_4 : decode cX11_ones 4 = .ok (.iload_n 2, 1) := by decide +kernel
theorem dX11_ones_5 : decode cX11_ones 5 = .ok (.bipush 10, 2) := by decide +kernel
theorem dX11_ones_7 : decode cX11_ones 7 = .ok (.if_icmp .ge 17, 3) := by decide +kernel
theorem dX11_ones_10 : decode cX11_ones 10 = .ok (.iload_n 1, 1) := by decide +kernel
theorem dX11_ones_11 : decode cX11_ones 11 = .ok (.iload_n 0, 1) := by decide +kernel
theorem dX11_ones_12 : decode cX11_ones 12 = .ok (.iload_n 2, 1) := by decide +kernel
theorem dX11_ones_13 : decode cX11_ones 13 = .ok (.ishr, 1) := by decide +kernel
theorem dX11_ones_14 : decode cX11_ones 14 = .ok (.iconst 1, 1) := by decide +kernel
theorem dX11_ones_15 : decode cX11_ones 15 = .ok (.iand, 1) := by decide +kernel
theorem dX11_ones_16 : decode cX11_ones 16 = .ok (.iadd, 1) := by decide +kernel
theorem dX11_ones_17 : decode cX11_ones 17 = .ok (.istore_n 1, 1) := by decide +kernel
theorem dX11_ones_18 : decode cX11_ones 18 = .ok (.iinc 2 1, 3) := by decide +kernel
theorem dX11_ones_21 : decode cX11_ones 21 = .ok (.goto (-17), 3) := by decide +kernel
theorem dX11_ones_24 : decode cX11_ones 24 = .ok (.iload_n 1, 1) := by decide +kernel
theorem dX11_ones_25 : decode cX11_ones 25 = .ok (.ireturn, 1) := by decide +kernel
theorem dX11_areDoubles_0 : decode cX11_areDoubles 0 = .ok (.aload_n 0, 1) := by decide +kernel
theorem dX11_areDoubles_1 : decode cX11_areDoubles 1 = .ok (.getfield 68, 3) := by decide +kernel
theorem dX11_areDoubles_4 : decode cX11_areDoubles 4 = .ok (.iload_n 1, 1) := by decide +kernel
theorem dX11_areDoubles_5 : decode cX11_areDoubles 5 = .ok (.iaload, 1) := by decide +kernel
theorem dX11_areDoubles_6 : decode cX11_areDoubles 6 = .ok (.aload_n 0, 1) := by decide +kernel
theorem dX11_areDoubles_7 : decode cX11_areDoubles 7 = .ok (.getfield 68, 3) := by decide +kernel
theorem dX11_areDoubles_10 : decode cX11_areDoubles 10 = .ok (.iload_n 2, 1) := by decide +kernel
theorem dX11_areDoubles_11 : decode cX11_areDoubles 11 = .ok (.iaload, 1) := by decide +kernel
theorem dX11_areDoubles_12 : decode cX11_areDoubles 12 = .ok (.if_icmp .ne 22, 3) := by decide +kernel
theorem dX11_areDoubles_15 : decode cX11_areDoubles 15 = .ok (.aload_n 0, 1) := by decide +kernel
theorem dX11_areDoubles_16 : decode cX11_areDoubles 16 = .ok (.getfield 71, 3) := by decide +kernel
theorem dX11_areDoubles_19 : decode cX11_areDoubles 19 = .ok (.iload_n 1, 1) := by decide +kernel
theorem dX11_areDoubles_20 : decode cX11_areDoubles 20 = .ok (.iaload, 1) := by decide +kernel
theorem dX11_areDoubles_21 : decode cX11_areDoubles 21 = .ok (.aload_n 0, 1) := by decide +kernel
theorem dX11_areDoubles_22 : decode cX11_areDoubles 22 = .ok (.getfield 71, 3) := by decide +kernel
theorem dX11_areDoubles_25 : decode cX11_areDoubles 25 = .ok (.iload_n 2, 1) := by decide +kernel
theorem dX11_areDoubles_26 : decode cX11_areDoubles 26 = .ok (.iaload, 1) := by decide +kernel
theorem dX11_areDoubles_27 : decode cX11_areDoubles 27 = .ok (.if_icmp .eq 7, 3) := by decide +kernel
theorem dX11_areDoubles_30 : decode cX11_areDoubles 30 = .ok (.iconst 1, 1) := by decide +kernel
theorem dX11_areDoubles_31 : decode cX11_areDoubles 31 = .ok (.goto 4, 3) := by decide +kernel
theorem dX11_areDoubles_34 : decode cX11_areDoubles 34 = .ok (.iconst 0, 1) := by decide +kernel
theorem dX11_areDoubles_35 : decode cX11_areDoubles 35 = .ok (.ireturn, 1) := by decide +kernel
theorem dX11_were_0 : decode cX11_were 0 = .ok (.aload_n 0, 1) := by decide +kernel
theorem dX11_were_1 : decode cX11_were 1 = .ok (.iload_n 1, 1) := by decide +kernel
theorem dX11_were_2 : decode cX11_were 2 = .ok (.invokevirtual 226, 3) := by decide +kernel
theorem dX11_were_5 : decode cX11_were 5 = .ok (.ifCond .eq 11, 3) := by decide +kernel
theorem dX11_were_8 : decode cX11_were 8 = .ok (.aload_n 0, 1) := by decide +kernel
theorem dX11_were_9 : decode cX11_were 9 = .ok (.iload_n 2, 1) := by decide +kernel
theorem dX11_were_10 : decode cX11_were 10 = .ok (.invokevirtual 226, 3) := by decide +kernel
theorem dX11_were_13 : decode cX11_were 13 = .ok (.ifCond .ne 9, 3) := by decide +kernel
theorem dX11_were_16 : decode cX11_were 16 = .ok (.aload_n 0, 1) := by decide +kernel
theorem dX11_were_17 : decode cX11_were 17 = .ok (.iconst 1, 1) := by decide +kernel
theorem dX11_were_18 : decode cX11_were 18 = .ok (.invokevirtual 137, 3) := by decide +kernel
theorem dX11_were_21 : decode cX11_were 21 = .ok (.ireturn, 1) := by decide +kernel
theorem dX11_were_22 : decode cX11_were 22 = .ok (.aload_n 0, 1) := by decide +kernel
theorem dX11_were_23 : decode cX11_were 23 = .ok (.iload_n 1, 1) := by decide +kernel
theorem dX11_were_24 : decode cX11_were 24 = .ok (.iload_n 2, 1) := by decide +kernel
theorem dX11_were_25 : decode cX11_were 25 = .ok (.invokevirtual 258, 3) := by decide +kernel
theorem dX11_were_28 : decode cX11_were 28 = .ok (.ifCond .ne 9, 3) := by decide +kernel
theorem dX11_were_31 : decode cX11_were 31 = .ok (.aload_n 0, 1) := by decide +kernel
theorem dX11_were_32 : decode cX11_were 32 = .ok (.iconst 3, 1) := by decide +kernel
theorem dX11_were_33 : decode cX11_were 33 = .ok (.invokevirtual 137, 3) := by decide +kernel
theorem dX11_were_36 : decode cX11_were 36 = .ok (.ireturn, 1) := by decide +kernel
theorem dX11_were_37 : decode cX11_were 37 = .ok (.aload_n 0, 1) := by decide +kernel
theorem dX11_were_38 : decode cX11_were 38 = .ok (.getfield 77, 3) := by decide +kernel
theorem dX11_were_41 : decode cX11_were 41 = .ok (.iload_n 1, 1) := by decide +kernel
theorem dX11_were_42 : decode cX11_were 42 = .ok (.iaload, 1) := by decide +kernel
theorem dX11_were_43 : decode cX11_were 43 = .ok (.aload_n 0, 1) := by decide +kernel
theorem dX11_were_44 : decode cX11_were 44 = .ok (.getfield 77, 3) := by decide +kernel
theorem dX11_were_47 : decode cX11_were 47 = .ok (.iload_n 2, 1) := by decide +kernel
theorem dX11_were_48 : decode cX11_were 48 = .ok (.iaload, 1) := by decide +kernel
theorem dX11_were_49 : decode cX11_were 49 = .ok (.iand, 1) := by decide +kernel
theorem dX11_were_50 : decode cX11_were 50 = .ok (.invokestatic 261, 3) := by decide +kernel
theorem dX11_were_53 : decode cX11_were 53 = .ok (.istore_n 3, 1) := by decide +kernel
theorem dX11_were_54 : decode cX11_were 54 = .ok (.iload_n 3, 1) := by decide +kernel
theorem dX11_were_55 : decode cX11_were 55 = .ok (.ifCond .ne 11, 3) := by decide +kernel
theorem dX11_were_58 : decode cX11_were 58 = .ok (.aload_n 0, 1) := by decide +kernel
theorem dX11_were_59 : decode cX11_were 59 = .ok (.iconst 2, 1) := by decide +kernel
theorem dX11_were_60 : decode cX11_were 60 = .ok (.invokevirtual 137, 3) := by decide +kernel
theorem dX11_were_63 : decode cX11_were 63 = .ok (.goto 24, 3) := by decide +kernel
theorem dX11_were_66 : decode cX11_were 66 = .ok (.aload_n 0, 1) := by decide +kernel
theorem dX11_were_67 : decode cX11_were 67 = .ok (.getfield 77, 3) := by decide +kernel
theorem dX11_were_70 : decode cX11_were 70 = .ok (.iload_n 1, 1) := by decide +kernel
theorem dX11_were_71 : decode cX11_were 71 = .ok (.iaload, 1) := by decide +kernel
theorem dX11_were_72 : decode cX11_were 72 = .ok (.invokestatic 261, 3) := by decide +kernel
theorem dX11_were_75 : decode cX11_were 75 = .ok (.aload_n 0, 1) := by decide +kernel
theorem dX11_were_76 : decode cX11_were 76 = .ok (.getfield 77, 3) := by decide +kernel
theorem dX11_were_79 : decode cX11_were 79 = .ok (.iload_n 2, 1) := by decide +kernel
theorem dX11_were_80 : decode cX11_were 80 = .ok (.iaload, 1) := by decide +kernel
theorem dX11_were_81 : decode cX11_were 81 = .ok (.invokestatic 261, 3) := by decide +kernel
theorem dX11_were_84 : decode cX11_were 84 = .ok (.imul, 1) := by decide +kernel
theorem dX11_were_85 : decode cX11_were 85 = .ok (.iload_n 3, 1) := by decide +kernel
theorem dX11_were_86 : decode cX11_were 86 = .ok (.idiv, 1) := by decide +kernel
theorem dX11_were_87 : decode cX11_were 87 = .ok (.ireturn, 1) := by decide +kernel
theorem dX11_habit_0 : decode cX11_habit 0 = .ok (.iload_n 1, 1) := by decide +kernel
theorem dX11_habit_1 : decode cX11_habit 1 = .ok (.iconst 0, 1) := by decide +kernel
theorem dX11_habit_2 : decode cX11_habit 2 = .ok (.iconst 5, 1) := by decide +kernel
theorem dX11_habit_3 : decode cX11_habit 3 = .ok (.invokestatic 124, 3) := by decide +kernel
theorem dX11_habit_6 : decode cX11_habit 6 = .ok (.ifCond .ne 9, 3) := by decide +kernel
theorem dX11_habit_9 : decode cX11_habit 9 = .ok (.aload_n 0, 1) := by decide +kernel
theorem dX11_habit_10 : decode cX11_habit 10 = .ok (.iconst 1, 1) := by decide +kernel
theorem dX11_habit_11 : decode cX11_habit 11 = .ok (.invokevirtual 137, 3) := by decide +kernel
theorem dX11_habit_14 : decode cX11_habit 14 = .ok (.ireturn, 1) := by decide +kernel
theorem dX11_habit_15 : decode cX11_habit 15 = .ok (.iconst 0, 1) := by decide +kernel
theorem dX11_habit_16 : decode cX11_habit 16 = .ok (.istore_n 2, 1) := by decide +kernel
theorem dX11_habit_17 : decode cX11_habit 17 = .ok (.iconst 0, 1) := by decide +kernel
theorem dX11_habit_18 : decode cX11_habit 18 = .ok (.istore_n 3, 1) := by decide +kernel
theorem dX11_habit_19 : decode cX11_habit 19 = .ok (.iconst 0, 1) := by decide +kernel
theorem dX11_habit_20 : decode cX11_habit 20 = .ok (.istore 4, 2) := by decide +kernel
theorem dX11_habit_22 : decode cX11_habit 22 = .ok (.iload 4, 2) := by decide +kernel
theorem dX11_habit_24 : decode cX11_habit 24 = .ok (.aload_n 0, 1) := by decide +kernel
theorem dX11_habit_25 : decode cX11_habit 25 = .ok (.getfield 131, 3) := by decide +kernel
theorem dX11_habit_28 : decode cX11_habit 28 = .ok (.if_icmp .ge 83, 3) := by decide +kernel
theorem dX11_habit_31 : decode cX11_habit 31 = .ok (.iconst 0, 1) := by decide +kernel
theorem dX11_habit_32 : decode cX11_habit 32 = .ok (.istore 5, 2) := by decide +kernel
theorem dX11_habit_34 : decode cX11_habit 34 = .ok (.iload 5, 2) := by decide +kernel
theorem dX11_habit_36 : decode cX11_habit 36 = .ok (.aload_n 0, 1) := by decide +kernel
theorem dX11_habit_37 : decode cX11_habit 37 = .ok (.getfield 131, 3) := by decide +kernel
theorem dX11_habit_40 : decode cX11_habit 40 = .ok (.if_icmp .ge 65, 3) := by decide +kernel
theorem dX11_habit_43 : decode cX11_habit 43 = .ok (.aload_n 0, 1) := by decide +kernel
theorem dX11_habit_44 : decode cX11_habit 44 = .ok (.getfield 71, 3) := by decide +kernel
theorem dX11_habit_47 : decode cX11_habit 47 = .ok (.iload 4, 2) := by decide +kernel
theorem dX11_habit_49 : decode cX11_habit 49 = .ok (.iaload, 1) := by decide +kernel
theorem dX11_habit_50 : decode cX11_habit 50 = .ok (.iload_n 1, 1) := by decide +kernel
theorem dX11_habit_51 : decode cX11_habit 51 = .ok (.if_icmp .ne 48, 3) := by decide +kernel
theorem dX11_habit_54 : decode cX11_habit 54 = .ok (.aload_n 0, 1) := by decide +kernel
theorem dX11_habit_55 : decode cX11_habit 55 = .ok (.iload 4, 2) := by decide +kernel
theorem dX11_habit_57 : decode cX11_habit 57 = .ok (.iload 5, 2) := by decide +kernel
theorem dX11_habit_59 : decode cX11_habit 59 = .ok (.invokevirtual 258, 3) := by decide +kernel
theorem dX11_habit_62 : decode cX11_habit 62 = .ok (.ifCond .eq 37, 3) := by decide +kernel
theorem dX11_habit_65 : decode cX11_habit 65 = .ok (.iload_n 2, 1) := by decide +kernel
theorem dX11_habit_66 : decode cX11_habit 66 = .ok (.aload_n 0, 1) := by decide +kernel
theorem dX11_habit_67 : decode cX11_habit 67 = .ok (.getfield 77, 3) := by decide +kernel
theorem dX11_habit_70 : decode cX11_habit 70 = .ok (.iload 4, 2) := by decide +kernel
theorem dX11_habit_72 : decode cX11_habit 72 = .ok (.iaload, 1) := by decide +kernel
theorem dX11_habit_73 : decode cX11_habit 73 = .ok (.aload_n 0, 1) := by decide +kernel
theorem dX11_habit_74 : decode cX11_habit 74 = .ok (.getfield 77, 3) := by decide +kernel
theorem dX11_habit_77 : decode cX11_habit 77 = .ok (.iload 5, 2) := by decide +kernel
theorem dX11_habit_79 : decode cX11_habit 79 = .ok (.iaload, 1) := by decide +kernel
theorem dX11_habit_80 : decode cX11_habit 80 = .ok (.iand, 1) := by decide +kernel
theorem dX11_habit_81 : decode cX11_habit 81 = .ok (.invokestatic 261, 3) := by decide +kernel
theorem dX11_habit_84 : decode cX11_habit 84 = .ok (.iadd, 1) := by decide +kernel
theorem dX11_habit_85 : decode cX11_habit 85 = .ok (.istore_n 2, 1) := by decide +kernel
theorem dX11_habit_86 : decode cX11_habit 86 = .ok (.iload_n 3, 1) := by decide +kernel
theorem dX11_habit_87 : decode cX11_habit 87 = .ok (.aload_n 0, 1) := by decide +kernel
theorem dX11_habit_88 : decode cX11_habit 88 = .ok (.getfield 77, 3) := by decide +kernel
theorem dX11_habit_91 : decode cX11_habit 91 = .ok (.iload 5, 2) := by decide +kernel
theorem dX11_habit_93 : decode cX11_habit 93 = .ok (.iaload, 1) := by decide +kernel
theorem dX11_habit_94 : decode cX11_habit 94 = .ok (.invokestatic 261, 3) := by decide +kernel
theorem dX11_habit_97 : decode cX11_habit 97 = .ok (.iadd, 1) := by decide +kernel
theorem dX11_habit_98 : decode cX11_habit 98 = .ok (.istore_n 3, 1) := by decide +kernel
theorem dX11_habit_99 : decode cX11_habit 99 = .ok (.iinc 5 1, 3) := by decide +kernel
theorem dX11_habit_102 : decode cX11_habit 102 = .ok (.goto (-68), 3) := by decide +kernel
theorem dX11_habit_105 : decode cX11_habit 105 = .ok (.iinc 4 1, 3) := by decide +kernel
theorem dX11_habit_108 : decode cX11_habit 108 = .ok (.goto (-86), 3) := by decide +kernel
theorem dX11_habit_111 : decode cX11_habit 111 = .ok (.iload_n 3, 1) := by decide +kernel
theorem dX11_habit_112 : decode cX11_habit 112 = .ok (.ifCond .ne 11, 3) := by decide +kernel
theorem dX11_habit_115 : decode cX11_habit 115 = .ok (.aload_n 0, 1) := by decide +kernel
theorem dX11_habit_116 : decode cX11_habit 116 = .ok (.iconst 2, 1) := by decide +kernel
theorem dX11_habit_117 : decode cX11_habit 117 = .ok (.invokevirtual 137, 3) := by decide +kernel
theorem dX11_habit_120 : decode cX11_habit 120 = .ok (.goto 9, 3) := by decide +kernel
theorem dX11_habit_123 : decode cX11_habit 123 = .ok (.bipush 100, 2) := by decide +kernel
theorem dX11_habit_125 : decode cX11_habit 125 = .ok (.iload_n 2, 1) := by decide +kernel
theorem dX11_habit_126 : decode cX11_habit 126 = .ok (.imul, 1) := by decide +kernel
theorem dX11_habit_127 : decode cX11_habit 127 = .ok (.iload_n 3, 1) := by decide +kernel
theorem dX11_habit_128 : decode cX11_habit 128 = .ok (.idiv, 1) := by decide +kernel
theorem dX11_habit_129 : decode cX11_habit 129 = .ok (.ireturn, 1) := by decide +kernel
theorem dX11_draw_0 : decode cX11_draw 0 = .ok (.aload_n 0, 1) := by decide +kernel
theorem dX11_draw_1 : decode cX11_draw 1 = .ok (.iload_n 1, 1) := by decide +kernel
theorem dX11_draw_2 : decode cX11_draw 2 = .ok (.invokevirtual 226, 3) := by decide +kernel
theorem dX11_draw_5 : decode cX11_draw 5 = .ok (.ifCond .eq 13, 3) := by decide +kernel
theorem dX11_draw_8 : decode cX11_draw 8 = .ok (.iload_n 2, 1) := by decide +kernel
theorem dX11_draw_9 : decode cX11_draw 9 = .ok (.iconst 1, 1) := by decide +kernel
theorem dX11_draw_10 : decode cX11_draw 10 = .ok (.bipush 100, 2) := by decide +kernel
theorem dX11_draw_12 : decode cX11_draw 12 = .ok (.invokestatic 124, 3) := by decide +kernel
theorem dX11_draw_15 : decode cX11_draw 15 = .ok (.ifCond .ne 9, 3) := by decide +kernel
theorem dX11_draw_18 : decode cX11_draw 18 = .ok (.aload_n 0, 1) := by decide +kernel
theorem dX11_draw_19 : decode cX11_draw 19 = .ok (.iconst 1, 1) := by decide +kernel
theorem dX11_draw_20 : decode cX11_draw 20 = .ok (.invokevirtual 137, 3) := by decide +kernel
theorem dX11_draw_23 : decode cX11_draw 23 = .ok (.ireturn, 1) := by decide +kernel
theorem dX11_draw_24 : decode cX11_draw 24 = .ok (.aload_n 0, 1) := by decide +kernel
theorem dX11_draw_25 : decode cX11_draw 25 = .ok (.getfield 83, 3) := by decide +kernel
theorem dX11_draw_28 : decode cX11_draw 28 = .ok (.iload_n 1, 1) := by decide +kernel
theorem dX11_draw_29 : decode cX11_draw 29 = .ok (.iaload, 1) := by decide +kernel
theorem dX11_draw_30 : decode cX11_draw 30 = .ok (.ifCond .le 9, 3) := by decide +kernel
theorem dX11_draw_33 : decode cX11_draw 33 = .ok (.aload_n 0, 1) := by decide +kernel
theorem dX11_draw_34 : decode cX11_draw 34 = .ok (.iconst 3, 1) := by decide +kernel
theorem dX11_draw_35 : decode cX11_draw 35 = .ok (.invokevirtual 137, 3) := by decide +kernel
theorem dX11_draw_38 : decode cX11_draw 38 = .ok (.ireturn, 1) := by decide +kernel
theorem dX11_draw_39 : decode cX11_draw 39 = .ok (.aload_n 0, 1) := by decide +kernel
theorem dX11_draw_40 : decode cX11_draw 40 = .ok (.getfield 83, 3) := by decide +kernel
theorem dX11_draw_43 : decode cX11_draw 43 = .ok (.iload_n 1, 1) := by decide +kernel
theorem dX11_draw_44 : decode cX11_draw 44 = .ok (.iload_n 2, 1) := by decide +kernel
theorem dX11_draw_45 : decode cX11_draw 45 = .ok (.iastore, 1) := by decide +kernel
theorem dX11_draw_46 : decode cX11_draw 46 = .ok (.aload_n 0, 1) := by decide +kernel
theorem dX11_draw_47 : decode cX11_draw 47 = .ok (.dup, 1) := by decide +kernel
theorem dX11_draw_48 : decode cX11_draw 48 = .ok (.getfield 264, 3) := by decide +kernel
theorem dX11_draw_51 : decode cX11_draw 51 = .ok (.iconst 1, 1) := by decide +kernel
theorem dX11_draw_52 : decode cX11_draw 52 = .ok (.iadd, 1) := by decide +kernel
theorem dX11_draw_53 : decode cX11_draw 53 = .ok (.putfield 264, 3) := by decide +kernel
theorem dX11_draw_56 : decode cX11_draw 56 = .ok (.aload_n 0, 1) := by decide +kernel
theorem dX11_draw_57 : decode cX11_draw 57 = .ok (.getfield 264, 3) := by decide +kernel
theorem dX11_draw_60 : decode cX11_draw 60 = .ok (.ireturn, 1) := by decide +kernel
theorem dX11_rate_0 : decode cX11_rate 0 = .ok (.iconst 0, 1) := by decide +kernel
theorem dX11_rate_1 : decode cX11_rate 1 = .ok (.istore_n 1, 1) := by decide +kernel
theorem dX11_rate_2 : decode cX11_rate 2 = .ok (.iconst 0, 1) := by decide +kernel
theorem dX11_rate_3 : decode cX11_rate 3 = .ok (.istore_n 2, 1) := by decide +kernel
theorem dX11_rate_4 : decode cX11_rate 4 = .ok (.iconst 0, 1) := by decide +kernel
theorem dX11_rate_5 : decode cX11_rate 5 = .ok (.istore_n 3, 1) := by decide +kernel
theorem dX11_rate_6 : decode cX11_rate 6 = .ok (.iload_n 3, 1) := by decide +kernel
theorem dX11_rate_7 : decode cX11_rate 7 = .ok (.aload_n 0, 1) := by decide +kernel
theorem dX11_rate_8 : decode cX11_rate 8 = .ok (.getfield 131, 3) := by decide +kernel
theorem dX11_rate_11 : decode cX11_rate 11 = .ok (.if_icmp .ge 57, 3) := by decide +kernel
theorem dX11_rate_14 : decode cX11_rate 14 = .ok (.aload_n 0, 1) := by decide +kernel
theorem dX11_rate_15 : decode cX11_rate 15 = .ok (.getfield 83, 3) := by decide +kernel
theorem dX11_rate_18 : decode cX11_rate 18 = .ok (.iload_n 3, 1) := by decide +kernel
theorem dX11_rate_19 : decode cX11_rate 19 = .ok (.iaload, 1) := by decide +kernel
theorem dX11_rate_20 : decode cX11_rate 20 = .ok (.ifCond .le 16, 3) := by decide +kernel
theorem dX11_rate_23 : decode cX11_rate 23 = .ok (.sipush 10000, 3) := by decide +kernel
theorem dX11_rate_26 : decode cX11_rate 26 = .ok (.aload_n 0, 1) := by decide +kernel
theorem dX11_rate_27 : decode cX11_rate 27 = .ok (.getfield 83, 3) := by decide +kernel
theorem dX11_rate_30 : decode cX11_rate 30 = .ok (.iload_n 3, 1) := by decide +kernel
theorem dX11_rate_31 : decode cX11_rate 31 = .ok (.iaload, 1) := by decide +kernel
theorem dX11_rate_32 : decode cX11_rate 32 = .ok (.idiv, 1) := by decide +kernel
theorem dX11_rate_33 : decode cX11_rate 33 = .ok (.goto 4, 3) := by decide +kernel
theorem dX11_rate_36 : decode cX11_rate 36 = .ok (.iconst 0, 1) := by decide +kernel
theorem dX11_rate_37 : decode cX11_rate 37 = .ok (.istore 4, 2) := by decide +kernel
theorem dX11_rate_39 : decode cX11_rate 39 = .ok (.iload_n 2, 1) := by decide +kernel
theorem dX11_rate_40 : decode cX11_rate 40 = .ok (.iload 4, 2) := by decide +kernel
theorem dX11_rate_42 : decode cX11_rate 42 = .ok (.iadd, 1) := by decide +kernel
theorem dX11_rate_43 : decode cX11_rate 43 = .ok (.istore_n 2, 1) := by decide +kernel
theorem dX11_rate_44 : decode cX11_rate 44 = .ok (.iload_n 1, 1) := by decide +kernel
theorem dX11_rate_45 : decode cX11_rate 45 = .ok (.aload_n 0, 1) := by decide +kernel
theorem dX11_rate_46 : decode cX11_rate 46 = .ok (.getfield 80, 3) := by decide +kernel
theorem dX11_rate_49 : decode cX11_rate 49 = .ok (.iload_n 3, 1) := by decide +kernel
theorem dX11_rate_50 : decode cX11_rate 50 = .ok (.baload, 1) := by decide +kernel
theorem dX11_rate_51 : decode cX11_rate 51 = .ok (.ifCond .eq 8, 3) := by decide +kernel
theorem dX11_rate_54 : decode cX11_rate 54 = .ok (.iload 4, 2) := by decide +kernel
theorem dX11_rate_56 : decode cX11_rate 56 = .ok (.goto 4, 3) := by decide +kernel
theorem dX11_rate_59 : decode cX11_rate 59 = .ok (.iconst 0, 1) := by decide +kernel
theorem dX11_rate_60 : decode cX11_rate 60 = .ok (.iadd, 1) := by decide +kernel
theorem dX11_rate_61 : decode cX11_rate 61 = .ok (.istore_n 1, 1) := by decide +kernel
theorem dX11_rate_62 : decode cX11_rate 62 = .ok (.iinc 3 1, 3) := by decide +kernel
theorem dX11_rate_65 : decode cX11_rate 65 = .ok (.goto (-59), 3) := by decide +kernel
theorem dX11_rate_68 : decode cX11_rate 68 = .ok (.aload_n 0, 1) := by decide +kernel
theorem dX11_rate_69 : decode cX11_rate 69 = .ok (.getfield 264, 3) := by decide +kernel
theorem dX11_rate_72 : decode cX11_rate 72 = .ok (.ifCond .ne 11, 3) := by decide +kernel
theorem dX11_rate_75 : decode cX11_rate 75 = .ok (.aload_n 0, 1) := by decide +kernel
theorem dX11_rate_76 : decode cX11_rate 76 = .ok (.iconst 2, 1) := by decide +kernel
theorem dX11_rate_77 : decode cX11_rate 77 = .ok (.invokevirtual 137, 3) := by decide +kernel
theorem dX11_rate_80 : decode cX11_rate 80 = .ok (.goto 10, 3) := by decide +kernel
theorem dX11_rate_83 : decode cX11_rate 83 = .ok (.sipush 1000, 3) := by decide +kernel
theorem dX11_rate_86 : decode cX11_rate 86 = .ok (.iload_n 1, 1) := by decide +kernel
theorem dX11_rate_87 : decode cX11_rate 87 = .ok (.imul, 1) := by decide +kernel
theorem dX11_rate_88 : decode cX11_rate 88 = .ok (.iload_n 2, 1) := by decide +kernel
theorem dX11_rate_89 : decode cX11_rate 89 = .ok (.idiv, 1) := by decide +kernel
theorem dX11_rate_90 : decode cX11_rate 90 = .ok (.ireturn, 1) := by decide +kernel
theorem dX11_tell_0 : decode cX11_tell 0 = .ok (.aload_n 0, 1) := by decide +kernel
theorem dX11_tell_1 : decode cX11_tell 1 = .ok (.getfield 267, 3) := by decide +kernel
theorem dX11_tell_4 : decode cX11_tell 4 = .ok (.bipush 16, 2) := by decide +kernel
theorem dX11_tell_6 : decode cX11_tell 6 = .ok (.if_icmp .ne 9, 3) := by decide +kernel
theorem dX11_tell_9 : decode cX11_tell 9 = .ok (.aload_n 0, 1) := by decide +kernel
theorem dX11_tell_10 : decode cX11_tell 10 = .ok (.iconst 4, 1) := by decide +kernel
theorem dX11_tell_11 : decode cX11_tell 11 = .ok (.invokevirtual 137, 3) := by decide +kernel
theorem dX11_tell_14 : decode cX11_tell 14 = .ok (.ireturn, 1) := by decide +kernel
theorem dX11_tell_15 : decode cX11_tell 15 = .ok (.aload_n 0, 1) := by decide +kernel
theorem dX11_tell_16 : decode cX11_tell 16 = .ok (.getfield 102, 3) := by decide +kernel
theorem dX11_tell_19 : decode cX11_tell 19 = .ok (.aload_n 0, 1) := by decide +kernel
theorem dX11_tell_20 : decode cX11_tell 20 = .ok (.getfield 267, 3) := by decide +kernel
theorem dX11_tell_23 : decode cX11_tell 23 = .ok (.iload_n 1, 1) := by decide +kernel
theorem dX11_tell_24 : decode cX11_tell 24 = .ok (.iastore, 1) := by decide +kernel
theorem dX11_tell_25 : decode cX11_tell 25 = .ok (.aload_n 0, 1) := by decide +kernel
theorem dX11_tell_26 : decode cX11_tell 26 = .ok (.dup, 1) := by decide +kernel
theorem dX11_tell_27 : decode cX11_tell 27 = .ok (.getfield 267, 3) := by decide +kernel
theorem dX11_tell_30 : decode cX11_tell 30 = .ok (.iconst 1, 1) := by decide +kernel
theorem dX11_tell_31 : decode cX11_tell 31 = .ok (.iadd, 1) := by decide +kernel
theorem dX11_tell_32 : decode cX11_tell 32 = .ok (.putfield 267, 3) := by decide +kernel
theorem dX11_tell_35 : decode cX11_tell 35 = .ok (.aload_n 0, 1) := by decide +kernel
theorem dX11_tell_36 : decode cX11_tell 36 = .ok (.getfield 267, 3) := by decide +kernel
theorem dX11_tell_39 : decode cX11_tell 39 = .ok (.ireturn, 1) := by decide +kernel
theorem dX11_check_0 : decode cX11_check 0 = .ok (.aload_n 0, 1) := by decide +kernel
theorem dX11_check_1 : decode cX11_check 1 = .ok (.getfield 267, 3) := by decide +kernel
theorem dX11_check_4 : decode cX11_check 4 = .ok (.istore_n 1, 1) := by decide +kernel
theorem dX11_check_5 : decode cX11_check 5 = .ok (.aload_n 0, 1) := by decide +kernel
theorem dX11_check_6 : decode cX11_check 6 = .ok (.iconst 0, 1) := by decide +kernel
theorem dX11_check_7 : decode cX11_check 7 = .ok (.putfield 267, 3) := by decide +kernel
theorem dX11_check_10 : decode cX11_check 10 = .ok (.iconst 0, 1) := by decide +kernel
theorem dX11_check_11 : decode cX11_check 11 = .ok (.istore_n 2, 1) := by decide +kernel
theorem dX11_check_12 : decode cX11_check 12 = .ok (.iload_n 2, 1) := by decide +kernel
theorem dX11_check_13 : decode cX11_check 13 = .ok (.iload_n 1, 1) := by decide +kernel
theorem dX11_check_14 : decode cX11_check 14 = .ok (.if_icmp .ge 35, 3) := by decide +kernel
theorem dX11_check_17 : decode cX11_check 17 = .ok (.iload_n 2, 1) := by decide +kernel
theorem dX11_check_18 : decode cX11_check 18 = .ok (.aload_n 0, 1) := by decide +kernel
theorem dX11_check_19 : decode cX11_check 19 = .ok (.getfield 121, 3) := by decide +kernel
theorem dX11_check_22 : decode cX11_check 22 = .ok (.if_icmp .ge 17, 3) := by decide +kernel
theorem dX11_check_25 : decode cX11_check 25 = .ok (.aload_n 0, 1) := by decide +kernel
theorem dX11_check_26 : decode cX11_check 26 = .ok (.iload_n 2, 1) := by decide +kernel
theorem dX11_check_27 : decode cX11_check 27 = .ok (.invokevirtual 235, 3) := by decide +kernel
theorem dX11_check_30 : decode cX11_check 30 = .ok (.aload_n 0, 1) := by decide +kernel
theorem dX11_check_31 : decode cX11_check 31 = .ok (.getfield 102, 3) := by decide +kernel
theorem dX11_check_34 : decode cX11_check 34 = .ok (.iload_n 2, 1) := by decide +kernel
theorem dX11_check_35 : decode cX11_check 35 = .ok (.iaload, 1) := by decide +kernel
theorem dX11_check_36 : decode cX11_check 36 = .ok (.if_icmp .eq 7, 3) := by decide +kernel
theorem dX11_check_39 : decode cX11_check 39 = .ok (.iconst 1, 1) := by decide +kernel
theorem dX11_check_40 : decode cX11_check 40 = .ok (.iload_n 2, 1) := by decide +kernel
theorem dX11_check_41 : decode cX11_check 41 = .ok (.iadd, 1) := by decide +kernel
theorem dX11_check_42 : decode cX11_check 42 = .ok (.ireturn, 1) := by decide +kernel
theorem dX11_check_43 : decode cX11_check 43 = .ok (.iinc 2 1, 3) := by decide +kernel
theorem dX11_check_46 : decode cX11_check 46 = .ok (.goto (-34), 3) := by decide +kernel
theorem dX11_check_49 : decode cX11_check 49 = .ok (.iconst 0, 1) := by decide +kernel
theorem dX11_check_50 : decode cX11_check 50 = .ok (.ireturn, 1) := by decide +kernel
