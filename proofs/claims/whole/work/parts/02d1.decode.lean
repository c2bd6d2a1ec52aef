theorem dX10_change_0 : decode cX10_change 0 = .ok (.aload_n 0, 1) := by decide +kernel
theorem dX10_change_1 : decode cX10_change 1 = .ok (.iload_n 1, 1) := by decide +kernel
theorem dX10_change_2 : decode cX10_change 2 = .ok (.invokevirtual 92, 3) := by decide +kernel
theorem dX10_change_5 : decode cX10_change 5 = .ok (.astore 4, 2) := by decide +kernel
theorem dX10_change_7 : decode cX10_change 7 = .ok (.aload 4, 2) := by decide +kernel
theorem dX10_change_9 : decode cX10_change 9 = .ok (.ifnull 22, 3) := by decide +kernel
theorem dX10_change_12 : decode cX10_change 12 = .ok (.iload_n 2, 1) := by decide +kernel
theorem dX10_change_13 : decode cX10_change 13 = .ok (.iconst 3, 1) := by decide +kernel
theorem dX10_change_14 : decode cX10_change 14 = .ok (.invokestatic 96, 3) := by decide +kernel
theorem dX10_change_17 : decode cX10_change 17 = .ok (.ifCond .eq 14, 3) := by decide +kernel
theorem dX10_change_20 : decode cX10_change 20 = .ok (.iload_n 3, 1) := by decide +kernel
theorem dX10_change_21 : decode cX10_change 21 = .ok (.iload_n 2, 1) := by decide +kernel
theorem dX10_change_22 : decode cX10_change 22 = .ok (.invokestatic 109, 3) := by decide +kernel
theorem dX10_change_25 : decode cX10_change 25 = .ok (.invokestatic 96, 3) := by decide +kernel
theorem dX10_change_28 : decode cX10_change 28 = .ok (.ifCond .ne 9, 3) := by decide +kernel
theorem dX10_change_31 : decode cX10_change 31 = .ok (.aload_n 0, 1) := by decide +kernel
theorem dX10_change_32 : decode cX10_change 32 = .ok (.iconst 1, 1) := by decide +kernel
theorem dX10_change_33 : decode cX10_change 33 = .ok (.invokevirtual 82, 3) := by decide +kernel
theorem dX10_change_36 : decode cX10_change 36 = .ok (.ireturn, 1) := by decide +kernel
theorem dX10_change_37 : decode cX10_change 37 = .ok (.aload_n 0, 1) := by decide +kernel
theorem dX10_change_38 : decode cX10_change 38 = .ok (.getfield 112, 3) := by decide +kernel
theorem dX10_change_41 : decode cX10_change 41 = .ok (.bipush 60, 2) := by decide +kernel
theorem dX10_change_43 : decode cX10_change 43 = .ok (.if_icmp .lt 9, 3) := by decide +kernel
theorem dX10_change_46 : decode cX10_change 46 = .ok (.aload_n 0, 1) := by decide +kernel
theorem dX10_change_47 : decode cX10_change 47 = .ok (.iconst 4, 1) := by decide +kernel
theorem dX10_change_48 : decode cX10_change 48 = .ok (.invokevirtual 82, 3) := by decide +kernel
theorem dX10_change_51 : decode cX10_change 51 = .ok (.ireturn, 1) := by decide +kernel
theorem dX10_change_52 : decode cX10_change 52 = .ok (.aload 4, 2) := by decide +kernel
theorem dX10_change_54 : decode cX10_change 54 = .ok (.iload_n 2, 1) := by decide +kernel
theorem dX10_change_55 : decode cX10_change 55 = .ok (.aload_n 0, 1) := by decide +kernel
theorem dX10_change_56 : decode cX10_change 56 = .ok (.getfield 79, 3) := by decide +kernel
theorem dX10_change_59 : decode cX10_change 59 = .ok (.invokevirtual 115, 3) := by decide +kernel
theorem dX10_change_62 : decode cX10_change 62 = .ok (.istore 5, 2) := by decide +kernel
theorem dX10_change_64 : decode cX10_change 64 = .ok (.aload 4, 2) := by decide +kernel
theorem dX10_change_66 : decode cX10_change 66 = .ok (.iload_n 2, 1) := by decide +kernel
theorem dX10_change_67 : decode cX10_change 67 = .ok (.aload_n 0, 1) := by decide +kernel
theorem dX10_change_68 : decode cX10_change 68 = .ok (.getfield 79, 3) := by decide +kernel
theorem dX10_change_71 : decode cX10_change 71 = .ok (.iload_n 3, 1) := by decide +kernel
theorem dX10_change_72 : decode cX10_change 72 = .ok (.invokevirtual 119, 3) := by decide +kernel
theorem dX10_change_75 : decode cX10_change 75 = .ok (.aload_n 0, 1) := by decide +kernel
theorem dX10_change_76 : decode cX10_change 76 = .ok (.dup, 1) := by decide +kernel
theorem dX10_change_77 : decode cX10_change 77 = .ok (.getfield 112, 3) := by decide +kernel
theorem dX10_change_80 : decode cX10_change 80 = .ok (.iconst 1, 1) := by decide +kernel
theorem dX10_change_81 : decode cX10_change 81 = .ok (.iadd, 1) := by decide +kernel
theorem dX10_change_82 : decode cX10_change 82 = .ok (.putfield 112, 3) := by decide +kernel
theorem dX10_change_85 : decode cX10_change 85 = .ok (.iload 5, 2) := by decide +kernel
theorem dX10_change_87 : decode cX10_change 87 = .ok (.ireturn, 1) := by decide +kernel
theorem dX10_has_0 : decode cX10_has 0 = .ok (.aload_n 0, 1) := by decide +kernel
theorem dX10_has_1 : decode cX10_has 1 = .ok (.iload_n 1, 1) := by decide +kernel
theorem dX10_has_2 : decode cX10_has 2 = .ok (.invokevirtual 92, 3) := by decide +kernel
theorem dX10_has_5 : decode cX10_has 5 = .ok (.astore 4, 2) := by decide +kernel
theorem dX10_has_7 : decode cX10_has 7 = .ok (.aload 4, 2) := by decide +kernel
theorem dX10_has_9 : decode cX10_has 9 = .ok (.ifnull 21, 3) := by decide +kernel
theorem dX10_has_12 : decode cX10_has 12 = .ok (.iload_n 2, 1) := by decide +kernel
theorem dX10_has_13 : decode cX10_has 13 = .ok (.iconst 3, 1) := by decide +kernel
theorem dX10_has_14 : decode cX10_has 14 = .ok (.invokestatic 96, 3) := by decide +kernel
theorem dX10_has_17 : decode cX10_has 17 = .ok (.ifCond .eq 13, 3) := by decide +kernel
theorem dX10_has_20 : decode cX10_has 20 = .ok (.iload_n 3, 1) := by decide +kernel
theorem dX10_has_21 : decode cX10_has 21 = .ok (.sipush 10000, 3) := by decide +kernel
theorem dX10_has_24 : decode cX10_has 24 = .ok (.invokestatic 96, 3) := by decide +kernel
theorem dX10_has_27 : decode cX10_has 27 = .ok (.ifCond .ne 9, 3) := by decide +kernel
theorem dX10_has_30 : decode cX10_has 30 = .ok (.aload_n 0, 1) := by decide +kernel
theorem dX10_has_31 : decode cX10_has 31 = .ok (.iconst 1, 1) := by decide +kernel
theorem dX10_has_32 : decode cX10_has 32 = .ok (.invokevirtual 82, 3) := by decide +kernel
theorem dX10_has_35 : decode cX10_has 35 = .ok (.ireturn, 1) := by decide +kernel
theorem dX10_has_36 : decode cX10_has 36 = .ok (.aload 4, 2) := by decide +kernel
theorem dX10_has_38 : decode cX10_has 38 = .ok (.iload_n 2, 1) := by decide +kernel
theorem dX10_has_39 : decode cX10_has 39 = .ok (.iload_n 3, 1) := by decide +kernel
theorem dX10_has_40 : decode cX10_has 40 = .ok (.invokevirtual 115, 3) := by decide +kernel
theorem dX10_has_43 : decode cX10_has 43 = .ok (.ireturn, 1) := by decide +kernel
theorem dX10_named_0 : decode cX10_named 0 = .ok (.iload_n 1, 1) := by decide +kernel
theorem dX10_named_1 : decode cX10_named 1 = .ok (.bipush 100, 2) := by decide +kernel
theorem dX10_named_3 : decode cX10_named 3 = .ok (.invokestatic 96, 3) := by decide +kernel
theorem dX10_named_6 : decode cX10_named 6 = .ok (.ifCond .eq 13, 3) := by decide +kernel
theorem dX10_named_9 : decode cX10_named 9 = .ok (.iload_n 2, 1) := by decide +kernel
theorem dX10_named_10 : decode cX10_named 10 = .ok (.sipush 10000, 3) := by decide +kernel
theorem dX10_named_13 : decode cX10_named 13 = .ok (.invokestatic 96, 3) := by decide +kernel
theorem dX10_named_16 : decode cX10_named 16 = .ok (.ifCond .ne 9, 3) := by decide +kernel
theorem dX10_named_19 : decode cX10_named 19 = .ok (.aload_n 0, 1) := by decide +kernel
theorem dX10_named_20 : decode cX10_named 20 = .ok (.iconst 1, 1) := by decide +kernel
theorem dX10_named_21 : decode cX10_named 21 = .ok (.invokevirtual 82, 3) := by decide +kernel
theorem dX10_named_24 : decode cX10_named 24 = .ok (.ireturn, 1) := by decide +kernel
theorem dX10_named_25 : decode cX10_named 25 = .ok (.iconst 0, 1) := by decide +kernel
theorem dX10_named_26 : decode cX10_named 26 = .ok (.istore_n 3, 1) := by decide +kernel
theorem dX10_named_27 : decode cX10_named 27 = .ok (.iload_n 3, 1) := by decide +kernel
theorem dX10_named_28 : decode cX10_named 28 = .ok (.aload_n 0, 1) := by decide +kernel
theorem dX10_named_29 : decode cX10_named 29 = .ok (.getfield 86, 3) := by decide +kernel
theorem dX10_named_32 : decode cX10_named 32 = .ok (.if_icmp .ge 26, 3) := by decide +kernel
theorem dX10_named_35 : decode cX10_named 35 = .ok (.aload_n 0, 1) := by decide +kernel
theorem dX10_named_36 : decode cX10_named 36 = .ok (.getfield 11, 3) := by decide +kernel
theorem dX10_named_39 : decode cX10_named 39 = .ok (.iload_n 3, 1) := by decide +kernel
theorem dX10_named_40 : decode cX10_named 40 = .ok (.aaload, 1) := by decide +kernel
theorem dX10_named_41 : decode cX10_named 41 = .ok (.iconst 0, 1) := by decide +kernel
theorem dX10_named_42 : decode cX10_named 42 = .ok (.iload_n 2, 1) := by decide +kernel
theorem dX10_named_43 : decode cX10_named 43 = .ok (.invokevirtual 115, 3) := by decide +kernel
theorem dX10_named_46 : decode cX10_named 46 = .ok (.iload_n 1, 1) := by decide +kernel
theorem dX10_named_47 : decode cX10_named 47 = .ok (.if_icmp .ne 5, 3) := by decide +kernel
theorem dX10_named_50 : decode cX10_named 50 = .ok (.iload_n 3, 1) := by decide +kernel
theorem dX10_named_51 : decode cX10_named 51 = .ok (.ireturn, 1) := by decide +kernel
theorem dX10_named_52 : decode cX10_named 52 = .ok (.iinc 3 1, 3) := by decide +kernel
theorem dX10_named_55 : decode cX10_named 55 = .ok (.goto (-28), 3) := by decide +kernel
theorem dX10_named_58 : decode cX10_named 58 = .ok (.aload_n 0, 1) := by decide +kernel
theorem dX10_named_59 : decode cX10_named 59 = .ok (.iconst 2, 1) := by decide +kernel
theorem dX10_named_60 : decode cX10_named 60 = .ok (.invokevirtual 82, 3) := by decide +kernel
theorem dX10_named_63 : decode cX10_named 63 = .ok (.ireturn, 1) := by decide +kernel
theorem dX10_one_0 : decode cX10_one 0 = .ok (.iload_n 1, 1) := by decide +kernel
theorem dX10_one_1 : decode cX10_one 1 = .ok (.bipush 10, 2) := by decide +kernel
theorem dX10_one_3 : decode cX10_one 3 = .ok (.invokestatic 96, 3) := by decide +kernel
theorem dX10_one_6 : decode cX10_one 6 = .ok (.ifCond .eq 17, 3) := by decide +kernel
theorem dX10_one_9 : decode cX10_one 9 = .ok (.iload_n 2, 1) := by decide +kernel
theorem dX10_one_10 : decode cX10_one 10 = .ok (.bipush 10, 2) := by decide +kernel
theorem dX10_one_12 : decode cX10_one 12 = .ok (.invokestatic 96, 3) := by decide +kernel
theorem dX10_one_15 : decode cX10_one 15 = .ok (.ifCond .eq 8, 3) := by decide +kernel
theorem dX10_one_18 : decode cX10_one 18 = .ok (.iload_n 1, 1) := by decide +kernel
theorem dX10_one_19 : decode cX10_one 19 = .ok (.iload_n 2, 1) := by decide +kernel
theorem dX10_one_20 : decode cX10_one 20 = .ok (.if_icmp .ne 9, 3) := by decide +kernel
theorem dX10_one_23 : decode cX10_one 23 = .ok (.aload_n 0, 1) := by decide +kernel
theorem dX10_one_24 : decode cX10_one 24 = .ok (.iconst 1, 1) := by decide +kernel
theorem dX10_one_25 : decode cX10_one 25 = .ok (.invokevirtual 82, 3) := by decide +kernel
theorem dX10_one_28 : decode cX10_one 28 = .ok (.ireturn, 1) := by decide +kernel
theorem dX10_one_29 : decode cX10_one 29 = .ok (.aload_n 0, 1) := by decide +kernel
theorem dX10_one_30 : decode cX10_one 30 = .ok (.getfield 18, 3) := by decide +kernel
theorem dX10_one_33 : decode cX10_one 33 = .ok (.getfield 123, 3) := by decide +kernel
theorem dX10_one_36 : decode cX10_one 36 = .ok (.bipush 12, 2) := by decide +kernel
theorem dX10_one_38 : decode cX10_one 38 = .ok (.if_icmp .lt 9, 3) := by decide +kernel
theorem dX10_one_41 : decode cX10_one 41 = .ok (.aload_n 0, 1) := by decide +kernel
theorem dX10_one_42 : decode cX10_one 42 = .ok (.iconst 4, 1) := by decide +kernel
theorem dX10_one_43 : decode cX10_one 43 = .ok (.invokevirtual 82, 3) := by decide +kernel
theorem dX10_one_46 : decode cX10_one 46 = .ok (.ireturn, 1) := by decide +kernel
theorem dX10_one_47 : decode cX10_one 47 = .ok (.aload_n 0, 1) := by decide +kernel
theorem dX10_one_48 : decode cX10_one 48 = .ok (.getfield 18, 3) := by decide +kernel
theorem dX10_one_51 : decode cX10_one 51 = .ok (.iload_n 1, 1) := by decide +kernel
theorem dX10_one_52 : decode cX10_one 52 = .ok (.iload_n 2, 1) := by decide +kernel
theorem dX10_one_53 : decode cX10_one 53 = .ok (.invokevirtual 126, 3) := by decide +kernel
theorem dX10_one_56 : decode cX10_one 56 = .ok (.aload_n 0, 1) := by decide +kernel
theorem dX10_one_57 : decode cX10_one 57 = .ok (.getfield 18, 3) := by decide +kernel
theorem dX10_one_60 : decode cX10_one 60 = .ok (.getfield 123, 3) := by decide +kernel
theorem dX10_one_63 : decode cX10_one 63 = .ok (.ireturn, 1) := by decide +kernel
theorem dX10_fleet_0 : decode cX10_fleet 0 = .ok (.iload_n 1, 1) := by decide +kernel
theorem dX10_fleet_1 : decode cX10_fleet 1 = .ok (.bipush 10, 2) := by decide +kernel
theorem dX10_fleet_3 : decode cX10_fleet 3 = .ok (.invokestatic 96, 3) := by decide +kernel
theorem dX10_fleet_6 : decode cX10_fleet 6 = .ok (.ifCond .eq 13, 3) := by decide +kernel
theorem dX10_fleet_9 : decode cX10_fleet 9 = .ok (.iload_n 2, 1) := by decide +kernel
theorem dX10_fleet_10 : decode cX10_fleet 10 = .ok (.sipush 10000, 3) := by decide +kernel
theorem dX10_fleet_13 : decode cX10_fleet 13 = .ok (.invokestatic 96, 3) := by decide +kernel
theorem dX10_fleet_16 : decode cX10_fleet 16 = .ok (.ifCond .ne 9, 3) := by decide +kernel
theorem dX10_fleet_19 : decode cX10_fleet 19 = .ok (.aload_n 0, 1) := by decide +kernel
theorem dX10_fleet_20 : decode cX10_fleet 20 = .ok (.iconst 1, 1) := by decide +kernel
theorem dX10_fleet_21 : decode cX10_fleet 21 = .ok (.invokevirtual 82, 3) := by decide +kernel
theorem dX10_fleet_24 : decode cX10_fleet 24 = .ok (.ireturn, 1) := by decide +kernel
theorem dX10_fleet_25 : decode cX10_fleet 25 = .ok (.aload_n 0, 1) := by decide +kernel
theorem dX10_fleet_26 : decode cX10_fleet 26 = .ok (.iload_n 1, 1) := by decide +kernel
theorem dX10_fleet_27 : decode cX10_fleet 27 = .ok (.iload_n 2, 1) := by decide +kernel
theorem dX10_fleet_28 : decode cX10_fleet 28 = .ok (.invokevirtual 130, 3) := by decide +kernel
theorem dX10_fleet_31 : decode cX10_fleet 31 = .ok (.ireturn, 1) := by decide +kernel
theorem dX10_day_0 : decode cX10_day 0 = .ok (.iload_n 1, 1) := by decide +kernel
theorem dX10_day_1 : decode cX10_day 1 = .ok (.sipush 10000, 3) := by decide +kernel
theorem dX10_day_4 : decode cX10_day 4 = .ok (.invokestatic 96, 3) := by decide +kernel
theorem dX10_day_7 : decode cX10_day 7 = .ok (.ifCond .eq 11, 3) := by decide +kernel
theorem dX10_day_10 : decode cX10_day 10 = .ok (.iload_n 1, 1) := by decide +kernel
theorem dX10_day_11 : decode cX10_day 11 = .ok (.aload_n 0, 1) := by decide +kernel
theorem dX10_day_12 : decode cX10_day 12 = .ok (.getfield 79, 3) := by decide +kernel
theorem dX10_day_15 : decode cX10_day 15 = .ok (.if_icmp .ge 9, 3) := by decide +kernel
theorem dX10_day_18 : decode cX10_day 18 = .ok (.aload_n 0, 1) := by decide +kernel
theorem dX10_day_19 : decode cX10_day 19 = .ok (.iconst 1, 1) := by decide +kernel
theorem dX10_day_20 : decode cX10_day 20 = .ok (.invokevirtual 82, 3) := by decide +kernel
theorem dX10_day_23 : decode cX10_day 23 = .ok (.ireturn, 1) := by decide +kernel
theorem dX10_day_24 : decode cX10_day 24 = .ok (.iload_n 1, 1) := by decide +kernel
theorem dX10_day_25 : decode cX10_day 25 = .ok (.aload_n 0, 1) := by decide +kernel
theorem dX10_day_26 : decode cX10_day 26 = .ok (.getfield 79, 3) := by decide +kernel
theorem dX10_day_29 : decode cX10_day 29 = .ok (.isub, 1) := by decide +kernel
theorem dX10_day_30 : decode cX10_day 30 = .ok (.istore_n 2, 1) := by decide +kernel
theorem dX10_day_31 : decode cX10_day 31 = .ok (.aload_n 0, 1) := by decide +kernel
theorem dX10_day_32 : decode cX10_day 32 = .ok (.iload_n 1, 1) := by decide +kernel
theorem dX10_day_33 : decode cX10_day 33 = .ok (.putfield 79, 3) := by decide +kernel
theorem dX10_day_36 : decode cX10_day 36 = .ok (.iload_n 2, 1) := by decide +kernel
theorem dX10_day_37 : decode cX10_day 37 = .ok (.ireturn, 1) := by decide +kernel
theorem dX10_call_0 : decode cX10_call 0 = .ok (.aload_n 0, 1) := by decide +kernel
theorem dX10_call_1 : decode cX10_call 1 = .ok (.iload_n 1, 1) := by decide +kernel
theorem dX10_call_2 : decode cX10_call 2 = .ok (.invokevirtual 92, 3) := by decide +kernel
theorem dX10_call_5 : decode cX10_call 5 = .ok (.astore_n 3, 1) := by decide +kernel
theorem dX10_call_6 : decode cX10_call 6 = .ok (.aload_n 3, 1) := by decide +kernel
theorem dX10_call_7 : decode cX10_call 7 = .ok (.ifnull 11, 3) := by decide +kernel
theorem dX10_call_10 : decode cX10_call 10 = .ok (.iload_n 2, 1) := by decide +kernel
theorem dX10_call_11 : decode cX10_call 11 = .ok (.iconst 5, 1) := by decide +kernel
theorem dX10_call_12 : decode cX10_call 12 = .ok (.invokestatic 96, 3) := by decide +kernel
theorem dX10_call_15 : decode cX10_call 15 = .ok (.ifCond .ne 9, 3) := by decide +kernel
theorem dX10_call_18 : decode cX10_call 18 = .ok (.aload_n 0, 1) := by decide +kernel
theorem dX10_call_19 : decode cX10_call 19 = .ok (.iconst 1, 1) := by decide +kernel
theorem dX10_call_20 : decode cX10_call 20 = .ok (.invokevirtual 82, 3) := by decide +kernel
theorem dX10_call_23 : decode cX10_call 23 = .ok (.ireturn, 1) := by decide +kernel
theorem dX10_call_24 : decode cX10_call 24 = .ok (.aload_n 3, 1) := by decide +kernel
theorem dX10_call_25 : decode cX10_call 25 = .ok (.getfield 133, 3) := by decide +kernel
theorem dX10_call_28 : decode cX10_call 28 = .ok (.ifnonnull 10, 3) := by decide +kernel
theorem dX10_call_31 : decode cX10_call 31 = .ok (.aload_n 3, 1) := by decide +kernel
theorem dX10_call_32 : decode cX10_call 32 = .ok (.invokevirtual 137, 3) := by decide +kernel
theorem dX10_call_35 : decode cX10_call 35 = .ok (.ifCond .eq 9, 3) := by decide +kernel
theorem dX10_call_38 : decode cX10_call 38 = .ok (.aload_n 0, 1) := by decide +kernel
theorem dX10_call_39 : decode cX10_call 39 = .ok (.iconst 3, 1) := by decide +kernel
theorem dX10_call_40 : decode cX10_call 40 = .ok (.invokevirtual 82, 3) := by decide +kernel
theorem dX10_call_43 : decode cX10_call 43 = .ok (.ireturn, 1) := by decide +kernel
theorem dX10_call_44 : decode cX10_call 44 = .ok (.aload_n 0, 1) := by decide +kernel
theorem dX10_call_45 : decode cX10_call 45 = .ok (.getfield 141, 3) := by decide +kernel
theorem dX10_call_48 : decode cX10_call 48 = .ok (.bipush 50, 2) := by decide +kernel
theorem dX10_call_50 : decode cX10_call 50 = .ok (.if_icmp .lt 9, 3) := by decide +kernel
theorem dX10_call_53 : decode cX10_call 53 = .ok (.aload_n 0, 1) := by decide +kernel
theorem dX10_call_54 : decode cX10_call 54 = .ok (.iconst 4, 1) := by decide +kernel
theorem dX10_call_55 : decode cX10_call 55 = .ok (.invokevirtual 82, 3) := by decide +kernel
theorem dX10_call_58 : decode cX10_call 58 = .ok (.ireturn, 1) := by decide +kernel
theorem dX10_call_59 : decode cX10_call 59 = .ok (.new 22, 3) := by decide +kernel
theorem dX10_call_62 : decode cX10_call 62 = .ok (.dup, 1) := by decide +kernel
theorem dX10_call_63 : decode cX10_call 63 = .ok (.aload_n 0, 1) := by decide +kernel
theorem dX10_call_64 : decode cX10_call 64 = .ok (.getfield 141, 3) := by decide +kernel
theorem dX10_call_67 : decode cX10_call 67 = .ok (.aload_n 3, 1) := by decide +kernel
theorem dX10_call_68 : decode cX10_call 68 = .ok (.iload_n 2, 1) := by decide +kernel
theorem dX10_call_69 : decode cX10_call 69 = .ok (.aload_n 0, 1) := by decide +kernel
theorem dX10_call_70 : decode cX10_call 70 = .ok (.getfield 79, 3) := by decide +kernel
theorem dX10_call_73 : decode cX10_call 73 = .ok (.invokespecial 144, 3) := by decide +kernel
theorem dX10_call_76 : decode cX10_call 76 = .ok (.astore 4, 2) := by decide +kernel
theorem dX10_call_78 : decode cX10_call 78 = .ok (.aload_n 3, 1) := by decide +kernel
theorem dX10_call_79 : decode cX10_call 79 = .ok (.aload 4, 2) := by decide +kernel
theorem dX10_call_81 : decode cX10_call 81 = .ok (.putfield 133, 3) := by decide +kernel
theorem dX10_call_84 : decode cX10_call 84 = .ok (.aload_n 0, 1) := by decide +kernel
theorem dX10_call_85 : decode cX10_call 85 = .ok (.getfield 24, 3) := by decide +kernel
theorem dX10_call_88 : decode cX10_call 88 = .ok (.aload_n 0, 1) := by decide +kernel
theorem dX10_call_89 : decode cX10_call 89 = .ok (.getfield 141, 3) := by decide +kernel
theorem dX10_call_92 : decode cX10_call 92 = .ok (.aload 4, 2) := by decide +kernel
theorem dX10_call_94 : decode cX10_call 94 = .ok (.aastore, 1) := by decide +kernel
theorem dX10_call_95 : decode cX10_call 95 = .ok (.aload_n 0, 1) := by decide +kernel
theorem dX10_call_96 : decode cX10_call 96 = .ok (.dup, 1) := by decide +kernel
theorem dX10_call_97 : decode cX10_call 97 = .ok (.getfield 141, 3) := by decide +kernel
theorem dX10_call_100 : decode cX10_call 100 = .ok (.iconst 1, 1) := by decide +kernel
theorem dX10_call_101 : decode cX10_call 101 = .ok (.iadd, 1) := by decide +kernel
theorem dX10_call_102 : decode cX10_call 102 = .ok (.putfield 141, 3) := by decide +kernel
theorem dX10_call_105 : decode cX10_call 105 = .ok (.aload 4, 2) := by decide +kernel
theorem dX10_call_107 : decode cX10_call 107 = .ok (.getfield 147, 3) := by decide +kernel
theorem dX10_call_110 : decode cX10_call 110 = .ok (.ireturn, 1) := by decide +kernel
theorem dX10_leave_0 : decode cX10_leave 0 = .ok (.aload_n 0, 1) := by decide +kernel
theorem dX10_leave_1 : decode cX10_leave 1 = .ok (.iload_n 1, 1) := by decide +kernel
theorem dX10_leave_2 : decode cX10_leave 2 = .ok (.invokevirtual 150, 3) := by decide +kernel
theorem dX10_leave_5 : decode cX10_leave 5 = .ok (.astore_n 2, 1) := by decide +kernel
theorem dX10_leave_6 : decode cX10_leave 6 = .ok (.aload_n 2, 1) := by decide +kernel
theorem dX10_leave_7 : decode cX10_leave 7 = .ok (.ifnonnull 9, 3) := by decide +kernel
theorem dX10_leave_10 : decode cX10_leave 10 = .ok (.aload_n 0, 1) := by decide +kernel
theorem dX10_leave_11 : decode cX10_leave 11 = .ok (.iconst 1, 1) := by decide +kernel
theorem dX10_leave_12 : decode cX10_leave 12 = .ok (.invokevirtual 82, 3) := by decide +kernel
theorem dX10_leave_15 : decode cX10_leave 15 = .ok (.ireturn, 1) := by decide +kernel
theorem dX10_leave_16 : decode cX10_leave 16 = .ok (.aload_n 2, 1) := by decide +kernel
theorem dX10_leave_17 : decode cX10_leave 17 = .ok (.invokevirtual 154, 3) := by decide +kernel
theorem dX10_leave_20 : decode cX10_leave 20 = .ok (.ifCond .ne 10, 3) := by decide +kernel
theorem dX10_leave_23 : decode cX10_leave 23 = .ok (.aload_n 2, 1) := by decide +kernel
theorem dX10_leave_24 : decode cX10_leave 24 = .ok (.getfield 157, 3) := by decide +kernel
theorem dX10_leave_27 : decode cX10_leave 27 = .ok (.ifCond .eq 9, 3) := by decide +kernel
theorem dX10_leave_30 : decode cX10_leave 30 = .ok (.aload_n 0, 1) := by decide +kernel
theorem dX10_leave_31 : decode cX10_leave 31 = .ok (.iconst 3, 1) := by decide +kernel
theorem dX10_leave_32 : decode cX10_leave 32 = .ok (.invokevirtual 82, 3) := by decide +kernel
theorem dX10_leave_35 : decode cX10_leave 35 = .ok (.ireturn, 1) := by decide +kernel
theorem dX10_leave_36 : decode cX10_leave 36 = .ok (.aload_n 2, 1) := by decide +kernel
theorem dX10_leave_37 : decode cX10_leave 37 = .ok (.aload_n 0, 1) := by decide +kernel
theorem dX10_leave_38 : decode cX10_leave 38 = .ok (.getfield 79, 3) := by decide +kernel
theorem dX10_leave_41 : decode cX10_leave 41 = .ok (.putfield 161, 3) := by decide +kernel
theorem dX10_leave_44 : decode cX10_leave 44 = .ok (.aload_n 2, 1) := by decide +kernel
theorem dX10_leave_45 : decode cX10_leave 45 = .ok (.getfield 164, 3) := by decide +kernel
theorem dX10_leave_48 : decode cX10_leave 48 = .ok (.aconst_null, 1) := by decide +kernel
theorem dX10_leave_49 : decode cX10_leave 49 = .ok (.putfield 133, 3) := by decide +kernel
theorem dX10_leave_52 : decode cX10_leave 52 = .ok (.iconst 1, 1) := by decide +kernel
theorem dX10_leave_53 : decode cX10_leave 53 = .ok (.ireturn, 1) := by decide +kernel
theorem dX10_of_0 : decode cX10_of 0 = .ok (.aload_n 0, 1) := by decide +kernel
theorem dX10_of_1 : decode cX10_of 1 = .ok (.iload_n 1, 1) := by decide +kernel
theorem dX10_of_2 : decode cX10_of 2 = .ok (.invokevirtual 150, 3) := by decide +kernel
theorem dX10_of_5 : decode cX10_of 5 = .ok (.astore_n 3, 1) := by decide +kernel
theorem dX10_of_6 : decode cX10_of 6 = .ok (.aload_n 3, 1) := by decide +kernel
theorem dX10_of_7 : decode cX10_of 7 = .ok (.ifnonnull 9, 3) := by decide +kernel
theorem dX10_of_10 : decode cX10_of 10 = .ok (.aload_n 0, 1) := by decide +kernel
theorem dX10_of_11 : decode cX10_of 11 = .ok (.iconst 1, 1) := by decide +kernel
theorem dX10_of_12 : decode cX10_of 12 = .ok (.invokevirtual 82, 3) := by decide +kernel
theorem dX10_of_15 : decode cX10_of 15 = .ok (.ireturn, 1) := by decide +kernel
theorem dX10_of_16 : decode cX10_of 16 = .ok (.iload_n 2, 1) := by decide +kernel
theorem dX10_of_17 : decode cX10_of 17 = .ok (.tableswitch 80 0 5 #[39, 47, 52, 57, 62, 75], 39) := by decide +kernel
theorem dX10_of_56 : decode cX10_of 56 = .ok (.aload_n 3, 1) := by decide +kernel
theorem dX10_of_57 : decode cX10_of 57 = .ok (.getfield 164, 3) := by decide +kernel
theorem dX10_of_60 : decode cX10_of 60 = .ok (.getfield 168, 3) := by decide +kernel
theorem dX10_of_63 : decode cX10_of 63 = .ok (.ireturn, 1) := by decide +kernel
theorem dX10_of_64 : decode cX10_of 64 = .ok (.aload_n 3, 1) := by decide +kernel
theorem dX10_of_65 : decode cX10_of 65 = .ok (.getfield 169, 3) := by decide +kernel
theorem dX10_of_68 : decode cX10_of 68 = .ok (.ireturn, 1) := by decide +kernel
theorem dX10_of_69 : decode cX10_of 69 = .ok (.aload_n 3, 1) := by decide +kernel
theorem dX10_of_70 : decode cX10_of 70 = .ok (.getfield 172, 3) := by decide +kernel
theorem dX10_of_73 : decode cX10_of 73 = .ok (.ireturn, 1) := by decide +kernel
theorem dX10_of_74 : decode cX10_of 74 = .ok (.aload_n 3, 1) := by decide +kernel
theorem dX10_of_75 : decode cX10_of 75 = .ok (.getfield 161, 3) := by decide +kernel
theorem dX10_of_78 : decode cX10_of 78 = .ok (.ireturn, 1) := by decide +kernel
theorem dX10_of_79 : decode cX10_of 79 = .ok (.aload_n 3, 1) := by decide +kernel
theorem dX10_of_80 : decode cX10_of 80 = .ok (.getfield 157, 3) := by decide +kernel
theorem dX10_of_83 : decode cX10_of 83 = .ok (.ifCond .eq 7, 3) := by decide +kernel
theorem dX10_of_86 : decode cX10_of 86 = .ok (.iconst 1, 1) := by decide +kernel
theorem dX10_of_87 : decode cX10_of 87 = .ok (.goto 4, 3) := by decide +kernel
theorem dX10_of_90 : decode cX10_of 90 = .ok (.iconst 0, 1) := by decide +kernel
theorem dX10_of_91 : decode cX10_of 91 = .ok (.ireturn, 1) := by decide +kernel
theorem dX10_of_92 : decode cX10_of 92 = .ok (.aload_n 3, 1) := by decide +kernel
theorem dX10_of_93 : decode cX10_of 93 = .ok (.getfield 175, 3) := by decide +kernel
theorem dX10_of_96 : decode cX10_of 96 = .ok (.ireturn, 1) := by decide +kernel
theorem dX10_of_97 : decode cX10_of 97 = .ok (.aload_n 0, 1) := by decide +kernel
theorem dX10_of_98 : decode cX10_of 98 = .ok (.iconst 1, 1) := by decide +kernel
theorem dX10_of_99 : decode cX10_of 99 = .ok (.invokevirtual 82, 3) := by decide +kernel
theorem dX10_of_102 : decode cX10_of 102 = .ok (.ireturn, 1) := by decide +kernel
theorem dX10_feed_0 : decode cX10_feed 0 = .ok (.iload_n 1, 1) := by decide +kernel
theorem dX10_feed_1 : decode cX10_feed 1 = .ok (.sipush 256, 3) := by decide +kernel
theorem dX10_feed_4 : decode cX10_feed 4 = .ok (.invokestatic 96, 3) := by decide +kernel
theorem dX10_feed_7 : decode cX10_feed 7 = .ok (.ifCond .ne 9, 3) := by decide +kernel
theorem dX10_feed_10 : decode cX10_feed 10 = .ok (.aload_n 0, 1) := by decide +kernel
theorem dX10_feed_11 : decode cX10_feed 11 = .ok (.iconst 1, 1) := by decide +kernel
theorem dX10_feed_12 : decode cX10_feed 12 = .ok (.invokevirtual 82, 3) := by decide +kernel
theorem dX10_feed_15 : decode cX10_feed 15 = .ok (.ireturn, 1) := by decide +kernel
theorem dX10_feed_16 : decode cX10_feed 16 = .ok (.aload_n 0, 1) := by decide +kernel
theorem dX10_feed_17 : decode cX10_feed 17 = .ok (.getfield 43, 3) := by decide +kernel
theorem dX10_feed_20 : decode cX10_feed 20 = .ok (.getfield 178, 3) := by decide +kernel
theorem dX10_feed_23 : decode cX10_feed 23 = .ok (.bipush 60, 2) := by decide +kernel
theorem dX10_feed_25 : decode cX10_feed 25 = .ok (.if_icmp .lt 9, 3) := by decide +kernel
theorem dX10_feed_28 : decode cX10_feed 28 = .ok (.aload_n 0, 1) := by decide +kernel
theorem dX10_feed_29 : decode cX10_feed 29 = .ok (.iconst 4, 1) := by decide +kernel
theorem dX10_feed_30 : decode cX10_feed 30 = .ok (.invokevirtual 82, 3) := by decide +kernel
theorem dX10_feed_33 : decode cX10_feed 33 = .ok (.ireturn, 1) := by decide +kernel
theorem dX10_feed_34 : decode cX10_feed 34 = .ok (.aload_n 0, 1) := by decide +kernel
theorem dX10_feed_35 : decode cX10_feed 35 = .ok (.getfield 43, 3) := by decide +kernel
theorem dX10_feed_38 : decode cX10_feed 38 = .ok (.iload_n 1, 1) := by decide +kernel
theorem dX10_feed_39 : decode cX10_feed 39 = .ok (.invokevirtual 181, 3) := by decide +kernel
theorem dX10_feed_42 : decode cX10_feed 42 = .ok (.aload_n 0, 1) := by decide +kernel
theorem dX10_feed_43 : decode cX10_feed 43 = .ok (.getfield 43, 3) := by decide +kernel
theorem dX10_feed_46 : decode cX10_feed 46 = .ok (.getfield 178, 3) := by decide +kernel
theorem dX10_feed_49 : decode cX10_feed 49 = .ok (.ireturn, 1) := by decide +kernel
theorem dX10_treaty_0 : decode cX10_treaty 0 = .ok (.iload_n 1, 1) := by decide +kernel
theorem dX10_treaty_1 : decode cX10_treaty 1 = .ok (.sipush 10000, 3) := by decide +kernel
theorem dX10_treaty_4 : decode cX10_treaty 4 = .ok (.invokestatic 96, 3) := by decide +kernel
theorem dX10_treaty_7 : decode cX10_treaty 7 = .ok (.ifCond .ne 9, 3) := by decide +kernel
theorem dX10_treaty_10 : decode cX10_treaty 10 = .ok (.aload_n 0, 1) := by decide +kernel
theorem dX10_treaty_11 : decode cX10_treaty 11 = .ok (.iconst 1, 1) := by decide +kernel
theorem dX10_treaty_12 : decode cX10_treaty 12 = .ok (.invokevirtual 82, 3) := by decide +kernel
theorem dX10_treaty_15 : decode cX10_treaty 15 = .ok (.ireturn, 1) := by decide +kernel
theorem dX10_treaty_16 : decode cX10_treaty 16 = .ok (.aload_n 0, 1) := by decide +kernel
theorem dX10_treaty_17 : decode cX10_treaty 17 = .ok (.getfield 185, 3) := by decide +kernel
theorem dX10_treaty_20 : decode cX10_treaty 20 = .ok (.bipush 6, 2) := by decide +kernel
theorem dX10_treaty_22 : decode cX10_treaty 22 = .ok (.if_icmp .lt 9, 3) := by decide +kernel
theorem dX10_treaty_25 : decode cX10_treaty 25 = .ok (.aload_n 0, 1) := by decide +kernel
theorem dX10_treaty_26 : decode cX10_treaty 26 = .ok (.iconst 4, 1) := by decide +kernel
theorem dX10_treaty_27 : decode cX10_treaty 27 = .ok (.invokevirtual 82, 3) := by decide +kernel
theorem dX10_treaty_30 : decode cX10_treaty 30 = .ok (.ireturn, 1) := by decide +kernel
theorem dX10_treaty_31 : decode cX10_treaty 31 = .ok (.new 34, 3) := by decide +kernel
theorem dX10_treaty_34 : decode cX10_treaty 34 = .ok (.dup, 1) := by decide +kernel
theorem dX10_treaty_35 : decode cX10_treaty 35 = .ok (.iload_n 1, 1) := by decide +kernel
theorem dX10_treaty_36 : decode cX10_treaty 36 = .ok (.invokespecial 188, 3) := by decide +kernel
theorem dX10_treaty_39 : decode cX10_treaty 39 = .ok (.astore_n 2, 1) := by decide +kernel
theorem dX10_treaty_40 : decode cX10_treaty 40 = .ok (.aload_n 0, 1) := by decide +kernel
theorem dX10_treaty_41 : decode cX10_treaty 41 = .ok (.getfield 43, 3) := by decide +kernel
theorem dX10_treaty_44 : decode cX10_treaty 44 = .ok (.aload_n 2, 1) := by decide +kernel
theorem dX10_treaty_45 : decode cX10_treaty 45 = .ok (.invokevirtual 190, 3) := by decide +kernel
theorem dX10_treaty_48 : decode cX10_treaty 48 = .ok (.istore_n 3, 1) := by decide +kernel
theorem dX10_treaty_49 : decode cX10_treaty 49 = .ok (.aload_n 0, 1) := by decide +kernel
theorem dX10_treaty_50 : decode cX10_treaty 50 = .ok (.getfield 43, 3) := by decide +kernel
theorem dX10_treaty_53 : decode cX10_treaty 53 = .ok (.iconst 0, 1) := by decide +kernel
theorem dX10_treaty_54 : decode cX10_treaty 54 = .ok (.putfield 178, 3) := by decide +kernel
theorem dX10_treaty_57 : decode cX10_treaty 57 = .ok (.iload_n 3, 1) := by decide +kernel
theorem dX10_treaty_58 : decode cX10_treaty 58 = .ok (.ifCond .ne 14, 3) := by decide +kernel
theorem dX10_treaty_61 : decode cX10_treaty 61 = .ok (.bipush (-10), 2) := by decide +kernel
theorem dX10_treaty_63 : decode cX10_treaty 63 = .ok (.aload_n 0, 1) := by decide +kernel
theorem dX10_treaty_64 : decode cX10_treaty 64 = .ok (.getfield 43, 3) := by decide +kernel
theorem dX10_treaty_67 : decode cX10_treaty 67 = .ok (.getfield 194, 3) := by decide +kernel
theorem dX10_treaty_70 : decode cX10_treaty 70 = .ok (.isub, 1) := by decide +kernel
theorem dX10_treaty_71 : decode cX10_treaty 71 = .ok (.ireturn, 1) := by decide +kernel
theorem dX10_treaty_72 : decode cX10_treaty 72 = .ok (.aload_n 0, 1) := by decide +kernel
theorem dX10_treaty_73 : decode cX10_treaty 73 = .ok (.getfield 36, 3) := by decide +kernel
theorem dX10_treaty_76 : decode cX10_treaty 76 = .ok (.aload_n 0, 1) := by decide +kernel
theorem dX10_treaty_77 : decode cX10_treaty 77 = .ok (.getfield 185, 3) := by decide +kernel
theorem dX10_treaty_80 : decode cX10_treaty 80 = .ok (.aload_n 2, 1) := by decide +kernel
theorem dX10_treaty_81 : decode cX10_treaty 81 = .ok (.aastore, 1) := by decide +kernel
theorem dX10_treaty_82 : decode cX10_treaty 82 = .ok (.aload_n 0, 1) := by decide +kernel
theorem dX10_treaty_83 : decode cX10_treaty 83 = .ok (.dup, 1) := by decide +kernel
theorem dX10_treaty_84 : decode cX10_treaty 84 = .ok (.getfield 185, 3) := by decide +kernel
theorem dX10_treaty_87 : decode cX10_treaty 87 = .ok (.iconst 1, 1) := by decide +kernel
theorem dX10_treaty_88 : decode cX10_treaty 88 = .ok (.iadd, 1) := by decide +kernel
theorem dX10_treaty_89 : decode cX10_treaty 89 = .ok (.putfield 185, 3) := by decide +kernel
theorem dX10_treaty_92 : decode cX10_treaty 92 = .ok (.aload_n 0, 1) := by decide +kernel
theorem dX10_treaty_93 : decode cX10_treaty 93 = .ok (.getfield 185, 3) := by decide +kernel
theorem dX10_treaty_96 : decode cX10_treaty 96 = .ok (.ireturn, 1) := by decide +kernel
theorem dX10_says_0 : decode cX10_says 0 = .ok (.iload_n 2, 1) := by decide +kernel
theorem dX10_says_1 : decode cX10_says 1 = .ok (.bipush 10, 2) := by decide +kernel
theorem dX10_says_3 : decode cX10_says 3 = .ok (.if_icmp .lt 13, 3) := by decide +kernel
theorem dX10_says_6 : decode cX10_says 6 = .ok (.iload_n 2, 1) := by decide +kernel
theorem dX10_says_7 : decode cX10_says 7 = .ok (.bipush 20, 2) := by decide +kernel
theorem dX10_says_9 : decode cX10_says 9 = .ok (.if_icmp .ge 7, 3) := by decide +kernel
theorem dX10_says_12 : decode cX10_says 12 = .ok (.iconst 1, 1) := by decide +kernel
theorem dX10_says_13 : decode cX10_says 13 = .ok (.goto 4, 3) := by decide +kernel
theorem dX10_says_16 : decode cX10_says 16 = .ok (.iconst 0, 1) := by decide +kernel
theorem dX10_says_17 : decode cX10_says 17 = .ok (.istore_n 3, 1) := by decide +kernel
theorem dX10_says_18 : decode cX10_says 18 = .ok (.iload_n 2, 1) := by decide +kernel
theorem dX10_says_19 : decode cX10_says 19 = .ok (.bipush 20, 2) := by decide +kernel
theorem dX10_says_21 : decode cX10_says 21 = .ok (.if_icmp .lt 13, 3) := by decide +kernel
theorem dX10_says_24 : decode cX10_says 24 = .ok (.iload_n 2, 1) := by decide +kernel
theorem dX10_says_25 : decode cX10_says 25 = .ok (.bipush 24, 2) := by decide +kernel
theorem dX10_says_27 : decode cX10_says 27 = .ok (.if_icmp .ge 7, 3) := by decide +kernel
theorem dX10_says_30 : decode cX10_says 30 = .ok (.iconst 1, 1) := by decide +kernel
theorem dX10_says_31 : decode cX10_says 31 = .ok (.goto 4, 3) := by decide +kernel
theorem dX10_says_34 : decode cX10_says 34 = .ok (.iconst 0, 1) := by decide +kernel
theorem dX10_says_35 : decode cX10_says 35 = .ok (.istore 4, 2) := by decide +kernel
theorem dX10_says_37 : decode cX10_says 37 = .ok (.iload_n 1, 1) := by decide +kernel
theorem dX10_says_38 : decode cX10_says 38 = .ok (.sipush 10000, 3) := by decide +kernel
theorem dX10_says_41 : decode cX10_says 41 = .ok (.invokestatic 96, 3) := by decide +kernel
theorem dX10_says_44 : decode cX10_says 44 = .ok (.ifCond .eq 16, 3) := by decide +kernel
theorem dX10_says_47 : decode cX10_says 47 = .ok (.iload_n 2, 1) := by decide +kernel
theorem dX10_says_48 : decode cX10_says 48 = .ok (.ifCond .eq 18, 3) := by decide +kernel
theorem dX10_says_51 : decode cX10_says 51 = .ok (.iload_n 3, 1) := by decide +kernel
theorem dX10_says_52 : decode cX10_says 52 = .ok (.ifCond .ne 14, 3) := by decide +kernel
theorem dX10_says_55 : decode cX10_says 55 = .ok (.iload 4, 2) := by decide +kernel
theorem dX10_says_57 : decode cX10_says 57 = .ok (.ifCond .ne 9, 3) := by decide +kernel
theorem dX10_says_60 : decode cX10_says 60 = .ok (.aload_n 0, 1) := by decide +kernel
theorem dX10_says_61 : decode cX10_says 61 = .ok (.iconst 1, 1) := by decide +kernel
theorem dX10_says_62 : decode cX10_says 62 = .ok (.invokevirtual 82, 3) := by decide +kernel
theorem dX10_says_65 : decode cX10_says 65 = .ok (.ireturn, 1) := by decide +kernel
theorem dX10_says_66 : decode cX10_says 66 = .ok (.aload_n 0, 1) := by decide +kernel
theorem dX10_says_67 : decode cX10_says 67 = .ok (.iload_n 1, 1) := by decide +kernel
theorem dX10_says_68 : decode cX10_says 68 = .ok (.invokevirtual 197, 3) := by decide +kernel
theorem dX10_says_71 : decode cX10_says 71 = .ok (.astore 5, 2) := by decide +kernel
theorem dX10_says_73 : decode cX10_says 73 = .ok (.aload 5, 2) := by decide +kernel
theorem dX10_says_75 : decode cX10_says 75 = .ok (.ifnonnull 9, 3) := by decide +kernel
theorem dX10_says_78 : decode cX10_says 78 = .ok (.aload_n 0, 1) := by decide +kernel
theorem dX10_says_79 : decode cX10_says 79 = .ok (.iconst 2, 1) := by decide +kernel
theorem dX10_says_80 : decode cX10_says 80 = .ok (.invokevirtual 82, 3) := by decide +kernel
theorem dX10_says_83 : decode cX10_says 83 = .ok (.ireturn, 1) := by decide +kernel
theorem dX10_says_84 : decode cX10_says 84 = .ok (.iload_n 3, 1) := by decide +kernel
theorem dX10_says_85 : decode cX10_says 85 = .ok (.ifCond .eq 14, 3) := by decide +kernel
theorem dX10_says_88 : decode cX10_says 88 = .ok (.aload 5, 2) := by decide +kernel
theorem dX10_says_90 : decode cX10_says 90 = .ok (.getfield 201, 3) := by decide +kernel
theorem dX10_says_93 : decode cX10_says 93 = .ok (.iload_n 2, 1) := by decide +kernel
theorem dX10_says_94 : decode cX10_says 94 = .ok (.bipush 10, 2) := by decide +kernel
theorem dX10_says_96 : decode cX10_says 96 = .ok (.isub, 1) := by decide +kernel
theorem dX10_says_97 : decode cX10_says 97 = .ok (.iaload, 1) := by decide +kernel
theorem dX10_says_98 : decode cX10_says 98 = .ok (.ireturn, 1) := by decide +kernel
theorem dX10_says_99 : decode cX10_says 99 = .ok (.iload 4, 2) := by decide +kernel
theorem dX10_says_101 : decode cX10_says 101 = .ok (.ifCond .eq 16, 3) := by decide +kernel
theorem dX10_says_104 : decode cX10_says 104 = .ok (.aload 5, 2) := by decide +kernel
theorem dX10_says_106 : decode cX10_says 106 = .ok (.getfield 204, 3) := by decide +kernel
theorem dX10_says_109 : decode cX10_says 109 = .ok (.iload_n 2, 1) := by decide +kernel
theorem dX10_says_110 : decode cX10_says 110 = .ok (.bipush 20, 2) := by decide +kernel
theorem dX10_says_112 : decode cX10_says 112 = .ok (.isub, 1) := by decide +kernel
theorem dX10_says_113 : decode cX10_says 113 = .ok (.iaload, 1) := by decide +kernel
theorem dX10_says_114 : decode cX10_says 114 = .ok (.goto 8, 3) := by decide +kernel
theorem dX10_says_117 : decode cX10_says 117 = .ok (.aload 5, 2) := by decide +kernel
theorem dX10_says_119 : decode cX10_says 119 = .ok (.getfield 207, 3) := by decide +kernel
theorem dX10_says_122 : decode cX10_says 122 = .ok (.ireturn, 1) := by decide +kernel
theorem dX10_look_0 : decode cX10_look 0 = .ok (.aload_n 0, 1) := by decide +kernel
theorem dX10_look_1 : decode cX10_look 1 = .ok (.iload_n 1, 1) := by decide +kernel
theorem dX10_look_2 : decode cX10_look 2 = .ok (.invokevirtual 150, 3) := by decide +kernel
theorem dX10_look_5 : decode cX10_look 5 = .ok (.astore 4, 2) := by decide +kernel
theorem dX10_look_7 : decode cX10_look 7 = .ok (.aload 4, 2) := by decide +kernel
theorem dX10_look_9 : decode cX10_look 9 = .ok (.ifnull 22, 3) := by decide +kernel
theorem dX10_look_12 : decode cX10_look 12 = .ok (.iload_n 2, 1) := by decide +kernel
theorem dX10_look_13 : decode cX10_look 13 = .ok (.bipush 6, 2) := by decide +kernel
theorem dX10_look_15 : decode cX10_look 15 = .ok (.invokestatic 96, 3) := by decide +kernel
theorem dX10_look_18 : decode cX10_look 18 = .ok (.ifCond .eq 13, 3) := by decide +kernel
theorem dX10_look_21 : decode cX10_look 21 = .ok (.iload_n 3, 1) := by decide +kernel
theorem dX10_look_22 : decode cX10_look 22 = .ok (.sipush 1024, 3) := by decide +kernel
theorem dX10_look_25 : decode cX10_look 25 = .ok (.invokestatic 96, 3) := by decide +kernel
theorem dX10_look_28 : decode cX10_look 28 = .ok (.ifCond .ne 9, 3) := by decide +kernel
theorem dX10_look_31 : decode cX10_look 31 = .ok (.aload_n 0, 1) := by decide +kernel
theorem dX10_look_32 : decode cX10_look 32 = .ok (.iconst 1, 1) := by decide +kernel
theorem dX10_look_33 : decode cX10_look 33 = .ok (.invokevirtual 82, 3) := by decide +kernel
theorem dX10_look_36 : decode cX10_look 36 = .ok (.ireturn, 1) := by decide +kernel
theorem dX10_look_37 : decode cX10_look 37 = .ok (.aload 4, 2) := by decide +kernel
theorem dX10_look_39 : decode cX10_look 39 = .ok (.invokevirtual 154, 3) := by decide +kernel
theorem dX10_look_42 : decode cX10_look 42 = .ok (.ifCond .eq 9, 3) := by decide +kernel
theorem dX10_look_45 : decode cX10_look 45 = .ok (.aload_n 0, 1) := by decide +kernel
theorem dX10_look_46 : decode cX10_look 46 = .ok (.iconst 3, 1) := by decide +kernel
theorem dX10_look_47 : decode cX10_look 47 = .ok (.invokevirtual 82, 3) := by decide +kernel
theorem dX10_look_50 : decode cX10_look 50 = .ok (.ireturn, 1) := by decide +kernel
theorem dX10_look_51 : decode cX10_look 51 = .ok (.aload_n 0, 1) := by decide +kernel
theorem dX10_look_52 : decode cX10_look 52 = .ok (.getfield 210, 3) := by decide +kernel
theorem dX10_look_55 : decode cX10_look 55 = .ok (.bipush 60, 2) := by decide +kernel
theorem dX10_look_57 : decode cX10_look 57 = .ok (.if_icmp .lt 9, 3) := by decide +kernel
theorem dX10_look_60 : decode cX10_look 60 = .ok (.aload_n 0, 1) := by decide +kernel
theorem dX10_look_61 : decode cX10_look 61 = .ok (.iconst 4, 1) := by decide +kernel
theorem dX10_look_62 : decode cX10_look 62 = .ok (.invokevirtual 82, 3) := by decide +kernel
theorem dX10_look_65 : decode cX10_look 65 = .ok (.ireturn, 1) := by decide +kernel
theorem dX10_look_66 : decode cX10_look 66 = .ok (.aload_n 0, 1) := by decide +kernel
theorem dX10_look_67 : decode cX10_look 67 = .ok (.aload_n 0, 1) := by decide +kernel
theorem dX10_look_68 : decode cX10_look 68 = .ok (.getfield 79, 3) := by decide +kernel
theorem dX10_look_71 : decode cX10_look 71 = .ok (.invokevirtual 197, 3) := by decide +kernel
theorem dX10_look_74 : decode cX10_look 74 = .ok (.astore 5, 2) := by decide +kernel
theorem dX10_look_76 : decode cX10_look 76 = .ok (.aload 5, 2) := by decide +kernel
theorem dX10_look_78 : decode cX10_look 78 = .ok (.ifnull 24, 3) := by decide +kernel
theorem dX10_look_81 : decode cX10_look 81 = .ok (.aload 5, 2) := by decide +kernel
theorem dX10_look_83 : decode cX10_look 83 = .ok (.aload 4, 2) := by decide +kernel
theorem dX10_look_85 : decode cX10_look 85 = .ok (.getfield 164, 3) := by decide +kernel
theorem dX10_look_88 : decode cX10_look 88 = .ok (.getfield 100, 3) := by decide +kernel
theorem dX10_look_91 : decode cX10_look 91 = .ok (.iload_n 3, 1) := by decide +kernel
theorem dX10_look_92 : decode cX10_look 92 = .ok (.invokevirtual 213, 3) := by decide +kernel
theorem dX10_look_95 : decode cX10_look 95 = .ok (.ifCond .eq 7, 3) := by decide +kernel
theorem dX10_look_98 : decode cX10_look 98 = .ok (.iconst 1, 1) := by decide +kernel
theorem dX10_look_99 : decode cX10_look 99 = .ok (.goto 4, 3) := by decide +kernel
theorem dX10_look_102 : decode cX10_look 102 = .ok (.iconst 0, 1) := by decide +kernel
theorem dX10_look_103 : decode cX10_look 103 = .ok (.istore 6, 2) := by decide +kernel
theorem dX10_look_105 : decode cX10_look 105 = .ok (.aload_n 0, 1) := by decide +kernel
theorem dX10_look_106 : decode cX10_look 106 = .ok (.getfield 30, 3) := by decide +kernel
theorem dX10_look_109 : decode cX10_look 109 = .ok (.aload_n 0, 1) := by decide +kernel
theorem dX10_look_110 : decode cX10_look 110 = .ok (.getfield 210, 3) := by decide +kernel
theorem dX10_look_113 : decode cX10_look 113 = .ok (.new 28, 3) := by decide +kernel
theorem dX10_look_116 : decode cX10_look 116 = .ok (.dup, 1) := by decide +kernel
theorem dX10_look_117 : decode cX10_look 117 = .ok (.aload 4, 2) := by decide +kernel
theorem dX10_look_119 : decode cX10_look 119 = .ok (.iload_n 2, 1) := by decide +kernel
theorem dX10_look_120 : decode cX10_look 120 = .ok (.aload_n 0, 1) := by decide +kernel
theorem dX10_look_121 : decode cX10_look 121 = .ok (.getfield 79, 3) := by decide +kernel
theorem dX10_look_124 : decode cX10_look 124 = .ok (.iload_n 3, 1) := by decide +kernel
theorem dX10_look_125 : decode cX10_look 125 = .ok (.iload 6, 2) := by decide +kernel
theorem dX10_look_127 : decode cX10_look 127 = .ok (.invokespecial 216, 3) := by decide +kernel
theorem dX10_look_130 : decode cX10_look 130 = .ok (.aastore, 1) := by decide +kernel
theorem dX10_look_131 : decode cX10_look 131 = .ok (.aload_n 0, 1) := by decide +kernel
theorem dX10_look_132 : decode cX10_look 132 = .ok (.dup, 1) := by decide +kernel
theorem dX10_look_133 : decode cX10_look 133 = .ok (.getfield 210, 3) := by decide +kernel
theorem dX10_look_136 : decode cX10_look 136 = .ok (.iconst 1, 1) := by decide +kernel
theorem dX10_look_137 : decode cX10_look 137 = .ok (.iadd, 1) := by decide +kernel
theorem dX10_look_138 : decode cX10_look 138 = .ok (.putfield 210, 3) := by decide +kernel
theorem dX10_look_141 : decode cX10_look 141 = .ok (.aload 4, 2) := by decide +kernel
theorem dX10_look_143 : decode cX10_look 143 = .ok (.dup, 1) := by decide +kernel
theorem dX10_look_144 : decode cX10_look 144 = .ok (.getfield 175, 3) := by decide +kernel
theorem dX10_look_147 : decode cX10_look 147 = .ok (.iconst 1, 1) := by decide +kernel
theorem dX10_look_148 : decode cX10_look 148 = .ok (.iadd, 1) := by decide +kernel
theorem dX10_look_149 : decode cX10_look 149 = .ok (.putfield 175, 3) := by decide +kernel
theorem dX10_look_152 : decode cX10_look 152 = .ok (.aload 4, 2) := by decide +kernel
theorem dX10_look_154 : decode cX10_look 154 = .ok (.iload 6, 2) := by decide +kernel
theorem dX10_look_156 : decode cX10_look 156 = .ok (.putfield 157, 3) := by decide +kernel
theorem dX10_look_159 : decode cX10_look 159 = .ok (.aload 4, 2) := by decide +kernel
theorem dX10_look_161 : decode cX10_look 161 = .ok (.getfield 164, 3) := by decide +kernel
theorem dX10_look_164 : decode cX10_look 164 = .ok (.aload_n 0, 1) := by decide +kernel
theorem dX10_look_165 : decode cX10_look 165 = .ok (.getfield 79, 3) := by decide +kernel
theorem dX10_look_168 : decode cX10_look 168 = .ok (.putfield 219, 3) := by decide +kernel
theorem dX10_look_171 : decode cX10_look 171 = .ok (.iload 6, 2) := by decide +kernel
theorem dX10_look_173 : decode cX10_look 173 = .ok (.ifCond .eq 12, 3) := by decide +kernel
theorem dX10_look_176 : decode cX10_look 176 = .ok (.aload_n 0, 1) := by decide +kernel
theorem dX10_look_177 : decode cX10_look 177 = .ok (.aload 4, 2) := by decide +kernel
theorem dX10_look_179 : decode cX10_look 179 = .ok (.getfield 164, 3) := by decide +kernel
theorem dX10_look_182 : decode cX10_look 182 = .ok (.invokevirtual 222, 3) := by decide +kernel
theorem dX10_look_185 : decode cX10_look 185 = .ok (.aload_n 0, 1) := by decide +kernel
theorem dX10_look_186 : decode cX10_look 186 = .ok (.getfield 210, 3) := by decide +kernel
theorem dX10_look_189 : decode cX10_look 189 = .ok (.iconst 1, 1) := by decide +kernel
theorem dX10_look_190 : decode cX10_look 190 = .ok (.isub, 1) := by decide +kernel
theorem dX10_look_191 : decode cX10_look 191 = .ok (.ireturn, 1) := by decide +kernel
theorem dX10_told_0 : decode cX10_told 0 = .ok (.aload_n 0, 1) := by decide +kernel
theorem dX10_told_1 : decode cX10_told 1 = .ok (.iload_n 1, 1) := by decide +kernel
theorem dX10_told_2 : decode cX10_told 2 = .ok (.invokevirtual 226, 3) := by decide +kernel
theorem dX10_told_5 : decode cX10_told 5 = .ok (.astore_n 3, 1) := by decide +kernel
theorem dX10_told_6 : decode cX10_told 6 = .ok (.aload_n 3, 1) := by decide +kernel
theorem dX10_told_7 : decode cX10_told 7 = .ok (.ifnonnull 9, 3) := by decide +kernel
theorem dX10_told_10 : decode cX10_told 10 = .ok (.aload_n 0, 1) := by decide +kernel
theorem dX10_told_11 : decode cX10_told 11 = .ok (.iconst 1, 1) := by decide +kernel
theorem dX10_told_12 : decode cX10_told 12 = .ok (.invokevirtual 82, 3) := by decide +kernel
theorem dX10_told_15 : decode cX10_told 15 = .ok (.ireturn, 1) := by decide +kernel
theorem dX10_told_16 : decode cX10_told 16 = .ok (.iload_n 2, 1) := by decide +kernel
theorem dX10_told_17 : decode cX10_told 17 = .ok (.tableswitch 71 0 4 #[35, 43, 48, 53, 58], 35) := by decide +kernel
theorem dX10_told_52 : decode cX10_told 52 = .ok (.aload_n 3, 1) := by decide +kernel
theorem dX10_told_53 : decode cX10_told 53 = .ok (.getfield 230, 3) := by decide +kernel
theorem dX10_told_56 : decode cX10_told 56 = .ok (.getfield 147, 3) := by decide +kernel
theorem dX10_told_59 : decode cX10_told 59 = .ok (.ireturn, 1) := by decide +kernel
theorem dX10_told_60 : decode cX10_told 60 = .ok (.aload_n 3, 1) := by decide +kernel
theorem dX10_told_61 : decode cX10_told 61 = .ok (.getfield 233, 3) := by decide +kernel
theorem dX10_told_64 : decode cX10_told 64 = .ok (.ireturn, 1) := by decide +kernel
theorem dX10_told_65 : decode cX10_told 65 = .ok (.aload_n 3, 1) := by decide +kernel
theorem dX10_told_66 : decode cX10_told 66 = .ok (.getfield 236, 3) := by decide +kernel
theorem dX10_told_69 : decode cX10_told 69 = .ok (.ireturn, 1) := by decide +kernel
theorem dX10_told_70 : decode cX10_told 70 = .ok (.aload_n 3, 1) := by decide +kernel
theorem dX10_told_71 : decode cX10_told 71 = .ok (.getfield 239, 3) := by decide +kernel
theorem dX10_told_74 : decode cX10_told 74 = .ok (.ireturn, 1) := by decide +kernel
theorem dX10_told_75 : decode cX10_told 75 = .ok (.aload_n 3, 1) := by decide +kernel
theorem dX10_told_76 : decode cX10_told 76 = .ok (.getfield 242, 3) := by decide +kernel
theorem dX10_told_79 : decode cX10_told 79 = .ok (.ifCond .eq 7, 3) := by decide +kernel
theorem dX10_told_82 : decode cX10_told 82 = .ok (.iconst 1, 1) := by decide +kernel
theorem dX10_told_83 : decode cX10_told 83 = .ok (.goto 4, 3) := by decide +kernel
theorem dX10_told_86 : decode cX10_told 86 = .ok (.iconst 0, 1) := by decide +kernel
theorem dX10_told_87 : decode cX10_told 87 = .ok (.ireturn, 1) := by decide +kernel
theorem dX10_told_88 : decode cX10_told 88 = .ok (.aload_n 0, 1) := by decide +kernel
theorem dX10_told_89 : decode cX10_told 89 = .ok (.iconst 1, 1) := by decide +kernel
theorem dX10_told_90 : decode cX10_told 90 = .ok (.invokevirtual 82, 3) := by decide +kernel
theorem dX10_told_93 : decode cX10_told 93 = .ok (.ireturn, 1) := by decide +kernel
theorem dX10_share_0 : decode cX10_share 0 = .ok (.iload_n 1, 1) := by decide +kernel
theorem dX10_share_1 : decode cX10_share 1 = .ok (.iconst 3, 1) := by decide +kernel
theorem dX10_share_2 : decode cX10_share 2 = .ok (.invokestatic 96, 3) := by decide +kernel
theorem dX10_share_5 : decode cX10_share 5 = .ok (.ifCond .eq 22, 3) := by decide +kernel
theorem dX10_share_8 : decode cX10_share 8 = .ok (.iload_n 2, 1) := by decide +kernel
theorem dX10_share_9 : decode cX10_share 9 = .ok (.iload_n 1, 1) := by decide +kernel
theorem dX10_share_10 : decode cX10_share 10 = .ok (.invokestatic 245, 3) := by decide +kernel
theorem dX10_share_13 : decode cX10_share 13 = .ok (.invokestatic 96, 3) := by decide +kernel
theorem dX10_share_16 : decode cX10_share 16 = .ok (.ifCond .eq 11, 3) := by decide +kernel
theorem dX10_share_19 : decode cX10_share 19 = .ok (.iload_n 3, 1) := by decide +kernel
theorem dX10_share_20 : decode cX10_share 20 = .ok (.iconst 3, 1) := by decide +kernel
theorem dX10_share_21 : decode cX10_share 21 = .ok (.invokestatic 96, 3) := by decide +kernel
theorem dX10_share_24 : decode cX10_share 24 = .ok (.ifCond .ne 9, 3) := by decide +kernel
theorem dX10_share_27 : decode cX10_share 27 = .ok (.aload_n 0, 1) := by decide +kernel
theorem dX10_share_28 : decode cX10_share 28 = .ok (.iconst 1, 1) := by decide +kernel
theorem dX10_share_29 : decode cX10_share 29 = .ok (.invokevirtual 82, 3) := by decide +kernel
theorem dX10_share_32 : decode cX10_share 32 = .ok (.ireturn, 1) := by decide +kernel
theorem dX10_share_33 : decode cX10_share 33 = .ok (.aload_n 0, 1) := by decide +kernel
theorem dX10_share_34 : decode cX10_share 34 = .ok (.iload_n 1, 1) := by decide +kernel
theorem dX10_share_35 : decode cX10_share 35 = .ok (.iload_n 2, 1) := by decide +kernel
theorem dX10_share_36 : decode cX10_share 36 = .ok (.invokevirtual 248, 3) := by decide +kernel
theorem dX10_share_39 : decode cX10_share 39 = .ok (.iload_n 3, 1) := by decide +kernel
theorem dX10_share_40 : decode cX10_share 40 = .ok (.ifCond .ne 11, 3) := by decide +kernel
theorem dX10_share_43 : decode cX10_share 43 = .ok (.aload_n 0, 1) := by decide +kernel
theorem dX10_share_44 : decode cX10_share 44 = .ok (.getfield 61, 3) := by decide +kernel
theorem dX10_share_47 : decode cX10_share 47 = .ok (.getfield 251, 3) := by decide +kernel
theorem dX10_share_50 : decode cX10_share 50 = .ok (.ireturn, 1) := by decide +kernel
theorem dX10_share_51 : decode cX10_share 51 = .ok (.iload_n 3, 1) := by decide +kernel
theorem dX10_share_52 : decode cX10_share 52 = .ok (.iconst 1, 1) := by decide +kernel
theorem dX10_share_53 : decode cX10_share 53 = .ok (.if_icmp .ne 11, 3) := by decide +kernel
theorem dX10_share_56 : decode cX10_share 56 = .ok (.aload_n 0, 1) := by decide +kernel
theorem dX10_share_57 : decode cX10_share 57 = .ok (.getfield 61, 3) := by decide +kernel
theorem dX10_share_60 : decode cX10_share 60 = .ok (.getfield 253, 3) := by decide +kernel
theorem dX10_share_63 : decode cX10_share 63 = .ok (.ireturn, 1) := by decide +kernel
theorem dX10_share_64 : decode cX10_share 64 = .ok (.aload_n 0, 1) := by decide +kernel
theorem dX10_share_65 : decode cX10_share 65 = .ok (.getfield 61, 3) := by decide +kernel
theorem dX10_share_68 : decode cX10_share 68 = .ok (.invokevirtual 255, 3) := by decide +kernel
theorem dX10_share_71 : decode cX10_share 71 = .ok (.ifCond .eq 7, 3) := by decide +kernel
theorem dX10_share_74 : decode cX10_share 74 = .ok (.iconst 1, 1) := by decide +kernel
theorem dX10_share_75 : decode cX10_share 75 = .ok (.goto 4, 3) := by decide +kernel
theorem dX10_share_78 : decode cX10_share 78 = .ok (.iconst 0, 1) := by decide +kernel
theorem dX10_share_79 : decode cX10_share 79 = .ok (.ireturn, 1) := by decide +kernel
theorem dX10_risk_0 : decode cX10_risk 0 = .ok (.aload_n 0, 1) := by decide +kernel
theorem dX10_risk_1 : decode cX10_risk 1 = .ok (.iload_n 1, 1) := by decide +kernel
theorem dX10_risk_2 : decode cX10_risk 2 = .ok (.invokevirtual 92, 3) := by decide +kernel
theorem dX10_risk_5 : decode cX10_risk 5 = .ok (.astore_n 2, 1) := by decide +kernel
theorem dX10_risk_6 : decode cX10_risk 6 = .ok (.aload_n 2, 1) := by decide +kernel
theorem dX10_risk_7 : decode cX10_risk 7 = .ok (.ifnonnull 11, 3) := by decide +kernel
theorem dX10_risk_10 : decode cX10_risk 10 = .ok (.aload_n 0, 1) := by decide +kernel
theorem dX10_risk_11 : decode cX10_risk 11 = .ok (.iconst 1, 1) := by decide +kernel
theorem dX10_risk_12 : decode cX10_risk 12 = .ok (.invokevirtual 82, 3) := by decide +kernel
theorem dX10_risk_15 : decode cX10_risk 15 = .ok (.goto 8, 3) := by decide +kernel
theorem dX10_risk_18 : decode cX10_risk 18 = .ok (.aload_n 0, 1) := by decide +kernel
theorem dX10_risk_19 : decode cX10_risk 19 = .ok (.aload_n 2, 1) := by decide +kernel
theorem dX10_risk_20 : decode cX10_risk 20 = .ok (.invokevirtual 258, 3) := by decide +kernel
theorem dX10_risk_23 : decode cX10_risk 23 = .ok (.ireturn, 1) := by decide +kernel
theorem dX10_board_0 : decode cX10_board 0 = .ok (.iload_n 1, 1) := by decide +kernel
theorem dX10_board_1 : decode cX10_board 1 = .ok (.iconst 5, 1) := by decide +kernel
theorem dX10_board_2 : decode cX10_board 2 = .ok (.invokestatic 96, 3) := by decide +kernel
theorem dX10_board_5 : decode cX10_board 5 = .ok (.ifCond .eq 23, 3) := by decide +kernel
theorem dX10_board_8 : decode cX10_board 8 = .ok (.iload_n 2, 1) := by decide +kernel
theorem dX10_board_9 : decode cX10_board 9 = .ok (.invokestatic 262, 3) := by decide +kernel
theorem dX10_board_12 : decode cX10_board 12 = .ok (.ifCond .eq 16, 3) := by decide +kernel
theorem dX10_board_15 : decode cX10_board 15 = .ok (.iload_n 3, 1) := by decide +kernel
theorem dX10_board_16 : decode cX10_board 16 = .ok (.iconst (-1), 1) := by decide +kernel
theorem dX10_board_17 : decode cX10_board 17 = .ok (.if_icmp .lt 11, 3) := by decide +kernel
theorem dX10_board_20 : decode cX10_board 20 = .ok (.iload_n 3, 1) := by decide +kernel
theorem dX10_board_21 : decode cX10_board 21 = .ok (.aload_n 0, 1) := by decide +kernel
theorem dX10_board_22 : decode cX10_board 22 = .ok (.getfield 86, 3) := by decide +kernel
theorem dX10_board_25 : decode cX10_board 25 = .ok (.if_icmp .lt 9, 3) := by decide +kernel
theorem dX10_board_28 : decode cX10_board 28 = .ok (.aload_n 0, 1) := by decide +kernel
theorem dX10_board_29 : decode cX10_board 29 = .ok (.iconst 1, 1) := by decide +kernel
theorem dX10_board_30 : decode cX10_board 30 = .ok (.invokevirtual 82, 3) := by decide +kernel
theorem dX10_board_33 : decode cX10_board 33 = .ok (.ireturn, 1) := by decide +kernel
theorem dX10_board_34 : decode cX10_board 34 = .ok (.aload_n 0, 1) := by decide +kernel
theorem dX10_board_35 : decode cX10_board 35 = .ok (.iload_n 1, 1) := by decide +kernel
theorem dX10_board_36 : decode cX10_board 36 = .ok (.invokevirtual 265, 3) := by decide +kernel
theorem dX10_board_39 : decode cX10_board 39 = .ok (.aload_n 0, 1) := by decide +kernel
theorem dX10_board_40 : decode cX10_board 40 = .ok (.getfield 68, 3) := by decide +kernel
theorem dX10_board_43 : decode cX10_board 43 = .ok (.iload_n 3, 1) := by decide +kernel
theorem dX10_board_44 : decode cX10_board 44 = .ok (.invokevirtual 268, 3) := by decide +kernel
theorem dX10_board_47 : decode cX10_board 47 = .ok (.istore 4, 2) := by decide +kernel
theorem dX10_board_49 : decode cX10_board 49 = .ok (.iload_n 3, 1) := by decide +kernel
theorem dX10_board_50 : decode cX10_board 50 = .ok (.ifCond .lt 14, 3) := by decide +kernel
theorem dX10_board_53 : decode cX10_board 53 = .ok (.iload 4, 2) := by decide +kernel
theorem dX10_board_55 : decode cX10_board 55 = .ok (.ifCond .ge 9, 3) := by decide +kernel
theorem dX10_board_58 : decode cX10_board 58 = .ok (.aload_n 0, 1) := by decide +kernel
theorem dX10_board_59 : decode cX10_board 59 = .ok (.iconst 2, 1) := by decide +kernel
theorem dX10_board_60 : decode cX10_board 60 = .ok (.invokevirtual 82, 3) := by decide +kernel
theorem dX10_board_63 : decode cX10_board 63 = .ok (.ireturn, 1) := by decide +kernel
theorem dX10_board_64 : decode cX10_board 64 = .ok (.aload_n 0, 1) := by decide +kernel
theorem dX10_board_65 : decode cX10_board 65 = .ok (.getfield 68, 3) := by decide +kernel
theorem dX10_board_68 : decode cX10_board 68 = .ok (.iload_n 2, 1) := by decide +kernel
theorem dX10_board_69 : decode cX10_board 69 = .ok (.bipush 100, 2) := by decide +kernel
theorem dX10_board_71 : decode cX10_board 71 = .ok (.idiv, 1) := by decide +kernel
theorem dX10_board_72 : decode cX10_board 72 = .ok (.iload_n 2, 1) := by decide +kernel
theorem dX10_board_73 : decode cX10_board 73 = .ok (.bipush 100, 2) := by decide +kernel
theorem dX10_board_75 : decode cX10_board 75 = .ok (.irem, 1) := by decide +kernel
theorem dX10_board_76 : decode cX10_board 76 = .ok (.invokevirtual 271, 3) := by decide +kernel
theorem dX10_board_79 : decode cX10_board 79 = .ok (.iload 4, 2) := by decide +kernel
theorem dX10_board_81 : decode cX10_board 81 = .ok (.ifCond .ge 13, 3) := by decide +kernel
theorem dX10_board_84 : decode cX10_board 84 = .ok (.aload_n 0, 1) := by decide +kernel
theorem dX10_board_85 : decode cX10_board 85 = .ok (.getfield 68, 3) := by decide +kernel
theorem dX10_board_88 : decode cX10_board 88 = .ok (.getfield 274, 3) := by decide +kernel
theorem dX10_board_91 : decode cX10_board 91 = .ok (.goto 13, 3) := by decide +kernel
theorem dX10_board_94 : decode cX10_board 94 = .ok (.aload_n 0, 1) := by decide +kernel
theorem dX10_board_95 : decode cX10_board 95 = .ok (.getfield 68, 3) := by decide +kernel
theorem dX10_board_98 : decode cX10_board 98 = .ok (.getfield 277, 3) := by decide +kernel
theorem dX10_board_101 : decode cX10_board 101 = .ok (.iload 4, 2) := by decide +kernel
theorem dX10_board_103 : decode cX10_board 103 = .ok (.iaload, 1) := by decide +kernel
theorem dX10_board_104 : decode cX10_board 104 = .ok (.ireturn, 1) := by decide +kernel
theorem dX10_rest_0 : decode cX10_rest 0 = .ok (.aload_n 0, 1) := by decide +kernel
theorem dX10_rest_1 : decode cX10_rest 1 = .ok (.iload_n 1, 1) := by decide +kernel
theorem dX10_rest_2 : decode cX10_rest 2 = .ok (.invokevirtual 92, 3) := by decide +kernel
theorem dX10_rest_5 : decode cX10_rest 5 = .ok (.astore_n 3, 1) := by decide +kernel
theorem dX10_rest_6 : decode cX10_rest 6 = .ok (.aload_n 3, 1) := by decide +kernel
theorem dX10_rest_7 : decode cX10_rest 7 = .ok (.ifnull 13, 3) := by decide +kernel
theorem dX10_rest_10 : decode cX10_rest 10 = .ok (.iload_n 2, 1) := by decide +kernel
theorem dX10_rest_11 : decode cX10_rest 11 = .ok (.ldc_w 280, 3) := by decide +kernel
theorem dX10_rest_14 : decode cX10_rest 14 = .ok (.invokestatic 96, 3) := by decide +kernel
theorem dX10_rest_17 : decode cX10_rest 17 = .ok (.ifCond .ne 9, 3) := by decide +kernel
theorem dX10_rest_20 : decode cX10_rest 20 = .ok (.aload_n 0, 1) := by decide +kernel
theorem dX10_rest_21 : decode cX10_rest 21 = .ok (.iconst 1, 1) := by decide +kernel
theorem dX10_rest_22 : decode cX10_rest 22 = .ok (.invokevirtual 82, 3) := by decide +kernel
theorem dX10_rest_25 : decode cX10_rest 25 = .ok (.ireturn, 1) := by decide +kernel
theorem dX10_rest_26 : decode cX10_rest 26 = .ok (.aload_n 3, 1) := by decide +kernel
theorem dX10_rest_27 : decode cX10_rest 27 = .ok (.getfield 281, 3) := by decide +kernel
theorem dX10_rest_30 : decode cX10_rest 30 = .ok (.iload_n 2, 1) := by decide +kernel
theorem dX10_rest_31 : decode cX10_rest 31 = .ok (.invokevirtual 285, 3) := by decide +kernel
theorem dX10_rest_34 : decode cX10_rest 34 = .ok (.aload_n 3, 1) := by decide +kernel
theorem dX10_rest_35 : decode cX10_rest 35 = .ok (.getfield 281, 3) := by decide +kernel
theorem dX10_rest_38 : decode cX10_rest 38 = .ok (.invokevirtual 290, 3) := by decide +kernel
theorem dX10_rest_41 : decode cX10_rest 41 = .ok (.ireturn, 1) := by decide +kernel
theorem dX10_tired_0 : decode cX10_tired 0 = .ok (.aload_n 0, 1) := by decide +kernel
theorem dX10_tired_1 : decode cX10_tired 1 = .ok (.iload_n 1, 1) := by decide +kernel
theorem dX10_tired_2 : decode cX10_tired 2 = .ok (.invokevirtual 92, 3) := by decide +kernel
theorem dX10_tired_5 : decode cX10_tired 5 = .ok (.astore_n 3, 1) := by decide +kernel
theorem dX10_tired_6 : decode cX10_tired 6 = .ok (.aload_n 3, 1) := by decide +kernel
theorem dX10_tired_7 : decode cX10_tired 7 = .ok (.ifnull 11, 3) := by decide +kernel
theorem dX10_tired_10 : decode cX10_tired 10 = .ok (.iload_n 2, 1) := by decide +kernel
theorem dX10_tired_11 : decode cX10_tired 11 = .ok (.iconst 3, 1) := by decide +kernel
theorem dX10_tired_12 : decode cX10_tired 12 = .ok (.invokestatic 96, 3) := by decide +kernel
theorem dX10_tired_15 : decode cX10_tired 15 = .ok (.ifCond .ne 9, 3) := by decide +kernel
theorem dX10_tired_18 : decode cX10_tired 18 = .ok (.aload_n 0, 1) := by decide +kernel
theorem dX10_tired_19 : decode cX10_tired 19 = .ok (.iconst 1, 1) := by decide +kernel
theorem dX10_tired_20 : decode cX10_tired 20 = .ok (.invokevirtual 82, 3) := by decide +kernel
theorem dX10_tired_23 : decode cX10_tired 23 = .ok (.ireturn, 1) := by decide +kernel
theorem dX10_tired_24 : decode cX10_tired 24 = .ok (.iload_n 2, 1) := by decide +kernel
theorem dX10_tired_25 : decode cX10_tired 25 = .ok (.iconst 2, 1) := by decide +kernel
theorem dX10_tired_26 : decode cX10_tired 26 = .ok (.if_icmp .ne 11, 3) := by decide +kernel
theorem dX10_tired_29 : decode cX10_tired 29 = .ok (.aload_n 3, 1) := by decide +kernel
theorem dX10_tired_30 : decode cX10_tired 30 = .ok (.getfield 281, 3) := by decide +kernel
theorem dX10_tired_33 : decode cX10_tired 33 = .ok (.invokevirtual 290, 3) := by decide +kernel
theorem dX10_tired_36 : decode cX10_tired 36 = .ok (.ireturn, 1) := by decide +kernel
theorem dX10_tired_37 : decode cX10_tired 37 = .ok (.iload_n 2, 1) := by decide +kernel
theorem dX10_tired_38 : decode cX10_tired 38 = .ok (.iconst 1, 1) := by decide +kernel
theorem dX10_tired_39 : decode cX10_tired 39 = .ok (.if_icmp .ne 21, 3) := by decide +kernel
theorem dX10_tired_42 : decode cX10_tired 42 = .ok (.aload_n 3, 1) := by decide +kernel
theorem dX10_tired_43 : decode cX10_tired 43 = .ok (.getfield 281, 3) := by decide +kernel
theorem dX10_tired_46 : decode cX10_tired 46 = .ok (.invokevirtual 290, 3) := by decide +kernel
theorem dX10_tired_49 : decode cX10_tired 49 = .ok (.bipush 77, 2) := by decide +kernel
theorem dX10_tired_51 : decode cX10_tired 51 = .ok (.if_icmp .ge 7, 3) := by decide +kernel
theorem dX10_tired_54 : decode cX10_tired 54 = .ok (.iconst 1, 1) := by decide +kernel
theorem dX10_tired_55 : decode cX10_tired 55 = .ok (.goto 4, 3) := by decide +kernel
theorem dX10_tired_58 : decode cX10_tired 58 = .ok (.iconst 0, 1) := by decide +kernel
theorem dX10_tired_59 : decode cX10_tired 59 = .ok (.ireturn, 1) := by decide +kernel
theorem dX10_tired_60 : decode cX10_tired 60 = .ok (.aload_n 3, 1) := by decide +kernel
theorem dX10_tired_61 : decode cX10_tired 61 = .ok (.getfield 281, 3) := by decide +kernel
theorem dX10_tired_64 : decode cX10_tired 64 = .ok (.invokevirtual 294, 3) := by decide +kernel
theorem dX10_tired_67 : decode cX10_tired 67 = .ok (.istore 4, 2) := by decide +kernel
theorem dX10_tired_69 : decode cX10_tired 69 = .ok (.iload 4, 2) := by decide +kernel
theorem dX10_tired_71 : decode cX10_tired 71 = .ok (.ifCond .ge 11, 3) := by decide +kernel
theorem dX10_tired_74 : decode cX10_tired 74 = .ok (.aload_n 0, 1) := by decide +kernel
theorem dX10_tired_75 : decode cX10_tired 75 = .ok (.iconst 2, 1) := by decide +kernel
theorem dX10_tired_76 : decode cX10_tired 76 = .ok (.invokevirtual 82, 3) := by decide +kernel
theorem dX10_tired_79 : decode cX10_tired 79 = .ok (.goto 5, 3) := by decide +kernel
theorem dX10_tired_82 : decode cX10_tired 82 = .ok (.iload 4, 2) := by decide +kernel
theorem dX10_tired_84 : decode cX10_tired 84 = .ok (.ireturn, 1) := by decide +kernel
theorem dX10_months_0 : decode cX10_months 0 = .ok (.iload_n 1, 1) := by decide +kernel
theorem dX10_months_1 : decode cX10_months 1 = .ok (.iconst 1, 1) := by decide +kernel
theorem dX10_months_2 : decode cX10_months 2 = .ok (.if_icmp .lt 9, 3) := by decide +kernel
theorem dX10_months_5 : decode cX10_months 5 = .ok (.iload_n 1, 1) := by decide +kernel
theorem dX10_months_6 : decode cX10_months 6 = .ok (.bipush 99, 2) := by decide +kernel
theorem dX10_months_8 : decode cX10_months 8 = .ok (.if_icmp .le 9, 3) := by decide +kernel
theorem dX10_months_11 : decode cX10_months 11 = .ok (.aload_n 0, 1) := by decide +kernel
theorem dX10_months_12 : decode cX10_months 12 = .ok (.iconst 1, 1) := by decide +kernel
theorem dX10_months_13 : decode cX10_months 13 = .ok (.invokevirtual 82, 3) := by decide +kernel
theorem dX10_months_16 : decode cX10_months 16 = .ok (.ireturn, 1) := by decide +kernel
theorem dX10_months_17 : decode cX10_months 17 = .ok (.aload_n 0, 1) := by decide +kernel
theorem dX10_months_18 : decode cX10_months 18 = .ok (.getfield 47, 3) := by decide +kernel
theorem dX10_months_21 : decode cX10_months 21 = .ok (.istore_n 2, 1) := by decide +kernel
theorem dX10_months_22 : decode cX10_months 22 = .ok (.aload_n 0, 1) := by decide +kernel
theorem dX10_months_23 : decode cX10_months 23 = .ok (.iload_n 1, 1) := by decide +kernel
theorem dX10_months_24 : decode cX10_months 24 = .ok (.putfield 47, 3) := by decide +kernel
theorem dX10_months_27 : decode cX10_months 27 = .ok (.iload_n 2, 1) := by decide +kernel
theorem dX10_months_28 : decode cX10_months 28 = .ok (.ireturn, 1) := by decide +kernel
theorem dX10_banned_0 : decode cX10_banned 0 = .ok (.aload_n 0, 1) := by decide +kernel
theorem dX10_banned_1 : decode cX10_banned 1 = .ok (.iload_n 1, 1) := by decide +kernel
theorem dX10_banned_2 : decode cX10_banned 2 = .ok (.invokevirtual 92, 3) := by decide +kernel
theorem dX10_banned_5 : decode cX10_banned 5 = .ok (.astore_n 3, 1) := by decide +kernel
theorem dX10_banned_6 : decode cX10_banned 6 = .ok (.aload_n 3, 1) := by decide +kernel
theorem dX10_banned_7 : decode cX10_banned 7 = .ok (.ifnull 11, 3) := by decide +kernel
theorem dX10_banned_10 : decode cX10_banned 10 = .ok (.iload_n 2, 1) := by decide +kernel
theorem dX10_banned_11 : decode cX10_banned 11 = .ok (.iconst 3, 1) := by decide +kernel
theorem dX10_banned_12 : decode cX10_banned 12 = .ok (.invokestatic 96, 3) := by decide +kernel
theorem dX10_banned_15 : decode cX10_banned 15 = .ok (.ifCond .ne 9, 3) := by decide +kernel
theorem dX10_banned_18 : decode cX10_banned 18 = .ok (.aload_n 0, 1) := by decide +kernel
theorem dX10_banned_19 : decode cX10_banned 19 = .ok (.iconst 1, 1) := by decide +kernel
theorem dX10_banned_20 : decode cX10_banned 20 = .ok (.invokevirtual 82, 3) := by decide +kernel
theorem dX10_banned_23 : decode cX10_banned 23 = .ok (.ireturn, 1) := by decide +kernel
theorem dX10_banned_24 : decode cX10_banned 24 = .ok (.iload_n 2, 1) := by decide +kernel
theorem dX10_banned_25 : decode cX10_banned 25 = .ok (.ifCond .ne 16, 3) := by decide +kernel
theorem dX10_banned_28 : decode cX10_banned 28 = .ok (.aload_n 3, 1) := by decide +kernel
theorem dX10_banned_29 : decode cX10_banned 29 = .ok (.invokevirtual 137, 3) := by decide +kernel
theorem dX10_banned_32 : decode cX10_banned 32 = .ok (.ifCond .eq 7, 3) := by decide +kernel
theorem dX10_banned_35 : decode cX10_banned 35 = .ok (.iconst 1, 1) := by decide +kernel
theorem dX10_banned_36 : decode cX10_banned 36 = .ok (.goto 4, 3) := by decide +kernel
theorem dX10_banned_39 : decode cX10_banned 39 = .ok (.iconst 0, 1) := by decide +kernel
theorem dX10_banned_40 : decode cX10_banned 40 = .ok (.ireturn, 1) := by decide +kernel
theorem dX10_banned_41 : decode cX10_banned 41 = .ok (.iload_n 2, 1) := by decide +kernel
theorem dX10_banned_42 : decode cX10_banned 42 = .ok (.iconst 1, 1) := by decide +kernel
theorem dX10_banned_43 : decode cX10_banned 43 = .ok (.if_icmp .ne 8, 3) := by decide +kernel
theorem dX10_banned_46 : decode cX10_banned 46 = .ok (.aload_n 3, 1) := by decide +kernel
theorem dX10_banned_47 : decode cX10_banned 47 = .ok (.getfield 297, 3) := by decide +kernel
theorem dX10_banned_50 : decode cX10_banned 50 = .ok (.ireturn, 1) := by decide +kernel
theorem dX10_banned_51 : decode cX10_banned 51 = .ok (.aload_n 3, 1) := by decide +kernel
theorem dX10_banned_52 : decode cX10_banned 52 = .ok (.invokevirtual 137, 3) := by decide +kernel
theorem dX10_banned_55 : decode cX10_banned 55 = .ok (.ifCond .eq 10, 3) := by decide +kernel
theorem dX10_banned_58 : decode cX10_banned 58 = .ok (.aload_n 3, 1) := by decide +kernel
theorem dX10_banned_59 : decode cX10_banned 59 = .ok (.getfield 300, 3) := by decide +kernel
theorem dX10_banned_62 : decode cX10_banned 62 = .ok (.goto 8, 3) := by decide +kernel
theorem dX10_banned_65 : decode cX10_banned 65 = .ok (.aload_n 0, 1) := by decide +kernel
theorem dX10_banned_66 : decode cX10_banned 66 = .ok (.iconst 2, 1) := by decide +kernel
theorem dX10_banned_67 : decode cX10_banned 67 = .ok (.invokevirtual 82, 3) := by decide +kernel
theorem dX10_banned_70 : decode cX10_banned 70 = .ok (.ireturn, 1) := by decide +kernel
theorem dX10_lift_0 : decode cX10_lift 0 = .ok (.aload_n 0, 1) := by decide +kernel
theorem dX10_lift_1 : decode cX10_lift 1 = .ok (.iload_n 1, 1) := by decide +kernel
theorem dX10_lift_2 : decode cX10_lift 2 = .ok (.invokevirtual 92, 3) := by decide +kernel
theorem dX10_lift_5 : decode cX10_lift 5 = .ok (.astore_n 2, 1) := by decide +kernel
theorem dX10_lift_6 : decode cX10_lift 6 = .ok (.aload_n 2, 1) := by decide +kernel
theorem dX10_lift_7 : decode cX10_lift 7 = .ok (.ifnonnull 9, 3) := by decide +kernel
theorem dX10_lift_10 : decode cX10_lift 10 = .ok (.aload_n 0, 1) := by decide +kernel
theorem dX10_lift_11 : decode cX10_lift 11 = .ok (.iconst 1, 1) := by decide +kernel
theorem dX10_lift_12 : decode cX10_lift 12 = .ok (.invokevirtual 82, 3) := by decide +kernel
theorem dX10_lift_15 : decode cX10_lift 15 = .ok (.ireturn, 1) := by decide +kernel
theorem dX10_lift_16 : decode cX10_lift 16 = .ok (.aload_n 2, 1) := by decide +kernel
theorem dX10_lift_17 : decode cX10_lift 17 = .ok (.invokevirtual 137, 3) := by decide +kernel
theorem dX10_lift_20 : decode cX10_lift 20 = .ok (.ifCond .eq 29, 3) := by decide +kernel
theorem dX10_lift_23 : decode cX10_lift 23 = .ok (.aload_n 2, 1) := by decide +kernel
theorem dX10_lift_24 : decode cX10_lift 24 = .ok (.getfield 133, 3) := by decide +kernel
theorem dX10_lift_27 : decode cX10_lift 27 = .ok (.ifnonnull 22, 3) := by decide +kernel
theorem dX10_lift_30 : decode cX10_lift 30 = .ok (.aload_n 0, 1) := by decide +kernel
theorem dX10_lift_31 : decode cX10_lift 31 = .ok (.getfield 79, 3) := by decide +kernel
theorem dX10_lift_34 : decode cX10_lift 34 = .ok (.aload_n 2, 1) := by decide +kernel
theorem dX10_lift_35 : decode cX10_lift 35 = .ok (.getfield 300, 3) := by decide +kernel
theorem dX10_lift_38 : decode cX10_lift 38 = .ok (.isub, 1) := by decide +kernel
theorem dX10_lift_39 : decode cX10_lift 39 = .ok (.bipush 90, 2) := by decide +kernel
theorem dX10_lift_41 : decode cX10_lift 41 = .ok (.aload_n 2, 1) := by decide +kernel
theorem dX10_lift_42 : decode cX10_lift 42 = .ok (.getfield 297, 3) := by decide +kernel
theorem dX10_lift_45 : decode cX10_lift 45 = .ok (.imul, 1) := by decide +kernel
theorem dX10_lift_46 : decode cX10_lift 46 = .ok (.if_icmp .ge 9, 3) := by decide +kernel
theorem dX10_lift_49 : decode cX10_lift 49 = .ok (.aload_n 0, 1) := by decide +kernel
theorem dX10_lift_50 : decode cX10_lift 50 = .ok (.iconst 3, 1) := by decide +kernel
theorem dX10_lift_51 : decode cX10_lift 51 = .ok (.invokevirtual 82, 3) := by decide +kernel
theorem dX10_lift_54 : decode cX10_lift 54 = .ok (.ireturn, 1) := by decide +kernel
theorem dX10_lift_55 : decode cX10_lift 55 = .ok (.aload_n 2, 1) := by decide +kernel
theorem dX10_lift_56 : decode cX10_lift 56 = .ok (.iconst (-1), 1) := by decide +kernel
theorem dX10_lift_57 : decode cX10_lift 57 = .ok (.putfield 300, 3) := by decide +kernel
theorem dX10_lift_60 : decode cX10_lift 60 = .ok (.iconst 1, 1) := by decide +kernel
theorem dX10_lift_61 : decode cX10_lift 61 = .ok (.ireturn, 1) := by decide +kernel
theorem dX10_were_0 : decode cX10_were 0 = .ok (.aload_n 0, 1) := by decide +kernel
theorem dX10_were_1 : decode cX10_were 1 = .ok (.iload_n 1, 1) := by decide +kernel
theorem dX10_were_2 : decode cX10_were 2 = .ok (.invokevirtual 226, 3) := by decide +kernel
theorem dX10_were_5 : decode cX10_were 5 = .ok (.astore_n 3, 1) := by decide +kernel
theorem dX10_were_6 : decode cX10_were 6 = .ok (.aload_n 0, 1) := by decide +kernel
theorem dX10_were_7 : decode cX10_were 7 = .ok (.iload_n 2, 1) := by decide +kernel
theorem dX10_were_8 : decode cX10_were 8 = .ok (.invokevirtual 226, 3) := by decide +kernel
theorem dX10_were_11 : decode cX10_were 11 = .ok (.astore 4, 2) := by decide +kernel
theorem dX10_were_13 : decode cX10_were 13 = .ok (.aload_n 3, 1) := by decide +kernel
theorem dX10_were_14 : decode cX10_were 14 = .ok (.ifnull 8, 3) := by decide +kernel
theorem dX10_were_17 : decode cX10_were 17 = .ok (.aload 4, 2) := by decide +kernel
theorem dX10_were_19 : decode cX10_were 19 = .ok (.ifnonnull 9, 3) := by decide +kernel
theorem dX10_were_22 : decode cX10_were 22 = .ok (.aload_n 0, 1) := by decide +kernel
theorem dX10_were_23 : decode cX10_were 23 = .ok (.iconst 1, 1) := by decide +kernel
theorem dX10_were_24 : decode cX10_were 24 = .ok (.invokevirtual 82, 3) := by decide +kernel
theorem dX10_were_27 : decode cX10_were 27 = .ok (.ireturn, 1) := by decide +kernel
theorem dX10_were_28 : decode cX10_were 28 = .ok (.aload_n 3, 1) := by decide +kernel
theorem dX10_were_29 : decode cX10_were 29 = .ok (.aload 4, 2) := by decide +kernel
theorem dX10_were_31 : decode cX10_were 31 = .ok (.invokevirtual 303, 3) := by decide +kernel
theorem dX10_were_34 : decode cX10_were 34 = .ok (.ifCond .ne 9, 3) := by decide +kernel
theorem dX10_were_37 : decode cX10_were 37 = .ok (.aload_n 0, 1) := by decide +kernel
theorem dX10_were_38 : decode cX10_were 38 = .ok (.iconst 3, 1) := by decide +kernel
theorem dX10_were_39 : decode cX10_were 39 = .ok (.invokevirtual 82, 3) := by decide +kernel
theorem dX10_were_42 : decode cX10_were 42 = .ok (.ireturn, 1) := by decide +kernel
theorem dX10_were_43 : decode cX10_were 43 = .ok (.aload_n 3, 1) := by decide +kernel
theorem dX10_were_44 : decode cX10_were 44 = .ok (.getfield 239, 3) := by decide +kernel
theorem dX10_were_47 : decode cX10_were 47 = .ok (.aload 4, 2) := by decide +kernel
theorem dX10_were_49 : decode cX10_were 49 = .ok (.getfield 239, 3) := by decide +kernel
theorem dX10_were_52 : decode cX10_were 52 = .ok (.iand, 1) := by decide +kernel
theorem dX10_were_53 : decode cX10_were 53 = .ok (.invokestatic 307, 3) := by decide +kernel
theorem dX10_were_56 : decode cX10_were 56 = .ok (.istore 5, 2) := by decide +kernel
theorem dX10_were_58 : decode cX10_were 58 = .ok (.iload 5, 2) := by decide +kernel
theorem dX10_were_60 : decode cX10_were 60 = .ok (.ifCond .ne 9, 3) := by decide +kernel
theorem dX10_were_63 : decode cX10_were 63 = .ok (.aload_n 0, 1) := by decide +kernel
theorem dX10_were_64 : decode cX10_were 64 = .ok (.iconst 2, 1) := by decide +kernel
theorem dX10_were_65 : decode cX10_were 65 = .ok (.invokevirtual 82, 3) := by decide +kernel
theorem dX10_were_68 : decode cX10_were 68 = .ok (.ireturn, 1) := by decide +kernel
theorem dX10_were_69 : decode cX10_were 69 = .ok (.aload_n 3, 1) := by decide +kernel
theorem dX10_were_70 : decode cX10_were 70 = .ok (.getfield 239, 3) := by decide +kernel
theorem dX10_were_73 : decode cX10_were 73 = .ok (.invokestatic 307, 3) := by decide +kernel
theorem dX10_were_76 : decode cX10_were 76 = .ok (.aload 4, 2) := by decide +kernel
theorem dX10_were_78 : decode cX10_were 78 = .ok (.getfield 239, 3) := by decide +kernel
theorem dX10_were_81 : decode cX10_were 81 = .ok (.invokestatic 307, 3) := by decide +kernel
theorem dX10_were_84 : decode cX10_were 84 = .ok (.imul, 1) := by decide +kernel
theorem dX10_were_85 : decode cX10_were 85 = .ok (.iload 5, 2) := by decide +kernel
theorem dX10_were_87 : decode cX10_were 87 = .ok (.idiv, 1) := by decide +kernel
theorem dX10_were_88 : decode cX10_were 88 = .ok (.ireturn, 1) := by decide +kernel
theorem dX10_habit_0 : decode cX10_habit 0 = .ok (.iload_n 1, 1) := by decide +kernel
theorem dX10_habit_1 : decode cX10_habit 1 = .ok (.bipush 6, 2) := by decide +kernel
theorem dX10_habit_3 : decode cX10_habit 3 = .ok (.invokestatic 96, 3) := by decide +kernel
theorem dX10_habit_6 : decode cX10_habit 6 = .ok (.ifCond .ne 9, 3) := by decide +kernel
theorem dX10_habit_9 : decode cX10_habit 9 = .ok (.aload_n 0, 1) := by decide +kernel
theorem dX10_habit_10 : decode cX10_habit 10 = .ok (.iconst 1, 1) := by decide +kernel
theorem dX10_habit_11 : decode cX10_habit 11 = .ok (.invokevirtual 82, 3) := by decide +kernel
theorem dX10_habit_14 : decode cX10_habit 14 = .ok (.ireturn, 1) := by decide +kernel
theorem dX10_habit_15 : decode cX10_habit 15 = .ok (.iconst 0, 1) := by decide +kernel
theorem dX10_habit_16 : decode cX10_habit 16 = .ok (.istore_n 2, 1) := by decide +kernel
theorem dX10_habit_17 : decode cX10_habit 17 = .ok (.iconst 0, 1) := by decide +kernel
theorem dX10_habit_18 : decode cX10_habit 18 = .ok (.istore_n 3, 1) := by decide +kernel
theorem dX10_habit_19 : decode cX10_habit 19 = .ok (.iconst 0, 1) := by decide +kernel
theorem dX10_habit_20 : decode cX10_habit 20 = .ok (.istore 4, 2) := by decide +kernel
theorem dX10_habit_22 : decode cX10_habit 22 = .ok (.iload 4, 2) := by decide +kernel
theorem dX10_habit_24 : decode cX10_habit 24 = .ok (.aload_n 0, 1) := by decide +kernel
theorem dX10_habit_25 : decode cX10_habit 25 = .ok (.getfield 210, 3) := by decide +kernel
theorem dX10_habit_28 : decode cX10_habit 28 = .ok (.if_icmp .ge 95, 3) := by decide +kernel
theorem dX10_habit_31 : decode cX10_habit 31 = .ok (.aload_n 0, 1) := by decide +kernel
theorem dX10_habit_32 : decode cX10_habit 32 = .ok (.getfield 30, 3) := by decide +kernel
theorem dX10_habit_35 : decode cX10_habit 35 = .ok (.iload 4, 2) := by decide +kernel
theorem dX10_habit_37 : decode cX10_habit 37 = .ok (.aaload, 1) := by decide +kernel
theorem dX10_habit_38 : decode cX10_habit 38 = .ok (.astore 5, 2) := by decide +kernel
theorem dX10_habit_40 : decode cX10_habit 40 = .ok (.aload 5, 2) := by decide +kernel
theorem dX10_habit_42 : decode cX10_habit 42 = .ok (.getfield 233, 3) := by decide +kernel
theorem dX10_habit_45 : decode cX10_habit 45 = .ok (.iload_n 1, 1) := by decide +kernel
theorem dX10_habit_46 : decode cX10_habit 46 = .ok (.if_icmp .eq 6, 3) := by decide +kernel
theorem dX10_habit_49 : decode cX10_habit 49 = .ok (.goto 68, 3) := by decide +kernel
theorem dX10_habit_52 : decode cX10_habit 52 = .ok (.iconst 0, 1) := by decide +kernel
theorem dX10_habit_53 : decode cX10_habit 53 = .ok (.istore 6, 2) := by decide +kernel
theorem dX10_habit_55 : decode cX10_habit 55 = .ok (.iload 6, 2) := by decide +kernel
theorem dX10_habit_57 : decode cX10_habit 57 = .ok (.aload_n 0, 1) := by decide +kernel
theorem dX10_habit_58 : decode cX10_habit 58 = .ok (.getfield 210, 3) := by decide +kernel
theorem dX10_habit_61 : decode cX10_habit 61 = .ok (.if_icmp .ge 56, 3) := by decide +kernel
theorem dX10_habit_64 : decode cX10_habit 64 = .ok (.aload_n 0, 1) := by decide +kernel
theorem dX10_habit_65 : decode cX10_habit 65 = .ok (.getfield 30, 3) := by decide +kernel
theorem dX10_habit_68 : decode cX10_habit 68 = .ok (.iload 6, 2) := by decide +kernel
theorem dX10_habit_70 : decode cX10_habit 70 = .ok (.aaload, 1) := by decide +kernel
theorem dX10_habit_71 : decode cX10_habit 71 = .ok (.astore 7, 2) := by decide +kernel
theorem dX10_habit_73 : decode cX10_habit 73 = .ok (.aload 5, 2) := by decide +kernel
theorem dX10_habit_75 : decode cX10_habit 75 = .ok (.aload 7, 2) := by decide +kernel
theorem dX10_habit_77 : decode cX10_habit 77 = .ok (.invokevirtual 303, 3) := by decide +kernel
theorem dX10_habit_80 : decode cX10_habit 80 = .ok (.ifCond .eq 31, 3) := by decide +kernel
theorem dX10_habit_83 : decode cX10_habit 83 = .ok (.iload_n 2, 1) := by decide +kernel
theorem dX10_habit_84 : decode cX10_habit 84 = .ok (.aload 5, 2) := by decide +kernel
theorem dX10_habit_86 : decode cX10_habit 86 = .ok (.getfield 239, 3) := by decide +kernel
theorem dX10_habit_89 : decode cX10_habit 89 = .ok (.aload 7, 2) := by decide +kernel
theorem dX10_habit_91 : decode cX10_habit 91 = .ok (.getfield 239, 3) := by decide +kernel
theorem dX10_habit_94 : decode cX10_habit 94 = .ok (.iand, 1) := by decide +kernel
theorem dX10_habit_95 : decode cX10_habit 95 = .ok (.invokestatic 307, 3) := by decide +kernel
theorem dX10_habit_98 : decode cX10_habit 98 = .ok (.iadd, 1) := by decide +kernel
theorem dX10_habit_99 : decode cX10_habit 99 = .ok (.istore_n 2, 1) := by decide +kernel
theorem dX10_habit_100 : decode cX10_habit 100 = .ok (.iload_n 3, 1) := by decide +kernel
theorem dX10_habit_101 : decode cX10_habit 101 = .ok (.aload 7, 2) := by decide +kernel
theorem dX10_habit_103 : decode cX10_habit 103 = .ok (.getfield 239, 3) := by decide +kernel
theorem dX10_habit_106 : decode cX10_habit 106 = .ok (.invokestatic 307, 3) := by decide +kernel
theorem dX10_habit_109 : decode cX10_habit 109 = .ok (.iadd, 1) := by decide +kernel
theorem dX10_habit_110 : decode cX10_habit 110 = .ok (.istore_n 3, 1) := by decide +kernel
theorem dX10_habit_111 : decode cX10_habit 111 = .ok (.iinc 6 1, 3) := by decide +kernel
theorem dX10_habit_114 : decode cX10_habit 114 = .ok (.goto (-59), 3) := by decide +kernel
theorem dX10_habit_117 : decode cX10_habit 117 = .ok (.iinc 4 1, 3) := by decide +kernel
theorem dX10_habit_120 : decode cX10_habit 120 = .ok (.goto (-98), 3) := by decide +kernel
theorem dX10_habit_123 : decode cX10_habit 123 = .ok (.iload_n 3, 1) := by decide +kernel
theorem dX10_habit_124 : decode cX10_habit 124 = .ok (.ifCond .ne 11, 3) := by decide +kernel
theorem dX10_habit_127 : decode cX10_habit 127 = .ok (.aload_n 0, 1) := by decide +kernel
theorem dX10_habit_128 : decode cX10_habit 128 = .ok (.iconst 2, 1) := by decide +kernel
theorem dX10_habit_129 : decode cX10_habit 129 = .ok (.invokevirtual 82, 3) := by decide +kernel
theorem dX10_habit_132 : decode cX10_habit 132 = .ok (.goto 9, 3) := by decide +kernel
theorem dX10_habit_135 : decode cX10_habit 135 = .ok (.bipush 100, 2) := by decide +kernel
theorem dX10_habit_137 : decode cX10_habit 137 = .ok (.iload_n 2, 1) := by decide +kernel
theorem dX10_habit_138 : decode cX10_habit 138 = .ok (.imul, 1) := by decide +kernel
theorem dX10_habit_139 : decode cX10_habit 139 = .ok (.iload_n 3, 1) := by decide +kernel
theorem dX10_habit_140 : decode cX10_habit 140 = .ok (.idiv, 1) := by decide +kernel
theorem dX10_habit_141 : decode cX10_habit 141 = .ok (.ireturn, 1) := by decide +kernel
theorem dX10_draw_0 : decode cX10_draw 0 = .ok (.aload_n 0, 1) := by decide +kernel
theorem dX10_draw_1 : decode cX10_draw 1 = .ok (.iload_n 1, 1) := by decide +kernel
theorem dX10_draw_2 : decode cX10_draw 2 = .ok (.invokevirtual 226, 3) := by decide +kernel
theorem dX10_draw_5 : decode cX10_draw 5 = .ok (.astore_n 3, 1) := by decide +kernel
theorem dX10_draw_6 : decode cX10_draw 6 = .ok (.aload_n 3, 1) := by decide +kernel
theorem dX10_draw_7 : decode cX10_draw 7 = .ok (.ifnull 14, 3) := by decide +kernel
theorem dX10_draw_10 : decode cX10_draw 10 = .ok (.iload_n 2, 1) := by decide +kernel
theorem dX10_draw_11 : decode cX10_draw 11 = .ok (.iconst 1, 1) := by decide +kernel
theorem dX10_draw_12 : decode cX10_draw 12 = .ok (.if_icmp .lt 9, 3) := by decide +kernel
theorem dX10_draw_15 : decode cX10_draw 15 = .ok (.iload_n 2, 1) := by decide +kernel
theorem dX10_draw_16 : decode cX10_draw 16 = .ok (.bipush 100, 2) := by decide +kernel
theorem dX10_draw_18 : decode cX10_draw 18 = .ok (.if_icmp .le 9, 3) := by decide +kernel
theorem dX10_draw_21 : decode cX10_draw 21 = .ok (.aload_n 0, 1) := by decide +kernel
theorem dX10_draw_22 : decode cX10_draw 22 = .ok (.iconst 1, 1) := by decide +kernel
theorem dX10_draw_23 : decode cX10_draw 23 = .ok (.invokevirtual 82, 3) := by decide +kernel
theorem dX10_draw_26 : decode cX10_draw 26 = .ok (.ireturn, 1) := by decide +kernel
theorem dX10_draw_27 : decode cX10_draw 27 = .ok (.aload_n 3, 1) := by decide +kernel
theorem dX10_draw_28 : decode cX10_draw 28 = .ok (.invokevirtual 312, 3) := by decide +kernel
theorem dX10_draw_31 : decode cX10_draw 31 = .ok (.ifCond .eq 9, 3) := by decide +kernel
theorem dX10_draw_34 : decode cX10_draw 34 = .ok (.aload_n 0, 1) := by decide +kernel
theorem dX10_draw_35 : decode cX10_draw 35 = .ok (.iconst 3, 1) := by decide +kernel
theorem dX10_draw_36 : decode cX10_draw 36 = .ok (.invokevirtual 82, 3) := by decide +kernel
theorem dX10_draw_39 : decode cX10_draw 39 = .ok (.ireturn, 1) := by decide +kernel
theorem dX10_draw_40 : decode cX10_draw 40 = .ok (.aload_n 3, 1) := by decide +kernel
theorem dX10_draw_41 : decode cX10_draw 41 = .ok (.iload_n 2, 1) := by decide +kernel
theorem dX10_draw_42 : decode cX10_draw 42 = .ok (.putfield 315, 3) := by decide +kernel
theorem dX10_draw_45 : decode cX10_draw 45 = .ok (.aload_n 0, 1) := by decide +kernel
theorem dX10_draw_46 : decode cX10_draw 46 = .ok (.dup, 1) := by decide +kernel
theorem dX10_draw_47 : decode cX10_draw 47 = .ok (.getfield 318, 3) := by decide +kernel
theorem dX10_draw_50 : decode cX10_draw 50 = .ok (.iconst 1, 1) := by decide +kernel
theorem dX10_draw_51 : decode cX10_draw 51 = .ok (.iadd, 1) := by decide +kernel
theorem dX10_draw_52 : decode cX10_draw 52 = .ok (.putfield 318, 3) := by decide +kernel
theorem dX10_draw_55 : decode cX10_draw 55 = .ok (.aload_n 0, 1) := by decide +kernel
theorem dX10_draw_56 : decode cX10_draw 56 = .ok (.getfield 318, 3) := by decide +kernel
theorem dX10_draw_59 : decode cX10_draw 59 = .ok (.ireturn, 1) := by decide +kernel
theorem dX10_rate_0 : decode cX10_rate 0 = .ok (.iconst 0, 1) := by decide +kernel
theorem dX10_rate_1 : decode cX10_rate 1 = .ok (.istore_n 1, 1) := by decide +kernel
theorem dX10_rate_2 : decode cX10_rate 2 = .ok (.iconst 0, 1) := by decide +kernel
theorem dX10_rate_3 : decode cX10_rate 3 = .ok (.istore_n 2, 1) := by decide +kernel
theorem dX10_rate_4 : decode cX10_rate 4 = .ok (.iconst 0, 1) := by decide +kernel
theorem dX10_rate_5 : decode cX10_rate 5 = .ok (.istore_n 3, 1) := by decide +kernel
theorem dX10_rate_6 : decode cX10_rate 6 = .ok (.iload_n 3, 1) := by decide +kernel
theorem dX10_rate_7 : decode cX10_rate 7 = .ok (.aload_n 0, 1) := by decide +kernel
theorem dX10_rate_8 : decode cX10_rate 8 = .ok (.getfield 210, 3) := by decide +kernel
theorem dX10_rate_11 : decode cX10_rate 11 = .ok (.if_icmp .ge 58, 3) := by decide +kernel
theorem dX10_rate_14 : decode cX10_rate 14 = .ok (.aload_n 0, 1) := by decide +kernel
theorem dX10_rate_15 : decode cX10_rate 15 = .ok (.getfield 30, 3) := by decide +kernel
theorem dX10_rate_18 : decode cX10_rate 18 = .ok (.iload_n 3, 1) := by decide +kernel
theorem dX10_rate_19 : decode cX10_rate 19 = .ok (.aaload, 1) := by decide +kernel
theorem dX10_rate_20 : decode cX10_rate 20 = .ok (.astore 4, 2) := by decide +kernel
theorem dX10_rate_22 : decode cX10_rate 22 = .ok (.aload 4, 2) := by decide +kernel
theorem dX10_rate_24 : decode cX10_rate 24 = .ok (.invokevirtual 312, 3) := by decide +kernel
theorem dX10_rate_27 : decode cX10_rate 27 = .ok (.ifCond .eq 36, 3) := by decide +kernel
theorem dX10_rate_30 : decode cX10_rate 30 = .ok (.sipush 10000, 3) := by decide +kernel
theorem dX10_rate_33 : decode cX10_rate 33 = .ok (.aload 4, 2) := by decide +kernel
theorem dX10_rate_35 : decode cX10_rate 35 = .ok (.getfield 315, 3) := by decide +kernel
theorem dX10_rate_38 : decode cX10_rate 38 = .ok (.idiv, 1) := by decide +kernel
theorem dX10_rate_39 : decode cX10_rate 39 = .ok (.istore 5, 2) := by decide +kernel
theorem dX10_rate_41 : decode cX10_rate 41 = .ok (.iload_n 2, 1) := by decide +kernel
theorem dX10_rate_42 : decode cX10_rate 42 = .ok (.iload 5, 2) := by decide +kernel
theorem dX10_rate_44 : decode cX10_rate 44 = .ok (.iadd, 1) := by decide +kernel
theorem dX10_rate_45 : decode cX10_rate 45 = .ok (.istore_n 2, 1) := by decide +kernel
theorem dX10_rate_46 : decode cX10_rate 46 = .ok (.iload_n 1, 1) := by decide +kernel
theorem dX10_rate_47 : decode cX10_rate 47 = .ok (.aload 4, 2) := by decide +kernel
theorem dX10_rate_49 : decode cX10_rate 49 = .ok (.getfield 242, 3) := by decide +kernel
theorem dX10_rate_52 : decode cX10_rate 52 = .ok (.ifCond .eq 8, 3) := by decide +kernel
theorem dX10_rate_55 : decode cX10_rate 55 = .ok (.iload 5, 2) := by decide +kernel
theorem dX10_rate_57 : decode cX10_rate 57 = .ok (.goto 4, 3) := by decide +kernel
theorem dX10_rate_60 : decode cX10_rate 60 = .ok (.iconst 0, 1) := by decide +kernel
theorem dX10_rate_61 : decode cX10_rate 61 = .ok (.iadd, 1) := by decide +kernel
theorem dX10_rate_62 : decode cX10_rate 62 = .ok (.istore_n 1, 1) := by decide +kernel
theorem dX10_rate_63 : decode cX10_rate 63 = .ok (.iinc 3 1, 3) := by decide +kernel
theorem dX10_rate_66 : decode cX10_rate 66 = .ok (.goto (-60), 3) := by decide +kernel
theorem dX10_rate_69 : decode cX10_rate 69 = .ok (.iload_n 2, 1) := by decide +kernel
theorem dX10_rate_70 : decode cX10_rate 70 = .ok (.ifCond .ne 11, 3) := by decide +kernel
theorem dX10_rate_73 : decode cX10_rate 73 = .ok (.aload_n 0, 1) := by decide +kernel
theorem dX10_rate_74 : decode cX10_rate 74 = .ok (.iconst 2, 1) := by decide +kernel
theorem dX10_rate_75 : decode cX10_rate 75 = .ok (.invokevirtual 82, 3) := by decide +kernel
theorem dX10_rate_78 : decode cX10_rate 78 = .ok (.goto 10, 3) := by decide +kernel
theorem dX10_rate_81 : decode cX10_rate 81 = .ok (.iload_n 1, 1) := by decide +kernel
theorem dX10_rate_82 : decode cX10_rate 82 = .ok (.sipush 1000, 3) := by decide +kernel
theorem dX10_rate_85 : decode cX10_rate 85 = .ok (.imul, 1) := by decide +kernel
theorem dX10_rate_86 : decode cX10_rate 86 = .ok (.iload_n 2, 1) := by decide +kernel
theorem dX10_rate_87 : decode cX10_rate 87 = .ok (.idiv, 1) := by decide +kernel
theorem dX10_rate_88 : decode cX10_rate 88 = .ok (.ireturn, 1) := by decide +kernel
theorem dX10_tell_0 : decode cX10_tell 0 = .ok (.aload_n 0, 1) := by decide +kernel
theorem dX10_tell_1 : decode cX10_tell 1 = .ok (.getfield 321, 3) := by decide +kernel
theorem dX10_tell_4 : decode cX10_tell 4 = .ok (.bipush 16, 2) := by decide +kernel
theorem dX10_tell_6 : decode cX10_tell 6 = .ok (.if_icmp .lt 9, 3) := by decide +kernel
theorem dX10_tell_9 : decode cX10_tell 9 = .ok (.aload_n 0, 1) := by decide +kernel
theorem dX10_tell_10 : decode cX10_tell 10 = .ok (.iconst 4, 1) := by decide +kernel
theorem dX10_tell_11 : decode cX10_tell 11 = .ok (.invokevirtual 82, 3) := by decide +kernel
theorem dX10_tell_14 : decode cX10_tell 14 = .ok (.ireturn, 1) := by decide +kernel
theorem dX10_tell_15 : decode cX10_tell 15 = .ok (.aload_n 0, 1) := by decide +kernel
theorem dX10_tell_16 : decode cX10_tell 16 = .ok (.getfield 51, 3) := by decide +kernel
theorem dX10_tell_19 : decode cX10_tell 19 = .ok (.aload_n 0, 1) := by decide +kernel
theorem dX10_tell_20 : decode cX10_tell 20 = .ok (.getfield 321, 3) := by decide +kernel
theorem dX10_tell_23 : decode cX10_tell 23 = .ok (.iload_n 1, 1) := by decide +kernel
theorem dX10_tell_24 : decode cX10_tell 24 = .ok (.iastore, 1) := by decide +kernel
theorem dX10_tell_25 : decode cX10_tell 25 = .ok (.aload_n 0, 1) := by decide +kernel
theorem dX10_tell_26 : decode cX10_tell 26 = .ok (.dup, 1) := by decide +kernel
theorem dX10_tell_27 : decode cX10_tell 27 = .ok (.getfield 321, 3) := by decide +kernel
theorem dX10_tell_30 : decode cX10_tell 30 = .ok (.iconst 1, 1) := by decide +kernel
theorem dX10_tell_31 : decode cX10_tell 31 = .ok (.iadd, 1) := by decide +kernel
theorem dX10_tell_32 : decode cX10_tell 32 = .ok (.putfield 321, 3) := by decide +kernel
theorem dX10_tell_35 : decode cX10_tell 35 = .ok (.aload_n 0, 1) := by decide +kernel
theorem dX10_tell_36 : decode cX10_tell 36 = .ok (.getfield 321, 3) := by decide +kernel
theorem dX10_tell_39 : decode cX10_tell 39 = .ok (.ireturn, 1) := by decide +kernel
theorem dX10_check_0 : decode cX10_check 0 = .ok (.aload_n 0, 1) := by decide +kernel
theorem dX10_check_1 : decode cX10_check 1 = .ok (.getfield 321, 3) := by decide +kernel
theorem dX10_check_4 : decode cX10_check 4 = .ok (.istore_n 1, 1) := by decide +kernel
theorem dX10_check_5 : decode cX10_check 5 = .ok (.aload_n 0, 1) := by decide +kernel
theorem dX10_check_6 : decode cX10_check 6 = .ok (.iconst 0, 1) := by decide +kernel
theorem dX10_check_7 : decode cX10_check 7 = .ok (.putfield 321, 3) := by decide +kernel
theorem dX10_check_10 : decode cX10_check 10 = .ok (.iconst 0, 1) := by decide +kernel
theorem dX10_check_11 : decode cX10_check 11 = .ok (.istore_n 2, 1) := by decide +kernel
theorem dX10_check_12 : decode cX10_check 12 = .ok (.iload_n 2, 1) := by decide +kernel
theorem dX10_check_13 : decode cX10_check 13 = .ok (.iload_n 1, 1) := by decide +kernel
theorem dX10_check_14 : decode cX10_check 14 = .ok (.if_icmp .ge 37, 3) := by decide +kernel
theorem dX10_check_17 : decode cX10_check 17 = .ok (.aload_n 0, 1) := by decide +kernel
theorem dX10_check_18 : decode cX10_check 18 = .ok (.iload_n 2, 1) := by decide +kernel
theorem dX10_check_19 : decode cX10_check 19 = .ok (.invokevirtual 92, 3) := by decide +kernel
theorem dX10_check_22 : decode cX10_check 22 = .ok (.astore_n 3, 1) := by decide +kernel
theorem dX10_check_23 : decode cX10_check 23 = .ok (.aload_n 3, 1) := by decide +kernel
theorem dX10_check_24 : decode cX10_check 24 = .ok (.ifnull 17, 3) := by decide +kernel
theorem dX10_check_27 : decode cX10_check 27 = .ok (.aload_n 0, 1) := by decide +kernel
theorem dX10_check_28 : decode cX10_check 28 = .ok (.aload_n 3, 1) := by decide +kernel
theorem dX10_check_29 : decode cX10_check 29 = .ok (.invokevirtual 258, 3) := by decide +kernel
theorem dX10_check_32 : decode cX10_check 32 = .ok (.aload_n 0, 1) := by decide +kernel
theorem dX10_check_33 : decode cX10_check 33 = .ok (.getfield 51, 3) := by decide +kernel
theorem dX10_check_36 : decode cX10_check 36 = .ok (.iload_n 2, 1) := by decide +kernel
theorem dX10_check_37 : decode cX10_check 37 = .ok (.iaload, 1) := by decide +kernel
theorem dX10_check_38 : decode cX10_check 38 = .ok (.if_icmp .eq 7, 3) := by decide +kernel
theorem dX10_check_41 : decode cX10_check 41 = .ok (.iconst 1, 1) := by decide +kernel
theorem dX10_check_42 : decode cX10_check 42 = .ok (.iload_n 2, 1) := by decide +kernel
theorem dX10_check_43 : decode cX10_check 43 = .ok (.iadd, 1) := by decide +kernel
theorem dX10_check_44 : decode cX10_check 44 = .ok (.ireturn, 1) := by decide +kernel
theorem dX10_check_45 : decode cX10_check 45 = .ok (.iinc 2 1, 3) := by decide +kernel
theorem dX10_check_48 : decode cX10_check 48 = .ok (.goto (-36), 3) := by decide +kernel
theorem dX10_check_51 : decode cX10_check 51 = .ok (.iconst 0, 1) := by decide +kernel
theorem dX10_check_52 : decode cX10_check 52 = .ok (.ireturn, 1) := by decide +kernel
theorem dX10_count_0 : decode cX10_count 0 = .ok (.iload_n 1, 1) := by decide +kernel
theorem dX10_count_1 : decode cX10_count 1 = .ok (.tableswitch 126 0 11 #[63, 68, 73, 78, 83, 88, 96, 101, 106, 111, 116, 121], 63) := by decide +kernel
theorem dX10_count_64 : decode cX10_count 64 = .ok (.aload_n 0, 1) := by decide +kernel
theorem dX10_count_65 : decode cX10_count 65 = .ok (.getfield 86, 3) := by decide +kernel
theorem dX10_count_68 : decode cX10_count 68 = .ok (.ireturn, 1) := by decide +kernel
theorem dX10_count_69 : decode cX10_count 69 = .ok (.aload_n 0, 1) := by decide +kernel
theorem dX10_count_70 : decode cX10_count 70 = .ok (.getfield 112, 3) := by decide +kernel
theorem dX10_count_73 : decode cX10_count 73 = .ok (.ireturn, 1) := by decide +kernel
theorem dX10_count_74 : decode cX10_count 74 = .ok (.aload_n 0, 1) := by decide +kernel
theorem dX10_count_75 : decode cX10_count 75 = .ok (.getfield 141, 3) := by decide +kernel
theorem dX10_count_78 : decode cX10_count 78 = .ok (.ireturn, 1) := by decide +kernel
theorem dX10_count_79 : decode cX10_count 79 = .ok (.aload_n 0, 1) := by decide +kernel
theorem dX10_count_80 : decode cX10_count 80 = .ok (.getfield 210, 3) := by decide +kernel
theorem dX10_count_83 : decode cX10_count 83 = .ok (.ireturn, 1) := by decide +kernel
theorem dX10_count_84 : decode cX10_count 84 = .ok (.aload_n 0, 1) := by decide +kernel
theorem dX10_count_85 : decode cX10_count 85 = .ok (.getfield 185, 3) := by decide +kernel
theorem dX10_count_88 : decode cX10_count 88 = .ok (.ireturn, 1) := by decide +kernel
theorem dX10_count_89 : decode cX10_count 89 = .ok (.aload_n 0, 1) := by decide +kernel
theorem dX10_count_90 : decode cX10_count 90 = .ok (.getfield 43, 3) := by decide +kernel
theorem dX10_count_93 : decode cX10_count 93 = .ok (.getfield 178, 3) := by decide +kernel
theorem dX10_count_96 : decode cX10_count 96 = .ok (.ireturn, 1) := by decide +kernel
theorem dX10_count_97 : decode cX10_count 97 = .ok (.aload_n 0, 1) := by decide +kernel
theorem dX10_count_98 : decode cX10_count 98 = .ok (.getfield 79, 3) := by decide +kernel
theorem dX10_count_101 : decode cX10_count 101 = .ok (.ireturn, 1) := by decide +kernel
theorem dX10_count_102 : decode cX10_count 102 = .ok (.aload_n 0, 1) := by decide +kernel
theorem dX10_count_103 : decode cX10_count 103 = .ok (.getfield 318, 3) := by decide +kernel
theorem dX10_count_106 : decode cX10_count 106 = .ok (.ireturn, 1) := by decide +kernel
theorem dX10_count_107 : decode cX10_count 107 = .ok (.aload_n 0, 1) := by decide +kernel
theorem dX10_count_108 : decode cX10_count 108 = .ok (.invokevirtual 324, 3) := by decide +kernel
theorem dX10_count_111 : decode cX10_count 111 = .ok (.ireturn, 1) := by decide +kernel
theorem dX10_count_112 : decode cX10_count 112 = .ok (.aload_n 0, 1) := by decide +kernel
theorem dX10_count_113 : decode cX10_count 113 = .ok (.invokevirtual 327, 3) := by decide +kernel
theorem dX10_count_116 : decode cX10_count 116 = .ok (.ireturn, 1) := by decide +kernel
theorem dX10_count_117 : decode cX10_count 117 = .ok (.aload_n 0, 1) := by decide +kernel
theorem dX10_count_118 : decode cX10_count 118 = .ok (.invokevirtual 330, 3) := by decide +kernel
theorem dX10_count_121 : decode cX10_count 121 = .ok (.ireturn, 1) := by decide +kernel
theorem dX10_count_122 : decode cX10_count 122 = .ok (.aload_n 0, 1) := by decide +kernel
theorem dX10_count_123 : decode cX10_count 123 = .ok (.getfield 321, 3) := by decide +kernel
theorem dX10_count_126 : decode cX10_count 126 = .ok (.ireturn, 1) := by decide +kernel
theorem dX10_count_127 : decode cX10_count 127 = .ok (.aload_n 0, 1) := by decide +kernel
theorem dX10_count_128 : decode cX10_count 128 = .ok (.iconst 1, 1) := by decide +kernel
theorem dX10_count_129 : decode cX10_count 129 = .ok (.invokevirtual 82, 3) := by decide +kernel
theorem dX10_count_132 : decode cX10_count 132 = .ok (.ireturn, 1) := by decide +kernel
