theorem dX11_one_0 : decode cX11_one 0 = .ok (.iload_n 1, 1) := by decide +kernel
theorem dX11_one_1 : decode cX11_one 1 = .ok (.iconst 0, 1) := by decide +kernel
theorem dX11_one_2 : decode cX11_one 2 = .ok (.bipush 9, 2) := by decide +kernel
theorem dX11_one_4 : decode cX11_one 4 = .ok (.invokestatic 124, 3) := by decide +kernel
theorem dX11_one_7 : decode cX11_one 7 = .ok (.ifCond .eq 18, 3) := by decide +kernel
theorem dX11_one_10 : decode cX11_one 10 = .ok (.iload_n 2, 1) := by decide +kernel
theorem dX11_one_11 : decode cX11_one 11 = .ok (.iconst 0, 1) := by decide +kernel
theorem dX11_one_12 : decode cX11_one 12 = .ok (.bipush 9, 2) := by decide +kernel
theorem dX11_one_14 : decode cX11_one 14 = .ok (.invokestatic 124, 3) := by decide +kernel
theorem dX11_one_17 : decode cX11_one 17 = .ok (.ifCond .eq 8, 3) := by decide +kernel
theorem dX11_one_20 : decode cX11_one 20 = .ok (.iload_n 1, 1) := by decide +kernel
theorem dX11_one_21 : decode cX11_one 21 = .ok (.iload_n 2, 1) := by decide +kernel
theorem dX11_one_22 : decode cX11_one 22 = .ok (.if_icmp .ne 9, 3) := by decide +kernel
theorem dX11_one_25 : decode cX11_one 25 = .ok (.aload_n 0, 1) := by decide +kernel
theorem dX11_one_26 : decode cX11_one 26 = .ok (.iconst 1, 1) := by decide +kernel
theorem dX11_one_27 : decode cX11_one 27 = .ok (.invokevirtual 137, 3) := by decide +kernel
theorem dX11_one_30 : decode cX11_one 30 = .ok (.ireturn, 1) := by decide +kernel
theorem dX11_one_31 : decode cX11_one 31 = .ok (.aload_n 0, 1) := by decide +kernel
theorem dX11_one_32 : decode cX11_one 32 = .ok (.getfield 162, 3) := by decide +kernel
theorem dX11_one_35 : decode cX11_one 35 = .ok (.bipush 12, 2) := by decide +kernel
theorem dX11_one_37 : decode cX11_one 37 = .ok (.if_icmp .ne 9, 3) := by decide +kernel
theorem dX11_one_40 : decode cX11_one 40 = .ok (.aload_n 0, 1) := by decide +kernel
theorem dX11_one_41 : decode cX11_one 41 = .ok (.iconst 4, 1) := by decide +kernel
theorem dX11_one_42 : decode cX11_one 42 = .ok (.invokevirtual 137, 3) := by decide +kernel
theorem dX11_one_45 : decode cX11_one 45 = .ok (.ireturn, 1) := by decide +kernel
theorem dX11_one_46 : decode cX11_one 46 = .ok (.aload_n 0, 1) := by decide +kernel
theorem dX11_one_47 : decode cX11_one 47 = .ok (.getfield 31, 3) := by decide +kernel
theorem dX11_one_50 : decode cX11_one 50 = .ok (.aload_n 0, 1) := by decide +kernel
theorem dX11_one_51 : decode cX11_one 51 = .ok (.getfield 162, 3) := by decide +kernel
theorem dX11_one_54 : decode cX11_one 54 = .ok (.iload_n 1, 1) := by decide +kernel
theorem dX11_one_55 : decode cX11_one 55 = .ok (.iastore, 1) := by decide +kernel
theorem dX11_one_56 : decode cX11_one 56 = .ok (.aload_n 0, 1) := by decide +kernel
theorem dX11_one_57 : decode cX11_one 57 = .ok (.getfield 34, 3) := by decide +kernel
theorem dX11_one_60 : decode cX11_one 60 = .ok (.aload_n 0, 1) := by decide +kernel
theorem dX11_one_61 : decode cX11_one 61 = .ok (.getfield 162, 3) := by decide +kernel
theorem dX11_one_64 : decode cX11_one 64 = .ok (.iload_n 2, 1) := by decide +kernel
theorem dX11_one_65 : decode cX11_one 65 = .ok (.iastore, 1) := by decide +kernel
theorem dX11_one_66 : decode cX11_one 66 = .ok (.aload_n 0, 1) := by decide +kernel
theorem dX11_one_67 : decode cX11_one 67 = .ok (.dup, 1) := by decide +kernel
theorem dX11_one_68 : decode cX11_one 68 = .ok (.getfield 162, 3) := by decide +kernel
theorem dX11_one_71 : decode cX11_one 71 = .ok (.iconst 1, 1) := by decide +kernel
theorem dX11_one_72 : decode cX11_one 72 = .ok (.iadd, 1) := by decide +kernel
theorem dX11_one_73 : decode cX11_one 73 = .ok (.putfield 162, 3) := by decide +kernel
theorem dX11_one_76 : decode cX11_one 76 = .ok (.aload_n 0, 1) := by decide +kernel
theorem dX11_one_77 : decode cX11_one 77 = .ok (.getfield 162, 3) := by decide +kernel
theorem dX11_one_80 : decode cX11_one 80 = .ok (.ireturn, 1) := by decide +kernel
theorem dX11_onesOf_0 : decode cX11_onesOf 0 = .ok (.iconst 1, 1) := by decide +kernel
theorem dX11_onesOf_1 : decode cX11_onesOf 1 = .ok (.iload_n 1, 1) := by decide +kernel
theorem dX11_onesOf_2 : decode cX11_onesOf 2 = .ok (.ishl, 1) := by decide +kernel
theorem dX11_onesOf_3 : decode cX11_onesOf 3 = .ok (.istore_n 2, 1) := by decide +kernel
theorem dX11_onesOf_4 : decode cX11_onesOf 4 = .ok (.iconst 0, 1) := by decide +kernel
theorem dX11_onesOf_5 : decode cX11_onesOf 5 = .ok (.istore_n 3, 1) := by decide +kernel
theorem dX11_onesOf_6 : decode cX11_onesOf 6 = .ok (.iload_n 3, 1) := by decide +kernel
theorem dX11_onesOf_7 : decode cX11_onesOf 7 = .ok (.bipush 10, 2) := by decide +kernel
theorem dX11_onesOf_9 : decode cX11_onesOf 9 = .ok (.if_icmp .ge 64, 3) := by decide +kernel
theorem dX11_onesOf_12 : decode cX11_onesOf 12 = .ok (.iconst 0, 1) := by decide +kernel
theorem dX11_onesOf_13 : decode cX11_onesOf 13 = .ok (.istore 4, 2) := by decide +kernel
theorem dX11_onesOf_15 : decode cX11_onesOf 15 = .ok (.iload 4, 2) := by decide +kernel
theorem dX11_onesOf_17 : decode cX11_onesOf 17 = .ok (.aload_n 0, 1) := by decide +kernel
theorem dX11_onesOf_18 : decode cX11_onesOf 18 = .ok (.getfield 162, 3) := by decide +kernel
theorem dX11_onesOf_21 : decode cX11_onesOf 21 = .ok (.if_icmp .ge 46, 3) := by decide +kernel
theorem dX11_onesOf_24 : decode cX11_onesOf 24 = .ok (.iconst 1, 1) := by decide +kernel
theorem dX11_onesOf_25 : decode cX11_onesOf 25 = .ok (.aload_n 0, 1) := by decide +kernel
theorem dX11_onesOf_26 : decode cX11_onesOf 26 = .ok (.getfield 31, 3) := by decide +kernel
theorem dX11_onesOf_29 : decode cX11_onesOf 29 = .ok (.iload 4, 2) := by decide +kernel
theorem dX11_onesOf_31 : decode cX11_onesOf 31 = .ok (.iaload, 1) := by decide +kernel
theorem dX11_onesOf_32 : decode cX11_onesOf 32 = .ok (.ishl, 1) := by decide +kernel
theorem dX11_onesOf_33 : decode cX11_onesOf 33 = .ok (.iconst 1, 1) := by decide +kernel
theorem dX11_onesOf_34 : decode cX11_onesOf 34 = .ok (.aload_n 0, 1) := by decide +kernel
theorem dX11_onesOf_35 : decode cX11_onesOf 35 = .ok (.getfield 34, 3) := by decide +kernel
theorem dX11_onesOf_38 : decode cX11_onesOf 38 = .ok (.iload 4, 2) := by decide +kernel
theorem dX11_onesOf_40 : decode cX11_onesOf 40 = .ok (.iaload, 1) := by decide +kernel
theorem dX11_onesOf_41 : decode cX11_onesOf 41 = .ok (.ishl, 1) := by decide +kernel
theorem dX11_onesOf_42 : decode cX11_onesOf 42 = .ok (.ior, 1) := by decide +kernel
theorem dX11_onesOf_43 : decode cX11_onesOf 43 = .ok (.istore 5, 2) := by decide +kernel
theorem dX11_onesOf_45 : decode cX11_onesOf 45 = .ok (.iload_n 2, 1) := by decide +kernel
theorem dX11_onesOf_46 : decode cX11_onesOf 46 = .ok (.iload_n 2, 1) := by decide +kernel
theorem dX11_onesOf_47 : decode cX11_onesOf 47 = .ok (.iload 5, 2) := by decide +kernel
theorem dX11_onesOf_49 : decode cX11_onesOf 49 = .ok (.iand, 1) := by decide +kernel
theorem dX11_onesOf_50 : decode cX11_onesOf 50 = .ok (.ifCond .eq 8, 3) := by decide +kernel
theorem dX11_onesOf_53 : decode cX11_onesOf 53 = .ok (.iload 5, 2) := by decide +kernel
theorem dX11_onesOf_55 : decode cX11_onesOf 55 = .ok (.goto 4, 3) := by decide +kernel
theorem dX11_onesOf_58 : decode cX11_onesOf 58 = .ok (.iconst 0, 1) := by decide +kernel
theorem dX11_onesOf_59 : decode cX11_onesOf 59 = .ok (.ior, 1) := by decide +kernel
theorem dX11_onesOf_60 : decode cX11_onesOf 60 = .ok (.istore_n 2, 1) := by decide +kernel
theorem dX11_onesOf_61 : decode cX11_onesOf 61 = .ok (.iinc 4 1, 3) := by decide +kernel
theorem dX11_onesOf_64 : decode cX11_onesOf 64 = .ok (.goto (-49), 3) := by decide +kernel
theorem dX11_onesOf_67 : decode cX11_onesOf 67 = .ok (.iinc 3 1, 3) := by decide +kernel
theorem dX11_onesOf_70 : decode cX11_onesOf 70 = .ok (.goto (-64), 3) := by decide +kernel
theorem dX11_onesOf_73 : decode cX11_onesOf 73 = .ok (.iload_n 2, 1) := by decide +kernel
theorem dX11_onesOf_74 : decode cX11_onesOf 74 = .ok (.ireturn, 1) := by decide +kernel
theorem dX11_fleetOf_0 : decode cX11_fleetOf 0 = .ok (.aload_n 0, 1) := by decide +kernel
theorem dX11_fleetOf_1 : decode cX11_fleetOf 1 = .ok (.iload_n 1, 1) := by decide +kernel
theorem dX11_fleetOf_2 : decode cX11_fleetOf 2 = .ok (.invokevirtual 165, 3) := by decide +kernel
theorem dX11_fleetOf_5 : decode cX11_fleetOf 5 = .ok (.istore_n 3, 1) := by decide +kernel
theorem dX11_fleetOf_6 : decode cX11_fleetOf 6 = .ok (.iconst 0, 1) := by decide +kernel
theorem dX11_fleetOf_7 : decode cX11_fleetOf 7 = .ok (.istore 4, 2) := by decide +kernel
theorem dX11_fleetOf_9 : decode cX11_fleetOf 9 = .ok (.iconst 0, 1) := by decide +kernel
theorem dX11_fleetOf_10 : decode cX11_fleetOf 10 = .ok (.istore 5, 2) := by decide +kernel
theorem dX11_fleetOf_12 : decode cX11_fleetOf 12 = .ok (.iload 5, 2) := by decide +kernel
theorem dX11_fleetOf_14 : decode cX11_fleetOf 14 = .ok (.aload_n 0, 1) := by decide +kernel
theorem dX11_fleetOf_15 : decode cX11_fleetOf 15 = .ok (.getfield 121, 3) := by decide +kernel
theorem dX11_fleetOf_18 : decode cX11_fleetOf 18 = .ok (.if_icmp .ge 29, 3) := by decide +kernel
theorem dX11_fleetOf_21 : decode cX11_fleetOf 21 = .ok (.iload 4, 2) := by decide +kernel
theorem dX11_fleetOf_23 : decode cX11_fleetOf 23 = .ok (.iload_n 3, 1) := by decide +kernel
theorem dX11_fleetOf_24 : decode cX11_fleetOf 24 = .ok (.aload_n 0, 1) := by decide +kernel
theorem dX11_fleetOf_25 : decode cX11_fleetOf 25 = .ok (.iload 5, 2) := by decide +kernel
theorem dX11_fleetOf_27 : decode cX11_fleetOf 27 = .ok (.iconst 2, 1) := by decide +kernel
theorem dX11_fleetOf_28 : decode cX11_fleetOf 28 = .ok (.iload_n 2, 1) := by decide +kernel
theorem dX11_fleetOf_29 : decode cX11_fleetOf 29 = .ok (.invokevirtual 155, 3) := by decide +kernel
theorem dX11_fleetOf_32 : decode cX11_fleetOf 32 = .ok (.ishr, 1) := by decide +kernel
theorem dX11_fleetOf_33 : decode cX11_fleetOf 33 = .ok (.iconst 1, 1) := by decide +kernel
theorem dX11_fleetOf_34 : decode cX11_fleetOf 34 = .ok (.iand, 1) := by decide +kernel
theorem dX11_fleetOf_35 : decode cX11_fleetOf 35 = .ok (.iload 5, 2) := by decide +kernel
theorem dX11_fleetOf_37 : decode cX11_fleetOf 37 = .ok (.ishl, 1) := by decide +kernel
theorem dX11_fleetOf_38 : decode cX11_fleetOf 38 = .ok (.ior, 1) := by decide +kernel
theorem dX11_fleetOf_39 : decode cX11_fleetOf 39 = .ok (.istore 4, 2) := by decide +kernel
theorem dX11_fleetOf_41 : decode cX11_fleetOf 41 = .ok (.iinc 5 1, 3) := by decide +kernel
theorem dX11_fleetOf_44 : decode cX11_fleetOf 44 = .ok (.goto (-32), 3) := by decide +kernel
theorem dX11_fleetOf_47 : decode cX11_fleetOf 47 = .ok (.iload 4, 2) := by decide +kernel
theorem dX11_fleetOf_49 : decode cX11_fleetOf 49 = .ok (.ireturn, 1) := by decide +kernel
theorem dX11_fleet_0 : decode cX11_fleet 0 = .ok (.iload_n 1, 1) := by decide +kernel
theorem dX11_fleet_1 : decode cX11_fleet 1 = .ok (.iconst 0, 1) := by decide +kernel
theorem dX11_fleet_2 : decode cX11_fleet 2 = .ok (.bipush 9, 2) := by decide +kernel
theorem dX11_fleet_4 : decode cX11_fleet 4 = .ok (.invokestatic 124, 3) := by decide +kernel
theorem dX11_fleet_7 : decode cX11_fleet 7 = .ok (.ifCond .eq 10, 3) := by decide +kernel
theorem dX11_fleet_10 : decode cX11_fleet 10 = .ok (.iload_n 2, 1) := by decide +kernel
theorem dX11_fleet_11 : decode cX11_fleet 11 = .ok (.invokestatic 159, 3) := by decide +kernel
theorem dX11_fleet_14 : decode cX11_fleet 14 = .ok (.ifCond .ne 9, 3) := by decide +kernel
theorem dX11_fleet_17 : decode cX11_fleet 17 = .ok (.aload_n 0, 1) := by decide +kernel
theorem dX11_fleet_18 : decode cX11_fleet 18 = .ok (.iconst 1, 1) := by decide +kernel
theorem dX11_fleet_19 : decode cX11_fleet 19 = .ok (.invokevirtual 137, 3) := by decide +kernel
theorem dX11_fleet_22 : decode cX11_fleet 22 = .ok (.ireturn, 1) := by decide +kernel
theorem dX11_fleet_23 : decode cX11_fleet 23 = .ok (.aload_n 0, 1) := by decide +kernel
theorem dX11_fleet_24 : decode cX11_fleet 24 = .ok (.iload_n 1, 1) := by decide +kernel
theorem dX11_fleet_25 : decode cX11_fleet 25 = .ok (.iload_n 2, 1) := by decide +kernel
theorem dX11_fleet_26 : decode cX11_fleet 26 = .ok (.invokevirtual 168, 3) := by decide +kernel
theorem dX11_fleet_29 : decode cX11_fleet 29 = .ok (.ireturn, 1) := by decide +kernel
theorem dX11_day_0 : decode cX11_day 0 = .ok (.iload_n 1, 1) := by decide +kernel
theorem dX11_day_1 : decode cX11_day 1 = .ok (.invokestatic 159, 3) := by decide +kernel
theorem dX11_day_4 : decode cX11_day 4 = .ok (.ifCond .eq 11, 3) := by decide +kernel
theorem dX11_day_7 : decode cX11_day 7 = .ok (.iload_n 1, 1) := by decide +kernel
theorem dX11_day_8 : decode cX11_day 8 = .ok (.aload_n 0, 1) := by decide +kernel
theorem dX11_day_9 : decode cX11_day 9 = .ok (.getfield 134, 3) := by decide +kernel
theorem dX11_day_12 : decode cX11_day 12 = .ok (.if_icmp .ge 9, 3) := by decide +kernel
theorem dX11_day_15 : decode cX11_day 15 = .ok (.aload_n 0, 1) := by decide +kernel
theorem dX11_day_16 : decode cX11_day 16 = .ok (.iconst 1, 1) := by decide +kernel
theorem dX11_day_17 : decode cX11_day 17 = .ok (.invokevirtual 137, 3) := by decide +kernel
theorem dX11_day_20 : decode cX11_day 20 = .ok (.ireturn, 1) := by decide +kernel
theorem dX11_day_21 : decode cX11_day 21 = .ok (.iload_n 1, 1) := by decide +kernel
theorem dX11_day_22 : decode cX11_day 22 = .ok (.aload_n 0, 1) := by decide +kernel
theorem dX11_day_23 : decode cX11_day 23 = .ok (.getfield 134, 3) := by decide +kernel
theorem dX11_day_26 : decode cX11_day 26 = .ok (.isub, 1) := by decide +kernel
theorem dX11_day_27 : decode cX11_day 27 = .ok (.istore_n 2, 1) := by decide +kernel
theorem dX11_day_28 : decode cX11_day 28 = .ok (.aload_n 0, 1) := by decide +kernel
theorem dX11_day_29 : decode cX11_day 29 = .ok (.iload_n 1, 1) := by decide +kernel
theorem dX11_day_30 : decode cX11_day 30 = .ok (.putfield 134, 3) := by decide +kernel
theorem dX11_day_33 : decode cX11_day 33 = .ok (.iload_n 2, 1) := by decide +kernel
theorem dX11_day_34 : decode cX11_day 34 = .ok (.ireturn, 1) := by decide +kernel
theorem dX11_openCall_0 : decode cX11_openCall 0 = .ok (.iconst (-1), 1) := by decide +kernel
theorem dX11_openCall_1 : decode cX11_openCall 1 = .ok (.istore_n 2, 1) := by decide +kernel
theorem dX11_openCall_2 : decode cX11_openCall 2 = .ok (.iconst 0, 1) := by decide +kernel
theorem dX11_openCall_3 : decode cX11_openCall 3 = .ok (.istore_n 3, 1) := by decide +kernel
theorem dX11_openCall_4 : decode cX11_openCall 4 = .ok (.iload_n 3, 1) := by decide +kernel
theorem dX11_openCall_5 : decode cX11_openCall 5 = .ok (.aload_n 0, 1) := by decide +kernel
theorem dX11_openCall_6 : decode cX11_openCall 6 = .ok (.getfield 128, 3) := by decide +kernel
theorem dX11_openCall_9 : decode cX11_openCall 9 = .ok (.if_icmp .ge 34, 3) := by decide +kernel
theorem dX11_openCall_12 : decode cX11_openCall 12 = .ok (.aload_n 0, 1) := by decide +kernel
theorem dX11_openCall_13 : decode cX11_openCall 13 = .ok (.getfield 37, 3) := by decide +kernel
theorem dX11_openCall_16 : decode cX11_openCall 16 = .ok (.iload_n 3, 1) := by decide +kernel
theorem dX11_openCall_17 : decode cX11_openCall 17 = .ok (.iaload, 1) := by decide +kernel
theorem dX11_openCall_18 : decode cX11_openCall 18 = .ok (.iload_n 1, 1) := by decide +kernel
theorem dX11_openCall_19 : decode cX11_openCall 19 = .ok (.if_icmp .ne 16, 3) := by decide +kernel
theorem dX11_openCall_22 : decode cX11_openCall 22 = .ok (.aload_n 0, 1) := by decide +kernel
theorem dX11_openCall_23 : decode cX11_openCall 23 = .ok (.getfield 46, 3) := by decide +kernel
theorem dX11_openCall_26 : decode cX11_openCall 26 = .ok (.iload_n 3, 1) := by decide +kernel
theorem dX11_openCall_27 : decode cX11_openCall 27 = .ok (.iaload, 1) := by decide +kernel
theorem dX11_openCall_28 : decode cX11_openCall 28 = .ok (.ifCond .ge 7, 3) := by decide +kernel
theorem dX11_openCall_31 : decode cX11_openCall 31 = .ok (.iload_n 3, 1) := by decide +kernel
theorem dX11_openCall_32 : decode cX11_openCall 32 = .ok (.goto 4, 3) := by decide +kernel
theorem dX11_openCall_35 : decode cX11_openCall 35 = .ok (.iload_n 2, 1) := by decide +kernel
theorem dX11_openCall_36 : decode cX11_openCall 36 = .ok (.istore_n 2, 1) := by decide +kernel
theorem dX11_openCall_37 : decode cX11_openCall 37 = .ok (.iinc 3 1, 3) := by decide +kernel
theorem dX11_openCall_40 : decode cX11_openCall 40 = .ok (.goto (-36), 3) := by decide +kernel
theorem dX11_openCall_43 : decode cX11_openCall 43 = .ok (.iload_n 2, 1) := by decide +kernel
theorem dX11_openCall_44 : decode cX11_openCall 44 = .ok (.ireturn, 1) := by decide +kernel
theorem dX11_call_0 : decode cX11_call 0 = .ok (.aload_n 0, 1) := by decide +kernel
theorem dX11_call_1 : decode cX11_call 1 = .ok (.iload_n 1, 1) := by decide +kernel
theorem dX11_call_2 : decode cX11_call 2 = .ok (.invokevirtual 141, 3) := by decide +kernel
theorem dX11_call_5 : decode cX11_call 5 = .ok (.ifCond .eq 12, 3) := by decide +kernel
theorem dX11_call_8 : decode cX11_call 8 = .ok (.iload_n 2, 1) := by decide +kernel
theorem dX11_call_9 : decode cX11_call 9 = .ok (.iconst 0, 1) := by decide +kernel
theorem dX11_call_10 : decode cX11_call 10 = .ok (.iconst 4, 1) := by decide +kernel
theorem dX11_call_11 : decode cX11_call 11 = .ok (.invokestatic 124, 3) := by decide +kernel
theorem dX11_call_14 : decode cX11_call 14 = .ok (.ifCond .ne 9, 3) := by decide +kernel
theorem dX11_call_17 : decode cX11_call 17 = .ok (.aload_n 0, 1) := by decide +kernel
theorem dX11_call_18 : decode cX11_call 18 = .ok (.iconst 1, 1) := by decide +kernel
theorem dX11_call_19 : decode cX11_call 19 = .ok (.invokevirtual 137, 3) := by decide +kernel
theorem dX11_call_22 : decode cX11_call 22 = .ok (.ireturn, 1) := by decide +kernel
theorem dX11_call_23 : decode cX11_call 23 = .ok (.aload_n 0, 1) := by decide +kernel
theorem dX11_call_24 : decode cX11_call 24 = .ok (.iload_n 1, 1) := by decide +kernel
theorem dX11_call_25 : decode cX11_call 25 = .ok (.invokevirtual 172, 3) := by decide +kernel
theorem dX11_call_28 : decode cX11_call 28 = .ok (.ifCond .ge 12, 3) := by decide +kernel
theorem dX11_call_31 : decode cX11_call 31 = .ok (.aload_n 0, 1) := by decide +kernel
theorem dX11_call_32 : decode cX11_call 32 = .ok (.getfield 93, 3) := by decide +kernel
theorem dX11_call_35 : decode cX11_call 35 = .ok (.iload_n 1, 1) := by decide +kernel
theorem dX11_call_36 : decode cX11_call 36 = .ok (.baload, 1) := by decide +kernel
theorem dX11_call_37 : decode cX11_call 37 = .ok (.ifCond .eq 9, 3) := by decide +kernel
theorem dX11_call_40 : decode cX11_call 40 = .ok (.aload_n 0, 1) := by decide +kernel
theorem dX11_call_41 : decode cX11_call 41 = .ok (.iconst 3, 1) := by decide +kernel
theorem dX11_call_42 : decode cX11_call 42 = .ok (.invokevirtual 137, 3) := by decide +kernel
theorem dX11_call_45 : decode cX11_call 45 = .ok (.ireturn, 1) := by decide +kernel
theorem dX11_call_46 : decode cX11_call 46 = .ok (.aload_n 0, 1) := by decide +kernel
theorem dX11_call_47 : decode cX11_call 47 = .ok (.getfield 128, 3) := by decide +kernel
theorem dX11_call_50 : decode cX11_call 50 = .ok (.bipush 50, 2) := by decide +kernel
theorem dX11_call_52 : decode cX11_call 52 = .ok (.if_icmp .ne 9, 3) := by decide +kernel
theorem dX11_call_55 : decode cX11_call 55 = .ok (.aload_n 0, 1) := by decide +kernel
theorem dX11_call_56 : decode cX11_call 56 = .ok (.iconst 4, 1) := by decide +kernel
theorem dX11_call_57 : decode cX11_call 57 = .ok (.invokevirtual 137, 3) := by decide +kernel
theorem dX11_call_60 : decode cX11_call 60 = .ok (.ireturn, 1) := by decide +kernel
theorem dX11_call_61 : decode cX11_call 61 = .ok (.aload_n 0, 1) := by decide +kernel
theorem dX11_call_62 : decode cX11_call 62 = .ok (.getfield 37, 3) := by decide +kernel
theorem dX11_call_65 : decode cX11_call 65 = .ok (.aload_n 0, 1) := by decide +kernel
theorem dX11_call_66 : decode cX11_call 66 = .ok (.getfield 128, 3) := by decide +kernel
theorem dX11_call_69 : decode cX11_call 69 = .ok (.iload_n 1, 1) := by decide +kernel
theorem dX11_call_70 : decode cX11_call 70 = .ok (.iastore, 1) := by decide +kernel
theorem dX11_call_71 : decode cX11_call 71 = .ok (.aload_n 0, 1) := by decide +kernel
theorem dX11_call_72 : decode cX11_call 72 = .ok (.getfield 40, 3) := by decide +kernel
theorem dX11_call_75 : decode cX11_call 75 = .ok (.aload_n 0, 1) := by decide +kernel
theorem dX11_call_76 : decode cX11_call 76 = .ok (.getfield 128, 3) := by decide +kernel
theorem dX11_call_79 : decode cX11_call 79 = .ok (.iload_n 2, 1) := by decide +kernel
theorem dX11_call_80 : decode cX11_call 80 = .ok (.iastore, 1) := by decide +kernel
theorem dX11_call_81 : decode cX11_call 81 = .ok (.aload_n 0, 1) := by decide +kernel
theorem dX11_call_82 : decode cX11_call 82 = .ok (.getfield 43, 3) := by decide +kernel
theorem dX11_call_85 : decode cX11_call 85 = .ok (.aload_n 0, 1) := by decide +kernel
theorem dX11_call_86 : decode cX11_call 86 = .ok (.getfield 128, 3) := by decide +kernel
theorem dX11_call_89 : decode cX11_call 89 = .ok (.aload_n 0, 1) := by decide +kernel
theorem dX11_call_90 : decode cX11_call 90 = .ok (.getfield 134, 3) := by decide +kernel
theorem dX11_call_93 : decode cX11_call 93 = .ok (.iastore, 1) := by decide +kernel
theorem dX11_call_94 : decode cX11_call 94 = .ok (.aload_n 0, 1) := by decide +kernel
theorem dX11_call_95 : decode cX11_call 95 = .ok (.getfield 46, 3) := by decide +kernel
theorem dX11_call_98 : decode cX11_call 98 = .ok (.aload_n 0, 1) := by decide +kernel
theorem dX11_call_99 : decode cX11_call 99 = .ok (.getfield 128, 3) := by decide +kernel
theorem dX11_call_102 : decode cX11_call 102 = .ok (.iconst (-1), 1) := by decide +kernel
theorem dX11_call_103 : decode cX11_call 103 = .ok (.iastore, 1) := by decide +kernel
theorem dX11_call_104 : decode cX11_call 104 = .ok (.aload_n 0, 1) := by decide +kernel
theorem dX11_call_105 : decode cX11_call 105 = .ok (.dup, 1) := by decide +kernel
theorem dX11_call_106 : decode cX11_call 106 = .ok (.getfield 128, 3) := by decide +kernel
theorem dX11_call_109 : decode cX11_call 109 = .ok (.iconst 1, 1) := by decide +kernel
theorem dX11_call_110 : decode cX11_call 110 = .ok (.iadd, 1) := by decide +kernel
theorem dX11_call_111 : decode cX11_call 111 = .ok (.putfield 128, 3) := by decide +kernel
theorem dX11_call_114 : decode cX11_call 114 = .ok (.aload_n 0, 1) := by decide +kernel
theorem dX11_call_115 : decode cX11_call 115 = .ok (.getfield 128, 3) := by decide +kernel
theorem dX11_call_118 : decode cX11_call 118 = .ok (.iconst 1, 1) := by decide +kernel
theorem dX11_call_119 : decode cX11_call 119 = .ok (.isub, 1) := by decide +kernel
theorem dX11_call_120 : decode cX11_call 120 = .ok (.ireturn, 1) := by decide +kernel
theorem dX11_leave_0 : decode cX11_leave 0 = .ok (.aload_n 0, 1) := by decide +kernel
theorem dX11_leave_1 : decode cX11_leave 1 = .ok (.iload_n 1, 1) := by decide +kernel
theorem dX11_leave_2 : decode cX11_leave 2 = .ok (.invokevirtual 175, 3) := by decide +kernel
theorem dX11_leave_5 : decode cX11_leave 5 = .ok (.ifCond .ne 9, 3) := by decide +kernel
theorem dX11_leave_8 : decode cX11_leave 8 = .ok (.aload_n 0, 1) := by decide +kernel
theorem dX11_leave_9 : decode cX11_leave 9 = .ok (.iconst 1, 1) := by decide +kernel
theorem dX11_leave_10 : decode cX11_leave 10 = .ok (.invokevirtual 137, 3) := by decide +kernel
theorem dX11_leave_13 : decode cX11_leave 13 = .ok (.ireturn, 1) := by decide +kernel
theorem dX11_leave_14 : decode cX11_leave 14 = .ok (.aload_n 0, 1) := by decide +kernel
theorem dX11_leave_15 : decode cX11_leave 15 = .ok (.getfield 46, 3) := by decide +kernel
theorem dX11_leave_18 : decode cX11_leave 18 = .ok (.iload_n 1, 1) := by decide +kernel
theorem dX11_leave_19 : decode cX11_leave 19 = .ok (.iaload, 1) := by decide +kernel
theorem dX11_leave_20 : decode cX11_leave 20 = .ok (.ifCond .ge 12, 3) := by decide +kernel
theorem dX11_leave_23 : decode cX11_leave 23 = .ok (.aload_n 0, 1) := by decide +kernel
theorem dX11_leave_24 : decode cX11_leave 24 = .ok (.getfield 49, 3) := by decide +kernel
theorem dX11_leave_27 : decode cX11_leave 27 = .ok (.iload_n 1, 1) := by decide +kernel
theorem dX11_leave_28 : decode cX11_leave 28 = .ok (.baload, 1) := by decide +kernel
theorem dX11_leave_29 : decode cX11_leave 29 = .ok (.ifCond .eq 9, 3) := by decide +kernel
theorem dX11_leave_32 : decode cX11_leave 32 = .ok (.aload_n 0, 1) := by decide +kernel
theorem dX11_leave_33 : decode cX11_leave 33 = .ok (.iconst 3, 1) := by decide +kernel
theorem dX11_leave_34 : decode cX11_leave 34 = .ok (.invokevirtual 137, 3) := by decide +kernel
theorem dX11_leave_37 : decode cX11_leave 37 = .ok (.ireturn, 1) := by decide +kernel
theorem dX11_leave_38 : decode cX11_leave 38 = .ok (.aload_n 0, 1) := by decide +kernel
theorem dX11_leave_39 : decode cX11_leave 39 = .ok (.getfield 46, 3) := by decide +kernel
theorem dX11_leave_42 : decode cX11_leave 42 = .ok (.iload_n 1, 1) := by decide +kernel
theorem dX11_leave_43 : decode cX11_leave 43 = .ok (.aload_n 0, 1) := by decide +kernel
theorem dX11_leave_44 : decode cX11_leave 44 = .ok (.getfield 134, 3) := by decide +kernel
theorem dX11_leave_47 : decode cX11_leave 47 = .ok (.iastore, 1) := by decide +kernel
theorem dX11_leave_48 : decode cX11_leave 48 = .ok (.iconst 1, 1) := by decide +kernel
theorem dX11_leave_49 : decode cX11_leave 49 = .ok (.ireturn, 1) := by decide +kernel
theorem dX11_looksAt_0 : decode cX11_looksAt 0 = .ok (.iconst 0, 1) := by decide +kernel
theorem dX11_looksAt_1 : decode cX11_looksAt 1 = .ok (.istore_n 2, 1) := by decide +kernel
theorem dX11_looksAt_2 : decode cX11_looksAt 2 = .ok (.iconst 0, 1) := by decide +kernel
theorem dX11_looksAt_3 : decode cX11_looksAt 3 = .ok (.istore_n 3, 1) := by decide +kernel
theorem dX11_looksAt_4 : decode cX11_looksAt 4 = .ok (.iload_n 3, 1) := by decide +kernel
theorem dX11_looksAt_5 : decode cX11_looksAt 5 = .ok (.aload_n 0, 1) := by decide +kernel
theorem dX11_looksAt_6 : decode cX11_looksAt 6 = .ok (.getfield 131, 3) := by decide +kernel
theorem dX11_looksAt_9 : decode cX11_looksAt 9 = .ok (.if_icmp .ge 27, 3) := by decide +kernel
theorem dX11_looksAt_12 : decode cX11_looksAt 12 = .ok (.iload_n 2, 1) := by decide +kernel
theorem dX11_looksAt_13 : decode cX11_looksAt 13 = .ok (.aload_n 0, 1) := by decide +kernel
theorem dX11_looksAt_14 : decode cX11_looksAt 14 = .ok (.getfield 68, 3) := by decide +kernel
theorem dX11_looksAt_17 : decode cX11_looksAt 17 = .ok (.iload_n 3, 1) := by decide +kernel
theorem dX11_looksAt_18 : decode cX11_looksAt 18 = .ok (.iaload, 1) := by decide +kernel
theorem dX11_looksAt_19 : decode cX11_looksAt 19 = .ok (.iload_n 1, 1) := by decide +kernel
theorem dX11_looksAt_20 : decode cX11_looksAt 20 = .ok (.if_icmp .ne 7, 3) := by decide +kernel
theorem dX11_looksAt_23 : decode cX11_looksAt 23 = .ok (.iconst 1, 1) := by decide +kernel
theorem dX11_looksAt_24 : decode cX11_looksAt 24 = .ok (.goto 4, 3) := by decide +kernel
theorem dX11_looksAt_27 : decode cX11_looksAt 27 = .ok (.iconst 0, 1) := by decide +kernel
theorem dX11_looksAt_28 : decode cX11_looksAt 28 = .ok (.iadd, 1) := by decide +kernel
theorem dX11_looksAt_29 : decode cX11_looksAt 29 = .ok (.istore_n 2, 1) := by decide +kernel
theorem dX11_looksAt_30 : decode cX11_looksAt 30 = .ok (.iinc 3 1, 3) := by decide +kernel
theorem dX11_looksAt_33 : decode cX11_looksAt 33 = .ok (.goto (-29), 3) := by decide +kernel
theorem dX11_looksAt_36 : decode cX11_looksAt 36 = .ok (.iload_n 2, 1) := by decide +kernel
theorem dX11_looksAt_37 : decode cX11_looksAt 37 = .ok (.ireturn, 1) := by decide +kernel
theorem dX11_of_0 : decode cX11_of 0 = .ok (.aload_n 0, 1) := by decide +kernel
theorem dX11_of_1 : decode cX11_of 1 = .ok (.iload_n 1, 1) := by decide +kernel
theorem dX11_of_2 : decode cX11_of 2 = .ok (.invokevirtual 175, 3) := by decide +kernel
theorem dX11_of_5 : decode cX11_of 5 = .ok (.ifCond .eq 12, 3) := by decide +kernel
theorem dX11_of_8 : decode cX11_of 8 = .ok (.iload_n 2, 1) := by decide +kernel
theorem dX11_of_9 : decode cX11_of 9 = .ok (.iconst 0, 1) := by decide +kernel
theorem dX11_of_10 : decode cX11_of 10 = .ok (.iconst 5, 1) := by decide +kernel
theorem dX11_of_11 : decode cX11_of 11 = .ok (.invokestatic 124, 3) := by decide +kernel
theorem dX11_of_14 : decode cX11_of 14 = .ok (.ifCond .ne 9, 3) := by decide +kernel
theorem dX11_of_17 : decode cX11_of 17 = .ok (.aload_n 0, 1) := by decide +kernel
theorem dX11_of_18 : decode cX11_of 18 = .ok (.iconst 1, 1) := by decide +kernel
theorem dX11_of_19 : decode cX11_of 19 = .ok (.invokevirtual 137, 3) := by decide +kernel
theorem dX11_of_22 : decode cX11_of 22 = .ok (.ireturn, 1) := by decide +kernel
theorem dX11_of_23 : decode cX11_of 23 = .ok (.iload_n 2, 1) := by decide +kernel
theorem dX11_of_24 : decode cX11_of 24 = .ok (.tableswitch 79 0 4 #[36, 43, 50, 57, 64], 36) := by decide +kernel
theorem dX11_of_60 : decode cX11_of 60 = .ok (.aload_n 0, 1) := by decide +kernel
theorem dX11_of_61 : decode cX11_of 61 = .ok (.getfield 37, 3) := by decide +kernel
theorem dX11_of_64 : decode cX11_of 64 = .ok (.iload_n 1, 1) := by decide +kernel
theorem dX11_of_65 : decode cX11_of 65 = .ok (.iaload, 1) := by decide +kernel
theorem dX11_of_66 : decode cX11_of 66 = .ok (.ireturn, 1) := by decide +kernel
theorem dX11_of_67 : decode cX11_of 67 = .ok (.aload_n 0, 1) := by decide +kernel
theorem dX11_of_68 : decode cX11_of 68 = .ok (.getfield 40, 3) := by decide +kernel
theorem dX11_of_71 : decode cX11_of 71 = .ok (.iload_n 1, 1) := by decide +kernel
theorem dX11_of_72 : decode cX11_of 72 = .ok (.iaload, 1) := by decide +kernel
theorem dX11_of_73 : decode cX11_of 73 = .ok (.ireturn, 1) := by decide +kernel
theorem dX11_of_74 : decode cX11_of 74 = .ok (.aload_n 0, 1) := by decide +kernel
theorem dX11_of_75 : decode cX11_of 75 = .ok (.getfield 43, 3) := by decide +kernel
theorem dX11_of_78 : decode cX11_of 78 = .ok (.iload_n 1, 1) := by decide +kernel
theorem dX11_of_79 : decode cX11_of 79 = .ok (.iaload, 1) := by decide +kernel
theorem dX11_of_80 : decode cX11_of 80 = .ok (.ireturn, 1) := by decide +kernel
theorem dX11_of_81 : decode cX11_of 81 = .ok (.aload_n 0, 1) := by decide +kernel
theorem dX11_of_82 : decode cX11_of 82 = .ok (.getfield 46, 3) := by decide +kernel
theorem dX11_of_85 : decode cX11_of 85 = .ok (.iload_n 1, 1) := by decide +kernel
theorem dX11_of_86 : decode cX11_of 86 = .ok (.iaload, 1) := by decide +kernel
theorem dX11_of_87 : decode cX11_of 87 = .ok (.ireturn, 1) := by decide +kernel
theorem dX11_of_88 : decode cX11_of 88 = .ok (.aload_n 0, 1) := by decide +kernel
theorem dX11_of_89 : decode cX11_of 89 = .ok (.getfield 49, 3) := by decide +kernel
theorem dX11_of_92 : decode cX11_of 92 = .ok (.iload_n 1, 1) := by decide +kernel
theorem dX11_of_93 : decode cX11_of 93 = .ok (.baload, 1) := by decide +kernel
theorem dX11_of_94 : decode cX11_of 94 = .ok (.ifCond .eq 7, 3) := by decide +kernel
theorem dX11_of_97 : decode cX11_of 97 = .ok (.iconst 1, 1) := by decide +kernel
theorem dX11_of_98 : decode cX11_of 98 = .ok (.goto 4, 3) := by decide +kernel
theorem dX11_of_101 : decode cX11_of 101 = .ok (.iconst 0, 1) := by decide +kernel
theorem dX11_of_102 : decode cX11_of 102 = .ok (.ireturn, 1) := by decide +kernel
theorem dX11_of_103 : decode cX11_of 103 = .ok (.aload_n 0, 1) := by decide +kernel
theorem dX11_of_104 : decode cX11_of 104 = .ok (.iload_n 1, 1) := by decide +kernel
theorem dX11_of_105 : decode cX11_of 105 = .ok (.invokevirtual 178, 3) := by decide +kernel
theorem dX11_of_108 : decode cX11_of 108 = .ok (.ireturn, 1) := by decide +kernel
theorem dX11_feed_0 : decode cX11_feed 0 = .ok (.iload_n 1, 1) := by decide +kernel
theorem dX11_feed_1 : decode cX11_feed 1 = .ok (.iconst 0, 1) := by decide +kernel
theorem dX11_feed_2 : decode cX11_feed 2 = .ok (.sipush 255, 3) := by decide +kernel
theorem dX11_feed_5 : decode cX11_feed 5 = .ok (.invokestatic 124, 3) := by decide +kernel
theorem dX11_feed_8 : decode cX11_feed 8 = .ok (.ifCond .ne 9, 3) := by decide +kernel
theorem dX11_feed_11 : decode cX11_feed 11 = .ok (.aload_n 0, 1) := by decide +kernel
theorem dX11_feed_12 : decode cX11_feed 12 = .ok (.iconst 1, 1) := by decide +kernel
theorem dX11_feed_13 : decode cX11_feed 13 = .ok (.invokevirtual 137, 3) := by decide +kernel
theorem dX11_feed_16 : decode cX11_feed 16 = .ok (.ireturn, 1) := by decide +kernel
theorem dX11_feed_17 : decode cX11_feed 17 = .ok (.aload_n 0, 1) := by decide +kernel
theorem dX11_feed_18 : decode cX11_feed 18 = .ok (.getfield 181, 3) := by decide +kernel
theorem dX11_feed_21 : decode cX11_feed 21 = .ok (.bipush 60, 2) := by decide +kernel
theorem dX11_feed_23 : decode cX11_feed 23 = .ok (.if_icmp .ne 9, 3) := by decide +kernel
theorem dX11_feed_26 : decode cX11_feed 26 = .ok (.aload_n 0, 1) := by decide +kernel
theorem dX11_feed_27 : decode cX11_feed 27 = .ok (.iconst 4, 1) := by decide +kernel
theorem dX11_feed_28 : decode cX11_feed 28 = .ok (.invokevirtual 137, 3) := by decide +kernel
theorem dX11_feed_31 : decode cX11_feed 31 = .ok (.ireturn, 1) := by decide +kernel
theorem dX11_feed_32 : decode cX11_feed 32 = .ok (.aload_n 0, 1) := by decide +kernel
theorem dX11_feed_33 : decode cX11_feed 33 = .ok (.getfield 53, 3) := by decide +kernel
theorem dX11_feed_36 : decode cX11_feed 36 = .ok (.aload_n 0, 1) := by decide +kernel
theorem dX11_feed_37 : decode cX11_feed 37 = .ok (.getfield 181, 3) := by decide +kernel
theorem dX11_feed_40 : decode cX11_feed 40 = .ok (.iload_n 1, 1) := by decide +kernel
theorem dX11_feed_41 : decode cX11_feed 41 = .ok (.iastore, 1) := by decide +kernel
theorem dX11_feed_42 : decode cX11_feed 42 = .ok (.aload_n 0, 1) := by decide +kernel
theorem dX11_feed_43 : decode cX11_feed 43 = .ok (.dup, 1) := by decide +kernel
theorem dX11_feed_44 : decode cX11_feed 44 = .ok (.getfield 181, 3) := by decide +kernel
theorem dX11_feed_47 : decode cX11_feed 47 = .ok (.iconst 1, 1) := by decide +kernel
theorem dX11_feed_48 : decode cX11_feed 48 = .ok (.iadd, 1) := by decide +kernel
theorem dX11_feed_49 : decode cX11_feed 49 = .ok (.putfield 181, 3) := by decide +kernel
theorem dX11_feed_52 : decode cX11_feed 52 = .ok (.aload_n 0, 1) := by decide +kernel
theorem dX11_feed_53 : decode cX11_feed 53 = .ok (.getfield 181, 3) := by decide +kernel
theorem dX11_feed_56 : decode cX11_feed 56 = .ok (.ireturn, 1) := by decide +kernel
theorem dX11_isDigit_0 : decode cX11_isDigit 0 = .ok (.iload_n 1, 1) := by decide +kernel
theorem dX11_isDigit_1 : decode cX11_isDigit 1 = .ok (.aload_n 0, 1) := by decide +kernel
theorem dX11_isDigit_2 : decode cX11_isDigit 2 = .ok (.getfield 181, 3) := by decide +kernel
theorem dX11_isDigit_5 : decode cX11_isDigit 5 = .ok (.if_icmp .ge 23, 3) := by decide +kernel
theorem dX11_isDigit_8 : decode cX11_isDigit 8 = .ok (.aload_n 0, 1) := by decide +kernel
theorem dX11_isDigit_9 : decode cX11_isDigit 9 = .ok (.getfield 53, 3) := by decide +kernel
theorem dX11_isDigit_12 : decode cX11_isDigit 12 = .ok (.iload_n 1, 1) := by decide +kernel
theorem dX11_isDigit_13 : decode cX11_isDigit 13 = .ok (.iaload, 1) := by decide +kernel
theorem dX11_isDigit_14 : decode cX11_isDigit 14 = .ok (.bipush 48, 2) := by decide +kernel
theorem dX11_isDigit_16 : decode cX11_isDigit 16 = .ok (.bipush 57, 2) := by decide +kernel
theorem dX11_isDigit_18 : decode cX11_isDigit 18 = .ok (.invokestatic 124, 3) := by decide +kernel
theorem dX11_isDigit_21 : decode cX11_isDigit 21 = .ok (.ifCond .eq 7, 3) := by decide +kernel
theorem dX11_isDigit_24 : decode cX11_isDigit 24 = .ok (.iconst 1, 1) := by decide +kernel
theorem dX11_isDigit_25 : decode cX11_isDigit 25 = .ok (.goto 4, 3) := by decide +kernel
theorem dX11_isDigit_28 : decode cX11_isDigit 28 = .ok (.iconst 0, 1) := by decide +kernel
theorem dX11_isDigit_29 : decode cX11_isDigit 29 = .ok (.ireturn, 1) := by decide +kernel
theorem dX11_isByte_0 : decode cX11_isByte 0 = .ok (.iload_n 1, 1) := by decide +kernel
theorem dX11_isByte_1 : decode cX11_isByte 1 = .ok (.aload_n 0, 1) := by decide +kernel
theorem dX11_isByte_2 : decode cX11_isByte 2 = .ok (.getfield 181, 3) := by decide +kernel
theorem dX11_isByte_5 : decode cX11_isByte 5 = .ok (.if_icmp .ge 17, 3) := by decide +kernel
theorem dX11_isByte_8 : decode cX11_isByte 8 = .ok (.aload_n 0, 1) := by decide +kernel
theorem dX11_isByte_9 : decode cX11_isByte 9 = .ok (.getfield 53, 3) := by decide +kernel
theorem dX11_isByte_12 : decode cX11_isByte 12 = .ok (.iload_n 1, 1) := by decide +kernel
theorem dX11_isByte_13 : decode cX11_isByte 13 = .ok (.iaload, 1) := by decide +kernel
theorem dX11_isByte_14 : decode cX11_isByte 14 = .ok (.iload_n 2, 1) := by decide +kernel
theorem dX11_isByte_15 : decode cX11_isByte 15 = .ok (.if_icmp .ne 7, 3) := by decide +kernel
theorem dX11_isByte_18 : decode cX11_isByte 18 = .ok (.iconst 1, 1) := by decide +kernel
theorem dX11_isByte_19 : decode cX11_isByte 19 = .ok (.goto 4, 3) := by decide +kernel
theorem dX11_isByte_22 : decode cX11_isByte 22 = .ok (.iconst 0, 1) := by decide +kernel
theorem dX11_isByte_23 : decode cX11_isByte 23 = .ok (.ireturn, 1) := by decide +kernel
theorem dX11_kindAt_0 : decode cX11_kindAt 0 = .ok (.aload_n 0, 1) := by decide +kernel
theorem dX11_kindAt_1 : decode cX11_kindAt 1 = .ok (.iload_n 1, 1) := by decide +kernel
theorem dX11_kindAt_2 : decode cX11_kindAt 2 = .ok (.bipush 115, 2) := by decide +kernel
theorem dX11_kindAt_4 : decode cX11_kindAt 4 = .ok (.invokevirtual 184, 3) := by decide +kernel
theorem dX11_kindAt_7 : decode cX11_kindAt 7 = .ok (.ifCond .eq 7, 3) := by decide +kernel
theorem dX11_kindAt_10 : decode cX11_kindAt 10 = .ok (.iconst 0, 1) := by decide +kernel
theorem dX11_kindAt_11 : decode cX11_kindAt 11 = .ok (.goto 46, 3) := by decide +kernel
theorem dX11_kindAt_14 : decode cX11_kindAt 14 = .ok (.aload_n 0, 1) := by decide +kernel
theorem dX11_kindAt_15 : decode cX11_kindAt 15 = .ok (.iload_n 1, 1) := by decide +kernel
theorem dX11_kindAt_16 : decode cX11_kindAt 16 = .ok (.bipush 116, 2) := by decide +kernel
theorem dX11_kindAt_18 : decode cX11_kindAt 18 = .ok (.invokevirtual 184, 3) := by decide +kernel
theorem dX11_kindAt_21 : decode cX11_kindAt 21 = .ok (.ifCond .eq 7, 3) := by decide +kernel
theorem dX11_kindAt_24 : decode cX11_kindAt 24 = .ok (.iconst 1, 1) := by decide +kernel
theorem dX11_kindAt_25 : decode cX11_kindAt 25 = .ok (.goto 32, 3) := by decide +kernel
theorem dX11_kindAt_28 : decode cX11_kindAt 28 = .ok (.aload_n 0, 1) := by decide +kernel
theorem dX11_kindAt_29 : decode cX11_kindAt 29 = .ok (.iload_n 1, 1) := by decide +kernel
theorem dX11_kindAt_30 : decode cX11_kindAt 30 = .ok (.bipush 103, 2) := by decide +kernel
theorem dX11_kindAt_32 : decode cX11_kindAt 32 = .ok (.invokevirtual 184, 3) := by decide +kernel
theorem dX11_kindAt_35 : decode cX11_kindAt 35 = .ok (.ifCond .eq 7, 3) := by decide +kernel
theorem dX11_kindAt_38 : decode cX11_kindAt 38 = .ok (.iconst 2, 1) := by decide +kernel
theorem dX11_kindAt_39 : decode cX11_kindAt 39 = .ok (.goto 18, 3) := by decide +kernel
theorem dX11_kindAt_42 : decode cX11_kindAt 42 = .ok (.aload_n 0, 1) := by decide +kernel
theorem dX11_kindAt_43 : decode cX11_kindAt 43 = .ok (.iload_n 1, 1) := by decide +kernel
theorem dX11_kindAt_44 : decode cX11_kindAt 44 = .ok (.bipush 102, 2) := by decide +kernel
theorem dX11_kindAt_46 : decode cX11_kindAt 46 = .ok (.invokevirtual 184, 3) := by decide +kernel
theorem dX11_kindAt_49 : decode cX11_kindAt 49 = .ok (.ifCond .eq 7, 3) := by decide +kernel
theorem dX11_kindAt_52 : decode cX11_kindAt 52 = .ok (.iconst 3, 1) := by decide +kernel
theorem dX11_kindAt_53 : decode cX11_kindAt 53 = .ok (.goto 4, 3) := by decide +kernel
theorem dX11_kindAt_56 : decode cX11_kindAt 56 = .ok (.iconst (-1), 1) := by decide +kernel
theorem dX11_kindAt_57 : decode cX11_kindAt 57 = .ok (.ireturn, 1) := by decide +kernel
theorem dX11_rowEnd_0 : decode cX11_rowEnd 0 = .ok (.aload_n 0, 1) := by decide +kernel
theorem dX11_rowEnd_1 : decode cX11_rowEnd 1 = .ok (.iload_n 1, 1) := by decide +kernel
theorem dX11_rowEnd_2 : decode cX11_rowEnd 2 = .ok (.bipush 108, 2) := by decide +kernel
theorem dX11_rowEnd_4 : decode cX11_rowEnd 4 = .ok (.invokevirtual 184, 3) := by decide +kernel
theorem dX11_rowEnd_7 : decode cX11_rowEnd 7 = .ok (.ifCond .eq 39, 3) := by decide +kernel
theorem dX11_rowEnd_10 : decode cX11_rowEnd 10 = .ok (.aload_n 0, 1) := by decide +kernel
theorem dX11_rowEnd_11 : decode cX11_rowEnd 11 = .ok (.iload_n 1, 1) := by decide +kernel
theorem dX11_rowEnd_12 : decode cX11_rowEnd 12 = .ok (.iconst 1, 1) := by decide +kernel
theorem dX11_rowEnd_13 : decode cX11_rowEnd 13 = .ok (.iadd, 1) := by decide +kernel
theorem dX11_rowEnd_14 : decode cX11_rowEnd 14 = .ok (.invokevirtual 187, 3) := by decide +kernel
theorem dX11_rowEnd_17 : decode cX11_rowEnd 17 = .ok (.ifCond .ne 9, 3) := by decide +kernel
theorem dX11_rowEnd_20 : decode cX11_rowEnd 20 = .ok (.iload_n 1, 1) := by decide +kernel
theorem dX11_rowEnd_21 : decode cX11_rowEnd 21 = .ok (.iconst 1, 1) := by decide +kernel
theorem dX11_rowEnd_22 : decode cX11_rowEnd 22 = .ok (.iadd, 1) := by decide +kernel
theorem dX11_rowEnd_23 : decode cX11_rowEnd 23 = .ok (.goto 22, 3) := by decide +kernel
theorem dX11_rowEnd_26 : decode cX11_rowEnd 26 = .ok (.aload_n 0, 1) := by decide +kernel
theorem dX11_rowEnd_27 : decode cX11_rowEnd 27 = .ok (.iload_n 1, 1) := by decide +kernel
theorem dX11_rowEnd_28 : decode cX11_rowEnd 28 = .ok (.iconst 2, 1) := by decide +kernel
theorem dX11_rowEnd_29 : decode cX11_rowEnd 29 = .ok (.iadd, 1) := by decide +kernel
theorem dX11_rowEnd_30 : decode cX11_rowEnd 30 = .ok (.invokevirtual 187, 3) := by decide +kernel
theorem dX11_rowEnd_33 : decode cX11_rowEnd 33 = .ok (.ifCond .eq 9, 3) := by decide +kernel
theorem dX11_rowEnd_36 : decode cX11_rowEnd 36 = .ok (.iload_n 1, 1) := by decide +kernel
theorem dX11_rowEnd_37 : decode cX11_rowEnd 37 = .ok (.iconst 3, 1) := by decide +kernel
theorem dX11_rowEnd_38 : decode cX11_rowEnd 38 = .ok (.iadd, 1) := by decide +kernel
theorem dX11_rowEnd_39 : decode cX11_rowEnd 39 = .ok (.goto 6, 3) := by decide +kernel
theorem dX11_rowEnd_42 : decode cX11_rowEnd 42 = .ok (.iload_n 1, 1) := by decide +kernel
theorem dX11_rowEnd_43 : decode cX11_rowEnd 43 = .ok (.iconst 2, 1) := by decide +kernel
theorem dX11_rowEnd_44 : decode cX11_rowEnd 44 = .ok (.iadd, 1) := by decide +kernel
theorem dX11_rowEnd_45 : decode cX11_rowEnd 45 = .ok (.ireturn, 1) := by decide +kernel
theorem dX11_rowEnd_46 : decode cX11_rowEnd 46 = .ok (.aload_n 0, 1) := by decide +kernel
theorem dX11_rowEnd_47 : decode cX11_rowEnd 47 = .ok (.iload_n 1, 1) := by decide +kernel
theorem dX11_rowEnd_48 : decode cX11_rowEnd 48 = .ok (.bipush 119, 2) := by decide +kernel
theorem dX11_rowEnd_50 : decode cX11_rowEnd 50 = .ok (.invokevirtual 184, 3) := by decide +kernel
theorem dX11_rowEnd_53 : decode cX11_rowEnd 53 = .ok (.ifCond .eq 39, 3) := by decide +kernel
theorem dX11_rowEnd_56 : decode cX11_rowEnd 56 = .ok (.aload_n 0, 1) := by decide +kernel
theorem dX11_rowEnd_57 : decode cX11_rowEnd 57 = .ok (.iload_n 1, 1) := by decide +kernel
theorem dX11_rowEnd_58 : decode cX11_rowEnd 58 = .ok (.iconst 1, 1) := by decide +kernel
theorem dX11_rowEnd_59 : decode cX11_rowEnd 59 = .ok (.iadd, 1) := by decide +kernel
theorem dX11_rowEnd_60 : decode cX11_rowEnd 60 = .ok (.invokevirtual 187, 3) := by decide +kernel
theorem dX11_rowEnd_63 : decode cX11_rowEnd 63 = .ok (.ifCond .ne 9, 3) := by decide +kernel
theorem dX11_rowEnd_66 : decode cX11_rowEnd 66 = .ok (.iload_n 1, 1) := by decide +kernel
theorem dX11_rowEnd_67 : decode cX11_rowEnd 67 = .ok (.iconst 1, 1) := by decide +kernel
theorem dX11_rowEnd_68 : decode cX11_rowEnd 68 = .ok (.iadd, 1) := by decide +kernel
theorem dX11_rowEnd_69 : decode cX11_rowEnd 69 = .ok (.goto 22, 3) := by decide +kernel
theorem dX11_rowEnd_72 : decode cX11_rowEnd 72 = .ok (.aload_n 0, 1) := by decide +kernel
theorem dX11_rowEnd_73 : decode cX11_rowEnd 73 = .ok (.iload_n 1, 1) := by decide +kernel
theorem dX11_rowEnd_74 : decode cX11_rowEnd 74 = .ok (.iconst 2, 1) := by decide +kernel
theorem dX11_rowEnd_75 : decode cX11_rowEnd 75 = .ok (.iadd, 1) := by decide +kernel
theorem dX11_rowEnd_76 : decode cX11_rowEnd 76 = .ok (.invokevirtual 187, 3) := by decide +kernel
theorem dX11_rowEnd_79 : decode cX11_rowEnd 79 = .ok (.ifCond .ne 9, 3) := by decide +kernel
theorem dX11_rowEnd_82 : decode cX11_rowEnd 82 = .ok (.iload_n 1, 1) := by decide +kernel
theorem dX11_rowEnd_83 : decode cX11_rowEnd 83 = .ok (.iconst 2, 1) := by decide +kernel
theorem dX11_rowEnd_84 : decode cX11_rowEnd 84 = .ok (.iadd, 1) := by decide +kernel
theorem dX11_rowEnd_85 : decode cX11_rowEnd 85 = .ok (.goto 6, 3) := by decide +kernel
theorem dX11_rowEnd_88 : decode cX11_rowEnd 88 = .ok (.iload_n 1, 1) := by decide +kernel
theorem dX11_rowEnd_89 : decode cX11_rowEnd 89 = .ok (.iconst 3, 1) := by decide +kernel
theorem dX11_rowEnd_90 : decode cX11_rowEnd 90 = .ok (.iadd, 1) := by decide +kernel
theorem dX11_rowEnd_91 : decode cX11_rowEnd 91 = .ok (.ireturn, 1) := by decide +kernel
theorem dX11_rowEnd_92 : decode cX11_rowEnd 92 = .ok (.aload_n 0, 1) := by decide +kernel
theorem dX11_rowEnd_93 : decode cX11_rowEnd 93 = .ok (.iload_n 1, 1) := by decide +kernel
theorem dX11_rowEnd_94 : decode cX11_rowEnd 94 = .ok (.bipush 103, 2) := by decide +kernel
theorem dX11_rowEnd_96 : decode cX11_rowEnd 96 = .ok (.invokevirtual 184, 3) := by decide +kernel
theorem dX11_rowEnd_99 : decode cX11_rowEnd 99 = .ok (.ifCond .eq 39, 3) := by decide +kernel
theorem dX11_rowEnd_102 : decode cX11_rowEnd 102 = .ok (.aload_n 0, 1) := by decide +kernel
theorem dX11_rowEnd_103 : decode cX11_rowEnd 103 = .ok (.iload_n 1, 1) := by decide +kernel
theorem dX11_rowEnd_104 : decode cX11_rowEnd 104 = .ok (.iconst 1, 1) := by decide +kernel
theorem dX11_rowEnd_105 : decode cX11_rowEnd 105 = .ok (.iadd, 1) := by decide +kernel
theorem dX11_rowEnd_106 : decode cX11_rowEnd 106 = .ok (.invokevirtual 187, 3) := by decide +kernel
theorem dX11_rowEnd_109 : decode cX11_rowEnd 109 = .ok (.ifCond .ne 9, 3) := by decide +kernel
theorem dX11_rowEnd_112 : decode cX11_rowEnd 112 = .ok (.iload_n 1, 1) := by decide +kernel
theorem dX11_rowEnd_113 : decode cX11_rowEnd 113 = .ok (.iconst 1, 1) := by decide +kernel
theorem dX11_rowEnd_114 : decode cX11_rowEnd 114 = .ok (.iadd, 1) := by decide +kernel
theorem dX11_rowEnd_115 : decode cX11_rowEnd 115 = .ok (.goto 22, 3) := by decide +kernel
theorem dX11_rowEnd_118 : decode cX11_rowEnd 118 = .ok (.aload_n 0, 1) := by decide +kernel
theorem dX11_rowEnd_119 : decode cX11_rowEnd 119 = .ok (.iload_n 1, 1) := by decide +kernel
theorem dX11_rowEnd_120 : decode cX11_rowEnd 120 = .ok (.iconst 2, 1) := by decide +kernel
theorem dX11_rowEnd_121 : decode cX11_rowEnd 121 = .ok (.iadd, 1) := by decide +kernel
theorem dX11_rowEnd_122 : decode cX11_rowEnd 122 = .ok (.invokevirtual 190, 3) := by decide +kernel
theorem dX11_rowEnd_125 : decode cX11_rowEnd 125 = .ok (.ifCond .ge 9, 3) := by decide +kernel
theorem dX11_rowEnd_128 : decode cX11_rowEnd 128 = .ok (.iload_n 1, 1) := by decide +kernel
theorem dX11_rowEnd_129 : decode cX11_rowEnd 129 = .ok (.iconst 2, 1) := by decide +kernel
theorem dX11_rowEnd_130 : decode cX11_rowEnd 130 = .ok (.iadd, 1) := by decide +kernel
theorem dX11_rowEnd_131 : decode cX11_rowEnd 131 = .ok (.goto 6, 3) := by decide +kernel
theorem dX11_rowEnd_134 : decode cX11_rowEnd 134 = .ok (.iload_n 1, 1) := by decide +kernel
theorem dX11_rowEnd_135 : decode cX11_rowEnd 135 = .ok (.iconst 3, 1) := by decide +kernel
theorem dX11_rowEnd_136 : decode cX11_rowEnd 136 = .ok (.iadd, 1) := by decide +kernel
theorem dX11_rowEnd_137 : decode cX11_rowEnd 137 = .ok (.ireturn, 1) := by decide +kernel
theorem dX11_rowEnd_138 : decode cX11_rowEnd 138 = .ok (.iload_n 1, 1) := by decide +kernel
theorem dX11_rowEnd_139 : decode cX11_rowEnd 139 = .ok (.ireturn, 1) := by decide +kernel
theorem dX11_rowLeast_0 : decode cX11_rowLeast 0 = .ok (.aload_n 0, 1) := by decide +kernel
theorem dX11_rowLeast_1 : decode cX11_rowLeast 1 = .ok (.iload_n 1, 1) := by decide +kernel
theorem dX11_rowLeast_2 : decode cX11_rowLeast 2 = .ok (.bipush 108, 2) := by decide +kernel
theorem dX11_rowLeast_4 : decode cX11_rowLeast 4 = .ok (.invokevirtual 184, 3) := by decide +kernel
theorem dX11_rowLeast_7 : decode cX11_rowLeast 7 = .ok (.ifCond .eq 7, 3) := by decide +kernel
theorem dX11_rowLeast_10 : decode cX11_rowLeast 10 = .ok (.iconst 2, 1) := by decide +kernel
theorem dX11_rowLeast_11 : decode cX11_rowLeast 11 = .ok (.goto 4, 3) := by decide +kernel
theorem dX11_rowLeast_14 : decode cX11_rowLeast 14 = .ok (.iconst 3, 1) := by decide +kernel
theorem dX11_rowLeast_15 : decode cX11_rowLeast 15 = .ok (.ireturn, 1) := by decide +kernel
theorem dX11_rowTells_0 : decode cX11_rowTells 0 = .ok (.aload_n 0, 1) := by decide +kernel
theorem dX11_rowTells_1 : decode cX11_rowTells 1 = .ok (.getfield 193, 3) := by decide +kernel
theorem dX11_rowTells_4 : decode cX11_rowTells 4 = .ok (.istore_n 3, 1) := by decide +kernel
theorem dX11_rowTells_5 : decode cX11_rowTells 5 = .ok (.aload_n 0, 1) := by decide +kernel
theorem dX11_rowTells_6 : decode cX11_rowTells 6 = .ok (.getfield 53, 3) := by decide +kernel
theorem dX11_rowTells_9 : decode cX11_rowTells 9 = .ok (.iload_n 1, 1) := by decide +kernel
theorem dX11_rowTells_10 : decode cX11_rowTells 10 = .ok (.iconst 1, 1) := by decide +kernel
theorem dX11_rowTells_11 : decode cX11_rowTells 11 = .ok (.iadd, 1) := by decide +kernel
theorem dX11_rowTells_12 : decode cX11_rowTells 12 = .ok (.iaload, 1) := by decide +kernel
theorem dX11_rowTells_13 : decode cX11_rowTells 13 = .ok (.bipush 48, 2) := by decide +kernel
theorem dX11_rowTells_15 : decode cX11_rowTells 15 = .ok (.isub, 1) := by decide +kernel
theorem dX11_rowTells_16 : decode cX11_rowTells 16 = .ok (.istore 4, 2) := by decide +kernel
theorem dX11_rowTells_18 : decode cX11_rowTells 18 = .ok (.aload_n 0, 1) := by decide +kernel
theorem dX11_rowTells_19 : decode cX11_rowTells 19 = .ok (.getfield 53, 3) := by decide +kernel
theorem dX11_rowTells_22 : decode cX11_rowTells 22 = .ok (.iload_n 1, 1) := by decide +kernel
theorem dX11_rowTells_23 : decode cX11_rowTells 23 = .ok (.iaload, 1) := by decide +kernel
theorem dX11_rowTells_24 : decode cX11_rowTells 24 = .ok (.bipush 108, 2) := by decide +kernel
theorem dX11_rowTells_26 : decode cX11_rowTells 26 = .ok (.if_icmp .ne 41, 3) := by decide +kernel
theorem dX11_rowTells_29 : decode cX11_rowTells 29 = .ok (.aload_n 0, 1) := by decide +kernel
theorem dX11_rowTells_30 : decode cX11_rowTells 30 = .ok (.getfield 59, 3) := by decide +kernel
theorem dX11_rowTells_33 : decode cX11_rowTells 33 = .ok (.iload_n 3, 1) := by decide +kernel
theorem dX11_rowTells_34 : decode cX11_rowTells 34 = .ok (.iload_n 2, 1) := by decide +kernel
theorem dX11_rowTells_35 : decode cX11_rowTells 35 = .ok (.iload_n 1, 1) := by decide +kernel
theorem dX11_rowTells_36 : decode cX11_rowTells 36 = .ok (.iconst 3, 1) := by decide +kernel
theorem dX11_rowTells_37 : decode cX11_rowTells 37 = .ok (.iadd, 1) := by decide +kernel
theorem dX11_rowTells_38 : decode cX11_rowTells 38 = .ok (.if_icmp .ne 23, 3) := by decide +kernel
theorem dX11_rowTells_41 : decode cX11_rowTells 41 = .ok (.bipush 10, 2) := by decide +kernel
theorem dX11_rowTells_43 : decode cX11_rowTells 43 = .ok (.iload 4, 2) := by decide +kernel
theorem dX11_rowTells_45 : decode cX11_rowTells 45 = .ok (.imul, 1) := by decide +kernel
theorem dX11_rowTells_46 : decode cX11_rowTells 46 = .ok (.aload_n 0, 1) := by decide +kernel
theorem dX11_rowTells_47 : decode cX11_rowTells 47 = .ok (.getfield 53, 3) := by decide +kernel
theorem dX11_rowTells_50 : decode cX11_rowTells 50 = .ok (.iload_n 1, 1) := by decide +kernel
theorem dX11_rowTells_51 : decode cX11_rowTells 51 = .ok (.iconst 2, 1) := by decide +kernel
theorem dX11_rowTells_52 : decode cX11_rowTells 52 = .ok (.iadd, 1) := by decide +kernel
theorem dX11_rowTells_53 : decode cX11_rowTells 53 = .ok (.iaload, 1) := by decide +kernel
theorem dX11_rowTells_54 : decode cX11_rowTells 54 = .ok (.iadd, 1) := by decide +kernel
theorem dX11_rowTells_55 : decode cX11_rowTells 55 = .ok (.bipush 48, 2) := by decide +kernel
theorem dX11_rowTells_57 : decode cX11_rowTells 57 = .ok (.isub, 1) := by decide +kernel
theorem dX11_rowTells_58 : decode cX11_rowTells 58 = .ok (.goto 5, 3) := by decide +kernel
theorem dX11_rowTells_61 : decode cX11_rowTells 61 = .ok (.iload 4, 2) := by decide +kernel
theorem dX11_rowTells_63 : decode cX11_rowTells 63 = .ok (.iastore, 1) := by decide +kernel
theorem dX11_rowTells_64 : decode cX11_rowTells 64 = .ok (.goto 122, 3) := by decide +kernel
theorem dX11_rowTells_67 : decode cX11_rowTells 67 = .ok (.aload_n 0, 1) := by decide +kernel
theorem dX11_rowTells_68 : decode cX11_rowTells 68 = .ok (.getfield 53, 3) := by decide +kernel
theorem dX11_rowTells_71 : decode cX11_rowTells 71 = .ok (.iload_n 1, 1) := by decide +kernel
theorem dX11_rowTells_72 : decode cX11_rowTells 72 = .ok (.iaload, 1) := by decide +kernel
theorem dX11_rowTells_73 : decode cX11_rowTells 73 = .ok (.bipush 119, 2) := by decide +kernel
theorem dX11_rowTells_75 : decode cX11_rowTells 75 = .ok (.if_icmp .ne 29, 3) := by decide +kernel
theorem dX11_rowTells_78 : decode cX11_rowTells 78 = .ok (.aload_n 0, 1) := by decide +kernel
theorem dX11_rowTells_79 : decode cX11_rowTells 79 = .ok (.getfield 62, 3) := by decide +kernel
theorem dX11_rowTells_82 : decode cX11_rowTells 82 = .ok (.bipush 10, 2) := by decide +kernel
theorem dX11_rowTells_84 : decode cX11_rowTells 84 = .ok (.iload_n 3, 1) := by decide +kernel
theorem dX11_rowTells_85 : decode cX11_rowTells 85 = .ok (.imul, 1) := by decide +kernel
theorem dX11_rowTells_86 : decode cX11_rowTells 86 = .ok (.iload 4, 2) := by decide +kernel
theorem dX11_rowTells_88 : decode cX11_rowTells 88 = .ok (.iadd, 1) := by decide +kernel
theorem dX11_rowTells_89 : decode cX11_rowTells 89 = .ok (.aload_n 0, 1) := by decide +kernel
theorem dX11_rowTells_90 : decode cX11_rowTells 90 = .ok (.getfield 53, 3) := by decide +kernel
theorem dX11_rowTells_93 : decode cX11_rowTells 93 = .ok (.iload_n 1, 1) := by decide +kernel
theorem dX11_rowTells_94 : decode cX11_rowTells 94 = .ok (.iconst 2, 1) := by decide +kernel
theorem dX11_rowTells_95 : decode cX11_rowTells 95 = .ok (.iadd, 1) := by decide +kernel
theorem dX11_rowTells_96 : decode cX11_rowTells 96 = .ok (.iaload, 1) := by decide +kernel
theorem dX11_rowTells_97 : decode cX11_rowTells 97 = .ok (.bipush 48, 2) := by decide +kernel
theorem dX11_rowTells_99 : decode cX11_rowTells 99 = .ok (.isub, 1) := by decide +kernel
theorem dX11_rowTells_100 : decode cX11_rowTells 100 = .ok (.iastore, 1) := by decide +kernel
theorem dX11_rowTells_101 : decode cX11_rowTells 101 = .ok (.goto 85, 3) := by decide +kernel
theorem dX11_rowTells_104 : decode cX11_rowTells 104 = .ok (.aload_n 0, 1) := by decide +kernel
theorem dX11_rowTells_105 : decode cX11_rowTells 105 = .ok (.iload_n 1, 1) := by decide +kernel
theorem dX11_rowTells_106 : decode cX11_rowTells 106 = .ok (.iconst 2, 1) := by decide +kernel
theorem dX11_rowTells_107 : decode cX11_rowTells 107 = .ok (.iadd, 1) := by decide +kernel
theorem dX11_rowTells_108 : decode cX11_rowTells 108 = .ok (.invokevirtual 190, 3) := by decide +kernel
theorem dX11_rowTells_111 : decode cX11_rowTells 111 = .ok (.istore 5, 2) := by decide +kernel
theorem dX11_rowTells_113 : decode cX11_rowTells 113 = .ok (.iconst 0, 1) := by decide +kernel
theorem dX11_rowTells_114 : decode cX11_rowTells 114 = .ok (.istore 6, 2) := by decide +kernel
theorem dX11_rowTells_116 : decode cX11_rowTells 116 = .ok (.iload 6, 2) := by decide +kernel
theorem dX11_rowTells_118 : decode cX11_rowTells 118 = .ok (.iconst 4, 1) := by decide +kernel
theorem dX11_rowTells_119 : decode cX11_rowTells 119 = .ok (.if_icmp .ge 67, 3) := by decide +kernel
theorem dX11_rowTells_122 : decode cX11_rowTells 122 = .ok (.iload 5, 2) := by decide +kernel
theorem dX11_rowTells_124 : decode cX11_rowTells 124 = .ok (.ifCond .eq 22, 3) := by decide +kernel
theorem dX11_rowTells_127 : decode cX11_rowTells 127 = .ok (.iload 5, 2) := by decide +kernel
theorem dX11_rowTells_129 : decode cX11_rowTells 129 = .ok (.iload 6, 2) := by decide +kernel
theorem dX11_rowTells_131 : decode cX11_rowTells 131 = .ok (.if_icmp .eq 15, 3) := by decide +kernel
theorem dX11_rowTells_134 : decode cX11_rowTells 134 = .ok (.iload 5, 2) := by decide +kernel
theorem dX11_rowTells_136 : decode cX11_rowTells 136 = .ok (.iconst 1, 1) := by decide +kernel
theorem dX11_rowTells_137 : decode cX11_rowTells 137 = .ok (.if_icmp .ne 13, 3) := by decide +kernel
theorem dX11_rowTells_140 : decode cX11_rowTells 140 = .ok (.iload 6, 2) := by decide +kernel
theorem dX11_rowTells_142 : decode cX11_rowTells 142 = .ok (.iconst 2, 1) := by decide +kernel
theorem dX11_rowTells_143 : decode cX11_rowTells 143 = .ok (.if_icmp .ne 7, 3) := by decide +kernel
theorem dX11_rowTells_146 : decode cX11_rowTells 146 = .ok (.iconst 1, 1) := by decide +kernel
theorem dX11_rowTells_147 : decode cX11_rowTells 147 = .ok (.goto 4, 3) := by decide +kernel
theorem dX11_rowTells_150 : decode cX11_rowTells 150 = .ok (.iconst 0, 1) := by decide +kernel
theorem dX11_rowTells_151 : decode cX11_rowTells 151 = .ok (.istore 7, 2) := by decide +kernel
theorem dX11_rowTells_153 : decode cX11_rowTells 153 = .ok (.aload_n 0, 1) := by decide +kernel
theorem dX11_rowTells_154 : decode cX11_rowTells 154 = .ok (.getfield 65, 3) := by decide +kernel
theorem dX11_rowTells_157 : decode cX11_rowTells 157 = .ok (.iconst 4, 1) := by decide +kernel
theorem dX11_rowTells_158 : decode cX11_rowTells 158 = .ok (.iload_n 3, 1) := by decide +kernel
theorem dX11_rowTells_159 : decode cX11_rowTells 159 = .ok (.imul, 1) := by decide +kernel
theorem dX11_rowTells_160 : decode cX11_rowTells 160 = .ok (.iload 6, 2) := by decide +kernel
theorem dX11_rowTells_162 : decode cX11_rowTells 162 = .ok (.iadd, 1) := by decide +kernel
theorem dX11_rowTells_163 : decode cX11_rowTells 163 = .ok (.dup2, 1) := by decide +kernel
theorem dX11_rowTells_164 : decode cX11_rowTells 164 = .ok (.iaload, 1) := by decide +kernel
theorem dX11_rowTells_165 : decode cX11_rowTells 165 = .ok (.iload 7, 2) := by decide +kernel
theorem dX11_rowTells_167 : decode cX11_rowTells 167 = .ok (.ifCond .eq 10, 3) := by decide +kernel
theorem dX11_rowTells_170 : decode cX11_rowTells 170 = .ok (.iconst 1, 1) := by decide +kernel
theorem dX11_rowTells_171 : decode cX11_rowTells 171 = .ok (.iload 4, 2) := by decide +kernel
theorem dX11_rowTells_173 : decode cX11_rowTells 173 = .ok (.ishl, 1) := by decide +kernel
theorem dX11_rowTells_174 : decode cX11_rowTells 174 = .ok (.goto 4, 3) := by decide +kernel
theorem dX11_rowTells_177 : decode cX11_rowTells 177 = .ok (.iconst 0, 1) := by decide +kernel
theorem dX11_rowTells_178 : decode cX11_rowTells 178 = .ok (.ior, 1) := by decide +kernel
theorem dX11_rowTells_179 : decode cX11_rowTells 179 = .ok (.iastore, 1) := by decide +kernel
theorem dX11_rowTells_180 : decode cX11_rowTells 180 = .ok (.iinc 6 1, 3) := by decide +kernel
theorem dX11_rowTells_183 : decode cX11_rowTells 183 = .ok (.goto (-67), 3) := by decide +kernel
theorem dX11_rowTells_186 : decode cX11_rowTells 186 = .ok (.return_, 1) := by decide +kernel
theorem dX11_readAll_0 : decode cX11_readAll 0 = .ok (.aload_n 0, 1) := by decide +kernel
theorem dX11_readAll_1 : decode cX11_readAll 1 = .ok (.getfield 193, 3) := by decide +kernel
theorem dX11_readAll_4 : decode cX11_readAll 4 = .ok (.istore_n 1, 1) := by decide +kernel
theorem dX11_readAll_5 : decode cX11_readAll 5 = .ok (.aload_n 0, 1) := by decide +kernel
theorem dX11_readAll_6 : decode cX11_readAll 6 = .ok (.getfield 59, 3) := by decide +kernel
theorem dX11_readAll_9 : decode cX11_readAll 9 = .ok (.iload_n 1, 1) := by decide +kernel
theorem dX11_readAll_10 : decode cX11_readAll 10 = .ok (.bipush 99, 2) := by decide +kernel
theorem dX11_readAll_12 : decode cX11_readAll 12 = .ok (.iastore, 1) := by decide +kernel
theorem dX11_readAll_13 : decode cX11_readAll 13 = .ok (.iconst 0, 1) := by decide +kernel
theorem dX11_readAll_14 : decode cX11_readAll 14 = .ok (.istore_n 2, 1) := by decide +kernel
theorem dX11_readAll_15 : decode cX11_readAll 15 = .ok (.iload_n 2, 1) := by decide +kernel
theorem dX11_readAll_16 : decode cX11_readAll 16 = .ok (.bipush 10, 2) := by decide +kernel
theorem dX11_readAll_18 : decode cX11_readAll 18 = .ok (.if_icmp .ge 21, 3) := by decide +kernel
theorem dX11_readAll_21 : decode cX11_readAll 21 = .ok (.aload_n 0, 1) := by decide +kernel
theorem dX11_readAll_22 : decode cX11_readAll 22 = .ok (.getfield 62, 3) := by decide +kernel
theorem dX11_readAll_25 : decode cX11_readAll 25 = .ok (.bipush 10, 2) := by decide +kernel
theorem dX11_readAll_27 : decode cX11_readAll 27 = .ok (.iload_n 1, 1) := by decide +kernel
theorem dX11_readAll_28 : decode cX11_readAll 28 = .ok (.imul, 1) := by decide +kernel
theorem dX11_readAll_29 : decode cX11_readAll 29 = .ok (.iload_n 2, 1) := by decide +kernel
theorem dX11_readAll_30 : decode cX11_readAll 30 = .ok (.iadd, 1) := by decide +kernel
theorem dX11_readAll_31 : decode cX11_readAll 31 = .ok (.iconst 1, 1) := by decide +kernel
theorem dX11_readAll_32 : decode cX11_readAll 32 = .ok (.iastore, 1) := by decide +kernel
theorem dX11_readAll_33 : decode cX11_readAll 33 = .ok (.iinc 2 1, 3) := by decide +kernel
theorem dX11_readAll_36 : decode cX11_readAll 36 = .ok (.goto (-21), 3) := by decide +kernel
theorem dX11_readAll_39 : decode cX11_readAll 39 = .ok (.iconst 0, 1) := by decide +kernel
theorem dX11_readAll_40 : decode cX11_readAll 40 = .ok (.istore_n 2, 1) := by decide +kernel
theorem dX11_readAll_41 : decode cX11_readAll 41 = .ok (.iload_n 2, 1) := by decide +kernel
theorem dX11_readAll_42 : decode cX11_readAll 42 = .ok (.iconst 4, 1) := by decide +kernel
theorem dX11_readAll_43 : decode cX11_readAll 43 = .ok (.if_icmp .ge 20, 3) := by decide +kernel
theorem dX11_readAll_46 : decode cX11_readAll 46 = .ok (.aload_n 0, 1) := by decide +kernel
theorem dX11_readAll_47 : decode cX11_readAll 47 = .ok (.getfield 65, 3) := by decide +kernel
theorem dX11_readAll_50 : decode cX11_readAll 50 = .ok (.iconst 4, 1) := by decide +kernel
theorem dX11_readAll_51 : decode cX11_readAll 51 = .ok (.iload_n 1, 1) := by decide +kernel
theorem dX11_readAll_52 : decode cX11_readAll 52 = .ok (.imul, 1) := by decide +kernel
theorem dX11_readAll_53 : decode cX11_readAll 53 = .ok (.iload_n 2, 1) := by decide +kernel
theorem dX11_readAll_54 : decode cX11_readAll 54 = .ok (.iadd, 1) := by decide +kernel
theorem dX11_readAll_55 : decode cX11_readAll 55 = .ok (.iconst 0, 1) := by decide +kernel
theorem dX11_readAll_56 : decode cX11_readAll 56 = .ok (.iastore, 1) := by decide +kernel
theorem dX11_readAll_57 : decode cX11_readAll 57 = .ok (.iinc 2 1, 3) := by decide +kernel
theorem dX11_readAll_60 : decode cX11_readAll 60 = .ok (.goto (-19), 3) := by decide +kernel
theorem dX11_readAll_63 : decode cX11_readAll 63 = .ok (.iconst 0, 1) := by decide +kernel
theorem dX11_readAll_64 : decode cX11_readAll 64 = .ok (.istore_n 2, 1) := by decide +kernel
theorem dX11_readAll_65 : decode cX11_readAll 65 = .ok (.iload_n 2, 1) := by decide +kernel
theorem dX11_readAll_66 : decode cX11_readAll 66 = .ok (.aload_n 0, 1) := by decide +kernel
theorem dX11_readAll_67 : decode cX11_readAll 67 = .ok (.getfield 181, 3) := by decide +kernel
theorem dX11_readAll_70 : decode cX11_readAll 70 = .ok (.if_icmp .ge 45, 3) := by decide +kernel
theorem dX11_readAll_73 : decode cX11_readAll 73 = .ok (.aload_n 0, 1) := by decide +kernel
theorem dX11_readAll_74 : decode cX11_readAll 74 = .ok (.iload_n 2, 1) := by decide +kernel
theorem dX11_readAll_75 : decode cX11_readAll 75 = .ok (.invokevirtual 196, 3) := by decide +kernel
theorem dX11_readAll_78 : decode cX11_readAll 78 = .ok (.istore_n 3, 1) := by decide +kernel
theorem dX11_readAll_79 : decode cX11_readAll 79 = .ok (.iload_n 3, 1) := by decide +kernel
theorem dX11_readAll_80 : decode cX11_readAll 80 = .ok (.iload_n 2, 1) := by decide +kernel
theorem dX11_readAll_81 : decode cX11_readAll 81 = .ok (.aload_n 0, 1) := by decide +kernel
theorem dX11_readAll_82 : decode cX11_readAll 82 = .ok (.iload_n 2, 1) := by decide +kernel
theorem dX11_readAll_83 : decode cX11_readAll 83 = .ok (.invokevirtual 199, 3) := by decide +kernel
theorem dX11_readAll_86 : decode cX11_readAll 86 = .ok (.iadd, 1) := by decide +kernel
theorem dX11_readAll_87 : decode cX11_readAll 87 = .ok (.if_icmp .lt 13, 3) := by decide +kernel
theorem dX11_readAll_90 : decode cX11_readAll 90 = .ok (.aload_n 0, 1) := by decide +kernel
theorem dX11_readAll_91 : decode cX11_readAll 91 = .ok (.iload_n 3, 1) := by decide +kernel
theorem dX11_readAll_92 : decode cX11_readAll 92 = .ok (.bipush 59, 2) := by decide +kernel
theorem dX11_readAll_94 : decode cX11_readAll 94 = .ok (.invokevirtual 184, 3) := by decide +kernel
theorem dX11_readAll_97 : decode cX11_readAll 97 = .ok (.ifCond .ne 5, 3) := by decide +kernel
theorem dX11_readAll_100 : decode cX11_readAll 100 = .ok (.iload_n 3, 1) := by decide +kernel
theorem dX11_readAll_101 : decode cX11_readAll 101 = .ok (.ireturn, 1) := by decide +kernel
theorem dX11_readAll_102 : decode cX11_readAll 102 = .ok (.aload_n 0, 1) := by decide +kernel
theorem dX11_readAll_103 : decode cX11_readAll 103 = .ok (.iload_n 2, 1) := by decide +kernel
theorem dX11_readAll_104 : decode cX11_readAll 104 = .ok (.iload_n 3, 1) := by decide +kernel
theorem dX11_readAll_105 : decode cX11_readAll 105 = .ok (.invokevirtual 202, 3) := by decide +kernel
theorem dX11_readAll_108 : decode cX11_readAll 108 = .ok (.iload_n 3, 1) := by decide +kernel
theorem dX11_readAll_109 : decode cX11_readAll 109 = .ok (.iconst 1, 1) := by decide +kernel
theorem dX11_readAll_110 : decode cX11_readAll 110 = .ok (.iadd, 1) := by decide +kernel
theorem dX11_readAll_111 : decode cX11_readAll 111 = .ok (.istore_n 2, 1) := by decide +kernel
theorem dX11_readAll_112 : decode cX11_readAll 112 = .ok (.goto (-47), 3) := by decide +kernel
theorem dX11_readAll_115 : decode cX11_readAll 115 = .ok (.iconst (-1), 1) := by decide +kernel
theorem dX11_readAll_116 : decode cX11_readAll 116 = .ok (.ireturn, 1) := by decide +kernel
theorem dX11_treaty_0 : decode cX11_treaty 0 = .ok (.iload_n 1, 1) := by decide +kernel
theorem dX11_treaty_1 : decode cX11_treaty 1 = .ok (.invokestatic 159, 3) := by decide +kernel
theorem dX11_treaty_4 : decode cX11_treaty 4 = .ok (.ifCond .ne 9, 3) := by decide +kernel
theorem dX11_treaty_7 : decode cX11_treaty 7 = .ok (.aload_n 0, 1) := by decide +kernel
theorem dX11_treaty_8 : decode cX11_treaty 8 = .ok (.iconst 1, 1) := by decide +kernel
theorem dX11_treaty_9 : decode cX11_treaty 9 = .ok (.invokevirtual 137, 3) := by decide +kernel
theorem dX11_treaty_12 : decode cX11_treaty 12 = .ok (.ireturn, 1) := by decide +kernel
theorem dX11_treaty_13 : decode cX11_treaty 13 = .ok (.aload_n 0, 1) := by decide +kernel
theorem dX11_treaty_14 : decode cX11_treaty 14 = .ok (.getfield 193, 3) := by decide +kernel
theorem dX11_treaty_17 : decode cX11_treaty 17 = .ok (.bipush 6, 2) := by decide +kernel
theorem dX11_treaty_19 : decode cX11_treaty 19 = .ok (.if_icmp .ne 9, 3) := by decide +kernel
theorem dX11_treaty_22 : decode cX11_treaty 22 = .ok (.aload_n 0, 1) := by decide +kernel
theorem dX11_treaty_23 : decode cX11_treaty 23 = .ok (.iconst 4, 1) := by decide +kernel
theorem dX11_treaty_24 : decode cX11_treaty 24 = .ok (.invokevirtual 137, 3) := by decide +kernel
theorem dX11_treaty_27 : decode cX11_treaty 27 = .ok (.ireturn, 1) := by decide +kernel
theorem dX11_treaty_28 : decode cX11_treaty 28 = .ok (.aload_n 0, 1) := by decide +kernel
theorem dX11_treaty_29 : decode cX11_treaty 29 = .ok (.invokevirtual 206, 3) := by decide +kernel
theorem dX11_treaty_32 : decode cX11_treaty 32 = .ok (.istore_n 2, 1) := by decide +kernel
theorem dX11_treaty_33 : decode cX11_treaty 33 = .ok (.aload_n 0, 1) := by decide +kernel
theorem dX11_treaty_34 : decode cX11_treaty 34 = .ok (.iconst 0, 1) := by decide +kernel
theorem dX11_treaty_35 : decode cX11_treaty 35 = .ok (.putfield 181, 3) := by decide +kernel
theorem dX11_treaty_38 : decode cX11_treaty 38 = .ok (.iload_n 2, 1) := by decide +kernel
theorem dX11_treaty_39 : decode cX11_treaty 39 = .ok (.ifCond .lt 8, 3) := by decide +kernel
theorem dX11_treaty_42 : decode cX11_treaty 42 = .ok (.bipush (-10), 2) := by decide +kernel
theorem dX11_treaty_44 : decode cX11_treaty 44 = .ok (.iload_n 2, 1) := by decide +kernel
theorem dX11_treaty_45 : decode cX11_treaty 45 = .ok (.isub, 1) := by decide +kernel
theorem dX11_treaty_46 : decode cX11_treaty 46 = .ok (.ireturn, 1) := by decide +kernel
theorem dX11_treaty_47 : decode cX11_treaty 47 = .ok (.aload_n 0, 1) := by decide +kernel
theorem dX11_treaty_48 : decode cX11_treaty 48 = .ok (.getfield 56, 3) := by decide +kernel
theorem dX11_treaty_51 : decode cX11_treaty 51 = .ok (.aload_n 0, 1) := by decide +kernel
theorem dX11_treaty_52 : decode cX11_treaty 52 = .ok (.getfield 193, 3) := by decide +kernel
theorem dX11_treaty_55 : decode cX11_treaty 55 = .ok (.iload_n 1, 1) := by decide +kernel
theorem dX11_treaty_56 : decode cX11_treaty 56 = .ok (.iastore, 1) := by decide +kernel
theorem dX11_treaty_57 : decode cX11_treaty 57 = .ok (.aload_n 0, 1) := by decide +kernel
theorem dX11_treaty_58 : decode cX11_treaty 58 = .ok (.dup, 1) := by decide +kernel
theorem dX11_treaty_59 : decode cX11_treaty 59 = .ok (.getfield 193, 3) := by decide +kernel
theorem dX11_treaty_62 : decode cX11_treaty 62 = .ok (.iconst 1, 1) := by decide +kernel
theorem dX11_treaty_63 : decode cX11_treaty 63 = .ok (.iadd, 1) := by decide +kernel
theorem dX11_treaty_64 : decode cX11_treaty 64 = .ok (.putfield 193, 3) := by decide +kernel
theorem dX11_treaty_67 : decode cX11_treaty 67 = .ok (.aload_n 0, 1) := by decide +kernel
theorem dX11_treaty_68 : decode cX11_treaty 68 = .ok (.getfield 193, 3) := by decide +kernel
theorem dX11_treaty_71 : decode cX11_treaty 71 = .ok (.ireturn, 1) := by decide +kernel
theorem dX11_forceOn_0 : decode cX11_forceOn 0 = .ok (.aload_n 0, 1) := by decide +kernel
theorem dX11_forceOn_1 : decode cX11_forceOn 1 = .ok (.getfield 193, 3) := by decide +kernel
theorem dX11_forceOn_4 : decode cX11_forceOn 4 = .ok (.iconst 1, 1) := by decide +kernel
theorem dX11_forceOn_5 : decode cX11_forceOn 5 = .ok (.isub, 1) := by decide +kernel
theorem dX11_forceOn_6 : decode cX11_forceOn 6 = .ok (.istore_n 2, 1) := by decide +kernel
theorem dX11_forceOn_7 : decode cX11_forceOn 7 = .ok (.iload_n 2, 1) := by decide +kernel
theorem dX11_forceOn_8 : decode cX11_forceOn 8 = .ok (.ifCond .lt 19, 3) := by decide +kernel
theorem dX11_forceOn_11 : decode cX11_forceOn 11 = .ok (.aload_n 0, 1) := by decide +kernel
theorem dX11_forceOn_12 : decode cX11_forceOn 12 = .ok (.getfield 56, 3) := by decide +kernel
theorem dX11_forceOn_15 : decode cX11_forceOn 15 = .ok (.iload_n 2, 1) := by decide +kernel
theorem dX11_forceOn_16 : decode cX11_forceOn 16 = .ok (.iaload, 1) := by decide +kernel
theorem dX11_forceOn_17 : decode cX11_forceOn 17 = .ok (.iload_n 1, 1) := by decide +kernel
theorem dX11_forceOn_18 : decode cX11_forceOn 18 = .ok (.if_icmp .le 9, 3) := by decide +kernel
theorem dX11_forceOn_21 : decode cX11_forceOn 21 = .ok (.iinc 2 (-1), 3) := by decide +kernel
theorem dX11_forceOn_24 : decode cX11_forceOn 24 = .ok (.goto (-17), 3) := by decide +kernel
theorem dX11_forceOn_27 : decode cX11_forceOn 27 = .ok (.iload_n 2, 1) := by decide +kernel
theorem dX11_forceOn_28 : decode cX11_forceOn 28 = .ok (.ireturn, 1) := by decide +kernel
theorem dX11_says_0 : decode cX11_says 0 = .ok (.iload_n 1, 1) := by decide +kernel
theorem dX11_says_1 : decode cX11_says 1 = .ok (.invokestatic 159, 3) := by decide +kernel
theorem dX11_says_4 : decode cX11_says 4 = .ok (.ifCond .eq 29, 3) := by decide +kernel
theorem dX11_says_7 : decode cX11_says 7 = .ok (.iload_n 2, 1) := by decide +kernel
theorem dX11_says_8 : decode cX11_says 8 = .ok (.ifCond .eq 31, 3) := by decide +kernel
theorem dX11_says_11 : decode cX11_says 11 = .ok (.iload_n 2, 1) := by decide +kernel
theorem dX11_says_12 : decode cX11_says 12 = .ok (.bipush 10, 2) := by decide +kernel
theorem dX11_says_14 : decode cX11_says 14 = .ok (.bipush 19, 2) := by decide +kernel
theorem dX11_says_16 : decode cX11_says 16 = .ok (.invokestatic 124, 3) := by decide +kernel
theorem dX11_says_19 : decode cX11_says 19 = .ok (.ifCond .ne 20, 3) := by decide +kernel
theorem dX11_says_22 : decode cX11_says 22 = .ok (.iload_n 2, 1) := by decide +kernel
theorem dX11_says_23 : decode cX11_says 23 = .ok (.bipush 20, 2) := by decide +kernel
theorem dX11_says_25 : decode cX11_says 25 = .ok (.bipush 23, 2) := by decide +kernel
theorem dX11_says_27 : decode cX11_says 27 = .ok (.invokestatic 124, 3) := by decide +kernel
theorem dX11_says_30 : decode cX11_says 30 = .ok (.ifCond .ne 9, 3) := by decide +kernel
theorem dX11_says_33 : decode cX11_says 33 = .ok (.aload_n 0, 1) := by decide +kernel
theorem dX11_says_34 : decode cX11_says 34 = .ok (.iconst 1, 1) := by decide +kernel
theorem dX11_says_35 : decode cX11_says 35 = .ok (.invokevirtual 137, 3) := by decide +kernel
theorem dX11_says_38 : decode cX11_says 38 = .ok (.ireturn, 1) := by decide +kernel
theorem dX11_says_39 : decode cX11_says 39 = .ok (.aload_n 0, 1) := by decide +kernel
theorem dX11_says_40 : decode cX11_says 40 = .ok (.iload_n 1, 1) := by decide +kernel
theorem dX11_says_41 : decode cX11_says 41 = .ok (.invokevirtual 210, 3) := by decide +kernel
theorem dX11_says_44 : decode cX11_says 44 = .ok (.istore_n 3, 1) := by decide +kernel
theorem dX11_says_45 : decode cX11_says 45 = .ok (.iload_n 3, 1) := by decide +kernel
theorem dX11_says_46 : decode cX11_says 46 = .ok (.ifCond .ge 9, 3) := by decide +kernel
theorem dX11_says_49 : decode cX11_says 49 = .ok (.aload_n 0, 1) := by decide +kernel
theorem dX11_says_50 : decode cX11_says 50 = .ok (.iconst 2, 1) := by decide +kernel
theorem dX11_says_51 : decode cX11_says 51 = .ok (.invokevirtual 137, 3) := by decide +kernel
theorem dX11_says_54 : decode cX11_says 54 = .ok (.ireturn, 1) := by decide +kernel
theorem dX11_says_55 : decode cX11_says 55 = .ok (.iload_n 2, 1) := by decide +kernel
theorem dX11_says_56 : decode cX11_says 56 = .ok (.ifCond .ne 12, 3) := by decide +kernel
theorem dX11_says_59 : decode cX11_says 59 = .ok (.aload_n 0, 1) := by decide +kernel
theorem dX11_says_60 : decode cX11_says 60 = .ok (.getfield 59, 3) := by decide +kernel
theorem dX11_says_63 : decode cX11_says 63 = .ok (.iload_n 3, 1) := by decide +kernel
theorem dX11_says_64 : decode cX11_says 64 = .ok (.iaload, 1) := by decide +kernel
theorem dX11_says_65 : decode cX11_says 65 = .ok (.goto 39, 3) := by decide +kernel
theorem dX11_says_68 : decode cX11_says 68 = .ok (.iload_n 2, 1) := by decide +kernel
theorem dX11_says_69 : decode cX11_says 69 = .ok (.bipush 20, 2) := by decide +kernel
theorem dX11_says_71 : decode cX11_says 71 = .ok (.if_icmp .ge 20, 3) := by decide +kernel
theorem dX11_says_74 : decode cX11_says 74 = .ok (.aload_n 0, 1) := by decide +kernel
theorem dX11_says_75 : decode cX11_says 75 = .ok (.getfield 62, 3) := by decide +kernel
theorem dX11_says_78 : decode cX11_says 78 = .ok (.bipush 10, 2) := by decide +kernel
theorem dX11_says_80 : decode cX11_says 80 = .ok (.iload_n 3, 1) := by decide +kernel
theorem dX11_says_81 : decode cX11_says 81 = .ok (.imul, 1) := by decide +kernel
theorem dX11_says_82 : decode cX11_says 82 = .ok (.iload_n 2, 1) := by decide +kernel
theorem dX11_says_83 : decode cX11_says 83 = .ok (.iadd, 1) := by decide +kernel
theorem dX11_says_84 : decode cX11_says 84 = .ok (.bipush 10, 2) := by decide +kernel
theorem dX11_says_86 : decode cX11_says 86 = .ok (.isub, 1) := by decide +kernel
theorem dX11_says_87 : decode cX11_says 87 = .ok (.iaload, 1) := by decide +kernel
theorem dX11_says_88 : decode cX11_says 88 = .ok (.goto 16, 3) := by decide +kernel
theorem dX11_says_91 : decode cX11_says 91 = .ok (.aload_n 0, 1) := by decide +kernel
theorem dX11_says_92 : decode cX11_says 92 = .ok (.getfield 65, 3) := by decide +kernel
theorem dX11_says_95 : decode cX11_says 95 = .ok (.iconst 4, 1) := by decide +kernel
theorem dX11_says_96 : decode cX11_says 96 = .ok (.iload_n 3, 1) := by decide +kernel
theorem dX11_says_97 : decode cX11_says 97 = .ok (.imul, 1) := by decide +kernel
theorem dX11_says_98 : decode cX11_says 98 = .ok (.iload_n 2, 1) := by decide +kernel
theorem dX11_says_99 : decode cX11_says 99 = .ok (.iadd, 1) := by decide +kernel
theorem dX11_says_100 : decode cX11_says 100 = .ok (.bipush 20, 2) := by decide +kernel
theorem dX11_says_102 : decode cX11_says 102 = .ok (.isub, 1) := by decide +kernel
theorem dX11_says_103 : decode cX11_says 103 = .ok (.iaload, 1) := by decide +kernel
theorem dX11_says_104 : decode cX11_says 104 = .ok (.ireturn, 1) := by decide +kernel
theorem dX11_wouldHold_0 : decode cX11_wouldHold 0 = .ok (.aload_n 0, 1) := by decide +kernel
theorem dX11_wouldHold_1 : decode cX11_wouldHold 1 = .ok (.aload_n 0, 1) := by decide +kernel
theorem dX11_wouldHold_2 : decode cX11_wouldHold 2 = .ok (.getfield 134, 3) := by decide +kernel
theorem dX11_wouldHold_5 : decode cX11_wouldHold 5 = .ok (.invokevirtual 210, 3) := by decide +kernel
theorem dX11_wouldHold_8 : decode cX11_wouldHold 8 = .ok (.istore_n 3, 1) := by decide +kernel
theorem dX11_wouldHold_9 : decode cX11_wouldHold 9 = .ok (.iload_n 3, 1) := by decide +kernel
theorem dX11_wouldHold_10 : decode cX11_wouldHold 10 = .ok (.ifCond .ge 5, 3) := by decide +kernel
theorem dX11_wouldHold_13 : decode cX11_wouldHold 13 = .ok (.iconst 0, 1) := by decide +kernel
theorem dX11_wouldHold_14 : decode cX11_wouldHold 14 = .ok (.ireturn, 1) := by decide +kernel
theorem dX11_wouldHold_15 : decode cX11_wouldHold 15 = .ok (.iconst 0, 1) := by decide +kernel
theorem dX11_wouldHold_16 : decode cX11_wouldHold 16 = .ok (.istore 4, 2) := by decide +kernel
theorem dX11_wouldHold_18 : decode cX11_wouldHold 18 = .ok (.iconst 0, 1) := by decide +kernel
theorem dX11_wouldHold_19 : decode cX11_wouldHold 19 = .ok (.istore 5, 2) := by decide +kernel
theorem dX11_wouldHold_21 : decode cX11_wouldHold 21 = .ok (.iload 5, 2) := by decide +kernel
theorem dX11_wouldHold_23 : decode cX11_wouldHold 23 = .ok (.bipush 10, 2) := by decide +kernel
theorem dX11_wouldHold_25 : decode cX11_wouldHold 25 = .ok (.if_icmp .ge 33, 3) := by decide +kernel
theorem dX11_wouldHold_28 : decode cX11_wouldHold 28 = .ok (.iload 4, 2) := by decide +kernel
theorem dX11_wouldHold_30 : decode cX11_wouldHold 30 = .ok (.iload_n 2, 1) := by decide +kernel
theorem dX11_wouldHold_31 : decode cX11_wouldHold 31 = .ok (.iload 5, 2) := by decide +kernel
theorem dX11_wouldHold_33 : decode cX11_wouldHold 33 = .ok (.ishr, 1) := by decide +kernel
theorem dX11_wouldHold_34 : decode cX11_wouldHold 34 = .ok (.iconst 1, 1) := by decide +kernel
theorem dX11_wouldHold_35 : decode cX11_wouldHold 35 = .ok (.iand, 1) := by decide +kernel
theorem dX11_wouldHold_36 : decode cX11_wouldHold 36 = .ok (.aload_n 0, 1) := by decide +kernel
theorem dX11_wouldHold_37 : decode cX11_wouldHold 37 = .ok (.getfield 62, 3) := by decide +kernel
theorem dX11_wouldHold_40 : decode cX11_wouldHold 40 = .ok (.bipush 10, 2) := by decide +kernel
theorem dX11_wouldHold_42 : decode cX11_wouldHold 42 = .ok (.iload_n 3, 1) := by decide +kernel
theorem dX11_wouldHold_43 : decode cX11_wouldHold 43 = .ok (.imul, 1) := by decide +kernel
theorem dX11_wouldHold_44 : decode cX11_wouldHold 44 = .ok (.iload 5, 2) := by decide +kernel
theorem dX11_wouldHold_46 : decode cX11_wouldHold 46 = .ok (.iadd, 1) := by decide +kernel
theorem dX11_wouldHold_47 : decode cX11_wouldHold 47 = .ok (.iaload, 1) := by decide +kernel
theorem dX11_wouldHold_48 : decode cX11_wouldHold 48 = .ok (.imul, 1) := by decide +kernel
theorem dX11_wouldHold_49 : decode cX11_wouldHold 49 = .ok (.iadd, 1) := by decide +kernel
theorem dX11_wouldHold_50 : decode cX11_wouldHold 50 = .ok (.istore 4, 2) := by decide +kernel
theorem dX11_wouldHold_52 : decode cX11_wouldHold 52 = .ok (.iinc 5 1, 3) := by decide +kernel
theorem dX11_wouldHold_55 : decode cX11_wouldHold 55 = .ok (.goto (-34), 3) := by decide +kernel
theorem dX11_wouldHold_58 : decode cX11_wouldHold 58 = .ok (.aload_n 0, 1) := by decide +kernel
theorem dX11_wouldHold_59 : decode cX11_wouldHold 59 = .ok (.getfield 65, 3) := by decide +kernel
theorem dX11_wouldHold_62 : decode cX11_wouldHold 62 = .ok (.iconst 4, 1) := by decide +kernel
theorem dX11_wouldHold_63 : decode cX11_wouldHold 63 = .ok (.iload_n 3, 1) := by decide +kernel
theorem dX11_wouldHold_64 : decode cX11_wouldHold 64 = .ok (.imul, 1) := by decide +kernel
theorem dX11_wouldHold_65 : decode cX11_wouldHold 65 = .ok (.aload_n 0, 1) := by decide +kernel
theorem dX11_wouldHold_66 : decode cX11_wouldHold 66 = .ok (.getfield 7, 3) := by decide +kernel
theorem dX11_wouldHold_69 : decode cX11_wouldHold 69 = .ok (.iload_n 1, 1) := by decide +kernel
theorem dX11_wouldHold_70 : decode cX11_wouldHold 70 = .ok (.iaload, 1) := by decide +kernel
theorem dX11_wouldHold_71 : decode cX11_wouldHold 71 = .ok (.iadd, 1) := by decide +kernel
theorem dX11_wouldHold_72 : decode cX11_wouldHold 72 = .ok (.iaload, 1) := by decide +kernel
theorem dX11_wouldHold_73 : decode cX11_wouldHold 73 = .ok (.iload_n 2, 1) := by decide +kernel
theorem dX11_wouldHold_74 : decode cX11_wouldHold 74 = .ok (.iand, 1) := by decide +kernel
theorem dX11_wouldHold_75 : decode cX11_wouldHold 75 = .ok (.ifCond .ne 14, 3) := by decide +kernel
theorem dX11_wouldHold_78 : decode cX11_wouldHold 78 = .ok (.iload 4, 2) := by decide +kernel
theorem dX11_wouldHold_80 : decode cX11_wouldHold 80 = .ok (.aload_n 0, 1) := by decide +kernel
theorem dX11_wouldHold_81 : decode cX11_wouldHold 81 = .ok (.getfield 59, 3) := by decide +kernel
theorem dX11_wouldHold_84 : decode cX11_wouldHold 84 = .ok (.iload_n 3, 1) := by decide +kernel
theorem dX11_wouldHold_85 : decode cX11_wouldHold 85 = .ok (.iaload, 1) := by decide +kernel
theorem dX11_wouldHold_86 : decode cX11_wouldHold 86 = .ok (.if_icmp .lt 7, 3) := by decide +kernel
theorem dX11_wouldHold_89 : decode cX11_wouldHold 89 = .ok (.iconst 1, 1) := by decide +kernel
theorem dX11_wouldHold_90 : decode cX11_wouldHold 90 = .ok (.goto 4, 3) := by decide +kernel
theorem dX11_wouldHold_93 : decode cX11_wouldHold 93 = .ok (.iconst 0, 1) := by decide +kernel
theorem dX11_wouldHold_94 : decode cX11_wouldHold 94 = .ok (.ireturn, 1) := by decide +kernel
theorem dX11_shipOf_0 : decode cX11_shipOf 0 = .ok (.aload_n 0, 1) := by decide +kernel
theorem dX11_shipOf_1 : decode cX11_shipOf 1 = .ok (.getfield 37, 3) := by decide +kernel
theorem dX11_shipOf_4 : decode cX11_shipOf 4 = .ok (.aload_n 0, 1) := by decide +kernel
theorem dX11_shipOf_5 : decode cX11_shipOf 5 = .ok (.getfield 68, 3) := by decide +kernel
theorem dX11_shipOf_8 : decode cX11_shipOf 8 = .ok (.iload_n 1, 1) := by decide +kernel
theorem dX11_shipOf_9 : decode cX11_shipOf 9 = .ok (.iaload, 1) := by decide +kernel
theorem dX11_shipOf_10 : decode cX11_shipOf 10 = .ok (.iaload, 1) := by decide +kernel
theorem dX11_shipOf_11 : decode cX11_shipOf 11 = .ok (.ireturn, 1) := by decide +kernel
theorem dX11_ban_0 : decode cX11_ban 0 = .ok (.aload_n 0, 1) := by decide +kernel
theorem dX11_ban_1 : decode cX11_ban 1 = .ok (.iconst 0, 1) := by decide +kernel
theorem dX11_ban_2 : decode cX11_ban 2 = .ok (.aload_n 0, 1) := by decide +kernel
theorem dX11_ban_3 : decode cX11_ban 3 = .ok (.iload_n 1, 1) := by decide +kernel
theorem dX11_ban_4 : decode cX11_ban 4 = .ok (.iconst 1, 1) := by decide +kernel
theorem dX11_ban_5 : decode cX11_ban 5 = .ok (.aload_n 0, 1) := by decide +kernel
theorem dX11_ban_6 : decode cX11_ban 6 = .ok (.getfield 134, 3) := by decide +kernel
theorem dX11_ban_9 : decode cX11_ban 9 = .ok (.invokevirtual 155, 3) := by decide +kernel
theorem dX11_ban_12 : decode cX11_ban 12 = .ok (.invokevirtual 213, 3) := by decide +kernel
theorem dX11_ban_15 : decode cX11_ban 15 = .ok (.iconst 1, 1) := by decide +kernel
theorem dX11_ban_16 : decode cX11_ban 16 = .ok (.if_icmp .ne 14, 3) := by decide +kernel
theorem dX11_ban_19 : decode cX11_ban 19 = .ok (.iconst 2, 1) := by decide +kernel
theorem dX11_ban_20 : decode cX11_ban 20 = .ok (.aload_n 0, 1) := by decide +kernel
theorem dX11_ban_21 : decode cX11_ban 21 = .ok (.getfield 89, 3) := by decide +kernel
theorem dX11_ban_24 : decode cX11_ban 24 = .ok (.imul, 1) := by decide +kernel
theorem dX11_ban_25 : decode cX11_ban 25 = .ok (.iconst 3, 1) := by decide +kernel
theorem dX11_ban_26 : decode cX11_ban 26 = .ok (.idiv, 1) := by decide +kernel
theorem dX11_ban_27 : decode cX11_ban 27 = .ok (.goto 7, 3) := by decide +kernel
theorem dX11_ban_30 : decode cX11_ban 30 = .ok (.aload_n 0, 1) := by decide +kernel
theorem dX11_ban_31 : decode cX11_ban 31 = .ok (.getfield 89, 3) := by decide +kernel
theorem dX11_ban_34 : decode cX11_ban 34 = .ok (.istore_n 2, 1) := by decide +kernel
theorem dX11_ban_35 : decode cX11_ban 35 = .ok (.iconst 0, 1) := by decide +kernel
theorem dX11_ban_36 : decode cX11_ban 36 = .ok (.istore_n 3, 1) := by decide +kernel
theorem dX11_ban_37 : decode cX11_ban 37 = .ok (.iconst 0, 1) := by decide +kernel
theorem dX11_ban_38 : decode cX11_ban 38 = .ok (.istore 4, 2) := by decide +kernel
theorem dX11_ban_40 : decode cX11_ban 40 = .ok (.iload 4, 2) := by decide +kernel
theorem dX11_ban_42 : decode cX11_ban 42 = .ok (.aload_n 0, 1) := by decide +kernel
theorem dX11_ban_43 : decode cX11_ban 43 = .ok (.getfield 131, 3) := by decide +kernel
theorem dX11_ban_46 : decode cX11_ban 46 = .ok (.if_icmp .ge 56, 3) := by decide +kernel
theorem dX11_ban_49 : decode cX11_ban 49 = .ok (.iload_n 3, 1) := by decide +kernel
theorem dX11_ban_50 : decode cX11_ban 50 = .ok (.aload_n 0, 1) := by decide +kernel
theorem dX11_ban_51 : decode cX11_ban 51 = .ok (.getfield 80, 3) := by decide +kernel
theorem dX11_ban_54 : decode cX11_ban 54 = .ok (.iload 4, 2) := by decide +kernel
theorem dX11_ban_56 : decode cX11_ban 56 = .ok (.baload, 1) := by decide +kernel
theorem dX11_ban_57 : decode cX11_ban 57 = .ok (.ifCond .eq 36, 3) := by decide +kernel
theorem dX11_ban_60 : decode cX11_ban 60 = .ok (.aload_n 0, 1) := by decide +kernel
theorem dX11_ban_61 : decode cX11_ban 61 = .ok (.iload 4, 2) := by decide +kernel
theorem dX11_ban_63 : decode cX11_ban 63 = .ok (.invokevirtual 216, 3) := by decide +kernel
theorem dX11_ban_66 : decode cX11_ban 66 = .ok (.iload_n 1, 1) := by decide +kernel
theorem dX11_ban_67 : decode cX11_ban 67 = .ok (.if_icmp .ne 26, 3) := by decide +kernel
theorem dX11_ban_70 : decode cX11_ban 70 = .ok (.aload_n 0, 1) := by decide +kernel
theorem dX11_ban_71 : decode cX11_ban 71 = .ok (.getfield 74, 3) := by decide +kernel
theorem dX11_ban_74 : decode cX11_ban 74 = .ok (.iload 4, 2) := by decide +kernel
theorem dX11_ban_76 : decode cX11_ban 76 = .ok (.iaload, 1) := by decide +kernel
theorem dX11_ban_77 : decode cX11_ban 77 = .ok (.aload_n 0, 1) := by decide +kernel
theorem dX11_ban_78 : decode cX11_ban 78 = .ok (.getfield 134, 3) := by decide +kernel
theorem dX11_ban_81 : decode cX11_ban 81 = .ok (.bipush 30, 2) := by decide +kernel
theorem dX11_ban_83 : decode cX11_ban 83 = .ok (.iload_n 2, 1) := by decide +kernel
theorem dX11_ban_84 : decode cX11_ban 84 = .ok (.imul, 1) := by decide +kernel
theorem dX11_ban_85 : decode cX11_ban 85 = .ok (.isub, 1) := by decide +kernel
theorem dX11_ban_86 : decode cX11_ban 86 = .ok (.if_icmp .le 7, 3) := by decide +kernel
theorem dX11_ban_89 : decode cX11_ban 89 = .ok (.iconst 1, 1) := by decide +kernel
theorem dX11_ban_90 : decode cX11_ban 90 = .ok (.goto 4, 3) := by decide +kernel
theorem dX11_ban_93 : decode cX11_ban 93 = .ok (.iconst 0, 1) := by decide +kernel
theorem dX11_ban_94 : decode cX11_ban 94 = .ok (.iadd, 1) := by decide +kernel
theorem dX11_ban_95 : decode cX11_ban 95 = .ok (.istore_n 3, 1) := by decide +kernel
theorem dX11_ban_96 : decode cX11_ban 96 = .ok (.iinc 4 1, 3) := by decide +kernel
theorem dX11_ban_99 : decode cX11_ban 99 = .ok (.goto (-59), 3) := by decide +kernel
theorem dX11_ban_102 : decode cX11_ban 102 = .ok (.iload_n 3, 1) := by decide +kernel
theorem dX11_ban_103 : decode cX11_ban 103 = .ok (.iconst 3, 1) := by decide +kernel
theorem dX11_ban_104 : decode cX11_ban 104 = .ok (.if_icmp .lt 39, 3) := by decide +kernel
theorem dX11_ban_107 : decode cX11_ban 107 = .ok (.aload_n 0, 1) := by decide +kernel
theorem dX11_ban_108 : decode cX11_ban 108 = .ok (.getfield 93, 3) := by decide +kernel
theorem dX11_ban_111 : decode cX11_ban 111 = .ok (.iload_n 1, 1) := by decide +kernel
theorem dX11_ban_112 : decode cX11_ban 112 = .ok (.baload, 1) := by decide +kernel
theorem dX11_ban_113 : decode cX11_ban 113 = .ok (.ifCond .ne 30, 3) := by decide +kernel
theorem dX11_ban_116 : decode cX11_ban 116 = .ok (.aload_n 0, 1) := by decide +kernel
theorem dX11_ban_117 : decode cX11_ban 117 = .ok (.getfield 93, 3) := by decide +kernel
theorem dX11_ban_120 : decode cX11_ban 120 = .ok (.iload_n 1, 1) := by decide +kernel
theorem dX11_ban_121 : decode cX11_ban 121 = .ok (.iconst 1, 1) := by decide +kernel
theorem dX11_ban_122 : decode cX11_ban 122 = .ok (.bastore, 1) := by decide +kernel
theorem dX11_ban_123 : decode cX11_ban 123 = .ok (.aload_n 0, 1) := by decide +kernel
theorem dX11_ban_124 : decode cX11_ban 124 = .ok (.getfield 99, 3) := by decide +kernel
theorem dX11_ban_127 : decode cX11_ban 127 = .ok (.iload_n 1, 1) := by decide +kernel
theorem dX11_ban_128 : decode cX11_ban 128 = .ok (.aload_n 0, 1) := by decide +kernel
theorem dX11_ban_129 : decode cX11_ban 129 = .ok (.getfield 134, 3) := by decide +kernel
theorem dX11_ban_132 : decode cX11_ban 132 = .ok (.iastore, 1) := by decide +kernel
theorem dX11_ban_133 : decode cX11_ban 133 = .ok (.aload_n 0, 1) := by decide +kernel
theorem dX11_ban_134 : decode cX11_ban 134 = .ok (.getfield 96, 3) := by decide +kernel
theorem dX11_ban_137 : decode cX11_ban 137 = .ok (.iload_n 1, 1) := by decide +kernel
theorem dX11_ban_138 : decode cX11_ban 138 = .ok (.dup2, 1) := by decide +kernel
theorem dX11_ban_139 : decode cX11_ban 139 = .ok (.iaload, 1) := by decide +kernel
theorem dX11_ban_140 : decode cX11_ban 140 = .ok (.iconst 1, 1) := by decide +kernel
theorem dX11_ban_141 : decode cX11_ban 141 = .ok (.iadd, 1) := by decide +kernel
theorem dX11_ban_142 : decode cX11_ban 142 = .ok (.iastore, 1) := by decide +kernel
theorem dX11_ban_143 : decode cX11_ban 143 = .ok (.return_, 1) := by decide +kernel
theorem dX11_look_0 : decode cX11_look 0 = .ok (.aload_n 0, 1) := by decide +kernel
theorem dX11_look_1 : decode cX11_look 1 = .ok (.iload_n 1, 1) := by decide +kernel
theorem dX11_look_2 : decode cX11_look 2 = .ok (.invokevirtual 175, 3) := by decide +kernel
theorem dX11_look_5 : decode cX11_look 5 = .ok (.ifCond .eq 23, 3) := by decide +kernel
theorem dX11_look_8 : decode cX11_look 8 = .ok (.iload_n 2, 1) := by decide +kernel
theorem dX11_look_9 : decode cX11_look 9 = .ok (.iconst 0, 1) := by decide +kernel
theorem dX11_look_10 : decode cX11_look 10 = .ok (.iconst 5, 1) := by decide +kernel
theorem dX11_look_11 : decode cX11_look 11 = .ok (.invokestatic 124, 3) := by decide +kernel
theorem dX11_look_14 : decode cX11_look 14 = .ok (.ifCond .eq 14, 3) := by decide +kernel
theorem dX11_look_17 : decode cX11_look 17 = .ok (.iload_n 3, 1) := by decide +kernel
theorem dX11_look_18 : decode cX11_look 18 = .ok (.iconst 0, 1) := by decide +kernel
theorem dX11_look_19 : decode cX11_look 19 = .ok (.sipush 1023, 3) := by decide +kernel
theorem dX11_look_22 : decode cX11_look 22 = .ok (.invokestatic 124, 3) := by decide +kernel
theorem dX11_look_25 : decode cX11_look 25 = .ok (.ifCond .ne 9, 3) := by decide +kernel
theorem dX11_look_28 : decode cX11_look 28 = .ok (.aload_n 0, 1) := by decide +kernel
theorem dX11_look_29 : decode cX11_look 29 = .ok (.iconst 1, 1) := by decide +kernel
theorem dX11_look_30 : decode cX11_look 30 = .ok (.invokevirtual 137, 3) := by decide +kernel
theorem dX11_look_33 : decode cX11_look 33 = .ok (.ireturn, 1) := by decide +kernel
theorem dX11_look_34 : decode cX11_look 34 = .ok (.aload_n 0, 1) := by decide +kernel
theorem dX11_look_35 : decode cX11_look 35 = .ok (.getfield 46, 3) := by decide +kernel
theorem dX11_look_38 : decode cX11_look 38 = .ok (.iload_n 1, 1) := by decide +kernel
theorem dX11_look_39 : decode cX11_look 39 = .ok (.iaload, 1) := by decide +kernel
theorem dX11_look_40 : decode cX11_look 40 = .ok (.ifCond .lt 9, 3) := by decide +kernel
theorem dX11_look_43 : decode cX11_look 43 = .ok (.aload_n 0, 1) := by decide +kernel
theorem dX11_look_44 : decode cX11_look 44 = .ok (.iconst 3, 1) := by decide +kernel
theorem dX11_look_45 : decode cX11_look 45 = .ok (.invokevirtual 137, 3) := by decide +kernel
theorem dX11_look_48 : decode cX11_look 48 = .ok (.ireturn, 1) := by decide +kernel
theorem dX11_look_49 : decode cX11_look 49 = .ok (.aload_n 0, 1) := by decide +kernel
theorem dX11_look_50 : decode cX11_look 50 = .ok (.getfield 131, 3) := by decide +kernel
theorem dX11_look_53 : decode cX11_look 53 = .ok (.bipush 60, 2) := by decide +kernel
theorem dX11_look_55 : decode cX11_look 55 = .ok (.if_icmp .ne 9, 3) := by decide +kernel
theorem dX11_look_58 : decode cX11_look 58 = .ok (.aload_n 0, 1) := by decide +kernel
theorem dX11_look_59 : decode cX11_look 59 = .ok (.iconst 4, 1) := by decide +kernel
theorem dX11_look_60 : decode cX11_look 60 = .ok (.invokevirtual 137, 3) := by decide +kernel
theorem dX11_look_63 : decode cX11_look 63 = .ok (.ireturn, 1) := by decide +kernel
theorem dX11_look_64 : decode cX11_look 64 = .ok (.aload_n 0, 1) := by decide +kernel
theorem dX11_look_65 : decode cX11_look 65 = .ok (.getfield 131, 3) := by decide +kernel
theorem dX11_look_68 : decode cX11_look 68 = .ok (.istore 4, 2) := by decide +kernel
theorem dX11_look_70 : decode cX11_look 70 = .ok (.aload_n 0, 1) := by decide +kernel
theorem dX11_look_71 : decode cX11_look 71 = .ok (.getfield 68, 3) := by decide +kernel
theorem dX11_look_74 : decode cX11_look 74 = .ok (.iload 4, 2) := by decide +kernel
theorem dX11_look_76 : decode cX11_look 76 = .ok (.iload_n 1, 1) := by decide +kernel
theorem dX11_look_77 : decode cX11_look 77 = .ok (.iastore, 1) := by decide +kernel
theorem dX11_look_78 : decode cX11_look 78 = .ok (.aload_n 0, 1) := by decide +kernel
theorem dX11_look_79 : decode cX11_look 79 = .ok (.getfield 71, 3) := by decide +kernel
theorem dX11_look_82 : decode cX11_look 82 = .ok (.iload 4, 2) := by decide +kernel
theorem dX11_look_84 : decode cX11_look 84 = .ok (.iload_n 2, 1) := by decide +kernel
theorem dX11_look_85 : decode cX11_look 85 = .ok (.iastore, 1) := by decide +kernel
theorem dX11_look_86 : decode cX11_look 86 = .ok (.aload_n 0, 1) := by decide +kernel
theorem dX11_look_87 : decode cX11_look 87 = .ok (.getfield 74, 3) := by decide +kernel
theorem dX11_look_90 : decode cX11_look 90 = .ok (.iload 4, 2) := by decide +kernel
theorem dX11_look_92 : decode cX11_look 92 = .ok (.aload_n 0, 1) := by decide +kernel
theorem dX11_look_93 : decode cX11_look 93 = .ok (.getfield 134, 3) := by decide +kernel
theorem dX11_look_96 : decode cX11_look 96 = .ok (.iastore, 1) := by decide +kernel
theorem dX11_look_97 : decode cX11_look 97 = .ok (.aload_n 0, 1) := by decide +kernel
theorem dX11_look_98 : decode cX11_look 98 = .ok (.getfield 77, 3) := by decide +kernel
theorem dX11_look_101 : decode cX11_look 101 = .ok (.iload 4, 2) := by decide +kernel
theorem dX11_look_103 : decode cX11_look 103 = .ok (.iload_n 3, 1) := by decide +kernel
theorem dX11_look_104 : decode cX11_look 104 = .ok (.iastore, 1) := by decide +kernel
theorem dX11_look_105 : decode cX11_look 105 = .ok (.aload_n 0, 1) := by decide +kernel
theorem dX11_look_106 : decode cX11_look 106 = .ok (.getfield 80, 3) := by decide +kernel
theorem dX11_look_109 : decode cX11_look 109 = .ok (.iload 4, 2) := by decide +kernel
theorem dX11_look_111 : decode cX11_look 111 = .ok (.aload_n 0, 1) := by decide +kernel
theorem dX11_look_112 : decode cX11_look 112 = .ok (.aload_n 0, 1) := by decide +kernel
theorem dX11_look_113 : decode cX11_look 113 = .ok (.getfield 37, 3) := by decide +kernel
theorem dX11_look_116 : decode cX11_look 116 = .ok (.iload_n 1, 1) := by decide +kernel
theorem dX11_look_117 : decode cX11_look 117 = .ok (.iaload, 1) := by decide +kernel
theorem dX11_look_118 : decode cX11_look 118 = .ok (.iload_n 3, 1) := by decide +kernel
theorem dX11_look_119 : decode cX11_look 119 = .ok (.invokevirtual 219, 3) := by decide +kernel
theorem dX11_look_122 : decode cX11_look 122 = .ok (.bastore, 1) := by decide +kernel
theorem dX11_look_123 : decode cX11_look 123 = .ok (.aload_n 0, 1) := by decide +kernel
theorem dX11_look_124 : decode cX11_look 124 = .ok (.getfield 83, 3) := by decide +kernel
theorem dX11_look_127 : decode cX11_look 127 = .ok (.iload 4, 2) := by decide +kernel
theorem dX11_look_129 : decode cX11_look 129 = .ok (.iconst 0, 1) := by decide +kernel
theorem dX11_look_130 : decode cX11_look 130 = .ok (.iastore, 1) := by decide +kernel
theorem dX11_look_131 : decode cX11_look 131 = .ok (.aload_n 0, 1) := by decide +kernel
theorem dX11_look_132 : decode cX11_look 132 = .ok (.dup, 1) := by decide +kernel
theorem dX11_look_133 : decode cX11_look 133 = .ok (.getfield 131, 3) := by decide +kernel
theorem dX11_look_136 : decode cX11_look 136 = .ok (.iconst 1, 1) := by decide +kernel
theorem dX11_look_137 : decode cX11_look 137 = .ok (.iadd, 1) := by decide +kernel
theorem dX11_look_138 : decode cX11_look 138 = .ok (.putfield 131, 3) := by decide +kernel
theorem dX11_look_141 : decode cX11_look 141 = .ok (.aload_n 0, 1) := by decide +kernel
theorem dX11_look_142 : decode cX11_look 142 = .ok (.getfield 49, 3) := by decide +kernel
theorem dX11_look_145 : decode cX11_look 145 = .ok (.iload_n 1, 1) := by decide +kernel
theorem dX11_look_146 : decode cX11_look 146 = .ok (.aload_n 0, 1) := by decide +kernel
theorem dX11_look_147 : decode cX11_look 147 = .ok (.getfield 80, 3) := by decide +kernel
theorem dX11_look_150 : decode cX11_look 150 = .ok (.iload 4, 2) := by decide +kernel
theorem dX11_look_152 : decode cX11_look 152 = .ok (.baload, 1) := by decide +kernel
theorem dX11_look_153 : decode cX11_look 153 = .ok (.bastore, 1) := by decide +kernel
theorem dX11_look_154 : decode cX11_look 154 = .ok (.aload_n 0, 1) := by decide +kernel
theorem dX11_look_155 : decode cX11_look 155 = .ok (.getfield 80, 3) := by decide +kernel
theorem dX11_look_158 : decode cX11_look 158 = .ok (.iload 4, 2) := by decide +kernel
theorem dX11_look_160 : decode cX11_look 160 = .ok (.baload, 1) := by decide +kernel
theorem dX11_look_161 : decode cX11_look 161 = .ok (.ifCond .eq 13, 3) := by decide +kernel
theorem dX11_look_164 : decode cX11_look 164 = .ok (.aload_n 0, 1) := by decide +kernel
theorem dX11_look_165 : decode cX11_look 165 = .ok (.aload_n 0, 1) := by decide +kernel
theorem dX11_look_166 : decode cX11_look 166 = .ok (.getfield 37, 3) := by decide +kernel
theorem dX11_look_169 : decode cX11_look 169 = .ok (.iload_n 1, 1) := by decide +kernel
theorem dX11_look_170 : decode cX11_look 170 = .ok (.iaload, 1) := by decide +kernel
theorem dX11_look_171 : decode cX11_look 171 = .ok (.invokevirtual 222, 3) := by decide +kernel
theorem dX11_look_174 : decode cX11_look 174 = .ok (.iload 4, 2) := by decide +kernel
theorem dX11_look_176 : decode cX11_look 176 = .ok (.ireturn, 1) := by decide +kernel
theorem dX11_told_0 : decode cX11_told 0 = .ok (.aload_n 0, 1) := by decide +kernel
theorem dX11_told_1 : decode cX11_told 1 = .ok (.iload_n 1, 1) := by decide +kernel
theorem dX11_told_2 : decode cX11_told 2 = .ok (.invokevirtual 226, 3) := by decide +kernel
theorem dX11_told_5 : decode cX11_told 5 = .ok (.ifCond .eq 12, 3) := by decide +kernel
theorem dX11_told_8 : decode cX11_told 8 = .ok (.iload_n 2, 1) := by decide +kernel
theorem dX11_told_9 : decode cX11_told 9 = .ok (.iconst 0, 1) := by decide +kernel
theorem dX11_told_10 : decode cX11_told 10 = .ok (.iconst 4, 1) := by decide +kernel
theorem dX11_told_11 : decode cX11_told 11 = .ok (.invokestatic 124, 3) := by decide +kernel
theorem dX11_told_14 : decode cX11_told 14 = .ok (.ifCond .ne 9, 3) := by decide +kernel
theorem dX11_told_17 : decode cX11_told 17 = .ok (.aload_n 0, 1) := by decide +kernel
theorem dX11_told_18 : decode cX11_told 18 = .ok (.iconst 1, 1) := by decide +kernel
theorem dX11_told_19 : decode cX11_told 19 = .ok (.invokevirtual 137, 3) := by decide +kernel
theorem dX11_told_22 : decode cX11_told 22 = .ok (.ireturn, 1) := by decide +kernel
theorem dX11_told_23 : decode cX11_told 23 = .ok (.iload_n 2, 1) := by decide +kernel
theorem dX11_told_24 : decode cX11_told 24 = .ok (.ifCond .ne 12, 3) := by decide +kernel
theorem dX11_told_27 : decode cX11_told 27 = .ok (.aload_n 0, 1) := by decide +kernel
theorem dX11_told_28 : decode cX11_told 28 = .ok (.getfield 68, 3) := by decide +kernel
theorem dX11_told_31 : decode cX11_told 31 = .ok (.iload_n 1, 1) := by decide +kernel
theorem dX11_told_32 : decode cX11_told 32 = .ok (.iaload, 1) := by decide +kernel
theorem dX11_told_33 : decode cX11_told 33 = .ok (.goto 59, 3) := by decide +kernel
theorem dX11_told_36 : decode cX11_told 36 = .ok (.iload_n 2, 1) := by decide +kernel
theorem dX11_told_37 : decode cX11_told 37 = .ok (.iconst 1, 1) := by decide +kernel
theorem dX11_told_38 : decode cX11_told 38 = .ok (.if_icmp .ne 12, 3) := by decide +kernel
theorem dX11_told_41 : decode cX11_told 41 = .ok (.aload_n 0, 1) := by decide +kernel
theorem dX11_told_42 : decode cX11_told 42 = .ok (.getfield 71, 3) := by decide +kernel
theorem dX11_told_45 : decode cX11_told 45 = .ok (.iload_n 1, 1) := by decide +kernel
theorem dX11_told_46 : decode cX11_told 46 = .ok (.iaload, 1) := by decide +kernel
theorem dX11_told_47 : decode cX11_told 47 = .ok (.goto 45, 3) := by decide +kernel
theorem dX11_told_50 : decode cX11_told 50 = .ok (.iload_n 2, 1) := by decide +kernel
theorem dX11_told_51 : decode cX11_told 51 = .ok (.iconst 2, 1) := by decide +kernel
theorem dX11_told_52 : decode cX11_told 52 = .ok (.if_icmp .ne 12, 3) := by decide +kernel
theorem dX11_told_55 : decode cX11_told 55 = .ok (.aload_n 0, 1) := by decide +kernel
theorem dX11_told_56 : decode cX11_told 56 = .ok (.getfield 74, 3) := by decide +kernel
theorem dX11_told_59 : decode cX11_told 59 = .ok (.iload_n 1, 1) := by decide +kernel
theorem dX11_told_60 : decode cX11_told 60 = .ok (.iaload, 1) := by decide +kernel
theorem dX11_told_61 : decode cX11_told 61 = .ok (.goto 31, 3) := by decide +kernel
theorem dX11_told_64 : decode cX11_told 64 = .ok (.iload_n 2, 1) := by decide +kernel
theorem dX11_told_65 : decode cX11_told 65 = .ok (.iconst 3, 1) := by decide +kernel
theorem dX11_told_66 : decode cX11_told 66 = .ok (.if_icmp .ne 12, 3) := by decide +kernel
theorem dX11_told_69 : decode cX11_told 69 = .ok (.aload_n 0, 1) := by decide +kernel
theorem dX11_told_70 : decode cX11_told 70 = .ok (.getfield 77, 3) := by decide +kernel
theorem dX11_told_73 : decode cX11_told 73 = .ok (.iload_n 1, 1) := by decide +kernel
theorem dX11_told_74 : decode cX11_told 74 = .ok (.iaload, 1) := by decide +kernel
theorem dX11_told_75 : decode cX11_told 75 = .ok (.goto 17, 3) := by decide +kernel
theorem dX11_told_78 : decode cX11_told 78 = .ok (.aload_n 0, 1) := by decide +kernel
theorem dX11_told_79 : decode cX11_told 79 = .ok (.getfield 80, 3) := by decide +kernel
theorem dX11_told_82 : decode cX11_told 82 = .ok (.iload_n 1, 1) := by decide +kernel
theorem dX11_told_83 : decode cX11_told 83 = .ok (.baload, 1) := by decide +kernel
theorem dX11_told_84 : decode cX11_told 84 = .ok (.ifCond .eq 7, 3) := by decide +kernel
theorem dX11_told_87 : decode cX11_told 87 = .ok (.iconst 1, 1) := by decide +kernel
theorem dX11_told_88 : decode cX11_told 88 = .ok (.goto 4, 3) := by decide +kernel
theorem dX11_told_91 : decode cX11_told 91 = .ok (.iconst 0, 1) := by decide +kernel
theorem dX11_told_92 : decode cX11_told 92 = .ok (.ireturn, 1) := by decide +kernel
