theorem dX10_found_0 : decode cX10_found 0 = .ok (.iload_n 1, 1) := by decide +kernel
theorem dX10_found_1 : decode cX10_found 1 = .ok (.iconst 1, 1) := by decide +kernel
theorem dX10_found_2 : decode cX10_found 2 = .ok (.if_icmp .lt 8, 3) := by decide +kernel
theorem dX10_found_5 : decode cX10_found 5 = .ok (.iload_n 1, 1) := by decide +kernel
theorem dX10_found_6 : decode cX10_found 6 = .ok (.iconst 5, 1) := by decide +kernel
theorem dX10_found_7 : decode cX10_found 7 = .ok (.if_icmp .le 9, 3) := by decide +kernel
theorem dX10_found_10 : decode cX10_found 10 = .ok (.aload_n 0, 1) := by decide +kernel
theorem dX10_found_11 : decode cX10_found 11 = .ok (.iconst 1, 1) := by decide +kernel
theorem dX10_found_12 : decode cX10_found 12 = .ok (.invokevirtual 82, 3) := by decide +kernel
theorem dX10_found_15 : decode cX10_found 15 = .ok (.ireturn, 1) := by decide +kernel
theorem dX10_found_16 : decode cX10_found 16 = .ok (.aload_n 0, 1) := by decide +kernel
theorem dX10_found_17 : decode cX10_found 17 = .ok (.getfield 55, 3) := by decide +kernel
theorem dX10_found_20 : decode cX10_found 20 = .ok (.iload_n 1, 1) := by decide +kernel
theorem dX10_found_21 : decode cX10_found 21 = .ok (.iaload, 1) := by decide +kernel
theorem dX10_found_22 : decode cX10_found 22 = .ok (.ireturn, 1) := by decide +kernel
theorem dX10_finding_0 : decode cX10_finding 0 = .ok (.aload_n 0, 1) := by decide +kernel
theorem dX10_finding_1 : decode cX10_finding 1 = .ok (.getfield 55, 3) := by decide +kernel
theorem dX10_finding_4 : decode cX10_finding 4 = .ok (.iload_n 1, 1) := by decide +kernel
theorem dX10_finding_5 : decode cX10_finding 5 = .ok (.dup2, 1) := by decide +kernel
theorem dX10_finding_6 : decode cX10_finding 6 = .ok (.iaload, 1) := by decide +kernel
theorem dX10_finding_7 : decode cX10_finding 7 = .ok (.iconst 1, 1) := by decide +kernel
theorem dX10_finding_8 : decode cX10_finding 8 = .ok (.iadd, 1) := by decide +kernel
theorem dX10_finding_9 : decode cX10_finding 9 = .ok (.iastore, 1) := by decide +kernel
theorem dX10_finding_10 : decode cX10_finding 10 = .ok (.ldc_w 333, 3) := by decide +kernel
theorem dX10_finding_13 : decode cX10_finding 13 = .ok (.iload_n 1, 1) := by decide +kernel
theorem dX10_finding_14 : decode cX10_finding 14 = .ok (.isub, 1) := by decide +kernel
theorem dX10_finding_15 : decode cX10_finding 15 = .ok (.ireturn, 1) := by decide +kernel
theorem dX10_isBelow_0 : decode cX10_isBelow 0 = .ok (.iload_n 0, 1) := by decide +kernel
theorem dX10_isBelow_1 : decode cX10_isBelow 1 = .ok (.ifCond .lt 12, 3) := by decide +kernel
theorem dX10_isBelow_4 : decode cX10_isBelow 4 = .ok (.iload_n 0, 1) := by decide +kernel
theorem dX10_isBelow_5 : decode cX10_isBelow 5 = .ok (.iload_n 1, 1) := by decide +kernel
theorem dX10_isBelow_6 : decode cX10_isBelow 6 = .ok (.if_icmp .ge 7, 3) := by decide +kernel
theorem dX10_isBelow_9 : decode cX10_isBelow 9 = .ok (.iconst 1, 1) := by decide +kernel
theorem dX10_isBelow_10 : decode cX10_isBelow 10 = .ok (.goto 4, 3) := by decide +kernel
theorem dX10_isBelow_13 : decode cX10_isBelow 13 = .ok (.iconst 0, 1) := by decide +kernel
theorem dX10_isBelow_14 : decode cX10_isBelow 14 = .ok (.ireturn, 1) := by decide +kernel
theorem dX10_isKindAndClass_0 : decode cX10_isKindAndClass 0 = .ok (.iload_n 0, 1) := by decide +kernel
theorem dX10_isKindAndClass_1 : decode cX10_isKindAndClass 1 = .ok (.bipush 40, 2) := by decide +kernel
theorem dX10_isKindAndClass_3 : decode cX10_isKindAndClass 3 = .ok (.invokestatic 96, 3) := by decide +kernel
theorem dX10_isKindAndClass_6 : decode cX10_isKindAndClass 6 = .ok (.ifCond .eq 15, 3) := by decide +kernel
theorem dX10_isKindAndClass_9 : decode cX10_isKindAndClass 9 = .ok (.iload_n 0, 1) := by decide +kernel
theorem dX10_isKindAndClass_10 : decode cX10_isKindAndClass 10 = .ok (.bipush 10, 2) := by decide +kernel
theorem dX10_isKindAndClass_12 : decode cX10_isKindAndClass 12 = .ok (.irem, 1) := by decide +kernel
theorem dX10_isKindAndClass_13 : decode cX10_isKindAndClass 13 = .ok (.iconst 4, 1) := by decide +kernel
theorem dX10_isKindAndClass_14 : decode cX10_isKindAndClass 14 = .ok (.if_icmp .ge 7, 3) := by decide +kernel
theorem dX10_isKindAndClass_17 : decode cX10_isKindAndClass 17 = .ok (.iconst 1, 1) := by decide +kernel
theorem dX10_isKindAndClass_18 : decode cX10_isKindAndClass 18 = .ok (.goto 4, 3) := by decide +kernel
theorem dX10_isKindAndClass_21 : decode cX10_isKindAndClass 21 = .ok (.iconst 0, 1) := by decide +kernel
theorem dX10_isKindAndClass_22 : decode cX10_isKindAndClass 22 = .ok (.ireturn, 1) := by decide +kernel
theorem dX10_isNameOwnerAndFlag_0 : decode cX10_isNameOwnerAndFlag 0 = .ok (.iload_n 0, 1) := by decide +kernel
theorem dX10_isNameOwnerAndFlag_1 : decode cX10_isNameOwnerAndFlag 1 = .ok (.sipush 10000, 3) := by decide +kernel
theorem dX10_isNameOwnerAndFlag_4 : decode cX10_isNameOwnerAndFlag 4 = .ok (.invokestatic 96, 3) := by decide +kernel
theorem dX10_isNameOwnerAndFlag_7 : decode cX10_isNameOwnerAndFlag 7 = .ok (.ifCond .eq 16, 3) := by decide +kernel
theorem dX10_isNameOwnerAndFlag_10 : decode cX10_isNameOwnerAndFlag 10 = .ok (.iload_n 0, 1) := by decide +kernel
theorem dX10_isNameOwnerAndFlag_11 : decode cX10_isNameOwnerAndFlag 11 = .ok (.bipush 10, 2) := by decide +kernel
theorem dX10_isNameOwnerAndFlag_13 : decode cX10_isNameOwnerAndFlag 13 = .ok (.irem, 1) := by decide +kernel
theorem dX10_isNameOwnerAndFlag_14 : decode cX10_isNameOwnerAndFlag 14 = .ok (.bipush 6, 2) := by decide +kernel
theorem dX10_isNameOwnerAndFlag_16 : decode cX10_isNameOwnerAndFlag 16 = .ok (.if_icmp .ge 7, 3) := by decide +kernel
theorem dX10_isNameOwnerAndFlag_19 : decode cX10_isNameOwnerAndFlag 19 = .ok (.iconst 1, 1) := by decide +kernel
theorem dX10_isNameOwnerAndFlag_20 : decode cX10_isNameOwnerAndFlag 20 = .ok (.goto 4, 3) := by decide +kernel
theorem dX10_isNameOwnerAndFlag_23 : decode cX10_isNameOwnerAndFlag 23 = .ok (.iconst 0, 1) := by decide +kernel
theorem dX10_isNameOwnerAndFlag_24 : decode cX10_isNameOwnerAndFlag 24 = .ok (.ireturn, 1) := by decide +kernel
theorem dX10_areHours_0 : decode cX10_areHours 0 = .ok (.iload_n 0, 1) := by decide +kernel
theorem dX10_areHours_1 : decode cX10_areHours 1 = .ok (.ifCond .lt 25, 3) := by decide +kernel
theorem dX10_areHours_4 : decode cX10_areHours 4 = .ok (.iload_n 0, 1) := by decide +kernel
theorem dX10_areHours_5 : decode cX10_areHours 5 = .ok (.bipush 100, 2) := by decide +kernel
theorem dX10_areHours_7 : decode cX10_areHours 7 = .ok (.idiv, 1) := by decide +kernel
theorem dX10_areHours_8 : decode cX10_areHours 8 = .ok (.bipush 24, 2) := by decide +kernel
theorem dX10_areHours_10 : decode cX10_areHours 10 = .ok (.if_icmp .gt 16, 3) := by decide +kernel
theorem dX10_areHours_13 : decode cX10_areHours 13 = .ok (.iload_n 0, 1) := by decide +kernel
theorem dX10_areHours_14 : decode cX10_areHours 14 = .ok (.bipush 100, 2) := by decide +kernel
theorem dX10_areHours_16 : decode cX10_areHours 16 = .ok (.irem, 1) := by decide +kernel
theorem dX10_areHours_17 : decode cX10_areHours 17 = .ok (.bipush 24, 2) := by decide +kernel
theorem dX10_areHours_19 : decode cX10_areHours 19 = .ok (.if_icmp .gt 7, 3) := by decide +kernel
theorem dX10_areHours_22 : decode cX10_areHours 22 = .ok (.iconst 1, 1) := by decide +kernel
theorem dX10_areHours_23 : decode cX10_areHours 23 = .ok (.goto 4, 3) := by decide +kernel
theorem dX10_areHours_26 : decode cX10_areHours 26 = .ok (.iconst 0, 1) := by decide +kernel
theorem dX10_areHours_27 : decode cX10_areHours 27 = .ok (.ireturn, 1) := by decide +kernel
theorem dX10_valuesOf_0 : decode cX10_valuesOf 0 = .ok (.iload_n 0, 1) := by decide +kernel
theorem dX10_valuesOf_1 : decode cX10_valuesOf 1 = .ok (.ifCond .ne 6, 3) := by decide +kernel
theorem dX10_valuesOf_4 : decode cX10_valuesOf 4 = .ok (.bipush 100, 2) := by decide +kernel
theorem dX10_valuesOf_6 : decode cX10_valuesOf 6 = .ok (.ireturn, 1) := by decide +kernel
theorem dX10_valuesOf_7 : decode cX10_valuesOf 7 = .ok (.iload_n 0, 1) := by decide +kernel
theorem dX10_valuesOf_8 : decode cX10_valuesOf 8 = .ok (.iconst 1, 1) := by decide +kernel
theorem dX10_valuesOf_9 : decode cX10_valuesOf 9 = .ok (.if_icmp .ne 8, 3) := by decide +kernel
theorem dX10_valuesOf_12 : decode cX10_valuesOf 12 = .ok (.bipush 6, 2) := by decide +kernel
theorem dX10_valuesOf_14 : decode cX10_valuesOf 14 = .ok (.goto 5, 3) := by decide +kernel
theorem dX10_valuesOf_17 : decode cX10_valuesOf 17 = .ok (.bipush 10, 2) := by decide +kernel
theorem dX10_valuesOf_19 : decode cX10_valuesOf 19 = .ok (.ireturn, 1) := by decide +kernel
theorem dX10_groupsOf_0 : decode cX10_groupsOf 0 = .ok (.iload_n 0, 1) := by decide +kernel
theorem dX10_groupsOf_1 : decode cX10_groupsOf 1 = .ok (.ifCond .ne 6, 3) := by decide +kernel
theorem dX10_groupsOf_4 : decode cX10_groupsOf 4 = .ok (.bipush 6, 2) := by decide +kernel
theorem dX10_groupsOf_6 : decode cX10_groupsOf 6 = .ok (.ireturn, 1) := by decide +kernel
theorem dX10_groupsOf_7 : decode cX10_groupsOf 7 = .ok (.iload_n 0, 1) := by decide +kernel
theorem dX10_groupsOf_8 : decode cX10_groupsOf 8 = .ok (.iconst 1, 1) := by decide +kernel
theorem dX10_groupsOf_9 : decode cX10_groupsOf 9 = .ok (.if_icmp .ne 7, 3) := by decide +kernel
theorem dX10_groupsOf_12 : decode cX10_groupsOf 12 = .ok (.iconst 4, 1) := by decide +kernel
theorem dX10_groupsOf_13 : decode cX10_groupsOf 13 = .ok (.goto 4, 3) := by decide +kernel
theorem dX10_groupsOf_16 : decode cX10_groupsOf 16 = .ok (.iconst 1, 1) := by decide +kernel
theorem dX10_groupsOf_17 : decode cX10_groupsOf 17 = .ok (.ireturn, 1) := by decide +kernel
theorem dX10_isUnder_0 : decode cX10_isUnder 0 = .ok (.iload_n 0, 1) := by decide +kernel
theorem dX10_isUnder_1 : decode cX10_isUnder 1 = .ok (.istore_n 2, 1) := by decide +kernel
theorem dX10_isUnder_2 : decode cX10_isUnder 2 = .ok (.iconst 0, 1) := by decide +kernel
theorem dX10_isUnder_3 : decode cX10_isUnder 3 = .ok (.istore_n 3, 1) := by decide +kernel
theorem dX10_isUnder_4 : decode cX10_isUnder 4 = .ok (.iload_n 3, 1) := by decide +kernel
theorem dX10_isUnder_5 : decode cX10_isUnder 5 = .ok (.iconst 4, 1) := by decide +kernel
theorem dX10_isUnder_6 : decode cX10_isUnder 6 = .ok (.if_icmp .ge 30, 3) := by decide +kernel
theorem dX10_isUnder_9 : decode cX10_isUnder 9 = .ok (.iload_n 2, 1) := by decide +kernel
theorem dX10_isUnder_10 : decode cX10_isUnder 10 = .ok (.iconst 4, 1) := by decide +kernel
theorem dX10_isUnder_11 : decode cX10_isUnder 11 = .ok (.invokestatic 96, 3) := by decide +kernel
theorem dX10_isUnder_14 : decode cX10_isUnder 14 = .ok (.ifCond .eq 22, 3) := by decide +kernel
theorem dX10_isUnder_17 : decode cX10_isUnder 17 = .ok (.iload_n 2, 1) := by decide +kernel
theorem dX10_isUnder_18 : decode cX10_isUnder 18 = .ok (.iload_n 1, 1) := by decide +kernel
theorem dX10_isUnder_19 : decode cX10_isUnder 19 = .ok (.if_icmp .ne 5, 3) := by decide +kernel
theorem dX10_isUnder_22 : decode cX10_isUnder 22 = .ok (.iconst 1, 1) := by decide +kernel
theorem dX10_isUnder_23 : decode cX10_isUnder 23 = .ok (.ireturn, 1) := by decide +kernel
theorem dX10_isUnder_24 : decode cX10_isUnder 24 = .ok (.getstatic 334, 3) := by decide +kernel
theorem dX10_isUnder_27 : decode cX10_isUnder 27 = .ok (.iload_n 2, 1) := by decide +kernel
theorem dX10_isUnder_28 : decode cX10_isUnder 28 = .ok (.iaload, 1) := by decide +kernel
theorem dX10_isUnder_29 : decode cX10_isUnder 29 = .ok (.istore_n 2, 1) := by decide +kernel
theorem dX10_isUnder_30 : decode cX10_isUnder 30 = .ok (.iinc 3 1, 3) := by decide +kernel
theorem dX10_isUnder_33 : decode cX10_isUnder 33 = .ok (.goto (-29), 3) := by decide +kernel
theorem dX10_isUnder_36 : decode cX10_isUnder 36 = .ok (.iconst 0, 1) := by decide +kernel
theorem dX10_isUnder_37 : decode cX10_isUnder 37 = .ok (.ireturn, 1) := by decide +kernel
theorem dX10_shipAt_0 : decode cX10_shipAt 0 = .ok (.iload_n 1, 1) := by decide +kernel
theorem dX10_shipAt_1 : decode cX10_shipAt 1 = .ok (.aload_n 0, 1) := by decide +kernel
theorem dX10_shipAt_2 : decode cX10_shipAt 2 = .ok (.getfield 86, 3) := by decide +kernel
theorem dX10_shipAt_5 : decode cX10_shipAt 5 = .ok (.invokestatic 96, 3) := by decide +kernel
theorem dX10_shipAt_8 : decode cX10_shipAt 8 = .ok (.ifCond .eq 12, 3) := by decide +kernel
theorem dX10_shipAt_11 : decode cX10_shipAt 11 = .ok (.aload_n 0, 1) := by decide +kernel
theorem dX10_shipAt_12 : decode cX10_shipAt 12 = .ok (.getfield 11, 3) := by decide +kernel
theorem dX10_shipAt_15 : decode cX10_shipAt 15 = .ok (.iload_n 1, 1) := by decide +kernel
theorem dX10_shipAt_16 : decode cX10_shipAt 16 = .ok (.aaload, 1) := by decide +kernel
theorem dX10_shipAt_17 : decode cX10_shipAt 17 = .ok (.goto 4, 3) := by decide +kernel
theorem dX10_shipAt_20 : decode cX10_shipAt 20 = .ok (.aconst_null, 1) := by decide +kernel
theorem dX10_shipAt_21 : decode cX10_shipAt 21 = .ok (.areturn, 1) := by decide +kernel
theorem dX10_callAt_0 : decode cX10_callAt 0 = .ok (.iload_n 1, 1) := by decide +kernel
theorem dX10_callAt_1 : decode cX10_callAt 1 = .ok (.aload_n 0, 1) := by decide +kernel
theorem dX10_callAt_2 : decode cX10_callAt 2 = .ok (.getfield 141, 3) := by decide +kernel
theorem dX10_callAt_5 : decode cX10_callAt 5 = .ok (.invokestatic 96, 3) := by decide +kernel
theorem dX10_callAt_8 : decode cX10_callAt 8 = .ok (.ifCond .eq 12, 3) := by decide +kernel
theorem dX10_callAt_11 : decode cX10_callAt 11 = .ok (.aload_n 0, 1) := by decide +kernel
theorem dX10_callAt_12 : decode cX10_callAt 12 = .ok (.getfield 24, 3) := by decide +kernel
theorem dX10_callAt_15 : decode cX10_callAt 15 = .ok (.iload_n 1, 1) := by decide +kernel
theorem dX10_callAt_16 : decode cX10_callAt 16 = .ok (.aaload, 1) := by decide +kernel
theorem dX10_callAt_17 : decode cX10_callAt 17 = .ok (.goto 4, 3) := by decide +kernel
theorem dX10_callAt_20 : decode cX10_callAt 20 = .ok (.aconst_null, 1) := by decide +kernel
theorem dX10_callAt_21 : decode cX10_callAt 21 = .ok (.areturn, 1) := by decide +kernel
theorem dX10_lookAt_0 : decode cX10_lookAt 0 = .ok (.iload_n 1, 1) := by decide +kernel
theorem dX10_lookAt_1 : decode cX10_lookAt 1 = .ok (.aload_n 0, 1) := by decide +kernel
theorem dX10_lookAt_2 : decode cX10_lookAt 2 = .ok (.getfield 210, 3) := by decide +kernel
theorem dX10_lookAt_5 : decode cX10_lookAt 5 = .ok (.invokestatic 96, 3) := by decide +kernel
theorem dX10_lookAt_8 : decode cX10_lookAt 8 = .ok (.ifCond .eq 12, 3) := by decide +kernel
theorem dX10_lookAt_11 : decode cX10_lookAt 11 = .ok (.aload_n 0, 1) := by decide +kernel
theorem dX10_lookAt_12 : decode cX10_lookAt 12 = .ok (.getfield 30, 3) := by decide +kernel
theorem dX10_lookAt_15 : decode cX10_lookAt 15 = .ok (.iload_n 1, 1) := by decide +kernel
theorem dX10_lookAt_16 : decode cX10_lookAt 16 = .ok (.aaload, 1) := by decide +kernel
theorem dX10_lookAt_17 : decode cX10_lookAt 17 = .ok (.goto 4, 3) := by decide +kernel
theorem dX10_lookAt_20 : decode cX10_lookAt 20 = .ok (.aconst_null, 1) := by decide +kernel
theorem dX10_lookAt_21 : decode cX10_lookAt 21 = .ok (.areturn, 1) := by decide +kernel
theorem dX10_treatyInForce_0 : decode cX10_treatyInForce 0 = .ok (.aload_n 0, 1) := by decide +kernel
theorem dX10_treatyInForce_1 : decode cX10_treatyInForce 1 = .ok (.getfield 185, 3) := by decide +kernel
theorem dX10_treatyInForce_4 : decode cX10_treatyInForce 4 = .ok (.iconst 1, 1) := by decide +kernel
theorem dX10_treatyInForce_5 : decode cX10_treatyInForce 5 = .ok (.isub, 1) := by decide +kernel
theorem dX10_treatyInForce_6 : decode cX10_treatyInForce 6 = .ok (.istore_n 2, 1) := by decide +kernel
theorem dX10_treatyInForce_7 : decode cX10_treatyInForce 7 = .ok (.iload_n 2, 1) := by decide +kernel
theorem dX10_treatyInForce_8 : decode cX10_treatyInForce 8 = .ok (.ifCond .lt 29, 3) := by decide +kernel
theorem dX10_treatyInForce_11 : decode cX10_treatyInForce 11 = .ok (.aload_n 0, 1) := by decide +kernel
theorem dX10_treatyInForce_12 : decode cX10_treatyInForce 12 = .ok (.getfield 36, 3) := by decide +kernel
theorem dX10_treatyInForce_15 : decode cX10_treatyInForce 15 = .ok (.iload_n 2, 1) := by decide +kernel
theorem dX10_treatyInForce_16 : decode cX10_treatyInForce 16 = .ok (.aaload, 1) := by decide +kernel
theorem dX10_treatyInForce_17 : decode cX10_treatyInForce 17 = .ok (.getfield 337, 3) := by decide +kernel
theorem dX10_treatyInForce_20 : decode cX10_treatyInForce 20 = .ok (.iload_n 1, 1) := by decide +kernel
theorem dX10_treatyInForce_21 : decode cX10_treatyInForce 21 = .ok (.if_icmp .gt 10, 3) := by decide +kernel
theorem dX10_treatyInForce_24 : decode cX10_treatyInForce 24 = .ok (.aload_n 0, 1) := by decide +kernel
theorem dX10_treatyInForce_25 : decode cX10_treatyInForce 25 = .ok (.getfield 36, 3) := by decide +kernel
theorem dX10_treatyInForce_28 : decode cX10_treatyInForce 28 = .ok (.iload_n 2, 1) := by decide +kernel
theorem dX10_treatyInForce_29 : decode cX10_treatyInForce 29 = .ok (.aaload, 1) := by decide +kernel
theorem dX10_treatyInForce_30 : decode cX10_treatyInForce 30 = .ok (.areturn, 1) := by decide +kernel
theorem dX10_treatyInForce_31 : decode cX10_treatyInForce 31 = .ok (.iinc 2 (-1), 3) := by decide +kernel
theorem dX10_treatyInForce_34 : decode cX10_treatyInForce 34 = .ok (.goto (-27), 3) := by decide +kernel
theorem dX10_treatyInForce_37 : decode cX10_treatyInForce 37 = .ok (.aconst_null, 1) := by decide +kernel
theorem dX10_treatyInForce_38 : decode cX10_treatyInForce 38 = .ok (.areturn, 1) := by decide +kernel
theorem dX10_fleetBits_0 : decode cX10_fleetBits 0 = .ok (.iconst 0, 1) := by decide +kernel
theorem dX10_fleetBits_1 : decode cX10_fleetBits 1 = .ok (.istore_n 3, 1) := by decide +kernel
theorem dX10_fleetBits_2 : decode cX10_fleetBits 2 = .ok (.iconst 0, 1) := by decide +kernel
theorem dX10_fleetBits_3 : decode cX10_fleetBits 3 = .ok (.istore 4, 2) := by decide +kernel
theorem dX10_fleetBits_5 : decode cX10_fleetBits 5 = .ok (.iload 4, 2) := by decide +kernel
theorem dX10_fleetBits_7 : decode cX10_fleetBits 7 = .ok (.aload_n 0, 1) := by decide +kernel
theorem dX10_fleetBits_8 : decode cX10_fleetBits 8 = .ok (.getfield 86, 3) := by decide +kernel
theorem dX10_fleetBits_11 : decode cX10_fleetBits 11 = .ok (.if_icmp .ge 39, 3) := by decide +kernel
theorem dX10_fleetBits_14 : decode cX10_fleetBits 14 = .ok (.aload_n 0, 1) := by decide +kernel
theorem dX10_fleetBits_15 : decode cX10_fleetBits 15 = .ok (.getfield 18, 3) := by decide +kernel
theorem dX10_fleetBits_18 : decode cX10_fleetBits 18 = .ok (.iload_n 1, 1) := by decide +kernel
theorem dX10_fleetBits_19 : decode cX10_fleetBits 19 = .ok (.aload_n 0, 1) := by decide +kernel
theorem dX10_fleetBits_20 : decode cX10_fleetBits 20 = .ok (.getfield 11, 3) := by decide +kernel
theorem dX10_fleetBits_23 : decode cX10_fleetBits 23 = .ok (.iload 4, 2) := by decide +kernel
theorem dX10_fleetBits_25 : decode cX10_fleetBits 25 = .ok (.aaload, 1) := by decide +kernel
theorem dX10_fleetBits_26 : decode cX10_fleetBits 26 = .ok (.iconst 2, 1) := by decide +kernel
theorem dX10_fleetBits_27 : decode cX10_fleetBits 27 = .ok (.iload_n 2, 1) := by decide +kernel
theorem dX10_fleetBits_28 : decode cX10_fleetBits 28 = .ok (.invokevirtual 115, 3) := by decide +kernel
theorem dX10_fleetBits_31 : decode cX10_fleetBits 31 = .ok (.invokevirtual 338, 3) := by decide +kernel
theorem dX10_fleetBits_34 : decode cX10_fleetBits 34 = .ok (.ifCond .eq 10, 3) := by decide +kernel
theorem dX10_fleetBits_37 : decode cX10_fleetBits 37 = .ok (.iload_n 3, 1) := by decide +kernel
theorem dX10_fleetBits_38 : decode cX10_fleetBits 38 = .ok (.iconst 1, 1) := by decide +kernel
theorem dX10_fleetBits_39 : decode cX10_fleetBits 39 = .ok (.iload 4, 2) := by decide +kernel
theorem dX10_fleetBits_41 : decode cX10_fleetBits 41 = .ok (.ishl, 1) := by decide +kernel
theorem dX10_fleetBits_42 : decode cX10_fleetBits 42 = .ok (.ior, 1) := by decide +kernel
theorem dX10_fleetBits_43 : decode cX10_fleetBits 43 = .ok (.istore_n 3, 1) := by decide +kernel
theorem dX10_fleetBits_44 : decode cX10_fleetBits 44 = .ok (.iinc 4 1, 3) := by decide +kernel
theorem dX10_fleetBits_47 : decode cX10_fleetBits 47 = .ok (.goto (-42), 3) := by decide +kernel
theorem dX10_fleetBits_50 : decode cX10_fleetBits 50 = .ok (.iload_n 3, 1) := by decide +kernel
theorem dX10_fleetBits_51 : decode cX10_fleetBits 51 = .ok (.ireturn, 1) := by decide +kernel
theorem dX10_isInLast_0 : decode cX10_isInLast 0 = .ok (.aload_n 0, 1) := by decide +kernel
theorem dX10_isInLast_1 : decode cX10_isInLast 1 = .ok (.getfield 79, 3) := by decide +kernel
theorem dX10_isInLast_4 : decode cX10_isInLast 4 = .ok (.iload_n 2, 1) := by decide +kernel
theorem dX10_isInLast_5 : decode cX10_isInLast 5 = .ok (.isub, 1) := by decide +kernel
theorem dX10_isInLast_6 : decode cX10_isInLast 6 = .ok (.iload_n 1, 1) := by decide +kernel
theorem dX10_isInLast_7 : decode cX10_isInLast 7 = .ok (.if_icmp .ge 7, 3) := by decide +kernel
theorem dX10_isInLast_10 : decode cX10_isInLast 10 = .ok (.iconst 1, 1) := by decide +kernel
theorem dX10_isInLast_11 : decode cX10_isInLast 11 = .ok (.goto 4, 3) := by decide +kernel
theorem dX10_isInLast_14 : decode cX10_isInLast 14 = .ok (.iconst 0, 1) := by decide +kernel
theorem dX10_isInLast_15 : decode cX10_isInLast 15 = .ok (.ireturn, 1) := by decide +kernel
theorem dX10_tallyUp_0 : decode cX10_tallyUp 0 = .ok (.aload_n 0, 1) := by decide +kernel
theorem dX10_tallyUp_1 : decode cX10_tallyUp 1 = .ok (.getfield 61, 3) := by decide +kernel
theorem dX10_tallyUp_4 : decode cX10_tallyUp 4 = .ok (.invokevirtual 341, 3) := by decide +kernel
theorem dX10_tallyUp_7 : decode cX10_tallyUp 7 = .ok (.iconst 0, 1) := by decide +kernel
theorem dX10_tallyUp_8 : decode cX10_tallyUp 8 = .ok (.istore_n 3, 1) := by decide +kernel
theorem dX10_tallyUp_9 : decode cX10_tallyUp 9 = .ok (.iload_n 3, 1) := by decide +kernel
theorem dX10_tallyUp_10 : decode cX10_tallyUp 10 = .ok (.aload_n 0, 1) := by decide +kernel
theorem dX10_tallyUp_11 : decode cX10_tallyUp 11 = .ok (.getfield 210, 3) := by decide +kernel
theorem dX10_tallyUp_14 : decode cX10_tallyUp 14 = .ok (.if_icmp .ge 51, 3) := by decide +kernel
theorem dX10_tallyUp_17 : decode cX10_tallyUp 17 = .ok (.aload_n 0, 1) := by decide +kernel
theorem dX10_tallyUp_18 : decode cX10_tallyUp 18 = .ok (.getfield 30, 3) := by decide +kernel
theorem dX10_tallyUp_21 : decode cX10_tallyUp 21 = .ok (.iload_n 3, 1) := by decide +kernel
theorem dX10_tallyUp_22 : decode cX10_tallyUp 22 = .ok (.aaload, 1) := by decide +kernel
theorem dX10_tallyUp_23 : decode cX10_tallyUp 23 = .ok (.astore 4, 2) := by decide +kernel
theorem dX10_tallyUp_25 : decode cX10_tallyUp 25 = .ok (.aload_n 0, 1) := by decide +kernel
theorem dX10_tallyUp_26 : decode cX10_tallyUp 26 = .ok (.sipush 1095, 3) := by decide +kernel
theorem dX10_tallyUp_29 : decode cX10_tallyUp 29 = .ok (.aload 4, 2) := by decide +kernel
theorem dX10_tallyUp_31 : decode cX10_tallyUp 31 = .ok (.getfield 236, 3) := by decide +kernel
theorem dX10_tallyUp_34 : decode cX10_tallyUp 34 = .ok (.invokevirtual 344, 3) := by decide +kernel
theorem dX10_tallyUp_37 : decode cX10_tallyUp 37 = .ok (.ifCond .eq 22, 3) := by decide +kernel
theorem dX10_tallyUp_40 : decode cX10_tallyUp 40 = .ok (.aload_n 0, 1) := by decide +kernel
theorem dX10_tallyUp_41 : decode cX10_tallyUp 41 = .ok (.getfield 61, 3) := by decide +kernel
theorem dX10_tallyUp_44 : decode cX10_tallyUp 44 = .ok (.aload 4, 2) := by decide +kernel
theorem dX10_tallyUp_46 : decode cX10_tallyUp 46 = .ok (.iload_n 1, 1) := by decide +kernel
theorem dX10_tallyUp_47 : decode cX10_tallyUp 47 = .ok (.iload_n 2, 1) := by decide +kernel
theorem dX10_tallyUp_48 : decode cX10_tallyUp 48 = .ok (.invokestatic 347, 3) := by decide +kernel
theorem dX10_tallyUp_51 : decode cX10_tallyUp 51 = .ok (.aload 4, 2) := by decide +kernel
theorem dX10_tallyUp_53 : decode cX10_tallyUp 53 = .ok (.getfield 242, 3) := by decide +kernel
theorem dX10_tallyUp_56 : decode cX10_tallyUp 56 = .ok (.invokevirtual 351, 3) := by decide +kernel
theorem dX10_tallyUp_59 : decode cX10_tallyUp 59 = .ok (.iinc 3 1, 3) := by decide +kernel
theorem dX10_tallyUp_62 : decode cX10_tallyUp 62 = .ok (.goto (-53), 3) := by decide +kernel
theorem dX10_tallyUp_65 : decode cX10_tallyUp 65 = .ok (.return_, 1) := by decide +kernel
theorem dX10_isOfGroup_0 : decode cX10_isOfGroup 0 = .ok (.aload_n 0, 1) := by decide +kernel
theorem dX10_isOfGroup_1 : decode cX10_isOfGroup 1 = .ok (.getfield 230, 3) := by decide +kernel
theorem dX10_isOfGroup_4 : decode cX10_isOfGroup 4 = .ok (.getfield 164, 3) := by decide +kernel
theorem dX10_isOfGroup_7 : decode cX10_isOfGroup 7 = .ok (.astore_n 3, 1) := by decide +kernel
theorem dX10_isOfGroup_8 : decode cX10_isOfGroup 8 = .ok (.iload_n 1, 1) := by decide +kernel
theorem dX10_isOfGroup_9 : decode cX10_isOfGroup 9 = .ok (.ifCond .ne 22, 3) := by decide +kernel
theorem dX10_isOfGroup_12 : decode cX10_isOfGroup 12 = .ok (.aload_n 3, 1) := by decide +kernel
theorem dX10_isOfGroup_13 : decode cX10_isOfGroup 13 = .ok (.iconst 1, 1) := by decide +kernel
theorem dX10_isOfGroup_14 : decode cX10_isOfGroup 14 = .ok (.aload_n 0, 1) := by decide +kernel
theorem dX10_isOfGroup_15 : decode cX10_isOfGroup 15 = .ok (.getfield 236, 3) := by decide +kernel
theorem dX10_isOfGroup_18 : decode cX10_isOfGroup 18 = .ok (.invokevirtual 115, 3) := by decide +kernel
theorem dX10_isOfGroup_21 : decode cX10_isOfGroup 21 = .ok (.iload_n 2, 1) := by decide +kernel
theorem dX10_isOfGroup_22 : decode cX10_isOfGroup 22 = .ok (.if_icmp .ne 7, 3) := by decide +kernel
theorem dX10_isOfGroup_25 : decode cX10_isOfGroup 25 = .ok (.iconst 1, 1) := by decide +kernel
theorem dX10_isOfGroup_26 : decode cX10_isOfGroup 26 = .ok (.goto 4, 3) := by decide +kernel
theorem dX10_isOfGroup_29 : decode cX10_isOfGroup 29 = .ok (.iconst 0, 1) := by decide +kernel
theorem dX10_isOfGroup_30 : decode cX10_isOfGroup 30 = .ok (.ireturn, 1) := by decide +kernel
theorem dX10_isOfGroup_31 : decode cX10_isOfGroup 31 = .ok (.iload_n 1, 1) := by decide +kernel
theorem dX10_isOfGroup_32 : decode cX10_isOfGroup 32 = .ok (.iconst 2, 1) := by decide +kernel
theorem dX10_isOfGroup_33 : decode cX10_isOfGroup 33 = .ok (.if_icmp .eq 11, 3) := by decide +kernel
theorem dX10_isOfGroup_36 : decode cX10_isOfGroup 36 = .ok (.aload_n 3, 1) := by decide +kernel
theorem dX10_isOfGroup_37 : decode cX10_isOfGroup 37 = .ok (.getfield 355, 3) := by decide +kernel
theorem dX10_isOfGroup_40 : decode cX10_isOfGroup 40 = .ok (.iload_n 2, 1) := by decide +kernel
theorem dX10_isOfGroup_41 : decode cX10_isOfGroup 41 = .ok (.if_icmp .ne 7, 3) := by decide +kernel
theorem dX10_isOfGroup_44 : decode cX10_isOfGroup 44 = .ok (.iconst 1, 1) := by decide +kernel
theorem dX10_isOfGroup_45 : decode cX10_isOfGroup 45 = .ok (.goto 4, 3) := by decide +kernel
theorem dX10_isOfGroup_48 : decode cX10_isOfGroup 48 = .ok (.iconst 0, 1) := by decide +kernel
theorem dX10_isOfGroup_49 : decode cX10_isOfGroup 49 = .ok (.ireturn, 1) := by decide +kernel
theorem dX10_isDarkGroup_0 : decode cX10_isDarkGroup 0 = .ok (.aload_n 0, 1) := by decide +kernel
theorem dX10_isDarkGroup_1 : decode cX10_isDarkGroup 1 = .ok (.iload_n 1, 1) := by decide +kernel
theorem dX10_isDarkGroup_2 : decode cX10_isDarkGroup 2 = .ok (.iload_n 2, 1) := by decide +kernel
theorem dX10_isDarkGroup_3 : decode cX10_isDarkGroup 3 = .ok (.invokevirtual 248, 3) := by decide +kernel
theorem dX10_isDarkGroup_6 : decode cX10_isDarkGroup 6 = .ok (.aload_n 0, 1) := by decide +kernel
theorem dX10_isDarkGroup_7 : decode cX10_isDarkGroup 7 = .ok (.getfield 61, 3) := by decide +kernel
theorem dX10_isDarkGroup_10 : decode cX10_isDarkGroup 10 = .ok (.invokevirtual 255, 3) := by decide +kernel
theorem dX10_isDarkGroup_13 : decode cX10_isDarkGroup 13 = .ok (.ireturn, 1) := by decide +kernel
theorem dX10_riskOf_0 : decode cX10_riskOf 0 = .ok (.iconst 1, 1) := by decide +kernel
theorem dX10_riskOf_1 : decode cX10_riskOf 1 = .ok (.istore_n 2, 1) := by decide +kernel
theorem dX10_riskOf_2 : decode cX10_riskOf 2 = .ok (.aload_n 0, 1) := by decide +kernel
theorem dX10_riskOf_3 : decode cX10_riskOf 3 = .ok (.getfield 79, 3) := by decide +kernel
theorem dX10_riskOf_6 : decode cX10_riskOf 6 = .ok (.aload_n 1, 1) := by decide +kernel
theorem dX10_riskOf_7 : decode cX10_riskOf 7 = .ok (.getfield 358, 3) := by decide +kernel
theorem dX10_riskOf_10 : decode cX10_riskOf 10 = .ok (.isub, 1) := by decide +kernel
theorem dX10_riskOf_11 : decode cX10_riskOf 11 = .ok (.sipush 5475, 3) := by decide +kernel
theorem dX10_riskOf_14 : decode cX10_riskOf 14 = .ok (.if_icmp .lt 6, 3) := by decide +kernel
theorem dX10_riskOf_17 : decode cX10_riskOf 17 = .ok (.iinc 2 2, 3) := by decide +kernel
theorem dX10_riskOf_20 : decode cX10_riskOf 20 = .ok (.aload_n 0, 1) := by decide +kernel
theorem dX10_riskOf_21 : decode cX10_riskOf 21 = .ok (.iconst 0, 1) := by decide +kernel
theorem dX10_riskOf_22 : decode cX10_riskOf 22 = .ok (.aload_n 1, 1) := by decide +kernel
theorem dX10_riskOf_23 : decode cX10_riskOf 23 = .ok (.iconst 1, 1) := by decide +kernel
theorem dX10_riskOf_24 : decode cX10_riskOf 24 = .ok (.aload_n 0, 1) := by decide +kernel
theorem dX10_riskOf_25 : decode cX10_riskOf 25 = .ok (.getfield 79, 3) := by decide +kernel
theorem dX10_riskOf_28 : decode cX10_riskOf 28 = .ok (.invokevirtual 115, 3) := by decide +kernel
theorem dX10_riskOf_31 : decode cX10_riskOf 31 = .ok (.invokevirtual 361, 3) := by decide +kernel
theorem dX10_riskOf_34 : decode cX10_riskOf 34 = .ok (.ifCond .eq 6, 3) := by decide +kernel
theorem dX10_riskOf_37 : decode cX10_riskOf 37 = .ok (.iinc 2 3, 3) := by decide +kernel
theorem dX10_riskOf_40 : decode cX10_riskOf 40 = .ok (.aload_n 0, 1) := by decide +kernel
theorem dX10_riskOf_41 : decode cX10_riskOf 41 = .ok (.iconst 1, 1) := by decide +kernel
theorem dX10_riskOf_42 : decode cX10_riskOf 42 = .ok (.aload_n 1, 1) := by decide +kernel
theorem dX10_riskOf_43 : decode cX10_riskOf 43 = .ok (.getfield 355, 3) := by decide +kernel
theorem dX10_riskOf_46 : decode cX10_riskOf 46 = .ok (.invokevirtual 361, 3) := by decide +kernel
theorem dX10_riskOf_49 : decode cX10_riskOf 49 = .ok (.ifCond .eq 6, 3) := by decide +kernel
theorem dX10_riskOf_52 : decode cX10_riskOf 52 = .ok (.iinc 2 2, 3) := by decide +kernel
theorem dX10_riskOf_55 : decode cX10_riskOf 55 = .ok (.iload_n 2, 1) := by decide +kernel
theorem dX10_riskOf_56 : decode cX10_riskOf 56 = .ok (.iconst 4, 1) := by decide +kernel
theorem dX10_riskOf_57 : decode cX10_riskOf 57 = .ok (.aload_n 0, 1) := by decide +kernel
theorem dX10_riskOf_58 : decode cX10_riskOf 58 = .ok (.aload_n 1, 1) := by decide +kernel
theorem dX10_riskOf_59 : decode cX10_riskOf 59 = .ok (.invokevirtual 364, 3) := by decide +kernel
theorem dX10_riskOf_62 : decode cX10_riskOf 62 = .ok (.invokestatic 367, 3) := by decide +kernel
theorem dX10_riskOf_65 : decode cX10_riskOf 65 = .ok (.iadd, 1) := by decide +kernel
theorem dX10_riskOf_66 : decode cX10_riskOf 66 = .ok (.istore_n 2, 1) := by decide +kernel
theorem dX10_riskOf_67 : decode cX10_riskOf 67 = .ok (.aload_n 1, 1) := by decide +kernel
theorem dX10_riskOf_68 : decode cX10_riskOf 68 = .ok (.getfield 219, 3) := by decide +kernel
theorem dX10_riskOf_71 : decode cX10_riskOf 71 = .ok (.ifCond .lt 10, 3) := by decide +kernel
theorem dX10_riskOf_74 : decode cX10_riskOf 74 = .ok (.aload_n 1, 1) := by decide +kernel
theorem dX10_riskOf_75 : decode cX10_riskOf 75 = .ok (.getfield 219, 3) := by decide +kernel
theorem dX10_riskOf_78 : decode cX10_riskOf 78 = .ok (.goto 7, 3) := by decide +kernel
theorem dX10_riskOf_81 : decode cX10_riskOf 81 = .ok (.aload_n 1, 1) := by decide +kernel
theorem dX10_riskOf_82 : decode cX10_riskOf 82 = .ok (.getfield 358, 3) := by decide +kernel
theorem dX10_riskOf_85 : decode cX10_riskOf 85 = .ok (.istore_n 3, 1) := by decide +kernel
theorem dX10_riskOf_86 : decode cX10_riskOf 86 = .ok (.iload_n 2, 1) := by decide +kernel
theorem dX10_riskOf_87 : decode cX10_riskOf 87 = .ok (.iconst 5, 1) := by decide +kernel
theorem dX10_riskOf_88 : decode cX10_riskOf 88 = .ok (.aload_n 0, 1) := by decide +kernel
theorem dX10_riskOf_89 : decode cX10_riskOf 89 = .ok (.getfield 79, 3) := by decide +kernel
theorem dX10_riskOf_92 : decode cX10_riskOf 92 = .ok (.iload_n 3, 1) := by decide +kernel
theorem dX10_riskOf_93 : decode cX10_riskOf 93 = .ok (.isub, 1) := by decide +kernel
theorem dX10_riskOf_94 : decode cX10_riskOf 94 = .ok (.sipush 365, 3) := by decide +kernel
theorem dX10_riskOf_97 : decode cX10_riskOf 97 = .ok (.idiv, 1) := by decide +kernel
theorem dX10_riskOf_98 : decode cX10_riskOf 98 = .ok (.invokestatic 367, 3) := by decide +kernel
theorem dX10_riskOf_101 : decode cX10_riskOf 101 = .ok (.iadd, 1) := by decide +kernel
theorem dX10_riskOf_102 : decode cX10_riskOf 102 = .ok (.istore_n 2, 1) := by decide +kernel
theorem dX10_riskOf_103 : decode cX10_riskOf 103 = .ok (.aload_n 1, 1) := by decide +kernel
theorem dX10_riskOf_104 : decode cX10_riskOf 104 = .ok (.getfield 100, 3) := by decide +kernel
theorem dX10_riskOf_107 : decode cX10_riskOf 107 = .ok (.iconst 1, 1) := by decide +kernel
theorem dX10_riskOf_108 : decode cX10_riskOf 108 = .ok (.invokestatic 103, 3) := by decide +kernel
theorem dX10_riskOf_111 : decode cX10_riskOf 111 = .ok (.ifCond .eq 9, 3) := by decide +kernel
theorem dX10_riskOf_114 : decode cX10_riskOf 114 = .ok (.iconst 2, 1) := by decide +kernel
theorem dX10_riskOf_115 : decode cX10_riskOf 115 = .ok (.iload_n 2, 1) := by decide +kernel
theorem dX10_riskOf_116 : decode cX10_riskOf 116 = .ok (.imul, 1) := by decide +kernel
theorem dX10_riskOf_117 : decode cX10_riskOf 117 = .ok (.goto 4, 3) := by decide +kernel
theorem dX10_riskOf_120 : decode cX10_riskOf 120 = .ok (.iload_n 2, 1) := by decide +kernel
theorem dX10_riskOf_121 : decode cX10_riskOf 121 = .ok (.ireturn, 1) := by decide +kernel
theorem dX10_holdsInFleet_0 : decode cX10_holdsInFleet 0 = .ok (.aload_n 0, 1) := by decide +kernel
theorem dX10_holdsInFleet_1 : decode cX10_holdsInFleet 1 = .ok (.aload_n 1, 1) := by decide +kernel
theorem dX10_holdsInFleet_2 : decode cX10_holdsInFleet 2 = .ok (.iconst 2, 1) := by decide +kernel
theorem dX10_holdsInFleet_3 : decode cX10_holdsInFleet 3 = .ok (.aload_n 0, 1) := by decide +kernel
theorem dX10_holdsInFleet_4 : decode cX10_holdsInFleet 4 = .ok (.getfield 79, 3) := by decide +kernel
theorem dX10_holdsInFleet_7 : decode cX10_holdsInFleet 7 = .ok (.invokevirtual 115, 3) := by decide +kernel
theorem dX10_holdsInFleet_10 : decode cX10_holdsInFleet 10 = .ok (.aload_n 0, 1) := by decide +kernel
theorem dX10_holdsInFleet_11 : decode cX10_holdsInFleet 11 = .ok (.getfield 79, 3) := by decide +kernel
theorem dX10_holdsInFleet_14 : decode cX10_holdsInFleet 14 = .ok (.invokevirtual 130, 3) := by decide +kernel
theorem dX10_holdsInFleet_17 : decode cX10_holdsInFleet 17 = .ok (.istore_n 2, 1) := by decide +kernel
theorem dX10_holdsInFleet_18 : decode cX10_holdsInFleet 18 = .ok (.iconst 0, 1) := by decide +kernel
theorem dX10_holdsInFleet_19 : decode cX10_holdsInFleet 19 = .ok (.istore_n 3, 1) := by decide +kernel
theorem dX10_holdsInFleet_20 : decode cX10_holdsInFleet 20 = .ok (.iconst 0, 1) := by decide +kernel
theorem dX10_holdsInFleet_21 : decode cX10_holdsInFleet 21 = .ok (.istore 4, 2) := by decide +kernel
theorem dX10_holdsInFleet_23 : decode cX10_holdsInFleet 23 = .ok (.iload 4, 2) := by decide +kernel
theorem dX10_holdsInFleet_25 : decode cX10_holdsInFleet 25 = .ok (.aload_n 0, 1) := by decide +kernel
theorem dX10_holdsInFleet_26 : decode cX10_holdsInFleet 26 = .ok (.getfield 210, 3) := by decide +kernel
theorem dX10_holdsInFleet_29 : decode cX10_holdsInFleet 29 = .ok (.if_icmp .ge 85, 3) := by decide +kernel
theorem dX10_holdsInFleet_32 : decode cX10_holdsInFleet 32 = .ok (.aload_n 0, 1) := by decide +kernel
theorem dX10_holdsInFleet_33 : decode cX10_holdsInFleet 33 = .ok (.getfield 30, 3) := by decide +kernel
theorem dX10_holdsInFleet_36 : decode cX10_holdsInFleet 36 = .ok (.iload 4, 2) := by decide +kernel
theorem dX10_holdsInFleet_38 : decode cX10_holdsInFleet 38 = .ok (.aaload, 1) := by decide +kernel
theorem dX10_holdsInFleet_39 : decode cX10_holdsInFleet 39 = .ok (.astore 5, 2) := by decide +kernel
theorem dX10_holdsInFleet_41 : decode cX10_holdsInFleet 41 = .ok (.aload 5, 2) := by decide +kernel
theorem dX10_holdsInFleet_43 : decode cX10_holdsInFleet 43 = .ok (.getfield 230, 3) := by decide +kernel
theorem dX10_holdsInFleet_46 : decode cX10_holdsInFleet 46 = .ok (.getfield 164, 3) := by decide +kernel
theorem dX10_holdsInFleet_49 : decode cX10_holdsInFleet 49 = .ok (.astore 6, 2) := by decide +kernel
theorem dX10_holdsInFleet_51 : decode cX10_holdsInFleet 51 = .ok (.aload 5, 2) := by decide +kernel
theorem dX10_holdsInFleet_53 : decode cX10_holdsInFleet 53 = .ok (.getfield 242, 3) := by decide +kernel
theorem dX10_holdsInFleet_56 : decode cX10_holdsInFleet 56 = .ok (.ifCond .eq 28, 3) := by decide +kernel
theorem dX10_holdsInFleet_59 : decode cX10_holdsInFleet 59 = .ok (.aload_n 0, 1) := by decide +kernel
theorem dX10_holdsInFleet_60 : decode cX10_holdsInFleet 60 = .ok (.sipush 365, 3) := by decide +kernel
theorem dX10_holdsInFleet_63 : decode cX10_holdsInFleet 63 = .ok (.aload 5, 2) := by decide +kernel
theorem dX10_holdsInFleet_65 : decode cX10_holdsInFleet 65 = .ok (.getfield 236, 3) := by decide +kernel
theorem dX10_holdsInFleet_68 : decode cX10_holdsInFleet 68 = .ok (.invokevirtual 344, 3) := by decide +kernel
theorem dX10_holdsInFleet_71 : decode cX10_holdsInFleet 71 = .ok (.ifCond .eq 13, 3) := by decide +kernel
theorem dX10_holdsInFleet_74 : decode cX10_holdsInFleet 74 = .ok (.aload 6, 2) := by decide +kernel
theorem dX10_holdsInFleet_76 : decode cX10_holdsInFleet 76 = .ok (.aload_n 1, 1) := by decide +kernel
theorem dX10_holdsInFleet_77 : decode cX10_holdsInFleet 77 = .ok (.if_acmp .eq 7, 3) := by decide +kernel
theorem dX10_holdsInFleet_80 : decode cX10_holdsInFleet 80 = .ok (.iconst 1, 1) := by decide +kernel
theorem dX10_holdsInFleet_81 : decode cX10_holdsInFleet 81 = .ok (.goto 4, 3) := by decide +kernel
theorem dX10_holdsInFleet_84 : decode cX10_holdsInFleet 84 = .ok (.iconst 0, 1) := by decide +kernel
theorem dX10_holdsInFleet_85 : decode cX10_holdsInFleet 85 = .ok (.istore 7, 2) := by decide +kernel
theorem dX10_holdsInFleet_87 : decode cX10_holdsInFleet 87 = .ok (.iload 7, 2) := by decide +kernel
theorem dX10_holdsInFleet_89 : decode cX10_holdsInFleet 89 = .ok (.ifCond .eq 19, 3) := by decide +kernel
theorem dX10_holdsInFleet_92 : decode cX10_holdsInFleet 92 = .ok (.iload_n 2, 1) := by decide +kernel
theorem dX10_holdsInFleet_93 : decode cX10_holdsInFleet 93 = .ok (.aload 6, 2) := by decide +kernel
theorem dX10_holdsInFleet_95 : decode cX10_holdsInFleet 95 = .ok (.getfield 168, 3) := by decide +kernel
theorem dX10_holdsInFleet_98 : decode cX10_holdsInFleet 98 = .ok (.ishr, 1) := by decide +kernel
theorem dX10_holdsInFleet_99 : decode cX10_holdsInFleet 99 = .ok (.iconst 1, 1) := by decide +kernel
theorem dX10_holdsInFleet_100 : decode cX10_holdsInFleet 100 = .ok (.iand, 1) := by decide +kernel
theorem dX10_holdsInFleet_101 : decode cX10_holdsInFleet 101 = .ok (.iconst 1, 1) := by decide +kernel
theorem dX10_holdsInFleet_102 : decode cX10_holdsInFleet 102 = .ok (.if_icmp .ne 6, 3) := by decide +kernel
theorem dX10_holdsInFleet_105 : decode cX10_holdsInFleet 105 = .ok (.iinc 3 1, 3) := by decide +kernel
theorem dX10_holdsInFleet_108 : decode cX10_holdsInFleet 108 = .ok (.iinc 4 1, 3) := by decide +kernel
theorem dX10_holdsInFleet_111 : decode cX10_holdsInFleet 111 = .ok (.goto (-88), 3) := by decide +kernel
theorem dX10_holdsInFleet_114 : decode cX10_holdsInFleet 114 = .ok (.iload_n 3, 1) := by decide +kernel
theorem dX10_holdsInFleet_115 : decode cX10_holdsInFleet 115 = .ok (.ireturn, 1) := by decide +kernel
theorem dX10_gatherBoarding_0 : decode cX10_gatherBoarding 0 = .ok (.aload_n 0, 1) := by decide +kernel
theorem dX10_gatherBoarding_1 : decode cX10_gatherBoarding 1 = .ok (.getfield 68, 3) := by decide +kernel
theorem dX10_gatherBoarding_4 : decode cX10_gatherBoarding 4 = .ok (.iconst 0, 1) := by decide +kernel
theorem dX10_gatherBoarding_5 : decode cX10_gatherBoarding 5 = .ok (.putfield 372, 3) := by decide +kernel
theorem dX10_gatherBoarding_8 : decode cX10_gatherBoarding 8 = .ok (.iconst 0, 1) := by decide +kernel
theorem dX10_gatherBoarding_9 : decode cX10_gatherBoarding 9 = .ok (.istore_n 2, 1) := by decide +kernel
theorem dX10_gatherBoarding_10 : decode cX10_gatherBoarding 10 = .ok (.iload_n 2, 1) := by decide +kernel
theorem dX10_gatherBoarding_11 : decode cX10_gatherBoarding 11 = .ok (.aload_n 0, 1) := by decide +kernel
theorem dX10_gatherBoarding_12 : decode cX10_gatherBoarding 12 = .ok (.getfield 86, 3) := by decide +kernel
theorem dX10_gatherBoarding_15 : decode cX10_gatherBoarding 15 = .ok (.if_icmp .ge 67, 3) := by decide +kernel
theorem dX10_gatherBoarding_18 : decode cX10_gatherBoarding 18 = .ok (.aload_n 0, 1) := by decide +kernel
theorem dX10_gatherBoarding_19 : decode cX10_gatherBoarding 19 = .ok (.getfield 68, 3) := by decide +kernel
theorem dX10_gatherBoarding_22 : decode cX10_gatherBoarding 22 = .ok (.getfield 372, 3) := by decide +kernel
theorem dX10_gatherBoarding_25 : decode cX10_gatherBoarding 25 = .ok (.bipush 8, 2) := by decide +kernel
theorem dX10_gatherBoarding_27 : decode cX10_gatherBoarding 27 = .ok (.if_icmp .ge 55, 3) := by decide +kernel
theorem dX10_gatherBoarding_30 : decode cX10_gatherBoarding 30 = .ok (.aload_n 0, 1) := by decide +kernel
theorem dX10_gatherBoarding_31 : decode cX10_gatherBoarding 31 = .ok (.getfield 11, 3) := by decide +kernel
theorem dX10_gatherBoarding_34 : decode cX10_gatherBoarding 34 = .ok (.iload_n 2, 1) := by decide +kernel
theorem dX10_gatherBoarding_35 : decode cX10_gatherBoarding 35 = .ok (.aaload, 1) := by decide +kernel
theorem dX10_gatherBoarding_36 : decode cX10_gatherBoarding 36 = .ok (.astore_n 3, 1) := by decide +kernel
theorem dX10_gatherBoarding_37 : decode cX10_gatherBoarding 37 = .ok (.aload_n 3, 1) := by decide +kernel
theorem dX10_gatherBoarding_38 : decode cX10_gatherBoarding 38 = .ok (.getfield 133, 3) := by decide +kernel
theorem dX10_gatherBoarding_41 : decode cX10_gatherBoarding 41 = .ok (.ifnull 35, 3) := by decide +kernel
theorem dX10_gatherBoarding_44 : decode cX10_gatherBoarding 44 = .ok (.aload_n 3, 1) := by decide +kernel
theorem dX10_gatherBoarding_45 : decode cX10_gatherBoarding 45 = .ok (.getfield 133, 3) := by decide +kernel
theorem dX10_gatherBoarding_48 : decode cX10_gatherBoarding 48 = .ok (.getfield 169, 3) := by decide +kernel
theorem dX10_gatherBoarding_51 : decode cX10_gatherBoarding 51 = .ok (.iload_n 1, 1) := by decide +kernel
theorem dX10_gatherBoarding_52 : decode cX10_gatherBoarding 52 = .ok (.if_icmp .ne 24, 3) := by decide +kernel
theorem dX10_gatherBoarding_55 : decode cX10_gatherBoarding 55 = .ok (.aload_n 0, 1) := by decide +kernel
theorem dX10_gatherBoarding_56 : decode cX10_gatherBoarding 56 = .ok (.getfield 68, 3) := by decide +kernel
theorem dX10_gatherBoarding_59 : decode cX10_gatherBoarding 59 = .ok (.iload_n 2, 1) := by decide +kernel
theorem dX10_gatherBoarding_60 : decode cX10_gatherBoarding 60 = .ok (.getstatic 106, 3) := by decide +kernel
theorem dX10_gatherBoarding_63 : decode cX10_gatherBoarding 63 = .ok (.aload_n 3, 1) := by decide +kernel
theorem dX10_gatherBoarding_64 : decode cX10_gatherBoarding 64 = .ok (.getfield 100, 3) := by decide +kernel
theorem dX10_gatherBoarding_67 : decode cX10_gatherBoarding 67 = .ok (.iaload, 1) := by decide +kernel
theorem dX10_gatherBoarding_68 : decode cX10_gatherBoarding 68 = .ok (.aload_n 0, 1) := by decide +kernel
theorem dX10_gatherBoarding_69 : decode cX10_gatherBoarding 69 = .ok (.aload_n 3, 1) := by decide +kernel
theorem dX10_gatherBoarding_70 : decode cX10_gatherBoarding 70 = .ok (.invokevirtual 258, 3) := by decide +kernel
theorem dX10_gatherBoarding_73 : decode cX10_gatherBoarding 73 = .ok (.invokevirtual 375, 3) := by decide +kernel
theorem dX10_gatherBoarding_76 : decode cX10_gatherBoarding 76 = .ok (.iinc 2 1, 3) := by decide +kernel
theorem dX10_gatherBoarding_79 : decode cX10_gatherBoarding 79 = .ok (.goto (-69), 3) := by decide +kernel
theorem dX10_gatherBoarding_82 : decode cX10_gatherBoarding 82 = .ok (.return_, 1) := by decide +kernel
theorem dX10_banIfDue_0 : decode cX10_banIfDue 0 = .ok (.aload_n 1, 1) := by decide +kernel
theorem dX10_banIfDue_1 : decode cX10_banIfDue 1 = .ok (.invokevirtual 137, 3) := by decide +kernel
theorem dX10_banIfDue_4 : decode cX10_banIfDue 4 = .ok (.ifCond .eq 4, 3) := by decide +kernel
theorem dX10_banIfDue_7 : decode cX10_banIfDue 7 = .ok (.return_, 1) := by decide +kernel
theorem dX10_banIfDue_8 : decode cX10_banIfDue 8 = .ok (.aload_n 0, 1) := by decide +kernel
theorem dX10_banIfDue_9 : decode cX10_banIfDue 9 = .ok (.iconst 0, 1) := by decide +kernel
theorem dX10_banIfDue_10 : decode cX10_banIfDue 10 = .ok (.aload_n 1, 1) := by decide +kernel
theorem dX10_banIfDue_11 : decode cX10_banIfDue 11 = .ok (.iconst 1, 1) := by decide +kernel
theorem dX10_banIfDue_12 : decode cX10_banIfDue 12 = .ok (.aload_n 0, 1) := by decide +kernel
theorem dX10_banIfDue_13 : decode cX10_banIfDue 13 = .ok (.getfield 79, 3) := by decide +kernel
theorem dX10_banIfDue_16 : decode cX10_banIfDue 16 = .ok (.invokevirtual 115, 3) := by decide +kernel
theorem dX10_banIfDue_19 : decode cX10_banIfDue 19 = .ok (.invokevirtual 361, 3) := by decide +kernel
theorem dX10_banIfDue_22 : decode cX10_banIfDue 22 = .ok (.istore_n 2, 1) := by decide +kernel
theorem dX10_banIfDue_23 : decode cX10_banIfDue 23 = .ok (.iload_n 2, 1) := by decide +kernel
theorem dX10_banIfDue_24 : decode cX10_banIfDue 24 = .ok (.ifCond .eq 14, 3) := by decide +kernel
theorem dX10_banIfDue_27 : decode cX10_banIfDue 27 = .ok (.aload_n 0, 1) := by decide +kernel
theorem dX10_banIfDue_28 : decode cX10_banIfDue 28 = .ok (.getfield 47, 3) := by decide +kernel
theorem dX10_banIfDue_31 : decode cX10_banIfDue 31 = .ok (.iconst 2, 1) := by decide +kernel
theorem dX10_banIfDue_32 : decode cX10_banIfDue 32 = .ok (.imul, 1) := by decide +kernel
theorem dX10_banIfDue_33 : decode cX10_banIfDue 33 = .ok (.iconst 3, 1) := by decide +kernel
theorem dX10_banIfDue_34 : decode cX10_banIfDue 34 = .ok (.idiv, 1) := by decide +kernel
theorem dX10_banIfDue_35 : decode cX10_banIfDue 35 = .ok (.goto 7, 3) := by decide +kernel
theorem dX10_banIfDue_38 : decode cX10_banIfDue 38 = .ok (.aload_n 0, 1) := by decide +kernel
theorem dX10_banIfDue_39 : decode cX10_banIfDue 39 = .ok (.getfield 47, 3) := by decide +kernel
theorem dX10_banIfDue_42 : decode cX10_banIfDue 42 = .ok (.istore_n 3, 1) := by decide +kernel
theorem dX10_banIfDue_43 : decode cX10_banIfDue 43 = .ok (.iconst 0, 1) := by decide +kernel
theorem dX10_banIfDue_44 : decode cX10_banIfDue 44 = .ok (.istore 4, 2) := by decide +kernel
theorem dX10_banIfDue_46 : decode cX10_banIfDue 46 = .ok (.iconst 0, 1) := by decide +kernel
theorem dX10_banIfDue_47 : decode cX10_banIfDue 47 = .ok (.istore 5, 2) := by decide +kernel
theorem dX10_banIfDue_49 : decode cX10_banIfDue 49 = .ok (.iload 5, 2) := by decide +kernel
theorem dX10_banIfDue_51 : decode cX10_banIfDue 51 = .ok (.aload_n 0, 1) := by decide +kernel
theorem dX10_banIfDue_52 : decode cX10_banIfDue 52 = .ok (.getfield 210, 3) := by decide +kernel
theorem dX10_banIfDue_55 : decode cX10_banIfDue 55 = .ok (.if_icmp .ge 57, 3) := by decide +kernel
theorem dX10_banIfDue_58 : decode cX10_banIfDue 58 = .ok (.aload_n 0, 1) := by decide +kernel
theorem dX10_banIfDue_59 : decode cX10_banIfDue 59 = .ok (.getfield 30, 3) := by decide +kernel
theorem dX10_banIfDue_62 : decode cX10_banIfDue 62 = .ok (.iload 5, 2) := by decide +kernel
theorem dX10_banIfDue_64 : decode cX10_banIfDue 64 = .ok (.aaload, 1) := by decide +kernel
theorem dX10_banIfDue_65 : decode cX10_banIfDue 65 = .ok (.astore 6, 2) := by decide +kernel
theorem dX10_banIfDue_67 : decode cX10_banIfDue 67 = .ok (.aload 6, 2) := by decide +kernel
theorem dX10_banIfDue_69 : decode cX10_banIfDue 69 = .ok (.getfield 242, 3) := by decide +kernel
theorem dX10_banIfDue_72 : decode cX10_banIfDue 72 = .ok (.ifCond .eq 34, 3) := by decide +kernel
theorem dX10_banIfDue_75 : decode cX10_banIfDue 75 = .ok (.aload 6, 2) := by decide +kernel
theorem dX10_banIfDue_77 : decode cX10_banIfDue 77 = .ok (.getfield 230, 3) := by decide +kernel
theorem dX10_banIfDue_80 : decode cX10_banIfDue 80 = .ok (.getfield 164, 3) := by decide +kernel
theorem dX10_banIfDue_83 : decode cX10_banIfDue 83 = .ok (.aload_n 1, 1) := by decide +kernel
theorem dX10_banIfDue_84 : decode cX10_banIfDue 84 = .ok (.if_acmp .ne 22, 3) := by decide +kernel
theorem dX10_banIfDue_87 : decode cX10_banIfDue 87 = .ok (.aload_n 0, 1) := by decide +kernel
theorem dX10_banIfDue_88 : decode cX10_banIfDue 88 = .ok (.iload_n 3, 1) := by decide +kernel
theorem dX10_banIfDue_89 : decode cX10_banIfDue 89 = .ok (.bipush 30, 2) := by decide +kernel
theorem dX10_banIfDue_91 : decode cX10_banIfDue 91 = .ok (.imul, 1) := by decide +kernel
theorem dX10_banIfDue_92 : decode cX10_banIfDue 92 = .ok (.aload 6, 2) := by decide +kernel
theorem dX10_banIfDue_94 : decode cX10_banIfDue 94 = .ok (.getfield 236, 3) := by decide +kernel
theorem dX10_banIfDue_97 : decode cX10_banIfDue 97 = .ok (.invokevirtual 344, 3) := by decide +kernel
theorem dX10_banIfDue_100 : decode cX10_banIfDue 100 = .ok (.ifCond .eq 6, 3) := by decide +kernel
theorem dX10_banIfDue_103 : decode cX10_banIfDue 103 = .ok (.iinc 4 1, 3) := by decide +kernel
theorem dX10_banIfDue_106 : decode cX10_banIfDue 106 = .ok (.iinc 5 1, 3) := by decide +kernel
theorem dX10_banIfDue_109 : decode cX10_banIfDue 109 = .ok (.goto (-60), 3) := by decide +kernel
theorem dX10_banIfDue_112 : decode cX10_banIfDue 112 = .ok (.iload 4, 2) := by decide +kernel
theorem dX10_banIfDue_114 : decode cX10_banIfDue 114 = .ok (.iconst 3, 1) := by decide +kernel
theorem dX10_banIfDue_115 : decode cX10_banIfDue 115 = .ok (.if_icmp .lt 21, 3) := by decide +kernel
theorem dX10_banIfDue_118 : decode cX10_banIfDue 118 = .ok (.aload_n 1, 1) := by decide +kernel
theorem dX10_banIfDue_119 : decode cX10_banIfDue 119 = .ok (.aload_n 0, 1) := by decide +kernel
theorem dX10_banIfDue_120 : decode cX10_banIfDue 120 = .ok (.getfield 79, 3) := by decide +kernel
theorem dX10_banIfDue_123 : decode cX10_banIfDue 123 = .ok (.putfield 300, 3) := by decide +kernel
theorem dX10_banIfDue_126 : decode cX10_banIfDue 126 = .ok (.aload_n 1, 1) := by decide +kernel
theorem dX10_banIfDue_127 : decode cX10_banIfDue 127 = .ok (.dup, 1) := by decide +kernel
theorem dX10_banIfDue_128 : decode cX10_banIfDue 128 = .ok (.getfield 297, 3) := by decide +kernel
theorem dX10_banIfDue_131 : decode cX10_banIfDue 131 = .ok (.iconst 1, 1) := by decide +kernel
theorem dX10_banIfDue_132 : decode cX10_banIfDue 132 = .ok (.iadd, 1) := by decide +kernel
theorem dX10_banIfDue_133 : decode cX10_banIfDue 133 = .ok (.putfield 297, 3) := by decide +kernel
theorem dX10_banIfDue_136 : decode cX10_banIfDue 136 = .ok (.return_, 1) := by decide +kernel
theorem dX10_shipsInPorts_0 : decode cX10_shipsInPorts 0 = .ok (.iconst 0, 1) := by decide +kernel
theorem dX10_shipsInPorts_1 : decode cX10_shipsInPorts 1 = .ok (.istore_n 1, 1) := by decide +kernel
theorem dX10_shipsInPorts_2 : decode cX10_shipsInPorts 2 = .ok (.iconst 0, 1) := by decide +kernel
theorem dX10_shipsInPorts_3 : decode cX10_shipsInPorts 3 = .ok (.istore_n 2, 1) := by decide +kernel
theorem dX10_shipsInPorts_4 : decode cX10_shipsInPorts 4 = .ok (.iload_n 2, 1) := by decide +kernel
theorem dX10_shipsInPorts_5 : decode cX10_shipsInPorts 5 = .ok (.aload_n 0, 1) := by decide +kernel
theorem dX10_shipsInPorts_6 : decode cX10_shipsInPorts 6 = .ok (.getfield 86, 3) := by decide +kernel
theorem dX10_shipsInPorts_9 : decode cX10_shipsInPorts 9 = .ok (.if_icmp .ge 29, 3) := by decide +kernel
theorem dX10_shipsInPorts_12 : decode cX10_shipsInPorts 12 = .ok (.iload_n 1, 1) := by decide +kernel
theorem dX10_shipsInPorts_13 : decode cX10_shipsInPorts 13 = .ok (.aload_n 0, 1) := by decide +kernel
theorem dX10_shipsInPorts_14 : decode cX10_shipsInPorts 14 = .ok (.getfield 11, 3) := by decide +kernel
theorem dX10_shipsInPorts_17 : decode cX10_shipsInPorts 17 = .ok (.iload_n 2, 1) := by decide +kernel
theorem dX10_shipsInPorts_18 : decode cX10_shipsInPorts 18 = .ok (.aaload, 1) := by decide +kernel
theorem dX10_shipsInPorts_19 : decode cX10_shipsInPorts 19 = .ok (.getfield 133, 3) := by decide +kernel
theorem dX10_shipsInPorts_22 : decode cX10_shipsInPorts 22 = .ok (.ifnull 7, 3) := by decide +kernel
theorem dX10_shipsInPorts_25 : decode cX10_shipsInPorts 25 = .ok (.iconst 1, 1) := by decide +kernel
theorem dX10_shipsInPorts_26 : decode cX10_shipsInPorts 26 = .ok (.goto 4, 3) := by decide +kernel
theorem dX10_shipsInPorts_29 : decode cX10_shipsInPorts 29 = .ok (.iconst 0, 1) := by decide +kernel
theorem dX10_shipsInPorts_30 : decode cX10_shipsInPorts 30 = .ok (.iadd, 1) := by decide +kernel
theorem dX10_shipsInPorts_31 : decode cX10_shipsInPorts 31 = .ok (.istore_n 1, 1) := by decide +kernel
theorem dX10_shipsInPorts_32 : decode cX10_shipsInPorts 32 = .ok (.iinc 2 1, 3) := by decide +kernel
theorem dX10_shipsInPorts_35 : decode cX10_shipsInPorts 35 = .ok (.goto (-31), 3) := by decide +kernel
theorem dX10_shipsInPorts_38 : decode cX10_shipsInPorts 38 = .ok (.iload_n 1, 1) := by decide +kernel
theorem dX10_shipsInPorts_39 : decode cX10_shipsInPorts 39 = .ok (.ireturn, 1) := by decide +kernel
theorem dX10_heldCalls_0 : decode cX10_heldCalls 0 = .ok (.iconst 0, 1) := by decide +kernel
theorem dX10_heldCalls_1 : decode cX10_heldCalls 1 = .ok (.istore_n 1, 1) := by decide +kernel
theorem dX10_heldCalls_2 : decode cX10_heldCalls 2 = .ok (.iconst 0, 1) := by decide +kernel
theorem dX10_heldCalls_3 : decode cX10_heldCalls 3 = .ok (.istore_n 2, 1) := by decide +kernel
theorem dX10_heldCalls_4 : decode cX10_heldCalls 4 = .ok (.iload_n 2, 1) := by decide +kernel
theorem dX10_heldCalls_5 : decode cX10_heldCalls 5 = .ok (.aload_n 0, 1) := by decide +kernel
theorem dX10_heldCalls_6 : decode cX10_heldCalls 6 = .ok (.getfield 141, 3) := by decide +kernel
theorem dX10_heldCalls_9 : decode cX10_heldCalls 9 = .ok (.if_icmp .ge 29, 3) := by decide +kernel
theorem dX10_heldCalls_12 : decode cX10_heldCalls 12 = .ok (.iload_n 1, 1) := by decide +kernel
theorem dX10_heldCalls_13 : decode cX10_heldCalls 13 = .ok (.aload_n 0, 1) := by decide +kernel
theorem dX10_heldCalls_14 : decode cX10_heldCalls 14 = .ok (.getfield 24, 3) := by decide +kernel
theorem dX10_heldCalls_17 : decode cX10_heldCalls 17 = .ok (.iload_n 2, 1) := by decide +kernel
theorem dX10_heldCalls_18 : decode cX10_heldCalls 18 = .ok (.aaload, 1) := by decide +kernel
theorem dX10_heldCalls_19 : decode cX10_heldCalls 19 = .ok (.getfield 157, 3) := by decide +kernel
theorem dX10_heldCalls_22 : decode cX10_heldCalls 22 = .ok (.ifCond .eq 7, 3) := by decide +kernel
theorem dX10_heldCalls_25 : decode cX10_heldCalls 25 = .ok (.iconst 1, 1) := by decide +kernel
theorem dX10_heldCalls_26 : decode cX10_heldCalls 26 = .ok (.goto 4, 3) := by decide +kernel
theorem dX10_heldCalls_29 : decode cX10_heldCalls 29 = .ok (.iconst 0, 1) := by decide +kernel
theorem dX10_heldCalls_30 : decode cX10_heldCalls 30 = .ok (.iadd, 1) := by decide +kernel
theorem dX10_heldCalls_31 : decode cX10_heldCalls 31 = .ok (.istore_n 1, 1) := by decide +kernel
theorem dX10_heldCalls_32 : decode cX10_heldCalls 32 = .ok (.iinc 2 1, 3) := by decide +kernel
theorem dX10_heldCalls_35 : decode cX10_heldCalls 35 = .ok (.goto (-31), 3) := by decide +kernel
theorem dX10_heldCalls_38 : decode cX10_heldCalls 38 = .ok (.iload_n 1, 1) := by decide +kernel
theorem dX10_heldCalls_39 : decode cX10_heldCalls 39 = .ok (.ireturn, 1) := by decide +kernel
theorem dX10_bannedShips_0 : decode cX10_bannedShips 0 = .ok (.iconst 0, 1) := by decide +kernel
theorem dX10_bannedShips_1 : decode cX10_bannedShips 1 = .ok (.istore_n 1, 1) := by decide +kernel
theorem dX10_bannedShips_2 : decode cX10_bannedShips 2 = .ok (.iconst 0, 1) := by decide +kernel
theorem dX10_bannedShips_3 : decode cX10_bannedShips 3 = .ok (.istore_n 2, 1) := by decide +kernel
theorem dX10_bannedShips_4 : decode cX10_bannedShips 4 = .ok (.iload_n 2, 1) := by decide +kernel
theorem dX10_bannedShips_5 : decode cX10_bannedShips 5 = .ok (.aload_n 0, 1) := by decide +kernel
theorem dX10_bannedShips_6 : decode cX10_bannedShips 6 = .ok (.getfield 86, 3) := by decide +kernel
theorem dX10_bannedShips_9 : decode cX10_bannedShips 9 = .ok (.if_icmp .ge 29, 3) := by decide +kernel
theorem dX10_bannedShips_12 : decode cX10_bannedShips 12 = .ok (.iload_n 1, 1) := by decide +kernel
theorem dX10_bannedShips_13 : decode cX10_bannedShips 13 = .ok (.aload_n 0, 1) := by decide +kernel
theorem dX10_bannedShips_14 : decode cX10_bannedShips 14 = .ok (.getfield 11, 3) := by decide +kernel
theorem dX10_bannedShips_17 : decode cX10_bannedShips 17 = .ok (.iload_n 2, 1) := by decide +kernel
theorem dX10_bannedShips_18 : decode cX10_bannedShips 18 = .ok (.aaload, 1) := by decide +kernel
theorem dX10_bannedShips_19 : decode cX10_bannedShips 19 = .ok (.invokevirtual 137, 3) := by decide +kernel
theorem dX10_bannedShips_22 : decode cX10_bannedShips 22 = .ok (.ifCond .eq 7, 3) := by decide +kernel
theorem dX10_bannedShips_25 : decode cX10_bannedShips 25 = .ok (.iconst 1, 1) := by decide +kernel
theorem dX10_bannedShips_26 : decode cX10_bannedShips 26 = .ok (.goto 4, 3) := by decide +kernel
theorem dX10_bannedShips_29 : decode cX10_bannedShips 29 = .ok (.iconst 0, 1) := by decide +kernel
theorem dX10_bannedShips_30 : decode cX10_bannedShips 30 = .ok (.iadd, 1) := by decide +kernel
theorem dX10_bannedShips_31 : decode cX10_bannedShips 31 = .ok (.istore_n 1, 1) := by decide +kernel
theorem dX10_bannedShips_32 : decode cX10_bannedShips 32 = .ok (.iinc 2 1, 3) := by decide +kernel
theorem dX10_bannedShips_35 : decode cX10_bannedShips 35 = .ok (.goto (-31), 3) := by decide +kernel
theorem dX10_bannedShips_38 : decode cX10_bannedShips 38 = .ok (.iload_n 1, 1) := by decide +kernel
theorem dX10_bannedShips_39 : decode cX10_bannedShips 39 = .ok (.ireturn, 1) := by decide +kernel
theorem dX11_init_0 : decode cX11_init 0 = .ok (.aload_n 0, 1) := by decide +kernel
theorem dX11_init_1 : decode cX11_init 1 = .ok (.invokespecial 1, 3) := by decide +kernel
theorem dX11_init_4 : decode cX11_init 4 = .ok (.aload_n 0, 1) := by decide +kernel
theorem dX11_init_5 : decode cX11_init 5 = .ok (.bipush 16, 2) := by decide +kernel
theorem dX11_init_7 : decode cX11_init 7 = .ok (.newarray .int, 2) := by decide +kernel
theorem dX11_init_9 : decode cX11_init 9 = .ok (.putfield 7, 3) := by decide +kernel
theorem dX11_init_12 : decode cX11_init 12 = .ok (.aload_n 0, 1) := by decide +kernel
theorem dX11_init_13 : decode cX11_init 13 = .ok (.bipush 16, 2) := by decide +kernel
theorem dX11_init_15 : decode cX11_init 15 = .ok (.newarray .int, 2) := by decide +kernel
theorem dX11_init_17 : decode cX11_init 17 = .ok (.putfield 13, 3) := by decide +kernel
theorem dX11_init_20 : decode cX11_init 20 = .ok (.aload_n 0, 1) := by decide +kernel
theorem dX11_init_21 : decode cX11_init 21 = .ok (.bipush 16, 2) := by decide +kernel
theorem dX11_init_23 : decode cX11_init 23 = .ok (.newarray .int, 2) := by decide +kernel
theorem dX11_init_25 : decode cX11_init 25 = .ok (.putfield 16, 3) := by decide +kernel
theorem dX11_init_28 : decode cX11_init 28 = .ok (.aload_n 0, 1) := by decide +kernel
theorem dX11_init_29 : decode cX11_init 29 = .ok (.bipush 48, 2) := by decide +kernel
theorem dX11_init_31 : decode cX11_init 31 = .ok (.newarray .int, 2) := by decide +kernel
theorem dX11_init_33 : decode cX11_init 33 = .ok (.putfield 19, 3) := by decide +kernel
theorem dX11_init_36 : decode cX11_init 36 = .ok (.aload_n 0, 1) := by decide +kernel
theorem dX11_init_37 : decode cX11_init 37 = .ok (.bipush 60, 2) := by decide +kernel
theorem dX11_init_39 : decode cX11_init 39 = .ok (.newarray .int, 2) := by decide +kernel
theorem dX11_init_41 : decode cX11_init 41 = .ok (.putfield 22, 3) := by decide +kernel
theorem dX11_init_44 : decode cX11_init 44 = .ok (.aload_n 0, 1) := by decide +kernel
theorem dX11_init_45 : decode cX11_init 45 = .ok (.bipush 60, 2) := by decide +kernel
theorem dX11_init_47 : decode cX11_init 47 = .ok (.newarray .int, 2) := by decide +kernel
theorem dX11_init_49 : decode cX11_init 49 = .ok (.putfield 25, 3) := by decide +kernel
theorem dX11_init_52 : decode cX11_init 52 = .ok (.aload_n 0, 1) := by decide +kernel
theorem dX11_init_53 : decode cX11_init 53 = .ok (.bipush 60, 2) := by decide +kernel
theorem dX11_init_55 : decode cX11_init 55 = .ok (.newarray .int, 2) := by decide +kernel
theorem dX11_init_57 : decode cX11_init 57 = .ok (.putfield 28, 3) := by decide +kernel
theorem dX11_init_60 : decode cX11_init 60 = .ok (.aload_n 0, 1) := by decide +kernel
theorem dX11_init_61 : decode cX11_init 61 = .ok (.bipush 12, 2) := by decide +kernel
theorem dX11_init_63 : decode cX11_init 63 = .ok (.newarray .int, 2) := by decide +kernel
theorem dX11_init_65 : decode cX11_init 65 = .ok (.putfield 31, 3) := by decide +kernel
theorem dX11_init_68 : decode cX11_init 68 = .ok (.aload_n 0, 1) := by decide +kernel
theorem dX11_init_69 : decode cX11_init 69 = .ok (.bipush 12, 2) := by decide +kernel
theorem dX11_init_71 : decode cX11_init 71 = .ok (.newarray .int, 2) := by decide +kernel
theorem dX11_init_73 : decode cX11_init 73 = .ok (.putfield 34, 3) := by decide +kernel
theorem dX11_init_76 : decode cX11_init 76 = .ok (.aload_n 0, 1) := by decide +kernel
theorem dX11_init_77 : decode cX11_init 77 = .ok (.bipush 50, 2) := by decide +kernel
theorem dX11_init_79 : decode cX11_init 79 = .ok (.newarray .int, 2) := by decide +kernel
theorem dX11_init_81 : decode cX11_init 81 = .ok (.putfield 37, 3) := by decide +kernel
theorem dX11_init_84 : decode cX11_init 84 = .ok (.aload_n 0, 1) := by decide +kernel
theorem dX11_init_85 : decode cX11_init 85 = .ok (.bipush 50, 2) := by decide +kernel
theorem dX11_init_87 : decode cX11_init 87 = .ok (.newarray .int, 2) := by decide +kernel
theorem dX11_init_89 : decode cX11_init 89 = .ok (.putfield 40, 3) := by decide +kernel
theorem dX11_init_92 : decode cX11_init 92 = .ok (.aload_n 0, 1) := by decide +kernel
theorem dX11_init_93 : decode cX11_init 93 = .ok (.bipush 50, 2) := by decide +kernel
theorem dX11_init_95 : decode cX11_init 95 = .ok (.newarray .int, 2) := by decide +kernel
theorem dX11_init_97 : decode cX11_init 97 = .ok (.putfield 43, 3) := by decide +kernel
theorem dX11_init_100 : decode cX11_init 100 = .ok (.aload_n 0, 1) := by decide +kernel
theorem dX11_init_101 : decode cX11_init 101 = .ok (.bipush 50, 2) := by decide +kernel
theorem dX11_init_103 : decode cX11_init 103 = .ok (.newarray .int, 2) := by decide +kernel
theorem dX11_init_105 : decode cX11_init 105 = .ok (.putfield 46, 3) := by decide +kernel
theorem dX11_init_108 : decode cX11_init 108 = .ok (.aload_n 0, 1) := by decide +kernel
theorem dX11_init_109 : decode cX11_init 109 = .ok (.bipush 50, 2) := by decide +kernel
theorem dX11_init_111 : decode cX11_init 111 = .ok (.newarray .boolean, 2) := by decide +kernel
theorem dX11_init_113 : decode cX11_init 113 = .ok (.putfield 49, 3) := by decide +kernel
theorem dX11_init_116 : decode cX11_init 116 = .ok (.aload_n 0, 1) := by decide +kernel
theorem dX11_init_117 : decode cX11_init 117 = .ok (.bipush 60, 2) := by decide +kernel
theorem dX11_init_119 : decode cX11_init 119 = .ok (.newarray .int, 2) := by decide +kernel
theorem dX11_init_121 : decode cX11_init 121 = .ok (.putfield 53, 3) := by decide +kernel
theorem dX11_init_124 : decode cX11_init 124 = .ok (.aload_n 0, 1) := by decide +kernel
theorem dX11_init_125 : decode cX11_init 125 = .ok (.bipush 6, 2) := by decide +kernel
theorem dX11_init_127 : decode cX11_init 127 = .ok (.newarray .int, 2) := by decide +kernel
theorem dX11_init_129 : decode cX11_init 129 = .ok (.putfield 56, 3) := by decide +kernel
theorem dX11_init_132 : decode cX11_init 132 = .ok (.aload_n 0, 1) := by decide +kernel
theorem dX11_init_133 : decode cX11_init 133 = .ok (.bipush 6, 2) := by decide +kernel
theorem dX11_init_135 : decode cX11_init 135 = .ok (.newarray .int, 2) := by decide +kernel
theorem dX11_init_137 : decode cX11_init 137 = .ok (.putfield 59, 3) := by decide +kernel
theorem dX11_init_140 : decode cX11_init 140 = .ok (.aload_n 0, 1) := by decide +kernel
theorem dX11_init_141 : decode cX11_init 141 = .ok (.bipush 60, 2) := by decide +kernel
theorem dX11_init_143 : decode cX11_init 143 = .ok (.newarray .int, 2) := by decide +kernel
theorem dX11_init_145 : decode cX11_init 145 = .ok (.putfield 62, 3) := by decide +kernel
theorem dX11_init_148 : decode cX11_init 148 = .ok (.aload_n 0, 1) := by decide +kernel
theorem dX11_init_149 : decode cX11_init 149 = .ok (.bipush 24, 2) := by decide +kernel
theorem dX11_init_151 : decode cX11_init 151 = .ok (.newarray .int, 2) := by decide +kernel
theorem dX11_init_153 : decode cX11_init 153 = .ok (.putfield 65, 3) := by decide +kernel
theorem dX11_init_156 : decode cX11_init 156 = .ok (.aload_n 0, 1) := by decide +kernel
theorem dX11_init_157 : decode cX11_init 157 = .ok (.bipush 60, 2) := by decide +kernel
theorem dX11_init_159 : decode cX11_init 159 = .ok (.newarray .int, 2) := by decide +kernel
theorem dX11_init_161 : decode cX11_init 161 = .ok (.putfield 68, 3) := by decide +kernel
theorem dX11_init_164 : decode cX11_init 164 = .ok (.aload_n 0, 1) := by decide +kernel
theorem dX11_init_165 : decode cX11_init 165 = .ok (.bipush 60, 2) := by decide +kernel
theorem dX11_init_167 : decode cX11_init 167 = .ok (.newarray .int, 2) := by decide +kernel
theorem dX11_init_169 : decode cX11_init 169 = .ok (.putfield 71, 3) := by decide +kernel
theorem dX11_init_172 : decode cX11_init 172 = .ok (.aload_n 0, 1) := by decide +kernel
theorem dX11_init_173 : decode cX11_init 173 = .ok (.bipush 60, 2) := by decide +kernel
theorem dX11_init_175 : decode cX11_init 175 = .ok (.newarray .int, 2) := by decide +kernel
theorem dX11_init_177 : decode cX11_init 177 = .ok (.putfield 74, 3) := by decide +kernel
theorem dX11_init_180 : decode cX11_init 180 = .ok (.aload_n 0, 1) := by decide +kernel
theorem dX11_init_181 : decode cX11_init 181 = .ok (.bipush 60, 2) := by decide +kernel
theorem dX11_init_183 : decode cX11_init 183 = .ok (.newarray .int, 2) := by decide +kernel
theorem dX11_init_185 : decode cX11_init 185 = .ok (.putfield 77, 3) := by decide +kernel
theorem dX11_init_188 : decode cX11_init 188 = .ok (.aload_n 0, 1) := by decide +kernel
theorem dX11_init_189 : decode cX11_init 189 = .ok (.bipush 60, 2) := by decide +kernel
theorem dX11_init_191 : decode cX11_init 191 = .ok (.newarray .boolean, 2) := by decide +kernel
theorem dX11_init_193 : decode cX11_init 193 = .ok (.putfield 80, 3) := by decide +kernel
theorem dX11_init_196 : decode cX11_init 196 = .ok (.aload_n 0, 1) := by decide +kernel
theorem dX11_init_197 : decode cX11_init 197 = .ok (.bipush 60, 2) := by decide +kernel
theorem dX11_init_199 : decode cX11_init 199 = .ok (.newarray .int, 2) := by decide +kernel
theorem dX11_init_201 : decode cX11_init 201 = .ok (.putfield 83, 3) := by decide +kernel
theorem dX11_init_204 : decode cX11_init 204 = .ok (.aload_n 0, 1) := by decide +kernel
theorem dX11_init_205 : decode cX11_init 205 = .ok (.bipush 112, 2) := by decide +kernel
theorem dX11_init_207 : decode cX11_init 207 = .ok (.newarray .int, 2) := by decide +kernel
theorem dX11_init_209 : decode cX11_init 209 = .ok (.putfield 86, 3) := by decide +kernel
theorem dX11_init_212 : decode cX11_init 212 = .ok (.aload_n 0, 1) := by decide +kernel
theorem dX11_init_213 : decode cX11_init 213 = .ok (.bipush 36, 2) := by decide +kernel
theorem dX11_init_215 : decode cX11_init 215 = .ok (.putfield 89, 3) := by decide +kernel
theorem dX11_init_218 : decode cX11_init 218 = .ok (.aload_n 0, 1) := by decide +kernel
theorem dX11_init_219 : decode cX11_init 219 = .ok (.bipush 16, 2) := by decide +kernel
theorem dX11_init_221 : decode cX11_init 221 = .ok (.newarray .boolean, 2) := by decide +kernel
theorem dX11_init_223 : decode cX11_init 223 = .ok (.putfield 93, 3) := by decide +kernel
theorem dX11_init_226 : decode cX11_init 226 = .ok (.aload_n 0, 1) := by decide +kernel
theorem dX11_init_227 : decode cX11_init 227 = .ok (.bipush 16, 2) := by decide +kernel
theorem dX11_init_229 : decode cX11_init 229 = .ok (.newarray .int, 2) := by decide +kernel
theorem dX11_init_231 : decode cX11_init 231 = .ok (.putfield 96, 3) := by decide +kernel
theorem dX11_init_234 : decode cX11_init 234 = .ok (.aload_n 0, 1) := by decide +kernel
theorem dX11_init_235 : decode cX11_init 235 = .ok (.bipush 16, 2) := by decide +kernel
theorem dX11_init_237 : decode cX11_init 237 = .ok (.newarray .int, 2) := by decide +kernel
theorem dX11_init_239 : decode cX11_init 239 = .ok (.putfield 99, 3) := by decide +kernel
theorem dX11_init_242 : decode cX11_init 242 = .ok (.aload_n 0, 1) := by decide +kernel
theorem dX11_init_243 : decode cX11_init 243 = .ok (.bipush 16, 2) := by decide +kernel
theorem dX11_init_245 : decode cX11_init 245 = .ok (.newarray .int, 2) := by decide +kernel
theorem dX11_init_247 : decode cX11_init 247 = .ok (.putfield 102, 3) := by decide +kernel
theorem dX11_init_250 : decode cX11_init 250 = .ok (.aload_n 0, 1) := by decide +kernel
theorem dX11_init_251 : decode cX11_init 251 = .ok (.bipush 6, 2) := by decide +kernel
theorem dX11_init_253 : decode cX11_init 253 = .ok (.newarray .int, 2) := by decide +kernel
theorem dX11_init_255 : decode cX11_init 255 = .ok (.putfield 105, 3) := by decide +kernel
theorem dX11_init_258 : decode cX11_init 258 = .ok (.aload_n 0, 1) := by decide +kernel
theorem dX11_init_259 : decode cX11_init 259 = .ok (.bipush 8, 2) := by decide +kernel
theorem dX11_init_261 : decode cX11_init 261 = .ok (.newarray .int, 2) := by decide +kernel
theorem dX11_init_263 : decode cX11_init 263 = .ok (.putfield 108, 3) := by decide +kernel
theorem dX11_init_266 : decode cX11_init 266 = .ok (.aload_n 0, 1) := by decide +kernel
theorem dX11_init_267 : decode cX11_init 267 = .ok (.bipush 8, 2) := by decide +kernel
theorem dX11_init_269 : decode cX11_init 269 = .ok (.newarray .int, 2) := by decide +kernel
theorem dX11_init_271 : decode cX11_init 271 = .ok (.putfield 111, 3) := by decide +kernel
theorem dX11_init_274 : decode cX11_init 274 = .ok (.aload_n 0, 1) := by decide +kernel
theorem dX11_init_275 : decode cX11_init 275 = .ok (.bipush 8, 2) := by decide +kernel
theorem dX11_init_277 : decode cX11_init 277 = .ok (.newarray .int, 2) := by decide +kernel
theorem dX11_init_279 : decode cX11_init 279 = .ok (.putfield 114, 3) := by decide +kernel
theorem dX11_init_282 : decode cX11_init 282 = .ok (.aload_n 0, 1) := by decide +kernel
theorem dX11_init_283 : decode cX11_init 283 = .ok (.bipush 8, 2) := by decide +kernel
theorem dX11_init_285 : decode cX11_init 285 = .ok (.newarray .int, 2) := by decide +kernel
theorem dX11_init_287 : decode cX11_init 287 = .ok (.putfield 117, 3) := by decide +kernel
theorem dX11_init_290 : decode cX11_init 290 = .ok (.return_, 1) := by decide +kernel
theorem dX11_finding_0 : decode cX11_finding 0 = .ok (.aload_n 0, 1) := by decide +kernel
theorem dX11_finding_1 : decode cX11_finding 1 = .ok (.getfield 105, 3) := by decide +kernel
theorem dX11_finding_4 : decode cX11_finding 4 = .ok (.iload_n 1, 1) := by decide +kernel
theorem dX11_finding_5 : decode cX11_finding 5 = .ok (.dup2, 1) := by decide +kernel
theorem dX11_finding_6 : decode cX11_finding 6 = .ok (.iaload, 1) := by decide +kernel
theorem dX11_finding_7 : decode cX11_finding 7 = .ok (.iconst 1, 1) := by decide +kernel
theorem dX11_finding_8 : decode cX11_finding 8 = .ok (.iadd, 1) := by decide +kernel
theorem dX11_finding_9 : decode cX11_finding 9 = .ok (.iastore, 1) := by decide +kernel
theorem dX11_finding_10 : decode cX11_finding 10 = .ok (.ldc 120, 2) := by decide +kernel
theorem dX11_finding_12 : decode cX11_finding 12 = .ok (.iload_n 1, 1) := by decide +kernel
theorem dX11_finding_13 : decode cX11_finding 13 = .ok (.isub, 1) := by decide +kernel
theorem dX11_finding_14 : decode cX11_finding 14 = .ok (.ireturn, 1) := by decide +kernel
theorem dX11_isIn_0 : decode cX11_isIn 0 = .ok (.iload_n 0, 1) := by decide +kernel
theorem dX11_isIn_1 : decode cX11_isIn 1 = .ok (.iload_n 1, 1) := by decide +kernel
theorem dX11_isIn_2 : decode cX11_isIn 2 = .ok (.if_icmp .lt 12, 3) := by decide +kernel
theorem dX11_isIn_5 : decode cX11_isIn 5 = .ok (.iload_n 0, 1) := by decide +kernel
theorem dX11_isIn_6 : decode cX11_isIn 6 = .ok (.iload_n 2, 1) := by decide +kernel
theorem dX11_isIn_7 : decode cX11_isIn 7 = .ok (.if_icmp .gt 7, 3) := by decide +kernel
theorem dX11_isIn_10 : decode cX11_isIn 10 = .ok (.iconst 1, 1) := by decide +kernel
theorem dX11_isIn_11 : decode cX11_isIn 11 = .ok (.goto 4, 3) := by decide +kernel
theorem dX11_isIn_14 : decode cX11_isIn 14 = .ok (.iconst 0, 1) := by decide +kernel
theorem dX11_isIn_15 : decode cX11_isIn 15 = .ok (.ireturn, 1) := by decide +kernel
theorem dX11_isShip_0 : decode cX11_isShip 0 = .ok (.iload_n 1, 1) := by decide +kernel
theorem dX11_isShip_1 : decode cX11_isShip 1 = .ok (.iconst 0, 1) := by decide +kernel
theorem dX11_isShip_2 : decode cX11_isShip 2 = .ok (.aload_n 0, 1) := by decide +kernel
theorem dX11_isShip_3 : decode cX11_isShip 3 = .ok (.getfield 121, 3) := by decide +kernel
theorem dX11_isShip_6 : decode cX11_isShip 6 = .ok (.iconst 1, 1) := by decide +kernel
theorem dX11_isShip_7 : decode cX11_isShip 7 = .ok (.isub, 1) := by decide +kernel
theorem dX11_isShip_8 : decode cX11_isShip 8 = .ok (.invokestatic 124, 3) := by decide +kernel
theorem dX11_isShip_11 : decode cX11_isShip 11 = .ok (.ireturn, 1) := by decide +kernel
theorem dX11_isCall_0 : decode cX11_isCall 0 = .ok (.iload_n 1, 1) := by decide +kernel
theorem dX11_isCall_1 : decode cX11_isCall 1 = .ok (.iconst 0, 1) := by decide +kernel
theorem dX11_isCall_2 : decode cX11_isCall 2 = .ok (.aload_n 0, 1) := by decide +kernel
theorem dX11_isCall_3 : decode cX11_isCall 3 = .ok (.getfield 128, 3) := by decide +kernel
theorem dX11_isCall_6 : decode cX11_isCall 6 = .ok (.iconst 1, 1) := by decide +kernel
theorem dX11_isCall_7 : decode cX11_isCall 7 = .ok (.isub, 1) := by decide +kernel
theorem dX11_isCall_8 : decode cX11_isCall 8 = .ok (.invokestatic 124, 3) := by decide +kernel
theorem dX11_isCall_11 : decode cX11_isCall 11 = .ok (.ireturn, 1) := by decide +kernel
theorem dX11_isLook_0 : decode cX11_isLook 0 = .ok (.iload_n 1, 1) := by decide +kernel
theorem dX11_isLook_1 : decode cX11_isLook 1 = .ok (.iconst 0, 1) := by decide +kernel
theorem dX11_isLook_2 : decode cX11_isLook 2 = .ok (.aload_n 0, 1) := by decide +kernel
theorem dX11_isLook_3 : decode cX11_isLook 3 = .ok (.getfield 131, 3) := by decide +kernel
theorem dX11_isLook_6 : decode cX11_isLook 6 = .ok (.iconst 1, 1) := by decide +kernel
theorem dX11_isLook_7 : decode cX11_isLook 7 = .ok (.isub, 1) := by decide +kernel
theorem dX11_isLook_8 : decode cX11_isLook 8 = .ok (.invokestatic 124, 3) := by decide +kernel
theorem dX11_isLook_11 : decode cX11_isLook 11 = .ok (.ireturn, 1) := by decide +kernel
theorem dX11_isDay_0 : decode cX11_isDay 0 = .ok (.iload_n 0, 1) := by decide +kernel
theorem dX11_isDay_1 : decode cX11_isDay 1 = .ok (.iconst 0, 1) := by decide +kernel
theorem dX11_isDay_2 : decode cX11_isDay 2 = .ok (.sipush 9999, 3) := by decide +kernel
theorem dX11_isDay_5 : decode cX11_isDay 5 = .ok (.invokestatic 124, 3) := by decide +kernel
theorem dX11_isDay_8 : decode cX11_isDay 8 = .ok (.ireturn, 1) := by decide +kernel
theorem dX11_ship_0 : decode cX11_ship 0 = .ok (.iload_n 1, 1) := by decide +kernel
theorem dX11_ship_1 : decode cX11_ship 1 = .ok (.ifCond .lt 53, 3) := by decide +kernel
theorem dX11_ship_4 : decode cX11_ship 4 = .ok (.iload_n 1, 1) := by decide +kernel
theorem dX11_ship_5 : decode cX11_ship 5 = .ok (.bipush 10, 2) := by decide +kernel
theorem dX11_ship_7 : decode cX11_ship 7 = .ok (.idiv, 1) := by decide +kernel
theorem dX11_ship_8 : decode cX11_ship 8 = .ok (.iconst 3, 1) := by decide +kernel
theorem dX11_ship_9 : decode cX11_ship 9 = .ok (.if_icmp .gt 45, 3) := by decide +kernel
theorem dX11_ship_12 : decode cX11_ship 12 = .ok (.iload_n 1, 1) := by decide +kernel
theorem dX11_ship_13 : decode cX11_ship 13 = .ok (.bipush 10, 2) := by decide +kernel
theorem dX11_ship_15 : decode cX11_ship 15 = .ok (.irem, 1) := by decide +kernel
theorem dX11_ship_16 : decode cX11_ship 16 = .ok (.iconst 3, 1) := by decide +kernel
theorem dX11_ship_17 : decode cX11_ship 17 = .ok (.if_icmp .gt 37, 3) := by decide +kernel
theorem dX11_ship_20 : decode cX11_ship 20 = .ok (.iload_n 2, 1) := by decide +kernel
theorem dX11_ship_21 : decode cX11_ship 21 = .ok (.ifCond .lt 33, 3) := by decide +kernel
theorem dX11_ship_24 : decode cX11_ship 24 = .ok (.iload_n 2, 1) := by decide +kernel
theorem dX11_ship_25 : decode cX11_ship 25 = .ok (.bipush 100, 2) := by decide +kernel
theorem dX11_ship_27 : decode cX11_ship 27 = .ok (.idiv, 1) := by decide +kernel
theorem dX11_ship_28 : decode cX11_ship 28 = .ok (.bipush 100, 2) := by decide +kernel
theorem dX11_ship_30 : decode cX11_ship 30 = .ok (.if_icmp .ge 24, 3) := by decide +kernel
theorem dX11_ship_33 : decode cX11_ship 33 = .ok (.iload_n 2, 1) := by decide +kernel
theorem dX11_ship_34 : decode cX11_ship 34 = .ok (.bipush 10, 2) := by decide +kernel
theorem dX11_ship_36 : decode cX11_ship 36 = .ok (.irem, 1) := by decide +kernel
theorem dX11_ship_37 : decode cX11_ship 37 = .ok (.bipush 6, 2) := by decide +kernel
theorem dX11_ship_39 : decode cX11_ship 39 = .ok (.if_icmp .ge 15, 3) := by decide +kernel
theorem dX11_ship_42 : decode cX11_ship 42 = .ok (.iload_n 3, 1) := by decide +kernel
theorem dX11_ship_43 : decode cX11_ship 43 = .ok (.iconst 0, 1) := by decide +kernel
theorem dX11_ship_44 : decode cX11_ship 44 = .ok (.aload_n 0, 1) := by decide +kernel
theorem dX11_ship_45 : decode cX11_ship 45 = .ok (.getfield 134, 3) := by decide +kernel
theorem dX11_ship_48 : decode cX11_ship 48 = .ok (.invokestatic 124, 3) := by decide +kernel
theorem dX11_ship_51 : decode cX11_ship 51 = .ok (.ifCond .ne 9, 3) := by decide +kernel
theorem dX11_ship_54 : decode cX11_ship 54 = .ok (.aload_n 0, 1) := by decide +kernel
theorem dX11_ship_55 : decode cX11_ship 55 = .ok (.iconst 1, 1) := by decide +kernel
theorem dX11_ship_56 : decode cX11_ship 56 = .ok (.invokevirtual 137, 3) := by decide +kernel
theorem dX11_ship_59 : decode cX11_ship 59 = .ok (.ireturn, 1) := by decide +kernel
theorem dX11_ship_60 : decode cX11_ship 60 = .ok (.aload_n 0, 1) := by decide +kernel
theorem dX11_ship_61 : decode cX11_ship 61 = .ok (.getfield 121, 3) := by decide +kernel
theorem dX11_ship_64 : decode cX11_ship 64 = .ok (.bipush 16, 2) := by decide +kernel
theorem dX11_ship_66 : decode cX11_ship 66 = .ok (.if_icmp .ne 9, 3) := by decide +kernel
theorem dX11_ship_69 : decode cX11_ship 69 = .ok (.aload_n 0, 1) := by decide +kernel
theorem dX11_ship_70 : decode cX11_ship 70 = .ok (.iconst 4, 1) := by decide +kernel
theorem dX11_ship_71 : decode cX11_ship 71 = .ok (.invokevirtual 137, 3) := by decide +kernel
theorem dX11_ship_74 : decode cX11_ship 74 = .ok (.ireturn, 1) := by decide +kernel
theorem dX11_ship_75 : decode cX11_ship 75 = .ok (.aload_n 0, 1) := by decide +kernel
theorem dX11_ship_76 : decode cX11_ship 76 = .ok (.getfield 7, 3) := by decide +kernel
theorem dX11_ship_79 : decode cX11_ship 79 = .ok (.aload_n 0, 1) := by decide +kernel
theorem dX11_ship_80 : decode cX11_ship 80 = .ok (.getfield 121, 3) := by decide +kernel
theorem dX11_ship_83 : decode cX11_ship 83 = .ok (.iload_n 1, 1) := by decide +kernel
theorem dX11_ship_84 : decode cX11_ship 84 = .ok (.bipush 10, 2) := by decide +kernel
theorem dX11_ship_86 : decode cX11_ship 86 = .ok (.idiv, 1) := by decide +kernel
theorem dX11_ship_87 : decode cX11_ship 87 = .ok (.iastore, 1) := by decide +kernel
theorem dX11_ship_88 : decode cX11_ship 88 = .ok (.aload_n 0, 1) := by decide +kernel
theorem dX11_ship_89 : decode cX11_ship 89 = .ok (.getfield 13, 3) := by decide +kernel
theorem dX11_ship_92 : decode cX11_ship 92 = .ok (.aload_n 0, 1) := by decide +kernel
theorem dX11_ship_93 : decode cX11_ship 93 = .ok (.getfield 121, 3) := by decide +kernel
theorem dX11_ship_96 : decode cX11_ship 96 = .ok (.iload_n 1, 1) := by decide +kernel
theorem dX11_ship_97 : decode cX11_ship 97 = .ok (.bipush 10, 2) := by decide +kernel
theorem dX11_ship_99 : decode cX11_ship 99 = .ok (.irem, 1) := by decide +kernel
theorem dX11_ship_100 : decode cX11_ship 100 = .ok (.iastore, 1) := by decide +kernel
theorem dX11_ship_101 : decode cX11_ship 101 = .ok (.aload_n 0, 1) := by decide +kernel
theorem dX11_ship_102 : decode cX11_ship 102 = .ok (.getfield 16, 3) := by decide +kernel
theorem dX11_ship_105 : decode cX11_ship 105 = .ok (.aload_n 0, 1) := by decide +kernel
theorem dX11_ship_106 : decode cX11_ship 106 = .ok (.getfield 121, 3) := by decide +kernel
theorem dX11_ship_109 : decode cX11_ship 109 = .ok (.iload_n 3, 1) := by decide +kernel
theorem dX11_ship_110 : decode cX11_ship 110 = .ok (.iastore, 1) := by decide +kernel
theorem dX11_ship_111 : decode cX11_ship 111 = .ok (.aload_n 0, 1) := by decide +kernel
theorem dX11_ship_112 : decode cX11_ship 112 = .ok (.getfield 19, 3) := by decide +kernel
theorem dX11_ship_115 : decode cX11_ship 115 = .ok (.iconst 3, 1) := by decide +kernel
theorem dX11_ship_116 : decode cX11_ship 116 = .ok (.aload_n 0, 1) := by decide +kernel
theorem dX11_ship_117 : decode cX11_ship 117 = .ok (.getfield 121, 3) := by decide +kernel
theorem dX11_ship_120 : decode cX11_ship 120 = .ok (.imul, 1) := by decide +kernel
theorem dX11_ship_121 : decode cX11_ship 121 = .ok (.iload_n 2, 1) := by decide +kernel
theorem dX11_ship_122 : decode cX11_ship 122 = .ok (.bipush 100, 2) := by decide +kernel
theorem dX11_ship_124 : decode cX11_ship 124 = .ok (.idiv, 1) := by decide +kernel
theorem dX11_ship_125 : decode cX11_ship 125 = .ok (.iastore, 1) := by decide +kernel
theorem dX11_ship_126 : decode cX11_ship 126 = .ok (.aload_n 0, 1) := by decide +kernel
theorem dX11_ship_127 : decode cX11_ship 127 = .ok (.getfield 19, 3) := by decide +kernel
theorem dX11_ship_130 : decode cX11_ship 130 = .ok (.iconst 3, 1) := by decide +kernel
theorem dX11_ship_131 : decode cX11_ship 131 = .ok (.aload_n 0, 1) := by decide +kernel
theorem dX11_ship_132 : decode cX11_ship 132 = .ok (.getfield 121, 3) := by decide +kernel
theorem dX11_ship_135 : decode cX11_ship 135 = .ok (.imul, 1) := by decide +kernel
theorem dX11_ship_136 : decode cX11_ship 136 = .ok (.iconst 1, 1) := by decide +kernel
theorem dX11_ship_137 : decode cX11_ship 137 = .ok (.iadd, 1) := by decide +kernel
theorem dX11_ship_138 : decode cX11_ship 138 = .ok (.iload_n 2, 1) := by decide +kernel
theorem dX11_ship_139 : decode cX11_ship 139 = .ok (.bipush 10, 2) := by decide +kernel
theorem dX11_ship_141 : decode cX11_ship 141 = .ok (.irem, 1) := by decide +kernel
theorem dX11_ship_142 : decode cX11_ship 142 = .ok (.iastore, 1) := by decide +kernel
theorem dX11_ship_143 : decode cX11_ship 143 = .ok (.aload_n 0, 1) := by decide +kernel
theorem dX11_ship_144 : decode cX11_ship 144 = .ok (.getfield 19, 3) := by decide +kernel
theorem dX11_ship_147 : decode cX11_ship 147 = .ok (.iconst 3, 1) := by decide +kernel
theorem dX11_ship_148 : decode cX11_ship 148 = .ok (.aload_n 0, 1) := by decide +kernel
theorem dX11_ship_149 : decode cX11_ship 149 = .ok (.getfield 121, 3) := by decide +kernel
theorem dX11_ship_152 : decode cX11_ship 152 = .ok (.imul, 1) := by decide +kernel
theorem dX11_ship_153 : decode cX11_ship 153 = .ok (.iconst 2, 1) := by decide +kernel
theorem dX11_ship_154 : decode cX11_ship 154 = .ok (.iadd, 1) := by decide +kernel
theorem dX11_ship_155 : decode cX11_ship 155 = .ok (.iload_n 2, 1) := by decide +kernel
theorem dX11_ship_156 : decode cX11_ship 156 = .ok (.bipush 10, 2) := by decide +kernel
theorem dX11_ship_158 : decode cX11_ship 158 = .ok (.idiv, 1) := by decide +kernel
theorem dX11_ship_159 : decode cX11_ship 159 = .ok (.bipush 10, 2) := by decide +kernel
theorem dX11_ship_161 : decode cX11_ship 161 = .ok (.irem, 1) := by decide +kernel
theorem dX11_ship_162 : decode cX11_ship 162 = .ok (.iastore, 1) := by decide +kernel
theorem dX11_ship_163 : decode cX11_ship 163 = .ok (.aload_n 0, 1) := by decide +kernel
theorem dX11_ship_164 : decode cX11_ship 164 = .ok (.dup, 1) := by decide +kernel
theorem dX11_ship_165 : decode cX11_ship 165 = .ok (.getfield 121, 3) := by decide +kernel
theorem dX11_ship_168 : decode cX11_ship 168 = .ok (.iconst 1, 1) := by decide +kernel
theorem dX11_ship_169 : decode cX11_ship 169 = .ok (.iadd, 1) := by decide +kernel
theorem dX11_ship_170 : decode cX11_ship 170 = .ok (.putfield 121, 3) := by decide +kernel
theorem dX11_ship_173 : decode cX11_ship 173 = .ok (.aload_n 0, 1) := by decide +kernel
theorem dX11_ship_174 : decode cX11_ship 174 = .ok (.getfield 121, 3) := by decide +kernel
theorem dX11_ship_177 : decode cX11_ship 177 = .ok (.iconst 1, 1) := by decide +kernel
theorem dX11_ship_178 : decode cX11_ship 178 = .ok (.isub, 1) := by decide +kernel
theorem dX11_ship_179 : decode cX11_ship 179 = .ok (.ireturn, 1) := by decide +kernel
theorem dX11_isUnder_0 : decode cX11_isUnder 0 = .ok (.iload_n 2, 1) := by decide +kernel
theorem dX11_isUnder_1 : decode cX11_isUnder 1 = .ok (.ifCond .eq 28, 3) := by decide +kernel
theorem dX11_isUnder_4 : decode cX11_isUnder 4 = .ok (.aload_n 0, 1) := by decide +kernel
theorem dX11_isUnder_5 : decode cX11_isUnder 5 = .ok (.getfield 7, 3) := by decide +kernel
theorem dX11_isUnder_8 : decode cX11_isUnder 8 = .ok (.iload_n 1, 1) := by decide +kernel
theorem dX11_isUnder_9 : decode cX11_isUnder 9 = .ok (.iaload, 1) := by decide +kernel
theorem dX11_isUnder_10 : decode cX11_isUnder 10 = .ok (.iload_n 2, 1) := by decide +kernel
theorem dX11_isUnder_11 : decode cX11_isUnder 11 = .ok (.if_icmp .eq 18, 3) := by decide +kernel
theorem dX11_isUnder_14 : decode cX11_isUnder 14 = .ok (.iload_n 2, 1) := by decide +kernel
theorem dX11_isUnder_15 : decode cX11_isUnder 15 = .ok (.iconst 1, 1) := by decide +kernel
theorem dX11_isUnder_16 : decode cX11_isUnder 16 = .ok (.if_icmp .ne 17, 3) := by decide +kernel
theorem dX11_isUnder_19 : decode cX11_isUnder 19 = .ok (.aload_n 0, 1) := by decide +kernel
theorem dX11_isUnder_20 : decode cX11_isUnder 20 = .ok (.getfield 7, 3) := by decide +kernel
theorem dX11_isUnder_23 : decode cX11_isUnder 23 = .ok (.iload_n 1, 1) := by decide +kernel
theorem dX11_isUnder_24 : decode cX11_isUnder 24 = .ok (.iaload, 1) := by decide +kernel
theorem dX11_isUnder_25 : decode cX11_isUnder 25 = .ok (.iconst 2, 1) := by decide +kernel
theorem dX11_isUnder_26 : decode cX11_isUnder 26 = .ok (.if_icmp .ne 7, 3) := by decide +kernel
theorem dX11_isUnder_29 : decode cX11_isUnder 29 = .ok (.iconst 1, 1) := by decide +kernel
theorem dX11_isUnder_30 : decode cX11_isUnder 30 = .ok (.goto 4, 3) := by decide +kernel
theorem dX11_isUnder_33 : decode cX11_isUnder 33 = .ok (.iconst 0, 1) := by decide +kernel
theorem dX11_isUnder_34 : decode cX11_isUnder 34 = .ok (.ireturn, 1) := by decide +kernel
theorem dX11_hoursOf_0 : decode cX11_hoursOf 0 = .ok (.aload_n 0, 1) := by decide +kernel
theorem dX11_hoursOf_1 : decode cX11_hoursOf 1 = .ok (.getfield 7, 3) := by decide +kernel
theorem dX11_hoursOf_4 : decode cX11_hoursOf 4 = .ok (.iload_n 1, 1) := by decide +kernel
theorem dX11_hoursOf_5 : decode cX11_hoursOf 5 = .ok (.iaload, 1) := by decide +kernel
theorem dX11_hoursOf_6 : decode cX11_hoursOf 6 = .ok (.iconst 1, 1) := by decide +kernel
theorem dX11_hoursOf_7 : decode cX11_hoursOf 7 = .ok (.if_icmp .ne 7, 3) := by decide +kernel
theorem dX11_hoursOf_10 : decode cX11_hoursOf 10 = .ok (.iconst 5, 1) := by decide +kernel
theorem dX11_hoursOf_11 : decode cX11_hoursOf 11 = .ok (.goto 33, 3) := by decide +kernel
theorem dX11_hoursOf_14 : decode cX11_hoursOf 14 = .ok (.aload_n 0, 1) := by decide +kernel
theorem dX11_hoursOf_15 : decode cX11_hoursOf 15 = .ok (.getfield 7, 3) := by decide +kernel
theorem dX11_hoursOf_18 : decode cX11_hoursOf 18 = .ok (.iload_n 1, 1) := by decide +kernel
theorem dX11_hoursOf_19 : decode cX11_hoursOf 19 = .ok (.iaload, 1) := by decide +kernel
theorem dX11_hoursOf_20 : decode cX11_hoursOf 20 = .ok (.iconst 2, 1) := by decide +kernel
theorem dX11_hoursOf_21 : decode cX11_hoursOf 21 = .ok (.if_icmp .ne 8, 3) := by decide +kernel
theorem dX11_hoursOf_24 : decode cX11_hoursOf 24 = .ok (.bipush 7, 2) := by decide +kernel
theorem dX11_hoursOf_26 : decode cX11_hoursOf 26 = .ok (.goto 18, 3) := by decide +kernel
theorem dX11_hoursOf_29 : decode cX11_hoursOf 29 = .ok (.aload_n 0, 1) := by decide +kernel
theorem dX11_hoursOf_30 : decode cX11_hoursOf 30 = .ok (.getfield 7, 3) := by decide +kernel
theorem dX11_hoursOf_33 : decode cX11_hoursOf 33 = .ok (.iload_n 1, 1) := by decide +kernel
theorem dX11_hoursOf_34 : decode cX11_hoursOf 34 = .ok (.iaload, 1) := by decide +kernel
theorem dX11_hoursOf_35 : decode cX11_hoursOf 35 = .ok (.iconst 3, 1) := by decide +kernel
theorem dX11_hoursOf_36 : decode cX11_hoursOf 36 = .ok (.if_icmp .ne 7, 3) := by decide +kernel
theorem dX11_hoursOf_39 : decode cX11_hoursOf 39 = .ok (.iconst 4, 1) := by decide +kernel
theorem dX11_hoursOf_40 : decode cX11_hoursOf 40 = .ok (.goto 4, 3) := by decide +kernel
theorem dX11_hoursOf_43 : decode cX11_hoursOf 43 = .ok (.iconst 3, 1) := by decide +kernel
theorem dX11_hoursOf_44 : decode cX11_hoursOf 44 = .ok (.ireturn, 1) := by decide +kernel
theorem dX11_as_0 : decode cX11_as 0 = .ok (.aload_n 0, 1) := by decide +kernel
theorem dX11_as_1 : decode cX11_as 1 = .ok (.iload_n 1, 1) := by decide +kernel
theorem dX11_as_2 : decode cX11_as 2 = .ok (.invokevirtual 141, 3) := by decide +kernel
theorem dX11_as_5 : decode cX11_as 5 = .ok (.ifCond .eq 12, 3) := by decide +kernel
theorem dX11_as_8 : decode cX11_as 8 = .ok (.iload_n 2, 1) := by decide +kernel
theorem dX11_as_9 : decode cX11_as 9 = .ok (.iconst 0, 1) := by decide +kernel
theorem dX11_as_10 : decode cX11_as 10 = .ok (.iconst 3, 1) := by decide +kernel
theorem dX11_as_11 : decode cX11_as 11 = .ok (.invokestatic 124, 3) := by decide +kernel
theorem dX11_as_14 : decode cX11_as 14 = .ok (.ifCond .ne 9, 3) := by decide +kernel
theorem dX11_as_17 : decode cX11_as 17 = .ok (.aload_n 0, 1) := by decide +kernel
theorem dX11_as_18 : decode cX11_as 18 = .ok (.iconst 1, 1) := by decide +kernel
theorem dX11_as_19 : decode cX11_as 19 = .ok (.invokevirtual 137, 3) := by decide +kernel
theorem dX11_as_22 : decode cX11_as 22 = .ok (.ireturn, 1) := by decide +kernel
theorem dX11_as_23 : decode cX11_as 23 = .ok (.aload_n 0, 1) := by decide +kernel
theorem dX11_as_24 : decode cX11_as 24 = .ok (.iload_n 1, 1) := by decide +kernel
theorem dX11_as_25 : decode cX11_as 25 = .ok (.iload_n 2, 1) := by decide +kernel
theorem dX11_as_26 : decode cX11_as 26 = .ok (.invokevirtual 145, 3) := by decide +kernel
theorem dX11_as_29 : decode cX11_as 29 = .ok (.ifCond .eq 11, 3) := by decide +kernel
theorem dX11_as_32 : decode cX11_as 32 = .ok (.aload_n 0, 1) := by decide +kernel
theorem dX11_as_33 : decode cX11_as 33 = .ok (.iload_n 1, 1) := by decide +kernel
theorem dX11_as_34 : decode cX11_as 34 = .ok (.invokevirtual 149, 3) := by decide +kernel
theorem dX11_as_37 : decode cX11_as 37 = .ok (.goto 8, 3) := by decide +kernel
theorem dX11_as_40 : decode cX11_as 40 = .ok (.aload_n 0, 1) := by decide +kernel
theorem dX11_as_41 : decode cX11_as 41 = .ok (.iconst 5, 1) := by decide +kernel
theorem dX11_as_42 : decode cX11_as 42 = .ok (.invokevirtual 137, 3) := by decide +kernel
theorem dX11_as_45 : decode cX11_as 45 = .ok (.ireturn, 1) := by decide +kernel
theorem dX11_hadOn_0 : decode cX11_hadOn 0 = .ok (.aload_n 0, 1) := by decide +kernel
theorem dX11_hadOn_1 : decode cX11_hadOn 1 = .ok (.getfield 19, 3) := by decide +kernel
theorem dX11_hadOn_4 : decode cX11_hadOn 4 = .ok (.iconst 3, 1) := by decide +kernel
theorem dX11_hadOn_5 : decode cX11_hadOn 5 = .ok (.iload_n 1, 1) := by decide +kernel
theorem dX11_hadOn_6 : decode cX11_hadOn 6 = .ok (.imul, 1) := by decide +kernel
theorem dX11_hadOn_7 : decode cX11_hadOn 7 = .ok (.iload_n 2, 1) := by decide +kernel
theorem dX11_hadOn_8 : decode cX11_hadOn 8 = .ok (.iadd, 1) := by decide +kernel
theorem dX11_hadOn_9 : decode cX11_hadOn 9 = .ok (.iaload, 1) := by decide +kernel
theorem dX11_hadOn_10 : decode cX11_hadOn 10 = .ok (.istore 4, 2) := by decide +kernel
theorem dX11_hadOn_12 : decode cX11_hadOn 12 = .ok (.iconst 0, 1) := by decide +kernel
theorem dX11_hadOn_13 : decode cX11_hadOn 13 = .ok (.istore 5, 2) := by decide +kernel
theorem dX11_hadOn_15 : decode cX11_hadOn 15 = .ok (.iload 5, 2) := by decide +kernel
theorem dX11_hadOn_17 : decode cX11_hadOn 17 = .ok (.aload_n 0, 1) := by decide +kernel
theorem dX11_hadOn_18 : decode cX11_hadOn 18 = .ok (.getfield 152, 3) := by decide +kernel
theorem dX11_hadOn_21 : decode cX11_hadOn 21 = .ok (.if_icmp .ge 49, 3) := by decide +kernel
theorem dX11_hadOn_24 : decode cX11_hadOn 24 = .ok (.aload_n 0, 1) := by decide +kernel
theorem dX11_hadOn_25 : decode cX11_hadOn 25 = .ok (.getfield 22, 3) := by decide +kernel
theorem dX11_hadOn_28 : decode cX11_hadOn 28 = .ok (.iload 5, 2) := by decide +kernel
theorem dX11_hadOn_30 : decode cX11_hadOn 30 = .ok (.iaload, 1) := by decide +kernel
theorem dX11_hadOn_31 : decode cX11_hadOn 31 = .ok (.iconst 3, 1) := by decide +kernel
theorem dX11_hadOn_32 : decode cX11_hadOn 32 = .ok (.iload_n 1, 1) := by decide +kernel
theorem dX11_hadOn_33 : decode cX11_hadOn 33 = .ok (.imul, 1) := by decide +kernel
theorem dX11_hadOn_34 : decode cX11_hadOn 34 = .ok (.iload_n 2, 1) := by decide +kernel
theorem dX11_hadOn_35 : decode cX11_hadOn 35 = .ok (.iadd, 1) := by decide +kernel
theorem dX11_hadOn_36 : decode cX11_hadOn 36 = .ok (.if_icmp .ne 24, 3) := by decide +kernel
theorem dX11_hadOn_39 : decode cX11_hadOn 39 = .ok (.aload_n 0, 1) := by decide +kernel
theorem dX11_hadOn_40 : decode cX11_hadOn 40 = .ok (.getfield 25, 3) := by decide +kernel
theorem dX11_hadOn_43 : decode cX11_hadOn 43 = .ok (.iload 5, 2) := by decide +kernel
theorem dX11_hadOn_45 : decode cX11_hadOn 45 = .ok (.iaload, 1) := by decide +kernel
theorem dX11_hadOn_46 : decode cX11_hadOn 46 = .ok (.iload_n 3, 1) := by decide +kernel
theorem dX11_hadOn_47 : decode cX11_hadOn 47 = .ok (.if_icmp .gt 13, 3) := by decide +kernel
theorem dX11_hadOn_50 : decode cX11_hadOn 50 = .ok (.aload_n 0, 1) := by decide +kernel
theorem dX11_hadOn_51 : decode cX11_hadOn 51 = .ok (.getfield 28, 3) := by decide +kernel
theorem dX11_hadOn_54 : decode cX11_hadOn 54 = .ok (.iload 5, 2) := by decide +kernel
theorem dX11_hadOn_56 : decode cX11_hadOn 56 = .ok (.iaload, 1) := by decide +kernel
theorem dX11_hadOn_57 : decode cX11_hadOn 57 = .ok (.goto 5, 3) := by decide +kernel
theorem dX11_hadOn_60 : decode cX11_hadOn 60 = .ok (.iload 4, 2) := by decide +kernel
theorem dX11_hadOn_62 : decode cX11_hadOn 62 = .ok (.istore 4, 2) := by decide +kernel
theorem dX11_hadOn_64 : decode cX11_hadOn 64 = .ok (.iinc 5 1, 3) := by decide +kernel
theorem dX11_hadOn_67 : decode cX11_hadOn 67 = .ok (.goto (-52), 3) := by decide +kernel
theorem dX11_hadOn_70 : decode cX11_hadOn 70 = .ok (.iload 4, 2) := by decide +kernel
theorem dX11_hadOn_72 : decode cX11_hadOn 72 = .ok (.ireturn, 1) := by decide +kernel
theorem dX11_change_0 : decode cX11_change 0 = .ok (.aload_n 0, 1) := by decide +kernel
theorem dX11_change_1 : decode cX11_change 1 = .ok (.iload_n 1, 1) := by decide +kernel
theorem dX11_change_2 : decode cX11_change 2 = .ok (.invokevirtual 141, 3) := by decide +kernel
theorem dX11_change_5 : decode cX11_change 5 = .ok (.ifCond .eq 40, 3) := by decide +kernel
theorem dX11_change_8 : decode cX11_change 8 = .ok (.iload_n 2, 1) := by decide +kernel
theorem dX11_change_9 : decode cX11_change 9 = .ok (.iconst 0, 1) := by decide +kernel
theorem dX11_change_10 : decode cX11_change 10 = .ok (.iconst 2, 1) := by decide +kernel
theorem dX11_change_11 : decode cX11_change 11 = .ok (.invokestatic 124, 3) := by decide +kernel
theorem dX11_change_14 : decode cX11_change 14 = .ok (.ifCond .eq 31, 3) := by decide +kernel
theorem dX11_change_17 : decode cX11_change 17 = .ok (.iload_n 3, 1) := by decide +kernel
theorem dX11_change_18 : decode cX11_change 18 = .ok (.iconst 0, 1) := by decide +kernel
theorem dX11_change_19 : decode cX11_change 19 = .ok (.iload_n 2, 1) := by decide +kernel
theorem dX11_change_20 : decode cX11_change 20 = .ok (.ifCond .ne 8, 3) := by decide +kernel
theorem dX11_change_23 : decode cX11_change 23 = .ok (.bipush 99, 2) := by decide +kernel
theorem dX11_change_25 : decode cX11_change 25 = .ok (.goto 14, 3) := by decide +kernel
theorem dX11_change_28 : decode cX11_change 28 = .ok (.iload_n 2, 1) := by decide +kernel
theorem dX11_change_29 : decode cX11_change 29 = .ok (.iconst 1, 1) := by decide +kernel
theorem dX11_change_30 : decode cX11_change 30 = .ok (.if_icmp .ne 7, 3) := by decide +kernel
theorem dX11_change_33 : decode cX11_change 33 = .ok (.iconst 5, 1) := by decide +kernel
theorem dX11_change_34 : decode cX11_change 34 = .ok (.goto 5, 3) := by decide +kernel
theorem dX11_change_37 : decode cX11_change 37 = .ok (.bipush 9, 2) := by decide +kernel
theorem dX11_change_39 : decode cX11_change 39 = .ok (.invokestatic 124, 3) := by decide +kernel
theorem dX11_change_42 : decode cX11_change 42 = .ok (.ifCond .ne 9, 3) := by decide +kernel
theorem dX11_change_45 : decode cX11_change 45 = .ok (.aload_n 0, 1) := by decide +kernel
theorem dX11_change_46 : decode cX11_change 46 = .ok (.iconst 1, 1) := by decide +kernel
theorem dX11_change_47 : decode cX11_change 47 = .ok (.invokevirtual 137, 3) := by decide +kernel
theorem dX11_change_50 : decode cX11_change 50 = .ok (.ireturn, 1) := by decide +kernel
theorem dX11_change_51 : decode cX11_change 51 = .ok (.aload_n 0, 1) := by decide +kernel
theorem dX11_change_52 : decode cX11_change 52 = .ok (.getfield 152, 3) := by decide +kernel
theorem dX11_change_55 : decode cX11_change 55 = .ok (.bipush 60, 2) := by decide +kernel
theorem dX11_change_57 : decode cX11_change 57 = .ok (.if_icmp .ne 9, 3) := by decide +kernel
theorem dX11_change_60 : decode cX11_change 60 = .ok (.aload_n 0, 1) := by decide +kernel
theorem dX11_change_61 : decode cX11_change 61 = .ok (.iconst 4, 1) := by decide +kernel
theorem dX11_change_62 : decode cX11_change 62 = .ok (.invokevirtual 137, 3) := by decide +kernel
theorem dX11_change_65 : decode cX11_change 65 = .ok (.ireturn, 1) := by decide +kernel
theorem dX11_change_66 : decode cX11_change 66 = .ok (.aload_n 0, 1) := by decide +kernel
theorem dX11_change_67 : decode cX11_change 67 = .ok (.iload_n 1, 1) := by decide +kernel
theorem dX11_change_68 : decode cX11_change 68 = .ok (.iload_n 2, 1) := by decide +kernel
theorem dX11_change_69 : decode cX11_change 69 = .ok (.aload_n 0, 1) := by decide +kernel
theorem dX11_change_70 : decode cX11_change 70 = .ok (.getfield 134, 3) := by decide +kernel
theorem dX11_change_73 : decode cX11_change 73 = .ok (.invokevirtual 155, 3) := by decide +kernel
theorem dX11_change_76 : decode cX11_change 76 = .ok (.istore 4, 2) := by decide +kernel
theorem dX11_change_78 : decode cX11_change 78 = .ok (.aload_n 0, 1) := by decide +kernel
theorem dX11_change_79 : decode cX11_change 79 = .ok (.getfield 22, 3) := by decide +kernel
theorem dX11_change_82 : decode cX11_change 82 = .ok (.aload_n 0, 1) := by decide +kernel
theorem dX11_change_83 : decode cX11_change 83 = .ok (.getfield 152, 3) := by decide +kernel
theorem dX11_change_86 : decode cX11_change 86 = .ok (.iconst 3, 1) := by decide +kernel
theorem dX11_change_87 : decode cX11_change 87 = .ok (.iload_n 1, 1) := by decide +kernel
theorem dX11_change_88 : decode cX11_change 88 = .ok (.imul, 1) := by decide +kernel
theorem dX11_change_89 : decode cX11_change 89 = .ok (.iload_n 2, 1) := by decide +kernel
theorem dX11_change_90 : decode cX11_change 90 = .ok (.iadd, 1) := by decide +kernel
theorem dX11_change_91 : decode cX11_change 91 = .ok (.iastore, 1) := by decide +kernel
theorem dX11_change_92 : decode cX11_change 92 = .ok (.aload_n 0, 1) := by decide +kernel
theorem dX11_change_93 : decode cX11_change 93 = .ok (.getfield 25, 3) := by decide +kernel
theorem dX11_change_96 : decode cX11_change 96 = .ok (.aload_n 0, 1) := by decide +kernel
theorem dX11_change_97 : decode cX11_change 97 = .ok (.getfield 152, 3) := by decide +kernel
theorem dX11_change_100 : decode cX11_change 100 = .ok (.aload_n 0, 1) := by decide +kernel
theorem dX11_change_101 : decode cX11_change 101 = .ok (.getfield 134, 3) := by decide +kernel
theorem dX11_change_104 : decode cX11_change 104 = .ok (.iastore, 1) := by decide +kernel
theorem dX11_change_105 : decode cX11_change 105 = .ok (.aload_n 0, 1) := by decide +kernel
theorem dX11_change_106 : decode cX11_change 106 = .ok (.getfield 28, 3) := by decide +kernel
theorem dX11_change_109 : decode cX11_change 109 = .ok (.aload_n 0, 1) := by decide +kernel
theorem dX11_change_110 : decode cX11_change 110 = .ok (.getfield 152, 3) := by decide +kernel
theorem dX11_change_113 : decode cX11_change 113 = .ok (.iload_n 3, 1) := by decide +kernel
theorem dX11_change_114 : decode cX11_change 114 = .ok (.iastore, 1) := by decide +kernel
theorem dX11_change_115 : decode cX11_change 115 = .ok (.aload_n 0, 1) := by decide +kernel
theorem dX11_change_116 : decode cX11_change 116 = .ok (.dup, 1) := by decide +kernel
theorem dX11_change_117 : decode cX11_change 117 = .ok (.getfield 152, 3) := by decide +kernel
theorem dX11_change_120 : decode cX11_change 120 = .ok (.iconst 1, 1) := by decide +kernel
theorem dX11_change_121 : decode cX11_change 121 = .ok (.iadd, 1) := by decide +kernel
theorem dX11_change_122 : decode cX11_change 122 = .ok (.putfield 152, 3) := by decide +kernel
theorem dX11_change_125 : decode cX11_change 125 = .ok (.iload 4, 2) := by decide +kernel
theorem dX11_change_127 : decode cX11_change 127 = .ok (.ireturn, 1) := by decide +kernel
theorem dX11_has_0 : decode cX11_has 0 = .ok (.aload_n 0, 1) := by decide +kernel
theorem dX11_has_1 : decode cX11_has 1 = .ok (.iload_n 1, 1) := by decide +kernel
theorem dX11_has_2 : decode cX11_has 2 = .ok (.invokevirtual 141, 3) := by decide +kernel
theorem dX11_has_5 : decode cX11_has 5 = .ok (.ifCond .eq 19, 3) := by decide +kernel
theorem dX11_has_8 : decode cX11_has 8 = .ok (.iload_n 2, 1) := by decide +kernel
theorem dX11_has_9 : decode cX11_has 9 = .ok (.iconst 0, 1) := by decide +kernel
theorem dX11_has_10 : decode cX11_has 10 = .ok (.iconst 2, 1) := by decide +kernel
theorem dX11_has_11 : decode cX11_has 11 = .ok (.invokestatic 124, 3) := by decide +kernel
theorem dX11_has_14 : decode cX11_has 14 = .ok (.ifCond .eq 10, 3) := by decide +kernel
theorem dX11_has_17 : decode cX11_has 17 = .ok (.iload_n 3, 1) := by decide +kernel
theorem dX11_has_18 : decode cX11_has 18 = .ok (.invokestatic 159, 3) := by decide +kernel
theorem dX11_has_21 : decode cX11_has 21 = .ok (.ifCond .ne 9, 3) := by decide +kernel
theorem dX11_has_24 : decode cX11_has 24 = .ok (.aload_n 0, 1) := by decide +kernel
theorem dX11_has_25 : decode cX11_has 25 = .ok (.iconst 1, 1) := by decide +kernel
theorem dX11_has_26 : decode cX11_has 26 = .ok (.invokevirtual 137, 3) := by decide +kernel
theorem dX11_has_29 : decode cX11_has 29 = .ok (.ireturn, 1) := by decide +kernel
theorem dX11_has_30 : decode cX11_has 30 = .ok (.aload_n 0, 1) := by decide +kernel
theorem dX11_has_31 : decode cX11_has 31 = .ok (.iload_n 1, 1) := by decide +kernel
theorem dX11_has_32 : decode cX11_has 32 = .ok (.iload_n 2, 1) := by decide +kernel
theorem dX11_has_33 : decode cX11_has 33 = .ok (.iload_n 3, 1) := by decide +kernel
theorem dX11_has_34 : decode cX11_has 34 = .ok (.invokevirtual 155, 3) := by decide +kernel
theorem dX11_has_37 : decode cX11_has 37 = .ok (.ireturn, 1) := by decide +kernel
theorem dX11_named_0 : decode cX11_named 0 = .ok (.iload_n 1, 1) := by decide +kernel
theorem dX11_named_1 : decode cX11_named 1 = .ok (.iconst 0, 1) := by decide +kernel
theorem dX11_named_2 : decode cX11_named 2 = .ok (.bipush 99, 2) := by decide +kernel
theorem dX11_named_4 : decode cX11_named 4 = .ok (.invokestatic 124, 3) := by decide +kernel
theorem dX11_named_7 : decode cX11_named 7 = .ok (.ifCond .eq 10, 3) := by decide +kernel
theorem dX11_named_10 : decode cX11_named 10 = .ok (.iload_n 2, 1) := by decide +kernel
theorem dX11_named_11 : decode cX11_named 11 = .ok (.invokestatic 159, 3) := by decide +kernel
theorem dX11_named_14 : decode cX11_named 14 = .ok (.ifCond .ne 9, 3) := by decide +kernel
theorem dX11_named_17 : decode cX11_named 17 = .ok (.aload_n 0, 1) := by decide +kernel
theorem dX11_named_18 : decode cX11_named 18 = .ok (.iconst 1, 1) := by decide +kernel
theorem dX11_named_19 : decode cX11_named 19 = .ok (.invokevirtual 137, 3) := by decide +kernel
theorem dX11_named_22 : decode cX11_named 22 = .ok (.ireturn, 1) := by decide +kernel
theorem dX11_named_23 : decode cX11_named 23 = .ok (.iconst 0, 1) := by decide +kernel
theorem dX11_named_24 : decode cX11_named 24 = .ok (.istore_n 3, 1) := by decide +kernel
theorem dX11_named_25 : decode cX11_named 25 = .ok (.iload_n 3, 1) := by decide +kernel
theorem dX11_named_26 : decode cX11_named 26 = .ok (.aload_n 0, 1) := by decide +kernel
theorem dX11_named_27 : decode cX11_named 27 = .ok (.getfield 121, 3) := by decide +kernel
theorem dX11_named_30 : decode cX11_named 30 = .ok (.if_icmp .ge 22, 3) := by decide +kernel
theorem dX11_named_33 : decode cX11_named 33 = .ok (.aload_n 0, 1) := by decide +kernel
theorem dX11_named_34 : decode cX11_named 34 = .ok (.iload_n 3, 1) := by decide +kernel
theorem dX11_named_35 : decode cX11_named 35 = .ok (.iconst 0, 1) := by decide +kernel
theorem dX11_named_36 : decode cX11_named 36 = .ok (.iload_n 2, 1) := by decide +kernel
theorem dX11_named_37 : decode cX11_named 37 = .ok (.invokevirtual 155, 3) := by decide +kernel
theorem dX11_named_40 : decode cX11_named 40 = .ok (.iload_n 1, 1) := by decide +kernel
theorem dX11_named_41 : decode cX11_named 41 = .ok (.if_icmp .ne 5, 3) := by decide +kernel
theorem dX11_named_44 : decode cX11_named 44 = .ok (.iload_n 3, 1) := by decide +kernel
theorem dX11_named_45 : decode cX11_named 45 = .ok (.ireturn, 1) := by decide +kernel
theorem dX11_named_46 : decode cX11_named 46 = .ok (.iinc 3 1, 3) := by decide +kernel
theorem dX11_named_49 : decode cX11_named 49 = .ok (.goto (-24), 3) := by decide +kernel
theorem dX11_named_52 : decode cX11_named 52 = .ok (.aload_n 0, 1) := by decide +kernel
theorem dX11_named_53 : decode cX11_named 53 = .ok (.iconst 2, 1) := by decide +kernel
theorem dX11_named_54 : decode cX11_named 54 = .ok (.invokevirtual 137, 3) := by decide +kernel
theorem dX11_named_57 : decode cX11_named 57 = .ok (.ireturn, 1) := by decide +kernel
