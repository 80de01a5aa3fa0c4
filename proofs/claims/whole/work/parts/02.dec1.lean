theorem dX8_within_7 : decode cX8_within 7 = .ok (.if_icmp .gt 7, 3) := by decide +kernel
theorem dX8_within_10 : decode cX8_within 10 = .ok (.iconst 1, 1) := by decide +kernel
theorem dX8_within_11 : decode cX8_within 11 = .ok (.goto 4, 3) := by decide +kernel
theorem dX8_within_14 : decode cX8_within 14 = .ok (.iconst 0, 1) := by decide +kernel
theorem dX8_within_15 : decode cX8_within 15 = .ok (.ireturn, 1) := by decide +kernel
theorem dX8_isTime_0 : decode cX8_isTime 0 = .ok (.iload_n 0, 1) := by decide +kernel
theorem dX8_isTime_1 : decode cX8_isTime 1 = .ok (.iconst 0, 1) := by decide +kernel
theorem dX8_isTime_2 : decode cX8_isTime 2 = .ok (.sipush 10079, 3) := by decide +kernel
theorem dX8_isTime_5 : decode cX8_isTime 5 = .ok (.invokestatic 44, 3) := by decide +kernel
theorem dX8_isTime_8 : decode cX8_isTime 8 = .ok (.ireturn, 1) := by decide +kernel
theorem dX8_isInterval_0 : decode cX8_isInterval 0 = .ok (.iload_n 0, 1) := by decide +kernel
theorem dX8_isInterval_1 : decode cX8_isInterval 1 = .ok (.ifCond .lt 17, 3) := by decide +kernel
theorem dX8_isInterval_4 : decode cX8_isInterval 4 = .ok (.iload_n 0, 1) := by decide +kernel
theorem dX8_isInterval_5 : decode cX8_isInterval 5 = .ok (.iload_n 1, 1) := by decide +kernel
theorem dX8_isInterval_6 : decode cX8_isInterval 6 = .ok (.if_icmp .ge 12, 3) := by decide +kernel
theorem dX8_isInterval_9 : decode cX8_isInterval 9 = .ok (.iload_n 1, 1) := by decide +kernel
theorem dX8_isInterval_10 : decode cX8_isInterval 10 = .ok (.iload_n 2, 1) := by decide +kernel
theorem dX8_isInterval_11 : decode cX8_isInterval 11 = .ok (.if_icmp .gt 7, 3) := by decide +kernel
theorem dX8_isInterval_14 : decode cX8_isInterval 14 = .ok (.iconst 1, 1) := by decide +kernel
theorem dX8_isInterval_15 : decode cX8_isInterval 15 = .ok (.goto 4, 3) := by decide +kernel
theorem dX8_isInterval_18 : decode cX8_isInterval 18 = .ok (.iconst 0, 1) := by decide +kernel
theorem dX8_isInterval_19 : decode cX8_isInterval 19 = .ok (.ireturn, 1) := by decide +kernel
theorem dX8_isProgramme_0 : decode cX8_isProgramme 0 = .ok (.iload_n 1, 1) := by decide +kernel
theorem dX8_isProgramme_1 : decode cX8_isProgramme 1 = .ok (.iconst 0, 1) := by decide +kernel
theorem dX8_isProgramme_2 : decode cX8_isProgramme 2 = .ok (.aload_n 0, 1) := by decide +kernel
theorem dX8_isProgramme_3 : decode cX8_isProgramme 3 = .ok (.getfield 12, 3) := by decide +kernel
theorem dX8_isProgramme_6 : decode cX8_isProgramme 6 = .ok (.getfield 48, 3) := by decide +kernel
theorem dX8_isProgramme_9 : decode cX8_isProgramme 9 = .ok (.getfield 52, 3) := by decide +kernel
theorem dX8_isProgramme_12 : decode cX8_isProgramme 12 = .ok (.iconst 1, 1) := by decide +kernel
theorem dX8_isProgramme_13 : decode cX8_isProgramme 13 = .ok (.isub, 1) := by decide +kernel
theorem dX8_isProgramme_14 : decode cX8_isProgramme 14 = .ok (.invokestatic 44, 3) := by decide +kernel
theorem dX8_isProgramme_17 : decode cX8_isProgramme 17 = .ok (.ireturn, 1) := by decide +kernel
theorem dX8_isItem_0 : decode cX8_isItem 0 = .ok (.iload_n 1, 1) := by decide +kernel
theorem dX8_isItem_1 : decode cX8_isItem 1 = .ok (.iconst 0, 1) := by decide +kernel
theorem dX8_isItem_2 : decode cX8_isItem 2 = .ok (.aload_n 0, 1) := by decide +kernel
theorem dX8_isItem_3 : decode cX8_isItem 3 = .ok (.getfield 12, 3) := by decide +kernel
theorem dX8_isItem_6 : decode cX8_isItem 6 = .ok (.getfield 102, 3) := by decide +kernel
theorem dX8_isItem_9 : decode cX8_isItem 9 = .ok (.getfield 112, 3) := by decide +kernel
theorem dX8_isItem_12 : decode cX8_isItem 12 = .ok (.iconst 1, 1) := by decide +kernel
theorem dX8_isItem_13 : decode cX8_isItem 13 = .ok (.isub, 1) := by decide +kernel
theorem dX8_isItem_14 : decode cX8_isItem 14 = .ok (.invokestatic 44, 3) := by decide +kernel
theorem dX8_isItem_17 : decode cX8_isItem 17 = .ok (.ireturn, 1) := by decide +kernel
theorem dX8_obstacle_0 : decode cX8_obstacle 0 = .ok (.aload_n 0, 1) := by decide +kernel
theorem dX8_obstacle_1 : decode cX8_obstacle 1 = .ok (.getfield 12, 3) := by decide +kernel
theorem dX8_obstacle_4 : decode cX8_obstacle 4 = .ok (.getfield 102, 3) := by decide +kernel
theorem dX8_obstacle_7 : decode cX8_obstacle 7 = .ok (.getfield 112, 3) := by decide +kernel
theorem dX8_obstacle_10 : decode cX8_obstacle 10 = .ok (.bipush 60, 2) := by decide +kernel
theorem dX8_obstacle_12 : decode cX8_obstacle 12 = .ok (.if_icmp .lt 6, 3) := by decide +kernel
theorem dX8_obstacle_15 : decode cX8_obstacle 15 = .ok (.bipush (-3), 2) := by decide +kernel
theorem dX8_obstacle_17 : decode cX8_obstacle 17 = .ok (.ireturn, 1) := by decide +kernel
theorem dX8_obstacle_18 : decode cX8_obstacle 18 = .ok (.iload_n 2, 1) := by decide +kernel
theorem dX8_obstacle_19 : decode cX8_obstacle 19 = .ok (.aload_n 0, 1) := by decide +kernel
theorem dX8_obstacle_20 : decode cX8_obstacle 20 = .ok (.getfield 12, 3) := by decide +kernel
theorem dX8_obstacle_23 : decode cX8_obstacle 23 = .ok (.getfield 48, 3) := by decide +kernel
theorem dX8_obstacle_26 : decode cX8_obstacle 26 = .ok (.getfield 130, 3) := by decide +kernel
theorem dX8_obstacle_29 : decode cX8_obstacle 29 = .ok (.iload_n 1, 1) := by decide +kernel
theorem dX8_obstacle_30 : decode cX8_obstacle 30 = .ok (.iaload, 1) := by decide +kernel
theorem dX8_obstacle_31 : decode cX8_obstacle 31 = .ok (.iadd, 1) := by decide +kernel
theorem dX8_obstacle_32 : decode cX8_obstacle 32 = .ok (.istore_n 3, 1) := by decide +kernel
theorem dX8_obstacle_33 : decode cX8_obstacle 33 = .ok (.iload_n 3, 1) := by decide +kernel
theorem dX8_obstacle_34 : decode cX8_obstacle 34 = .ok (.sipush 10080, 3) := by decide +kernel
theorem dX8_obstacle_37 : decode cX8_obstacle 37 = .ok (.if_icmp .gt 20, 3) := by decide +kernel
theorem dX8_obstacle_40 : decode cX8_obstacle 40 = .ok (.aload_n 0, 1) := by decide +kernel
theorem dX8_obstacle_41 : decode cX8_obstacle 41 = .ok (.getfield 12, 3) := by decide +kernel
theorem dX8_obstacle_44 : decode cX8_obstacle 44 = .ok (.getfield 102, 3) := by decide +kernel
theorem dX8_obstacle_47 : decode cX8_obstacle 47 = .ok (.iload_n 2, 1) := by decide +kernel
theorem dX8_obstacle_48 : decode cX8_obstacle 48 = .ok (.iload_n 3, 1) := by decide +kernel
theorem dX8_obstacle_49 : decode cX8_obstacle 49 = .ok (.invokevirtual 119, 3) := by decide +kernel
theorem dX8_obstacle_52 : decode cX8_obstacle 52 = .ok (.bipush (-9), 2) := by decide +kernel
theorem dX8_obstacle_54 : decode cX8_obstacle 54 = .ok (.if_icmp .eq 6, 3) := by decide +kernel
theorem dX8_obstacle_57 : decode cX8_obstacle 57 = .ok (.bipush (-4), 2) := by decide +kernel
theorem dX8_obstacle_59 : decode cX8_obstacle 59 = .ok (.ireturn, 1) := by decide +kernel
theorem dX8_obstacle_60 : decode cX8_obstacle 60 = .ok (.aload_n 0, 1) := by decide +kernel
theorem dX8_obstacle_61 : decode cX8_obstacle 61 = .ok (.iload_n 1, 1) := by decide +kernel
theorem dX8_obstacle_62 : decode cX8_obstacle 62 = .ok (.iload_n 2, 1) := by decide +kernel
theorem dX8_obstacle_63 : decode cX8_obstacle 63 = .ok (.iload_n 3, 1) := by decide +kernel
theorem dX8_obstacle_64 : decode cX8_obstacle 64 = .ok (.invokevirtual 206, 3) := by decide +kernel
theorem dX8_obstacle_67 : decode cX8_obstacle 67 = .ok (.ifCond .ne 6, 3) := by decide +kernel
theorem dX8_obstacle_70 : decode cX8_obstacle 70 = .ok (.bipush (-5), 2) := by decide +kernel
theorem dX8_obstacle_72 : decode cX8_obstacle 72 = .ok (.ireturn, 1) := by decide +kernel
theorem dX8_obstacle_73 : decode cX8_obstacle 73 = .ok (.aload_n 0, 1) := by decide +kernel
theorem dX8_obstacle_74 : decode cX8_obstacle 74 = .ok (.getfield 12, 3) := by decide +kernel
theorem dX8_obstacle_77 : decode cX8_obstacle 77 = .ok (.getfield 83, 3) := by decide +kernel
theorem dX8_obstacle_80 : decode cX8_obstacle 80 = .ok (.aload_n 0, 1) := by decide +kernel
theorem dX8_obstacle_81 : decode cX8_obstacle 81 = .ok (.getfield 12, 3) := by decide +kernel
theorem dX8_obstacle_84 : decode cX8_obstacle 84 = .ok (.getfield 48, 3) := by decide +kernel
theorem dX8_obstacle_87 : decode cX8_obstacle 87 = .ok (.getfield 182, 3) := by decide +kernel
theorem dX8_obstacle_90 : decode cX8_obstacle 90 = .ok (.iload_n 1, 1) := by decide +kernel
theorem dX8_obstacle_91 : decode cX8_obstacle 91 = .ok (.iaload, 1) := by decide +kernel
theorem dX8_obstacle_92 : decode cX8_obstacle 92 = .ok (.iload_n 2, 1) := by decide +kernel
theorem dX8_obstacle_93 : decode cX8_obstacle 93 = .ok (.iload_n 3, 1) := by decide +kernel
theorem dX8_obstacle_94 : decode cX8_obstacle 94 = .ok (.invokevirtual 185, 3) := by decide +kernel
theorem dX8_obstacle_97 : decode cX8_obstacle 97 = .ok (.bipush (-9), 2) := by decide +kernel
theorem dX8_obstacle_99 : decode cX8_obstacle 99 = .ok (.if_icmp .eq 6, 3) := by decide +kernel
theorem dX8_obstacle_102 : decode cX8_obstacle 102 = .ok (.bipush (-6), 2) := by decide +kernel
theorem dX8_obstacle_104 : decode cX8_obstacle 104 = .ok (.ireturn, 1) := by decide +kernel
theorem dX8_obstacle_105 : decode cX8_obstacle 105 = .ok (.iconst 0, 1) := by decide +kernel
theorem dX8_obstacle_106 : decode cX8_obstacle 106 = .ok (.ireturn, 1) := by decide +kernel
theorem dX8_rightsAllow_0 : decode cX8_rightsAllow 0 = .ok (.aload_n 0, 1) := by decide +kernel
theorem dX8_rightsAllow_1 : decode cX8_rightsAllow 1 = .ok (.getfield 12, 3) := by decide +kernel
theorem dX8_rightsAllow_4 : decode cX8_rightsAllow 4 = .ok (.getfield 48, 3) := by decide +kernel
theorem dX8_rightsAllow_7 : decode cX8_rightsAllow 7 = .ok (.getfield 209, 3) := by decide +kernel
theorem dX8_rightsAllow_10 : decode cX8_rightsAllow 10 = .ok (.iload_n 1, 1) := by decide +kernel
theorem dX8_rightsAllow_11 : decode cX8_rightsAllow 11 = .ok (.iaload, 1) := by decide +kernel
theorem dX8_rightsAllow_12 : decode cX8_rightsAllow 12 = .ok (.iconst 2, 1) := by decide +kernel
theorem dX8_rightsAllow_13 : decode cX8_rightsAllow 13 = .ok (.if_icmp .ne 5, 3) := by decide +kernel
theorem dX8_rightsAllow_16 : decode cX8_rightsAllow 16 = .ok (.iconst 1, 1) := by decide +kernel
theorem dX8_rightsAllow_17 : decode cX8_rightsAllow 17 = .ok (.ireturn, 1) := by decide +kernel
theorem dX8_rightsAllow_18 : decode cX8_rightsAllow 18 = .ok (.aload_n 0, 1) := by decide +kernel
theorem dX8_rightsAllow_19 : decode cX8_rightsAllow 19 = .ok (.iload_n 1, 1) := by decide +kernel
theorem dX8_rightsAllow_20 : decode cX8_rightsAllow 20 = .ok (.invokevirtual 212, 3) := by decide +kernel
theorem dX8_rightsAllow_23 : decode cX8_rightsAllow 23 = .ok (.aload_n 0, 1) := by decide +kernel
theorem dX8_rightsAllow_24 : decode cX8_rightsAllow 24 = .ok (.getfield 26, 3) := by decide +kernel
theorem dX8_rightsAllow_27 : decode cX8_rightsAllow 27 = .ok (.iload_n 1, 1) := by decide +kernel
theorem dX8_rightsAllow_28 : decode cX8_rightsAllow 28 = .ok (.iload_n 2, 1) := by decide +kernel
theorem dX8_rightsAllow_29 : decode cX8_rightsAllow 29 = .ok (.iload_n 3, 1) := by decide +kernel
theorem dX8_rightsAllow_30 : decode cX8_rightsAllow 30 = .ok (.invokevirtual 215, 3) := by decide +kernel
theorem dX8_rightsAllow_33 : decode cX8_rightsAllow 33 = .ok (.aload_n 0, 1) := by decide +kernel
theorem dX8_rightsAllow_34 : decode cX8_rightsAllow 34 = .ok (.getfield 26, 3) := by decide +kernel
theorem dX8_rightsAllow_37 : decode cX8_rightsAllow 37 = .ok (.aload_n 0, 1) := by decide +kernel
theorem dX8_rightsAllow_38 : decode cX8_rightsAllow 38 = .ok (.getfield 12, 3) := by decide +kernel
theorem dX8_rightsAllow_41 : decode cX8_rightsAllow 41 = .ok (.getfield 73, 3) := by decide +kernel
theorem dX8_rightsAllow_44 : decode cX8_rightsAllow 44 = .ok (.invokevirtual 219, 3) := by decide +kernel
theorem dX8_rightsAllow_47 : decode cX8_rightsAllow 47 = .ok (.ireturn, 1) := by decide +kernel
theorem dX8_gatherItemsOf_0 : decode cX8_gatherItemsOf 0 = .ok (.aload_n 0, 1) := by decide +kernel
theorem dX8_gatherItemsOf_1 : decode cX8_gatherItemsOf 1 = .ok (.getfield 26, 3) := by decide +kernel
theorem dX8_gatherItemsOf_4 : decode cX8_gatherItemsOf 4 = .ok (.invokevirtual 223, 3) := by decide +kernel
theorem dX8_gatherItemsOf_7 : decode cX8_gatherItemsOf 7 = .ok (.iconst 0, 1) := by decide +kernel
theorem dX8_gatherItemsOf_8 : decode cX8_gatherItemsOf 8 = .ok (.istore_n 2, 1) := by decide +kernel
theorem dX8_gatherItemsOf_9 : decode cX8_gatherItemsOf 9 = .ok (.iload_n 2, 1) := by decide +kernel
theorem dX8_gatherItemsOf_10 : decode cX8_gatherItemsOf 10 = .ok (.aload_n 0, 1) := by decide +kernel
theorem dX8_gatherItemsOf_11 : decode cX8_gatherItemsOf 11 = .ok (.getfield 12, 3) := by decide +kernel
theorem dX8_gatherItemsOf_14 : decode cX8_gatherItemsOf 14 = .ok (.getfield 102, 3) := by decide +kernel
theorem dX8_gatherItemsOf_17 : decode cX8_gatherItemsOf 17 = .ok (.getfield 112, 3) := by decide +kernel
theorem dX8_gatherItemsOf_20 : decode cX8_gatherItemsOf 20 = .ok (.if_icmp .ge 56, 3) := by decide +kernel
theorem dX8_gatherItemsOf_23 : decode cX8_gatherItemsOf 23 = .ok (.aload_n 0, 1) := by decide +kernel
theorem dX8_gatherItemsOf_24 : decode cX8_gatherItemsOf 24 = .ok (.getfield 12, 3) := by decide +kernel
theorem dX8_gatherItemsOf_27 : decode cX8_gatherItemsOf 27 = .ok (.getfield 102, 3) := by decide +kernel
theorem dX8_gatherItemsOf_30 : decode cX8_gatherItemsOf 30 = .ok (.getfield 147, 3) := by decide +kernel
theorem dX8_gatherItemsOf_33 : decode cX8_gatherItemsOf 33 = .ok (.iload_n 2, 1) := by decide +kernel
theorem dX8_gatherItemsOf_34 : decode cX8_gatherItemsOf 34 = .ok (.iaload, 1) := by decide +kernel
theorem dX8_gatherItemsOf_35 : decode cX8_gatherItemsOf 35 = .ok (.iload_n 1, 1) := by decide +kernel
theorem dX8_gatherItemsOf_36 : decode cX8_gatherItemsOf 36 = .ok (.if_icmp .ne 34, 3) := by decide +kernel
theorem dX8_gatherItemsOf_39 : decode cX8_gatherItemsOf 39 = .ok (.aload_n 0, 1) := by decide +kernel
theorem dX8_gatherItemsOf_40 : decode cX8_gatherItemsOf 40 = .ok (.getfield 26, 3) := by decide +kernel
theorem dX8_gatherItemsOf_43 : decode cX8_gatherItemsOf 43 = .ok (.iload_n 1, 1) := by decide +kernel
theorem dX8_gatherItemsOf_44 : decode cX8_gatherItemsOf 44 = .ok (.aload_n 0, 1) := by decide +kernel
theorem dX8_gatherItemsOf_45 : decode cX8_gatherItemsOf 45 = .ok (.getfield 12, 3) := by decide +kernel
theorem dX8_gatherItemsOf_48 : decode cX8_gatherItemsOf 48 = .ok (.getfield 102, 3) := by decide +kernel
theorem dX8_gatherItemsOf_51 : decode cX8_gatherItemsOf 51 = .ok (.getfield 150, 3) := by decide +kernel
theorem dX8_gatherItemsOf_54 : decode cX8_gatherItemsOf 54 = .ok (.iload_n 2, 1) := by decide +kernel
theorem dX8_gatherItemsOf_55 : decode cX8_gatherItemsOf 55 = .ok (.iaload, 1) := by decide +kernel
theorem dX8_gatherItemsOf_56 : decode cX8_gatherItemsOf 56 = .ok (.aload_n 0, 1) := by decide +kernel
theorem dX8_gatherItemsOf_57 : decode cX8_gatherItemsOf 57 = .ok (.getfield 12, 3) := by decide +kernel
theorem dX8_gatherItemsOf_60 : decode cX8_gatherItemsOf 60 = .ok (.getfield 102, 3) := by decide +kernel
theorem dX8_gatherItemsOf_63 : decode cX8_gatherItemsOf 63 = .ok (.iload_n 2, 1) := by decide +kernel
theorem dX8_gatherItemsOf_64 : decode cX8_gatherItemsOf 64 = .ok (.invokevirtual 137, 3) := by decide +kernel
theorem dX8_gatherItemsOf_67 : decode cX8_gatherItemsOf 67 = .ok (.invokevirtual 215, 3) := by decide +kernel
theorem dX8_gatherItemsOf_70 : decode cX8_gatherItemsOf 70 = .ok (.iinc 2 1, 3) := by decide +kernel
theorem dX8_gatherItemsOf_73 : decode cX8_gatherItemsOf 73 = .ok (.goto (-64), 3) := by decide +kernel
theorem dX8_gatherItemsOf_76 : decode cX8_gatherItemsOf 76 = .ok (.return_, 1) := by decide +kernel
theorem dX8_putOnAir_0 : decode cX8_putOnAir 0 = .ok (.aload_n 0, 1) := by decide +kernel
theorem dX8_putOnAir_1 : decode cX8_putOnAir 1 = .ok (.getfield 12, 3) := by decide +kernel
theorem dX8_putOnAir_4 : decode cX8_putOnAir 4 = .ok (.getfield 102, 3) := by decide +kernel
theorem dX8_putOnAir_7 : decode cX8_putOnAir 7 = .ok (.iload_n 2, 1) := by decide +kernel
theorem dX8_putOnAir_8 : decode cX8_putOnAir 8 = .ok (.invokevirtual 226, 3) := by decide +kernel
theorem dX8_putOnAir_11 : decode cX8_putOnAir 11 = .ok (.istore 4, 2) := by decide +kernel
theorem dX8_putOnAir_13 : decode cX8_putOnAir 13 = .ok (.aload_n 0, 1) := by decide +kernel
theorem dX8_putOnAir_14 : decode cX8_putOnAir 14 = .ok (.getfield 12, 3) := by decide +kernel
theorem dX8_putOnAir_17 : decode cX8_putOnAir 17 = .ok (.getfield 102, 3) := by decide +kernel
theorem dX8_putOnAir_20 : decode cX8_putOnAir 20 = .ok (.iload 4, 2) := by decide +kernel
theorem dX8_putOnAir_22 : decode cX8_putOnAir 22 = .ok (.iload_n 1, 1) := by decide +kernel
theorem dX8_putOnAir_23 : decode cX8_putOnAir 23 = .ok (.iload_n 2, 1) := by decide +kernel
theorem dX8_putOnAir_24 : decode cX8_putOnAir 24 = .ok (.aload_n 0, 1) := by decide +kernel
theorem dX8_putOnAir_25 : decode cX8_putOnAir 25 = .ok (.getfield 12, 3) := by decide +kernel
theorem dX8_putOnAir_28 : decode cX8_putOnAir 28 = .ok (.getfield 48, 3) := by decide +kernel
theorem dX8_putOnAir_31 : decode cX8_putOnAir 31 = .ok (.getfield 130, 3) := by decide +kernel
theorem dX8_putOnAir_34 : decode cX8_putOnAir 34 = .ok (.iload_n 1, 1) := by decide +kernel
theorem dX8_putOnAir_35 : decode cX8_putOnAir 35 = .ok (.iaload, 1) := by decide +kernel
theorem dX8_putOnAir_36 : decode cX8_putOnAir 36 = .ok (.iload_n 3, 1) := by decide +kernel
theorem dX8_putOnAir_37 : decode cX8_putOnAir 37 = .ok (.invokevirtual 229, 3) := by decide +kernel
theorem dX8_putOnAir_40 : decode cX8_putOnAir 40 = .ok (.iload 4, 2) := by decide +kernel
theorem dX8_putOnAir_42 : decode cX8_putOnAir 42 = .ok (.ireturn, 1) := by decide +kernel
theorem dX8_earliestStart_0 : decode cX8_earliestStart 0 = .ok (.iload_n 2, 1) := by decide +kernel
theorem dX8_earliestStart_1 : decode cX8_earliestStart 1 = .ok (.sipush 1440, 3) := by decide +kernel
theorem dX8_earliestStart_4 : decode cX8_earliestStart 4 = .ok (.iadd, 1) := by decide +kernel
theorem dX8_earliestStart_5 : decode cX8_earliestStart 5 = .ok (.iconst 1, 1) := by decide +kernel
theorem dX8_earliestStart_6 : decode cX8_earliestStart 6 = .ok (.isub, 1) := by decide +kernel
theorem dX8_earliestStart_7 : decode cX8_earliestStart 7 = .ok (.sipush 10079, 3) := by decide +kernel
theorem dX8_earliestStart_10 : decode cX8_earliestStart 10 = .ok (.invokestatic 171, 3) := by decide +kernel
theorem dX8_earliestStart_13 : decode cX8_earliestStart 13 = .ok (.istore_n 3, 1) := by decide +kernel
theorem dX8_earliestStart_14 : decode cX8_earliestStart 14 = .ok (.iload_n 2, 1) := by decide +kernel
theorem dX8_earliestStart_15 : decode cX8_earliestStart 15 = .ok (.istore 4, 2) := by decide +kernel
theorem dX8_earliestStart_17 : decode cX8_earliestStart 17 = .ok (.iconst 0, 1) := by decide +kernel
theorem dX8_earliestStart_18 : decode cX8_earliestStart 18 = .ok (.istore 5, 2) := by decide +kernel
theorem dX8_earliestStart_20 : decode cX8_earliestStart 20 = .ok (.iload 5, 2) := by decide +kernel
theorem dX8_earliestStart_22 : decode cX8_earliestStart 22 = .ok (.sipush 1440, 3) := by decide +kernel
theorem dX8_earliestStart_25 : decode cX8_earliestStart 25 = .ok (.if_icmp .ge 43, 3) := by decide +kernel
theorem dX8_earliestStart_28 : decode cX8_earliestStart 28 = .ok (.iload 4, 2) := by decide +kernel
theorem dX8_earliestStart_30 : decode cX8_earliestStart 30 = .ok (.iload_n 3, 1) := by decide +kernel
theorem dX8_earliestStart_31 : decode cX8_earliestStart 31 = .ok (.if_icmp .gt 37, 3) := by decide +kernel
theorem dX8_earliestStart_34 : decode cX8_earliestStart 34 = .ok (.aload_n 0, 1) := by decide +kernel
theorem dX8_earliestStart_35 : decode cX8_earliestStart 35 = .ok (.iload_n 1, 1) := by decide +kernel
theorem dX8_earliestStart_36 : decode cX8_earliestStart 36 = .ok (.iload 4, 2) := by decide +kernel
theorem dX8_earliestStart_38 : decode cX8_earliestStart 38 = .ok (.invokevirtual 165, 3) := by decide +kernel
theorem dX8_earliestStart_41 : decode cX8_earliestStart 41 = .ok (.istore 6, 2) := by decide +kernel
theorem dX8_earliestStart_43 : decode cX8_earliestStart 43 = .ok (.iload 6, 2) := by decide +kernel
theorem dX8_earliestStart_45 : decode cX8_earliestStart 45 = .ok (.ifCond .ne 6, 3) := by decide +kernel
theorem dX8_earliestStart_48 : decode cX8_earliestStart 48 = .ok (.iload 4, 2) := by decide +kernel
theorem dX8_earliestStart_50 : decode cX8_earliestStart 50 = .ok (.ireturn, 1) := by decide +kernel
theorem dX8_earliestStart_51 : decode cX8_earliestStart 51 = .ok (.aload_n 0, 1) := by decide +kernel
theorem dX8_earliestStart_52 : decode cX8_earliestStart 52 = .ok (.iload_n 1, 1) := by decide +kernel
theorem dX8_earliestStart_53 : decode cX8_earliestStart 53 = .ok (.iload 4, 2) := by decide +kernel
theorem dX8_earliestStart_55 : decode cX8_earliestStart 55 = .ok (.iload 6, 2) := by decide +kernel
theorem dX8_earliestStart_57 : decode cX8_earliestStart 57 = .ok (.invokevirtual 233, 3) := by decide +kernel
theorem dX8_earliestStart_60 : decode cX8_earliestStart 60 = .ok (.istore 4, 2) := by decide +kernel
theorem dX8_earliestStart_62 : decode cX8_earliestStart 62 = .ok (.iinc 5 1, 3) := by decide +kernel
theorem dX8_earliestStart_65 : decode cX8_earliestStart 65 = .ok (.goto (-45), 3) := by decide +kernel
theorem dX8_earliestStart_68 : decode cX8_earliestStart 68 = .ok (.bipush (-9), 2) := by decide +kernel
theorem dX8_earliestStart_70 : decode cX8_earliestStart 70 = .ok (.ireturn, 1) := by decide +kernel
theorem dX8_nextToTry_0 : decode cX8_nextToTry 0 = .ok (.iload_n 2, 1) := by decide +kernel
theorem dX8_nextToTry_1 : decode cX8_nextToTry 1 = .ok (.aload_n 0, 1) := by decide +kernel
theorem dX8_nextToTry_2 : decode cX8_nextToTry 2 = .ok (.getfield 12, 3) := by decide +kernel
theorem dX8_nextToTry_5 : decode cX8_nextToTry 5 = .ok (.getfield 48, 3) := by decide +kernel
theorem dX8_nextToTry_8 : decode cX8_nextToTry 8 = .ok (.getfield 130, 3) := by decide +kernel
theorem dX8_nextToTry_11 : decode cX8_nextToTry 11 = .ok (.iload_n 1, 1) := by decide +kernel
theorem dX8_nextToTry_12 : decode cX8_nextToTry 12 = .ok (.iaload, 1) := by decide +kernel
theorem dX8_nextToTry_13 : decode cX8_nextToTry 13 = .ok (.iadd, 1) := by decide +kernel
theorem dX8_nextToTry_14 : decode cX8_nextToTry 14 = .ok (.istore 4, 2) := by decide +kernel
theorem dX8_nextToTry_16 : decode cX8_nextToTry 16 = .ok (.iload_n 3, 1) := by decide +kernel
theorem dX8_nextToTry_17 : decode cX8_nextToTry 17 = .ok (.bipush (-5), 2) := by decide +kernel
theorem dX8_nextToTry_19 : decode cX8_nextToTry 19 = .ok (.if_icmp .ne 10, 3) := by decide +kernel
theorem dX8_nextToTry_22 : decode cX8_nextToTry 22 = .ok (.aload_n 0, 1) := by decide +kernel
theorem dX8_nextToTry_23 : decode cX8_nextToTry 23 = .ok (.iload_n 1, 1) := by decide +kernel
theorem dX8_nextToTry_24 : decode cX8_nextToTry 24 = .ok (.iload_n 2, 1) := by decide +kernel
theorem dX8_nextToTry_25 : decode cX8_nextToTry 25 = .ok (.invokevirtual 236, 3) := by decide +kernel
theorem dX8_nextToTry_28 : decode cX8_nextToTry 28 = .ok (.ireturn, 1) := by decide +kernel
theorem dX8_nextToTry_29 : decode cX8_nextToTry 29 = .ok (.iload_n 3, 1) := by decide +kernel
theorem dX8_nextToTry_30 : decode cX8_nextToTry 30 = .ok (.bipush (-6), 2) := by decide +kernel
theorem dX8_nextToTry_32 : decode cX8_nextToTry 32 = .ok (.if_icmp .ne 29, 3) := by decide +kernel
theorem dX8_nextToTry_35 : decode cX8_nextToTry 35 = .ok (.aload_n 0, 1) := by decide +kernel
theorem dX8_nextToTry_36 : decode cX8_nextToTry 36 = .ok (.getfield 12, 3) := by decide +kernel
theorem dX8_nextToTry_39 : decode cX8_nextToTry 39 = .ok (.getfield 83, 3) := by decide +kernel
theorem dX8_nextToTry_42 : decode cX8_nextToTry 42 = .ok (.aload_n 0, 1) := by decide +kernel
theorem dX8_nextToTry_43 : decode cX8_nextToTry 43 = .ok (.getfield 12, 3) := by decide +kernel
theorem dX8_nextToTry_46 : decode cX8_nextToTry 46 = .ok (.getfield 48, 3) := by decide +kernel
theorem dX8_nextToTry_49 : decode cX8_nextToTry 49 = .ok (.getfield 182, 3) := by decide +kernel
theorem dX8_nextToTry_52 : decode cX8_nextToTry 52 = .ok (.iload_n 1, 1) := by decide +kernel
theorem dX8_nextToTry_53 : decode cX8_nextToTry 53 = .ok (.iaload, 1) := by decide +kernel
theorem dX8_nextToTry_54 : decode cX8_nextToTry 54 = .ok (.iload_n 2, 1) := by decide +kernel
theorem dX8_nextToTry_55 : decode cX8_nextToTry 55 = .ok (.iload 4, 2) := by decide +kernel
theorem dX8_nextToTry_57 : decode cX8_nextToTry 57 = .ok (.invokevirtual 185, 3) := by decide +kernel
theorem dX8_nextToTry_60 : decode cX8_nextToTry 60 = .ok (.ireturn, 1) := by decide +kernel
theorem dX8_nextToTry_61 : decode cX8_nextToTry 61 = .ok (.aload_n 0, 1) := by decide +kernel
theorem dX8_nextToTry_62 : decode cX8_nextToTry 62 = .ok (.getfield 12, 3) := by decide +kernel
theorem dX8_nextToTry_65 : decode cX8_nextToTry 65 = .ok (.getfield 102, 3) := by decide +kernel
theorem dX8_nextToTry_68 : decode cX8_nextToTry 68 = .ok (.iload_n 2, 1) := by decide +kernel
theorem dX8_nextToTry_69 : decode cX8_nextToTry 69 = .ok (.iload 4, 2) := by decide +kernel
theorem dX8_nextToTry_71 : decode cX8_nextToTry 71 = .ok (.invokevirtual 119, 3) := by decide +kernel
theorem dX8_nextToTry_74 : decode cX8_nextToTry 74 = .ok (.istore 5, 2) := by decide +kernel
theorem dX8_nextToTry_76 : decode cX8_nextToTry 76 = .ok (.iload_n 3, 1) := by decide +kernel
theorem dX8_nextToTry_77 : decode cX8_nextToTry 77 = .ok (.bipush (-3), 2) := by decide +kernel
theorem dX8_nextToTry_79 : decode cX8_nextToTry 79 = .ok (.if_icmp .eq 10, 3) := by decide +kernel
theorem dX8_nextToTry_82 : decode cX8_nextToTry 82 = .ok (.iload 5, 2) := by decide +kernel
theorem dX8_nextToTry_84 : decode cX8_nextToTry 84 = .ok (.bipush (-9), 2) := by decide +kernel
theorem dX8_nextToTry_86 : decode cX8_nextToTry 86 = .ok (.if_icmp .ne 9, 3) := by decide +kernel
theorem dX8_nextToTry_89 : decode cX8_nextToTry 89 = .ok (.sipush 10080, 3) := by decide +kernel
theorem dX8_nextToTry_92 : decode cX8_nextToTry 92 = .ok (.goto 15, 3) := by decide +kernel
theorem dX8_nextToTry_95 : decode cX8_nextToTry 95 = .ok (.aload_n 0, 1) := by decide +kernel
theorem dX8_nextToTry_96 : decode cX8_nextToTry 96 = .ok (.getfield 12, 3) := by decide +kernel
theorem dX8_nextToTry_99 : decode cX8_nextToTry 99 = .ok (.getfield 102, 3) := by decide +kernel
theorem dX8_nextToTry_102 : decode cX8_nextToTry 102 = .ok (.iload 5, 2) := by decide +kernel
theorem dX8_nextToTry_104 : decode cX8_nextToTry 104 = .ok (.invokevirtual 137, 3) := by decide +kernel
theorem dX8_nextToTry_107 : decode cX8_nextToTry 107 = .ok (.ireturn, 1) := by decide +kernel
theorem dX8_nextWindow_0 : decode cX8_nextWindow 0 = .ok (.sipush 10080, 3) := by decide +kernel
theorem dX8_nextWindow_3 : decode cX8_nextWindow 3 = .ok (.istore_n 3, 1) := by decide +kernel
theorem dX8_nextWindow_4 : decode cX8_nextWindow 4 = .ok (.iconst 0, 1) := by decide +kernel
theorem dX8_nextWindow_5 : decode cX8_nextWindow 5 = .ok (.istore 4, 2) := by decide +kernel
theorem dX8_nextWindow_7 : decode cX8_nextWindow 7 = .ok (.iload 4, 2) := by decide +kernel
theorem dX8_nextWindow_9 : decode cX8_nextWindow 9 = .ok (.aload_n 0, 1) := by decide +kernel
theorem dX8_nextWindow_10 : decode cX8_nextWindow 10 = .ok (.getfield 12, 3) := by decide +kernel
theorem dX8_nextWindow_13 : decode cX8_nextWindow 13 = .ok (.getfield 73, 3) := by decide +kernel
theorem dX8_nextWindow_16 : decode cX8_nextWindow 16 = .ok (.getfield 77, 3) := by decide +kernel
theorem dX8_nextWindow_19 : decode cX8_nextWindow 19 = .ok (.if_icmp .ge 56, 3) := by decide +kernel
theorem dX8_nextWindow_22 : decode cX8_nextWindow 22 = .ok (.aload_n 0, 1) := by decide +kernel
theorem dX8_nextWindow_23 : decode cX8_nextWindow 23 = .ok (.getfield 12, 3) := by decide +kernel
theorem dX8_nextWindow_26 : decode cX8_nextWindow 26 = .ok (.getfield 73, 3) := by decide +kernel
theorem dX8_nextWindow_29 : decode cX8_nextWindow 29 = .ok (.getfield 239, 3) := by decide +kernel
theorem dX8_nextWindow_32 : decode cX8_nextWindow 32 = .ok (.iload 4, 2) := by decide +kernel
theorem dX8_nextWindow_34 : decode cX8_nextWindow 34 = .ok (.iaload, 1) := by decide +kernel
theorem dX8_nextWindow_35 : decode cX8_nextWindow 35 = .ok (.istore 5, 2) := by decide +kernel
theorem dX8_nextWindow_37 : decode cX8_nextWindow 37 = .ok (.aload_n 0, 1) := by decide +kernel
theorem dX8_nextWindow_38 : decode cX8_nextWindow 38 = .ok (.getfield 12, 3) := by decide +kernel
theorem dX8_nextWindow_41 : decode cX8_nextWindow 41 = .ok (.getfield 73, 3) := by decide +kernel
theorem dX8_nextWindow_44 : decode cX8_nextWindow 44 = .ok (.getfield 242, 3) := by decide +kernel
theorem dX8_nextWindow_47 : decode cX8_nextWindow 47 = .ok (.iload 4, 2) := by decide +kernel
theorem dX8_nextWindow_49 : decode cX8_nextWindow 49 = .ok (.iaload, 1) := by decide +kernel
theorem dX8_nextWindow_50 : decode cX8_nextWindow 50 = .ok (.iload_n 1, 1) := by decide +kernel
theorem dX8_nextWindow_51 : decode cX8_nextWindow 51 = .ok (.if_icmp .ne 18, 3) := by decide +kernel
theorem dX8_nextWindow_54 : decode cX8_nextWindow 54 = .ok (.iload 5, 2) := by decide +kernel
theorem dX8_nextWindow_56 : decode cX8_nextWindow 56 = .ok (.iload_n 2, 1) := by decide +kernel
theorem dX8_nextWindow_57 : decode cX8_nextWindow 57 = .ok (.if_icmp .le 12, 3) := by decide +kernel
theorem dX8_nextWindow_60 : decode cX8_nextWindow 60 = .ok (.iload 5, 2) := by decide +kernel
theorem dX8_nextWindow_62 : decode cX8_nextWindow 62 = .ok (.iload_n 3, 1) := by decide +kernel
theorem dX8_nextWindow_63 : decode cX8_nextWindow 63 = .ok (.if_icmp .ge 6, 3) := by decide +kernel
theorem dX8_nextWindow_66 : decode cX8_nextWindow 66 = .ok (.iload 5, 2) := by decide +kernel
theorem dX8_nextWindow_68 : decode cX8_nextWindow 68 = .ok (.istore_n 3, 1) := by decide +kernel
theorem dX8_nextWindow_69 : decode cX8_nextWindow 69 = .ok (.iinc 4 1, 3) := by decide +kernel
theorem dX8_nextWindow_72 : decode cX8_nextWindow 72 = .ok (.goto (-65), 3) := by decide +kernel
theorem dX8_nextWindow_75 : decode cX8_nextWindow 75 = .ok (.iload_n 3, 1) := by decide +kernel
theorem dX8_nextWindow_76 : decode cX8_nextWindow 76 = .ok (.ireturn, 1) := by decide +kernel
theorem dX8_makeRoomAfter_0 : decode cX8_makeRoomAfter 0 = .ok (.aload_n 0, 1) := by decide +kernel
theorem dX8_makeRoomAfter_1 : decode cX8_makeRoomAfter 1 = .ok (.getfield 12, 3) := by decide +kernel
theorem dX8_makeRoomAfter_4 : decode cX8_makeRoomAfter 4 = .ok (.getfield 102, 3) := by decide +kernel
theorem dX8_makeRoomAfter_7 : decode cX8_makeRoomAfter 7 = .ok (.getfield 112, 3) := by decide +kernel
theorem dX8_makeRoomAfter_10 : decode cX8_makeRoomAfter 10 = .ok (.istore_n 2, 1) := by decide +kernel
theorem dX8_makeRoomAfter_11 : decode cX8_makeRoomAfter 11 = .ok (.aload_n 0, 1) := by decide +kernel
theorem dX8_makeRoomAfter_12 : decode cX8_makeRoomAfter 12 = .ok (.getfield 12, 3) := by decide +kernel
theorem dX8_makeRoomAfter_15 : decode cX8_makeRoomAfter 15 = .ok (.getfield 102, 3) := by decide +kernel
theorem dX8_makeRoomAfter_18 : decode cX8_makeRoomAfter 18 = .ok (.iload_n 1, 1) := by decide +kernel
theorem dX8_makeRoomAfter_19 : decode cX8_makeRoomAfter 19 = .ok (.invokevirtual 137, 3) := by decide +kernel
theorem dX8_makeRoomAfter_22 : decode cX8_makeRoomAfter 22 = .ok (.istore_n 3, 1) := by decide +kernel
theorem dX8_makeRoomAfter_23 : decode cX8_makeRoomAfter 23 = .ok (.iload_n 1, 1) := by decide +kernel
theorem dX8_makeRoomAfter_24 : decode cX8_makeRoomAfter 24 = .ok (.iconst 1, 1) := by decide +kernel
theorem dX8_makeRoomAfter_25 : decode cX8_makeRoomAfter 25 = .ok (.iadd, 1) := by decide +kernel
theorem dX8_makeRoomAfter_26 : decode cX8_makeRoomAfter 26 = .ok (.istore 4, 2) := by decide +kernel
theorem dX8_makeRoomAfter_28 : decode cX8_makeRoomAfter 28 = .ok (.iload_n 1, 1) := by decide +kernel
theorem dX8_makeRoomAfter_29 : decode cX8_makeRoomAfter 29 = .ok (.iconst 1, 1) := by decide +kernel
theorem dX8_makeRoomAfter_30 : decode cX8_makeRoomAfter 30 = .ok (.iadd, 1) := by decide +kernel
theorem dX8_makeRoomAfter_31 : decode cX8_makeRoomAfter 31 = .ok (.istore 5, 2) := by decide +kernel
theorem dX8_makeRoomAfter_33 : decode cX8_makeRoomAfter 33 = .ok (.iload 5, 2) := by decide +kernel
theorem dX8_makeRoomAfter_35 : decode cX8_makeRoomAfter 35 = .ok (.iload_n 2, 1) := by decide +kernel
theorem dX8_makeRoomAfter_36 : decode cX8_makeRoomAfter 36 = .ok (.if_icmp .ge 79, 3) := by decide +kernel
theorem dX8_makeRoomAfter_39 : decode cX8_makeRoomAfter 39 = .ok (.iload 4, 2) := by decide +kernel
theorem dX8_makeRoomAfter_41 : decode cX8_makeRoomAfter 41 = .ok (.aload_n 0, 1) := by decide +kernel
theorem dX8_makeRoomAfter_42 : decode cX8_makeRoomAfter 42 = .ok (.getfield 12, 3) := by decide +kernel
theorem dX8_makeRoomAfter_45 : decode cX8_makeRoomAfter 45 = .ok (.getfield 102, 3) := by decide +kernel
theorem dX8_makeRoomAfter_48 : decode cX8_makeRoomAfter 48 = .ok (.getfield 112, 3) := by decide +kernel
theorem dX8_makeRoomAfter_51 : decode cX8_makeRoomAfter 51 = .ok (.if_icmp .ge 64, 3) := by decide +kernel
theorem dX8_makeRoomAfter_54 : decode cX8_makeRoomAfter 54 = .ok (.aload_n 0, 1) := by decide +kernel
theorem dX8_makeRoomAfter_55 : decode cX8_makeRoomAfter 55 = .ok (.getfield 12, 3) := by decide +kernel
theorem dX8_makeRoomAfter_58 : decode cX8_makeRoomAfter 58 = .ok (.getfield 102, 3) := by decide +kernel
theorem dX8_makeRoomAfter_61 : decode cX8_makeRoomAfter 61 = .ok (.getfield 150, 3) := by decide +kernel
theorem dX8_makeRoomAfter_64 : decode cX8_makeRoomAfter 64 = .ok (.iload 4, 2) := by decide +kernel
theorem dX8_makeRoomAfter_66 : decode cX8_makeRoomAfter 66 = .ok (.iaload, 1) := by decide +kernel
theorem dX8_makeRoomAfter_67 : decode cX8_makeRoomAfter 67 = .ok (.iload_n 3, 1) := by decide +kernel
theorem dX8_makeRoomAfter_68 : decode cX8_makeRoomAfter 68 = .ok (.if_icmp .lt 6, 3) := by decide +kernel
theorem dX8_makeRoomAfter_71 : decode cX8_makeRoomAfter 71 = .ok (.goto 44, 3) := by decide +kernel
theorem dX8_makeRoomAfter_74 : decode cX8_makeRoomAfter 74 = .ok (.aload_n 0, 1) := by decide +kernel
theorem dX8_makeRoomAfter_75 : decode cX8_makeRoomAfter 75 = .ok (.iload 4, 2) := by decide +kernel
theorem dX8_makeRoomAfter_77 : decode cX8_makeRoomAfter 77 = .ok (.iload_n 3, 1) := by decide +kernel
theorem dX8_makeRoomAfter_78 : decode cX8_makeRoomAfter 78 = .ok (.invokevirtual 243, 3) := by decide +kernel
theorem dX8_makeRoomAfter_81 : decode cX8_makeRoomAfter 81 = .ok (.ifCond .eq 22, 3) := by decide +kernel
theorem dX8_makeRoomAfter_84 : decode cX8_makeRoomAfter 84 = .ok (.aload_n 0, 1) := by decide +kernel
theorem dX8_makeRoomAfter_85 : decode cX8_makeRoomAfter 85 = .ok (.getfield 12, 3) := by decide +kernel
theorem dX8_makeRoomAfter_88 : decode cX8_makeRoomAfter 88 = .ok (.getfield 102, 3) := by decide +kernel
theorem dX8_makeRoomAfter_91 : decode cX8_makeRoomAfter 91 = .ok (.iload 4, 2) := by decide +kernel
theorem dX8_makeRoomAfter_93 : decode cX8_makeRoomAfter 93 = .ok (.invokevirtual 137, 3) := by decide +kernel
theorem dX8_makeRoomAfter_96 : decode cX8_makeRoomAfter 96 = .ok (.istore_n 3, 1) := by decide +kernel
theorem dX8_makeRoomAfter_97 : decode cX8_makeRoomAfter 97 = .ok (.iinc 4 1, 3) := by decide +kernel
theorem dX8_makeRoomAfter_100 : decode cX8_makeRoomAfter 100 = .ok (.goto 9, 3) := by decide +kernel
theorem dX8_makeRoomAfter_103 : decode cX8_makeRoomAfter 103 = .ok (.aload_n 0, 1) := by decide +kernel
theorem dX8_makeRoomAfter_104 : decode cX8_makeRoomAfter 104 = .ok (.iload 4, 2) := by decide +kernel
theorem dX8_makeRoomAfter_106 : decode cX8_makeRoomAfter 106 = .ok (.invokevirtual 247, 3) := by decide +kernel
theorem dX8_makeRoomAfter_109 : decode cX8_makeRoomAfter 109 = .ok (.iinc 5 1, 3) := by decide +kernel
theorem dX8_makeRoomAfter_112 : decode cX8_makeRoomAfter 112 = .ok (.goto (-79), 3) := by decide +kernel
theorem dX8_makeRoomAfter_115 : decode cX8_makeRoomAfter 115 = .ok (.iload_n 2, 1) := by decide +kernel
theorem dX8_makeRoomAfter_116 : decode cX8_makeRoomAfter 116 = .ok (.aload_n 0, 1) := by decide +kernel
theorem dX8_makeRoomAfter_117 : decode cX8_makeRoomAfter 117 = .ok (.getfield 12, 3) := by decide +kernel
theorem dX8_makeRoomAfter_120 : decode cX8_makeRoomAfter 120 = .ok (.getfield 102, 3) := by decide +kernel
theorem dX8_makeRoomAfter_123 : decode cX8_makeRoomAfter 123 = .ok (.getfield 112, 3) := by decide +kernel
theorem dX8_makeRoomAfter_126 : decode cX8_makeRoomAfter 126 = .ok (.isub, 1) := by decide +kernel
theorem dX8_makeRoomAfter_127 : decode cX8_makeRoomAfter 127 = .ok (.ireturn, 1) := by decide +kernel
theorem dX8_giveWay_0 : decode cX8_giveWay 0 = .ok (.aload_n 0, 1) := by decide +kernel
theorem dX8_giveWay_1 : decode cX8_giveWay 1 = .ok (.iload_n 1, 1) := by decide +kernel
theorem dX8_giveWay_2 : decode cX8_giveWay 2 = .ok (.invokevirtual 133, 3) := by decide +kernel
theorem dX8_giveWay_5 : decode cX8_giveWay 5 = .ok (.iconst 2, 1) := by decide +kernel
theorem dX8_giveWay_6 : decode cX8_giveWay 6 = .ok (.if_icmp .ne 5, 3) := by decide +kernel
theorem dX8_giveWay_9 : decode cX8_giveWay 9 = .ok (.iconst 0, 1) := by decide +kernel
theorem dX8_giveWay_10 : decode cX8_giveWay 10 = .ok (.ireturn, 1) := by decide +kernel
theorem dX8_giveWay_11 : decode cX8_giveWay 11 = .ok (.aload_n 0, 1) := by decide +kernel
theorem dX8_giveWay_12 : decode cX8_giveWay 12 = .ok (.getfield 12, 3) := by decide +kernel
theorem dX8_giveWay_15 : decode cX8_giveWay 15 = .ok (.getfield 102, 3) := by decide +kernel
theorem dX8_giveWay_18 : decode cX8_giveWay 18 = .ok (.getfield 153, 3) := by decide +kernel
theorem dX8_giveWay_21 : decode cX8_giveWay 21 = .ok (.iload_n 1, 1) := by decide +kernel
theorem dX8_giveWay_22 : decode cX8_giveWay 22 = .ok (.iaload, 1) := by decide +kernel
theorem dX8_giveWay_23 : decode cX8_giveWay 23 = .ok (.iconst 1, 1) := by decide +kernel
theorem dX8_giveWay_24 : decode cX8_giveWay 24 = .ok (.if_icmp .ne 12, 3) := by decide +kernel
theorem dX8_giveWay_27 : decode cX8_giveWay 27 = .ok (.aload_n 0, 1) := by decide +kernel
theorem dX8_giveWay_28 : decode cX8_giveWay 28 = .ok (.iload_n 1, 1) := by decide +kernel
theorem dX8_giveWay_29 : decode cX8_giveWay 29 = .ok (.iload_n 2, 1) := by decide +kernel
theorem dX8_giveWay_30 : decode cX8_giveWay 30 = .ok (.invokevirtual 250, 3) := by decide +kernel
theorem dX8_giveWay_33 : decode cX8_giveWay 33 = .ok (.goto 9, 3) := by decide +kernel
theorem dX8_giveWay_36 : decode cX8_giveWay 36 = .ok (.aload_n 0, 1) := by decide +kernel
theorem dX8_giveWay_37 : decode cX8_giveWay 37 = .ok (.iload_n 1, 1) := by decide +kernel
theorem dX8_giveWay_38 : decode cX8_giveWay 38 = .ok (.iload_n 2, 1) := by decide +kernel
theorem dX8_giveWay_39 : decode cX8_giveWay 39 = .ok (.invokevirtual 253, 3) := by decide +kernel
theorem dX8_giveWay_42 : decode cX8_giveWay 42 = .ok (.ireturn, 1) := by decide +kernel
theorem dX8_cut_0 : decode cX8_cut 0 = .ok (.aload_n 0, 1) := by decide +kernel
theorem dX8_cut_1 : decode cX8_cut 1 = .ok (.getfield 12, 3) := by decide +kernel
theorem dX8_cut_4 : decode cX8_cut 4 = .ok (.getfield 102, 3) := by decide +kernel
theorem dX8_cut_7 : decode cX8_cut 7 = .ok (.iload_n 1, 1) := by decide +kernel
theorem dX8_cut_8 : decode cX8_cut 8 = .ok (.invokevirtual 137, 3) := by decide +kernel
theorem dX8_cut_11 : decode cX8_cut 11 = .ok (.istore_n 3, 1) := by decide +kernel
theorem dX8_cut_12 : decode cX8_cut 12 = .ok (.iload_n 3, 1) := by decide +kernel
theorem dX8_cut_13 : decode cX8_cut 13 = .ok (.iload_n 2, 1) := by decide +kernel
theorem dX8_cut_14 : decode cX8_cut 14 = .ok (.if_icmp .gt 5, 3) := by decide +kernel
theorem dX8_cut_17 : decode cX8_cut 17 = .ok (.iconst 0, 1) := by decide +kernel
theorem dX8_cut_18 : decode cX8_cut 18 = .ok (.ireturn, 1) := by decide +kernel
theorem dX8_cut_19 : decode cX8_cut 19 = .ok (.aload_n 0, 1) := by decide +kernel
theorem dX8_cut_20 : decode cX8_cut 20 = .ok (.getfield 12, 3) := by decide +kernel
theorem dX8_cut_23 : decode cX8_cut 23 = .ok (.getfield 102, 3) := by decide +kernel
theorem dX8_cut_26 : decode cX8_cut 26 = .ok (.getfield 150, 3) := by decide +kernel
theorem dX8_cut_29 : decode cX8_cut 29 = .ok (.iload_n 1, 1) := by decide +kernel
theorem dX8_cut_30 : decode cX8_cut 30 = .ok (.iload_n 2, 1) := by decide +kernel
theorem dX8_cut_31 : decode cX8_cut 31 = .ok (.iastore, 1) := by decide +kernel
theorem dX8_cut_32 : decode cX8_cut 32 = .ok (.aload_n 0, 1) := by decide +kernel
theorem dX8_cut_33 : decode cX8_cut 33 = .ok (.getfield 12, 3) := by decide +kernel
theorem dX8_cut_36 : decode cX8_cut 36 = .ok (.getfield 102, 3) := by decide +kernel
theorem dX8_cut_39 : decode cX8_cut 39 = .ok (.getfield 140, 3) := by decide +kernel
theorem dX8_cut_42 : decode cX8_cut 42 = .ok (.iload_n 1, 1) := by decide +kernel
theorem dX8_cut_43 : decode cX8_cut 43 = .ok (.iload_n 3, 1) := by decide +kernel
theorem dX8_cut_44 : decode cX8_cut 44 = .ok (.iload_n 2, 1) := by decide +kernel
theorem dX8_cut_45 : decode cX8_cut 45 = .ok (.isub, 1) := by decide +kernel
theorem dX8_cut_46 : decode cX8_cut 46 = .ok (.iastore, 1) := by decide +kernel
theorem dX8_cut_47 : decode cX8_cut 47 = .ok (.iconst 1, 1) := by decide +kernel
theorem dX8_cut_48 : decode cX8_cut 48 = .ok (.ireturn, 1) := by decide +kernel
theorem dX8_push_0 : decode cX8_push 0 = .ok (.aload_n 0, 1) := by decide +kernel
theorem dX8_push_1 : decode cX8_push 1 = .ok (.getfield 12, 3) := by decide +kernel
theorem dX8_push_4 : decode cX8_push 4 = .ok (.getfield 102, 3) := by decide +kernel
theorem dX8_push_7 : decode cX8_push 7 = .ok (.getfield 147, 3) := by decide +kernel
theorem dX8_push_10 : decode cX8_push 10 = .ok (.iload_n 1, 1) := by decide +kernel
theorem dX8_push_11 : decode cX8_push 11 = .ok (.iaload, 1) := by decide +kernel
theorem dX8_push_12 : decode cX8_push 12 = .ok (.istore_n 3, 1) := by decide +kernel
theorem dX8_push_13 : decode cX8_push 13 = .ok (.iload_n 2, 1) := by decide +kernel
theorem dX8_push_14 : decode cX8_push 14 = .ok (.aload_n 0, 1) := by decide +kernel
theorem dX8_push_15 : decode cX8_push 15 = .ok (.getfield 12, 3) := by decide +kernel
theorem dX8_push_18 : decode cX8_push 18 = .ok (.getfield 102, 3) := by decide +kernel
theorem dX8_push_21 : decode cX8_push 21 = .ok (.getfield 140, 3) := by decide +kernel
theorem dX8_push_24 : decode cX8_push 24 = .ok (.iload_n 1, 1) := by decide +kernel
theorem dX8_push_25 : decode cX8_push 25 = .ok (.iaload, 1) := by decide +kernel
theorem dX8_push_26 : decode cX8_push 26 = .ok (.iadd, 1) := by decide +kernel
theorem dX8_push_27 : decode cX8_push 27 = .ok (.istore 4, 2) := by decide +kernel
theorem dX8_push_29 : decode cX8_push 29 = .ok (.iload 4, 2) := by decide +kernel
theorem dX8_push_31 : decode cX8_push 31 = .ok (.sipush 10080, 3) := by decide +kernel
theorem dX8_push_34 : decode cX8_push 34 = .ok (.if_icmp .gt 33, 3) := by decide +kernel
theorem dX8_push_37 : decode cX8_push 37 = .ok (.aload_n 0, 1) := by decide +kernel
theorem dX8_push_38 : decode cX8_push 38 = .ok (.getfield 12, 3) := by decide +kernel
theorem dX8_push_41 : decode cX8_push 41 = .ok (.getfield 83, 3) := by decide +kernel
theorem dX8_push_44 : decode cX8_push 44 = .ok (.aload_n 0, 1) := by decide +kernel
theorem dX8_push_45 : decode cX8_push 45 = .ok (.getfield 12, 3) := by decide +kernel
theorem dX8_push_48 : decode cX8_push 48 = .ok (.getfield 48, 3) := by decide +kernel
theorem dX8_push_51 : decode cX8_push 51 = .ok (.getfield 182, 3) := by decide +kernel
theorem dX8_push_54 : decode cX8_push 54 = .ok (.iload_n 3, 1) := by decide +kernel
theorem dX8_push_55 : decode cX8_push 55 = .ok (.iaload, 1) := by decide +kernel
theorem dX8_push_56 : decode cX8_push 56 = .ok (.iload_n 2, 1) := by decide +kernel
theorem dX8_push_57 : decode cX8_push 57 = .ok (.iload 4, 2) := by decide +kernel
theorem dX8_push_59 : decode cX8_push 59 = .ok (.invokevirtual 185, 3) := by decide +kernel
theorem dX8_push_62 : decode cX8_push 62 = .ok (.bipush (-9), 2) := by decide +kernel
theorem dX8_push_64 : decode cX8_push 64 = .ok (.if_icmp .eq 5, 3) := by decide +kernel
theorem dX8_push_67 : decode cX8_push 67 = .ok (.iconst 0, 1) := by decide +kernel
theorem dX8_push_68 : decode cX8_push 68 = .ok (.ireturn, 1) := by decide +kernel
theorem dX8_push_69 : decode cX8_push 69 = .ok (.aload_n 0, 1) := by decide +kernel
theorem dX8_push_70 : decode cX8_push 70 = .ok (.getfield 12, 3) := by decide +kernel
theorem dX8_push_73 : decode cX8_push 73 = .ok (.getfield 102, 3) := by decide +kernel
theorem dX8_push_76 : decode cX8_push 76 = .ok (.getfield 150, 3) := by decide +kernel
theorem dX8_push_79 : decode cX8_push 79 = .ok (.iload_n 1, 1) := by decide +kernel
theorem dX8_push_80 : decode cX8_push 80 = .ok (.iload_n 2, 1) := by decide +kernel
theorem dX8_push_81 : decode cX8_push 81 = .ok (.iastore, 1) := by decide +kernel
theorem dX8_push_82 : decode cX8_push 82 = .ok (.aload_n 0, 1) := by decide +kernel
theorem dX8_push_83 : decode cX8_push 83 = .ok (.iload_n 3, 1) := by decide +kernel
theorem dX8_push_84 : decode cX8_push 84 = .ok (.invokevirtual 212, 3) := by decide +kernel
theorem dX8_push_87 : decode cX8_push 87 = .ok (.aload_n 0, 1) := by decide +kernel
theorem dX8_push_88 : decode cX8_push 88 = .ok (.getfield 26, 3) := by decide +kernel
theorem dX8_push_91 : decode cX8_push 91 = .ok (.aload_n 0, 1) := by decide +kernel
theorem dX8_push_92 : decode cX8_push 92 = .ok (.getfield 12, 3) := by decide +kernel
theorem dX8_push_95 : decode cX8_push 95 = .ok (.getfield 73, 3) := by decide +kernel
theorem dX8_push_98 : decode cX8_push 98 = .ok (.invokevirtual 219, 3) := by decide +kernel
theorem dX8_push_101 : decode cX8_push 101 = .ok (.ireturn, 1) := by decide +kernel
theorem dX8_drop_0 : decode cX8_drop 0 = .ok (.aload_n 0, 1) := by decide +kernel
theorem dX8_drop_1 : decode cX8_drop 1 = .ok (.iload_n 1, 1) := by decide +kernel
theorem dX8_drop_2 : decode cX8_drop 2 = .ok (.invokevirtual 133, 3) := by decide +kernel
theorem dX8_drop_5 : decode cX8_drop 5 = .ok (.iconst 3, 1) := by decide +kernel
theorem dX8_drop_6 : decode cX8_drop 6 = .ok (.if_icmp .ne 30, 3) := by decide +kernel
theorem dX8_drop_9 : decode cX8_drop 9 = .ok (.aload_n 0, 1) := by decide +kernel
theorem dX8_drop_10 : decode cX8_drop 10 = .ok (.getfield 12, 3) := by decide +kernel
theorem dX8_drop_13 : decode cX8_drop 13 = .ok (.getfield 48, 3) := by decide +kernel
theorem dX8_drop_16 : decode cX8_drop 16 = .ok (.getfield 144, 3) := by decide +kernel
theorem dX8_drop_19 : decode cX8_drop 19 = .ok (.aload_n 0, 1) := by decide +kernel
theorem dX8_drop_20 : decode cX8_drop 20 = .ok (.getfield 12, 3) := by decide +kernel
theorem dX8_drop_23 : decode cX8_drop 23 = .ok (.getfield 102, 3) := by decide +kernel
theorem dX8_drop_26 : decode cX8_drop 26 = .ok (.getfield 147, 3) := by decide +kernel
theorem dX8_drop_29 : decode cX8_drop 29 = .ok (.iload_n 1, 1) := by decide +kernel
theorem dX8_drop_30 : decode cX8_drop 30 = .ok (.iaload, 1) := by decide +kernel
theorem dX8_drop_31 : decode cX8_drop 31 = .ok (.dup2, 1) := by decide +kernel
theorem dX8_drop_32 : decode cX8_drop 32 = .ok (.iaload, 1) := by decide +kernel
theorem dX8_drop_33 : decode cX8_drop 33 = .ok (.iconst 1, 1) := by decide +kernel
theorem dX8_drop_34 : decode cX8_drop 34 = .ok (.iadd, 1) := by decide +kernel
theorem dX8_drop_35 : decode cX8_drop 35 = .ok (.iastore, 1) := by decide +kernel
theorem dX8_drop_36 : decode cX8_drop 36 = .ok (.aload_n 0, 1) := by decide +kernel
theorem dX8_drop_37 : decode cX8_drop 37 = .ok (.getfield 12, 3) := by decide +kernel
theorem dX8_drop_40 : decode cX8_drop 40 = .ok (.getfield 102, 3) := by decide +kernel
theorem dX8_drop_43 : decode cX8_drop 43 = .ok (.iload_n 1, 1) := by decide +kernel
theorem dX8_drop_44 : decode cX8_drop 44 = .ok (.invokevirtual 106, 3) := by decide +kernel
theorem dX8_drop_47 : decode cX8_drop 47 = .ok (.return_, 1) := by decide +kernel
theorem dX8_kindOf_0 : decode cX8_kindOf 0 = .ok (.aload_n 0, 1) := by decide +kernel
theorem dX8_kindOf_1 : decode cX8_kindOf 1 = .ok (.getfield 12, 3) := by decide +kernel
theorem dX8_kindOf_4 : decode cX8_kindOf 4 = .ok (.getfield 48, 3) := by decide +kernel
theorem dX8_kindOf_7 : decode cX8_kindOf 7 = .ok (.getfield 209, 3) := by decide +kernel
theorem dX8_kindOf_10 : decode cX8_kindOf 10 = .ok (.aload_n 0, 1) := by decide +kernel
theorem dX8_kindOf_11 : decode cX8_kindOf 11 = .ok (.getfield 12, 3) := by decide +kernel
theorem dX8_kindOf_14 : decode cX8_kindOf 14 = .ok (.getfield 102, 3) := by decide +kernel
theorem dX8_kindOf_17 : decode cX8_kindOf 17 = .ok (.getfield 147, 3) := by decide +kernel
theorem dX8_kindOf_20 : decode cX8_kindOf 20 = .ok (.iload_n 1, 1) := by decide +kernel
theorem dX8_kindOf_21 : decode cX8_kindOf 21 = .ok (.iaload, 1) := by decide +kernel
theorem dX8_kindOf_22 : decode cX8_kindOf 22 = .ok (.iaload, 1) := by decide +kernel
theorem dX8_kindOf_23 : decode cX8_kindOf 23 = .ok (.ireturn, 1) := by decide +kernel
theorem dX8_shareRights_0 : decode cX8_shareRights 0 = .ok (.aload_n 0, 1) := by decide +kernel
theorem dX8_shareRights_1 : decode cX8_shareRights 1 = .ok (.getfield 26, 3) := by decide +kernel
theorem dX8_shareRights_4 : decode cX8_shareRights 4 = .ok (.invokevirtual 223, 3) := by decide +kernel
theorem dX8_shareRights_7 : decode cX8_shareRights 7 = .ok (.iconst 0, 1) := by decide +kernel
theorem dX8_shareRights_8 : decode cX8_shareRights 8 = .ok (.istore_n 1, 1) := by decide +kernel
theorem dX8_shareRights_9 : decode cX8_shareRights 9 = .ok (.iload_n 1, 1) := by decide +kernel
theorem dX8_shareRights_10 : decode cX8_shareRights 10 = .ok (.aload_n 0, 1) := by decide +kernel
theorem dX8_shareRights_11 : decode cX8_shareRights 11 = .ok (.getfield 12, 3) := by decide +kernel
theorem dX8_shareRights_14 : decode cX8_shareRights 14 = .ok (.getfield 102, 3) := by decide +kernel
theorem dX8_shareRights_17 : decode cX8_shareRights 17 = .ok (.getfield 112, 3) := by decide +kernel
theorem dX8_shareRights_20 : decode cX8_shareRights 20 = .ok (.if_icmp .ge 67, 3) := by decide +kernel
theorem dX8_shareRights_23 : decode cX8_shareRights 23 = .ok (.aload_n 0, 1) := by decide +kernel
theorem dX8_shareRights_24 : decode cX8_shareRights 24 = .ok (.iload_n 1, 1) := by decide +kernel
theorem dX8_shareRights_25 : decode cX8_shareRights 25 = .ok (.invokevirtual 133, 3) := by decide +kernel
theorem dX8_shareRights_28 : decode cX8_shareRights 28 = .ok (.iconst 2, 1) := by decide +kernel
theorem dX8_shareRights_29 : decode cX8_shareRights 29 = .ok (.if_icmp .ne 8, 3) := by decide +kernel
theorem dX8_shareRights_32 : decode cX8_shareRights 32 = .ok (.bipush (-9), 2) := by decide +kernel
theorem dX8_shareRights_34 : decode cX8_shareRights 34 = .ok (.goto 15, 3) := by decide +kernel
theorem dX8_shareRights_37 : decode cX8_shareRights 37 = .ok (.aload_n 0, 1) := by decide +kernel
theorem dX8_shareRights_38 : decode cX8_shareRights 38 = .ok (.getfield 12, 3) := by decide +kernel
theorem dX8_shareRights_41 : decode cX8_shareRights 41 = .ok (.getfield 102, 3) := by decide +kernel
theorem dX8_shareRights_44 : decode cX8_shareRights 44 = .ok (.getfield 147, 3) := by decide +kernel
theorem dX8_shareRights_47 : decode cX8_shareRights 47 = .ok (.iload_n 1, 1) := by decide +kernel
theorem dX8_shareRights_48 : decode cX8_shareRights 48 = .ok (.iaload, 1) := by decide +kernel
theorem dX8_shareRights_49 : decode cX8_shareRights 49 = .ok (.istore_n 2, 1) := by decide +kernel
theorem dX8_shareRights_50 : decode cX8_shareRights 50 = .ok (.aload_n 0, 1) := by decide +kernel
theorem dX8_shareRights_51 : decode cX8_shareRights 51 = .ok (.getfield 26, 3) := by decide +kernel
theorem dX8_shareRights_54 : decode cX8_shareRights 54 = .ok (.iload_n 2, 1) := by decide +kernel
theorem dX8_shareRights_55 : decode cX8_shareRights 55 = .ok (.aload_n 0, 1) := by decide +kernel
theorem dX8_shareRights_56 : decode cX8_shareRights 56 = .ok (.getfield 12, 3) := by decide +kernel
theorem dX8_shareRights_59 : decode cX8_shareRights 59 = .ok (.getfield 102, 3) := by decide +kernel
theorem dX8_shareRights_62 : decode cX8_shareRights 62 = .ok (.getfield 150, 3) := by decide +kernel
theorem dX8_shareRights_65 : decode cX8_shareRights 65 = .ok (.iload_n 1, 1) := by decide +kernel
theorem dX8_shareRights_66 : decode cX8_shareRights 66 = .ok (.iaload, 1) := by decide +kernel
theorem dX8_shareRights_67 : decode cX8_shareRights 67 = .ok (.aload_n 0, 1) := by decide +kernel
theorem dX8_shareRights_68 : decode cX8_shareRights 68 = .ok (.getfield 12, 3) := by decide +kernel
theorem dX8_shareRights_71 : decode cX8_shareRights 71 = .ok (.getfield 102, 3) := by decide +kernel
theorem dX8_shareRights_74 : decode cX8_shareRights 74 = .ok (.iload_n 1, 1) := by decide +kernel
theorem dX8_shareRights_75 : decode cX8_shareRights 75 = .ok (.invokevirtual 137, 3) := by decide +kernel
theorem dX8_shareRights_78 : decode cX8_shareRights 78 = .ok (.invokevirtual 215, 3) := by decide +kernel
theorem dX8_shareRights_81 : decode cX8_shareRights 81 = .ok (.iinc 1 1, 3) := by decide +kernel
theorem dX8_shareRights_84 : decode cX8_shareRights 84 = .ok (.goto (-75), 3) := by decide +kernel
theorem dX8_shareRights_87 : decode cX8_shareRights 87 = .ok (.aload_n 0, 1) := by decide +kernel
theorem dX8_shareRights_88 : decode cX8_shareRights 88 = .ok (.getfield 26, 3) := by decide +kernel
theorem dX8_shareRights_91 : decode cX8_shareRights 91 = .ok (.aload_n 0, 1) := by decide +kernel
theorem dX8_shareRights_92 : decode cX8_shareRights 92 = .ok (.getfield 12, 3) := by decide +kernel
theorem dX8_shareRights_95 : decode cX8_shareRights 95 = .ok (.getfield 73, 3) := by decide +kernel
theorem dX8_shareRights_98 : decode cX8_shareRights 98 = .ok (.invokevirtual 219, 3) := by decide +kernel
theorem dX8_shareRights_101 : decode cX8_shareRights 101 = .ok (.pop, 1) := by decide +kernel
theorem dX8_shareRights_102 : decode cX8_shareRights 102 = .ok (.return_, 1) := by decide +kernel
theorem dX8_programmesAhead_0 : decode cX8_programmesAhead 0 = .ok (.aload_n 0, 1) := by decide +kernel
theorem dX8_programmesAhead_1 : decode cX8_programmesAhead 1 = .ok (.getfield 12, 3) := by decide +kernel
theorem dX8_programmesAhead_4 : decode cX8_programmesAhead 4 = .ok (.getfield 102, 3) := by decide +kernel
theorem dX8_programmesAhead_7 : decode cX8_programmesAhead 7 = .ok (.iload_n 1, 1) := by decide +kernel
theorem dX8_programmesAhead_8 : decode cX8_programmesAhead 8 = .ok (.invokevirtual 256, 3) := by decide +kernel
theorem dX8_programmesAhead_11 : decode cX8_programmesAhead 11 = .ok (.istore_n 2, 1) := by decide +kernel
theorem dX8_programmesAhead_12 : decode cX8_programmesAhead 12 = .ok (.iconst 0, 1) := by decide +kernel
theorem dX8_programmesAhead_13 : decode cX8_programmesAhead 13 = .ok (.istore_n 3, 1) := by decide +kernel
theorem dX8_programmesAhead_14 : decode cX8_programmesAhead 14 = .ok (.iconst 0, 1) := by decide +kernel
theorem dX8_programmesAhead_15 : decode cX8_programmesAhead 15 = .ok (.istore 4, 2) := by decide +kernel
theorem dX8_programmesAhead_17 : decode cX8_programmesAhead 17 = .ok (.iload 4, 2) := by decide +kernel
theorem dX8_programmesAhead_19 : decode cX8_programmesAhead 19 = .ok (.aload_n 0, 1) := by decide +kernel
theorem dX8_programmesAhead_20 : decode cX8_programmesAhead 20 = .ok (.getfield 12, 3) := by decide +kernel
theorem dX8_programmesAhead_23 : decode cX8_programmesAhead 23 = .ok (.getfield 48, 3) := by decide +kernel
theorem dX8_programmesAhead_26 : decode cX8_programmesAhead 26 = .ok (.getfield 52, 3) := by decide +kernel
theorem dX8_programmesAhead_29 : decode cX8_programmesAhead 29 = .ok (.if_icmp .ge 44, 3) := by decide +kernel
theorem dX8_programmesAhead_32 : decode cX8_programmesAhead 32 = .ok (.aload_n 0, 1) := by decide +kernel
theorem dX8_programmesAhead_33 : decode cX8_programmesAhead 33 = .ok (.getfield 12, 3) := by decide +kernel
theorem dX8_programmesAhead_36 : decode cX8_programmesAhead 36 = .ok (.getfield 102, 3) := by decide +kernel
theorem dX8_programmesAhead_39 : decode cX8_programmesAhead 39 = .ok (.iload 4, 2) := by decide +kernel
theorem dX8_programmesAhead_41 : decode cX8_programmesAhead 41 = .ok (.invokevirtual 256, 3) := by decide +kernel
theorem dX8_programmesAhead_44 : decode cX8_programmesAhead 44 = .ok (.istore 5, 2) := by decide +kernel
theorem dX8_programmesAhead_46 : decode cX8_programmesAhead 46 = .ok (.iload 5, 2) := by decide +kernel
theorem dX8_programmesAhead_48 : decode cX8_programmesAhead 48 = .ok (.iload_n 2, 1) := by decide +kernel
theorem dX8_programmesAhead_49 : decode cX8_programmesAhead 49 = .ok (.if_icmp .gt 15, 3) := by decide +kernel
theorem dX8_programmesAhead_52 : decode cX8_programmesAhead 52 = .ok (.iload 5, 2) := by decide +kernel
theorem dX8_programmesAhead_54 : decode cX8_programmesAhead 54 = .ok (.iload_n 2, 1) := by decide +kernel
theorem dX8_programmesAhead_55 : decode cX8_programmesAhead 55 = .ok (.if_icmp .ne 12, 3) := by decide +kernel
theorem dX8_programmesAhead_58 : decode cX8_programmesAhead 58 = .ok (.iload 4, 2) := by decide +kernel
theorem dX8_programmesAhead_60 : decode cX8_programmesAhead 60 = .ok (.iload_n 1, 1) := by decide +kernel
theorem dX8_programmesAhead_61 : decode cX8_programmesAhead 61 = .ok (.if_icmp .ge 6, 3) := by decide +kernel
theorem dX8_programmesAhead_64 : decode cX8_programmesAhead 64 = .ok (.iinc 3 1, 3) := by decide +kernel
theorem dX8_programmesAhead_67 : decode cX8_programmesAhead 67 = .ok (.iinc 4 1, 3) := by decide +kernel
theorem dX8_programmesAhead_70 : decode cX8_programmesAhead 70 = .ok (.goto (-53), 3) := by decide +kernel
theorem dX8_programmesAhead_73 : decode cX8_programmesAhead 73 = .ok (.iload_n 3, 1) := by decide +kernel
theorem dX8_programmesAhead_74 : decode cX8_programmesAhead 74 = .ok (.ireturn, 1) := by decide +kernel
theorem dX8_writeLine_0 : decode cX8_writeLine 0 = .ok (.aload_n 0, 1) := by decide +kernel
theorem dX8_writeLine_1 : decode cX8_writeLine 1 = .ok (.getfield 12, 3) := by decide +kernel
theorem dX8_writeLine_4 : decode cX8_writeLine 4 = .ok (.getfield 102, 3) := by decide +kernel
theorem dX8_writeLine_7 : decode cX8_writeLine 7 = .ok (.getfield 150, 3) := by decide +kernel
theorem dX8_writeLine_10 : decode cX8_writeLine 10 = .ok (.iload_n 1, 1) := by decide +kernel
theorem dX8_writeLine_11 : decode cX8_writeLine 11 = .ok (.iaload, 1) := by decide +kernel
theorem dX8_writeLine_12 : decode cX8_writeLine 12 = .ok (.sipush 1440, 3) := by decide +kernel
theorem dX8_writeLine_15 : decode cX8_writeLine 15 = .ok (.irem, 1) := by decide +kernel
theorem dX8_writeLine_16 : decode cX8_writeLine 16 = .ok (.istore_n 2, 1) := by decide +kernel
theorem dX8_writeLine_17 : decode cX8_writeLine 17 = .ok (.aload_n 0, 1) := by decide +kernel
theorem dX8_writeLine_18 : decode cX8_writeLine 18 = .ok (.getfield 40, 3) := by decide +kernel
theorem dX8_writeLine_21 : decode cX8_writeLine 21 = .ok (.iconst 0, 1) := by decide +kernel
theorem dX8_writeLine_22 : decode cX8_writeLine 22 = .ok (.invokevirtual 259, 3) := by decide +kernel
theorem dX8_writeLine_25 : decode cX8_writeLine 25 = .ok (.aload_n 0, 1) := by decide +kernel
theorem dX8_writeLine_26 : decode cX8_writeLine 26 = .ok (.getfield 40, 3) := by decide +kernel
theorem dX8_writeLine_29 : decode cX8_writeLine 29 = .ok (.aload_n 0, 1) := by decide +kernel
theorem dX8_writeLine_30 : decode cX8_writeLine 30 = .ok (.getfield 12, 3) := by decide +kernel
theorem dX8_writeLine_33 : decode cX8_writeLine 33 = .ok (.getfield 102, 3) := by decide +kernel
theorem dX8_writeLine_36 : decode cX8_writeLine 36 = .ok (.getfield 150, 3) := by decide +kernel
theorem dX8_writeLine_39 : decode cX8_writeLine 39 = .ok (.iload_n 1, 1) := by decide +kernel
theorem dX8_writeLine_40 : decode cX8_writeLine 40 = .ok (.iaload, 1) := by decide +kernel
theorem dX8_writeLine_41 : decode cX8_writeLine 41 = .ok (.sipush 1440, 3) := by decide +kernel
theorem dX8_writeLine_44 : decode cX8_writeLine 44 = .ok (.idiv, 1) := by decide +kernel
theorem dX8_writeLine_45 : decode cX8_writeLine 45 = .ok (.invokevirtual 262, 3) := by decide +kernel
theorem dX8_writeLine_48 : decode cX8_writeLine 48 = .ok (.bipush 32, 2) := by decide +kernel
theorem dX8_writeLine_50 : decode cX8_writeLine 50 = .ok (.invokevirtual 265, 3) := by decide +kernel
theorem dX8_writeLine_53 : decode cX8_writeLine 53 = .ok (.pop, 1) := by decide +kernel
theorem dX8_writeLine_54 : decode cX8_writeLine 54 = .ok (.aload_n 0, 1) := by decide +kernel
theorem dX8_writeLine_55 : decode cX8_writeLine 55 = .ok (.iload_n 2, 1) := by decide +kernel
theorem dX8_writeLine_56 : decode cX8_writeLine 56 = .ok (.bipush 60, 2) := by decide +kernel
theorem dX8_writeLine_58 : decode cX8_writeLine 58 = .ok (.idiv, 1) := by decide +kernel
theorem dX8_writeLine_59 : decode cX8_writeLine 59 = .ok (.invokevirtual 268, 3) := by decide +kernel
theorem dX8_writeLine_62 : decode cX8_writeLine 62 = .ok (.aload_n 0, 1) := by decide +kernel
theorem dX8_writeLine_63 : decode cX8_writeLine 63 = .ok (.getfield 40, 3) := by decide +kernel
theorem dX8_writeLine_66 : decode cX8_writeLine 66 = .ok (.bipush 58, 2) := by decide +kernel
theorem dX8_writeLine_68 : decode cX8_writeLine 68 = .ok (.invokevirtual 265, 3) := by decide +kernel
theorem dX8_writeLine_71 : decode cX8_writeLine 71 = .ok (.pop, 1) := by decide +kernel
theorem dX8_writeLine_72 : decode cX8_writeLine 72 = .ok (.aload_n 0, 1) := by decide +kernel
theorem dX8_writeLine_73 : decode cX8_writeLine 73 = .ok (.iload_n 2, 1) := by decide +kernel
theorem dX8_writeLine_74 : decode cX8_writeLine 74 = .ok (.bipush 60, 2) := by decide +kernel
theorem dX8_writeLine_76 : decode cX8_writeLine 76 = .ok (.irem, 1) := by decide +kernel
theorem dX8_writeLine_77 : decode cX8_writeLine 77 = .ok (.invokevirtual 268, 3) := by decide +kernel
theorem dX8_writeLine_80 : decode cX8_writeLine 80 = .ok (.aload_n 0, 1) := by decide +kernel
theorem dX8_writeLine_81 : decode cX8_writeLine 81 = .ok (.getfield 40, 3) := by decide +kernel
theorem dX8_writeLine_84 : decode cX8_writeLine 84 = .ok (.ldc_w 271, 3) := by decide +kernel
theorem dX8_writeLine_87 : decode cX8_writeLine 87 = .ok (.invokevirtual 273, 3) := by decide +kernel
theorem dX8_writeLine_90 : decode cX8_writeLine 90 = .ok (.aload_n 0, 1) := by decide +kernel
theorem dX8_writeLine_91 : decode cX8_writeLine 91 = .ok (.getfield 12, 3) := by decide +kernel
theorem dX8_writeLine_94 : decode cX8_writeLine 94 = .ok (.getfield 102, 3) := by decide +kernel
theorem dX8_writeLine_97 : decode cX8_writeLine 97 = .ok (.getfield 140, 3) := by decide +kernel
theorem dX8_writeLine_100 : decode cX8_writeLine 100 = .ok (.iload_n 1, 1) := by decide +kernel
theorem dX8_writeLine_101 : decode cX8_writeLine 101 = .ok (.iaload, 1) := by decide +kernel
theorem dX8_writeLine_102 : decode cX8_writeLine 102 = .ok (.invokevirtual 262, 3) := by decide +kernel
theorem dX8_writeLine_105 : decode cX8_writeLine 105 = .ok (.pop, 1) := by decide +kernel
theorem dX8_writeLine_106 : decode cX8_writeLine 106 = .ok (.aload_n 0, 1) := by decide +kernel
theorem dX8_writeLine_107 : decode cX8_writeLine 107 = .ok (.getfield 40, 3) := by decide +kernel
theorem dX8_writeLine_110 : decode cX8_writeLine 110 = .ok (.ldc_w 276, 3) := by decide +kernel
theorem dX8_writeLine_113 : decode cX8_writeLine 113 = .ok (.invokevirtual 273, 3) := by decide +kernel
theorem dX8_writeLine_116 : decode cX8_writeLine 116 = .ok (.aload_n 0, 1) := by decide +kernel
theorem dX8_writeLine_117 : decode cX8_writeLine 117 = .ok (.getfield 12, 3) := by decide +kernel
theorem dX8_writeLine_120 : decode cX8_writeLine 120 = .ok (.getfield 102, 3) := by decide +kernel
theorem dX8_writeLine_123 : decode cX8_writeLine 123 = .ok (.getfield 147, 3) := by decide +kernel
theorem dX8_writeLine_126 : decode cX8_writeLine 126 = .ok (.iload_n 1, 1) := by decide +kernel
theorem dX8_writeLine_127 : decode cX8_writeLine 127 = .ok (.iaload, 1) := by decide +kernel
theorem dX8_writeLine_128 : decode cX8_writeLine 128 = .ok (.invokevirtual 262, 3) := by decide +kernel
theorem dX8_writeLine_131 : decode cX8_writeLine 131 = .ok (.pop, 1) := by decide +kernel
theorem dX8_writeLine_132 : decode cX8_writeLine 132 = .ok (.aload_n 0, 1) := by decide +kernel
theorem dX8_writeLine_133 : decode cX8_writeLine 133 = .ok (.getfield 12, 3) := by decide +kernel
theorem dX8_writeLine_136 : decode cX8_writeLine 136 = .ok (.getfield 102, 3) := by decide +kernel
theorem dX8_writeLine_139 : decode cX8_writeLine 139 = .ok (.getfield 153, 3) := by decide +kernel
theorem dX8_writeLine_142 : decode cX8_writeLine 142 = .ok (.iload_n 1, 1) := by decide +kernel
theorem dX8_writeLine_143 : decode cX8_writeLine 143 = .ok (.iaload, 1) := by decide +kernel
theorem dX8_writeLine_144 : decode cX8_writeLine 144 = .ok (.iconst 1, 1) := by decide +kernel
theorem dX8_writeLine_145 : decode cX8_writeLine 145 = .ok (.if_icmp .ne 13, 3) := by decide +kernel
theorem dX8_writeLine_148 : decode cX8_writeLine 148 = .ok (.aload_n 0, 1) := by decide +kernel
theorem dX8_writeLine_149 : decode cX8_writeLine 149 = .ok (.getfield 40, 3) := by decide +kernel
theorem dX8_writeLine_152 : decode cX8_writeLine 152 = .ok (.bipush 33, 2) := by decide +kernel
theorem dX8_writeLine_154 : decode cX8_writeLine 154 = .ok (.invokevirtual 265, 3) := by decide +kernel
theorem dX8_writeLine_157 : decode cX8_writeLine 157 = .ok (.pop, 1) := by decide +kernel
theorem dX8_writeLine_158 : decode cX8_writeLine 158 = .ok (.return_, 1) := by decide +kernel
theorem dX8_writeTwoDigits_0 : decode cX8_writeTwoDigits 0 = .ok (.aload_n 0, 1) := by decide +kernel
theorem dX8_writeTwoDigits_1 : decode cX8_writeTwoDigits 1 = .ok (.getfield 40, 3) := by decide +kernel
theorem dX8_writeTwoDigits_4 : decode cX8_writeTwoDigits 4 = .ok (.iload_n 1, 1) := by decide +kernel
theorem dX8_writeTwoDigits_5 : decode cX8_writeTwoDigits 5 = .ok (.bipush 10, 2) := by decide +kernel
theorem dX8_writeTwoDigits_7 : decode cX8_writeTwoDigits 7 = .ok (.idiv, 1) := by decide +kernel
theorem dX8_writeTwoDigits_8 : decode cX8_writeTwoDigits 8 = .ok (.invokevirtual 262, 3) := by decide +kernel
theorem dX8_writeTwoDigits_11 : decode cX8_writeTwoDigits 11 = .ok (.iload_n 1, 1) := by decide +kernel
theorem dX8_writeTwoDigits_12 : decode cX8_writeTwoDigits 12 = .ok (.bipush 10, 2) := by decide +kernel
theorem dX8_writeTwoDigits_14 : decode cX8_writeTwoDigits 14 = .ok (.irem, 1) := by decide +kernel
theorem dX8_writeTwoDigits_15 : decode cX8_writeTwoDigits 15 = .ok (.invokevirtual 262, 3) := by decide +kernel
theorem dX8_writeTwoDigits_18 : decode cX8_writeTwoDigits 18 = .ok (.pop, 1) := by decide +kernel
theorem dX8_writeTwoDigits_19 : decode cX8_writeTwoDigits 19 = .ok (.return_, 1) := by decide +kernel
theorem dX9_init_0 : decode cX9_init 0 = .ok (.aload_n 0, 1) := by decide +kernel
theorem dX9_init_1 : decode cX9_init 1 = .ok (.invokespecial 1, 3) := by decide +kernel
theorem dX9_init_4 : decode cX9_init 4 = .ok (.aload_n 0, 1) := by decide +kernel
theorem dX9_init_5 : decode cX9_init 5 = .ok (.sipush 480, 3) := by decide +kernel
theorem dX9_init_8 : decode cX9_init 8 = .ok (.newarray .int, 2) := by decide +kernel
theorem dX9_init_10 : decode cX9_init 10 = .ok (.putfield 7, 3) := by decide +kernel
theorem dX9_init_13 : decode cX9_init 13 = .ok (.aload_n 0, 1) := by decide +kernel
theorem dX9_init_14 : decode cX9_init 14 = .ok (.sipush 2400, 3) := by decide +kernel
theorem dX9_init_17 : decode cX9_init 17 = .ok (.newarray .int, 2) := by decide +kernel
theorem dX9_init_19 : decode cX9_init 19 = .ok (.putfield 13, 3) := by decide +kernel
theorem dX9_init_22 : decode cX9_init 22 = .ok (.aload_n 0, 1) := by decide +kernel
theorem dX9_init_23 : decode cX9_init 23 = .ok (.bipush 61, 2) := by decide +kernel
theorem dX9_init_25 : decode cX9_init 25 = .ok (.newarray .int, 2) := by decide +kernel
theorem dX9_init_27 : decode cX9_init 27 = .ok (.putfield 16, 3) := by decide +kernel
theorem dX9_init_30 : decode cX9_init 30 = .ok (.aload_n 0, 1) := by decide +kernel
theorem dX9_init_31 : decode cX9_init 31 = .ok (.bipush 61, 2) := by decide +kernel
theorem dX9_init_33 : decode cX9_init 33 = .ok (.newarray .int, 2) := by decide +kernel
theorem dX9_init_35 : decode cX9_init 35 = .ok (.putfield 19, 3) := by decide +kernel
theorem dX9_init_38 : decode cX9_init 38 = .ok (.aload_n 0, 1) := by decide +kernel
theorem dX9_init_39 : decode cX9_init 39 = .ok (.bipush 61, 2) := by decide +kernel
theorem dX9_init_41 : decode cX9_init 41 = .ok (.newarray .int, 2) := by decide +kernel
theorem dX9_init_43 : decode cX9_init 43 = .ok (.putfield 22, 3) := by decide +kernel
theorem dX9_init_46 : decode cX9_init 46 = .ok (.aload_n 0, 1) := by decide +kernel
theorem dX9_init_47 : decode cX9_init 47 = .ok (.bipush 61, 2) := by decide +kernel
theorem dX9_init_49 : decode cX9_init 49 = .ok (.newarray .int, 2) := by decide +kernel
theorem dX9_init_51 : decode cX9_init 51 = .ok (.putfield 25, 3) := by decide +kernel
theorem dX9_init_54 : decode cX9_init 54 = .ok (.aload_n 0, 1) := by decide +kernel
theorem dX9_init_55 : decode cX9_init 55 = .ok (.bipush 30, 2) := by decide +kernel
theorem dX9_init_57 : decode cX9_init 57 = .ok (.newarray .int, 2) := by decide +kernel
theorem dX9_init_59 : decode cX9_init 59 = .ok (.putfield 28, 3) := by decide +kernel
theorem dX9_init_62 : decode cX9_init 62 = .ok (.aload_n 0, 1) := by decide +kernel
theorem dX9_init_63 : decode cX9_init 63 = .ok (.sipush 4097, 3) := by decide +kernel
theorem dX9_init_66 : decode cX9_init 66 = .ok (.newarray .int, 2) := by decide +kernel
theorem dX9_init_68 : decode cX9_init 68 = .ok (.putfield 31, 3) := by decide +kernel
theorem dX9_init_71 : decode cX9_init 71 = .ok (.aload_n 0, 1) := by decide +kernel
theorem dX9_init_72 : decode cX9_init 72 = .ok (.bipush 40, 2) := by decide +kernel
theorem dX9_init_74 : decode cX9_init 74 = .ok (.newarray .int, 2) := by decide +kernel
theorem dX9_init_76 : decode cX9_init 76 = .ok (.putfield 34, 3) := by decide +kernel
theorem dX9_init_79 : decode cX9_init 79 = .ok (.return_, 1) := by decide +kernel
theorem dX9_in_0 : decode cX9_in 0 = .ok (.iload_n 0, 1) := by decide +kernel
theorem dX9_in_1 : decode cX9_in 1 = .ok (.iload_n 1, 1) := by decide +kernel
theorem dX9_in_2 : decode cX9_in 2 = .ok (.if_icmp .lt 12, 3) := by decide +kernel
theorem dX9_in_5 : decode cX9_in 5 = .ok (.iload_n 0, 1) := by decide +kernel
theorem dX9_in_6 : decode cX9_in 6 = .ok (.iload_n 2, 1) := by decide +kernel
theorem dX9_in_7 : decode cX9_in 7 = .ok (.if_icmp .gt 7, 3) := by decide +kernel
theorem dX9_in_10 : decode cX9_in 10 = .ok (.iconst 1, 1) := by decide +kernel
theorem dX9_in_11 : decode cX9_in 11 = .ok (.goto 4, 3) := by decide +kernel
theorem dX9_in_14 : decode cX9_in 14 = .ok (.iconst 0, 1) := by decide +kernel
theorem dX9_in_15 : decode cX9_in 15 = .ok (.ireturn, 1) := by decide +kernel
theorem dX9_act_0 : decode cX9_act 0 = .ok (.aload_n 0, 1) := by decide +kernel
theorem dX9_act_1 : decode cX9_act 1 = .ok (.getfield 37, 3) := by decide +kernel
theorem dX9_act_4 : decode cX9_act 4 = .ok (.iconst 5, 1) := by decide +kernel
theorem dX9_act_5 : decode cX9_act 5 = .ok (.if_icmp .ne 44, 3) := by decide +kernel
theorem dX9_act_8 : decode cX9_act 8 = .ok (.iconst 0, 1) := by decide +kernel
theorem dX9_act_9 : decode cX9_act 9 = .ok (.istore_n 1, 1) := by decide +kernel
theorem dX9_act_10 : decode cX9_act 10 = .ok (.iload_n 1, 1) := by decide +kernel
theorem dX9_act_11 : decode cX9_act 11 = .ok (.sipush 1920, 3) := by decide +kernel
theorem dX9_act_14 : decode cX9_act 14 = .ok (.if_icmp .ge 25, 3) := by decide +kernel
theorem dX9_act_17 : decode cX9_act 17 = .ok (.aload_n 0, 1) := by decide +kernel
theorem dX9_act_18 : decode cX9_act 18 = .ok (.getfield 13, 3) := by decide +kernel
theorem dX9_act_21 : decode cX9_act 21 = .ok (.iload_n 1, 1) := by decide +kernel
theorem dX9_act_22 : decode cX9_act 22 = .ok (.aload_n 0, 1) := by decide +kernel
theorem dX9_act_23 : decode cX9_act 23 = .ok (.getfield 13, 3) := by decide +kernel
theorem dX9_act_26 : decode cX9_act 26 = .ok (.iload_n 1, 1) := by decide +kernel
theorem dX9_act_27 : decode cX9_act 27 = .ok (.sipush 480, 3) := by decide +kernel
theorem dX9_act_30 : decode cX9_act 30 = .ok (.iadd, 1) := by decide +kernel
theorem dX9_act_31 : decode cX9_act 31 = .ok (.iaload, 1) := by decide +kernel
theorem dX9_act_32 : decode cX9_act 32 = .ok (.iastore, 1) := by decide +kernel
theorem dX9_act_33 : decode cX9_act 33 = .ok (.iinc 1 1, 3) := by decide +kernel
theorem dX9_act_36 : decode cX9_act 36 = .ok (.goto (-26), 3) := by decide +kernel
theorem dX9_act_39 : decode cX9_act 39 = .ok (.aload_n 0, 1) := by decide +kernel
theorem dX9_act_40 : decode cX9_act 40 = .ok (.dup, 1) := by decide +kernel
theorem dX9_act_41 : decode cX9_act 41 = .ok (.getfield 37, 3) := by decide +kernel
theorem dX9_act_44 : decode cX9_act 44 = .ok (.iconst 1, 1) := by decide +kernel
theorem dX9_act_45 : decode cX9_act 45 = .ok (.isub, 1) := by decide +kernel
theorem dX9_act_46 : decode cX9_act 46 = .ok (.putfield 37, 3) := by decide +kernel
theorem dX9_act_49 : decode cX9_act 49 = .ok (.iconst 0, 1) := by decide +kernel
theorem dX9_act_50 : decode cX9_act 50 = .ok (.istore_n 1, 1) := by decide +kernel
theorem dX9_act_51 : decode cX9_act 51 = .ok (.iload_n 1, 1) := by decide +kernel
theorem dX9_act_52 : decode cX9_act 52 = .ok (.sipush 480, 3) := by decide +kernel
theorem dX9_act_55 : decode cX9_act 55 = .ok (.if_icmp .ge 30, 3) := by decide +kernel
theorem dX9_act_58 : decode cX9_act 58 = .ok (.aload_n 0, 1) := by decide +kernel
theorem dX9_act_59 : decode cX9_act 59 = .ok (.getfield 13, 3) := by decide +kernel
theorem dX9_act_62 : decode cX9_act 62 = .ok (.sipush 480, 3) := by decide +kernel
theorem dX9_act_65 : decode cX9_act 65 = .ok (.aload_n 0, 1) := by decide +kernel
theorem dX9_act_66 : decode cX9_act 66 = .ok (.getfield 37, 3) := by decide +kernel
theorem dX9_act_69 : decode cX9_act 69 = .ok (.imul, 1) := by decide +kernel
theorem dX9_act_70 : decode cX9_act 70 = .ok (.iload_n 1, 1) := by decide +kernel
theorem dX9_act_71 : decode cX9_act 71 = .ok (.iadd, 1) := by decide +kernel
theorem dX9_act_72 : decode cX9_act 72 = .ok (.aload_n 0, 1) := by decide +kernel
theorem dX9_act_73 : decode cX9_act 73 = .ok (.getfield 7, 3) := by decide +kernel
theorem dX9_act_76 : decode cX9_act 76 = .ok (.iload_n 1, 1) := by decide +kernel
theorem dX9_act_77 : decode cX9_act 77 = .ok (.iaload, 1) := by decide +kernel
theorem dX9_act_78 : decode cX9_act 78 = .ok (.iastore, 1) := by decide +kernel
theorem dX9_act_79 : decode cX9_act 79 = .ok (.iinc 1 1, 3) := by decide +kernel
theorem dX9_act_82 : decode cX9_act 82 = .ok (.goto (-31), 3) := by decide +kernel
theorem dX9_act_85 : decode cX9_act 85 = .ok (.aload_n 0, 1) := by decide +kernel
theorem dX9_act_86 : decode cX9_act 86 = .ok (.dup, 1) := by decide +kernel
theorem dX9_act_87 : decode cX9_act 87 = .ok (.getfield 37, 3) := by decide +kernel
theorem dX9_act_90 : decode cX9_act 90 = .ok (.iconst 1, 1) := by decide +kernel
theorem dX9_act_91 : decode cX9_act 91 = .ok (.iadd, 1) := by decide +kernel
theorem dX9_act_92 : decode cX9_act 92 = .ok (.putfield 37, 3) := by decide +kernel
theorem dX9_act_95 : decode cX9_act 95 = .ok (.return_, 1) := by decide +kernel
theorem dX9_isProgramme_0 : decode cX9_isProgramme 0 = .ok (.iload_n 1, 1) := by decide +kernel
theorem dX9_isProgramme_1 : decode cX9_isProgramme 1 = .ok (.iconst 0, 1) := by decide +kernel
theorem dX9_isProgramme_2 : decode cX9_isProgramme 2 = .ok (.aload_n 0, 1) := by decide +kernel
theorem dX9_isProgramme_3 : decode cX9_isProgramme 3 = .ok (.getfield 7, 3) := by decide +kernel
theorem dX9_isProgramme_6 : decode cX9_isProgramme 6 = .ok (.iconst 0, 1) := by decide +kernel
theorem dX9_isProgramme_7 : decode cX9_isProgramme 7 = .ok (.iaload, 1) := by decide +kernel
theorem dX9_isProgramme_8 : decode cX9_isProgramme 8 = .ok (.iconst 1, 1) := by decide +kernel
theorem dX9_isProgramme_9 : decode cX9_isProgramme 9 = .ok (.isub, 1) := by decide +kernel
theorem dX9_isProgramme_10 : decode cX9_isProgramme 10 = .ok (.invokestatic 41, 3) := by decide +kernel
theorem dX9_isProgramme_13 : decode cX9_isProgramme 13 = .ok (.ireturn, 1) := by decide +kernel
theorem dX9_isItem_0 : decode cX9_isItem 0 = .ok (.iload_n 1, 1) := by decide +kernel
theorem dX9_isItem_1 : decode cX9_isItem 1 = .ok (.iconst 0, 1) := by decide +kernel
theorem dX9_isItem_2 : decode cX9_isItem 2 = .ok (.aload_n 0, 1) := by decide +kernel
theorem dX9_isItem_3 : decode cX9_isItem 3 = .ok (.getfield 7, 3) := by decide +kernel
theorem dX9_isItem_6 : decode cX9_isItem 6 = .ok (.iconst 3, 1) := by decide +kernel
theorem dX9_isItem_7 : decode cX9_isItem 7 = .ok (.iaload, 1) := by decide +kernel
theorem dX9_isItem_8 : decode cX9_isItem 8 = .ok (.iconst 1, 1) := by decide +kernel
theorem dX9_isItem_9 : decode cX9_isItem 9 = .ok (.isub, 1) := by decide +kernel
theorem dX9_isItem_10 : decode cX9_isItem 10 = .ok (.invokestatic 41, 3) := by decide +kernel
theorem dX9_isItem_13 : decode cX9_isItem 13 = .ok (.ireturn, 1) := by decide +kernel
theorem dX9_kind_0 : decode cX9_kind 0 = .ok (.aload_n 0, 1) := by decide +kernel
theorem dX9_kind_1 : decode cX9_kind 1 = .ok (.getfield 7, 3) := by decide +kernel
theorem dX9_kind_4 : decode cX9_kind 4 = .ok (.bipush 10, 2) := by decide +kernel
theorem dX9_kind_6 : decode cX9_kind 6 = .ok (.iconst 4, 1) := by decide +kernel
theorem dX9_kind_7 : decode cX9_kind 7 = .ok (.iload_n 1, 1) := by decide +kernel
theorem dX9_kind_8 : decode cX9_kind 8 = .ok (.imul, 1) := by decide +kernel
theorem dX9_kind_9 : decode cX9_kind 9 = .ok (.iadd, 1) := by decide +kernel
theorem dX9_kind_10 : decode cX9_kind 10 = .ok (.iaload, 1) := by decide +kernel
theorem dX9_kind_11 : decode cX9_kind 11 = .ok (.ireturn, 1) := by decide +kernel
theorem dX9_length_0 : decode cX9_length 0 = .ok (.aload_n 0, 1) := by decide +kernel
theorem dX9_length_1 : decode cX9_length 1 = .ok (.getfield 7, 3) := by decide +kernel
theorem dX9_length_4 : decode cX9_length 4 = .ok (.bipush 10, 2) := by decide +kernel
theorem dX9_length_6 : decode cX9_length 6 = .ok (.iconst 4, 1) := by decide +kernel
theorem dX9_length_7 : decode cX9_length 7 = .ok (.iload_n 1, 1) := by decide +kernel
theorem dX9_length_8 : decode cX9_length 8 = .ok (.imul, 1) := by decide +kernel
theorem dX9_length_9 : decode cX9_length 9 = .ok (.iadd, 1) := by decide +kernel
theorem dX9_length_10 : decode cX9_length 10 = .ok (.iconst 1, 1) := by decide +kernel
theorem dX9_length_11 : decode cX9_length 11 = .ok (.iadd, 1) := by decide +kernel
theorem dX9_length_12 : decode cX9_length 12 = .ok (.iaload, 1) := by decide +kernel
theorem dX9_length_13 : decode cX9_length 13 = .ok (.ireturn, 1) := by decide +kernel
theorem dX9_of_0 : decode cX9_of 0 = .ok (.aload_n 0, 1) := by decide +kernel
theorem dX9_of_1 : decode cX9_of 1 = .ok (.getfield 7, 3) := by decide +kernel
theorem dX9_of_4 : decode cX9_of 4 = .ok (.sipush 230, 3) := by decide +kernel
theorem dX9_of_7 : decode cX9_of 7 = .ok (.iconst 4, 1) := by decide +kernel
theorem dX9_of_8 : decode cX9_of 8 = .ok (.iload_n 1, 1) := by decide +kernel
theorem dX9_of_9 : decode cX9_of 9 = .ok (.imul, 1) := by decide +kernel
theorem dX9_of_10 : decode cX9_of 10 = .ok (.iadd, 1) := by decide +kernel
theorem dX9_of_11 : decode cX9_of 11 = .ok (.iload_n 2, 1) := by decide +kernel
theorem dX9_of_12 : decode cX9_of 12 = .ok (.iadd, 1) := by decide +kernel
theorem dX9_of_13 : decode cX9_of 13 = .ok (.iaload, 1) := by decide +kernel
theorem dX9_of_14 : decode cX9_of 14 = .ok (.ireturn, 1) := by decide +kernel
theorem dX9_end_0 : decode cX9_end 0 = .ok (.aload_n 0, 1) := by decide +kernel
theorem dX9_end_1 : decode cX9_end 1 = .ok (.iload_n 1, 1) := by decide +kernel
theorem dX9_end_2 : decode cX9_end 2 = .ok (.iconst 1, 1) := by decide +kernel
theorem dX9_end_3 : decode cX9_end 3 = .ok (.invokevirtual 45, 3) := by decide +kernel
theorem dX9_end_6 : decode cX9_end 6 = .ok (.aload_n 0, 1) := by decide +kernel
theorem dX9_end_7 : decode cX9_end 7 = .ok (.iload_n 1, 1) := by decide +kernel
theorem dX9_end_8 : decode cX9_end 8 = .ok (.iconst 2, 1) := by decide +kernel
theorem dX9_end_9 : decode cX9_end 9 = .ok (.invokevirtual 45, 3) := by decide +kernel
theorem dX9_end_12 : decode cX9_end 12 = .ok (.iadd, 1) := by decide +kernel
theorem dX9_end_13 : decode cX9_end 13 = .ok (.ireturn, 1) := by decide +kernel
theorem dX9_addProgramme_0 : decode cX9_addProgramme 0 = .ok (.iload_n 1, 1) := by decide +kernel
theorem dX9_addProgramme_1 : decode cX9_addProgramme 1 = .ok (.iconst 0, 1) := by decide +kernel
theorem dX9_addProgramme_2 : decode cX9_addProgramme 2 = .ok (.iconst 3, 1) := by decide +kernel
theorem dX9_addProgramme_3 : decode cX9_addProgramme 3 = .ok (.invokestatic 41, 3) := by decide +kernel
theorem dX9_addProgramme_6 : decode cX9_addProgramme 6 = .ok (.ifCond .eq 23, 3) := by decide +kernel
theorem dX9_addProgramme_9 : decode cX9_addProgramme 9 = .ok (.iload_n 2, 1) := by decide +kernel
theorem dX9_addProgramme_10 : decode cX9_addProgramme 10 = .ok (.iconst 1, 1) := by decide +kernel
theorem dX9_addProgramme_11 : decode cX9_addProgramme 11 = .ok (.sipush 240, 3) := by decide +kernel
theorem dX9_addProgramme_14 : decode cX9_addProgramme 14 = .ok (.invokestatic 41, 3) := by decide +kernel
theorem dX9_addProgramme_17 : decode cX9_addProgramme 17 = .ok (.ifCond .eq 12, 3) := by decide +kernel
theorem dX9_addProgramme_20 : decode cX9_addProgramme 20 = .ok (.iload_n 3, 1) := by decide +kernel
theorem dX9_addProgramme_21 : decode cX9_addProgramme 21 = .ok (.iconst 0, 1) := by decide +kernel
theorem dX9_addProgramme_22 : decode cX9_addProgramme 22 = .ok (.iconst 3, 1) := by decide +kernel
theorem dX9_addProgramme_23 : decode cX9_addProgramme 23 = .ok (.invokestatic 41, 3) := by decide +kernel
theorem dX9_addProgramme_26 : decode cX9_addProgramme 26 = .ok (.ifCond .ne 5, 3) := by decide +kernel
theorem dX9_addProgramme_29 : decode cX9_addProgramme 29 = .ok (.iconst (-1), 1) := by decide +kernel
theorem dX9_addProgramme_30 : decode cX9_addProgramme 30 = .ok (.ireturn, 1) := by decide +kernel
theorem dX9_addProgramme_31 : decode cX9_addProgramme 31 = .ok (.aload_n 0, 1) := by decide +kernel
theorem dX9_addProgramme_32 : decode cX9_addProgramme 32 = .ok (.getfield 7, 3) := by decide +kernel
theorem dX9_addProgramme_35 : decode cX9_addProgramme 35 = .ok (.iconst 0, 1) := by decide +kernel
theorem dX9_addProgramme_36 : decode cX9_addProgramme 36 = .ok (.iaload, 1) := by decide +kernel
theorem dX9_addProgramme_37 : decode cX9_addProgramme 37 = .ok (.bipush 16, 2) := by decide +kernel
theorem dX9_addProgramme_39 : decode cX9_addProgramme 39 = .ok (.if_icmp .ne 6, 3) := by decide +kernel
theorem dX9_addProgramme_42 : decode cX9_addProgramme 42 = .ok (.bipush (-3), 2) := by decide +kernel
theorem dX9_addProgramme_44 : decode cX9_addProgramme 44 = .ok (.ireturn, 1) := by decide +kernel
theorem dX9_addProgramme_45 : decode cX9_addProgramme 45 = .ok (.aload_n 0, 1) := by decide +kernel
theorem dX9_addProgramme_46 : decode cX9_addProgramme 46 = .ok (.invokevirtual 49, 3) := by decide +kernel
theorem dX9_addProgramme_49 : decode cX9_addProgramme 49 = .ok (.bipush 10, 2) := by decide +kernel
theorem dX9_addProgramme_51 : decode cX9_addProgramme 51 = .ok (.iconst 4, 1) := by decide +kernel
theorem dX9_addProgramme_52 : decode cX9_addProgramme 52 = .ok (.aload_n 0, 1) := by decide +kernel
theorem dX9_addProgramme_53 : decode cX9_addProgramme 53 = .ok (.getfield 7, 3) := by decide +kernel
theorem dX9_addProgramme_56 : decode cX9_addProgramme 56 = .ok (.iconst 0, 1) := by decide +kernel
theorem dX9_addProgramme_57 : decode cX9_addProgramme 57 = .ok (.iaload, 1) := by decide +kernel
theorem dX9_addProgramme_58 : decode cX9_addProgramme 58 = .ok (.imul, 1) := by decide +kernel
theorem dX9_addProgramme_59 : decode cX9_addProgramme 59 = .ok (.iadd, 1) := by decide +kernel
theorem dX9_addProgramme_60 : decode cX9_addProgramme 60 = .ok (.istore 4, 2) := by decide +kernel
theorem dX9_addProgramme_62 : decode cX9_addProgramme 62 = .ok (.aload_n 0, 1) := by decide +kernel
theorem dX9_addProgramme_63 : decode cX9_addProgramme 63 = .ok (.getfield 7, 3) := by decide +kernel
theorem dX9_addProgramme_66 : decode cX9_addProgramme 66 = .ok (.iload 4, 2) := by decide +kernel
theorem dX9_addProgramme_68 : decode cX9_addProgramme 68 = .ok (.iload_n 1, 1) := by decide +kernel
theorem dX9_addProgramme_69 : decode cX9_addProgramme 69 = .ok (.iastore, 1) := by decide +kernel
theorem dX9_addProgramme_70 : decode cX9_addProgramme 70 = .ok (.aload_n 0, 1) := by decide +kernel
theorem dX9_addProgramme_71 : decode cX9_addProgramme 71 = .ok (.getfield 7, 3) := by decide +kernel
theorem dX9_addProgramme_74 : decode cX9_addProgramme 74 = .ok (.iload 4, 2) := by decide +kernel
theorem dX9_addProgramme_76 : decode cX9_addProgramme 76 = .ok (.iconst 1, 1) := by decide +kernel
theorem dX9_addProgramme_77 : decode cX9_addProgramme 77 = .ok (.iadd, 1) := by decide +kernel
theorem dX9_addProgramme_78 : decode cX9_addProgramme 78 = .ok (.iload_n 2, 1) := by decide +kernel
theorem dX9_addProgramme_79 : decode cX9_addProgramme 79 = .ok (.iastore, 1) := by decide +kernel
theorem dX9_addProgramme_80 : decode cX9_addProgramme 80 = .ok (.aload_n 0, 1) := by decide +kernel
theorem dX9_addProgramme_81 : decode cX9_addProgramme 81 = .ok (.getfield 7, 3) := by decide +kernel
theorem dX9_addProgramme_84 : decode cX9_addProgramme 84 = .ok (.iload 4, 2) := by decide +kernel
theorem dX9_addProgramme_86 : decode cX9_addProgramme 86 = .ok (.iconst 2, 1) := by decide +kernel
theorem dX9_addProgramme_87 : decode cX9_addProgramme 87 = .ok (.iadd, 1) := by decide +kernel
theorem dX9_addProgramme_88 : decode cX9_addProgramme 88 = .ok (.iload_n 3, 1) := by decide +kernel
theorem dX9_addProgramme_89 : decode cX9_addProgramme 89 = .ok (.iastore, 1) := by decide +kernel
theorem dX9_addProgramme_90 : decode cX9_addProgramme 90 = .ok (.aload_n 0, 1) := by decide +kernel
theorem dX9_addProgramme_91 : decode cX9_addProgramme 91 = .ok (.getfield 7, 3) := by decide +kernel
theorem dX9_addProgramme_94 : decode cX9_addProgramme 94 = .ok (.iload 4, 2) := by decide +kernel
theorem dX9_addProgramme_96 : decode cX9_addProgramme 96 = .ok (.iconst 3, 1) := by decide +kernel
theorem dX9_addProgramme_97 : decode cX9_addProgramme 97 = .ok (.iadd, 1) := by decide +kernel
theorem dX9_addProgramme_98 : decode cX9_addProgramme 98 = .ok (.iconst 0, 1) := by decide +kernel
theorem dX9_addProgramme_99 : decode cX9_addProgramme 99 = .ok (.iastore, 1) := by decide +kernel
theorem dX9_addProgramme_100 : decode cX9_addProgramme 100 = .ok (.aload_n 0, 1) := by decide +kernel
theorem dX9_addProgramme_101 : decode cX9_addProgramme 101 = .ok (.getfield 7, 3) := by decide +kernel
theorem dX9_addProgramme_104 : decode cX9_addProgramme 104 = .ok (.iconst 0, 1) := by decide +kernel
theorem dX9_addProgramme_105 : decode cX9_addProgramme 105 = .ok (.dup2, 1) := by decide +kernel
theorem dX9_addProgramme_106 : decode cX9_addProgramme 106 = .ok (.iaload, 1) := by decide +kernel
theorem dX9_addProgramme_107 : decode cX9_addProgramme 107 = .ok (.iconst 1, 1) := by decide +kernel
theorem dX9_addProgramme_108 : decode cX9_addProgramme 108 = .ok (.iadd, 1) := by decide +kernel
theorem dX9_addProgramme_109 : decode cX9_addProgramme 109 = .ok (.iastore, 1) := by decide +kernel
theorem dX9_addProgramme_110 : decode cX9_addProgramme 110 = .ok (.aload_n 0, 1) := by decide +kernel
theorem dX9_addProgramme_111 : decode cX9_addProgramme 111 = .ok (.getfield 7, 3) := by decide +kernel
theorem dX9_addProgramme_114 : decode cX9_addProgramme 114 = .ok (.iconst 0, 1) := by decide +kernel
theorem dX9_addProgramme_115 : decode cX9_addProgramme 115 = .ok (.iaload, 1) := by decide +kernel
theorem dX9_addProgramme_116 : decode cX9_addProgramme 116 = .ok (.iconst 1, 1) := by decide +kernel
theorem dX9_addProgramme_117 : decode cX9_addProgramme 117 = .ok (.isub, 1) := by decide +kernel
theorem dX9_addProgramme_118 : decode cX9_addProgramme 118 = .ok (.ireturn, 1) := by decide +kernel
theorem dX9_addRight_0 : decode cX9_addRight 0 = .ok (.aload_n 0, 1) := by decide +kernel
theorem dX9_addRight_1 : decode cX9_addRight 1 = .ok (.iload_n 1, 1) := by decide +kernel
theorem dX9_addRight_2 : decode cX9_addRight 2 = .ok (.invokevirtual 52, 3) := by decide +kernel
theorem dX9_addRight_5 : decode cX9_addRight 5 = .ok (.ifCond .eq 38, 3) := by decide +kernel
theorem dX9_addRight_8 : decode cX9_addRight 8 = .ok (.iload_n 2, 1) := by decide +kernel
theorem dX9_addRight_9 : decode cX9_addRight 9 = .ok (.iconst 0, 1) := by decide +kernel
theorem dX9_addRight_10 : decode cX9_addRight 10 = .ok (.sipush 10079, 3) := by decide +kernel
theorem dX9_addRight_13 : decode cX9_addRight 13 = .ok (.invokestatic 41, 3) := by decide +kernel
theorem dX9_addRight_16 : decode cX9_addRight 16 = .ok (.ifCond .eq 27, 3) := by decide +kernel
theorem dX9_addRight_19 : decode cX9_addRight 19 = .ok (.iload_n 3, 1) := by decide +kernel
theorem dX9_addRight_20 : decode cX9_addRight 20 = .ok (.iload_n 2, 1) := by decide +kernel
theorem dX9_addRight_21 : decode cX9_addRight 21 = .ok (.iconst 1, 1) := by decide +kernel
theorem dX9_addRight_22 : decode cX9_addRight 22 = .ok (.iadd, 1) := by decide +kernel
theorem dX9_addRight_23 : decode cX9_addRight 23 = .ok (.sipush 10080, 3) := by decide +kernel
theorem dX9_addRight_26 : decode cX9_addRight 26 = .ok (.invokestatic 41, 3) := by decide +kernel
theorem dX9_addRight_29 : decode cX9_addRight 29 = .ok (.ifCond .eq 14, 3) := by decide +kernel
theorem dX9_addRight_32 : decode cX9_addRight 32 = .ok (.iload 4, 2) := by decide +kernel
theorem dX9_addRight_34 : decode cX9_addRight 34 = .ok (.iconst 1, 1) := by decide +kernel
theorem dX9_addRight_35 : decode cX9_addRight 35 = .ok (.bipush 50, 2) := by decide +kernel
theorem dX9_addRight_37 : decode cX9_addRight 37 = .ok (.invokestatic 41, 3) := by decide +kernel
theorem dX9_addRight_40 : decode cX9_addRight 40 = .ok (.ifCond .ne 5, 3) := by decide +kernel
theorem dX9_addRight_43 : decode cX9_addRight 43 = .ok (.iconst (-1), 1) := by decide +kernel
theorem dX9_addRight_44 : decode cX9_addRight 44 = .ok (.ireturn, 1) := by decide +kernel
theorem dX9_addRight_45 : decode cX9_addRight 45 = .ok (.aload_n 0, 1) := by decide +kernel
theorem dX9_addRight_46 : decode cX9_addRight 46 = .ok (.getfield 7, 3) := by decide +kernel
theorem dX9_addRight_49 : decode cX9_addRight 49 = .ok (.iconst 2, 1) := by decide +kernel
theorem dX9_addRight_50 : decode cX9_addRight 50 = .ok (.iaload, 1) := by decide +kernel
theorem dX9_addRight_51 : decode cX9_addRight 51 = .ok (.bipush 30, 2) := by decide +kernel
theorem dX9_addRight_53 : decode cX9_addRight 53 = .ok (.if_icmp .ne 6, 3) := by decide +kernel
theorem dX9_addRight_56 : decode cX9_addRight 56 = .ok (.bipush (-3), 2) := by decide +kernel
theorem dX9_addRight_58 : decode cX9_addRight 58 = .ok (.ireturn, 1) := by decide +kernel
theorem dX9_addRight_59 : decode cX9_addRight 59 = .ok (.aload_n 0, 1) := by decide +kernel
theorem dX9_addRight_60 : decode cX9_addRight 60 = .ok (.invokevirtual 49, 3) := by decide +kernel
theorem dX9_addRight_63 : decode cX9_addRight 63 = .ok (.bipush 110, 2) := by decide +kernel
theorem dX9_addRight_65 : decode cX9_addRight 65 = .ok (.iconst 4, 1) := by decide +kernel
theorem dX9_addRight_66 : decode cX9_addRight 66 = .ok (.aload_n 0, 1) := by decide +kernel
theorem dX9_addRight_67 : decode cX9_addRight 67 = .ok (.getfield 7, 3) := by decide +kernel
theorem dX9_addRight_70 : decode cX9_addRight 70 = .ok (.iconst 2, 1) := by decide +kernel
theorem dX9_addRight_71 : decode cX9_addRight 71 = .ok (.iaload, 1) := by decide +kernel
theorem dX9_addRight_72 : decode cX9_addRight 72 = .ok (.imul, 1) := by decide +kernel
theorem dX9_addRight_73 : decode cX9_addRight 73 = .ok (.iadd, 1) := by decide +kernel
theorem dX9_addRight_74 : decode cX9_addRight 74 = .ok (.istore 5, 2) := by decide +kernel
theorem dX9_addRight_76 : decode cX9_addRight 76 = .ok (.aload_n 0, 1) := by decide +kernel
theorem dX9_addRight_77 : decode cX9_addRight 77 = .ok (.getfield 7, 3) := by decide +kernel
theorem dX9_addRight_80 : decode cX9_addRight 80 = .ok (.iload 5, 2) := by decide +kernel
theorem dX9_addRight_82 : decode cX9_addRight 82 = .ok (.iload_n 1, 1) := by decide +kernel
theorem dX9_addRight_83 : decode cX9_addRight 83 = .ok (.iastore, 1) := by decide +kernel
theorem dX9_addRight_84 : decode cX9_addRight 84 = .ok (.aload_n 0, 1) := by decide +kernel
theorem dX9_addRight_85 : decode cX9_addRight 85 = .ok (.getfield 7, 3) := by decide +kernel
theorem dX9_addRight_88 : decode cX9_addRight 88 = .ok (.iload 5, 2) := by decide +kernel
theorem dX9_addRight_90 : decode cX9_addRight 90 = .ok (.iconst 1, 1) := by decide +kernel
theorem dX9_addRight_91 : decode cX9_addRight 91 = .ok (.iadd, 1) := by decide +kernel
theorem dX9_addRight_92 : decode cX9_addRight 92 = .ok (.iload_n 2, 1) := by decide +kernel
theorem dX9_addRight_93 : decode cX9_addRight 93 = .ok (.iastore, 1) := by decide +kernel
theorem dX9_addRight_94 : decode cX9_addRight 94 = .ok (.aload_n 0, 1) := by decide +kernel
theorem dX9_addRight_95 : decode cX9_addRight 95 = .ok (.getfield 7, 3) := by decide +kernel
theorem dX9_addRight_98 : decode cX9_addRight 98 = .ok (.iload 5, 2) := by decide +kernel
theorem dX9_addRight_100 : decode cX9_addRight 100 = .ok (.iconst 2, 1) := by decide +kernel
theorem dX9_addRight_101 : decode cX9_addRight 101 = .ok (.iadd, 1) := by decide +kernel
theorem dX9_addRight_102 : decode cX9_addRight 102 = .ok (.iload_n 3, 1) := by decide +kernel
theorem dX9_addRight_103 : decode cX9_addRight 103 = .ok (.iastore, 1) := by decide +kernel
theorem dX9_addRight_104 : decode cX9_addRight 104 = .ok (.aload_n 0, 1) := by decide +kernel
theorem dX9_addRight_105 : decode cX9_addRight 105 = .ok (.getfield 7, 3) := by decide +kernel
theorem dX9_addRight_108 : decode cX9_addRight 108 = .ok (.iload 5, 2) := by decide +kernel
theorem dX9_addRight_110 : decode cX9_addRight 110 = .ok (.iconst 3, 1) := by decide +kernel
theorem dX9_addRight_111 : decode cX9_addRight 111 = .ok (.iadd, 1) := by decide +kernel
theorem dX9_addRight_112 : decode cX9_addRight 112 = .ok (.iload 4, 2) := by decide +kernel
theorem dX9_addRight_114 : decode cX9_addRight 114 = .ok (.iastore, 1) := by decide +kernel
theorem dX9_addRight_115 : decode cX9_addRight 115 = .ok (.aload_n 0, 1) := by decide +kernel
theorem dX9_addRight_116 : decode cX9_addRight 116 = .ok (.getfield 7, 3) := by decide +kernel
theorem dX9_addRight_119 : decode cX9_addRight 119 = .ok (.iconst 2, 1) := by decide +kernel
theorem dX9_addRight_120 : decode cX9_addRight 120 = .ok (.dup2, 1) := by decide +kernel
theorem dX9_addRight_121 : decode cX9_addRight 121 = .ok (.iaload, 1) := by decide +kernel
theorem dX9_addRight_122 : decode cX9_addRight 122 = .ok (.iconst 1, 1) := by decide +kernel
theorem dX9_addRight_123 : decode cX9_addRight 123 = .ok (.iadd, 1) := by decide +kernel
theorem dX9_addRight_124 : decode cX9_addRight 124 = .ok (.iastore, 1) := by decide +kernel
theorem dX9_addRight_125 : decode cX9_addRight 125 = .ok (.aload_n 0, 1) := by decide +kernel
theorem dX9_addRight_126 : decode cX9_addRight 126 = .ok (.getfield 7, 3) := by decide +kernel
theorem dX9_addRight_129 : decode cX9_addRight 129 = .ok (.iconst 2, 1) := by decide +kernel
theorem dX9_addRight_130 : decode cX9_addRight 130 = .ok (.iaload, 1) := by decide +kernel
theorem dX9_addRight_131 : decode cX9_addRight 131 = .ok (.iconst 1, 1) := by decide +kernel
theorem dX9_addRight_132 : decode cX9_addRight 132 = .ok (.isub, 1) := by decide +kernel
theorem dX9_addRight_133 : decode cX9_addRight 133 = .ok (.ireturn, 1) := by decide +kernel
theorem dX9_addBlackout_0 : decode cX9_addBlackout 0 = .ok (.iload_n 1, 1) := by decide +kernel
theorem dX9_addBlackout_1 : decode cX9_addBlackout 1 = .ok (.iconst 0, 1) := by decide +kernel
theorem dX9_addBlackout_2 : decode cX9_addBlackout 2 = .ok (.sipush 1439, 3) := by decide +kernel
theorem dX9_addBlackout_5 : decode cX9_addBlackout 5 = .ok (.invokestatic 41, 3) := by decide +kernel
theorem dX9_addBlackout_8 : decode cX9_addBlackout 8 = .ok (.ifCond .eq 25, 3) := by decide +kernel
theorem dX9_addBlackout_11 : decode cX9_addBlackout 11 = .ok (.iload_n 2, 1) := by decide +kernel
theorem dX9_addBlackout_12 : decode cX9_addBlackout 12 = .ok (.iload_n 1, 1) := by decide +kernel
theorem dX9_addBlackout_13 : decode cX9_addBlackout 13 = .ok (.iconst 1, 1) := by decide +kernel
theorem dX9_addBlackout_14 : decode cX9_addBlackout 14 = .ok (.iadd, 1) := by decide +kernel
theorem dX9_addBlackout_15 : decode cX9_addBlackout 15 = .ok (.sipush 1440, 3) := by decide +kernel
theorem dX9_addBlackout_18 : decode cX9_addBlackout 18 = .ok (.invokestatic 41, 3) := by decide +kernel
theorem dX9_addBlackout_21 : decode cX9_addBlackout 21 = .ok (.ifCond .eq 12, 3) := by decide +kernel
theorem dX9_addBlackout_24 : decode cX9_addBlackout 24 = .ok (.iload_n 3, 1) := by decide +kernel
theorem dX9_addBlackout_25 : decode cX9_addBlackout 25 = .ok (.iconst 0, 1) := by decide +kernel
theorem dX9_addBlackout_26 : decode cX9_addBlackout 26 = .ok (.iconst 3, 1) := by decide +kernel
theorem dX9_addBlackout_27 : decode cX9_addBlackout 27 = .ok (.invokestatic 41, 3) := by decide +kernel
theorem dX9_addBlackout_30 : decode cX9_addBlackout 30 = .ok (.ifCond .ne 5, 3) := by decide +kernel
theorem dX9_addBlackout_33 : decode cX9_addBlackout 33 = .ok (.iconst (-1), 1) := by decide +kernel
theorem dX9_addBlackout_34 : decode cX9_addBlackout 34 = .ok (.ireturn, 1) := by decide +kernel
theorem dX9_addBlackout_35 : decode cX9_addBlackout 35 = .ok (.aload_n 0, 1) := by decide +kernel
theorem dX9_addBlackout_36 : decode cX9_addBlackout 36 = .ok (.getfield 7, 3) := by decide +kernel
theorem dX9_addBlackout_39 : decode cX9_addBlackout 39 = .ok (.iconst 1, 1) := by decide +kernel
theorem dX9_addBlackout_40 : decode cX9_addBlackout 40 = .ok (.iaload, 1) := by decide +kernel
theorem dX9_addBlackout_41 : decode cX9_addBlackout 41 = .ok (.bipush 10, 2) := by decide +kernel
theorem dX9_addBlackout_43 : decode cX9_addBlackout 43 = .ok (.if_icmp .ne 6, 3) := by decide +kernel
theorem dX9_addBlackout_46 : decode cX9_addBlackout 46 = .ok (.bipush (-3), 2) := by decide +kernel
theorem dX9_addBlackout_48 : decode cX9_addBlackout 48 = .ok (.ireturn, 1) := by decide +kernel
theorem dX9_addBlackout_49 : decode cX9_addBlackout 49 = .ok (.aload_n 0, 1) := by decide +kernel
theorem dX9_addBlackout_50 : decode cX9_addBlackout 50 = .ok (.invokevirtual 49, 3) := by decide +kernel
theorem dX9_addBlackout_53 : decode cX9_addBlackout 53 = .ok (.bipush 80, 2) := by decide +kernel
theorem dX9_addBlackout_55 : decode cX9_addBlackout 55 = .ok (.iconst 3, 1) := by decide +kernel
theorem dX9_addBlackout_56 : decode cX9_addBlackout 56 = .ok (.aload_n 0, 1) := by decide +kernel
theorem dX9_addBlackout_57 : decode cX9_addBlackout 57 = .ok (.getfield 7, 3) := by decide +kernel
theorem dX9_addBlackout_60 : decode cX9_addBlackout 60 = .ok (.iconst 1, 1) := by decide +kernel
theorem dX9_addBlackout_61 : decode cX9_addBlackout 61 = .ok (.iaload, 1) := by decide +kernel
theorem dX9_addBlackout_62 : decode cX9_addBlackout 62 = .ok (.imul, 1) := by decide +kernel
theorem dX9_addBlackout_63 : decode cX9_addBlackout 63 = .ok (.iadd, 1) := by decide +kernel
theorem dX9_addBlackout_64 : decode cX9_addBlackout 64 = .ok (.istore 4, 2) := by decide +kernel
theorem dX9_addBlackout_66 : decode cX9_addBlackout 66 = .ok (.aload_n 0, 1) := by decide +kernel
theorem dX9_addBlackout_67 : decode cX9_addBlackout 67 = .ok (.getfield 7, 3) := by decide +kernel
theorem dX9_addBlackout_70 : decode cX9_addBlackout 70 = .ok (.iload 4, 2) := by decide +kernel
theorem dX9_addBlackout_72 : decode cX9_addBlackout 72 = .ok (.iload_n 1, 1) := by decide +kernel
theorem dX9_addBlackout_73 : decode cX9_addBlackout 73 = .ok (.iastore, 1) := by decide +kernel
theorem dX9_addBlackout_74 : decode cX9_addBlackout 74 = .ok (.aload_n 0, 1) := by decide +kernel
theorem dX9_addBlackout_75 : decode cX9_addBlackout 75 = .ok (.getfield 7, 3) := by decide +kernel
theorem dX9_addBlackout_78 : decode cX9_addBlackout 78 = .ok (.iload 4, 2) := by decide +kernel
theorem dX9_addBlackout_80 : decode cX9_addBlackout 80 = .ok (.iconst 1, 1) := by decide +kernel
theorem dX9_addBlackout_81 : decode cX9_addBlackout 81 = .ok (.iadd, 1) := by decide +kernel
theorem dX9_addBlackout_82 : decode cX9_addBlackout 82 = .ok (.iload_n 2, 1) := by decide +kernel
theorem dX9_addBlackout_83 : decode cX9_addBlackout 83 = .ok (.iastore, 1) := by decide +kernel
theorem dX9_addBlackout_84 : decode cX9_addBlackout 84 = .ok (.aload_n 0, 1) := by decide +kernel
theorem dX9_addBlackout_85 : decode cX9_addBlackout 85 = .ok (.getfield 7, 3) := by decide +kernel
theorem dX9_addBlackout_88 : decode cX9_addBlackout 88 = .ok (.iload 4, 2) := by decide +kernel
theorem dX9_addBlackout_90 : decode cX9_addBlackout 90 = .ok (.iconst 2, 1) := by decide +kernel
theorem dX9_addBlackout_91 : decode cX9_addBlackout 91 = .ok (.iadd, 1) := by decide +kernel
theorem dX9_addBlackout_92 : decode cX9_addBlackout 92 = .ok (.iload_n 3, 1) := by decide +kernel
theorem dX9_addBlackout_93 : decode cX9_addBlackout 93 = .ok (.iastore, 1) := by decide +kernel
theorem dX9_addBlackout_94 : decode cX9_addBlackout 94 = .ok (.aload_n 0, 1) := by decide +kernel
theorem dX9_addBlackout_95 : decode cX9_addBlackout 95 = .ok (.getfield 7, 3) := by decide +kernel
theorem dX9_addBlackout_98 : decode cX9_addBlackout 98 = .ok (.iconst 1, 1) := by decide +kernel
theorem dX9_addBlackout_99 : decode cX9_addBlackout 99 = .ok (.dup2, 1) := by decide +kernel
theorem dX9_addBlackout_100 : decode cX9_addBlackout 100 = .ok (.iaload, 1) := by decide +kernel
theorem dX9_addBlackout_101 : decode cX9_addBlackout 101 = .ok (.iconst 1, 1) := by decide +kernel
theorem dX9_addBlackout_102 : decode cX9_addBlackout 102 = .ok (.iadd, 1) := by decide +kernel
theorem dX9_addBlackout_103 : decode cX9_addBlackout 103 = .ok (.iastore, 1) := by decide +kernel
theorem dX9_addBlackout_104 : decode cX9_addBlackout 104 = .ok (.aload_n 0, 1) := by decide +kernel
theorem dX9_addBlackout_105 : decode cX9_addBlackout 105 = .ok (.getfield 7, 3) := by decide +kernel
theorem dX9_addBlackout_108 : decode cX9_addBlackout 108 = .ok (.iconst 1, 1) := by decide +kernel
theorem dX9_addBlackout_109 : decode cX9_addBlackout 109 = .ok (.iaload, 1) := by decide +kernel
theorem dX9_addBlackout_110 : decode cX9_addBlackout 110 = .ok (.iconst 1, 1) := by decide +kernel
theorem dX9_addBlackout_111 : decode cX9_addBlackout 111 = .ok (.isub, 1) := by decide +kernel
theorem dX9_addBlackout_112 : decode cX9_addBlackout 112 = .ok (.ireturn, 1) := by decide +kernel
theorem dX9_lists_0 : decode cX9_lists 0 = .ok (.aload_n 0, 1) := by decide +kernel
theorem dX9_lists_1 : decode cX9_lists 1 = .ok (.getfield 56, 3) := by decide +kernel
theorem dX9_lists_4 : decode cX9_lists 4 = .ok (.istore 4, 2) := by decide +kernel
theorem dX9_lists_6 : decode cX9_lists 6 = .ok (.iload 4, 2) := by decide +kernel
theorem dX9_lists_8 : decode cX9_lists 8 = .ok (.ifCond .le 70, 3) := by decide +kernel
theorem dX9_lists_11 : decode cX9_lists 11 = .ok (.aload_n 0, 1) := by decide +kernel
theorem dX9_lists_12 : decode cX9_lists 12 = .ok (.getfield 19, 3) := by decide +kernel
theorem dX9_lists_15 : decode cX9_lists 15 = .ok (.iload 4, 2) := by decide +kernel
theorem dX9_lists_17 : decode cX9_lists 17 = .ok (.iconst 1, 1) := by decide +kernel
theorem dX9_lists_18 : decode cX9_lists 18 = .ok (.isub, 1) := by decide +kernel
theorem dX9_lists_19 : decode cX9_lists 19 = .ok (.iaload, 1) := by decide +kernel
theorem dX9_lists_20 : decode cX9_lists 20 = .ok (.iload_n 2, 1) := by decide +kernel
theorem dX9_lists_21 : decode cX9_lists 21 = .ok (.if_icmp .lt 57, 3) := by decide +kernel
theorem dX9_lists_24 : decode cX9_lists 24 = .ok (.aload_n 0, 1) := by decide +kernel
theorem dX9_lists_25 : decode cX9_lists 25 = .ok (.getfield 16, 3) := by decide +kernel
theorem dX9_lists_28 : decode cX9_lists 28 = .ok (.iload 4, 2) := by decide +kernel
theorem dX9_lists_30 : decode cX9_lists 30 = .ok (.aload_n 0, 1) := by decide +kernel
theorem dX9_lists_31 : decode cX9_lists 31 = .ok (.getfield 16, 3) := by decide +kernel
theorem dX9_lists_34 : decode cX9_lists 34 = .ok (.iload 4, 2) := by decide +kernel
theorem dX9_lists_36 : decode cX9_lists 36 = .ok (.iconst 1, 1) := by decide +kernel
theorem dX9_lists_37 : decode cX9_lists 37 = .ok (.isub, 1) := by decide +kernel
theorem dX9_lists_38 : decode cX9_lists 38 = .ok (.iaload, 1) := by decide +kernel
theorem dX9_lists_39 : decode cX9_lists 39 = .ok (.iastore, 1) := by decide +kernel
theorem dX9_lists_40 : decode cX9_lists 40 = .ok (.aload_n 0, 1) := by decide +kernel
theorem dX9_lists_41 : decode cX9_lists 41 = .ok (.getfield 19, 3) := by decide +kernel
theorem dX9_lists_44 : decode cX9_lists 44 = .ok (.iload 4, 2) := by decide +kernel
theorem dX9_lists_46 : decode cX9_lists 46 = .ok (.aload_n 0, 1) := by decide +kernel
theorem dX9_lists_47 : decode cX9_lists 47 = .ok (.getfield 19, 3) := by decide +kernel
theorem dX9_lists_50 : decode cX9_lists 50 = .ok (.iload 4, 2) := by decide +kernel
theorem dX9_lists_52 : decode cX9_lists 52 = .ok (.iconst 1, 1) := by decide +kernel
theorem dX9_lists_53 : decode cX9_lists 53 = .ok (.isub, 1) := by decide +kernel
theorem dX9_lists_54 : decode cX9_lists 54 = .ok (.iaload, 1) := by decide +kernel
theorem dX9_lists_55 : decode cX9_lists 55 = .ok (.iastore, 1) := by decide +kernel
theorem dX9_lists_56 : decode cX9_lists 56 = .ok (.aload_n 0, 1) := by decide +kernel
theorem dX9_lists_57 : decode cX9_lists 57 = .ok (.getfield 22, 3) := by decide +kernel
theorem dX9_lists_60 : decode cX9_lists 60 = .ok (.iload 4, 2) := by decide +kernel
theorem dX9_lists_62 : decode cX9_lists 62 = .ok (.aload_n 0, 1) := by decide +kernel
theorem dX9_lists_63 : decode cX9_lists 63 = .ok (.getfield 22, 3) := by decide +kernel
theorem dX9_lists_66 : decode cX9_lists 66 = .ok (.iload 4, 2) := by decide +kernel
theorem dX9_lists_68 : decode cX9_lists 68 = .ok (.iconst 1, 1) := by decide +kernel
theorem dX9_lists_69 : decode cX9_lists 69 = .ok (.isub, 1) := by decide +kernel
theorem dX9_lists_70 : decode cX9_lists 70 = .ok (.iaload, 1) := by decide +kernel
theorem dX9_lists_71 : decode cX9_lists 71 = .ok (.iastore, 1) := by decide +kernel
theorem dX9_lists_72 : decode cX9_lists 72 = .ok (.iinc 4 (-1), 3) := by decide +kernel
theorem dX9_lists_75 : decode cX9_lists 75 = .ok (.goto (-69), 3) := by decide +kernel
theorem dX9_lists_78 : decode cX9_lists 78 = .ok (.aload_n 0, 1) := by decide +kernel
theorem dX9_lists_79 : decode cX9_lists 79 = .ok (.getfield 16, 3) := by decide +kernel
theorem dX9_lists_82 : decode cX9_lists 82 = .ok (.iload 4, 2) := by decide +kernel
theorem dX9_lists_84 : decode cX9_lists 84 = .ok (.iload_n 1, 1) := by decide +kernel
theorem dX9_lists_85 : decode cX9_lists 85 = .ok (.iastore, 1) := by decide +kernel
theorem dX9_lists_86 : decode cX9_lists 86 = .ok (.aload_n 0, 1) := by decide +kernel
theorem dX9_lists_87 : decode cX9_lists 87 = .ok (.getfield 19, 3) := by decide +kernel
theorem dX9_lists_90 : decode cX9_lists 90 = .ok (.iload 4, 2) := by decide +kernel
theorem dX9_lists_92 : decode cX9_lists 92 = .ok (.iload_n 2, 1) := by decide +kernel
theorem dX9_lists_93 : decode cX9_lists 93 = .ok (.iastore, 1) := by decide +kernel
theorem dX9_lists_94 : decode cX9_lists 94 = .ok (.aload_n 0, 1) := by decide +kernel
theorem dX9_lists_95 : decode cX9_lists 95 = .ok (.getfield 22, 3) := by decide +kernel
theorem dX9_lists_98 : decode cX9_lists 98 = .ok (.iload 4, 2) := by decide +kernel
theorem dX9_lists_100 : decode cX9_lists 100 = .ok (.iload_n 3, 1) := by decide +kernel
theorem dX9_lists_101 : decode cX9_lists 101 = .ok (.iastore, 1) := by decide +kernel
theorem dX9_lists_102 : decode cX9_lists 102 = .ok (.aload_n 0, 1) := by decide +kernel
theorem dX9_lists_103 : decode cX9_lists 103 = .ok (.dup, 1) := by decide +kernel
theorem dX9_lists_104 : decode cX9_lists 104 = .ok (.getfield 56, 3) := by decide +kernel
theorem dX9_lists_107 : decode cX9_lists 107 = .ok (.iconst 1, 1) := by decide +kernel
theorem dX9_lists_108 : decode cX9_lists 108 = .ok (.iadd, 1) := by decide +kernel
theorem dX9_lists_109 : decode cX9_lists 109 = .ok (.putfield 56, 3) := by decide +kernel
theorem dX9_lists_112 : decode cX9_lists 112 = .ok (.return_, 1) := by decide +kernel
theorem dX9_listsAll_0 : decode cX9_listsAll 0 = .ok (.aload_n 0, 1) := by decide +kernel
theorem dX9_listsAll_1 : decode cX9_listsAll 1 = .ok (.iconst 0, 1) := by decide +kernel
theorem dX9_listsAll_2 : decode cX9_listsAll 2 = .ok (.putfield 56, 3) := by decide +kernel
theorem dX9_listsAll_5 : decode cX9_listsAll 5 = .ok (.iconst 0, 1) := by decide +kernel
theorem dX9_listsAll_6 : decode cX9_listsAll 6 = .ok (.istore_n 1, 1) := by decide +kernel
theorem dX9_listsAll_7 : decode cX9_listsAll 7 = .ok (.iload_n 1, 1) := by decide +kernel
theorem dX9_listsAll_8 : decode cX9_listsAll 8 = .ok (.aload_n 0, 1) := by decide +kernel
theorem dX9_listsAll_9 : decode cX9_listsAll 9 = .ok (.getfield 7, 3) := by decide +kernel
theorem dX9_listsAll_12 : decode cX9_listsAll 12 = .ok (.iconst 3, 1) := by decide +kernel
theorem dX9_listsAll_13 : decode cX9_listsAll 13 = .ok (.iaload, 1) := by decide +kernel
theorem dX9_listsAll_14 : decode cX9_listsAll 14 = .ok (.if_icmp .ge 55, 3) := by decide +kernel
theorem dX9_listsAll_17 : decode cX9_listsAll 17 = .ok (.aload_n 0, 1) := by decide +kernel
theorem dX9_listsAll_18 : decode cX9_listsAll 18 = .ok (.getfield 16, 3) := by decide +kernel
theorem dX9_listsAll_21 : decode cX9_listsAll 21 = .ok (.iload_n 1, 1) := by decide +kernel
theorem dX9_listsAll_22 : decode cX9_listsAll 22 = .ok (.aload_n 0, 1) := by decide +kernel
theorem dX9_listsAll_23 : decode cX9_listsAll 23 = .ok (.iload_n 1, 1) := by decide +kernel
theorem dX9_listsAll_24 : decode cX9_listsAll 24 = .ok (.iconst 0, 1) := by decide +kernel
theorem dX9_listsAll_25 : decode cX9_listsAll 25 = .ok (.invokevirtual 45, 3) := by decide +kernel
theorem dX9_listsAll_28 : decode cX9_listsAll 28 = .ok (.iastore, 1) := by decide +kernel
theorem dX9_listsAll_29 : decode cX9_listsAll 29 = .ok (.aload_n 0, 1) := by decide +kernel
theorem dX9_listsAll_30 : decode cX9_listsAll 30 = .ok (.getfield 19, 3) := by decide +kernel
theorem dX9_listsAll_33 : decode cX9_listsAll 33 = .ok (.iload_n 1, 1) := by decide +kernel
theorem dX9_listsAll_34 : decode cX9_listsAll 34 = .ok (.aload_n 0, 1) := by decide +kernel
theorem dX9_listsAll_35 : decode cX9_listsAll 35 = .ok (.iload_n 1, 1) := by decide +kernel
theorem dX9_listsAll_36 : decode cX9_listsAll 36 = .ok (.iconst 1, 1) := by decide +kernel
theorem dX9_listsAll_37 : decode cX9_listsAll 37 = .ok (.invokevirtual 45, 3) := by decide +kernel
theorem dX9_listsAll_40 : decode cX9_listsAll 40 = .ok (.iastore, 1) := by decide +kernel
theorem dX9_listsAll_41 : decode cX9_listsAll 41 = .ok (.aload_n 0, 1) := by decide +kernel
theorem dX9_listsAll_42 : decode cX9_listsAll 42 = .ok (.getfield 22, 3) := by decide +kernel
theorem dX9_listsAll_45 : decode cX9_listsAll 45 = .ok (.iload_n 1, 1) := by decide +kernel
theorem dX9_listsAll_46 : decode cX9_listsAll 46 = .ok (.aload_n 0, 1) := by decide +kernel
theorem dX9_listsAll_47 : decode cX9_listsAll 47 = .ok (.iload_n 1, 1) := by decide +kernel
theorem dX9_listsAll_48 : decode cX9_listsAll 48 = .ok (.iconst 2, 1) := by decide +kernel
theorem dX9_listsAll_49 : decode cX9_listsAll 49 = .ok (.invokevirtual 45, 3) := by decide +kernel
theorem dX9_listsAll_52 : decode cX9_listsAll 52 = .ok (.iastore, 1) := by decide +kernel
theorem dX9_listsAll_53 : decode cX9_listsAll 53 = .ok (.aload_n 0, 1) := by decide +kernel
theorem dX9_listsAll_54 : decode cX9_listsAll 54 = .ok (.dup, 1) := by decide +kernel
theorem dX9_listsAll_55 : decode cX9_listsAll 55 = .ok (.getfield 56, 3) := by decide +kernel
theorem dX9_listsAll_58 : decode cX9_listsAll 58 = .ok (.iconst 1, 1) := by decide +kernel
theorem dX9_listsAll_59 : decode cX9_listsAll 59 = .ok (.iadd, 1) := by decide +kernel
theorem dX9_listsAll_60 : decode cX9_listsAll 60 = .ok (.putfield 56, 3) := by decide +kernel
theorem dX9_listsAll_63 : decode cX9_listsAll 63 = .ok (.iinc 1 1, 3) := by decide +kernel
theorem dX9_listsAll_66 : decode cX9_listsAll 66 = .ok (.goto (-59), 3) := by decide +kernel
theorem dX9_listsAll_69 : decode cX9_listsAll 69 = .ok (.return_, 1) := by decide +kernel
theorem dX9_rightFor_0 : decode cX9_rightFor 0 = .ok (.bipush (-9), 2) := by decide +kernel
theorem dX9_rightFor_2 : decode cX9_rightFor 2 = .ok (.istore 4, 2) := by decide +kernel
theorem dX9_rightFor_4 : decode cX9_rightFor 4 = .ok (.iconst 0, 1) := by decide +kernel
theorem dX9_rightFor_5 : decode cX9_rightFor 5 = .ok (.istore 5, 2) := by decide +kernel
theorem dX9_rightFor_7 : decode cX9_rightFor 7 = .ok (.iload 5, 2) := by decide +kernel
theorem dX9_rightFor_9 : decode cX9_rightFor 9 = .ok (.aload_n 0, 1) := by decide +kernel
theorem dX9_rightFor_10 : decode cX9_rightFor 10 = .ok (.getfield 7, 3) := by decide +kernel
theorem dX9_rightFor_13 : decode cX9_rightFor 13 = .ok (.iconst 2, 1) := by decide +kernel
theorem dX9_rightFor_14 : decode cX9_rightFor 14 = .ok (.iaload, 1) := by decide +kernel
theorem dX9_rightFor_15 : decode cX9_rightFor 15 = .ok (.if_icmp .ge 117, 3) := by decide +kernel
theorem dX9_rightFor_18 : decode cX9_rightFor 18 = .ok (.bipush 110, 2) := by decide +kernel
theorem dX9_rightFor_20 : decode cX9_rightFor 20 = .ok (.iconst 4, 1) := by decide +kernel
theorem dX9_rightFor_21 : decode cX9_rightFor 21 = .ok (.iload 5, 2) := by decide +kernel
theorem dX9_rightFor_23 : decode cX9_rightFor 23 = .ok (.imul, 1) := by decide +kernel
theorem dX9_rightFor_24 : decode cX9_rightFor 24 = .ok (.iadd, 1) := by decide +kernel
theorem dX9_rightFor_25 : decode cX9_rightFor 25 = .ok (.istore 6, 2) := by decide +kernel
theorem dX9_rightFor_27 : decode cX9_rightFor 27 = .ok (.aload_n 0, 1) := by decide +kernel
theorem dX9_rightFor_28 : decode cX9_rightFor 28 = .ok (.getfield 7, 3) := by decide +kernel
theorem dX9_rightFor_31 : decode cX9_rightFor 31 = .ok (.iload 6, 2) := by decide +kernel
theorem dX9_rightFor_33 : decode cX9_rightFor 33 = .ok (.iaload, 1) := by decide +kernel
theorem dX9_rightFor_34 : decode cX9_rightFor 34 = .ok (.iload_n 1, 1) := by decide +kernel
theorem dX9_rightFor_35 : decode cX9_rightFor 35 = .ok (.if_icmp .ne 43, 3) := by decide +kernel
theorem dX9_rightFor_38 : decode cX9_rightFor 38 = .ok (.iload_n 2, 1) := by decide +kernel
theorem dX9_rightFor_39 : decode cX9_rightFor 39 = .ok (.aload_n 0, 1) := by decide +kernel
theorem dX9_rightFor_40 : decode cX9_rightFor 40 = .ok (.getfield 7, 3) := by decide +kernel
theorem dX9_rightFor_43 : decode cX9_rightFor 43 = .ok (.iload 6, 2) := by decide +kernel
theorem dX9_rightFor_45 : decode cX9_rightFor 45 = .ok (.iconst 1, 1) := by decide +kernel
theorem dX9_rightFor_46 : decode cX9_rightFor 46 = .ok (.iadd, 1) := by decide +kernel
theorem dX9_rightFor_47 : decode cX9_rightFor 47 = .ok (.iaload, 1) := by decide +kernel
theorem dX9_rightFor_48 : decode cX9_rightFor 48 = .ok (.if_icmp .lt 30, 3) := by decide +kernel
theorem dX9_rightFor_51 : decode cX9_rightFor 51 = .ok (.iload_n 3, 1) := by decide +kernel
theorem dX9_rightFor_52 : decode cX9_rightFor 52 = .ok (.aload_n 0, 1) := by decide +kernel
theorem dX9_rightFor_53 : decode cX9_rightFor 53 = .ok (.getfield 7, 3) := by decide +kernel
theorem dX9_rightFor_56 : decode cX9_rightFor 56 = .ok (.iload 6, 2) := by decide +kernel
theorem dX9_rightFor_58 : decode cX9_rightFor 58 = .ok (.iconst 2, 1) := by decide +kernel
theorem dX9_rightFor_59 : decode cX9_rightFor 59 = .ok (.iadd, 1) := by decide +kernel
theorem dX9_rightFor_60 : decode cX9_rightFor 60 = .ok (.iaload, 1) := by decide +kernel
theorem dX9_rightFor_61 : decode cX9_rightFor 61 = .ok (.if_icmp .gt 17, 3) := by decide +kernel
theorem dX9_rightFor_64 : decode cX9_rightFor 64 = .ok (.aload_n 0, 1) := by decide +kernel
theorem dX9_rightFor_65 : decode cX9_rightFor 65 = .ok (.getfield 28, 3) := by decide +kernel
theorem dX9_rightFor_68 : decode cX9_rightFor 68 = .ok (.iload 5, 2) := by decide +kernel
theorem dX9_rightFor_70 : decode cX9_rightFor 70 = .ok (.iaload, 1) := by decide +kernel
theorem dX9_rightFor_71 : decode cX9_rightFor 71 = .ok (.ifCond .le 7, 3) := by decide +kernel
theorem dX9_rightFor_74 : decode cX9_rightFor 74 = .ok (.iconst 1, 1) := by decide +kernel
theorem dX9_rightFor_75 : decode cX9_rightFor 75 = .ok (.goto 4, 3) := by decide +kernel
theorem dX9_rightFor_78 : decode cX9_rightFor 78 = .ok (.iconst 0, 1) := by decide +kernel
theorem dX9_rightFor_79 : decode cX9_rightFor 79 = .ok (.istore 7, 2) := by decide +kernel
theorem dX9_rightFor_81 : decode cX9_rightFor 81 = .ok (.iload 7, 2) := by decide +kernel
theorem dX9_rightFor_83 : decode cX9_rightFor 83 = .ok (.ifCond .eq 39, 3) := by decide +kernel
theorem dX9_rightFor_86 : decode cX9_rightFor 86 = .ok (.iload 4, 2) := by decide +kernel
theorem dX9_rightFor_88 : decode cX9_rightFor 88 = .ok (.ifCond .lt 29, 3) := by decide +kernel
theorem dX9_rightFor_91 : decode cX9_rightFor 91 = .ok (.aload_n 0, 1) := by decide +kernel
theorem dX9_rightFor_92 : decode cX9_rightFor 92 = .ok (.getfield 7, 3) := by decide +kernel
theorem dX9_rightFor_95 : decode cX9_rightFor 95 = .ok (.iload 6, 2) := by decide +kernel
theorem dX9_rightFor_97 : decode cX9_rightFor 97 = .ok (.iconst 2, 1) := by decide +kernel
theorem dX9_rightFor_98 : decode cX9_rightFor 98 = .ok (.iadd, 1) := by decide +kernel
theorem dX9_rightFor_99 : decode cX9_rightFor 99 = .ok (.iaload, 1) := by decide +kernel
theorem dX9_rightFor_100 : decode cX9_rightFor 100 = .ok (.aload_n 0, 1) := by decide +kernel
theorem dX9_rightFor_101 : decode cX9_rightFor 101 = .ok (.getfield 7, 3) := by decide +kernel
theorem dX9_rightFor_104 : decode cX9_rightFor 104 = .ok (.bipush 110, 2) := by decide +kernel
theorem dX9_rightFor_106 : decode cX9_rightFor 106 = .ok (.iconst 4, 1) := by decide +kernel
theorem dX9_rightFor_107 : decode cX9_rightFor 107 = .ok (.iload 4, 2) := by decide +kernel
theorem dX9_rightFor_109 : decode cX9_rightFor 109 = .ok (.imul, 1) := by decide +kernel
theorem dX9_rightFor_110 : decode cX9_rightFor 110 = .ok (.iadd, 1) := by decide +kernel
theorem dX9_rightFor_111 : decode cX9_rightFor 111 = .ok (.iconst 2, 1) := by decide +kernel
theorem dX9_rightFor_112 : decode cX9_rightFor 112 = .ok (.iadd, 1) := by decide +kernel
theorem dX9_rightFor_113 : decode cX9_rightFor 113 = .ok (.iaload, 1) := by decide +kernel
theorem dX9_rightFor_114 : decode cX9_rightFor 114 = .ok (.if_icmp .ge 8, 3) := by decide +kernel
theorem dX9_rightFor_117 : decode cX9_rightFor 117 = .ok (.iload 5, 2) := by decide +kernel
theorem dX9_rightFor_119 : decode cX9_rightFor 119 = .ok (.goto 5, 3) := by decide +kernel
theorem dX9_rightFor_122 : decode cX9_rightFor 122 = .ok (.iload 4, 2) := by decide +kernel
theorem dX9_rightFor_124 : decode cX9_rightFor 124 = .ok (.istore 4, 2) := by decide +kernel
theorem dX9_rightFor_126 : decode cX9_rightFor 126 = .ok (.iinc 5 1, 3) := by decide +kernel
theorem dX9_rightFor_129 : decode cX9_rightFor 129 = .ok (.goto (-122), 3) := by decide +kernel
theorem dX9_rightFor_132 : decode cX9_rightFor 132 = .ok (.iload 4, 2) := by decide +kernel
theorem dX9_rightFor_134 : decode cX9_rightFor 134 = .ok (.ireturn, 1) := by decide +kernel
theorem dX9_gives_0 : decode cX9_gives 0 = .ok (.iconst 0, 1) := by decide +kernel
theorem dX9_gives_1 : decode cX9_gives 1 = .ok (.istore_n 1, 1) := by decide +kernel
theorem dX9_gives_2 : decode cX9_gives 2 = .ok (.iload_n 1, 1) := by decide +kernel
theorem dX9_gives_3 : decode cX9_gives 3 = .ok (.aload_n 0, 1) := by decide +kernel
theorem dX9_gives_4 : decode cX9_gives 4 = .ok (.getfield 7, 3) := by decide +kernel
theorem dX9_gives_7 : decode cX9_gives 7 = .ok (.iconst 2, 1) := by decide +kernel
theorem dX9_gives_8 : decode cX9_gives 8 = .ok (.iaload, 1) := by decide +kernel
theorem dX9_gives_9 : decode cX9_gives 9 = .ok (.if_icmp .ge 28, 3) := by decide +kernel
theorem dX9_gives_12 : decode cX9_gives 12 = .ok (.aload_n 0, 1) := by decide +kernel
theorem dX9_gives_13 : decode cX9_gives 13 = .ok (.getfield 28, 3) := by decide +kernel
theorem dX9_gives_16 : decode cX9_gives 16 = .ok (.iload_n 1, 1) := by decide +kernel
theorem dX9_gives_17 : decode cX9_gives 17 = .ok (.aload_n 0, 1) := by decide +kernel
theorem dX9_gives_18 : decode cX9_gives 18 = .ok (.getfield 7, 3) := by decide +kernel
theorem dX9_gives_21 : decode cX9_gives 21 = .ok (.bipush 110, 2) := by decide +kernel
theorem dX9_gives_23 : decode cX9_gives 23 = .ok (.iconst 4, 1) := by decide +kernel
theorem dX9_gives_24 : decode cX9_gives 24 = .ok (.iload_n 1, 1) := by decide +kernel
theorem dX9_gives_25 : decode cX9_gives 25 = .ok (.imul, 1) := by decide +kernel
theorem dX9_gives_26 : decode cX9_gives 26 = .ok (.iadd, 1) := by decide +kernel
theorem dX9_gives_27 : decode cX9_gives 27 = .ok (.iconst 3, 1) := by decide +kernel
theorem dX9_gives_28 : decode cX9_gives 28 = .ok (.iadd, 1) := by decide +kernel
theorem dX9_gives_29 : decode cX9_gives 29 = .ok (.iaload, 1) := by decide +kernel
theorem dX9_gives_30 : decode cX9_gives 30 = .ok (.iastore, 1) := by decide +kernel
theorem dX9_gives_31 : decode cX9_gives 31 = .ok (.iinc 1 1, 3) := by decide +kernel
theorem dX9_gives_34 : decode cX9_gives 34 = .ok (.goto (-32), 3) := by decide +kernel
theorem dX9_gives_37 : decode cX9_gives 37 = .ok (.iconst 0, 1) := by decide +kernel
theorem dX9_gives_38 : decode cX9_gives 38 = .ok (.istore_n 1, 1) := by decide +kernel
theorem dX9_gives_39 : decode cX9_gives 39 = .ok (.iload_n 1, 1) := by decide +kernel
theorem dX9_gives_40 : decode cX9_gives 40 = .ok (.aload_n 0, 1) := by decide +kernel
theorem dX9_gives_41 : decode cX9_gives 41 = .ok (.getfield 56, 3) := by decide +kernel
theorem dX9_gives_44 : decode cX9_gives 44 = .ok (.if_icmp .ge 87, 3) := by decide +kernel
theorem dX9_gives_47 : decode cX9_gives 47 = .ok (.aload_n 0, 1) := by decide +kernel
theorem dX9_gives_48 : decode cX9_gives 48 = .ok (.getfield 25, 3) := by decide +kernel
theorem dX9_gives_51 : decode cX9_gives 51 = .ok (.iload_n 1, 1) := by decide +kernel
theorem dX9_gives_52 : decode cX9_gives 52 = .ok (.aload_n 0, 1) := by decide +kernel
theorem dX9_gives_53 : decode cX9_gives 53 = .ok (.aload_n 0, 1) := by decide +kernel
theorem dX9_gives_54 : decode cX9_gives 54 = .ok (.getfield 16, 3) := by decide +kernel
theorem dX9_gives_57 : decode cX9_gives 57 = .ok (.iload_n 1, 1) := by decide +kernel
theorem dX9_gives_58 : decode cX9_gives 58 = .ok (.iaload, 1) := by decide +kernel
theorem dX9_gives_59 : decode cX9_gives 59 = .ok (.invokevirtual 59, 3) := by decide +kernel
theorem dX9_gives_62 : decode cX9_gives 62 = .ok (.iconst 2, 1) := by decide +kernel
theorem dX9_gives_63 : decode cX9_gives 63 = .ok (.if_icmp .ne 8, 3) := by decide +kernel
theorem dX9_gives_66 : decode cX9_gives 66 = .ok (.bipush (-9), 2) := by decide +kernel
theorem dX9_gives_68 : decode cX9_gives 68 = .ok (.goto 32, 3) := by decide +kernel
theorem dX9_gives_71 : decode cX9_gives 71 = .ok (.aload_n 0, 1) := by decide +kernel
theorem dX9_gives_72 : decode cX9_gives 72 = .ok (.aload_n 0, 1) := by decide +kernel
theorem dX9_gives_73 : decode cX9_gives 73 = .ok (.getfield 16, 3) := by decide +kernel
theorem dX9_gives_76 : decode cX9_gives 76 = .ok (.iload_n 1, 1) := by decide +kernel
theorem dX9_gives_77 : decode cX9_gives 77 = .ok (.iaload, 1) := by decide +kernel
theorem dX9_gives_78 : decode cX9_gives 78 = .ok (.aload_n 0, 1) := by decide +kernel
theorem dX9_gives_79 : decode cX9_gives 79 = .ok (.getfield 19, 3) := by decide +kernel
theorem dX9_gives_82 : decode cX9_gives 82 = .ok (.iload_n 1, 1) := by decide +kernel
theorem dX9_gives_83 : decode cX9_gives 83 = .ok (.iaload, 1) := by decide +kernel
theorem dX9_gives_84 : decode cX9_gives 84 = .ok (.aload_n 0, 1) := by decide +kernel
theorem dX9_gives_85 : decode cX9_gives 85 = .ok (.getfield 19, 3) := by decide +kernel
theorem dX9_gives_88 : decode cX9_gives 88 = .ok (.iload_n 1, 1) := by decide +kernel
theorem dX9_gives_89 : decode cX9_gives 89 = .ok (.iaload, 1) := by decide +kernel
theorem dX9_gives_90 : decode cX9_gives 90 = .ok (.aload_n 0, 1) := by decide +kernel
theorem dX9_gives_91 : decode cX9_gives 91 = .ok (.getfield 22, 3) := by decide +kernel
theorem dX9_gives_94 : decode cX9_gives 94 = .ok (.iload_n 1, 1) := by decide +kernel
theorem dX9_gives_95 : decode cX9_gives 95 = .ok (.iaload, 1) := by decide +kernel
theorem dX9_gives_96 : decode cX9_gives 96 = .ok (.iadd, 1) := by decide +kernel
theorem dX9_gives_97 : decode cX9_gives 97 = .ok (.invokevirtual 63, 3) := by decide +kernel
theorem dX9_gives_100 : decode cX9_gives 100 = .ok (.iastore, 1) := by decide +kernel
theorem dX9_gives_101 : decode cX9_gives 101 = .ok (.aload_n 0, 1) := by decide +kernel
theorem dX9_gives_102 : decode cX9_gives 102 = .ok (.getfield 25, 3) := by decide +kernel
theorem dX9_gives_105 : decode cX9_gives 105 = .ok (.iload_n 1, 1) := by decide +kernel
theorem dX9_gives_106 : decode cX9_gives 106 = .ok (.iaload, 1) := by decide +kernel
theorem dX9_gives_107 : decode cX9_gives 107 = .ok (.ifCond .lt 18, 3) := by decide +kernel
theorem dX9_gives_110 : decode cX9_gives 110 = .ok (.aload_n 0, 1) := by decide +kernel
theorem dX9_gives_111 : decode cX9_gives 111 = .ok (.getfield 28, 3) := by decide +kernel
theorem dX9_gives_114 : decode cX9_gives 114 = .ok (.aload_n 0, 1) := by decide +kernel
theorem dX9_gives_115 : decode cX9_gives 115 = .ok (.getfield 25, 3) := by decide +kernel
theorem dX9_gives_118 : decode cX9_gives 118 = .ok (.iload_n 1, 1) := by decide +kernel
theorem dX9_gives_119 : decode cX9_gives 119 = .ok (.iaload, 1) := by decide +kernel
theorem dX9_gives_120 : decode cX9_gives 120 = .ok (.dup2, 1) := by decide +kernel
theorem dX9_gives_121 : decode cX9_gives 121 = .ok (.iaload, 1) := by decide +kernel
theorem dX9_gives_122 : decode cX9_gives 122 = .ok (.iconst 1, 1) := by decide +kernel
theorem dX9_gives_123 : decode cX9_gives 123 = .ok (.isub, 1) := by decide +kernel
theorem dX9_gives_124 : decode cX9_gives 124 = .ok (.iastore, 1) := by decide +kernel
theorem dX9_gives_125 : decode cX9_gives 125 = .ok (.iinc 1 1, 3) := by decide +kernel
theorem dX9_gives_128 : decode cX9_gives 128 = .ok (.goto (-89), 3) := by decide +kernel
theorem dX9_gives_131 : decode cX9_gives 131 = .ok (.return_, 1) := by decide +kernel
theorem dX9_isBroken_0 : decode cX9_isBroken 0 = .ok (.aload_n 0, 1) := by decide +kernel
theorem dX9_isBroken_1 : decode cX9_isBroken 1 = .ok (.invokevirtual 67, 3) := by decide +kernel
theorem dX9_isBroken_4 : decode cX9_isBroken 4 = .ok (.iconst 0, 1) := by decide +kernel
theorem dX9_isBroken_5 : decode cX9_isBroken 5 = .ok (.istore_n 2, 1) := by decide +kernel
theorem dX9_isBroken_6 : decode cX9_isBroken 6 = .ok (.iconst 0, 1) := by decide +kernel
theorem dX9_isBroken_7 : decode cX9_isBroken 7 = .ok (.istore_n 3, 1) := by decide +kernel
theorem dX9_isBroken_8 : decode cX9_isBroken 8 = .ok (.iload_n 3, 1) := by decide +kernel
theorem dX9_isBroken_9 : decode cX9_isBroken 9 = .ok (.aload_n 0, 1) := by decide +kernel
theorem dX9_isBroken_10 : decode cX9_isBroken 10 = .ok (.getfield 56, 3) := by decide +kernel
theorem dX9_isBroken_13 : decode cX9_isBroken 13 = .ok (.if_icmp .ge 47, 3) := by decide +kernel
theorem dX9_isBroken_16 : decode cX9_isBroken 16 = .ok (.iload_n 2, 1) := by decide +kernel
theorem dX9_isBroken_17 : decode cX9_isBroken 17 = .ok (.ifCond .ne 31, 3) := by decide +kernel
theorem dX9_isBroken_20 : decode cX9_isBroken 20 = .ok (.aload_n 0, 1) := by decide +kernel
theorem dX9_isBroken_21 : decode cX9_isBroken 21 = .ok (.getfield 16, 3) := by decide +kernel
theorem dX9_isBroken_24 : decode cX9_isBroken 24 = .ok (.iload_n 3, 1) := by decide +kernel
theorem dX9_isBroken_25 : decode cX9_isBroken 25 = .ok (.iaload, 1) := by decide +kernel
theorem dX9_isBroken_26 : decode cX9_isBroken 26 = .ok (.iload_n 1, 1) := by decide +kernel
theorem dX9_isBroken_27 : decode cX9_isBroken 27 = .ok (.if_icmp .ne 25, 3) := by decide +kernel
theorem dX9_isBroken_30 : decode cX9_isBroken 30 = .ok (.aload_n 0, 1) := by decide +kernel
theorem dX9_isBroken_31 : decode cX9_isBroken 31 = .ok (.getfield 25, 3) := by decide +kernel
theorem dX9_isBroken_34 : decode cX9_isBroken 34 = .ok (.iload_n 3, 1) := by decide +kernel
theorem dX9_isBroken_35 : decode cX9_isBroken 35 = .ok (.iaload, 1) := by decide +kernel
theorem dX9_isBroken_36 : decode cX9_isBroken 36 = .ok (.ifCond .ge 16, 3) := by decide +kernel
theorem dX9_isBroken_39 : decode cX9_isBroken 39 = .ok (.aload_n 0, 1) := by decide +kernel
theorem dX9_isBroken_40 : decode cX9_isBroken 40 = .ok (.iload_n 1, 1) := by decide +kernel
theorem dX9_isBroken_41 : decode cX9_isBroken 41 = .ok (.invokevirtual 59, 3) := by decide +kernel
theorem dX9_isBroken_44 : decode cX9_isBroken 44 = .ok (.iconst 2, 1) := by decide +kernel
theorem dX9_isBroken_45 : decode cX9_isBroken 45 = .ok (.if_icmp .eq 7, 3) := by decide +kernel
theorem dX9_isBroken_48 : decode cX9_isBroken 48 = .ok (.iconst 1, 1) := by decide +kernel
theorem dX9_isBroken_49 : decode cX9_isBroken 49 = .ok (.goto 4, 3) := by decide +kernel
theorem dX9_isBroken_52 : decode cX9_isBroken 52 = .ok (.iconst 0, 1) := by decide +kernel
theorem dX9_isBroken_53 : decode cX9_isBroken 53 = .ok (.istore_n 2, 1) := by decide +kernel
theorem dX9_isBroken_54 : decode cX9_isBroken 54 = .ok (.iinc 3 1, 3) := by decide +kernel
theorem dX9_isBroken_57 : decode cX9_isBroken 57 = .ok (.goto (-49), 3) := by decide +kernel
theorem dX9_isBroken_60 : decode cX9_isBroken 60 = .ok (.iload_n 2, 1) := by decide +kernel
theorem dX9_isBroken_61 : decode cX9_isBroken 61 = .ok (.ireturn, 1) := by decide +kernel
theorem dX9_isDark_0 : decode cX9_isDark 0 = .ok (.iconst 0, 1) := by decide +kernel
theorem dX9_isDark_1 : decode cX9_isDark 1 = .ok (.istore 4, 2) := by decide +kernel
theorem dX9_isDark_3 : decode cX9_isDark 3 = .ok (.iload 4, 2) := by decide +kernel
theorem dX9_isDark_5 : decode cX9_isDark 5 = .ok (.aload_n 0, 1) := by decide +kernel
theorem dX9_isDark_6 : decode cX9_isDark 6 = .ok (.getfield 7, 3) := by decide +kernel
theorem dX9_isDark_9 : decode cX9_isDark 9 = .ok (.iconst 1, 1) := by decide +kernel
theorem dX9_isDark_10 : decode cX9_isDark 10 = .ok (.iaload, 1) := by decide +kernel
theorem dX9_isDark_11 : decode cX9_isDark 11 = .ok (.if_icmp .ge 90, 3) := by decide +kernel
theorem dX9_isDark_14 : decode cX9_isDark 14 = .ok (.bipush 80, 2) := by decide +kernel
theorem dX9_isDark_16 : decode cX9_isDark 16 = .ok (.iconst 3, 1) := by decide +kernel
theorem dX9_isDark_17 : decode cX9_isDark 17 = .ok (.iload 4, 2) := by decide +kernel
theorem dX9_isDark_19 : decode cX9_isDark 19 = .ok (.imul, 1) := by decide +kernel
theorem dX9_isDark_20 : decode cX9_isDark 20 = .ok (.iadd, 1) := by decide +kernel
theorem dX9_isDark_21 : decode cX9_isDark 21 = .ok (.istore 5, 2) := by decide +kernel
theorem dX9_isDark_23 : decode cX9_isDark 23 = .ok (.iload_n 2, 1) := by decide +kernel
theorem dX9_isDark_24 : decode cX9_isDark 24 = .ok (.istore 6, 2) := by decide +kernel
theorem dX9_isDark_26 : decode cX9_isDark 26 = .ok (.iload 6, 2) := by decide +kernel
theorem dX9_isDark_28 : decode cX9_isDark 28 = .ok (.iload_n 3, 1) := by decide +kernel
theorem dX9_isDark_29 : decode cX9_isDark 29 = .ok (.if_icmp .ge 66, 3) := by decide +kernel
theorem dX9_isDark_32 : decode cX9_isDark 32 = .ok (.aload_n 0, 1) := by decide +kernel
theorem dX9_isDark_33 : decode cX9_isDark 33 = .ok (.getfield 7, 3) := by decide +kernel
theorem dX9_isDark_36 : decode cX9_isDark 36 = .ok (.bipush 10, 2) := by decide +kernel
theorem dX9_isDark_38 : decode cX9_isDark 38 = .ok (.iconst 4, 1) := by decide +kernel
theorem dX9_isDark_39 : decode cX9_isDark 39 = .ok (.iload_n 1, 1) := by decide +kernel
theorem dX9_isDark_40 : decode cX9_isDark 40 = .ok (.imul, 1) := by decide +kernel
theorem dX9_isDark_41 : decode cX9_isDark 41 = .ok (.iadd, 1) := by decide +kernel
theorem dX9_isDark_42 : decode cX9_isDark 42 = .ok (.iconst 2, 1) := by decide +kernel
theorem dX9_isDark_43 : decode cX9_isDark 43 = .ok (.iadd, 1) := by decide +kernel
theorem dX9_isDark_44 : decode cX9_isDark 44 = .ok (.iaload, 1) := by decide +kernel
theorem dX9_isDark_45 : decode cX9_isDark 45 = .ok (.aload_n 0, 1) := by decide +kernel
theorem dX9_isDark_46 : decode cX9_isDark 46 = .ok (.getfield 7, 3) := by decide +kernel
theorem dX9_isDark_49 : decode cX9_isDark 49 = .ok (.iload 5, 2) := by decide +kernel
theorem dX9_isDark_51 : decode cX9_isDark 51 = .ok (.iconst 2, 1) := by decide +kernel
theorem dX9_isDark_52 : decode cX9_isDark 52 = .ok (.iadd, 1) := by decide +kernel
theorem dX9_isDark_53 : decode cX9_isDark 53 = .ok (.iaload, 1) := by decide +kernel
theorem dX9_isDark_54 : decode cX9_isDark 54 = .ok (.if_icmp .lt 41, 3) := by decide +kernel
theorem dX9_isDark_57 : decode cX9_isDark 57 = .ok (.iload 6, 2) := by decide +kernel
theorem dX9_isDark_59 : decode cX9_isDark 59 = .ok (.sipush 1440, 3) := by decide +kernel
theorem dX9_isDark_62 : decode cX9_isDark 62 = .ok (.irem, 1) := by decide +kernel
theorem dX9_isDark_63 : decode cX9_isDark 63 = .ok (.aload_n 0, 1) := by decide +kernel
theorem dX9_isDark_64 : decode cX9_isDark 64 = .ok (.getfield 7, 3) := by decide +kernel
theorem dX9_isDark_67 : decode cX9_isDark 67 = .ok (.iload 5, 2) := by decide +kernel
theorem dX9_isDark_69 : decode cX9_isDark 69 = .ok (.iaload, 1) := by decide +kernel
theorem dX9_isDark_70 : decode cX9_isDark 70 = .ok (.aload_n 0, 1) := by decide +kernel
theorem dX9_isDark_71 : decode cX9_isDark 71 = .ok (.getfield 7, 3) := by decide +kernel
theorem dX9_isDark_74 : decode cX9_isDark 74 = .ok (.iload 5, 2) := by decide +kernel
theorem dX9_isDark_76 : decode cX9_isDark 76 = .ok (.iconst 1, 1) := by decide +kernel
theorem dX9_isDark_77 : decode cX9_isDark 77 = .ok (.iadd, 1) := by decide +kernel
theorem dX9_isDark_78 : decode cX9_isDark 78 = .ok (.iaload, 1) := by decide +kernel
theorem dX9_isDark_79 : decode cX9_isDark 79 = .ok (.iconst 1, 1) := by decide +kernel
theorem dX9_isDark_80 : decode cX9_isDark 80 = .ok (.isub, 1) := by decide +kernel
theorem dX9_isDark_81 : decode cX9_isDark 81 = .ok (.invokestatic 41, 3) := by decide +kernel
theorem dX9_isDark_84 : decode cX9_isDark 84 = .ok (.ifCond .eq 5, 3) := by decide +kernel
theorem dX9_isDark_87 : decode cX9_isDark 87 = .ok (.iconst 1, 1) := by decide +kernel
theorem dX9_isDark_88 : decode cX9_isDark 88 = .ok (.ireturn, 1) := by decide +kernel
theorem dX9_isDark_89 : decode cX9_isDark 89 = .ok (.iinc 6 1, 3) := by decide +kernel
theorem dX9_isDark_92 : decode cX9_isDark 92 = .ok (.goto (-66), 3) := by decide +kernel
theorem dX9_isDark_95 : decode cX9_isDark 95 = .ok (.iinc 4 1, 3) := by decide +kernel
theorem dX9_isDark_98 : decode cX9_isDark 98 = .ok (.goto (-95), 3) := by decide +kernel
theorem dX9_isDark_101 : decode cX9_isDark 101 = .ok (.iconst 0, 1) := by decide +kernel
theorem dX9_isDark_102 : decode cX9_isDark 102 = .ok (.ireturn, 1) := by decide +kernel
theorem dX9_isTaken_0 : decode cX9_isTaken 0 = .ok (.iconst 0, 1) := by decide +kernel
theorem dX9_isTaken_1 : decode cX9_isTaken 1 = .ok (.istore_n 3, 1) := by decide +kernel
theorem dX9_isTaken_2 : decode cX9_isTaken 2 = .ok (.iconst 0, 1) := by decide +kernel
theorem dX9_isTaken_3 : decode cX9_isTaken 3 = .ok (.istore 4, 2) := by decide +kernel
theorem dX9_isTaken_5 : decode cX9_isTaken 5 = .ok (.iload 4, 2) := by decide +kernel
theorem dX9_isTaken_7 : decode cX9_isTaken 7 = .ok (.aload_n 0, 1) := by decide +kernel
theorem dX9_isTaken_8 : decode cX9_isTaken 8 = .ok (.getfield 7, 3) := by decide +kernel
theorem dX9_isTaken_11 : decode cX9_isTaken 11 = .ok (.iconst 3, 1) := by decide +kernel
theorem dX9_isTaken_12 : decode cX9_isTaken 12 = .ok (.iaload, 1) := by decide +kernel
theorem dX9_isTaken_13 : decode cX9_isTaken 13 = .ok (.if_icmp .ge 40, 3) := by decide +kernel
theorem dX9_isTaken_16 : decode cX9_isTaken 16 = .ok (.iload_n 3, 1) := by decide +kernel
theorem dX9_isTaken_17 : decode cX9_isTaken 17 = .ok (.ifCond .ne 24, 3) := by decide +kernel
theorem dX9_isTaken_20 : decode cX9_isTaken 20 = .ok (.aload_n 0, 1) := by decide +kernel
theorem dX9_isTaken_21 : decode cX9_isTaken 21 = .ok (.iload 4, 2) := by decide +kernel
theorem dX9_isTaken_23 : decode cX9_isTaken 23 = .ok (.iconst 1, 1) := by decide +kernel
theorem dX9_isTaken_24 : decode cX9_isTaken 24 = .ok (.invokevirtual 45, 3) := by decide +kernel
theorem dX9_isTaken_27 : decode cX9_isTaken 27 = .ok (.iload_n 2, 1) := by decide +kernel
theorem dX9_isTaken_28 : decode cX9_isTaken 28 = .ok (.if_icmp .ge 17, 3) := by decide +kernel
theorem dX9_isTaken_31 : decode cX9_isTaken 31 = .ok (.iload_n 1, 1) := by decide +kernel
theorem dX9_isTaken_32 : decode cX9_isTaken 32 = .ok (.aload_n 0, 1) := by decide +kernel
theorem dX9_isTaken_33 : decode cX9_isTaken 33 = .ok (.iload 4, 2) := by decide +kernel
theorem dX9_isTaken_35 : decode cX9_isTaken 35 = .ok (.invokevirtual 70, 3) := by decide +kernel
theorem dX9_isTaken_38 : decode cX9_isTaken 38 = .ok (.if_icmp .ge 7, 3) := by decide +kernel
theorem dX9_isTaken_41 : decode cX9_isTaken 41 = .ok (.iconst 1, 1) := by decide +kernel
theorem dX9_isTaken_42 : decode cX9_isTaken 42 = .ok (.goto 4, 3) := by decide +kernel
theorem dX9_isTaken_45 : decode cX9_isTaken 45 = .ok (.iconst 0, 1) := by decide +kernel
theorem dX9_isTaken_46 : decode cX9_isTaken 46 = .ok (.istore_n 3, 1) := by decide +kernel
theorem dX9_isTaken_47 : decode cX9_isTaken 47 = .ok (.iinc 4 1, 3) := by decide +kernel
theorem dX9_isTaken_50 : decode cX9_isTaken 50 = .ok (.goto (-45), 3) := by decide +kernel
theorem dX9_isTaken_53 : decode cX9_isTaken 53 = .ok (.iload_n 3, 1) := by decide +kernel
theorem dX9_isTaken_54 : decode cX9_isTaken 54 = .ok (.ireturn, 1) := by decide +kernel
theorem dX9_fault_0 : decode cX9_fault 0 = .ok (.iload_n 2, 1) := by decide +kernel
theorem dX9_fault_1 : decode cX9_fault 1 = .ok (.aload_n 0, 1) := by decide +kernel
theorem dX9_fault_2 : decode cX9_fault 2 = .ok (.iload_n 1, 1) := by decide +kernel
theorem dX9_fault_3 : decode cX9_fault 3 = .ok (.invokevirtual 73, 3) := by decide +kernel
theorem dX9_fault_6 : decode cX9_fault 6 = .ok (.iadd, 1) := by decide +kernel
theorem dX9_fault_7 : decode cX9_fault 7 = .ok (.istore_n 3, 1) := by decide +kernel
theorem dX9_fault_8 : decode cX9_fault 8 = .ok (.aload_n 0, 1) := by decide +kernel
theorem dX9_fault_9 : decode cX9_fault 9 = .ok (.getfield 7, 3) := by decide +kernel
theorem dX9_fault_12 : decode cX9_fault 12 = .ok (.iconst 3, 1) := by decide +kernel
theorem dX9_fault_13 : decode cX9_fault 13 = .ok (.iaload, 1) := by decide +kernel
theorem dX9_fault_14 : decode cX9_fault 14 = .ok (.bipush 60, 2) := by decide +kernel
theorem dX9_fault_16 : decode cX9_fault 16 = .ok (.if_icmp .ne 6, 3) := by decide +kernel
theorem dX9_fault_19 : decode cX9_fault 19 = .ok (.bipush (-3), 2) := by decide +kernel
theorem dX9_fault_21 : decode cX9_fault 21 = .ok (.ireturn, 1) := by decide +kernel
theorem dX9_fault_22 : decode cX9_fault 22 = .ok (.iload_n 3, 1) := by decide +kernel
theorem dX9_fault_23 : decode cX9_fault 23 = .ok (.sipush 10080, 3) := by decide +kernel
theorem dX9_fault_26 : decode cX9_fault 26 = .ok (.if_icmp .gt 12, 3) := by decide +kernel
theorem dX9_fault_29 : decode cX9_fault 29 = .ok (.aload_n 0, 1) := by decide +kernel
theorem dX9_fault_30 : decode cX9_fault 30 = .ok (.iload_n 2, 1) := by decide +kernel
theorem dX9_fault_31 : decode cX9_fault 31 = .ok (.iload_n 3, 1) := by decide +kernel
theorem dX9_fault_32 : decode cX9_fault 32 = .ok (.invokevirtual 76, 3) := by decide +kernel
theorem dX9_fault_35 : decode cX9_fault 35 = .ok (.ifCond .eq 6, 3) := by decide +kernel
theorem dX9_fault_38 : decode cX9_fault 38 = .ok (.bipush (-4), 2) := by decide +kernel
theorem dX9_fault_40 : decode cX9_fault 40 = .ok (.ireturn, 1) := by decide +kernel
theorem dX9_fault_41 : decode cX9_fault 41 = .ok (.aload_n 0, 1) := by decide +kernel
theorem dX9_fault_42 : decode cX9_fault 42 = .ok (.invokevirtual 80, 3) := by decide +kernel
theorem dX9_fault_45 : decode cX9_fault 45 = .ok (.aload_n 0, 1) := by decide +kernel
theorem dX9_fault_46 : decode cX9_fault 46 = .ok (.iload_n 1, 1) := by decide +kernel
theorem dX9_fault_47 : decode cX9_fault 47 = .ok (.iload_n 2, 1) := by decide +kernel
theorem dX9_fault_48 : decode cX9_fault 48 = .ok (.iload_n 3, 1) := by decide +kernel
theorem dX9_fault_49 : decode cX9_fault 49 = .ok (.iload_n 2, 1) := by decide +kernel
theorem dX9_fault_50 : decode cX9_fault 50 = .ok (.isub, 1) := by decide +kernel
theorem dX9_fault_51 : decode cX9_fault 51 = .ok (.invokevirtual 83, 3) := by decide +kernel
theorem dX9_fault_54 : decode cX9_fault 54 = .ok (.aload_n 0, 1) := by decide +kernel
theorem dX9_fault_55 : decode cX9_fault 55 = .ok (.iload_n 1, 1) := by decide +kernel
theorem dX9_fault_56 : decode cX9_fault 56 = .ok (.invokevirtual 87, 3) := by decide +kernel
theorem dX9_fault_59 : decode cX9_fault 59 = .ok (.ifCond .eq 8, 3) := by decide +kernel
theorem dX9_fault_62 : decode cX9_fault 62 = .ok (.bipush (-5), 2) := by decide +kernel
theorem dX9_fault_64 : decode cX9_fault 64 = .ok (.goto 19, 3) := by decide +kernel
theorem dX9_fault_67 : decode cX9_fault 67 = .ok (.aload_n 0, 1) := by decide +kernel
theorem dX9_fault_68 : decode cX9_fault 68 = .ok (.iload_n 1, 1) := by decide +kernel
theorem dX9_fault_69 : decode cX9_fault 69 = .ok (.iload_n 2, 1) := by decide +kernel
theorem dX9_fault_70 : decode cX9_fault 70 = .ok (.iload_n 3, 1) := by decide +kernel
theorem dX9_fault_71 : decode cX9_fault 71 = .ok (.invokevirtual 90, 3) := by decide +kernel
theorem dX9_fault_74 : decode cX9_fault 74 = .ok (.ifCond .eq 8, 3) := by decide +kernel
theorem dX9_fault_77 : decode cX9_fault 77 = .ok (.bipush (-6), 2) := by decide +kernel
theorem dX9_fault_79 : decode cX9_fault 79 = .ok (.goto 4, 3) := by decide +kernel
theorem dX9_fault_82 : decode cX9_fault 82 = .ok (.iconst 0, 1) := by decide +kernel
theorem dX9_fault_83 : decode cX9_fault 83 = .ok (.ireturn, 1) := by decide +kernel
theorem dX9_puts_0 : decode cX9_puts 0 = .ok (.aload_n 0, 1) := by decide +kernel
theorem dX9_puts_1 : decode cX9_puts 1 = .ok (.getfield 7, 3) := by decide +kernel
theorem dX9_puts_4 : decode cX9_puts 4 = .ok (.iconst 3, 1) := by decide +kernel
theorem dX9_puts_5 : decode cX9_puts 5 = .ok (.iaload, 1) := by decide +kernel
theorem dX9_puts_6 : decode cX9_puts 6 = .ok (.istore 5, 2) := by decide +kernel
theorem dX9_puts_8 : decode cX9_puts 8 = .ok (.iload 5, 2) := by decide +kernel
theorem dX9_puts_10 : decode cX9_puts 10 = .ok (.ifCond .le 71, 3) := by decide +kernel
theorem dX9_puts_13 : decode cX9_puts 13 = .ok (.aload_n 0, 1) := by decide +kernel
theorem dX9_puts_14 : decode cX9_puts 14 = .ok (.iload 5, 2) := by decide +kernel
theorem dX9_puts_16 : decode cX9_puts 16 = .ok (.iconst 1, 1) := by decide +kernel
theorem dX9_puts_17 : decode cX9_puts 17 = .ok (.isub, 1) := by decide +kernel
theorem dX9_puts_18 : decode cX9_puts 18 = .ok (.iconst 1, 1) := by decide +kernel
theorem dX9_puts_19 : decode cX9_puts 19 = .ok (.invokevirtual 45, 3) := by decide +kernel
theorem dX9_puts_22 : decode cX9_puts 22 = .ok (.iload_n 2, 1) := by decide +kernel
theorem dX9_puts_23 : decode cX9_puts 23 = .ok (.if_icmp .le 58, 3) := by decide +kernel
theorem dX9_puts_26 : decode cX9_puts 26 = .ok (.iconst 0, 1) := by decide +kernel
theorem dX9_puts_27 : decode cX9_puts 27 = .ok (.istore 6, 2) := by decide +kernel
theorem dX9_puts_29 : decode cX9_puts 29 = .ok (.iload 6, 2) := by decide +kernel
theorem dX9_puts_31 : decode cX9_puts 31 = .ok (.iconst 4, 1) := by decide +kernel
theorem dX9_puts_32 : decode cX9_puts 32 = .ok (.if_icmp .ge 43, 3) := by decide +kernel
theorem dX9_puts_35 : decode cX9_puts 35 = .ok (.aload_n 0, 1) := by decide +kernel
theorem dX9_puts_36 : decode cX9_puts 36 = .ok (.getfield 7, 3) := by decide +kernel
theorem dX9_puts_39 : decode cX9_puts 39 = .ok (.sipush 230, 3) := by decide +kernel
theorem dX9_puts_42 : decode cX9_puts 42 = .ok (.iconst 4, 1) := by decide +kernel
theorem dX9_puts_43 : decode cX9_puts 43 = .ok (.iload 5, 2) := by decide +kernel
theorem dX9_puts_45 : decode cX9_puts 45 = .ok (.imul, 1) := by decide +kernel
theorem dX9_puts_46 : decode cX9_puts 46 = .ok (.iadd, 1) := by decide +kernel
theorem dX9_puts_47 : decode cX9_puts 47 = .ok (.iload 6, 2) := by decide +kernel
theorem dX9_puts_49 : decode cX9_puts 49 = .ok (.iadd, 1) := by decide +kernel
theorem dX9_puts_50 : decode cX9_puts 50 = .ok (.aload_n 0, 1) := by decide +kernel
theorem dX9_puts_51 : decode cX9_puts 51 = .ok (.getfield 7, 3) := by decide +kernel
theorem dX9_puts_54 : decode cX9_puts 54 = .ok (.sipush 230, 3) := by decide +kernel
theorem dX9_puts_57 : decode cX9_puts 57 = .ok (.iconst 4, 1) := by decide +kernel
theorem dX9_puts_58 : decode cX9_puts 58 = .ok (.iload 5, 2) := by decide +kernel
theorem dX9_puts_60 : decode cX9_puts 60 = .ok (.imul, 1) := by decide +kernel
theorem dX9_puts_61 : decode cX9_puts 61 = .ok (.iadd, 1) := by decide +kernel
theorem dX9_puts_62 : decode cX9_puts 62 = .ok (.iconst 4, 1) := by decide +kernel
theorem dX9_puts_63 : decode cX9_puts 63 = .ok (.isub, 1) := by decide +kernel
theorem dX9_puts_64 : decode cX9_puts 64 = .ok (.iload 6, 2) := by decide +kernel
theorem dX9_puts_66 : decode cX9_puts 66 = .ok (.iadd, 1) := by decide +kernel
theorem dX9_puts_67 : decode cX9_puts 67 = .ok (.iaload, 1) := by decide +kernel
theorem dX9_puts_68 : decode cX9_puts 68 = .ok (.iastore, 1) := by decide +kernel
theorem dX9_puts_69 : decode cX9_puts 69 = .ok (.iinc 6 1, 3) := by decide +kernel
theorem dX9_puts_72 : decode cX9_puts 72 = .ok (.goto (-43), 3) := by decide +kernel
theorem dX9_puts_75 : decode cX9_puts 75 = .ok (.iinc 5 (-1), 3) := by decide +kernel
theorem dX9_puts_78 : decode cX9_puts 78 = .ok (.goto (-70), 3) := by decide +kernel
theorem dX9_puts_81 : decode cX9_puts 81 = .ok (.aload_n 0, 1) := by decide +kernel
theorem dX9_puts_82 : decode cX9_puts 82 = .ok (.getfield 7, 3) := by decide +kernel
theorem dX9_puts_85 : decode cX9_puts 85 = .ok (.sipush 230, 3) := by decide +kernel
theorem dX9_puts_88 : decode cX9_puts 88 = .ok (.iconst 4, 1) := by decide +kernel
theorem dX9_puts_89 : decode cX9_puts 89 = .ok (.iload 5, 2) := by decide +kernel
theorem dX9_puts_91 : decode cX9_puts 91 = .ok (.imul, 1) := by decide +kernel
theorem dX9_puts_92 : decode cX9_puts 92 = .ok (.iadd, 1) := by decide +kernel
theorem dX9_puts_93 : decode cX9_puts 93 = .ok (.iload_n 1, 1) := by decide +kernel
theorem dX9_puts_94 : decode cX9_puts 94 = .ok (.iastore, 1) := by decide +kernel
theorem dX9_puts_95 : decode cX9_puts 95 = .ok (.aload_n 0, 1) := by decide +kernel
theorem dX9_puts_96 : decode cX9_puts 96 = .ok (.getfield 7, 3) := by decide +kernel
theorem dX9_puts_99 : decode cX9_puts 99 = .ok (.sipush 230, 3) := by decide +kernel
theorem dX9_puts_102 : decode cX9_puts 102 = .ok (.iconst 4, 1) := by decide +kernel
theorem dX9_puts_103 : decode cX9_puts 103 = .ok (.iload 5, 2) := by decide +kernel
theorem dX9_puts_105 : decode cX9_puts 105 = .ok (.imul, 1) := by decide +kernel
theorem dX9_puts_106 : decode cX9_puts 106 = .ok (.iadd, 1) := by decide +kernel
theorem dX9_puts_107 : decode cX9_puts 107 = .ok (.iconst 1, 1) := by decide +kernel
theorem dX9_puts_108 : decode cX9_puts 108 = .ok (.iadd, 1) := by decide +kernel
theorem dX9_puts_109 : decode cX9_puts 109 = .ok (.iload_n 2, 1) := by decide +kernel
theorem dX9_puts_110 : decode cX9_puts 110 = .ok (.iastore, 1) := by decide +kernel
theorem dX9_puts_111 : decode cX9_puts 111 = .ok (.aload_n 0, 1) := by decide +kernel
theorem dX9_puts_112 : decode cX9_puts 112 = .ok (.getfield 7, 3) := by decide +kernel
theorem dX9_puts_115 : decode cX9_puts 115 = .ok (.sipush 230, 3) := by decide +kernel
theorem dX9_puts_118 : decode cX9_puts 118 = .ok (.iconst 4, 1) := by decide +kernel
theorem dX9_puts_119 : decode cX9_puts 119 = .ok (.iload 5, 2) := by decide +kernel
theorem dX9_puts_121 : decode cX9_puts 121 = .ok (.imul, 1) := by decide +kernel
theorem dX9_puts_122 : decode cX9_puts 122 = .ok (.iadd, 1) := by decide +kernel
theorem dX9_puts_123 : decode cX9_puts 123 = .ok (.iconst 2, 1) := by decide +kernel
theorem dX9_puts_124 : decode cX9_puts 124 = .ok (.iadd, 1) := by decide +kernel
theorem dX9_puts_125 : decode cX9_puts 125 = .ok (.iload_n 3, 1) := by decide +kernel
theorem dX9_puts_126 : decode cX9_puts 126 = .ok (.iastore, 1) := by decide +kernel
theorem dX9_puts_127 : decode cX9_puts 127 = .ok (.aload_n 0, 1) := by decide +kernel
theorem dX9_puts_128 : decode cX9_puts 128 = .ok (.getfield 7, 3) := by decide +kernel
theorem dX9_puts_131 : decode cX9_puts 131 = .ok (.sipush 230, 3) := by decide +kernel
theorem dX9_puts_134 : decode cX9_puts 134 = .ok (.iconst 4, 1) := by decide +kernel
theorem dX9_puts_135 : decode cX9_puts 135 = .ok (.iload 5, 2) := by decide +kernel
theorem dX9_puts_137 : decode cX9_puts 137 = .ok (.imul, 1) := by decide +kernel
theorem dX9_puts_138 : decode cX9_puts 138 = .ok (.iadd, 1) := by decide +kernel
theorem dX9_puts_139 : decode cX9_puts 139 = .ok (.iconst 3, 1) := by decide +kernel
theorem dX9_puts_140 : decode cX9_puts 140 = .ok (.iadd, 1) := by decide +kernel
theorem dX9_puts_141 : decode cX9_puts 141 = .ok (.iload 4, 2) := by decide +kernel
theorem dX9_puts_143 : decode cX9_puts 143 = .ok (.iastore, 1) := by decide +kernel
theorem dX9_puts_144 : decode cX9_puts 144 = .ok (.aload_n 0, 1) := by decide +kernel
theorem dX9_puts_145 : decode cX9_puts 145 = .ok (.getfield 7, 3) := by decide +kernel
theorem dX9_puts_148 : decode cX9_puts 148 = .ok (.iconst 3, 1) := by decide +kernel
theorem dX9_puts_149 : decode cX9_puts 149 = .ok (.dup2, 1) := by decide +kernel
theorem dX9_puts_150 : decode cX9_puts 150 = .ok (.iaload, 1) := by decide +kernel
theorem dX9_puts_151 : decode cX9_puts 151 = .ok (.iconst 1, 1) := by decide +kernel
theorem dX9_puts_152 : decode cX9_puts 152 = .ok (.iadd, 1) := by decide +kernel
theorem dX9_puts_153 : decode cX9_puts 153 = .ok (.iastore, 1) := by decide +kernel
theorem dX9_puts_154 : decode cX9_puts 154 = .ok (.iload 5, 2) := by decide +kernel
theorem dX9_puts_156 : decode cX9_puts 156 = .ok (.ireturn, 1) := by decide +kernel
theorem dX9_drops_0 : decode cX9_drops 0 = .ok (.aload_n 0, 1) := by decide +kernel
theorem dX9_drops_1 : decode cX9_drops 1 = .ok (.getfield 7, 3) := by decide +kernel
theorem dX9_drops_4 : decode cX9_drops 4 = .ok (.iconst 3, 1) := by decide +kernel
theorem dX9_drops_5 : decode cX9_drops 5 = .ok (.dup2, 1) := by decide +kernel
theorem dX9_drops_6 : decode cX9_drops 6 = .ok (.iaload, 1) := by decide +kernel
theorem dX9_drops_7 : decode cX9_drops 7 = .ok (.iconst 1, 1) := by decide +kernel
theorem dX9_drops_8 : decode cX9_drops 8 = .ok (.isub, 1) := by decide +kernel
theorem dX9_drops_9 : decode cX9_drops 9 = .ok (.iastore, 1) := by decide +kernel
theorem dX9_drops_10 : decode cX9_drops 10 = .ok (.sipush 230, 3) := by decide +kernel
theorem dX9_drops_13 : decode cX9_drops 13 = .ok (.iconst 4, 1) := by decide +kernel
theorem dX9_drops_14 : decode cX9_drops 14 = .ok (.iload_n 1, 1) := by decide +kernel
theorem dX9_drops_15 : decode cX9_drops 15 = .ok (.imul, 1) := by decide +kernel
theorem dX9_drops_16 : decode cX9_drops 16 = .ok (.iadd, 1) := by decide +kernel
theorem dX9_drops_17 : decode cX9_drops 17 = .ok (.istore_n 2, 1) := by decide +kernel
theorem dX9_drops_18 : decode cX9_drops 18 = .ok (.iload_n 2, 1) := by decide +kernel
theorem dX9_drops_19 : decode cX9_drops 19 = .ok (.sipush 230, 3) := by decide +kernel
theorem dX9_drops_22 : decode cX9_drops 22 = .ok (.iconst 4, 1) := by decide +kernel
theorem dX9_drops_23 : decode cX9_drops 23 = .ok (.aload_n 0, 1) := by decide +kernel
theorem dX9_drops_24 : decode cX9_drops 24 = .ok (.getfield 7, 3) := by decide +kernel
theorem dX9_drops_27 : decode cX9_drops 27 = .ok (.iconst 3, 1) := by decide +kernel
theorem dX9_drops_28 : decode cX9_drops 28 = .ok (.iaload, 1) := by decide +kernel
theorem dX9_drops_29 : decode cX9_drops 29 = .ok (.imul, 1) := by decide +kernel
theorem dX9_drops_30 : decode cX9_drops 30 = .ok (.iadd, 1) := by decide +kernel
theorem dX9_drops_31 : decode cX9_drops 31 = .ok (.if_icmp .ge 23, 3) := by decide +kernel
theorem dX9_drops_34 : decode cX9_drops 34 = .ok (.aload_n 0, 1) := by decide +kernel
theorem dX9_drops_35 : decode cX9_drops 35 = .ok (.getfield 7, 3) := by decide +kernel
theorem dX9_drops_38 : decode cX9_drops 38 = .ok (.iload_n 2, 1) := by decide +kernel
theorem dX9_drops_39 : decode cX9_drops 39 = .ok (.aload_n 0, 1) := by decide +kernel
theorem dX9_drops_40 : decode cX9_drops 40 = .ok (.getfield 7, 3) := by decide +kernel
theorem dX9_drops_43 : decode cX9_drops 43 = .ok (.iload_n 2, 1) := by decide +kernel
theorem dX9_drops_44 : decode cX9_drops 44 = .ok (.iconst 4, 1) := by decide +kernel
theorem dX9_drops_45 : decode cX9_drops 45 = .ok (.iadd, 1) := by decide +kernel
theorem dX9_drops_46 : decode cX9_drops 46 = .ok (.iaload, 1) := by decide +kernel
theorem dX9_drops_47 : decode cX9_drops 47 = .ok (.iastore, 1) := by decide +kernel
theorem dX9_drops_48 : decode cX9_drops 48 = .ok (.iinc 2 1, 3) := by decide +kernel
theorem dX9_drops_51 : decode cX9_drops 51 = .ok (.goto (-33), 3) := by decide +kernel
theorem dX9_drops_54 : decode cX9_drops 54 = .ok (.return_, 1) := by decide +kernel
theorem dX9_place_0 : decode cX9_place 0 = .ok (.aload_n 0, 1) := by decide +kernel
theorem dX9_place_1 : decode cX9_place 1 = .ok (.iload_n 1, 1) := by decide +kernel
theorem dX9_place_2 : decode cX9_place 2 = .ok (.invokevirtual 52, 3) := by decide +kernel
theorem dX9_place_5 : decode cX9_place 5 = .ok (.ifCond .eq 14, 3) := by decide +kernel
theorem dX9_place_8 : decode cX9_place 8 = .ok (.iload_n 2, 1) := by decide +kernel
theorem dX9_place_9 : decode cX9_place 9 = .ok (.iconst 0, 1) := by decide +kernel
theorem dX9_place_10 : decode cX9_place 10 = .ok (.sipush 10079, 3) := by decide +kernel
theorem dX9_place_13 : decode cX9_place 13 = .ok (.invokestatic 41, 3) := by decide +kernel
theorem dX9_place_16 : decode cX9_place 16 = .ok (.ifCond .ne 5, 3) := by decide +kernel
theorem dX9_place_19 : decode cX9_place 19 = .ok (.iconst (-1), 1) := by decide +kernel
theorem dX9_place_20 : decode cX9_place 20 = .ok (.ireturn, 1) := by decide +kernel
theorem dX9_place_21 : decode cX9_place 21 = .ok (.aload_n 0, 1) := by decide +kernel
theorem dX9_place_22 : decode cX9_place 22 = .ok (.iload_n 1, 1) := by decide +kernel
theorem dX9_place_23 : decode cX9_place 23 = .ok (.iload_n 2, 1) := by decide +kernel
theorem dX9_place_24 : decode cX9_place 24 = .ok (.invokevirtual 93, 3) := by decide +kernel
theorem dX9_place_27 : decode cX9_place 27 = .ok (.istore 4, 2) := by decide +kernel
theorem dX9_place_29 : decode cX9_place 29 = .ok (.iload 4, 2) := by decide +kernel
theorem dX9_place_31 : decode cX9_place 31 = .ok (.ifCond .eq 6, 3) := by decide +kernel
theorem dX9_place_34 : decode cX9_place 34 = .ok (.iload 4, 2) := by decide +kernel
theorem dX9_place_36 : decode cX9_place 36 = .ok (.ireturn, 1) := by decide +kernel
theorem dX9_place_37 : decode cX9_place 37 = .ok (.aload_n 0, 1) := by decide +kernel
theorem dX9_place_38 : decode cX9_place 38 = .ok (.invokevirtual 49, 3) := by decide +kernel
theorem dX9_place_41 : decode cX9_place 41 = .ok (.aload_n 0, 1) := by decide +kernel
theorem dX9_place_42 : decode cX9_place 42 = .ok (.iload_n 1, 1) := by decide +kernel
theorem dX9_place_43 : decode cX9_place 43 = .ok (.iload_n 2, 1) := by decide +kernel
theorem dX9_place_44 : decode cX9_place 44 = .ok (.aload_n 0, 1) := by decide +kernel
theorem dX9_place_45 : decode cX9_place 45 = .ok (.iload_n 1, 1) := by decide +kernel
theorem dX9_place_46 : decode cX9_place 46 = .ok (.invokevirtual 73, 3) := by decide +kernel
theorem dX9_place_49 : decode cX9_place 49 = .ok (.iload_n 3, 1) := by decide +kernel
theorem dX9_place_50 : decode cX9_place 50 = .ok (.ifCond .eq 7, 3) := by decide +kernel
theorem dX9_place_53 : decode cX9_place 53 = .ok (.iconst 1, 1) := by decide +kernel
theorem dX9_place_54 : decode cX9_place 54 = .ok (.goto 4, 3) := by decide +kernel
theorem dX9_place_57 : decode cX9_place 57 = .ok (.iconst 0, 1) := by decide +kernel
theorem dX9_place_58 : decode cX9_place 58 = .ok (.invokevirtual 96, 3) := by decide +kernel
theorem dX9_place_61 : decode cX9_place 61 = .ok (.ireturn, 1) := by decide +kernel
theorem dX9_remove_0 : decode cX9_remove 0 = .ok (.aload_n 0, 1) := by decide +kernel
theorem dX9_remove_1 : decode cX9_remove 1 = .ok (.iload_n 1, 1) := by decide +kernel
theorem dX9_remove_2 : decode cX9_remove 2 = .ok (.invokevirtual 100, 3) := by decide +kernel
theorem dX9_remove_5 : decode cX9_remove 5 = .ok (.ifCond .ne 5, 3) := by decide +kernel
theorem dX9_remove_8 : decode cX9_remove 8 = .ok (.iconst (-1), 1) := by decide +kernel
theorem dX9_remove_9 : decode cX9_remove 9 = .ok (.ireturn, 1) := by decide +kernel
theorem dX9_remove_10 : decode cX9_remove 10 = .ok (.aload_n 0, 1) := by decide +kernel
theorem dX9_remove_11 : decode cX9_remove 11 = .ok (.invokevirtual 49, 3) := by decide +kernel
theorem dX9_remove_14 : decode cX9_remove 14 = .ok (.aload_n 0, 1) := by decide +kernel
theorem dX9_remove_15 : decode cX9_remove 15 = .ok (.iload_n 1, 1) := by decide +kernel
theorem dX9_remove_16 : decode cX9_remove 16 = .ok (.invokevirtual 103, 3) := by decide +kernel
theorem dX9_remove_19 : decode cX9_remove 19 = .ok (.aload_n 0, 1) := by decide +kernel
theorem dX9_remove_20 : decode cX9_remove 20 = .ok (.getfield 7, 3) := by decide +kernel
theorem dX9_remove_23 : decode cX9_remove 23 = .ok (.iconst 3, 1) := by decide +kernel
theorem dX9_remove_24 : decode cX9_remove 24 = .ok (.iaload, 1) := by decide +kernel
theorem dX9_remove_25 : decode cX9_remove 25 = .ok (.ireturn, 1) := by decide +kernel
theorem dX9_firstFor_0 : decode cX9_firstFor 0 = .ok (.iload_n 2, 1) := by decide +kernel
theorem dX9_firstFor_1 : decode cX9_firstFor 1 = .ok (.istore_n 3, 1) := by decide +kernel
theorem dX9_firstFor_2 : decode cX9_firstFor 2 = .ok (.iload_n 3, 1) := by decide +kernel
theorem dX9_firstFor_3 : decode cX9_firstFor 3 = .ok (.iload_n 2, 1) := by decide +kernel
theorem dX9_firstFor_4 : decode cX9_firstFor 4 = .ok (.sipush 1439, 3) := by decide +kernel
theorem dX9_firstFor_7 : decode cX9_firstFor 7 = .ok (.iadd, 1) := by decide +kernel
theorem dX9_firstFor_8 : decode cX9_firstFor 8 = .ok (.if_icmp .gt 27, 3) := by decide +kernel
theorem dX9_firstFor_11 : decode cX9_firstFor 11 = .ok (.iload_n 3, 1) := by decide +kernel
theorem dX9_firstFor_12 : decode cX9_firstFor 12 = .ok (.sipush 10080, 3) := by decide +kernel
theorem dX9_firstFor_15 : decode cX9_firstFor 15 = .ok (.if_icmp .ge 20, 3) := by decide +kernel
theorem dX9_firstFor_18 : decode cX9_firstFor 18 = .ok (.aload_n 0, 1) := by decide +kernel
theorem dX9_firstFor_19 : decode cX9_firstFor 19 = .ok (.iload_n 1, 1) := by decide +kernel
theorem dX9_firstFor_20 : decode cX9_firstFor 20 = .ok (.iload_n 3, 1) := by decide +kernel
theorem dX9_firstFor_21 : decode cX9_firstFor 21 = .ok (.invokevirtual 93, 3) := by decide +kernel
theorem dX9_firstFor_24 : decode cX9_firstFor 24 = .ok (.ifCond .ne 5, 3) := by decide +kernel
theorem dX9_firstFor_27 : decode cX9_firstFor 27 = .ok (.iload_n 3, 1) := by decide +kernel
theorem dX9_firstFor_28 : decode cX9_firstFor 28 = .ok (.ireturn, 1) := by decide +kernel
theorem dX9_firstFor_29 : decode cX9_firstFor 29 = .ok (.iinc 3 1, 3) := by decide +kernel
theorem dX9_firstFor_32 : decode cX9_firstFor 32 = .ok (.goto (-30), 3) := by decide +kernel
theorem dX9_firstFor_35 : decode cX9_firstFor 35 = .ok (.bipush (-9), 2) := by decide +kernel
theorem dX9_firstFor_37 : decode cX9_firstFor 37 = .ok (.ireturn, 1) := by decide +kernel
theorem dX9_earliest_0 : decode cX9_earliest 0 = .ok (.aload_n 0, 1) := by decide +kernel
theorem dX9_earliest_1 : decode cX9_earliest 1 = .ok (.iload_n 1, 1) := by decide +kernel
theorem dX9_earliest_2 : decode cX9_earliest 2 = .ok (.invokevirtual 52, 3) := by decide +kernel
theorem dX9_earliest_5 : decode cX9_earliest 5 = .ok (.ifCond .eq 23, 3) := by decide +kernel
theorem dX9_earliest_8 : decode cX9_earliest 8 = .ok (.iload_n 2, 1) := by decide +kernel
theorem dX9_earliest_9 : decode cX9_earliest 9 = .ok (.iconst 0, 1) := by decide +kernel
theorem dX9_earliest_10 : decode cX9_earliest 10 = .ok (.sipush 10079, 3) := by decide +kernel
theorem dX9_earliest_13 : decode cX9_earliest 13 = .ok (.invokestatic 41, 3) := by decide +kernel
theorem dX9_earliest_16 : decode cX9_earliest 16 = .ok (.ifCond .eq 12, 3) := by decide +kernel
theorem dX9_earliest_19 : decode cX9_earliest 19 = .ok (.aload_n 0, 1) := by decide +kernel
theorem dX9_earliest_20 : decode cX9_earliest 20 = .ok (.iload_n 1, 1) := by decide +kernel
theorem dX9_earliest_21 : decode cX9_earliest 21 = .ok (.iload_n 2, 1) := by decide +kernel
theorem dX9_earliest_22 : decode cX9_earliest 22 = .ok (.invokevirtual 107, 3) := by decide +kernel
theorem dX9_earliest_25 : decode cX9_earliest 25 = .ok (.goto 4, 3) := by decide +kernel
theorem dX9_earliest_28 : decode cX9_earliest 28 = .ok (.iconst (-1), 1) := by decide +kernel
theorem dX9_earliest_29 : decode cX9_earliest 29 = .ok (.ireturn, 1) := by decide +kernel
theorem dX9_mayFill_0 : decode cX9_mayFill 0 = .ok (.aload_n 0, 1) := by decide +kernel
theorem dX9_mayFill_1 : decode cX9_mayFill 1 = .ok (.iload_n 1, 1) := by decide +kernel
theorem dX9_mayFill_2 : decode cX9_mayFill 2 = .ok (.invokevirtual 59, 3) := by decide +kernel
theorem dX9_mayFill_5 : decode cX9_mayFill 5 = .ok (.iconst 2, 1) := by decide +kernel
theorem dX9_mayFill_6 : decode cX9_mayFill 6 = .ok (.if_icmp .ne 40, 3) := by decide +kernel
theorem dX9_mayFill_9 : decode cX9_mayFill 9 = .ok (.iload_n 1, 1) := by decide +kernel
theorem dX9_mayFill_10 : decode cX9_mayFill 10 = .ok (.iload_n 2, 1) := by decide +kernel
theorem dX9_mayFill_11 : decode cX9_mayFill 11 = .ok (.if_icmp .eq 35, 3) := by decide +kernel
theorem dX9_mayFill_14 : decode cX9_mayFill 14 = .ok (.iload_n 3, 1) := by decide +kernel
theorem dX9_mayFill_15 : decode cX9_mayFill 15 = .ok (.aload_n 0, 1) := by decide +kernel
theorem dX9_mayFill_16 : decode cX9_mayFill 16 = .ok (.iload_n 1, 1) := by decide +kernel
theorem dX9_mayFill_17 : decode cX9_mayFill 17 = .ok (.invokevirtual 73, 3) := by decide +kernel
theorem dX9_mayFill_20 : decode cX9_mayFill 20 = .ok (.iadd, 1) := by decide +kernel
theorem dX9_mayFill_21 : decode cX9_mayFill 21 = .ok (.iload 4, 2) := by decide +kernel
theorem dX9_mayFill_23 : decode cX9_mayFill 23 = .ok (.if_icmp .gt 23, 3) := by decide +kernel
theorem dX9_mayFill_26 : decode cX9_mayFill 26 = .ok (.aload_n 0, 1) := by decide +kernel
theorem dX9_mayFill_27 : decode cX9_mayFill 27 = .ok (.iload_n 1, 1) := by decide +kernel
theorem dX9_mayFill_28 : decode cX9_mayFill 28 = .ok (.iload_n 3, 1) := by decide +kernel
theorem dX9_mayFill_29 : decode cX9_mayFill 29 = .ok (.iload_n 3, 1) := by decide +kernel
theorem dX9_mayFill_30 : decode cX9_mayFill 30 = .ok (.aload_n 0, 1) := by decide +kernel
theorem dX9_mayFill_31 : decode cX9_mayFill 31 = .ok (.iload_n 1, 1) := by decide +kernel
theorem dX9_mayFill_32 : decode cX9_mayFill 32 = .ok (.invokevirtual 73, 3) := by decide +kernel
theorem dX9_mayFill_35 : decode cX9_mayFill 35 = .ok (.iadd, 1) := by decide +kernel
theorem dX9_mayFill_36 : decode cX9_mayFill 36 = .ok (.invokevirtual 90, 3) := by decide +kernel
theorem dX9_mayFill_39 : decode cX9_mayFill 39 = .ok (.ifCond .ne 7, 3) := by decide +kernel
theorem dX9_mayFill_42 : decode cX9_mayFill 42 = .ok (.iconst 1, 1) := by decide +kernel
theorem dX9_mayFill_43 : decode cX9_mayFill 43 = .ok (.goto 4, 3) := by decide +kernel
theorem dX9_mayFill_46 : decode cX9_mayFill 46 = .ok (.iconst 0, 1) := by decide +kernel
theorem dX9_mayFill_47 : decode cX9_mayFill 47 = .ok (.ireturn, 1) := by decide +kernel
theorem dX9_measures_0 : decode cX9_measures 0 = .ok (.iload_n 2, 1) := by decide +kernel
theorem dX9_measures_1 : decode cX9_measures 1 = .ok (.istore 4, 2) := by decide +kernel
theorem dX9_measures_3 : decode cX9_measures 3 = .ok (.iload 4, 2) := by decide +kernel
theorem dX9_measures_5 : decode cX9_measures 5 = .ok (.iload_n 1, 1) := by decide +kernel
theorem dX9_measures_6 : decode cX9_measures 6 = .ok (.if_icmp .lt 201, 3) := by decide +kernel
theorem dX9_measures_9 : decode cX9_measures 9 = .ok (.iconst 0, 1) := by decide +kernel
theorem dX9_measures_10 : decode cX9_measures 10 = .ok (.istore 5, 2) := by decide +kernel
theorem dX9_measures_12 : decode cX9_measures 12 = .ok (.iload 5, 2) := by decide +kernel
theorem dX9_measures_14 : decode cX9_measures 14 = .ok (.bipush 17, 2) := by decide +kernel
theorem dX9_measures_16 : decode cX9_measures 16 = .ok (.if_icmp .ge 54, 3) := by decide +kernel
theorem dX9_measures_19 : decode cX9_measures 19 = .ok (.iload 4, 2) := by decide +kernel
theorem dX9_measures_21 : decode cX9_measures 21 = .ok (.iload_n 2, 1) := by decide +kernel
theorem dX9_measures_22 : decode cX9_measures 22 = .ok (.if_icmp .ne 20, 3) := by decide +kernel
theorem dX9_measures_25 : decode cX9_measures 25 = .ok (.iload 5, 2) := by decide +kernel
theorem dX9_measures_27 : decode cX9_measures 27 = .ok (.bipush 16, 2) := by decide +kernel
theorem dX9_measures_29 : decode cX9_measures 29 = .ok (.if_icmp .eq 9, 3) := by decide +kernel
theorem dX9_measures_32 : decode cX9_measures 32 = .ok (.iload 5, 2) := by decide +kernel
theorem dX9_measures_34 : decode cX9_measures 34 = .ok (.iload_n 3, 1) := by decide +kernel
theorem dX9_measures_35 : decode cX9_measures 35 = .ok (.if_icmp .eq 7, 3) := by decide +kernel
theorem dX9_measures_38 : decode cX9_measures 38 = .ok (.iconst 0, 1) := by decide +kernel
theorem dX9_measures_39 : decode cX9_measures 39 = .ok (.goto 6, 3) := by decide +kernel
theorem dX9_measures_42 : decode cX9_measures 42 = .ok (.sipush 999, 3) := by decide +kernel
theorem dX9_measures_45 : decode cX9_measures 45 = .ok (.istore 6, 2) := by decide +kernel
theorem dX9_measures_47 : decode cX9_measures 47 = .ok (.aload_n 0, 1) := by decide +kernel
theorem dX9_measures_48 : decode cX9_measures 48 = .ok (.getfield 31, 3) := by decide +kernel
theorem dX9_measures_51 : decode cX9_measures 51 = .ok (.bipush 17, 2) := by decide +kernel
theorem dX9_measures_53 : decode cX9_measures 53 = .ok (.iload 4, 2) := by decide +kernel
theorem dX9_measures_55 : decode cX9_measures 55 = .ok (.iload_n 1, 1) := by decide +kernel
theorem dX9_measures_56 : decode cX9_measures 56 = .ok (.isub, 1) := by decide +kernel
theorem dX9_measures_57 : decode cX9_measures 57 = .ok (.imul, 1) := by decide +kernel
theorem dX9_measures_58 : decode cX9_measures 58 = .ok (.iload 5, 2) := by decide +kernel
theorem dX9_measures_60 : decode cX9_measures 60 = .ok (.iadd, 1) := by decide +kernel
theorem dX9_measures_61 : decode cX9_measures 61 = .ok (.iload 6, 2) := by decide +kernel
theorem dX9_measures_63 : decode cX9_measures 63 = .ok (.iastore, 1) := by decide +kernel
theorem dX9_measures_64 : decode cX9_measures 64 = .ok (.iinc 5 1, 3) := by decide +kernel
theorem dX9_measures_67 : decode cX9_measures 67 = .ok (.goto (-55), 3) := by decide +kernel
theorem dX9_measures_70 : decode cX9_measures 70 = .ok (.iconst 0, 1) := by decide +kernel
theorem dX9_measures_71 : decode cX9_measures 71 = .ok (.istore 5, 2) := by decide +kernel
theorem dX9_measures_73 : decode cX9_measures 73 = .ok (.iload 5, 2) := by decide +kernel
theorem dX9_measures_75 : decode cX9_measures 75 = .ok (.aload_n 0, 1) := by decide +kernel
theorem dX9_measures_76 : decode cX9_measures 76 = .ok (.getfield 7, 3) := by decide +kernel
theorem dX9_measures_79 : decode cX9_measures 79 = .ok (.iconst 0, 1) := by decide +kernel
theorem dX9_measures_80 : decode cX9_measures 80 = .ok (.iaload, 1) := by decide +kernel
theorem dX9_measures_81 : decode cX9_measures 81 = .ok (.if_icmp .ge 120, 3) := by decide +kernel
theorem dX9_measures_84 : decode cX9_measures 84 = .ok (.iload 4, 2) := by decide +kernel
theorem dX9_measures_86 : decode cX9_measures 86 = .ok (.iload_n 2, 1) := by decide +kernel
theorem dX9_measures_87 : decode cX9_measures 87 = .ok (.if_icmp .ge 114, 3) := by decide +kernel
theorem dX9_measures_90 : decode cX9_measures 90 = .ok (.aload_n 0, 1) := by decide +kernel
theorem dX9_measures_91 : decode cX9_measures 91 = .ok (.iload 5, 2) := by decide +kernel
theorem dX9_measures_93 : decode cX9_measures 93 = .ok (.iconst (-1), 1) := by decide +kernel
theorem dX9_measures_94 : decode cX9_measures 94 = .ok (.iload 4, 2) := by decide +kernel
theorem dX9_measures_96 : decode cX9_measures 96 = .ok (.iload_n 2, 1) := by decide +kernel
theorem dX9_measures_97 : decode cX9_measures 97 = .ok (.invokevirtual 110, 3) := by decide +kernel
theorem dX9_measures_100 : decode cX9_measures 100 = .ok (.ifCond .eq 95, 3) := by decide +kernel
theorem dX9_measures_103 : decode cX9_measures 103 = .ok (.iconst 1, 1) := by decide +kernel
theorem dX9_measures_104 : decode cX9_measures 104 = .ok (.aload_n 0, 1) := by decide +kernel
theorem dX9_measures_105 : decode cX9_measures 105 = .ok (.getfield 31, 3) := by decide +kernel
theorem dX9_measures_108 : decode cX9_measures 108 = .ok (.bipush 17, 2) := by decide +kernel
theorem dX9_measures_110 : decode cX9_measures 110 = .ok (.iload 4, 2) := by decide +kernel
theorem dX9_measures_112 : decode cX9_measures 112 = .ok (.aload_n 0, 1) := by decide +kernel
theorem dX9_measures_113 : decode cX9_measures 113 = .ok (.iload 5, 2) := by decide +kernel
theorem dX9_measures_115 : decode cX9_measures 115 = .ok (.invokevirtual 73, 3) := by decide +kernel
theorem dX9_measures_118 : decode cX9_measures 118 = .ok (.iadd, 1) := by decide +kernel
theorem dX9_measures_119 : decode cX9_measures 119 = .ok (.iload_n 1, 1) := by decide +kernel
theorem dX9_measures_120 : decode cX9_measures 120 = .ok (.isub, 1) := by decide +kernel
theorem dX9_measures_121 : decode cX9_measures 121 = .ok (.imul, 1) := by decide +kernel
theorem dX9_measures_122 : decode cX9_measures 122 = .ok (.iload 5, 2) := by decide +kernel
theorem dX9_measures_124 : decode cX9_measures 124 = .ok (.iadd, 1) := by decide +kernel
theorem dX9_measures_125 : decode cX9_measures 125 = .ok (.iaload, 1) := by decide +kernel
theorem dX9_measures_126 : decode cX9_measures 126 = .ok (.iadd, 1) := by decide +kernel
theorem dX9_measures_127 : decode cX9_measures 127 = .ok (.istore 6, 2) := by decide +kernel
theorem dX9_measures_129 : decode cX9_measures 129 = .ok (.iconst 0, 1) := by decide +kernel
theorem dX9_measures_130 : decode cX9_measures 130 = .ok (.istore 7, 2) := by decide +kernel
theorem dX9_measures_132 : decode cX9_measures 132 = .ok (.iload 7, 2) := by decide +kernel
theorem dX9_measures_134 : decode cX9_measures 134 = .ok (.bipush 17, 2) := by decide +kernel
theorem dX9_measures_136 : decode cX9_measures 136 = .ok (.if_icmp .ge 59, 3) := by decide +kernel
theorem dX9_measures_139 : decode cX9_measures 139 = .ok (.bipush 17, 2) := by decide +kernel
theorem dX9_measures_141 : decode cX9_measures 141 = .ok (.iload 4, 2) := by decide +kernel
theorem dX9_measures_143 : decode cX9_measures 143 = .ok (.iload_n 1, 1) := by decide +kernel
theorem dX9_measures_144 : decode cX9_measures 144 = .ok (.isub, 1) := by decide +kernel
theorem dX9_measures_145 : decode cX9_measures 145 = .ok (.imul, 1) := by decide +kernel
theorem dX9_measures_146 : decode cX9_measures 146 = .ok (.iload 7, 2) := by decide +kernel
theorem dX9_measures_148 : decode cX9_measures 148 = .ok (.iadd, 1) := by decide +kernel
theorem dX9_measures_149 : decode cX9_measures 149 = .ok (.istore 8, 2) := by decide +kernel
theorem dX9_measures_151 : decode cX9_measures 151 = .ok (.aload_n 0, 1) := by decide +kernel
theorem dX9_measures_152 : decode cX9_measures 152 = .ok (.getfield 31, 3) := by decide +kernel
theorem dX9_measures_155 : decode cX9_measures 155 = .ok (.iload 8, 2) := by decide +kernel
theorem dX9_measures_157 : decode cX9_measures 157 = .ok (.iload 7, 2) := by decide +kernel
theorem dX9_measures_159 : decode cX9_measures 159 = .ok (.iload 5, 2) := by decide +kernel
theorem dX9_measures_161 : decode cX9_measures 161 = .ok (.if_icmp .eq 20, 3) := by decide +kernel
theorem dX9_measures_164 : decode cX9_measures 164 = .ok (.iload 6, 2) := by decide +kernel
theorem dX9_measures_166 : decode cX9_measures 166 = .ok (.aload_n 0, 1) := by decide +kernel
theorem dX9_measures_167 : decode cX9_measures 167 = .ok (.getfield 31, 3) := by decide +kernel
theorem dX9_measures_170 : decode cX9_measures 170 = .ok (.iload 8, 2) := by decide +kernel
theorem dX9_measures_172 : decode cX9_measures 172 = .ok (.iaload, 1) := by decide +kernel
theorem dX9_measures_173 : decode cX9_measures 173 = .ok (.if_icmp .ge 8, 3) := by decide +kernel
theorem dX9_measures_176 : decode cX9_measures 176 = .ok (.iload 6, 2) := by decide +kernel
theorem dX9_measures_178 : decode cX9_measures 178 = .ok (.goto 10, 3) := by decide +kernel
theorem dX9_measures_181 : decode cX9_measures 181 = .ok (.aload_n 0, 1) := by decide +kernel
theorem dX9_measures_182 : decode cX9_measures 182 = .ok (.getfield 31, 3) := by decide +kernel
theorem dX9_measures_185 : decode cX9_measures 185 = .ok (.iload 8, 2) := by decide +kernel
theorem dX9_measures_187 : decode cX9_measures 187 = .ok (.iaload, 1) := by decide +kernel
theorem dX9_measures_188 : decode cX9_measures 188 = .ok (.iastore, 1) := by decide +kernel
theorem dX9_measures_189 : decode cX9_measures 189 = .ok (.iinc 7 1, 3) := by decide +kernel
theorem dX9_measures_192 : decode cX9_measures 192 = .ok (.goto (-60), 3) := by decide +kernel
theorem dX9_measures_195 : decode cX9_measures 195 = .ok (.iinc 5 1, 3) := by decide +kernel
theorem dX9_measures_198 : decode cX9_measures 198 = .ok (.goto (-125), 3) := by decide +kernel
theorem dX9_measures_201 : decode cX9_measures 201 = .ok (.iinc 4 (-1), 3) := by decide +kernel
theorem dX9_measures_204 : decode cX9_measures 204 = .ok (.goto (-201), 3) := by decide +kernel
theorem dX9_measures_207 : decode cX9_measures 207 = .ok (.return_, 1) := by decide +kernel
theorem dX9_fill_0 : decode cX9_fill 0 = .ok (.iload_n 1, 1) := by decide +kernel
theorem dX9_fill_1 : decode cX9_fill 1 = .ok (.iconst 0, 1) := by decide +kernel
theorem dX9_fill_2 : decode cX9_fill 2 = .ok (.sipush 10079, 3) := by decide +kernel
theorem dX9_fill_5 : decode cX9_fill 5 = .ok (.invokestatic 41, 3) := by decide +kernel
theorem dX9_fill_8 : decode cX9_fill 8 = .ok (.ifCond .eq 35, 3) := by decide +kernel
theorem dX9_fill_11 : decode cX9_fill 11 = .ok (.iload_n 2, 1) := by decide +kernel
theorem dX9_fill_12 : decode cX9_fill 12 = .ok (.iload_n 1, 1) := by decide +kernel
theorem dX9_fill_13 : decode cX9_fill 13 = .ok (.iconst 1, 1) := by decide +kernel
theorem dX9_fill_14 : decode cX9_fill 14 = .ok (.iadd, 1) := by decide +kernel
theorem dX9_fill_15 : decode cX9_fill 15 = .ok (.iload_n 1, 1) := by decide +kernel
theorem dX9_fill_16 : decode cX9_fill 16 = .ok (.sipush 240, 3) := by decide +kernel
theorem dX9_fill_19 : decode cX9_fill 19 = .ok (.iadd, 1) := by decide +kernel
theorem dX9_fill_20 : decode cX9_fill 20 = .ok (.sipush 10080, 3) := by decide +kernel
theorem dX9_fill_23 : decode cX9_fill 23 = .ok (.if_icmp .ge 11, 3) := by decide +kernel
theorem dX9_fill_26 : decode cX9_fill 26 = .ok (.iload_n 1, 1) := by decide +kernel
theorem dX9_fill_27 : decode cX9_fill 27 = .ok (.sipush 240, 3) := by decide +kernel
theorem dX9_fill_30 : decode cX9_fill 30 = .ok (.iadd, 1) := by decide +kernel
theorem dX9_fill_31 : decode cX9_fill 31 = .ok (.goto 6, 3) := by decide +kernel
theorem dX9_fill_34 : decode cX9_fill 34 = .ok (.sipush 10080, 3) := by decide +kernel
theorem dX9_fill_37 : decode cX9_fill 37 = .ok (.invokestatic 41, 3) := by decide +kernel
theorem dX9_fill_40 : decode cX9_fill 40 = .ok (.ifCond .ne 5, 3) := by decide +kernel
theorem dX9_fill_43 : decode cX9_fill 43 = .ok (.iconst (-1), 1) := by decide +kernel
theorem dX9_fill_44 : decode cX9_fill 44 = .ok (.ireturn, 1) := by decide +kernel
theorem dX9_fill_45 : decode cX9_fill 45 = .ok (.aload_n 0, 1) := by decide +kernel
theorem dX9_fill_46 : decode cX9_fill 46 = .ok (.iload_n 1, 1) := by decide +kernel
theorem dX9_fill_47 : decode cX9_fill 47 = .ok (.iload_n 2, 1) := by decide +kernel
theorem dX9_fill_48 : decode cX9_fill 48 = .ok (.invokevirtual 76, 3) := by decide +kernel
theorem dX9_fill_51 : decode cX9_fill 51 = .ok (.ifCond .eq 6, 3) := by decide +kernel
theorem dX9_fill_54 : decode cX9_fill 54 = .ok (.bipush (-4), 2) := by decide +kernel
theorem dX9_fill_56 : decode cX9_fill 56 = .ok (.ireturn, 1) := by decide +kernel
theorem dX9_fill_57 : decode cX9_fill 57 = .ok (.bipush 16, 2) := by decide +kernel
theorem dX9_fill_59 : decode cX9_fill 59 = .ok (.istore_n 3, 1) := by decide +kernel
theorem dX9_fill_60 : decode cX9_fill 60 = .ok (.iconst (-1), 1) := by decide +kernel
theorem dX9_fill_61 : decode cX9_fill 61 = .ok (.istore 4, 2) := by decide +kernel
theorem dX9_fill_63 : decode cX9_fill 63 = .ok (.iconst 0, 1) := by decide +kernel
theorem dX9_fill_64 : decode cX9_fill 64 = .ok (.istore 5, 2) := by decide +kernel
theorem dX9_fill_66 : decode cX9_fill 66 = .ok (.iload 5, 2) := by decide +kernel
theorem dX9_fill_68 : decode cX9_fill 68 = .ok (.aload_n 0, 1) := by decide +kernel
theorem dX9_fill_69 : decode cX9_fill 69 = .ok (.getfield 7, 3) := by decide +kernel
theorem dX9_fill_72 : decode cX9_fill 72 = .ok (.iconst 3, 1) := by decide +kernel
theorem dX9_fill_73 : decode cX9_fill 73 = .ok (.iaload, 1) := by decide +kernel
theorem dX9_fill_74 : decode cX9_fill 74 = .ok (.if_icmp .ge 56, 3) := by decide +kernel
theorem dX9_fill_77 : decode cX9_fill 77 = .ok (.aload_n 0, 1) := by decide +kernel
theorem dX9_fill_78 : decode cX9_fill 78 = .ok (.iload 5, 2) := by decide +kernel
theorem dX9_fill_80 : decode cX9_fill 80 = .ok (.invokevirtual 70, 3) := by decide +kernel
theorem dX9_fill_83 : decode cX9_fill 83 = .ok (.iload_n 1, 1) := by decide +kernel
theorem dX9_fill_84 : decode cX9_fill 84 = .ok (.if_icmp .ne 13, 3) := by decide +kernel
theorem dX9_fill_87 : decode cX9_fill 87 = .ok (.aload_n 0, 1) := by decide +kernel
theorem dX9_fill_88 : decode cX9_fill 88 = .ok (.iload 5, 2) := by decide +kernel
theorem dX9_fill_90 : decode cX9_fill 90 = .ok (.iconst 0, 1) := by decide +kernel
theorem dX9_fill_91 : decode cX9_fill 91 = .ok (.invokevirtual 45, 3) := by decide +kernel
theorem dX9_fill_94 : decode cX9_fill 94 = .ok (.goto 4, 3) := by decide +kernel
theorem dX9_fill_97 : decode cX9_fill 97 = .ok (.iload_n 3, 1) := by decide +kernel
theorem dX9_fill_98 : decode cX9_fill 98 = .ok (.istore_n 3, 1) := by decide +kernel
theorem dX9_fill_99 : decode cX9_fill 99 = .ok (.aload_n 0, 1) := by decide +kernel
theorem dX9_fill_100 : decode cX9_fill 100 = .ok (.iload 5, 2) := by decide +kernel
theorem dX9_fill_102 : decode cX9_fill 102 = .ok (.iconst 1, 1) := by decide +kernel
theorem dX9_fill_103 : decode cX9_fill 103 = .ok (.invokevirtual 45, 3) := by decide +kernel
theorem dX9_fill_106 : decode cX9_fill 106 = .ok (.iload_n 2, 1) := by decide +kernel
theorem dX9_fill_107 : decode cX9_fill 107 = .ok (.if_icmp .ne 13, 3) := by decide +kernel
theorem dX9_fill_110 : decode cX9_fill 110 = .ok (.aload_n 0, 1) := by decide +kernel
theorem dX9_fill_111 : decode cX9_fill 111 = .ok (.iload 5, 2) := by decide +kernel
theorem dX9_fill_113 : decode cX9_fill 113 = .ok (.iconst 0, 1) := by decide +kernel
theorem dX9_fill_114 : decode cX9_fill 114 = .ok (.invokevirtual 45, 3) := by decide +kernel
theorem dX9_fill_117 : decode cX9_fill 117 = .ok (.goto 5, 3) := by decide +kernel
theorem dX9_fill_120 : decode cX9_fill 120 = .ok (.iload 4, 2) := by decide +kernel
theorem dX9_fill_122 : decode cX9_fill 122 = .ok (.istore 4, 2) := by decide +kernel
theorem dX9_fill_124 : decode cX9_fill 124 = .ok (.iinc 5 1, 3) := by decide +kernel
theorem dX9_fill_127 : decode cX9_fill 127 = .ok (.goto (-61), 3) := by decide +kernel
theorem dX9_fill_130 : decode cX9_fill 130 = .ok (.aload_n 0, 1) := by decide +kernel
theorem dX9_fill_131 : decode cX9_fill 131 = .ok (.iload_n 1, 1) := by decide +kernel
theorem dX9_fill_132 : decode cX9_fill 132 = .ok (.iload_n 2, 1) := by decide +kernel
theorem dX9_fill_133 : decode cX9_fill 133 = .ok (.iload 4, 2) := by decide +kernel
theorem dX9_fill_135 : decode cX9_fill 135 = .ok (.invokevirtual 114, 3) := by decide +kernel
theorem dX9_fill_138 : decode cX9_fill 138 = .ok (.aload_n 0, 1) := by decide +kernel
theorem dX9_fill_139 : decode cX9_fill 139 = .ok (.getfield 31, 3) := by decide +kernel
theorem dX9_fill_142 : decode cX9_fill 142 = .ok (.iload_n 3, 1) := by decide +kernel
theorem dX9_fill_143 : decode cX9_fill 143 = .ok (.iaload, 1) := by decide +kernel
theorem dX9_fill_144 : decode cX9_fill 144 = .ok (.istore 5, 2) := by decide +kernel
theorem dX9_fill_146 : decode cX9_fill 146 = .ok (.iload 5, 2) := by decide +kernel
theorem dX9_fill_148 : decode cX9_fill 148 = .ok (.sipush 999, 3) := by decide +kernel
theorem dX9_fill_151 : decode cX9_fill 151 = .ok (.if_icmp .lt 6, 3) := by decide +kernel
theorem dX9_fill_154 : decode cX9_fill 154 = .ok (.bipush (-9), 2) := by decide +kernel
theorem dX9_fill_156 : decode cX9_fill 156 = .ok (.ireturn, 1) := by decide +kernel
theorem dX9_fill_157 : decode cX9_fill 157 = .ok (.aload_n 0, 1) := by decide +kernel
theorem dX9_fill_158 : decode cX9_fill 158 = .ok (.getfield 7, 3) := by decide +kernel
theorem dX9_fill_161 : decode cX9_fill 161 = .ok (.iconst 3, 1) := by decide +kernel
theorem dX9_fill_162 : decode cX9_fill 162 = .ok (.iaload, 1) := by decide +kernel
theorem dX9_fill_163 : decode cX9_fill 163 = .ok (.iload 5, 2) := by decide +kernel
theorem dX9_fill_165 : decode cX9_fill 165 = .ok (.iadd, 1) := by decide +kernel
theorem dX9_fill_166 : decode cX9_fill 166 = .ok (.bipush 60, 2) := by decide +kernel
theorem dX9_fill_168 : decode cX9_fill 168 = .ok (.if_icmp .le 6, 3) := by decide +kernel
theorem dX9_fill_171 : decode cX9_fill 171 = .ok (.bipush (-3), 2) := by decide +kernel
theorem dX9_fill_173 : decode cX9_fill 173 = .ok (.ireturn, 1) := by decide +kernel
theorem dX9_fill_174 : decode cX9_fill 174 = .ok (.aload_n 0, 1) := by decide +kernel
theorem dX9_fill_175 : decode cX9_fill 175 = .ok (.invokevirtual 49, 3) := by decide +kernel
theorem dX9_fill_178 : decode cX9_fill 178 = .ok (.iload_n 1, 1) := by decide +kernel
theorem dX9_fill_179 : decode cX9_fill 179 = .ok (.istore 6, 2) := by decide +kernel
theorem dX9_fill_181 : decode cX9_fill 181 = .ok (.iload_n 3, 1) := by decide +kernel
theorem dX9_fill_182 : decode cX9_fill 182 = .ok (.istore 7, 2) := by decide +kernel
theorem dX9_fill_184 : decode cX9_fill 184 = .ok (.iload 6, 2) := by decide +kernel
theorem dX9_fill_186 : decode cX9_fill 186 = .ok (.iload_n 2, 1) := by decide +kernel
theorem dX9_fill_187 : decode cX9_fill 187 = .ok (.if_icmp .ge 103, 3) := by decide +kernel
theorem dX9_fill_190 : decode cX9_fill 190 = .ok (.iconst 0, 1) := by decide +kernel
theorem dX9_fill_191 : decode cX9_fill 191 = .ok (.istore 8, 2) := by decide +kernel
theorem dX9_fill_193 : decode cX9_fill 193 = .ok (.aload_n 0, 1) := by decide +kernel
theorem dX9_fill_194 : decode cX9_fill 194 = .ok (.iload 8, 2) := by decide +kernel
theorem dX9_fill_196 : decode cX9_fill 196 = .ok (.iload 7, 2) := by decide +kernel
theorem dX9_fill_198 : decode cX9_fill 198 = .ok (.iload 6, 2) := by decide +kernel
theorem dX9_fill_200 : decode cX9_fill 200 = .ok (.iload_n 2, 1) := by decide +kernel
theorem dX9_fill_201 : decode cX9_fill 201 = .ok (.invokevirtual 110, 3) := by decide +kernel
theorem dX9_fill_204 : decode cX9_fill 204 = .ok (.ifCond .eq 45, 3) := by decide +kernel
theorem dX9_fill_207 : decode cX9_fill 207 = .ok (.iconst 1, 1) := by decide +kernel
theorem dX9_fill_208 : decode cX9_fill 208 = .ok (.aload_n 0, 1) := by decide +kernel
theorem dX9_fill_209 : decode cX9_fill 209 = .ok (.getfield 31, 3) := by decide +kernel
theorem dX9_fill_212 : decode cX9_fill 212 = .ok (.bipush 17, 2) := by decide +kernel
theorem dX9_fill_214 : decode cX9_fill 214 = .ok (.iload 6, 2) := by decide +kernel
theorem dX9_fill_216 : decode cX9_fill 216 = .ok (.aload_n 0, 1) := by decide +kernel
theorem dX9_fill_217 : decode cX9_fill 217 = .ok (.iload 8, 2) := by decide +kernel
theorem dX9_fill_219 : decode cX9_fill 219 = .ok (.invokevirtual 73, 3) := by decide +kernel
theorem dX9_fill_222 : decode cX9_fill 222 = .ok (.iadd, 1) := by decide +kernel
theorem dX9_fill_223 : decode cX9_fill 223 = .ok (.iload_n 1, 1) := by decide +kernel
theorem dX9_fill_224 : decode cX9_fill 224 = .ok (.isub, 1) := by decide +kernel
theorem dX9_fill_225 : decode cX9_fill 225 = .ok (.imul, 1) := by decide +kernel
theorem dX9_fill_226 : decode cX9_fill 226 = .ok (.iload 8, 2) := by decide +kernel
theorem dX9_fill_228 : decode cX9_fill 228 = .ok (.iadd, 1) := by decide +kernel
theorem dX9_fill_229 : decode cX9_fill 229 = .ok (.iaload, 1) := by decide +kernel
theorem dX9_fill_230 : decode cX9_fill 230 = .ok (.iadd, 1) := by decide +kernel
theorem dX9_fill_231 : decode cX9_fill 231 = .ok (.aload_n 0, 1) := by decide +kernel
theorem dX9_fill_232 : decode cX9_fill 232 = .ok (.getfield 31, 3) := by decide +kernel
theorem dX9_fill_235 : decode cX9_fill 235 = .ok (.bipush 17, 2) := by decide +kernel
theorem dX9_fill_237 : decode cX9_fill 237 = .ok (.iload 6, 2) := by decide +kernel
theorem dX9_fill_239 : decode cX9_fill 239 = .ok (.iload_n 1, 1) := by decide +kernel
theorem dX9_fill_240 : decode cX9_fill 240 = .ok (.isub, 1) := by decide +kernel
theorem dX9_fill_241 : decode cX9_fill 241 = .ok (.imul, 1) := by decide +kernel
theorem dX9_fill_242 : decode cX9_fill 242 = .ok (.iload 7, 2) := by decide +kernel
theorem dX9_fill_244 : decode cX9_fill 244 = .ok (.iadd, 1) := by decide +kernel
theorem dX9_fill_245 : decode cX9_fill 245 = .ok (.iaload, 1) := by decide +kernel
theorem dX9_fill_246 : decode cX9_fill 246 = .ok (.if_icmp .eq 9, 3) := by decide +kernel
theorem dX9_fill_249 : decode cX9_fill 249 = .ok (.iinc 8 1, 3) := by decide +kernel
theorem dX9_fill_252 : decode cX9_fill 252 = .ok (.goto (-59), 3) := by decide +kernel
theorem dX9_fill_255 : decode cX9_fill 255 = .ok (.aload_n 0, 1) := by decide +kernel
theorem dX9_fill_256 : decode cX9_fill 256 = .ok (.iload 8, 2) := by decide +kernel
theorem dX9_fill_258 : decode cX9_fill 258 = .ok (.iload 6, 2) := by decide +kernel
theorem dX9_fill_260 : decode cX9_fill 260 = .ok (.aload_n 0, 1) := by decide +kernel
theorem dX9_fill_261 : decode cX9_fill 261 = .ok (.iload 8, 2) := by decide +kernel
theorem dX9_fill_263 : decode cX9_fill 263 = .ok (.invokevirtual 73, 3) := by decide +kernel
theorem dX9_fill_266 : decode cX9_fill 266 = .ok (.iconst 0, 1) := by decide +kernel
theorem dX9_fill_267 : decode cX9_fill 267 = .ok (.invokevirtual 96, 3) := by decide +kernel
theorem dX9_fill_270 : decode cX9_fill 270 = .ok (.istore 9, 2) := by decide +kernel
theorem dX9_fill_272 : decode cX9_fill 272 = .ok (.iload 6, 2) := by decide +kernel
theorem dX9_fill_274 : decode cX9_fill 274 = .ok (.aload_n 0, 1) := by decide +kernel
theorem dX9_fill_275 : decode cX9_fill 275 = .ok (.iload 8, 2) := by decide +kernel
theorem dX9_fill_277 : decode cX9_fill 277 = .ok (.invokevirtual 73, 3) := by decide +kernel
theorem dX9_fill_280 : decode cX9_fill 280 = .ok (.iadd, 1) := by decide +kernel
theorem dX9_fill_281 : decode cX9_fill 281 = .ok (.istore 6, 2) := by decide +kernel
theorem dX9_fill_283 : decode cX9_fill 283 = .ok (.iload 8, 2) := by decide +kernel
theorem dX9_fill_285 : decode cX9_fill 285 = .ok (.istore 7, 2) := by decide +kernel
theorem dX9_fill_287 : decode cX9_fill 287 = .ok (.goto (-103), 3) := by decide +kernel
theorem dX9_fill_290 : decode cX9_fill 290 = .ok (.iload 5, 2) := by decide +kernel
theorem dX9_fill_292 : decode cX9_fill 292 = .ok (.ireturn, 1) := by decide +kernel
theorem dX9_mayPush_0 : decode cX9_mayPush 0 = .ok (.aload_n 0, 1) := by decide +kernel
theorem dX9_mayPush_1 : decode cX9_mayPush 1 = .ok (.iload_n 1, 1) := by decide +kernel
theorem dX9_mayPush_2 : decode cX9_mayPush 2 = .ok (.iconst 0, 1) := by decide +kernel
theorem dX9_mayPush_3 : decode cX9_mayPush 3 = .ok (.invokevirtual 45, 3) := by decide +kernel
theorem dX9_mayPush_6 : decode cX9_mayPush 6 = .ok (.istore_n 3, 1) := by decide +kernel
theorem dX9_mayPush_7 : decode cX9_mayPush 7 = .ok (.aload_n 0, 1) := by decide +kernel
theorem dX9_mayPush_8 : decode cX9_mayPush 8 = .ok (.iload_n 1, 1) := by decide +kernel
theorem dX9_mayPush_9 : decode cX9_mayPush 9 = .ok (.iconst 2, 1) := by decide +kernel
theorem dX9_mayPush_10 : decode cX9_mayPush 10 = .ok (.invokevirtual 45, 3) := by decide +kernel
theorem dX9_mayPush_13 : decode cX9_mayPush 13 = .ok (.istore 4, 2) := by decide +kernel
theorem dX9_mayPush_15 : decode cX9_mayPush 15 = .ok (.iload_n 2, 1) := by decide +kernel
theorem dX9_mayPush_16 : decode cX9_mayPush 16 = .ok (.iload 4, 2) := by decide +kernel
theorem dX9_mayPush_18 : decode cX9_mayPush 18 = .ok (.iadd, 1) := by decide +kernel
theorem dX9_mayPush_19 : decode cX9_mayPush 19 = .ok (.sipush 10080, 3) := by decide +kernel
theorem dX9_mayPush_22 : decode cX9_mayPush 22 = .ok (.if_icmp .gt 16, 3) := by decide +kernel
theorem dX9_mayPush_25 : decode cX9_mayPush 25 = .ok (.aload_n 0, 1) := by decide +kernel
theorem dX9_mayPush_26 : decode cX9_mayPush 26 = .ok (.iload_n 3, 1) := by decide +kernel
theorem dX9_mayPush_27 : decode cX9_mayPush 27 = .ok (.iload_n 2, 1) := by decide +kernel
theorem dX9_mayPush_28 : decode cX9_mayPush 28 = .ok (.iload_n 2, 1) := by decide +kernel
theorem dX9_mayPush_29 : decode cX9_mayPush 29 = .ok (.iload 4, 2) := by decide +kernel
theorem dX9_mayPush_31 : decode cX9_mayPush 31 = .ok (.iadd, 1) := by decide +kernel
theorem dX9_mayPush_32 : decode cX9_mayPush 32 = .ok (.invokevirtual 90, 3) := by decide +kernel
theorem dX9_mayPush_35 : decode cX9_mayPush 35 = .ok (.ifCond .eq 5, 3) := by decide +kernel
theorem dX9_mayPush_38 : decode cX9_mayPush 38 = .ok (.iconst 0, 1) := by decide +kernel
theorem dX9_mayPush_39 : decode cX9_mayPush 39 = .ok (.ireturn, 1) := by decide +kernel
theorem dX9_mayPush_40 : decode cX9_mayPush 40 = .ok (.aload_n 0, 1) := by decide +kernel
theorem dX9_mayPush_41 : decode cX9_mayPush 41 = .ok (.iconst 0, 1) := by decide +kernel
theorem dX9_mayPush_42 : decode cX9_mayPush 42 = .ok (.putfield 56, 3) := by decide +kernel
theorem dX9_mayPush_45 : decode cX9_mayPush 45 = .ok (.iload_n 1, 1) := by decide +kernel
theorem dX9_mayPush_46 : decode cX9_mayPush 46 = .ok (.iconst 1, 1) := by decide +kernel
theorem dX9_mayPush_47 : decode cX9_mayPush 47 = .ok (.iadd, 1) := by decide +kernel
theorem dX9_mayPush_48 : decode cX9_mayPush 48 = .ok (.istore 5, 2) := by decide +kernel
theorem dX9_mayPush_50 : decode cX9_mayPush 50 = .ok (.iload 5, 2) := by decide +kernel
theorem dX9_mayPush_52 : decode cX9_mayPush 52 = .ok (.aload_n 0, 1) := by decide +kernel
theorem dX9_mayPush_53 : decode cX9_mayPush 53 = .ok (.getfield 7, 3) := by decide +kernel
theorem dX9_mayPush_56 : decode cX9_mayPush 56 = .ok (.iconst 3, 1) := by decide +kernel
theorem dX9_mayPush_57 : decode cX9_mayPush 57 = .ok (.iaload, 1) := by decide +kernel
theorem dX9_mayPush_58 : decode cX9_mayPush 58 = .ok (.if_icmp .ge 34, 3) := by decide +kernel
theorem dX9_mayPush_61 : decode cX9_mayPush 61 = .ok (.aload_n 0, 1) := by decide +kernel
theorem dX9_mayPush_62 : decode cX9_mayPush 62 = .ok (.aload_n 0, 1) := by decide +kernel
theorem dX9_mayPush_63 : decode cX9_mayPush 63 = .ok (.iload 5, 2) := by decide +kernel
theorem dX9_mayPush_65 : decode cX9_mayPush 65 = .ok (.iconst 0, 1) := by decide +kernel
theorem dX9_mayPush_66 : decode cX9_mayPush 66 = .ok (.invokevirtual 45, 3) := by decide +kernel
theorem dX9_mayPush_69 : decode cX9_mayPush 69 = .ok (.aload_n 0, 1) := by decide +kernel
theorem dX9_mayPush_70 : decode cX9_mayPush 70 = .ok (.iload 5, 2) := by decide +kernel
theorem dX9_mayPush_72 : decode cX9_mayPush 72 = .ok (.iconst 1, 1) := by decide +kernel
theorem dX9_mayPush_73 : decode cX9_mayPush 73 = .ok (.invokevirtual 45, 3) := by decide +kernel
theorem dX9_mayPush_76 : decode cX9_mayPush 76 = .ok (.aload_n 0, 1) := by decide +kernel
theorem dX9_mayPush_77 : decode cX9_mayPush 77 = .ok (.iload 5, 2) := by decide +kernel
theorem dX9_mayPush_79 : decode cX9_mayPush 79 = .ok (.iconst 2, 1) := by decide +kernel
theorem dX9_mayPush_80 : decode cX9_mayPush 80 = .ok (.invokevirtual 45, 3) := by decide +kernel
theorem dX9_mayPush_83 : decode cX9_mayPush 83 = .ok (.invokevirtual 83, 3) := by decide +kernel
theorem dX9_mayPush_86 : decode cX9_mayPush 86 = .ok (.iinc 5 1, 3) := by decide +kernel
theorem dX9_mayPush_89 : decode cX9_mayPush 89 = .ok (.goto (-39), 3) := by decide +kernel
theorem dX9_mayPush_92 : decode cX9_mayPush 92 = .ok (.iconst 0, 1) := by decide +kernel
theorem dX9_mayPush_93 : decode cX9_mayPush 93 = .ok (.istore 5, 2) := by decide +kernel
theorem dX9_mayPush_95 : decode cX9_mayPush 95 = .ok (.iload 5, 2) := by decide +kernel
theorem dX9_mayPush_97 : decode cX9_mayPush 97 = .ok (.iload_n 1, 1) := by decide +kernel
theorem dX9_mayPush_98 : decode cX9_mayPush 98 = .ok (.if_icmp .ge 34, 3) := by decide +kernel
theorem dX9_mayPush_101 : decode cX9_mayPush 101 = .ok (.aload_n 0, 1) := by decide +kernel
theorem dX9_mayPush_102 : decode cX9_mayPush 102 = .ok (.aload_n 0, 1) := by decide +kernel
theorem dX9_mayPush_103 : decode cX9_mayPush 103 = .ok (.iload 5, 2) := by decide +kernel
theorem dX9_mayPush_105 : decode cX9_mayPush 105 = .ok (.iconst 0, 1) := by decide +kernel
theorem dX9_mayPush_106 : decode cX9_mayPush 106 = .ok (.invokevirtual 45, 3) := by decide +kernel
theorem dX9_mayPush_109 : decode cX9_mayPush 109 = .ok (.aload_n 0, 1) := by decide +kernel
theorem dX9_mayPush_110 : decode cX9_mayPush 110 = .ok (.iload 5, 2) := by decide +kernel
