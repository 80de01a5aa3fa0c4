theorem dX8_makeGood_2 : decode cX8_makeGood 2 = .ok (.invokevirtual 66, 3) := by decide +kernel
theorem dX8_makeGood_5 : decode cX8_makeGood 5 = .ok (.ifCond .eq 10, 3) := by decide +kernel
theorem dX8_makeGood_8 : decode cX8_makeGood 8 = .ok (.iload_n 2, 1) := by decide +kernel
theorem dX8_makeGood_9 : decode cX8_makeGood 9 = .ok (.invokestatic 113, 3) := by decide +kernel
theorem dX8_makeGood_12 : decode cX8_makeGood 12 = .ok (.ifCond .ne 5, 3) := by decide +kernel
theorem dX8_makeGood_15 : decode cX8_makeGood 15 = .ok (.iconst (-1), 1) := by decide +kernel
theorem dX8_makeGood_16 : decode cX8_makeGood 16 = .ok (.ireturn, 1) := by decide +kernel
theorem dX8_makeGood_17 : decode cX8_makeGood 17 = .ok (.aload_n 0, 1) := by decide +kernel
theorem dX8_makeGood_18 : decode cX8_makeGood 18 = .ok (.getfield 12, 3) := by decide +kernel
theorem dX8_makeGood_21 : decode cX8_makeGood 21 = .ok (.getfield 48, 3) := by decide +kernel
theorem dX8_makeGood_24 : decode cX8_makeGood 24 = .ok (.getfield 144, 3) := by decide +kernel
theorem dX8_makeGood_27 : decode cX8_makeGood 27 = .ok (.iload_n 1, 1) := by decide +kernel
theorem dX8_makeGood_28 : decode cX8_makeGood 28 = .ok (.iaload, 1) := by decide +kernel
theorem dX8_makeGood_29 : decode cX8_makeGood 29 = .ok (.ifCond .gt 6, 3) := by decide +kernel
theorem dX8_makeGood_32 : decode cX8_makeGood 32 = .ok (.bipush (-2), 2) := by decide +kernel
theorem dX8_makeGood_34 : decode cX8_makeGood 34 = .ok (.ireturn, 1) := by decide +kernel
theorem dX8_makeGood_35 : decode cX8_makeGood 35 = .ok (.aload_n 0, 1) := by decide +kernel
theorem dX8_makeGood_36 : decode cX8_makeGood 36 = .ok (.iload_n 1, 1) := by decide +kernel
theorem dX8_makeGood_37 : decode cX8_makeGood 37 = .ok (.iload_n 2, 1) := by decide +kernel
theorem dX8_makeGood_38 : decode cX8_makeGood 38 = .ok (.invokevirtual 116, 3) := by decide +kernel
theorem dX8_makeGood_41 : decode cX8_makeGood 41 = .ok (.istore_n 3, 1) := by decide +kernel
theorem dX8_makeGood_42 : decode cX8_makeGood 42 = .ok (.iload_n 3, 1) := by decide +kernel
theorem dX8_makeGood_43 : decode cX8_makeGood 43 = .ok (.bipush (-9), 2) := by decide +kernel
theorem dX8_makeGood_45 : decode cX8_makeGood 45 = .ok (.if_icmp .ne 6, 3) := by decide +kernel
theorem dX8_makeGood_48 : decode cX8_makeGood 48 = .ok (.bipush (-9), 2) := by decide +kernel
theorem dX8_makeGood_50 : decode cX8_makeGood 50 = .ok (.ireturn, 1) := by decide +kernel
theorem dX8_makeGood_51 : decode cX8_makeGood 51 = .ok (.aload_n 0, 1) := by decide +kernel
theorem dX8_makeGood_52 : decode cX8_makeGood 52 = .ok (.getfield 19, 3) := by decide +kernel
theorem dX8_makeGood_55 : decode cX8_makeGood 55 = .ok (.aload_n 0, 1) := by decide +kernel
theorem dX8_makeGood_56 : decode cX8_makeGood 56 = .ok (.getfield 12, 3) := by decide +kernel
theorem dX8_makeGood_59 : decode cX8_makeGood 59 = .ok (.invokevirtual 58, 3) := by decide +kernel
theorem dX8_makeGood_62 : decode cX8_makeGood 62 = .ok (.aload_n 0, 1) := by decide +kernel
theorem dX8_makeGood_63 : decode cX8_makeGood 63 = .ok (.iload_n 1, 1) := by decide +kernel
theorem dX8_makeGood_64 : decode cX8_makeGood 64 = .ok (.iload_n 3, 1) := by decide +kernel
theorem dX8_makeGood_65 : decode cX8_makeGood 65 = .ok (.iconst 0, 1) := by decide +kernel
theorem dX8_makeGood_66 : decode cX8_makeGood 66 = .ok (.invokevirtual 95, 3) := by decide +kernel
theorem dX8_makeGood_69 : decode cX8_makeGood 69 = .ok (.pop, 1) := by decide +kernel
theorem dX8_makeGood_70 : decode cX8_makeGood 70 = .ok (.aload_n 0, 1) := by decide +kernel
theorem dX8_makeGood_71 : decode cX8_makeGood 71 = .ok (.getfield 12, 3) := by decide +kernel
theorem dX8_makeGood_74 : decode cX8_makeGood 74 = .ok (.getfield 48, 3) := by decide +kernel
theorem dX8_makeGood_77 : decode cX8_makeGood 77 = .ok (.getfield 144, 3) := by decide +kernel
theorem dX8_makeGood_80 : decode cX8_makeGood 80 = .ok (.iload_n 1, 1) := by decide +kernel
theorem dX8_makeGood_81 : decode cX8_makeGood 81 = .ok (.dup2, 1) := by decide +kernel
theorem dX8_makeGood_82 : decode cX8_makeGood 82 = .ok (.iaload, 1) := by decide +kernel
theorem dX8_makeGood_83 : decode cX8_makeGood 83 = .ok (.iconst 1, 1) := by decide +kernel
theorem dX8_makeGood_84 : decode cX8_makeGood 84 = .ok (.isub, 1) := by decide +kernel
theorem dX8_makeGood_85 : decode cX8_makeGood 85 = .ok (.iastore, 1) := by decide +kernel
theorem dX8_makeGood_86 : decode cX8_makeGood 86 = .ok (.iload_n 3, 1) := by decide +kernel
theorem dX8_makeGood_87 : decode cX8_makeGood 87 = .ok (.ireturn, 1) := by decide +kernel
theorem dX8_items_0 : decode cX8_items 0 = .ok (.aload_n 0, 1) := by decide +kernel
theorem dX8_items_1 : decode cX8_items 1 = .ok (.getfield 12, 3) := by decide +kernel
theorem dX8_items_4 : decode cX8_items 4 = .ok (.getfield 102, 3) := by decide +kernel
theorem dX8_items_7 : decode cX8_items 7 = .ok (.getfield 112, 3) := by decide +kernel
theorem dX8_items_10 : decode cX8_items 10 = .ok (.ireturn, 1) := by decide +kernel
theorem dX8_item_0 : decode cX8_item 0 = .ok (.aload_n 0, 1) := by decide +kernel
theorem dX8_item_1 : decode cX8_item 1 = .ok (.iload_n 1, 1) := by decide +kernel
theorem dX8_item_2 : decode cX8_item 2 = .ok (.invokevirtual 99, 3) := by decide +kernel
theorem dX8_item_5 : decode cX8_item 5 = .ok (.ifCond .ne 5, 3) := by decide +kernel
theorem dX8_item_8 : decode cX8_item 8 = .ok (.iconst (-1), 1) := by decide +kernel
theorem dX8_item_9 : decode cX8_item 9 = .ok (.ireturn, 1) := by decide +kernel
theorem dX8_item_10 : decode cX8_item 10 = .ok (.iload_n 2, 1) := by decide +kernel
theorem dX8_item_11 : decode cX8_item 11 = .ok (.tableswitch 99 0 4 #[33, 46, 59, 72, 85], 33) := by decide +kernel
theorem dX8_item_44 : decode cX8_item 44 = .ok (.aload_n 0, 1) := by decide +kernel
theorem dX8_item_45 : decode cX8_item 45 = .ok (.getfield 12, 3) := by decide +kernel
theorem dX8_item_48 : decode cX8_item 48 = .ok (.getfield 102, 3) := by decide +kernel
theorem dX8_item_51 : decode cX8_item 51 = .ok (.getfield 147, 3) := by decide +kernel
theorem dX8_item_54 : decode cX8_item 54 = .ok (.iload_n 1, 1) := by decide +kernel
theorem dX8_item_55 : decode cX8_item 55 = .ok (.iaload, 1) := by decide +kernel
theorem dX8_item_56 : decode cX8_item 56 = .ok (.ireturn, 1) := by decide +kernel
theorem dX8_item_57 : decode cX8_item 57 = .ok (.aload_n 0, 1) := by decide +kernel
theorem dX8_item_58 : decode cX8_item 58 = .ok (.getfield 12, 3) := by decide +kernel
theorem dX8_item_61 : decode cX8_item 61 = .ok (.getfield 102, 3) := by decide +kernel
theorem dX8_item_64 : decode cX8_item 64 = .ok (.getfield 150, 3) := by decide +kernel
theorem dX8_item_67 : decode cX8_item 67 = .ok (.iload_n 1, 1) := by decide +kernel
theorem dX8_item_68 : decode cX8_item 68 = .ok (.iaload, 1) := by decide +kernel
theorem dX8_item_69 : decode cX8_item 69 = .ok (.ireturn, 1) := by decide +kernel
theorem dX8_item_70 : decode cX8_item 70 = .ok (.aload_n 0, 1) := by decide +kernel
theorem dX8_item_71 : decode cX8_item 71 = .ok (.getfield 12, 3) := by decide +kernel
theorem dX8_item_74 : decode cX8_item 74 = .ok (.getfield 102, 3) := by decide +kernel
theorem dX8_item_77 : decode cX8_item 77 = .ok (.getfield 140, 3) := by decide +kernel
theorem dX8_item_80 : decode cX8_item 80 = .ok (.iload_n 1, 1) := by decide +kernel
theorem dX8_item_81 : decode cX8_item 81 = .ok (.iaload, 1) := by decide +kernel
theorem dX8_item_82 : decode cX8_item 82 = .ok (.ireturn, 1) := by decide +kernel
theorem dX8_item_83 : decode cX8_item 83 = .ok (.aload_n 0, 1) := by decide +kernel
theorem dX8_item_84 : decode cX8_item 84 = .ok (.getfield 12, 3) := by decide +kernel
theorem dX8_item_87 : decode cX8_item 87 = .ok (.getfield 102, 3) := by decide +kernel
theorem dX8_item_90 : decode cX8_item 90 = .ok (.getfield 153, 3) := by decide +kernel
theorem dX8_item_93 : decode cX8_item 93 = .ok (.iload_n 1, 1) := by decide +kernel
theorem dX8_item_94 : decode cX8_item 94 = .ok (.iaload, 1) := by decide +kernel
theorem dX8_item_95 : decode cX8_item 95 = .ok (.ireturn, 1) := by decide +kernel
theorem dX8_item_96 : decode cX8_item 96 = .ok (.aload_n 0, 1) := by decide +kernel
theorem dX8_item_97 : decode cX8_item 97 = .ok (.invokevirtual 156, 3) := by decide +kernel
theorem dX8_item_100 : decode cX8_item 100 = .ok (.aload_n 0, 1) := by decide +kernel
theorem dX8_item_101 : decode cX8_item 101 = .ok (.getfield 26, 3) := by decide +kernel
theorem dX8_item_104 : decode cX8_item 104 = .ok (.getfield 159, 3) := by decide +kernel
theorem dX8_item_107 : decode cX8_item 107 = .ok (.iload_n 1, 1) := by decide +kernel
theorem dX8_item_108 : decode cX8_item 108 = .ok (.iaload, 1) := by decide +kernel
theorem dX8_item_109 : decode cX8_item 109 = .ok (.ireturn, 1) := by decide +kernel
theorem dX8_item_110 : decode cX8_item 110 = .ok (.iconst (-1), 1) := by decide +kernel
theorem dX8_item_111 : decode cX8_item 111 = .ok (.ireturn, 1) := by decide +kernel
theorem dX8_onAir_0 : decode cX8_onAir 0 = .ok (.iload_n 1, 1) := by decide +kernel
theorem dX8_onAir_1 : decode cX8_onAir 1 = .ok (.invokestatic 113, 3) := by decide +kernel
theorem dX8_onAir_4 : decode cX8_onAir 4 = .ok (.ifCond .ne 5, 3) := by decide +kernel
theorem dX8_onAir_7 : decode cX8_onAir 7 = .ok (.iconst (-1), 1) := by decide +kernel
theorem dX8_onAir_8 : decode cX8_onAir 8 = .ok (.ireturn, 1) := by decide +kernel
theorem dX8_onAir_9 : decode cX8_onAir 9 = .ok (.aload_n 0, 1) := by decide +kernel
theorem dX8_onAir_10 : decode cX8_onAir 10 = .ok (.getfield 12, 3) := by decide +kernel
theorem dX8_onAir_13 : decode cX8_onAir 13 = .ok (.getfield 102, 3) := by decide +kernel
theorem dX8_onAir_16 : decode cX8_onAir 16 = .ok (.iload_n 1, 1) := by decide +kernel
theorem dX8_onAir_17 : decode cX8_onAir 17 = .ok (.iload_n 1, 1) := by decide +kernel
theorem dX8_onAir_18 : decode cX8_onAir 18 = .ok (.iconst 1, 1) := by decide +kernel
theorem dX8_onAir_19 : decode cX8_onAir 19 = .ok (.iadd, 1) := by decide +kernel
theorem dX8_onAir_20 : decode cX8_onAir 20 = .ok (.invokevirtual 119, 3) := by decide +kernel
theorem dX8_onAir_23 : decode cX8_onAir 23 = .ok (.ireturn, 1) := by decide +kernel
theorem dX8_left_0 : decode cX8_left 0 = .ok (.iload_n 1, 1) := by decide +kernel
theorem dX8_left_1 : decode cX8_left 1 = .ok (.iconst 0, 1) := by decide +kernel
theorem dX8_left_2 : decode cX8_left 2 = .ok (.aload_n 0, 1) := by decide +kernel
theorem dX8_left_3 : decode cX8_left 3 = .ok (.getfield 12, 3) := by decide +kernel
theorem dX8_left_6 : decode cX8_left 6 = .ok (.getfield 73, 3) := by decide +kernel
theorem dX8_left_9 : decode cX8_left 9 = .ok (.getfield 77, 3) := by decide +kernel
theorem dX8_left_12 : decode cX8_left 12 = .ok (.iconst 1, 1) := by decide +kernel
theorem dX8_left_13 : decode cX8_left 13 = .ok (.isub, 1) := by decide +kernel
theorem dX8_left_14 : decode cX8_left 14 = .ok (.invokestatic 44, 3) := by decide +kernel
theorem dX8_left_17 : decode cX8_left 17 = .ok (.ifCond .ne 5, 3) := by decide +kernel
theorem dX8_left_20 : decode cX8_left 20 = .ok (.iconst (-1), 1) := by decide +kernel
theorem dX8_left_21 : decode cX8_left 21 = .ok (.ireturn, 1) := by decide +kernel
theorem dX8_left_22 : decode cX8_left 22 = .ok (.aload_n 0, 1) := by decide +kernel
theorem dX8_left_23 : decode cX8_left 23 = .ok (.invokevirtual 156, 3) := by decide +kernel
theorem dX8_left_26 : decode cX8_left 26 = .ok (.aload_n 0, 1) := by decide +kernel
theorem dX8_left_27 : decode cX8_left 27 = .ok (.getfield 26, 3) := by decide +kernel
theorem dX8_left_30 : decode cX8_left 30 = .ok (.getfield 162, 3) := by decide +kernel
theorem dX8_left_33 : decode cX8_left 33 = .ok (.iload_n 1, 1) := by decide +kernel
theorem dX8_left_34 : decode cX8_left 34 = .ok (.iaload, 1) := by decide +kernel
theorem dX8_left_35 : decode cX8_left 35 = .ok (.ireturn, 1) := by decide +kernel
theorem dX8_mayPlace_0 : decode cX8_mayPlace 0 = .ok (.aload_n 0, 1) := by decide +kernel
theorem dX8_mayPlace_1 : decode cX8_mayPlace 1 = .ok (.iload_n 1, 1) := by decide +kernel
theorem dX8_mayPlace_2 : decode cX8_mayPlace 2 = .ok (.invokevirtual 66, 3) := by decide +kernel
theorem dX8_mayPlace_5 : decode cX8_mayPlace 5 = .ok (.ifCond .eq 10, 3) := by decide +kernel
theorem dX8_mayPlace_8 : decode cX8_mayPlace 8 = .ok (.iload_n 2, 1) := by decide +kernel
theorem dX8_mayPlace_9 : decode cX8_mayPlace 9 = .ok (.invokestatic 113, 3) := by decide +kernel
theorem dX8_mayPlace_12 : decode cX8_mayPlace 12 = .ok (.ifCond .ne 5, 3) := by decide +kernel
theorem dX8_mayPlace_15 : decode cX8_mayPlace 15 = .ok (.iconst (-1), 1) := by decide +kernel
theorem dX8_mayPlace_16 : decode cX8_mayPlace 16 = .ok (.ireturn, 1) := by decide +kernel
theorem dX8_mayPlace_17 : decode cX8_mayPlace 17 = .ok (.aload_n 0, 1) := by decide +kernel
theorem dX8_mayPlace_18 : decode cX8_mayPlace 18 = .ok (.iload_n 1, 1) := by decide +kernel
theorem dX8_mayPlace_19 : decode cX8_mayPlace 19 = .ok (.iload_n 2, 1) := by decide +kernel
theorem dX8_mayPlace_20 : decode cX8_mayPlace 20 = .ok (.invokevirtual 165, 3) := by decide +kernel
theorem dX8_mayPlace_23 : decode cX8_mayPlace 23 = .ok (.ireturn, 1) := by decide +kernel
theorem dX8_owed_0 : decode cX8_owed 0 = .ok (.aload_n 0, 1) := by decide +kernel
theorem dX8_owed_1 : decode cX8_owed 1 = .ok (.iload_n 1, 1) := by decide +kernel
theorem dX8_owed_2 : decode cX8_owed 2 = .ok (.invokevirtual 66, 3) := by decide +kernel
theorem dX8_owed_5 : decode cX8_owed 5 = .ok (.ifCond .ne 5, 3) := by decide +kernel
theorem dX8_owed_8 : decode cX8_owed 8 = .ok (.iconst (-1), 1) := by decide +kernel
theorem dX8_owed_9 : decode cX8_owed 9 = .ok (.ireturn, 1) := by decide +kernel
theorem dX8_owed_10 : decode cX8_owed 10 = .ok (.aload_n 0, 1) := by decide +kernel
theorem dX8_owed_11 : decode cX8_owed 11 = .ok (.getfield 12, 3) := by decide +kernel
theorem dX8_owed_14 : decode cX8_owed 14 = .ok (.getfield 48, 3) := by decide +kernel
theorem dX8_owed_17 : decode cX8_owed 17 = .ok (.getfield 144, 3) := by decide +kernel
theorem dX8_owed_20 : decode cX8_owed 20 = .ok (.iload_n 1, 1) := by decide +kernel
theorem dX8_owed_21 : decode cX8_owed 21 = .ok (.iaload, 1) := by decide +kernel
theorem dX8_owed_22 : decode cX8_owed 22 = .ok (.ireturn, 1) := by decide +kernel
theorem dX8_minutes_0 : decode cX8_minutes 0 = .ok (.iload_n 1, 1) := by decide +kernel
theorem dX8_minutes_1 : decode cX8_minutes 1 = .ok (.iconst 0, 1) := by decide +kernel
theorem dX8_minutes_2 : decode cX8_minutes 2 = .ok (.iconst 4, 1) := by decide +kernel
theorem dX8_minutes_3 : decode cX8_minutes 3 = .ok (.invokestatic 44, 3) := by decide +kernel
theorem dX8_minutes_6 : decode cX8_minutes 6 = .ok (.ifCond .eq 14, 3) := by decide +kernel
theorem dX8_minutes_9 : decode cX8_minutes 9 = .ok (.iload_n 2, 1) := by decide +kernel
theorem dX8_minutes_10 : decode cX8_minutes 10 = .ok (.iload_n 3, 1) := by decide +kernel
theorem dX8_minutes_11 : decode cX8_minutes 11 = .ok (.sipush 10080, 3) := by decide +kernel
theorem dX8_minutes_14 : decode cX8_minutes 14 = .ok (.invokestatic 70, 3) := by decide +kernel
theorem dX8_minutes_17 : decode cX8_minutes 17 = .ok (.ifCond .ne 5, 3) := by decide +kernel
theorem dX8_minutes_20 : decode cX8_minutes 20 = .ok (.iconst (-1), 1) := by decide +kernel
theorem dX8_minutes_21 : decode cX8_minutes 21 = .ok (.ireturn, 1) := by decide +kernel
theorem dX8_minutes_22 : decode cX8_minutes 22 = .ok (.iconst 0, 1) := by decide +kernel
theorem dX8_minutes_23 : decode cX8_minutes 23 = .ok (.istore 4, 2) := by decide +kernel
theorem dX8_minutes_25 : decode cX8_minutes 25 = .ok (.iconst 0, 1) := by decide +kernel
theorem dX8_minutes_26 : decode cX8_minutes 26 = .ok (.istore 5, 2) := by decide +kernel
theorem dX8_minutes_28 : decode cX8_minutes 28 = .ok (.iconst 0, 1) := by decide +kernel
theorem dX8_minutes_29 : decode cX8_minutes 29 = .ok (.istore 6, 2) := by decide +kernel
theorem dX8_minutes_31 : decode cX8_minutes 31 = .ok (.iload 6, 2) := by decide +kernel
theorem dX8_minutes_33 : decode cX8_minutes 33 = .ok (.aload_n 0, 1) := by decide +kernel
theorem dX8_minutes_34 : decode cX8_minutes 34 = .ok (.getfield 12, 3) := by decide +kernel
theorem dX8_minutes_37 : decode cX8_minutes 37 = .ok (.getfield 102, 3) := by decide +kernel
theorem dX8_minutes_40 : decode cX8_minutes 40 = .ok (.getfield 112, 3) := by decide +kernel
theorem dX8_minutes_43 : decode cX8_minutes 43 = .ok (.if_icmp .ge 49, 3) := by decide +kernel
theorem dX8_minutes_46 : decode cX8_minutes 46 = .ok (.aload_n 0, 1) := by decide +kernel
theorem dX8_minutes_47 : decode cX8_minutes 47 = .ok (.getfield 12, 3) := by decide +kernel
theorem dX8_minutes_50 : decode cX8_minutes 50 = .ok (.getfield 102, 3) := by decide +kernel
theorem dX8_minutes_53 : decode cX8_minutes 53 = .ok (.iload 6, 2) := by decide +kernel
theorem dX8_minutes_55 : decode cX8_minutes 55 = .ok (.iload_n 2, 1) := by decide +kernel
theorem dX8_minutes_56 : decode cX8_minutes 56 = .ok (.iload_n 3, 1) := by decide +kernel
theorem dX8_minutes_57 : decode cX8_minutes 57 = .ok (.invokevirtual 168, 3) := by decide +kernel
theorem dX8_minutes_60 : decode cX8_minutes 60 = .ok (.istore 7, 2) := by decide +kernel
theorem dX8_minutes_62 : decode cX8_minutes 62 = .ok (.iload 5, 2) := by decide +kernel
theorem dX8_minutes_64 : decode cX8_minutes 64 = .ok (.iload 7, 2) := by decide +kernel
theorem dX8_minutes_66 : decode cX8_minutes 66 = .ok (.iadd, 1) := by decide +kernel
theorem dX8_minutes_67 : decode cX8_minutes 67 = .ok (.istore 5, 2) := by decide +kernel
theorem dX8_minutes_69 : decode cX8_minutes 69 = .ok (.aload_n 0, 1) := by decide +kernel
theorem dX8_minutes_70 : decode cX8_minutes 70 = .ok (.iload 6, 2) := by decide +kernel
theorem dX8_minutes_72 : decode cX8_minutes 72 = .ok (.invokevirtual 133, 3) := by decide +kernel
theorem dX8_minutes_75 : decode cX8_minutes 75 = .ok (.iload_n 1, 1) := by decide +kernel
theorem dX8_minutes_76 : decode cX8_minutes 76 = .ok (.if_icmp .ne 10, 3) := by decide +kernel
theorem dX8_minutes_79 : decode cX8_minutes 79 = .ok (.iload 4, 2) := by decide +kernel
theorem dX8_minutes_81 : decode cX8_minutes 81 = .ok (.iload 7, 2) := by decide +kernel
theorem dX8_minutes_83 : decode cX8_minutes 83 = .ok (.iadd, 1) := by decide +kernel
theorem dX8_minutes_84 : decode cX8_minutes 84 = .ok (.istore 4, 2) := by decide +kernel
theorem dX8_minutes_86 : decode cX8_minutes 86 = .ok (.iinc 6 1, 3) := by decide +kernel
theorem dX8_minutes_89 : decode cX8_minutes 89 = .ok (.goto (-58), 3) := by decide +kernel
theorem dX8_minutes_92 : decode cX8_minutes 92 = .ok (.iload_n 1, 1) := by decide +kernel
theorem dX8_minutes_93 : decode cX8_minutes 93 = .ok (.iconst 4, 1) := by decide +kernel
theorem dX8_minutes_94 : decode cX8_minutes 94 = .ok (.if_icmp .ne 12, 3) := by decide +kernel
theorem dX8_minutes_97 : decode cX8_minutes 97 = .ok (.iload_n 3, 1) := by decide +kernel
theorem dX8_minutes_98 : decode cX8_minutes 98 = .ok (.iload_n 2, 1) := by decide +kernel
theorem dX8_minutes_99 : decode cX8_minutes 99 = .ok (.isub, 1) := by decide +kernel
theorem dX8_minutes_100 : decode cX8_minutes 100 = .ok (.iload 5, 2) := by decide +kernel
theorem dX8_minutes_102 : decode cX8_minutes 102 = .ok (.isub, 1) := by decide +kernel
theorem dX8_minutes_103 : decode cX8_minutes 103 = .ok (.goto 5, 3) := by decide +kernel
theorem dX8_minutes_106 : decode cX8_minutes 106 = .ok (.iload 4, 2) := by decide +kernel
theorem dX8_minutes_108 : decode cX8_minutes 108 = .ok (.ireturn, 1) := by decide +kernel
theorem dX8_silence_0 : decode cX8_silence 0 = .ok (.iload_n 1, 1) := by decide +kernel
theorem dX8_silence_1 : decode cX8_silence 1 = .ok (.iload_n 2, 1) := by decide +kernel
theorem dX8_silence_2 : decode cX8_silence 2 = .ok (.sipush 10080, 3) := by decide +kernel
theorem dX8_silence_5 : decode cX8_silence 5 = .ok (.invokestatic 70, 3) := by decide +kernel
theorem dX8_silence_8 : decode cX8_silence 8 = .ok (.ifCond .ne 5, 3) := by decide +kernel
theorem dX8_silence_11 : decode cX8_silence 11 = .ok (.iconst (-1), 1) := by decide +kernel
theorem dX8_silence_12 : decode cX8_silence 12 = .ok (.ireturn, 1) := by decide +kernel
theorem dX8_silence_13 : decode cX8_silence 13 = .ok (.iconst 0, 1) := by decide +kernel
theorem dX8_silence_14 : decode cX8_silence 14 = .ok (.istore_n 3, 1) := by decide +kernel
theorem dX8_silence_15 : decode cX8_silence 15 = .ok (.iload_n 1, 1) := by decide +kernel
theorem dX8_silence_16 : decode cX8_silence 16 = .ok (.istore 4, 2) := by decide +kernel
theorem dX8_silence_18 : decode cX8_silence 18 = .ok (.iload_n 1, 1) := by decide +kernel
theorem dX8_silence_19 : decode cX8_silence 19 = .ok (.istore 5, 2) := by decide +kernel
theorem dX8_silence_21 : decode cX8_silence 21 = .ok (.iconst 0, 1) := by decide +kernel
theorem dX8_silence_22 : decode cX8_silence 22 = .ok (.istore 6, 2) := by decide +kernel
theorem dX8_silence_24 : decode cX8_silence 24 = .ok (.iload 6, 2) := by decide +kernel
theorem dX8_silence_26 : decode cX8_silence 26 = .ok (.aload_n 0, 1) := by decide +kernel
theorem dX8_silence_27 : decode cX8_silence 27 = .ok (.getfield 12, 3) := by decide +kernel
theorem dX8_silence_30 : decode cX8_silence 30 = .ok (.getfield 102, 3) := by decide +kernel
theorem dX8_silence_33 : decode cX8_silence 33 = .ok (.getfield 112, 3) := by decide +kernel
theorem dX8_silence_36 : decode cX8_silence 36 = .ok (.if_icmp .gt 100, 3) := by decide +kernel
theorem dX8_silence_39 : decode cX8_silence 39 = .ok (.iload 6, 2) := by decide +kernel
theorem dX8_silence_41 : decode cX8_silence 41 = .ok (.aload_n 0, 1) := by decide +kernel
theorem dX8_silence_42 : decode cX8_silence 42 = .ok (.getfield 12, 3) := by decide +kernel
theorem dX8_silence_45 : decode cX8_silence 45 = .ok (.getfield 102, 3) := by decide +kernel
theorem dX8_silence_48 : decode cX8_silence 48 = .ok (.getfield 112, 3) := by decide +kernel
theorem dX8_silence_51 : decode cX8_silence 51 = .ok (.if_icmp .ge 23, 3) := by decide +kernel
theorem dX8_silence_54 : decode cX8_silence 54 = .ok (.aload_n 0, 1) := by decide +kernel
theorem dX8_silence_55 : decode cX8_silence 55 = .ok (.getfield 12, 3) := by decide +kernel
theorem dX8_silence_58 : decode cX8_silence 58 = .ok (.getfield 102, 3) := by decide +kernel
theorem dX8_silence_61 : decode cX8_silence 61 = .ok (.getfield 150, 3) := by decide +kernel
theorem dX8_silence_64 : decode cX8_silence 64 = .ok (.iload 6, 2) := by decide +kernel
theorem dX8_silence_66 : decode cX8_silence 66 = .ok (.iaload, 1) := by decide +kernel
theorem dX8_silence_67 : decode cX8_silence 67 = .ok (.iload_n 2, 1) := by decide +kernel
theorem dX8_silence_68 : decode cX8_silence 68 = .ok (.invokestatic 171, 3) := by decide +kernel
theorem dX8_silence_71 : decode cX8_silence 71 = .ok (.goto 4, 3) := by decide +kernel
theorem dX8_silence_74 : decode cX8_silence 74 = .ok (.iload_n 2, 1) := by decide +kernel
theorem dX8_silence_75 : decode cX8_silence 75 = .ok (.istore 7, 2) := by decide +kernel
theorem dX8_silence_77 : decode cX8_silence 77 = .ok (.iload 7, 2) := by decide +kernel
theorem dX8_silence_79 : decode cX8_silence 79 = .ok (.iload 5, 2) := by decide +kernel
theorem dX8_silence_81 : decode cX8_silence 81 = .ok (.isub, 1) := by decide +kernel
theorem dX8_silence_82 : decode cX8_silence 82 = .ok (.iload_n 3, 1) := by decide +kernel
theorem dX8_silence_83 : decode cX8_silence 83 = .ok (.if_icmp .le 13, 3) := by decide +kernel
theorem dX8_silence_86 : decode cX8_silence 86 = .ok (.iload 7, 2) := by decide +kernel
theorem dX8_silence_88 : decode cX8_silence 88 = .ok (.iload 5, 2) := by decide +kernel
theorem dX8_silence_90 : decode cX8_silence 90 = .ok (.isub, 1) := by decide +kernel
theorem dX8_silence_91 : decode cX8_silence 91 = .ok (.istore_n 3, 1) := by decide +kernel
theorem dX8_silence_92 : decode cX8_silence 92 = .ok (.iload 5, 2) := by decide +kernel
theorem dX8_silence_94 : decode cX8_silence 94 = .ok (.istore 4, 2) := by decide +kernel
theorem dX8_silence_96 : decode cX8_silence 96 = .ok (.iload 6, 2) := by decide +kernel
theorem dX8_silence_98 : decode cX8_silence 98 = .ok (.aload_n 0, 1) := by decide +kernel
theorem dX8_silence_99 : decode cX8_silence 99 = .ok (.getfield 12, 3) := by decide +kernel
theorem dX8_silence_102 : decode cX8_silence 102 = .ok (.getfield 102, 3) := by decide +kernel
theorem dX8_silence_105 : decode cX8_silence 105 = .ok (.getfield 112, 3) := by decide +kernel
theorem dX8_silence_108 : decode cX8_silence 108 = .ok (.if_icmp .ge 22, 3) := by decide +kernel
theorem dX8_silence_111 : decode cX8_silence 111 = .ok (.iload 5, 2) := by decide +kernel
theorem dX8_silence_113 : decode cX8_silence 113 = .ok (.aload_n 0, 1) := by decide +kernel
theorem dX8_silence_114 : decode cX8_silence 114 = .ok (.getfield 12, 3) := by decide +kernel
theorem dX8_silence_117 : decode cX8_silence 117 = .ok (.getfield 102, 3) := by decide +kernel
theorem dX8_silence_120 : decode cX8_silence 120 = .ok (.iload 6, 2) := by decide +kernel
theorem dX8_silence_122 : decode cX8_silence 122 = .ok (.invokevirtual 137, 3) := by decide +kernel
theorem dX8_silence_125 : decode cX8_silence 125 = .ok (.invokestatic 176, 3) := by decide +kernel
theorem dX8_silence_128 : decode cX8_silence 128 = .ok (.istore 5, 2) := by decide +kernel
theorem dX8_silence_130 : decode cX8_silence 130 = .ok (.iinc 6 1, 3) := by decide +kernel
theorem dX8_silence_133 : decode cX8_silence 133 = .ok (.goto (-109), 3) := by decide +kernel
theorem dX8_silence_136 : decode cX8_silence 136 = .ok (.iload_n 3, 1) := by decide +kernel
theorem dX8_silence_137 : decode cX8_silence 137 = .ok (.ifCond .ne 8, 3) := by decide +kernel
theorem dX8_silence_140 : decode cX8_silence 140 = .ok (.bipush (-9), 2) := by decide +kernel
theorem dX8_silence_142 : decode cX8_silence 142 = .ok (.goto 11, 3) := by decide +kernel
theorem dX8_silence_145 : decode cX8_silence 145 = .ok (.sipush 10081, 3) := by decide +kernel
theorem dX8_silence_148 : decode cX8_silence 148 = .ok (.iload_n 3, 1) := by decide +kernel
theorem dX8_silence_149 : decode cX8_silence 149 = .ok (.imul, 1) := by decide +kernel
theorem dX8_silence_150 : decode cX8_silence 150 = .ok (.iload 4, 2) := by decide +kernel
theorem dX8_silence_152 : decode cX8_silence 152 = .ok (.iadd, 1) := by decide +kernel
theorem dX8_silence_153 : decode cX8_silence 153 = .ok (.ireturn, 1) := by decide +kernel
theorem dX8_ranked_0 : decode cX8_ranked 0 = .ok (.iload_n 1, 1) := by decide +kernel
theorem dX8_ranked_1 : decode cX8_ranked 1 = .ok (.iconst 0, 1) := by decide +kernel
theorem dX8_ranked_2 : decode cX8_ranked 2 = .ok (.aload_n 0, 1) := by decide +kernel
theorem dX8_ranked_3 : decode cX8_ranked 3 = .ok (.getfield 12, 3) := by decide +kernel
theorem dX8_ranked_6 : decode cX8_ranked 6 = .ok (.getfield 48, 3) := by decide +kernel
theorem dX8_ranked_9 : decode cX8_ranked 9 = .ok (.getfield 52, 3) := by decide +kernel
theorem dX8_ranked_12 : decode cX8_ranked 12 = .ok (.iconst 1, 1) := by decide +kernel
theorem dX8_ranked_13 : decode cX8_ranked 13 = .ok (.isub, 1) := by decide +kernel
theorem dX8_ranked_14 : decode cX8_ranked 14 = .ok (.invokestatic 44, 3) := by decide +kernel
theorem dX8_ranked_17 : decode cX8_ranked 17 = .ok (.ifCond .ne 5, 3) := by decide +kernel
theorem dX8_ranked_20 : decode cX8_ranked 20 = .ok (.iconst (-1), 1) := by decide +kernel
theorem dX8_ranked_21 : decode cX8_ranked 21 = .ok (.ireturn, 1) := by decide +kernel
theorem dX8_ranked_22 : decode cX8_ranked 22 = .ok (.iconst 0, 1) := by decide +kernel
theorem dX8_ranked_23 : decode cX8_ranked 23 = .ok (.istore_n 2, 1) := by decide +kernel
theorem dX8_ranked_24 : decode cX8_ranked 24 = .ok (.iload_n 2, 1) := by decide +kernel
theorem dX8_ranked_25 : decode cX8_ranked 25 = .ok (.aload_n 0, 1) := by decide +kernel
theorem dX8_ranked_26 : decode cX8_ranked 26 = .ok (.getfield 12, 3) := by decide +kernel
theorem dX8_ranked_29 : decode cX8_ranked 29 = .ok (.getfield 48, 3) := by decide +kernel
theorem dX8_ranked_32 : decode cX8_ranked 32 = .ok (.getfield 52, 3) := by decide +kernel
theorem dX8_ranked_35 : decode cX8_ranked 35 = .ok (.if_icmp .ge 20, 3) := by decide +kernel
theorem dX8_ranked_38 : decode cX8_ranked 38 = .ok (.aload_n 0, 1) := by decide +kernel
theorem dX8_ranked_39 : decode cX8_ranked 39 = .ok (.iload_n 2, 1) := by decide +kernel
theorem dX8_ranked_40 : decode cX8_ranked 40 = .ok (.invokevirtual 179, 3) := by decide +kernel
theorem dX8_ranked_43 : decode cX8_ranked 43 = .ok (.iload_n 1, 1) := by decide +kernel
theorem dX8_ranked_44 : decode cX8_ranked 44 = .ok (.if_icmp .ne 5, 3) := by decide +kernel
theorem dX8_ranked_47 : decode cX8_ranked 47 = .ok (.iload_n 2, 1) := by decide +kernel
theorem dX8_ranked_48 : decode cX8_ranked 48 = .ok (.ireturn, 1) := by decide +kernel
theorem dX8_ranked_49 : decode cX8_ranked 49 = .ok (.iinc 2 1, 3) := by decide +kernel
theorem dX8_ranked_52 : decode cX8_ranked 52 = .ok (.goto (-28), 3) := by decide +kernel
theorem dX8_ranked_55 : decode cX8_ranked 55 = .ok (.iconst (-1), 1) := by decide +kernel
theorem dX8_ranked_56 : decode cX8_ranked 56 = .ok (.ireturn, 1) := by decide +kernel
theorem dX8_broken_0 : decode cX8_broken 0 = .ok (.iconst 0, 1) := by decide +kernel
theorem dX8_broken_1 : decode cX8_broken 1 = .ok (.istore_n 1, 1) := by decide +kernel
theorem dX8_broken_2 : decode cX8_broken 2 = .ok (.iconst 0, 1) := by decide +kernel
theorem dX8_broken_3 : decode cX8_broken 3 = .ok (.istore_n 2, 1) := by decide +kernel
theorem dX8_broken_4 : decode cX8_broken 4 = .ok (.iload_n 2, 1) := by decide +kernel
theorem dX8_broken_5 : decode cX8_broken 5 = .ok (.aload_n 0, 1) := by decide +kernel
theorem dX8_broken_6 : decode cX8_broken 6 = .ok (.getfield 12, 3) := by decide +kernel
theorem dX8_broken_9 : decode cX8_broken 9 = .ok (.getfield 102, 3) := by decide +kernel
theorem dX8_broken_12 : decode cX8_broken 12 = .ok (.getfield 112, 3) := by decide +kernel
theorem dX8_broken_15 : decode cX8_broken 15 = .ok (.if_icmp .ge 75, 3) := by decide +kernel
theorem dX8_broken_18 : decode cX8_broken 18 = .ok (.aload_n 0, 1) := by decide +kernel
theorem dX8_broken_19 : decode cX8_broken 19 = .ok (.getfield 12, 3) := by decide +kernel
theorem dX8_broken_22 : decode cX8_broken 22 = .ok (.getfield 48, 3) := by decide +kernel
theorem dX8_broken_25 : decode cX8_broken 25 = .ok (.getfield 182, 3) := by decide +kernel
theorem dX8_broken_28 : decode cX8_broken 28 = .ok (.aload_n 0, 1) := by decide +kernel
theorem dX8_broken_29 : decode cX8_broken 29 = .ok (.getfield 12, 3) := by decide +kernel
theorem dX8_broken_32 : decode cX8_broken 32 = .ok (.getfield 102, 3) := by decide +kernel
theorem dX8_broken_35 : decode cX8_broken 35 = .ok (.getfield 147, 3) := by decide +kernel
theorem dX8_broken_38 : decode cX8_broken 38 = .ok (.iload_n 2, 1) := by decide +kernel
theorem dX8_broken_39 : decode cX8_broken 39 = .ok (.iaload, 1) := by decide +kernel
theorem dX8_broken_40 : decode cX8_broken 40 = .ok (.iaload, 1) := by decide +kernel
theorem dX8_broken_41 : decode cX8_broken 41 = .ok (.istore_n 3, 1) := by decide +kernel
theorem dX8_broken_42 : decode cX8_broken 42 = .ok (.aload_n 0, 1) := by decide +kernel
theorem dX8_broken_43 : decode cX8_broken 43 = .ok (.getfield 12, 3) := by decide +kernel
theorem dX8_broken_46 : decode cX8_broken 46 = .ok (.getfield 83, 3) := by decide +kernel
theorem dX8_broken_49 : decode cX8_broken 49 = .ok (.iload_n 3, 1) := by decide +kernel
theorem dX8_broken_50 : decode cX8_broken 50 = .ok (.aload_n 0, 1) := by decide +kernel
theorem dX8_broken_51 : decode cX8_broken 51 = .ok (.getfield 12, 3) := by decide +kernel
theorem dX8_broken_54 : decode cX8_broken 54 = .ok (.getfield 102, 3) := by decide +kernel
theorem dX8_broken_57 : decode cX8_broken 57 = .ok (.getfield 150, 3) := by decide +kernel
theorem dX8_broken_60 : decode cX8_broken 60 = .ok (.iload_n 2, 1) := by decide +kernel
theorem dX8_broken_61 : decode cX8_broken 61 = .ok (.iaload, 1) := by decide +kernel
theorem dX8_broken_62 : decode cX8_broken 62 = .ok (.aload_n 0, 1) := by decide +kernel
theorem dX8_broken_63 : decode cX8_broken 63 = .ok (.getfield 12, 3) := by decide +kernel
theorem dX8_broken_66 : decode cX8_broken 66 = .ok (.getfield 102, 3) := by decide +kernel
theorem dX8_broken_69 : decode cX8_broken 69 = .ok (.iload_n 2, 1) := by decide +kernel
theorem dX8_broken_70 : decode cX8_broken 70 = .ok (.invokevirtual 137, 3) := by decide +kernel
theorem dX8_broken_73 : decode cX8_broken 73 = .ok (.invokevirtual 185, 3) := by decide +kernel
theorem dX8_broken_76 : decode cX8_broken 76 = .ok (.bipush (-9), 2) := by decide +kernel
theorem dX8_broken_78 : decode cX8_broken 78 = .ok (.if_icmp .eq 6, 3) := by decide +kernel
theorem dX8_broken_81 : decode cX8_broken 81 = .ok (.iinc 1 1, 3) := by decide +kernel
theorem dX8_broken_84 : decode cX8_broken 84 = .ok (.iinc 2 1, 3) := by decide +kernel
theorem dX8_broken_87 : decode cX8_broken 87 = .ok (.goto (-83), 3) := by decide +kernel
theorem dX8_broken_90 : decode cX8_broken 90 = .ok (.iload_n 1, 1) := by decide +kernel
theorem dX8_broken_91 : decode cX8_broken 91 = .ok (.ireturn, 1) := by decide +kernel
theorem dX8_line_0 : decode cX8_line 0 = .ok (.aload_n 0, 1) := by decide +kernel
theorem dX8_line_1 : decode cX8_line 1 = .ok (.iload_n 1, 1) := by decide +kernel
theorem dX8_line_2 : decode cX8_line 2 = .ok (.invokevirtual 99, 3) := by decide +kernel
theorem dX8_line_5 : decode cX8_line 5 = .ok (.ifCond .eq 7, 3) := by decide +kernel
theorem dX8_line_8 : decode cX8_line 8 = .ok (.iload_n 2, 1) := by decide +kernel
theorem dX8_line_9 : decode cX8_line 9 = .ok (.ifCond .ge 5, 3) := by decide +kernel
theorem dX8_line_12 : decode cX8_line 12 = .ok (.iconst (-1), 1) := by decide +kernel
theorem dX8_line_13 : decode cX8_line 13 = .ok (.ireturn, 1) := by decide +kernel
theorem dX8_line_14 : decode cX8_line 14 = .ok (.aload_n 0, 1) := by decide +kernel
theorem dX8_line_15 : decode cX8_line 15 = .ok (.iload_n 1, 1) := by decide +kernel
theorem dX8_line_16 : decode cX8_line 16 = .ok (.invokevirtual 188, 3) := by decide +kernel
theorem dX8_line_19 : decode cX8_line 19 = .ok (.iload_n 2, 1) := by decide +kernel
theorem dX8_line_20 : decode cX8_line 20 = .ok (.aload_n 0, 1) := by decide +kernel
theorem dX8_line_21 : decode cX8_line 21 = .ok (.getfield 40, 3) := by decide +kernel
theorem dX8_line_24 : decode cX8_line 24 = .ok (.invokevirtual 191, 3) := by decide +kernel
theorem dX8_line_27 : decode cX8_line 27 = .ok (.if_icmp .ge 14, 3) := by decide +kernel
theorem dX8_line_30 : decode cX8_line 30 = .ok (.aload_n 0, 1) := by decide +kernel
theorem dX8_line_31 : decode cX8_line 31 = .ok (.getfield 40, 3) := by decide +kernel
theorem dX8_line_34 : decode cX8_line 34 = .ok (.iload_n 2, 1) := by decide +kernel
theorem dX8_line_35 : decode cX8_line 35 = .ok (.invokevirtual 194, 3) := by decide +kernel
theorem dX8_line_38 : decode cX8_line 38 = .ok (.goto 5, 3) := by decide +kernel
theorem dX8_line_41 : decode cX8_line 41 = .ok (.bipush (-9), 2) := by decide +kernel
theorem dX8_line_43 : decode cX8_line 43 = .ok (.ireturn, 1) := by decide +kernel
theorem dX8_undo_0 : decode cX8_undo 0 = .ok (.aload_n 0, 1) := by decide +kernel
theorem dX8_undo_1 : decode cX8_undo 1 = .ok (.getfield 19, 3) := by decide +kernel
theorem dX8_undo_4 : decode cX8_undo 4 = .ok (.getfield 198, 3) := by decide +kernel
theorem dX8_undo_7 : decode cX8_undo 7 = .ok (.ifCond .ne 6, 3) := by decide +kernel
theorem dX8_undo_10 : decode cX8_undo 10 = .ok (.bipush (-9), 2) := by decide +kernel
theorem dX8_undo_12 : decode cX8_undo 12 = .ok (.ireturn, 1) := by decide +kernel
theorem dX8_undo_13 : decode cX8_undo 13 = .ok (.aload_n 0, 1) := by decide +kernel
theorem dX8_undo_14 : decode cX8_undo 14 = .ok (.getfield 19, 3) := by decide +kernel
theorem dX8_undo_17 : decode cX8_undo 17 = .ok (.aload_n 0, 1) := by decide +kernel
theorem dX8_undo_18 : decode cX8_undo 18 = .ok (.getfield 12, 3) := by decide +kernel
theorem dX8_undo_21 : decode cX8_undo 21 = .ok (.invokevirtual 199, 3) := by decide +kernel
theorem dX8_undo_24 : decode cX8_undo 24 = .ok (.aload_n 0, 1) := by decide +kernel
theorem dX8_undo_25 : decode cX8_undo 25 = .ok (.getfield 19, 3) := by decide +kernel
theorem dX8_undo_28 : decode cX8_undo 28 = .ok (.getfield 198, 3) := by decide +kernel
theorem dX8_undo_31 : decode cX8_undo 31 = .ok (.ireturn, 1) := by decide +kernel
theorem dX8_fingerprint_0 : decode cX8_fingerprint 0 = .ok (.aload_n 0, 1) := by decide +kernel
theorem dX8_fingerprint_1 : decode cX8_fingerprint 1 = .ok (.invokevirtual 156, 3) := by decide +kernel
theorem dX8_fingerprint_4 : decode cX8_fingerprint 4 = .ok (.ldc2_w 202, 3) := by decide +kernel
theorem dX8_fingerprint_7 : decode cX8_fingerprint 7 = .ok (.lstore_n 1, 1) := by decide +kernel
theorem dX8_fingerprint_8 : decode cX8_fingerprint 8 = .ok (.ldc2_w 204, 3) := by decide +kernel
theorem dX8_fingerprint_11 : decode cX8_fingerprint 11 = .ok (.lload_n 1, 1) := by decide +kernel
theorem dX8_fingerprint_12 : decode cX8_fingerprint 12 = .ok (.lmul, 1) := by decide +kernel
theorem dX8_fingerprint_13 : decode cX8_fingerprint 13 = .ok (.aload_n 0, 1) := by decide +kernel
theorem dX8_fingerprint_14 : decode cX8_fingerprint 14 = .ok (.getfield 12, 3) := by decide +kernel
theorem dX8_fingerprint_17 : decode cX8_fingerprint 17 = .ok (.getfield 48, 3) := by decide +kernel
theorem dX8_fingerprint_20 : decode cX8_fingerprint 20 = .ok (.getfield 52, 3) := by decide +kernel
theorem dX8_fingerprint_23 : decode cX8_fingerprint 23 = .ok (.i2l, 1) := by decide +kernel
theorem dX8_fingerprint_24 : decode cX8_fingerprint 24 = .ok (.ladd, 1) := by decide +kernel
theorem dX8_fingerprint_25 : decode cX8_fingerprint 25 = .ok (.lstore_n 1, 1) := by decide +kernel
theorem dX8_fingerprint_26 : decode cX8_fingerprint 26 = .ok (.ldc2_w 204, 3) := by decide +kernel
theorem dX8_fingerprint_29 : decode cX8_fingerprint 29 = .ok (.lload_n 1, 1) := by decide +kernel
theorem dX8_fingerprint_30 : decode cX8_fingerprint 30 = .ok (.lmul, 1) := by decide +kernel
theorem dX8_fingerprint_31 : decode cX8_fingerprint 31 = .ok (.aload_n 0, 1) := by decide +kernel
theorem dX8_fingerprint_32 : decode cX8_fingerprint 32 = .ok (.getfield 12, 3) := by decide +kernel
theorem dX8_fingerprint_35 : decode cX8_fingerprint 35 = .ok (.getfield 73, 3) := by decide +kernel
theorem dX8_fingerprint_38 : decode cX8_fingerprint 38 = .ok (.getfield 77, 3) := by decide +kernel
theorem dX8_fingerprint_41 : decode cX8_fingerprint 41 = .ok (.i2l, 1) := by decide +kernel
theorem dX8_fingerprint_42 : decode cX8_fingerprint 42 = .ok (.ladd, 1) := by decide +kernel
theorem dX8_fingerprint_43 : decode cX8_fingerprint 43 = .ok (.lstore_n 1, 1) := by decide +kernel
theorem dX8_fingerprint_44 : decode cX8_fingerprint 44 = .ok (.ldc2_w 204, 3) := by decide +kernel
theorem dX8_fingerprint_47 : decode cX8_fingerprint 47 = .ok (.lload_n 1, 1) := by decide +kernel
theorem dX8_fingerprint_48 : decode cX8_fingerprint 48 = .ok (.lmul, 1) := by decide +kernel
theorem dX8_fingerprint_49 : decode cX8_fingerprint 49 = .ok (.aload_n 0, 1) := by decide +kernel
theorem dX8_fingerprint_50 : decode cX8_fingerprint 50 = .ok (.getfield 12, 3) := by decide +kernel
theorem dX8_fingerprint_53 : decode cX8_fingerprint 53 = .ok (.getfield 83, 3) := by decide +kernel
theorem dX8_fingerprint_56 : decode cX8_fingerprint 56 = .ok (.getfield 87, 3) := by decide +kernel
theorem dX8_fingerprint_59 : decode cX8_fingerprint 59 = .ok (.i2l, 1) := by decide +kernel
theorem dX8_fingerprint_60 : decode cX8_fingerprint 60 = .ok (.ladd, 1) := by decide +kernel
theorem dX8_fingerprint_61 : decode cX8_fingerprint 61 = .ok (.lstore_n 1, 1) := by decide +kernel
theorem dX8_fingerprint_62 : decode cX8_fingerprint 62 = .ok (.ldc2_w 204, 3) := by decide +kernel
theorem dX8_fingerprint_65 : decode cX8_fingerprint 65 = .ok (.lload_n 1, 1) := by decide +kernel
theorem dX8_fingerprint_66 : decode cX8_fingerprint 66 = .ok (.lmul, 1) := by decide +kernel
theorem dX8_fingerprint_67 : decode cX8_fingerprint 67 = .ok (.aload_n 0, 1) := by decide +kernel
theorem dX8_fingerprint_68 : decode cX8_fingerprint 68 = .ok (.getfield 12, 3) := by decide +kernel
theorem dX8_fingerprint_71 : decode cX8_fingerprint 71 = .ok (.getfield 102, 3) := by decide +kernel
theorem dX8_fingerprint_74 : decode cX8_fingerprint 74 = .ok (.getfield 112, 3) := by decide +kernel
theorem dX8_fingerprint_77 : decode cX8_fingerprint 77 = .ok (.i2l, 1) := by decide +kernel
theorem dX8_fingerprint_78 : decode cX8_fingerprint 78 = .ok (.ladd, 1) := by decide +kernel
theorem dX8_fingerprint_79 : decode cX8_fingerprint 79 = .ok (.lstore_n 1, 1) := by decide +kernel
theorem dX8_fingerprint_80 : decode cX8_fingerprint 80 = .ok (.iconst 0, 1) := by decide +kernel
theorem dX8_fingerprint_81 : decode cX8_fingerprint 81 = .ok (.istore_n 3, 1) := by decide +kernel
theorem dX8_fingerprint_82 : decode cX8_fingerprint 82 = .ok (.iload_n 3, 1) := by decide +kernel
theorem dX8_fingerprint_83 : decode cX8_fingerprint 83 = .ok (.aload_n 0, 1) := by decide +kernel
theorem dX8_fingerprint_84 : decode cX8_fingerprint 84 = .ok (.getfield 12, 3) := by decide +kernel
theorem dX8_fingerprint_87 : decode cX8_fingerprint 87 = .ok (.getfield 102, 3) := by decide +kernel
theorem dX8_fingerprint_90 : decode cX8_fingerprint 90 = .ok (.getfield 112, 3) := by decide +kernel
theorem dX8_fingerprint_93 : decode cX8_fingerprint 93 = .ok (.if_icmp .ge 106, 3) := by decide +kernel
theorem dX8_fingerprint_96 : decode cX8_fingerprint 96 = .ok (.ldc2_w 204, 3) := by decide +kernel
theorem dX8_fingerprint_99 : decode cX8_fingerprint 99 = .ok (.lload_n 1, 1) := by decide +kernel
theorem dX8_fingerprint_100 : decode cX8_fingerprint 100 = .ok (.lmul, 1) := by decide +kernel
theorem dX8_fingerprint_101 : decode cX8_fingerprint 101 = .ok (.aload_n 0, 1) := by decide +kernel
theorem dX8_fingerprint_102 : decode cX8_fingerprint 102 = .ok (.getfield 12, 3) := by decide +kernel
theorem dX8_fingerprint_105 : decode cX8_fingerprint 105 = .ok (.getfield 102, 3) := by decide +kernel
theorem dX8_fingerprint_108 : decode cX8_fingerprint 108 = .ok (.getfield 147, 3) := by decide +kernel
theorem dX8_fingerprint_111 : decode cX8_fingerprint 111 = .ok (.iload_n 3, 1) := by decide +kernel
theorem dX8_fingerprint_112 : decode cX8_fingerprint 112 = .ok (.iaload, 1) := by decide +kernel
theorem dX8_fingerprint_113 : decode cX8_fingerprint 113 = .ok (.i2l, 1) := by decide +kernel
theorem dX8_fingerprint_114 : decode cX8_fingerprint 114 = .ok (.ladd, 1) := by decide +kernel
theorem dX8_fingerprint_115 : decode cX8_fingerprint 115 = .ok (.lstore_n 1, 1) := by decide +kernel
theorem dX8_fingerprint_116 : decode cX8_fingerprint 116 = .ok (.ldc2_w 204, 3) := by decide +kernel
theorem dX8_fingerprint_119 : decode cX8_fingerprint 119 = .ok (.lload_n 1, 1) := by decide +kernel
theorem dX8_fingerprint_120 : decode cX8_fingerprint 120 = .ok (.lmul, 1) := by decide +kernel
theorem dX8_fingerprint_121 : decode cX8_fingerprint 121 = .ok (.aload_n 0, 1) := by decide +kernel
theorem dX8_fingerprint_122 : decode cX8_fingerprint 122 = .ok (.getfield 12, 3) := by decide +kernel
theorem dX8_fingerprint_125 : decode cX8_fingerprint 125 = .ok (.getfield 102, 3) := by decide +kernel
theorem dX8_fingerprint_128 : decode cX8_fingerprint 128 = .ok (.getfield 150, 3) := by decide +kernel
theorem dX8_fingerprint_131 : decode cX8_fingerprint 131 = .ok (.iload_n 3, 1) := by decide +kernel
theorem dX8_fingerprint_132 : decode cX8_fingerprint 132 = .ok (.iaload, 1) := by decide +kernel
theorem dX8_fingerprint_133 : decode cX8_fingerprint 133 = .ok (.i2l, 1) := by decide +kernel
theorem dX8_fingerprint_134 : decode cX8_fingerprint 134 = .ok (.ladd, 1) := by decide +kernel
theorem dX8_fingerprint_135 : decode cX8_fingerprint 135 = .ok (.lstore_n 1, 1) := by decide +kernel
theorem dX8_fingerprint_136 : decode cX8_fingerprint 136 = .ok (.ldc2_w 204, 3) := by decide +kernel
theorem dX8_fingerprint_139 : decode cX8_fingerprint 139 = .ok (.lload_n 1, 1) := by decide +kernel
theorem dX8_fingerprint_140 : decode cX8_fingerprint 140 = .ok (.lmul, 1) := by decide +kernel
theorem dX8_fingerprint_141 : decode cX8_fingerprint 141 = .ok (.aload_n 0, 1) := by decide +kernel
theorem dX8_fingerprint_142 : decode cX8_fingerprint 142 = .ok (.getfield 12, 3) := by decide +kernel
theorem dX8_fingerprint_145 : decode cX8_fingerprint 145 = .ok (.getfield 102, 3) := by decide +kernel
theorem dX8_fingerprint_148 : decode cX8_fingerprint 148 = .ok (.getfield 140, 3) := by decide +kernel
theorem dX8_fingerprint_151 : decode cX8_fingerprint 151 = .ok (.iload_n 3, 1) := by decide +kernel
theorem dX8_fingerprint_152 : decode cX8_fingerprint 152 = .ok (.iaload, 1) := by decide +kernel
theorem dX8_fingerprint_153 : decode cX8_fingerprint 153 = .ok (.i2l, 1) := by decide +kernel
theorem dX8_fingerprint_154 : decode cX8_fingerprint 154 = .ok (.ladd, 1) := by decide +kernel
theorem dX8_fingerprint_155 : decode cX8_fingerprint 155 = .ok (.lstore_n 1, 1) := by decide +kernel
theorem dX8_fingerprint_156 : decode cX8_fingerprint 156 = .ok (.ldc2_w 204, 3) := by decide +kernel
theorem dX8_fingerprint_159 : decode cX8_fingerprint 159 = .ok (.lload_n 1, 1) := by decide +kernel
theorem dX8_fingerprint_160 : decode cX8_fingerprint 160 = .ok (.lmul, 1) := by decide +kernel
theorem dX8_fingerprint_161 : decode cX8_fingerprint 161 = .ok (.aload_n 0, 1) := by decide +kernel
theorem dX8_fingerprint_162 : decode cX8_fingerprint 162 = .ok (.getfield 12, 3) := by decide +kernel
theorem dX8_fingerprint_165 : decode cX8_fingerprint 165 = .ok (.getfield 102, 3) := by decide +kernel
theorem dX8_fingerprint_168 : decode cX8_fingerprint 168 = .ok (.getfield 153, 3) := by decide +kernel
theorem dX8_fingerprint_171 : decode cX8_fingerprint 171 = .ok (.iload_n 3, 1) := by decide +kernel
theorem dX8_fingerprint_172 : decode cX8_fingerprint 172 = .ok (.iaload, 1) := by decide +kernel
theorem dX8_fingerprint_173 : decode cX8_fingerprint 173 = .ok (.i2l, 1) := by decide +kernel
theorem dX8_fingerprint_174 : decode cX8_fingerprint 174 = .ok (.ladd, 1) := by decide +kernel
theorem dX8_fingerprint_175 : decode cX8_fingerprint 175 = .ok (.lstore_n 1, 1) := by decide +kernel
theorem dX8_fingerprint_176 : decode cX8_fingerprint 176 = .ok (.ldc2_w 204, 3) := by decide +kernel
theorem dX8_fingerprint_179 : decode cX8_fingerprint 179 = .ok (.lload_n 1, 1) := by decide +kernel
theorem dX8_fingerprint_180 : decode cX8_fingerprint 180 = .ok (.lmul, 1) := by decide +kernel
theorem dX8_fingerprint_181 : decode cX8_fingerprint 181 = .ok (.aload_n 0, 1) := by decide +kernel
theorem dX8_fingerprint_182 : decode cX8_fingerprint 182 = .ok (.getfield 26, 3) := by decide +kernel
theorem dX8_fingerprint_185 : decode cX8_fingerprint 185 = .ok (.getfield 159, 3) := by decide +kernel
theorem dX8_fingerprint_188 : decode cX8_fingerprint 188 = .ok (.iload_n 3, 1) := by decide +kernel
theorem dX8_fingerprint_189 : decode cX8_fingerprint 189 = .ok (.iaload, 1) := by decide +kernel
theorem dX8_fingerprint_190 : decode cX8_fingerprint 190 = .ok (.i2l, 1) := by decide +kernel
theorem dX8_fingerprint_191 : decode cX8_fingerprint 191 = .ok (.ladd, 1) := by decide +kernel
theorem dX8_fingerprint_192 : decode cX8_fingerprint 192 = .ok (.lstore_n 1, 1) := by decide +kernel
theorem dX8_fingerprint_193 : decode cX8_fingerprint 193 = .ok (.iinc 3 1, 3) := by decide +kernel
theorem dX8_fingerprint_196 : decode cX8_fingerprint 196 = .ok (.goto (-114), 3) := by decide +kernel
theorem dX8_fingerprint_199 : decode cX8_fingerprint 199 = .ok (.iconst 0, 1) := by decide +kernel
theorem dX8_fingerprint_200 : decode cX8_fingerprint 200 = .ok (.istore_n 3, 1) := by decide +kernel
theorem dX8_fingerprint_201 : decode cX8_fingerprint 201 = .ok (.iload_n 3, 1) := by decide +kernel
theorem dX8_fingerprint_202 : decode cX8_fingerprint 202 = .ok (.aload_n 0, 1) := by decide +kernel
theorem dX8_fingerprint_203 : decode cX8_fingerprint 203 = .ok (.getfield 12, 3) := by decide +kernel
theorem dX8_fingerprint_206 : decode cX8_fingerprint 206 = .ok (.getfield 48, 3) := by decide +kernel
theorem dX8_fingerprint_209 : decode cX8_fingerprint 209 = .ok (.getfield 52, 3) := by decide +kernel
theorem dX8_fingerprint_212 : decode cX8_fingerprint 212 = .ok (.if_icmp .ge 29, 3) := by decide +kernel
theorem dX8_fingerprint_215 : decode cX8_fingerprint 215 = .ok (.ldc2_w 204, 3) := by decide +kernel
theorem dX8_fingerprint_218 : decode cX8_fingerprint 218 = .ok (.lload_n 1, 1) := by decide +kernel
theorem dX8_fingerprint_219 : decode cX8_fingerprint 219 = .ok (.lmul, 1) := by decide +kernel
theorem dX8_fingerprint_220 : decode cX8_fingerprint 220 = .ok (.aload_n 0, 1) := by decide +kernel
theorem dX8_fingerprint_221 : decode cX8_fingerprint 221 = .ok (.getfield 12, 3) := by decide +kernel
theorem dX8_fingerprint_224 : decode cX8_fingerprint 224 = .ok (.getfield 48, 3) := by decide +kernel
theorem dX8_fingerprint_227 : decode cX8_fingerprint 227 = .ok (.getfield 144, 3) := by decide +kernel
theorem dX8_fingerprint_230 : decode cX8_fingerprint 230 = .ok (.iload_n 3, 1) := by decide +kernel
theorem dX8_fingerprint_231 : decode cX8_fingerprint 231 = .ok (.iaload, 1) := by decide +kernel
theorem dX8_fingerprint_232 : decode cX8_fingerprint 232 = .ok (.i2l, 1) := by decide +kernel
theorem dX8_fingerprint_233 : decode cX8_fingerprint 233 = .ok (.ladd, 1) := by decide +kernel
theorem dX8_fingerprint_234 : decode cX8_fingerprint 234 = .ok (.lstore_n 1, 1) := by decide +kernel
theorem dX8_fingerprint_235 : decode cX8_fingerprint 235 = .ok (.iinc 3 1, 3) := by decide +kernel
theorem dX8_fingerprint_238 : decode cX8_fingerprint 238 = .ok (.goto (-37), 3) := by decide +kernel
theorem dX8_fingerprint_241 : decode cX8_fingerprint 241 = .ok (.iconst 0, 1) := by decide +kernel
theorem dX8_fingerprint_242 : decode cX8_fingerprint 242 = .ok (.istore_n 3, 1) := by decide +kernel
theorem dX8_fingerprint_243 : decode cX8_fingerprint 243 = .ok (.iload_n 3, 1) := by decide +kernel
theorem dX8_fingerprint_244 : decode cX8_fingerprint 244 = .ok (.aload_n 0, 1) := by decide +kernel
theorem dX8_fingerprint_245 : decode cX8_fingerprint 245 = .ok (.getfield 12, 3) := by decide +kernel
theorem dX8_fingerprint_248 : decode cX8_fingerprint 248 = .ok (.getfield 73, 3) := by decide +kernel
theorem dX8_fingerprint_251 : decode cX8_fingerprint 251 = .ok (.getfield 77, 3) := by decide +kernel
theorem dX8_fingerprint_254 : decode cX8_fingerprint 254 = .ok (.if_icmp .ge 26, 3) := by decide +kernel
theorem dX8_fingerprint_257 : decode cX8_fingerprint 257 = .ok (.ldc2_w 204, 3) := by decide +kernel
theorem dX8_fingerprint_260 : decode cX8_fingerprint 260 = .ok (.lload_n 1, 1) := by decide +kernel
theorem dX8_fingerprint_261 : decode cX8_fingerprint 261 = .ok (.lmul, 1) := by decide +kernel
theorem dX8_fingerprint_262 : decode cX8_fingerprint 262 = .ok (.aload_n 0, 1) := by decide +kernel
theorem dX8_fingerprint_263 : decode cX8_fingerprint 263 = .ok (.getfield 26, 3) := by decide +kernel
theorem dX8_fingerprint_266 : decode cX8_fingerprint 266 = .ok (.getfield 162, 3) := by decide +kernel
theorem dX8_fingerprint_269 : decode cX8_fingerprint 269 = .ok (.iload_n 3, 1) := by decide +kernel
theorem dX8_fingerprint_270 : decode cX8_fingerprint 270 = .ok (.iaload, 1) := by decide +kernel
theorem dX8_fingerprint_271 : decode cX8_fingerprint 271 = .ok (.i2l, 1) := by decide +kernel
theorem dX8_fingerprint_272 : decode cX8_fingerprint 272 = .ok (.ladd, 1) := by decide +kernel
theorem dX8_fingerprint_273 : decode cX8_fingerprint 273 = .ok (.lstore_n 1, 1) := by decide +kernel
theorem dX8_fingerprint_274 : decode cX8_fingerprint 274 = .ok (.iinc 3 1, 3) := by decide +kernel
theorem dX8_fingerprint_277 : decode cX8_fingerprint 277 = .ok (.goto (-34), 3) := by decide +kernel
theorem dX8_fingerprint_280 : decode cX8_fingerprint 280 = .ok (.lload_n 1, 1) := by decide +kernel
theorem dX8_fingerprint_281 : decode cX8_fingerprint 281 = .ok (.lreturn, 1) := by decide +kernel
theorem dX8_within_0 : decode cX8_within 0 = .ok (.iload_n 0, 1) := by decide +kernel
theorem dX8_within_1 : decode cX8_within 1 = .ok (.iload_n 1, 1) := by decide +kernel
theorem dX8_within_2 : decode cX8_within 2 = .ok (.if_icmp .lt 12, 3) := by decide +kernel
theorem dX8_within_5 : decode cX8_within 5 = .ok (.iload_n 0, 1) := by decide +kernel
theorem dX8_within_6 : decode cX8_within 6 = .ok (.iload_n 2, 1) := by decide +kernel
theorem dX8_within_7 : decode cX8_within 7 = .ok (.if_icmp .gt 7, 3) := by decide +kernel
theorem dX8_within_10 : decode cX8_within 10 = .ok (.iconst 1, 1) := by decide +kernel
theorem dX8_within_11 : decode cX8_within 11 = .ok (.goto 4, 3) := by decide +kernel
theorem dX8_within_14 : decode cX8_within 14 = .ok (.iconst 0, 1) := by decide +kernel
theorem dX8_within_15 : decode cX8_within 15 = .ok (.ireturn, 1) := by decide +kernel
theorem dX8_isTime_0 : decode cX8_isTime 0 = .ok (.iload_n 0, 1) := by decide +kernel
theorem dX8_isTime_1 : decode cX8_isTime 1 = .ok (.iconst 0, 1) := by decide +kernel
theorem dX8_isTime_2 : decode cX8_isTime 2 = .ok (.sipush 10079, 3) := by decide +kernel
theorem dX8_isTime_5 : decode cX8_isTime 5 = .ok (.invokestatic 44, 3) := by decide +kernel
theorem dX8_isTime_8 : decode cX8_isTime 8 = .ok (.ireturn, 1) := by decide +kernel
theorem dX8_isInterval_0 : decode cX8_isInterval 0 = .ok (.iload_n 0, 1) := by decide +kernel
theorem dX8_isInterval_1 : decode cX8_isInterval 1 = .ok (.ifCond .lt 17, 3) := by decide +kernel
theorem dX8_isInterval_4 : decode cX8_isInterval 4 = .ok (.iload_n 0, 1) := by decide +kernel
theorem dX8_isInterval_5 : decode cX8_isInterval 5 = .ok (.iload_n 1, 1) := by decide +kernel
theorem dX8_isInterval_6 : decode cX8_isInterval 6 = .ok (.if_icmp .ge 12, 3) := by decide +kernel
theorem dX8_isInterval_9 : decode cX8_isInterval 9 = .ok (.iload_n 1, 1) := by decide +kernel
theorem dX8_isInterval_10 : decode cX8_isInterval 10 = .ok (.iload_n 2, 1) := by decide +kernel
theorem dX8_isInterval_11 : decode cX8_isInterval 11 = .ok (.if_icmp .gt 7, 3) := by decide +kernel
theorem dX8_isInterval_14 : decode cX8_isInterval 14 = .ok (.iconst 1, 1) := by decide +kernel
theorem dX8_isInterval_15 : decode cX8_isInterval 15 = .ok (.goto 4, 3) := by decide +kernel
theorem dX8_isInterval_18 : decode cX8_isInterval 18 = .ok (.iconst 0, 1) := by decide +kernel
theorem dX8_isInterval_19 : decode cX8_isInterval 19 = .ok (.ireturn, 1) := by decide +kernel
theorem dX8_isProgramme_0 : decode cX8_isProgramme 0 = .ok (.iload_n 1, 1) := by decide +kernel
theorem dX8_isProgramme_1 : decode cX8_isProgramme 1 = .ok (.iconst 0, 1) := by decide +kernel
theorem dX8_isProgramme_2 : decode cX8_isProgramme 2 = .ok (.aload_n 0, 1) := by decide +kernel
theorem dX8_isProgramme_3 : decode cX8_isProgramme 3 = .ok (.getfield 12, 3) := by decide +kernel
theorem dX8_isProgramme_6 : decode cX8_isProgramme 6 = .ok (.getfield 48, 3) := by decide +kernel
theorem dX8_isProgramme_9 : decode cX8_isProgramme 9 = .ok (.getfield 52, 3) := by decide +kernel
theorem dX8_isProgramme_12 : decode cX8_isProgramme 12 = .ok (.iconst 1, 1) := by decide +kernel
theorem dX8_isProgramme_13 : decode cX8_isProgramme 13 = .ok (.isub, 1) := by decide +kernel
theorem dX8_isProgramme_14 : decode cX8_isProgramme 14 = .ok (.invokestatic 44, 3) := by decide +kernel
theorem dX8_isProgramme_17 : decode cX8_isProgramme 17 = .ok (.ireturn, 1) := by decide +kernel
theorem dX8_isItem_0 : decode cX8_isItem 0 = .ok (.iload_n 1, 1) := by decide +kernel
theorem dX8_isItem_1 : decode cX8_isItem 1 = .ok (.iconst 0, 1) := by decide +kernel
theorem dX8_isItem_2 : decode cX8_isItem 2 = .ok (.aload_n 0, 1) := by decide +kernel
theorem dX8_isItem_3 : decode cX8_isItem 3 = .ok (.getfield 12, 3) := by decide +kernel
theorem dX8_isItem_6 : decode cX8_isItem 6 = .ok (.getfield 102, 3) := by decide +kernel
theorem dX8_isItem_9 : decode cX8_isItem 9 = .ok (.getfield 112, 3) := by decide +kernel
theorem dX8_isItem_12 : decode cX8_isItem 12 = .ok (.iconst 1, 1) := by decide +kernel
theorem dX8_isItem_13 : decode cX8_isItem 13 = .ok (.isub, 1) := by decide +kernel
theorem dX8_isItem_14 : decode cX8_isItem 14 = .ok (.invokestatic 44, 3) := by decide +kernel
theorem dX8_isItem_17 : decode cX8_isItem 17 = .ok (.ireturn, 1) := by decide +kernel
theorem dX8_obstacle_0 : decode cX8_obstacle 0 = .ok (.aload_n 0, 1) := by decide +kernel
theorem dX8_obstacle_1 : decode cX8_obstacle 1 = .ok (.getfield 12, 3) := by decide +kernel
theorem dX8_obstacle_4 : decode cX8_obstacle 4 = .ok (.getfield 102, 3) := by decide +kernel
theorem dX8_obstacle_7 : decode cX8_obstacle 7 = .ok (.getfield 112, 3) := by decide +kernel
theorem dX8_obstacle_10 : decode cX8_obstacle 10 = .ok (.bipush 60, 2) := by decide +kernel
theorem dX8_obstacle_12 : decode cX8_obstacle 12 = .ok (.if_icmp .lt 6, 3) := by decide +kernel
theorem dX8_obstacle_15 : decode cX8_obstacle 15 = .ok (.bipush (-3), 2) := by decide +kernel
theorem dX8_obstacle_17 : decode cX8_obstacle 17 = .ok (.ireturn, 1) := by decide +kernel
theorem dX8_obstacle_18 : decode cX8_obstacle 18 = .ok (.iload_n 2, 1) := by decide +kernel
theorem dX8_obstacle_19 : decode cX8_obstacle 19 = .ok (.aload_n 0, 1) := by decide +kernel
theorem dX8_obstacle_20 : decode cX8_obstacle 20 = .ok (.getfield 12, 3) := by decide +kernel
theorem dX8_obstacle_23 : decode cX8_obstacle 23 = .ok (.getfield 48, 3) := by decide +kernel
theorem dX8_obstacle_26 : decode cX8_obstacle 26 = .ok (.getfield 130, 3) := by decide +kernel
theorem dX8_obstacle_29 : decode cX8_obstacle 29 = .ok (.iload_n 1, 1) := by decide +kernel
theorem dX8_obstacle_30 : decode cX8_obstacle 30 = .ok (.iaload, 1) := by decide +kernel
theorem dX8_obstacle_31 : decode cX8_obstacle 31 = .ok (.iadd, 1) := by decide +kernel
theorem dX8_obstacle_32 : decode cX8_obstacle 32 = .ok (.istore_n 3, 1) := by decide +kernel
theorem dX8_obstacle_33 : decode cX8_obstacle 33 = .ok (.iload_n 3, 1) := by decide +kernel
theorem dX8_obstacle_34 : decode cX8_obstacle 34 = .ok (.sipush 10080, 3) := by decide +kernel
theorem dX8_obstacle_37 : decode cX8_obstacle 37 = .ok (.if_icmp .gt 20, 3) := by decide +kernel
theorem dX8_obstacle_40 : decode cX8_obstacle 40 = .ok (.aload_n 0, 1) := by decide +kernel
theorem dX8_obstacle_41 : decode cX8_obstacle 41 = .ok (.getfield 12, 3) := by decide +kernel
theorem dX8_obstacle_44 : decode cX8_obstacle 44 = .ok (.getfield 102, 3) := by decide +kernel
theorem dX8_obstacle_47 : decode cX8_obstacle 47 = .ok (.iload_n 2, 1) := by decide +kernel
theorem dX8_obstacle_48 : decode cX8_obstacle 48 = .ok (.iload_n 3, 1) := by decide +kernel
theorem dX8_obstacle_49 : decode cX8_obstacle 49 = .ok (.invokevirtual 119, 3) := by decide +kernel
theorem dX8_obstacle_52 : decode cX8_obstacle 52 = .ok (.bipush (-9), 2) := by decide +kernel
theorem dX8_obstacle_54 : decode cX8_obstacle 54 = .ok (.if_icmp .eq 6, 3) := by decide +kernel
theorem dX8_obstacle_57 : decode cX8_obstacle 57 = .ok (.bipush (-4), 2) := by decide +kernel
theorem dX8_obstacle_59 : decode cX8_obstacle 59 = .ok (.ireturn, 1) := by decide +kernel
theorem dX8_obstacle_60 : decode cX8_obstacle 60 = .ok (.aload_n 0, 1) := by decide +kernel
theorem dX8_obstacle_61 : decode cX8_obstacle 61 = .ok (.iload_n 1, 1) := by decide +kernel
theorem dX8_obstacle_62 : decode cX8_obstacle 62 = .ok (.iload_n 2, 1) := by decide +kernel
theorem dX8_obstacle_63 : decode cX8_obstacle 63 = .ok (.iload_n 3, 1) := by decide +kernel
theorem dX8_obstacle_64 : decode cX8_obstacle 64 = .ok (.invokevirtual 206, 3) := by decide +kernel
theorem dX8_obstacle_67 : decode cX8_obstacle 67 = .ok (.ifCond .ne 6, 3) := by decide +kernel
theorem dX8_obstacle_70 : decode cX8_obstacle 70 = .ok (.bipush (-5), 2) := by decide +kernel
theorem dX8_obstacle_72 : decode cX8_obstacle 72 = .ok (.ireturn, 1) := by decide +kernel
theorem dX8_obstacle_73 : decode cX8_obstacle 73 = .ok (.aload_n 0, 1) := by decide +kernel
theorem dX8_obstacle_74 : decode cX8_obstacle 74 = .ok (.getfield 12, 3) := by decide +kernel
theorem dX8_obstacle_77 : decode cX8_obstacle 77 = .ok (.getfield 83, 3) := by decide +kernel
theorem dX8_obstacle_80 : decode cX8_obstacle 80 = .ok (.aload_n 0, 1) := by decide +kernel
theorem dX8_obstacle_81 : decode cX8_obstacle 81 = .ok (.getfield 12, 3) := by decide +kernel
theorem dX8_obstacle_84 : decode cX8_obstacle 84 = .ok (.getfield 48, 3) := by decide +kernel
theorem dX8_obstacle_87 : decode cX8_obstacle 87 = .ok (.getfield 182, 3) := by decide +kernel
theorem dX8_obstacle_90 : decode cX8_obstacle 90 = .ok (.iload_n 1, 1) := by decide +kernel
theorem dX8_obstacle_91 : decode cX8_obstacle 91 = .ok (.iaload, 1) := by decide +kernel
theorem dX8_obstacle_92 : decode cX8_obstacle 92 = .ok (.iload_n 2, 1) := by decide +kernel
theorem dX8_obstacle_93 : decode cX8_obstacle 93 = .ok (.iload_n 3, 1) := by decide +kernel
theorem dX8_obstacle_94 : decode cX8_obstacle 94 = .ok (.invokevirtual 185, 3) := by decide +kernel
theorem dX8_obstacle_97 : decode cX8_obstacle 97 = .ok (.bipush (-9), 2) := by decide +kernel
theorem dX8_obstacle_99 : decode cX8_obstacle 99 = .ok (.if_icmp .eq 6, 3) := by decide +kernel
theorem dX8_obstacle_102 : decode cX8_obstacle 102 = .ok (.bipush (-6), 2) := by decide +kernel
theorem dX8_obstacle_104 : decode cX8_obstacle 104 = .ok (.ireturn, 1) := by decide +kernel
theorem dX8_obstacle_105 : decode cX8_obstacle 105 = .ok (.iconst 0, 1) := by decide +kernel
theorem dX8_obstacle_106 : decode cX8_obstacle 106 = .ok (.ireturn, 1) := by decide +kernel
theorem dX8_rightsAllow_0 : decode cX8_rightsAllow 0 = .ok (.aload_n 0, 1) := by decide +kernel
theorem dX8_rightsAllow_1 : decode cX8_rightsAllow 1 = .ok (.getfield 12, 3) := by decide +kernel
theorem dX8_rightsAllow_4 : decode cX8_rightsAllow 4 = .ok (.getfield 48, 3) := by decide +kernel
theorem dX8_rightsAllow_7 : decode cX8_rightsAllow 7 = .ok (.getfield 209, 3) := by decide +kernel
theorem dX8_rightsAllow_10 : decode cX8_rightsAllow 10 = .ok (.iload_n 1, 1) := by decide +kernel
theorem dX8_rightsAllow_11 : decode cX8_rightsAllow 11 = .ok (.iaload, 1) := by decide +kernel
theorem dX8_rightsAllow_12 : decode cX8_rightsAllow 12 = .ok (.iconst 2, 1) := by decide +kernel
theorem dX8_rightsAllow_13 : decode cX8_rightsAllow 13 = .ok (.if_icmp .ne 5, 3) := by decide +kernel
theorem dX8_rightsAllow_16 : decode cX8_rightsAllow 16 = .ok (.iconst 1, 1) := by decide +kernel
theorem dX8_rightsAllow_17 : decode cX8_rightsAllow 17 = .ok (.ireturn, 1) := by decide +kernel
theorem dX8_rightsAllow_18 : decode cX8_rightsAllow 18 = .ok (.aload_n 0, 1) := by decide +kernel
theorem dX8_rightsAllow_19 : decode cX8_rightsAllow 19 = .ok (.iload_n 1, 1) := by decide +kernel
theorem dX8_rightsAllow_20 : decode cX8_rightsAllow 20 = .ok (.invokevirtual 212, 3) := by decide +kernel
theorem dX8_rightsAllow_23 : decode cX8_rightsAllow 23 = .ok (.aload_n 0, 1) := by decide +kernel
theorem dX8_rightsAllow_24 : decode cX8_rightsAllow 24 = .ok (.getfield 26, 3) := by decide +kernel
theorem dX8_rightsAllow_27 : decode cX8_rightsAllow 27 = .ok (.iload_n 1, 1) := by decide +kernel
theorem dX8_rightsAllow_28 : decode cX8_rightsAllow 28 = .ok (.iload_n 2, 1) := by decide +kernel
theorem dX8_rightsAllow_29 : decode cX8_rightsAllow 29 = .ok (.iload_n 3, 1) := by decide +kernel
theorem dX8_rightsAllow_30 : decode cX8_rightsAllow 30 = .ok (.invokevirtual 215, 3) := by decide +kernel
theorem dX8_rightsAllow_33 : decode cX8_rightsAllow 33 = .ok (.aload_n 0, 1) := by decide +kernel
theorem dX8_rightsAllow_34 : decode cX8_rightsAllow 34 = .ok (.getfield 26, 3) := by decide +kernel
theorem dX8_rightsAllow_37 : decode cX8_rightsAllow 37 = .ok (.aload_n 0, 1) := by decide +kernel
theorem dX8_rightsAllow_38 : decode cX8_rightsAllow 38 = .ok (.getfield 12, 3) := by decide +kernel
theorem dX8_rightsAllow_41 : decode cX8_rightsAllow 41 = .ok (.getfield 73, 3) := by decide +kernel
theorem dX8_rightsAllow_44 : decode cX8_rightsAllow 44 = .ok (.invokevirtual 219, 3) := by decide +kernel
theorem dX8_rightsAllow_47 : decode cX8_rightsAllow 47 = .ok (.ireturn, 1) := by decide +kernel
theorem dX8_gatherItemsOf_0 : decode cX8_gatherItemsOf 0 = .ok (.aload_n 0, 1) := by decide +kernel
theorem dX8_gatherItemsOf_1 : decode cX8_gatherItemsOf 1 = .ok (.getfield 26, 3) := by decide +kernel
theorem dX8_gatherItemsOf_4 : decode cX8_gatherItemsOf 4 = .ok (.invokevirtual 223, 3) := by decide +kernel
theorem dX8_gatherItemsOf_7 : decode cX8_gatherItemsOf 7 = .ok (.iconst 0, 1) := by decide +kernel
theorem dX8_gatherItemsOf_8 : decode cX8_gatherItemsOf 8 = .ok (.istore_n 2, 1) := by decide +kernel
theorem dX8_gatherItemsOf_9 : decode cX8_gatherItemsOf 9 = .ok (.iload_n 2, 1) := by decide +kernel
theorem dX8_gatherItemsOf_10 : decode cX8_gatherItemsOf 10 = .ok (.aload_n 0, 1) := by decide +kernel
theorem dX8_gatherItemsOf_11 : decode cX8_gatherItemsOf 11 = .ok (.getfield 12, 3) := by decide +kernel
theorem dX8_gatherItemsOf_14 : decode cX8_gatherItemsOf 14 = .ok (.getfield 102, 3) := by decide +kernel
theorem dX8_gatherItemsOf_17 : decode cX8_gatherItemsOf 17 = .ok (.getfield 112, 3) := by decide +kernel
theorem dX8_gatherItemsOf_20 : decode cX8_gatherItemsOf 20 = .ok (.if_icmp .ge 56, 3) := by decide +kernel
theorem dX8_gatherItemsOf_23 : decode cX8_gatherItemsOf 23 = .ok (.aload_n 0, 1) := by decide +kernel
theorem dX8_gatherItemsOf_24 : decode cX8_gatherItemsOf 24 = .ok (.getfield 12, 3) := by decide +kernel
theorem dX8_gatherItemsOf_27 : decode cX8_gatherItemsOf 27 = .ok (.getfield 102, 3) := by decide +kernel
theorem dX8_gatherItemsOf_30 : decode cX8_gatherItemsOf 30 = .ok (.getfield 147, 3) := by decide +kernel
theorem dX8_gatherItemsOf_33 : decode cX8_gatherItemsOf 33 = .ok (.iload_n 2, 1) := by decide +kernel
theorem dX8_gatherItemsOf_34 : decode cX8_gatherItemsOf 34 = .ok (.iaload, 1) := by decide +kernel
theorem dX8_gatherItemsOf_35 : decode cX8_gatherItemsOf 35 = .ok (.iload_n 1, 1) := by decide +kernel
theorem dX8_gatherItemsOf_36 : decode cX8_gatherItemsOf 36 = .ok (.if_icmp .ne 34, 3) := by decide +kernel
theorem dX8_gatherItemsOf_39 : decode cX8_gatherItemsOf 39 = .ok (.aload_n 0, 1) := by decide +kernel
theorem dX8_gatherItemsOf_40 : decode cX8_gatherItemsOf 40 = .ok (.getfield 26, 3) := by decide +kernel
theorem dX8_gatherItemsOf_43 : decode cX8_gatherItemsOf 43 = .ok (.iload_n 1, 1) := by decide +kernel
theorem dX8_gatherItemsOf_44 : decode cX8_gatherItemsOf 44 = .ok (.aload_n 0, 1) := by decide +kernel
theorem dX8_gatherItemsOf_45 : decode cX8_gatherItemsOf 45 = .ok (.getfield 12, 3) := by decide +kernel
theorem dX8_gatherItemsOf_48 : decode cX8_gatherItemsOf 48 = .ok (.getfield 102, 3) := by decide +kernel
theorem dX8_gatherItemsOf_51 : decode cX8_gatherItemsOf 51 = .ok (.getfield 150, 3) := by decide +kernel
theorem dX8_gatherItemsOf_54 : decode cX8_gatherItemsOf 54 = .ok (.iload_n 2, 1) := by decide +kernel
theorem dX8_gatherItemsOf_55 : decode cX8_gatherItemsOf 55 = .ok (.iaload, 1) := by decide +kernel
theorem dX8_gatherItemsOf_56 : decode cX8_gatherItemsOf 56 = .ok (.aload_n 0, 1) := by decide +kernel
theorem dX8_gatherItemsOf_57 : decode cX8_gatherItemsOf 57 = .ok (.getfield 12, 3) := by decide +kernel
theorem dX8_gatherItemsOf_60 : decode cX8_gatherItemsOf 60 = .ok (.getfield 102, 3) := by decide +kernel
theorem dX8_gatherItemsOf_63 : decode cX8_gatherItemsOf 63 = .ok (.iload_n 2, 1) := by decide +kernel
theorem dX8_gatherItemsOf_64 : decode cX8_gatherItemsOf 64 = .ok (.invokevirtual 137, 3) := by decide +kernel
theorem dX8_gatherItemsOf_67 : decode cX8_gatherItemsOf 67 = .ok (.invokevirtual 215, 3) := by decide +kernel
theorem dX8_gatherItemsOf_70 : decode cX8_gatherItemsOf 70 = .ok (.iinc 2 1, 3) := by decide +kernel
theorem dX8_gatherItemsOf_73 : decode cX8_gatherItemsOf 73 = .ok (.goto (-64), 3) := by decide +kernel
theorem dX8_gatherItemsOf_76 : decode cX8_gatherItemsOf 76 = .ok (.return_, 1) := by decide +kernel
theorem dX8_putOnAir_0 : decode cX8_putOnAir 0 = .ok (.aload_n 0, 1) := by decide +kernel
theorem dX8_putOnAir_1 : decode cX8_putOnAir 1 = .ok (.getfield 12, 3) := by decide +kernel
theorem dX8_putOnAir_4 : decode cX8_putOnAir 4 = .ok (.getfield 102, 3) := by decide +kernel
theorem dX8_putOnAir_7 : decode cX8_putOnAir 7 = .ok (.iload_n 2, 1) := by decide +kernel
theorem dX8_putOnAir_8 : decode cX8_putOnAir 8 = .ok (.invokevirtual 226, 3) := by decide +kernel
theorem dX8_putOnAir_11 : decode cX8_putOnAir 11 = .ok (.istore 4, 2) := by decide +kernel
theorem dX8_putOnAir_13 : decode cX8_putOnAir 13 = .ok (.aload_n 0, 1) := by decide +kernel
theorem dX8_putOnAir_14 : decode cX8_putOnAir 14 = .ok (.getfield 12, 3) := by decide +kernel
theorem dX8_putOnAir_17 : decode cX8_putOnAir 17 = .ok (.getfield 102, 3) := by decide +kernel
theorem dX8_putOnAir_20 : decode cX8_putOnAir 20 = .ok (.iload 4, 2) := by decide +kernel
theorem dX8_putOnAir_22 : decode cX8_putOnAir 22 = .ok (.iload_n 1, 1) := by decide +kernel
theorem dX8_putOnAir_23 : decode cX8_putOnAir 23 = .ok (.iload_n 2, 1) := by decide +kernel
theorem dX8_putOnAir_24 : decode cX8_putOnAir 24 = .ok (.aload_n 0, 1) := by decide +kernel
theorem dX8_putOnAir_25 : decode cX8_putOnAir 25 = .ok (.getfield 12, 3) := by decide +kernel
theorem dX8_putOnAir_28 : decode cX8_putOnAir 28 = .ok (.getfield 48, 3) := by decide +kernel
theorem dX8_putOnAir_31 : decode cX8_putOnAir 31 = .ok (.getfield 130, 3) := by decide +kernel
theorem dX8_putOnAir_34 : decode cX8_putOnAir 34 = .ok (.iload_n 1, 1) := by decide +kernel
theorem dX8_putOnAir_35 : decode cX8_putOnAir 35 = .ok (.iaload, 1) := by decide +kernel
theorem dX8_putOnAir_36 : decode cX8_putOnAir 36 = .ok (.iload_n 3, 1) := by decide +kernel
theorem dX8_putOnAir_37 : decode cX8_putOnAir 37 = .ok (.invokevirtual 229, 3) := by decide +kernel
theorem dX8_putOnAir_40 : decode cX8_putOnAir 40 = .ok (.iload 4, 2) := by decide +kernel
theorem dX8_putOnAir_42 : decode cX8_putOnAir 42 = .ok (.ireturn, 1) := by decide +kernel
theorem dX8_earliestStart_0 : decode cX8_earliestStart 0 = .ok (.iload_n 2, 1) := by decide +kernel
theorem dX8_earliestStart_1 : decode cX8_earliestStart 1 = .ok (.sipush 1440, 3) := by decide +kernel
theorem dX8_earliestStart_4 : decode cX8_earliestStart 4 = .ok (.iadd, 1) := by decide +kernel
theorem dX8_earliestStart_5 : decode cX8_earliestStart 5 = .ok (.iconst 1, 1) := by decide +kernel
theorem dX8_earliestStart_6 : decode cX8_earliestStart 6 = .ok (.isub, 1) := by decide +kernel
theorem dX8_earliestStart_7 : decode cX8_earliestStart 7 = .ok (.sipush 10079, 3) := by decide +kernel
theorem dX8_earliestStart_10 : decode cX8_earliestStart 10 = .ok (.invokestatic 171, 3) := by decide +kernel
theorem dX8_earliestStart_13 : decode cX8_earliestStart 13 = .ok (.istore_n 3, 1) := by decide +kernel
theorem dX8_earliestStart_14 : decode cX8_earliestStart 14 = .ok (.iload_n 2, 1) := by decide +kernel
theorem dX8_earliestStart_15 : decode cX8_earliestStart 15 = .ok (.istore 4, 2) := by decide +kernel
theorem dX8_earliestStart_17 : decode cX8_earliestStart 17 = .ok (.iconst 0, 1) := by decide +kernel
theorem dX8_earliestStart_18 : decode cX8_earliestStart 18 = .ok (.istore 5, 2) := by decide +kernel
theorem dX8_earliestStart_20 : decode cX8_earliestStart 20 = .ok (.iload 5, 2) := by decide +kernel
theorem dX8_earliestStart_22 : decode cX8_earliestStart 22 = .ok (.sipush 1440, 3) := by decide +kernel
theorem dX8_earliestStart_25 : decode cX8_earliestStart 25 = .ok (.if_icmp .ge 43, 3) := by decide +kernel
theorem dX8_earliestStart_28 : decode cX8_earliestStart 28 = .ok (.iload 4, 2) := by decide +kernel
theorem dX8_earliestStart_30 : decode cX8_earliestStart 30 = .ok (.iload_n 3, 1) := by decide +kernel
theorem dX8_earliestStart_31 : decode cX8_earliestStart 31 = .ok (.if_icmp .gt 37, 3) := by decide +kernel
theorem dX8_earliestStart_34 : decode cX8_earliestStart 34 = .ok (.aload_n 0, 1) := by decide +kernel
theorem dX8_earliestStart_35 : decode cX8_earliestStart 35 = .ok (.iload_n 1, 1) := by decide +kernel
theorem dX8_earliestStart_36 : decode cX8_earliestStart 36 = .ok (.iload 4, 2) := by decide +kernel
theorem dX8_earliestStart_38 : decode cX8_earliestStart 38 = .ok (.invokevirtual 165, 3) := by decide +kernel
theorem dX8_earliestStart_41 : decode cX8_earliestStart 41 = .ok (.istore 6, 2) := by decide +kernel
theorem dX8_earliestStart_43 : decode cX8_earliestStart 43 = .ok (.iload 6, 2) := by decide +kernel
theorem dX8_earliestStart_45 : decode cX8_earliestStart 45 = .ok (.ifCond .ne 6, 3) := by decide +kernel
theorem dX8_earliestStart_48 : decode cX8_earliestStart 48 = .ok (.iload 4, 2) := by decide +kernel
theorem dX8_earliestStart_50 : decode cX8_earliestStart 50 = .ok (.ireturn, 1) := by decide +kernel
theorem dX8_earliestStart_51 : decode cX8_earliestStart 51 = .ok (.aload_n 0, 1) := by decide +kernel
theorem dX8_earliestStart_52 : decode cX8_earliestStart 52 = .ok (.iload_n 1, 1) := by decide +kernel
theorem dX8_earliestStart_53 : decode cX8_earliestStart 53 = .ok (.iload 4, 2) := by decide +kernel
theorem dX8_earliestStart_55 : decode cX8_earliestStart 55 = .ok (.iload 6, 2) := by decide +kernel
theorem dX8_earliestStart_57 : decode cX8_earliestStart 57 = .ok (.invokevirtual 233, 3) := by decide +kernel
theorem dX8_earliestStart_60 : decode cX8_earliestStart 60 = .ok (.istore 4, 2) := by decide +kernel
theorem dX8_earliestStart_62 : decode cX8_earliestStart 62 = .ok (.iinc 5 1, 3) := by decide +kernel
theorem dX8_earliestStart_65 : decode cX8_earliestStart 65 = .ok (.goto (-45), 3) := by decide +kernel
theorem dX8_earliestStart_68 : decode cX8_earliestStart 68 = .ok (.bipush (-9), 2) := by decide +kernel
theorem dX8_earliestStart_70 : decode cX8_earliestStart 70 = .ok (.ireturn, 1) := by decide +kernel
theorem dX8_nextToTry_0 : decode cX8_nextToTry 0 = .ok (.iload_n 2, 1) := by decide +kernel
theorem dX8_nextToTry_1 : decode cX8_nextToTry 1 = .ok (.aload_n 0, 1) := by decide +kernel
theorem dX8_nextToTry_2 : decode cX8_nextToTry 2 = .ok (.getfield 12, 3) := by decide +kernel
theorem dX8_nextToTry_5 : decode cX8_nextToTry 5 = .ok (.getfield 48, 3) := by decide +kernel
theorem dX8_nextToTry_8 : decode cX8_nextToTry 8 = .ok (.getfield 130, 3) := by decide +kernel
theorem dX8_nextToTry_11 : decode cX8_nextToTry 11 = .ok (.iload_n 1, 1) := by decide +kernel
theorem dX8_nextToTry_12 : decode cX8_nextToTry 12 = .ok (.iaload, 1) := by decide +kernel
theorem dX8_nextToTry_13 : decode cX8_nextToTry 13 = .ok (.iadd, 1) := by decide +kernel
theorem dX8_nextToTry_14 : decode cX8_nextToTry 14 = .ok (.istore 4, 2) := by decide +kernel
theorem dX8_nextToTry_16 : decode cX8_nextToTry 16 = .ok (.iload_n 3, 1) := by decide +kernel
theorem dX8_nextToTry_17 : decode cX8_nextToTry 17 = .ok (.bipush (-5), 2) := by decide +kernel
theorem dX8_nextToTry_19 : decode cX8_nextToTry 19 = .ok (.if_icmp .ne 10, 3) := by decide +kernel
theorem dX8_nextToTry_22 : decode cX8_nextToTry 22 = .ok (.aload_n 0, 1) := by decide +kernel
theorem dX8_nextToTry_23 : decode cX8_nextToTry 23 = .ok (.iload_n 1, 1) := by decide +kernel
theorem dX8_nextToTry_24 : decode cX8_nextToTry 24 = .ok (.iload_n 2, 1) := by decide +kernel
theorem dX8_nextToTry_25 : decode cX8_nextToTry 25 = .ok (.invokevirtual 236, 3) := by decide +kernel
theorem dX8_nextToTry_28 : decode cX8_nextToTry 28 = .ok (.ireturn, 1) := by decide +kernel
theorem dX8_nextToTry_29 : decode cX8_nextToTry 29 = .ok (.iload_n 3, 1) := by decide +kernel
theorem dX8_nextToTry_30 : decode cX8_nextToTry 30 = .ok (.bipush (-6), 2) := by decide +kernel
theorem dX8_nextToTry_32 : decode cX8_nextToTry 32 = .ok (.if_icmp .ne 29, 3) := by decide +kernel
theorem dX8_nextToTry_35 : decode cX8_nextToTry 35 = .ok (.aload_n 0, 1) := by decide +kernel
theorem dX8_nextToTry_36 : decode cX8_nextToTry 36 = .ok (.getfield 12, 3) := by decide +kernel
theorem dX8_nextToTry_39 : decode cX8_nextToTry 39 = .ok (.getfield 83, 3) := by decide +kernel
theorem dX8_nextToTry_42 : decode cX8_nextToTry 42 = .ok (.aload_n 0, 1) := by decide +kernel
theorem dX8_nextToTry_43 : decode cX8_nextToTry 43 = .ok (.getfield 12, 3) := by decide +kernel
theorem dX8_nextToTry_46 : decode cX8_nextToTry 46 = .ok (.getfield 48, 3) := by decide +kernel
theorem dX8_nextToTry_49 : decode cX8_nextToTry 49 = .ok (.getfield 182, 3) := by decide +kernel
theorem dX8_nextToTry_52 : decode cX8_nextToTry 52 = .ok (.iload_n 1, 1) := by decide +kernel
theorem dX8_nextToTry_53 : decode cX8_nextToTry 53 = .ok (.iaload, 1) := by decide +kernel
theorem dX8_nextToTry_54 : decode cX8_nextToTry 54 = .ok (.iload_n 2, 1) := by decide +kernel
theorem dX8_nextToTry_55 : decode cX8_nextToTry 55 = .ok (.iload 4, 2) := by decide +kernel
theorem dX8_nextToTry_57 : decode cX8_nextToTry 57 = .ok (.invokevirtual 185, 3) := by decide +kernel
theorem dX8_nextToTry_60 : decode cX8_nextToTry 60 = .ok (.ireturn, 1) := by decide +kernel
theorem dX8_nextToTry_61 : decode cX8_nextToTry 61 = .ok (.aload_n 0, 1) := by decide +kernel
theorem dX8_nextToTry_62 : decode cX8_nextToTry 62 = .ok (.getfield 12, 3) := by decide +kernel
theorem dX8_nextToTry_65 : decode cX8_nextToTry 65 = .ok (.getfield 102, 3) := by decide +kernel
theorem dX8_nextToTry_68 : decode cX8_nextToTry 68 = .ok (.iload_n 2, 1) := by decide +kernel
theorem dX8_nextToTry_69 : decode cX8_nextToTry 69 = .ok (.iload 4, 2) := by decide +kernel
theorem dX8_nextToTry_71 : decode cX8_nextToTry 71 = .ok (.invokevirtual 119, 3) := by decide +kernel
theorem dX8_nextToTry_74 : decode cX8_nextToTry 74 = .ok (.istore 5, 2) := by decide +kernel
theorem dX8_nextToTry_76 : decode cX8_nextToTry 76 = .ok (.iload_n 3, 1) := by decide +kernel
theorem dX8_nextToTry_77 : decode cX8_nextToTry 77 = .ok (.bipush (-3), 2) := by decide +kernel
theorem dX8_nextToTry_79 : decode cX8_nextToTry 79 = .ok (.if_icmp .eq 10, 3) := by decide +kernel
theorem dX8_nextToTry_82 : decode cX8_nextToTry 82 = .ok (.iload 5, 2) := by decide +kernel
theorem dX8_nextToTry_84 : decode cX8_nextToTry 84 = .ok (.bipush (-9), 2) := by decide +kernel
theorem dX8_nextToTry_86 : decode cX8_nextToTry 86 = .ok (.if_icmp .ne 9, 3) := by decide +kernel
theorem dX8_nextToTry_89 : decode cX8_nextToTry 89 = .ok (.sipush 10080, 3) := by decide +kernel
theorem dX8_nextToTry_92 : decode cX8_nextToTry 92 = .ok (.goto 15, 3) := by decide +kernel
theorem dX8_nextToTry_95 : decode cX8_nextToTry 95 = .ok (.aload_n 0, 1) := by decide +kernel
theorem dX8_nextToTry_96 : decode cX8_nextToTry 96 = .ok (.getfield 12, 3) := by decide +kernel
theorem dX8_nextToTry_99 : decode cX8_nextToTry 99 = .ok (.getfield 102, 3) := by decide +kernel
theorem dX8_nextToTry_102 : decode cX8_nextToTry 102 = .ok (.iload 5, 2) := by decide +kernel
theorem dX8_nextToTry_104 : decode cX8_nextToTry 104 = .ok (.invokevirtual 137, 3) := by decide +kernel
theorem dX8_nextToTry_107 : decode cX8_nextToTry 107 = .ok (.ireturn, 1) := by decide +kernel
theorem dX8_nextWindow_0 : decode cX8_nextWindow 0 = .ok (.sipush 10080, 3) := by decide +kernel
theorem dX8_nextWindow_3 : decode cX8_nextWindow 3 = .ok (.istore_n 3, 1) := by decide +kernel
theorem dX8_nextWindow_4 : decode cX8_nextWindow 4 = .ok (.iconst 0, 1) := by decide +kernel
theorem dX8_nextWindow_5 : decode cX8_nextWindow 5 = .ok (.istore 4, 2) := by decide +kernel
theorem dX8_nextWindow_7 : decode cX8_nextWindow 7 = .ok (.iload 4, 2) := by decide +kernel
theorem dX8_nextWindow_9 : decode cX8_nextWindow 9 = .ok (.aload_n 0, 1) := by decide +kernel
theorem dX8_nextWindow_10 : decode cX8_nextWindow 10 = .ok (.getfield 12, 3) := by decide +kernel
theorem dX8_nextWindow_13 : decode cX8_nextWindow 13 = .ok (.getfield 73, 3) := by decide +kernel
theorem dX8_nextWindow_16 : decode cX8_nextWindow 16 = .ok (.getfield 77, 3) := by decide +kernel
theorem dX8_nextWindow_19 : decode cX8_nextWindow 19 = .ok (.if_icmp .ge 56, 3) := by decide +kernel
theorem dX8_nextWindow_22 : decode cX8_nextWindow 22 = .ok (.aload_n 0, 1) := by decide +kernel
theorem dX8_nextWindow_23 : decode cX8_nextWindow 23 = .ok (.getfield 12, 3) := by decide +kernel
theorem dX8_nextWindow_26 : decode cX8_nextWindow 26 = .ok (.getfield 73, 3) := by decide +kernel
theorem dX8_nextWindow_29 : decode cX8_nextWindow 29 = .ok (.getfield 239, 3) := by decide +kernel
theorem dX8_nextWindow_32 : decode cX8_nextWindow 32 = .ok (.iload 4, 2) := by decide +kernel
theorem dX8_nextWindow_34 : decode cX8_nextWindow 34 = .ok (.iaload, 1) := by decide +kernel
theorem dX8_nextWindow_35 : decode cX8_nextWindow 35 = .ok (.istore 5, 2) := by decide +kernel
theorem dX8_nextWindow_37 : decode cX8_nextWindow 37 = .ok (.aload_n 0, 1) := by decide +kernel
theorem dX8_nextWindow_38 : decode cX8_nextWindow 38 = .ok (.getfield 12, 3) := by decide +kernel
theorem dX8_nextWindow_41 : decode cX8_nextWindow 41 = .ok (.getfield 73, 3) := by decide +kernel
theorem dX8_nextWindow_44 : decode cX8_nextWindow 44 = .ok (.getfield 242, 3) := by decide +kernel
theorem dX8_nextWindow_47 : decode cX8_nextWindow 47 = .ok (.iload 4, 2) := by decide +kernel
theorem dX8_nextWindow_49 : decode cX8_nextWindow 49 = .ok (.iaload, 1) := by decide +kernel
theorem dX8_nextWindow_50 : decode cX8_nextWindow 50 = .ok (.iload_n 1, 1) := by decide +kernel
theorem dX8_nextWindow_51 : decode cX8_nextWindow 51 = .ok (.if_icmp .ne 18, 3) := by decide +kernel
theorem dX8_nextWindow_54 : decode cX8_nextWindow 54 = .ok (.iload 5, 2) := by decide +kernel
theorem dX8_nextWindow_56 : decode cX8_nextWindow 56 = .ok (.iload_n 2, 1) := by decide +kernel
theorem dX8_nextWindow_57 : decode cX8_nextWindow 57 = .ok (.if_icmp .le 12, 3) := by decide +kernel
theorem dX8_nextWindow_60 : decode cX8_nextWindow 60 = .ok (.iload 5, 2) := by decide +kernel
theorem dX8_nextWindow_62 : decode cX8_nextWindow 62 = .ok (.iload_n 3, 1) := by decide +kernel
theorem dX8_nextWindow_63 : decode cX8_nextWindow 63 = .ok (.if_icmp .ge 6, 3) := by decide +kernel
theorem dX8_nextWindow_66 : decode cX8_nextWindow 66 = .ok (.iload 5, 2) := by decide +kernel
theorem dX8_nextWindow_68 : decode cX8_nextWindow 68 = .ok (.istore_n 3, 1) := by decide +kernel
theorem dX8_nextWindow_69 : decode cX8_nextWindow 69 = .ok (.iinc 4 1, 3) := by decide +kernel
theorem dX8_nextWindow_72 : decode cX8_nextWindow 72 = .ok (.goto (-65), 3) := by decide +kernel
theorem dX8_nextWindow_75 : decode cX8_nextWindow 75 = .ok (.iload_n 3, 1) := by decide +kernel
theorem dX8_nextWindow_76 : decode cX8_nextWindow 76 = .ok (.ireturn, 1) := by decide +kernel
theorem dX8_makeRoomAfter_0 : decode cX8_makeRoomAfter 0 = .ok (.aload_n 0, 1) := by decide +kernel
theorem dX8_makeRoomAfter_1 : decode cX8_makeRoomAfter 1 = .ok (.getfield 12, 3) := by decide +kernel
theorem dX8_makeRoomAfter_4 : decode cX8_makeRoomAfter 4 = .ok (.getfield 102, 3) := by decide +kernel
theorem dX8_makeRoomAfter_7 : decode cX8_makeRoomAfter 7 = .ok (.getfield 112, 3) := by decide +kernel
theorem dX8_makeRoomAfter_10 : decode cX8_makeRoomAfter 10 = .ok (.istore_n 2, 1) := by decide +kernel
theorem dX8_makeRoomAfter_11 : decode cX8_makeRoomAfter 11 = .ok (.aload_n 0, 1) := by decide +kernel
theorem dX8_makeRoomAfter_12 : decode cX8_makeRoomAfter 12 = .ok (.getfield 12, 3) := by decide +kernel
theorem dX8_makeRoomAfter_15 : decode cX8_makeRoomAfter 15 = .ok (.getfield 102, 3) := by decide +kernel
theorem dX8_makeRoomAfter_18 : decode cX8_makeRoomAfter 18 = .ok (.iload_n 1, 1) := by decide +kernel
theorem dX8_makeRoomAfter_19 : decode cX8_makeRoomAfter 19 = .ok (.invokevirtual 137, 3) := by decide +kernel
theorem dX8_makeRoomAfter_22 : decode cX8_makeRoomAfter 22 = .ok (.istore_n 3, 1) := by decide +kernel
theorem dX8_makeRoomAfter_23 : decode cX8_makeRoomAfter 23 = .ok (.iload_n 1, 1) := by decide +kernel
theorem dX8_makeRoomAfter_24 : decode cX8_makeRoomAfter 24 = .ok (.iconst 1, 1) := by decide +kernel
theorem dX8_makeRoomAfter_25 : decode cX8_makeRoomAfter 25 = .ok (.iadd, 1) := by decide +kernel
theorem dX8_makeRoomAfter_26 : decode cX8_makeRoomAfter 26 = .ok (.istore 4, 2) := by decide +kernel
theorem dX8_makeRoomAfter_28 : decode cX8_makeRoomAfter 28 = .ok (.iload_n 1, 1) := by decide +kernel
theorem dX8_makeRoomAfter_29 : decode cX8_makeRoomAfter 29 = .ok (.iconst 1, 1) := by decide +kernel
theorem dX8_makeRoomAfter_30 : decode cX8_makeRoomAfter 30 = .ok (.iadd, 1) := by decide +kernel
theorem dX8_makeRoomAfter_31 : decode cX8_makeRoomAfter 31 = .ok (.istore 5, 2) := by decide +kernel
theorem dX8_makeRoomAfter_33 : decode cX8_makeRoomAfter 33 = .ok (.iload 5, 2) := by decide +kernel
theorem dX8_makeRoomAfter_35 : decode cX8_makeRoomAfter 35 = .ok (.iload_n 2, 1) := by decide +kernel
theorem dX8_makeRoomAfter_36 : decode cX8_makeRoomAfter 36 = .ok (.if_icmp .ge 79, 3) := by decide +kernel
theorem dX8_makeRoomAfter_39 : decode cX8_makeRoomAfter 39 = .ok (.iload 4, 2) := by decide +kernel
theorem dX8_makeRoomAfter_41 : decode cX8_makeRoomAfter 41 = .ok (.aload_n 0, 1) := by decide +kernel
theorem dX8_makeRoomAfter_42 : decode cX8_makeRoomAfter 42 = .ok (.getfield 12, 3) := by decide +kernel
theorem dX8_makeRoomAfter_45 : decode cX8_makeRoomAfter 45 = .ok (.getfield 102, 3) := by decide +kernel
theorem dX8_makeRoomAfter_48 : decode cX8_makeRoomAfter 48 = .ok (.getfield 112, 3) := by decide +kernel
theorem dX8_makeRoomAfter_51 : decode cX8_makeRoomAfter 51 = .ok (.if_icmp .ge 64, 3) := by decide +kernel
theorem dX8_makeRoomAfter_54 : decode cX8_makeRoomAfter 54 = .ok (.aload_n 0, 1) := by decide +kernel
theorem dX8_makeRoomAfter_55 : decode cX8_makeRoomAfter 55 = .ok (.getfield 12, 3) := by decide +kernel
theorem dX8_makeRoomAfter_58 : decode cX8_makeRoomAfter 58 = .ok (.getfield 102, 3) := by decide +kernel
theorem dX8_makeRoomAfter_61 : decode cX8_makeRoomAfter 61 = .ok (.getfield 150, 3) := by decide +kernel
theorem dX8_makeRoomAfter_64 : decode cX8_makeRoomAfter 64 = .ok (.iload 4, 2) := by decide +kernel
theorem dX8_makeRoomAfter_66 : decode cX8_makeRoomAfter 66 = .ok (.iaload, 1) := by decide +kernel
theorem dX8_makeRoomAfter_67 : decode cX8_makeRoomAfter 67 = .ok (.iload_n 3, 1) := by decide +kernel
theorem dX8_makeRoomAfter_68 : decode cX8_makeRoomAfter 68 = .ok (.if_icmp .lt 6, 3) := by decide +kernel
theorem dX8_makeRoomAfter_71 : decode cX8_makeRoomAfter 71 = .ok (.goto 44, 3) := by decide +kernel
theorem dX8_makeRoomAfter_74 : decode cX8_makeRoomAfter 74 = .ok (.aload_n 0, 1) := by decide +kernel
theorem dX8_makeRoomAfter_75 : decode cX8_makeRoomAfter 75 = .ok (.iload 4, 2) := by decide +kernel
theorem dX8_makeRoomAfter_77 : decode cX8_makeRoomAfter 77 = .ok (.iload_n 3, 1) := by decide +kernel
theorem dX8_makeRoomAfter_78 : decode cX8_makeRoomAfter 78 = .ok (.invokevirtual 243, 3) := by decide +kernel
theorem dX8_makeRoomAfter_81 : decode cX8_makeRoomAfter 81 = .ok (.ifCond .eq 22, 3) := by decide +kernel
theorem dX8_makeRoomAfter_84 : decode cX8_makeRoomAfter 84 = .ok (.aload_n 0, 1) := by decide +kernel
theorem dX8_makeRoomAfter_85 : decode cX8_makeRoomAfter 85 = .ok (.getfield 12, 3) := by decide +kernel
theorem dX8_makeRoomAfter_88 : decode cX8_makeRoomAfter 88 = .ok (.getfield 102, 3) := by decide +kernel
theorem dX8_makeRoomAfter_91 : decode cX8_makeRoomAfter 91 = .ok (.iload 4, 2) := by decide +kernel
theorem dX8_makeRoomAfter_93 : decode cX8_makeRoomAfter 93 = .ok (.invokevirtual 137, 3) := by decide +kernel
theorem dX8_makeRoomAfter_96 : decode cX8_makeRoomAfter 96 = .ok (.istore_n 3, 1) := by decide +kernel
theorem dX8_makeRoomAfter_97 : decode cX8_makeRoomAfter 97 = .ok (.iinc 4 1, 3) := by decide +kernel
theorem dX8_makeRoomAfter_100 : decode cX8_makeRoomAfter 100 = .ok (.goto 9, 3) := by decide +kernel
theorem dX8_makeRoomAfter_103 : decode cX8_makeRoomAfter 103 = .ok (.aload_n 0, 1) := by decide +kernel
theorem dX8_makeRoomAfter_104 : decode cX8_makeRoomAfter 104 = .ok (.iload 4, 2) := by decide +kernel
theorem dX8_makeRoomAfter_106 : decode cX8_makeRoomAfter 106 = .ok (.invokevirtual 247, 3) := by decide +kernel
theorem dX8_makeRoomAfter_109 : decode cX8_makeRoomAfter 109 = .ok (.iinc 5 1, 3) := by decide +kernel
theorem dX8_makeRoomAfter_112 : decode cX8_makeRoomAfter 112 = .ok (.goto (-79), 3) := by decide +kernel
theorem dX8_makeRoomAfter_115 : decode cX8_makeRoomAfter 115 = .ok (.iload_n 2, 1) := by decide +kernel
theorem dX8_makeRoomAfter_116 : decode cX8_makeRoomAfter 116 = .ok (.aload_n 0, 1) := by decide +kernel
theorem dX8_makeRoomAfter_117 : decode cX8_makeRoomAfter 117 = .ok (.getfield 12, 3) := by decide +kernel
theorem dX8_makeRoomAfter_120 : decode cX8_makeRoomAfter 120 = .ok (.getfield 102, 3) := by decide +kernel
theorem dX8_makeRoomAfter_123 : decode cX8_makeRoomAfter 123 = .ok (.getfield 112, 3) := by decide +kernel
theorem dX8_makeRoomAfter_126 : decode cX8_makeRoomAfter 126 = .ok (.isub, 1) := by decide +kernel
theorem dX8_makeRoomAfter_127 : decode cX8_makeRoomAfter 127 = .ok (.ireturn, 1) := by decide +kernel
theorem dX8_giveWay_0 : decode cX8_giveWay 0 = .ok (.aload_n 0, 1) := by decide +kernel
theorem dX8_giveWay_1 : decode cX8_giveWay 1 = .ok (.iload_n 1, 1) := by decide +kernel
theorem dX8_giveWay_2 : decode cX8_giveWay 2 = .ok (.invokevirtual 133, 3) := by decide +kernel
theorem dX8_giveWay_5 : decode cX8_giveWay 5 = .ok (.iconst 2, 1) := by decide +kernel
theorem dX8_giveWay_6 : decode cX8_giveWay 6 = .ok (.if_icmp .ne 5, 3) := by decide +kernel
theorem dX8_giveWay_9 : decode cX8_giveWay 9 = .ok (.iconst 0, 1) := by decide +kernel
theorem dX8_giveWay_10 : decode cX8_giveWay 10 = .ok (.ireturn, 1) := by decide +kernel
theorem dX8_giveWay_11 : decode cX8_giveWay 11 = .ok (.aload_n 0, 1) := by decide +kernel
theorem dX8_giveWay_12 : decode cX8_giveWay 12 = .ok (.getfield 12, 3) := by decide +kernel
theorem dX8_giveWay_15 : decode cX8_giveWay 15 = .ok (.getfield 102, 3) := by decide +kernel
theorem dX8_giveWay_18 : decode cX8_giveWay 18 = .ok (.getfield 153, 3) := by decide +kernel
theorem dX8_giveWay_21 : decode cX8_giveWay 21 = .ok (.iload_n 1, 1) := by decide +kernel
theorem dX8_giveWay_22 : decode cX8_giveWay 22 = .ok (.iaload, 1) := by decide +kernel
theorem dX8_giveWay_23 : decode cX8_giveWay 23 = .ok (.iconst 1, 1) := by decide +kernel
theorem dX8_giveWay_24 : decode cX8_giveWay 24 = .ok (.if_icmp .ne 12, 3) := by decide +kernel
theorem dX8_giveWay_27 : decode cX8_giveWay 27 = .ok (.aload_n 0, 1) := by decide +kernel
theorem dX8_giveWay_28 : decode cX8_giveWay 28 = .ok (.iload_n 1, 1) := by decide +kernel
theorem dX8_giveWay_29 : decode cX8_giveWay 29 = .ok (.iload_n 2, 1) := by decide +kernel
theorem dX8_giveWay_30 : decode cX8_giveWay 30 = .ok (.invokevirtual 250, 3) := by decide +kernel
theorem dX8_giveWay_33 : decode cX8_giveWay 33 = .ok (.goto 9, 3) := by decide +kernel
theorem dX8_giveWay_36 : decode cX8_giveWay 36 = .ok (.aload_n 0, 1) := by decide +kernel
theorem dX8_giveWay_37 : decode cX8_giveWay 37 = .ok (.iload_n 1, 1) := by decide +kernel
theorem dX8_giveWay_38 : decode cX8_giveWay 38 = .ok (.iload_n 2, 1) := by decide +kernel
theorem dX8_giveWay_39 : decode cX8_giveWay 39 = .ok (.invokevirtual 253, 3) := by decide +kernel
theorem dX8_giveWay_42 : decode cX8_giveWay 42 = .ok (.ireturn, 1) := by decide +kernel
theorem dX8_cut_0 : decode cX8_cut 0 = .ok (.aload_n 0, 1) := by decide +kernel
theorem dX8_cut_1 : decode cX8_cut 1 = .ok (.getfield 12, 3) := by decide +kernel
theorem dX8_cut_4 : decode cX8_cut 4 = .ok (.getfield 102, 3) := by decide +kernel
theorem dX8_cut_7 : decode cX8_cut 7 = .ok (.iload_n 1, 1) := by decide +kernel
theorem dX8_cut_8 : decode cX8_cut 8 = .ok (.invokevirtual 137, 3) := by decide +kernel
theorem dX8_cut_11 : decode cX8_cut 11 = .ok (.istore_n 3, 1) := by decide +kernel
theorem dX8_cut_12 : decode cX8_cut 12 = .ok (.iload_n 3, 1) := by decide +kernel
theorem dX8_cut_13 : decode cX8_cut 13 = .ok (.iload_n 2, 1) := by decide +kernel
theorem dX8_cut_14 : decode cX8_cut 14 = .ok (.if_icmp .gt 5, 3) := by decide +kernel
theorem dX8_cut_17 : decode cX8_cut 17 = .ok (.iconst 0, 1) := by decide +kernel
theorem dX8_cut_18 : decode cX8_cut 18 = .ok (.ireturn, 1) := by decide +kernel
theorem dX8_cut_19 : decode cX8_cut 19 = .ok (.aload_n 0, 1) := by decide +kernel
theorem dX8_cut_20 : decode cX8_cut 20 = .ok (.getfield 12, 3) := by decide +kernel
theorem dX8_cut_23 : decode cX8_cut 23 = .ok (.getfield 102, 3) := by decide +kernel
theorem dX8_cut_26 : decode cX8_cut 26 = .ok (.getfield 150, 3) := by decide +kernel
theorem dX8_cut_29 : decode cX8_cut 29 = .ok (.iload_n 1, 1) := by decide +kernel
theorem dX8_cut_30 : decode cX8_cut 30 = .ok (.iload_n 2, 1) := by decide +kernel
theorem dX8_cut_31 : decode cX8_cut 31 = .ok (.iastore, 1) := by decide +kernel
theorem dX8_cut_32 : decode cX8_cut 32 = .ok (.aload_n 0, 1) := by decide +kernel
theorem dX8_cut_33 : decode cX8_cut 33 = .ok (.getfield 12, 3) := by decide +kernel
theorem dX8_cut_36 : decode cX8_cut 36 = .ok (.getfield 102, 3) := by decide +kernel
theorem dX8_cut_39 : decode cX8_cut 39 = .ok (.getfield 140, 3) := by decide +kernel
theorem dX8_cut_42 : decode cX8_cut 42 = .ok (.iload_n 1, 1) := by decide +kernel
theorem dX8_cut_43 : decode cX8_cut 43 = .ok (.iload_n 3, 1) := by decide +kernel
theorem dX8_cut_44 : decode cX8_cut 44 = .ok (.iload_n 2, 1) := by decide +kernel
theorem dX8_cut_45 : decode cX8_cut 45 = .ok (.isub, 1) := by decide +kernel
theorem dX8_cut_46 : decode cX8_cut 46 = .ok (.iastore, 1) := by decide +kernel
theorem dX8_cut_47 : decode cX8_cut 47 = .ok (.iconst 1, 1) := by decide +kernel
theorem dX8_cut_48 : decode cX8_cut 48 = .ok (.ireturn, 1) := by decide +kernel
theorem dX8_push_0 : decode cX8_push 0 = .ok (.aload_n 0, 1) := by decide +kernel
theorem dX8_push_1 : decode cX8_push 1 = .ok (.getfield 12, 3) := by decide +kernel
theorem dX8_push_4 : decode cX8_push 4 = .ok (.getfield 102, 3) := by decide +kernel
theorem dX8_push_7 : decode cX8_push 7 = .ok (.getfield 147, 3) := by decide +kernel
theorem dX8_push_10 : decode cX8_push 10 = .ok (.iload_n 1, 1) := by decide +kernel
theorem dX8_push_11 : decode cX8_push 11 = .ok (.iaload, 1) := by decide +kernel
theorem dX8_push_12 : decode cX8_push 12 = .ok (.istore_n 3, 1) := by decide +kernel
theorem dX8_push_13 : decode cX8_push 13 = .ok (.iload_n 2, 1) := by decide +kernel
theorem dX8_push_14 : decode cX8_push 14 = .ok (.aload_n 0, 1) := by decide +kernel
theorem dX8_push_15 : decode cX8_push 15 = .ok (.getfield 12, 3) := by decide +kernel
theorem dX8_push_18 : decode cX8_push 18 = .ok (.getfield 102, 3) := by decide +kernel
theorem dX8_push_21 : decode cX8_push 21 = .ok (.getfield 140, 3) := by decide +kernel
theorem dX8_push_24 : decode cX8_push 24 = .ok (.iload_n 1, 1) := by decide +kernel
theorem dX8_push_25 : decode cX8_push 25 = .ok (.iaload, 1) := by decide +kernel
theorem dX8_push_26 : decode cX8_push 26 = .ok (.iadd, 1) := by decide +kernel
theorem dX8_push_27 : decode cX8_push 27 = .ok (.istore 4, 2) := by decide +kernel
theorem dX8_push_29 : decode cX8_push 29 = .ok (.iload 4, 2) := by decide +kernel
theorem dX8_push_31 : decode cX8_push 31 = .ok (.sipush 10080, 3) := by decide +kernel
theorem dX8_push_34 : decode cX8_push 34 = .ok (.if_icmp .gt 33, 3) := by decide +kernel
theorem dX8_push_37 : decode cX8_push 37 = .ok (.aload_n 0, 1) := by decide +kernel
theorem dX8_push_38 : decode cX8_push 38 = .ok (.getfield 12, 3) := by decide +kernel
theorem dX8_push_41 : decode cX8_push 41 = .ok (.getfield 83, 3) := by decide +kernel
theorem dX8_push_44 : decode cX8_push 44 = .ok (.aload_n 0, 1) := by decide +kernel
theorem dX8_push_45 : decode cX8_push 45 = .ok (.getfield 12, 3) := by decide +kernel
theorem dX8_push_48 : decode cX8_push 48 = .ok (.getfield 48, 3) := by decide +kernel
theorem dX8_push_51 : decode cX8_push 51 = .ok (.getfield 182, 3) := by decide +kernel
theorem dX8_push_54 : decode cX8_push 54 = .ok (.iload_n 3, 1) := by decide +kernel
theorem dX8_push_55 : decode cX8_push 55 = .ok (.iaload, 1) := by decide +kernel
theorem dX8_push_56 : decode cX8_push 56 = .ok (.iload_n 2, 1) := by decide +kernel
theorem dX8_push_57 : decode cX8_push 57 = .ok (.iload 4, 2) := by decide +kernel
theorem dX8_push_59 : decode cX8_push 59 = .ok (.invokevirtual 185, 3) := by decide +kernel
theorem dX8_push_62 : decode cX8_push 62 = .ok (.bipush (-9), 2) := by decide +kernel
theorem dX8_push_64 : decode cX8_push 64 = .ok (.if_icmp .eq 5, 3) := by decide +kernel
theorem dX8_push_67 : decode cX8_push 67 = .ok (.iconst 0, 1) := by decide +kernel
theorem dX8_push_68 : decode cX8_push 68 = .ok (.ireturn, 1) := by decide +kernel
theorem dX8_push_69 : decode cX8_push 69 = .ok (.aload_n 0, 1) := by decide +kernel
theorem dX8_push_70 : decode cX8_push 70 = .ok (.getfield 12, 3) := by decide +kernel
theorem dX8_push_73 : decode cX8_push 73 = .ok (.getfield 102, 3) := by decide +kernel
theorem dX8_push_76 : decode cX8_push 76 = .ok (.getfield 150, 3) := by decide +kernel
theorem dX8_push_79 : decode cX8_push 79 = .ok (.iload_n 1, 1) := by decide +kernel
theorem dX8_push_80 : decode cX8_push 80 = .ok (.iload_n 2, 1) := by decide +kernel
theorem dX8_push_81 : decode cX8_push 81 = .ok (.iastore, 1) := by decide +kernel
theorem dX8_push_82 : decode cX8_push 82 = .ok (.aload_n 0, 1) := by decide +kernel
theorem dX8_push_83 : decode cX8_push 83 = .ok (.iload_n 3, 1) := by decide +kernel
theorem dX8_push_84 : decode cX8_push 84 = .ok (.invokevirtual 212, 3) := by decide +kernel
theorem dX8_push_87 : decode cX8_push 87 = .ok (.aload_n 0, 1) := by decide +kernel
theorem dX8_push_88 : decode cX8_push 88 = .ok (.getfield 26, 3) := by decide +kernel
theorem dX8_push_91 : decode cX8_push 91 = .ok (.aload_n 0, 1) := by decide +kernel
theorem dX8_push_92 : decode cX8_push 92 = .ok (.getfield 12, 3) := by decide +kernel
theorem dX8_push_95 : decode cX8_push 95 = .ok (.getfield 73, 3) := by decide +kernel
theorem dX8_push_98 : decode cX8_push 98 = .ok (.invokevirtual 219, 3) := by decide +kernel
theorem dX8_push_101 : decode cX8_push 101 = .ok (.ireturn, 1) := by decide +kernel
theorem dX8_drop_0 : decode cX8_drop 0 = .ok (.aload_n 0, 1) := by decide +kernel
theorem dX8_drop_1 : decode cX8_drop 1 = .ok (.iload_n 1, 1) := by decide +kernel
theorem dX8_drop_2 : decode cX8_drop 2 = .ok (.invokevirtual 133, 3) := by decide +kernel
theorem dX8_drop_5 : decode cX8_drop 5 = .ok (.iconst 3, 1) := by decide +kernel
theorem dX8_drop_6 : decode cX8_drop 6 = .ok (.if_icmp .ne 30, 3) := by decide +kernel
theorem dX8_drop_9 : decode cX8_drop 9 = .ok (.aload_n 0, 1) := by decide +kernel
theorem dX8_drop_10 : decode cX8_drop 10 = .ok (.getfield 12, 3) := by decide +kernel
theorem dX8_drop_13 : decode cX8_drop 13 = .ok (.getfield 48, 3) := by decide +kernel
theorem dX8_drop_16 : decode cX8_drop 16 = .ok (.getfield 144, 3) := by decide +kernel
theorem dX8_drop_19 : decode cX8_drop 19 = .ok (.aload_n 0, 1) := by decide +kernel
theorem dX8_drop_20 : decode cX8_drop 20 = .ok (.getfield 12, 3) := by decide +kernel
theorem dX8_drop_23 : decode cX8_drop 23 = .ok (.getfield 102, 3) := by decide +kernel
theorem dX8_drop_26 : decode cX8_drop 26 = .ok (.getfield 147, 3) := by decide +kernel
theorem dX8_drop_29 : decode cX8_drop 29 = .ok (.iload_n 1, 1) := by decide +kernel
theorem dX8_drop_30 : decode cX8_drop 30 = .ok (.iaload, 1) := by decide +kernel
theorem dX8_drop_31 : decode cX8_drop 31 = .ok (.dup2, 1) := by decide +kernel
theorem dX8_drop_32 : decode cX8_drop 32 = .ok (.iaload, 1) := by decide +kernel
theorem dX8_drop_33 : decode cX8_drop 33 = .ok (.iconst 1, 1) := by decide +kernel
theorem dX8_drop_34 : decode cX8_drop 34 = .ok (.iadd, 1) := by decide +kernel
theorem dX8_drop_35 : decode cX8_drop 35 = .ok (.iastore, 1) := by decide +kernel
theorem dX8_drop_36 : decode cX8_drop 36 = .ok (.aload_n 0, 1) := by decide +kernel
theorem dX8_drop_37 : decode cX8_drop 37 = .ok (.getfield 12, 3) := by decide +kernel
theorem dX8_drop_40 : decode cX8_drop 40 = .ok (.getfield 102, 3) := by decide +kernel
theorem dX8_drop_43 : decode cX8_drop 43 = .ok (.iload_n 1, 1) := by decide +kernel
theorem dX8_drop_44 : decode cX8_drop 44 = .ok (.invokevirtual 106, 3) := by decide +kernel
theorem dX8_drop_47 : decode cX8_drop 47 = .ok (.return_, 1) := by decide +kernel
theorem dX8_kindOf_0 : decode cX8_kindOf 0 = .ok (.aload_n 0, 1) := by decide +kernel
theorem dX8_kindOf_1 : decode cX8_kindOf 1 = .ok (.getfield 12, 3) := by decide +kernel
theorem dX8_kindOf_4 : decode cX8_kindOf 4 = .ok (.getfield 48, 3) := by decide +kernel
theorem dX8_kindOf_7 : decode cX8_kindOf 7 = .ok (.getfield 209, 3) := by decide +kernel
theorem dX8_kindOf_10 : decode cX8_kindOf 10 = .ok (.aload_n 0, 1) := by decide +kernel
theorem dX8_kindOf_11 : decode cX8_kindOf 11 = .ok (.getfield 12, 3) := by decide +kernel
theorem dX8_kindOf_14 : decode cX8_kindOf 14 = .ok (.getfield 102, 3) := by decide +kernel
theorem dX8_kindOf_17 : decode cX8_kindOf 17 = .ok (.getfield 147, 3) := by decide +kernel
theorem dX8_kindOf_20 : decode cX8_kindOf 20 = .ok (.iload_n 1, 1) := by decide +kernel
theorem dX8_kindOf_21 : decode cX8_kindOf 21 = .ok (.iaload, 1) := by decide +kernel
theorem dX8_kindOf_22 : decode cX8_kindOf 22 = .ok (.iaload, 1) := by decide +kernel
theorem dX8_kindOf_23 : decode cX8_kindOf 23 = .ok (.ireturn, 1) := by decide +kernel
theorem dX8_shareRights_0 : decode cX8_shareRights 0 = .ok (.aload_n 0, 1) := by decide +kernel
theorem dX8_shareRights_1 : decode cX8_shareRights 1 = .ok (.getfield 26, 3) := by decide +kernel
theorem dX8_shareRights_4 : decode cX8_shareRights 4 = .ok (.invokevirtual 223, 3) := by decide +kernel
theorem dX8_shareRights_7 : decode cX8_shareRights 7 = .ok (.iconst 0, 1) := by decide +kernel
theorem dX8_shareRights_8 : decode cX8_shareRights 8 = .ok (.istore_n 1, 1) := by decide +kernel
theorem dX8_shareRights_9 : decode cX8_shareRights 9 = .ok (.iload_n 1, 1) := by decide +kernel
theorem dX8_shareRights_10 : decode cX8_shareRights 10 = .ok (.aload_n 0, 1) := by decide +kernel
theorem dX8_shareRights_11 : decode cX8_shareRights 11 = .ok (.getfield 12, 3) := by decide +kernel
theorem dX8_shareRights_14 : decode cX8_shareRights 14 = .ok (.getfield 102, 3) := by decide +kernel
theorem dX8_shareRights_17 : decode cX8_shareRights 17 = .ok (.getfield 112, 3) := by decide +kernel
theorem dX8_shareRights_20 : decode cX8_shareRights 20 = .ok (.if_icmp .ge 67, 3) := by decide +kernel
theorem dX8_shareRights_23 : decode cX8_shareRights 23 = .ok (.aload_n 0, 1) := by decide +kernel
theorem dX8_shareRights_24 : decode cX8_shareRights 24 = .ok (.iload_n 1, 1) := by decide +kernel
theorem dX8_shareRights_25 : decode cX8_shareRights 25 = .ok (.invokevirtual 133, 3) := by decide +kernel
theorem dX8_shareRights_28 : decode cX8_shareRights 28 = .ok (.iconst 2, 1) := by decide +kernel
theorem dX8_shareRights_29 : decode cX8_shareRights 29 = .ok (.if_icmp .ne 8, 3) := by decide +kernel
theorem dX8_shareRights_32 : decode cX8_shareRights 32 = .ok (.bipush (-9), 2) := by decide +kernel
theorem dX8_shareRights_34 : decode cX8_shareRights 34 = .ok (.goto 15, 3) := by decide +kernel
theorem dX8_shareRights_37 : decode cX8_shareRights 37 = .ok (.aload_n 0, 1) := by decide +kernel
theorem dX8_shareRights_38 : decode cX8_shareRights 38 = .ok (.getfield 12, 3) := by decide +kernel
theorem dX8_shareRights_41 : decode cX8_shareRights 41 = .ok (.getfield 102, 3) := by decide +kernel
theorem dX8_shareRights_44 : decode cX8_shareRights 44 = .ok (.getfield 147, 3) := by decide +kernel
theorem dX8_shareRights_47 : decode cX8_shareRights 47 = .ok (.iload_n 1, 1) := by decide +kernel
theorem dX8_shareRights_48 : decode cX8_shareRights 48 = .ok (.iaload, 1) := by decide +kernel
theorem dX8_shareRights_49 : decode cX8_shareRights 49 = .ok (.istore_n 2, 1) := by decide +kernel
theorem dX8_shareRights_50 : decode cX8_shareRights 50 = .ok (.aload_n 0, 1) := by decide +kernel
theorem dX8_shareRights_51 : decode cX8_shareRights 51 = .ok (.getfield 26, 3) := by decide +kernel
theorem dX8_shareRights_54 : decode cX8_shareRights 54 = .ok (.iload_n 2, 1) := by decide +kernel
theorem dX8_shareRights_55 : decode cX8_shareRights 55 = .ok (.aload_n 0, 1) := by decide +kernel
theorem dX8_shareRights_56 : decode cX8_shareRights 56 = .ok (.getfield 12, 3) := by decide +kernel
theorem dX8_shareRights_59 : decode cX8_shareRights 59 = .ok (.getfield 102, 3) := by decide +kernel
theorem dX8_shareRights_62 : decode cX8_shareRights 62 = .ok (.getfield 150, 3) := by decide +kernel
theorem dX8_shareRights_65 : decode cX8_shareRights 65 = .ok (.iload_n 1, 1) := by decide +kernel
theorem dX8_shareRights_66 : decode cX8_shareRights 66 = .ok (.iaload, 1) := by decide +kernel
theorem dX8_shareRights_67 : decode cX8_shareRights 67 = .ok (.aload_n 0, 1) := by decide +kernel
theorem dX8_shareRights_68 : decode cX8_shareRights 68 = .ok (.getfield 12, 3) := by decide +kernel
theorem dX8_shareRights_71 : decode cX8_shareRights 71 = .ok (.getfield 102, 3) := by decide +kernel
theorem dX8_shareRights_74 : decode cX8_shareRights 74 = .ok (.iload_n 1, 1) := by decide +kernel
theorem dX8_shareRights_75 : decode cX8_shareRights 75 = .ok (.invokevirtual 137, 3) := by decide +kernel
theorem dX8_shareRights_78 : decode cX8_shareRights 78 = .ok (.invokevirtual 215, 3) := by decide +kernel
theorem dX8_shareRights_81 : decode cX8_shareRights 81 = .ok (.iinc 1 1, 3) := by decide +kernel
theorem dX8_shareRights_84 : decode cX8_shareRights 84 = .ok (.goto (-75), 3) := by decide +kernel
theorem dX8_shareRights_87 : decode cX8_shareRights 87 = .ok (.aload_n 0, 1) := by decide +kernel
theorem dX8_shareRights_88 : decode cX8_shareRights 88 = .ok (.getfield 26, 3) := by decide +kernel
theorem dX8_shareRights_91 : decode cX8_shareRights 91 = .ok (.aload_n 0, 1) := by decide +kernel
theorem dX8_shareRights_92 : decode cX8_shareRights 92 = .ok (.getfield 12, 3) := by decide +kernel
theorem dX8_shareRights_95 : decode cX8_shareRights 95 = .ok (.getfield 73, 3) := by decide +kernel
theorem dX8_shareRights_98 : decode cX8_shareRights 98 = .ok (.invokevirtual 219, 3) := by decide +kernel
theorem dX8_shareRights_101 : decode cX8_shareRights 101 = .ok (.pop, 1) := by decide +kernel
theorem dX8_shareRights_102 : decode cX8_shareRights 102 = .ok (.return_, 1) := by decide +kernel
theorem dX8_programmesAhead_0 : decode cX8_programmesAhead 0 = .ok (.aload_n 0, 1) := by decide +kernel
theorem dX8_programmesAhead_1 : decode cX8_programmesAhead 1 = .ok (.getfield 12, 3) := by decide +kernel
theorem dX8_programmesAhead_4 : decode cX8_programmesAhead 4 = .ok (.getfield 102, 3) := by decide +kernel
theorem dX8_programmesAhead_7 : decode cX8_programmesAhead 7 = .ok (.iload_n 1, 1) := by decide +kernel
theorem dX8_programmesAhead_8 : decode cX8_programmesAhead 8 = .ok (.invokevirtual 256, 3) := by decide +kernel
theorem dX8_programmesAhead_11 : decode cX8_programmesAhead 11 = .ok (.istore_n 2, 1) := by decide +kernel
theorem dX8_programmesAhead_12 : decode cX8_programmesAhead 12 = .ok (.iconst 0, 1) := by decide +kernel
theorem dX8_programmesAhead_13 : decode cX8_programmesAhead 13 = .ok (.istore_n 3, 1) := by decide +kernel
theorem dX8_programmesAhead_14 : decode cX8_programmesAhead 14 = .ok (.iconst 0, 1) := by decide +kernel
theorem dX8_programmesAhead_15 : decode cX8_programmesAhead 15 = .ok (.istore 4, 2) := by decide +kernel
theorem dX8_programmesAhead_17 : decode cX8_programmesAhead 17 = .ok (.iload 4, 2) := by decide +kernel
theorem dX8_programmesAhead_19 : decode cX8_programmesAhead 19 = .ok (.aload_n 0, 1) := by decide +kernel
theorem dX8_programmesAhead_20 : decode cX8_programmesAhead 20 = .ok (.getfield 12, 3) := by decide +kernel
theorem dX8_programmesAhead_23 : decode cX8_programmesAhead 23 = .ok (.getfield 48, 3) := by decide +kernel
theorem dX8_programmesAhead_26 : decode cX8_programmesAhead 26 = .ok (.getfield 52, 3) := by decide +kernel
theorem dX8_programmesAhead_29 : decode cX8_programmesAhead 29 = .ok (.if_icmp .ge 44, 3) := by decide +kernel
theorem dX8_programmesAhead_32 : decode cX8_programmesAhead 32 = .ok (.aload_n 0, 1) := by decide +kernel
theorem dX8_programmesAhead_33 : decode cX8_programmesAhead 33 = .ok (.getfield 12, 3) := by decide +kernel
theorem dX8_programmesAhead_36 : decode cX8_programmesAhead 36 = .ok (.getfield 102, 3) := by decide +kernel
theorem dX8_programmesAhead_39 : decode cX8_programmesAhead 39 = .ok (.iload 4, 2) := by decide +kernel
theorem dX8_programmesAhead_41 : decode cX8_programmesAhead 41 = .ok (.invokevirtual 256, 3) := by decide +kernel
theorem dX8_programmesAhead_44 : decode cX8_programmesAhead 44 = .ok (.istore 5, 2) := by decide +kernel
theorem dX8_programmesAhead_46 : decode cX8_programmesAhead 46 = .ok (.iload 5, 2) := by decide +kernel
theorem dX8_programmesAhead_48 : decode cX8_programmesAhead 48 = .ok (.iload_n 2, 1) := by decide +kernel
theorem dX8_programmesAhead_49 : decode cX8_programmesAhead 49 = .ok (.if_icmp .gt 15, 3) := by decide +kernel
theorem dX8_programmesAhead_52 : decode cX8_programmesAhead 52 = .ok (.iload 5, 2) := by decide +kernel
theorem dX8_programmesAhead_54 : decode cX8_programmesAhead 54 = .ok (.iload_n 2, 1) := by decide +kernel
theorem dX8_programmesAhead_55 : decode cX8_programmesAhead 55 = .ok (.if_icmp .ne 12, 3) := by decide +kernel
theorem dX8_programmesAhead_58 : decode cX8_programmesAhead 58 = .ok (.iload 4, 2) := by decide +kernel
theorem dX8_programmesAhead_60 : decode cX8_programmesAhead 60 = .ok (.iload_n 1, 1) := by decide +kernel
theorem dX8_programmesAhead_61 : decode cX8_programmesAhead 61 = .ok (.if_icmp .ge 6, 3) := by decide +kernel
theorem dX8_programmesAhead_64 : decode cX8_programmesAhead 64 = .ok (.iinc 3 1, 3) := by decide +kernel
theorem dX8_programmesAhead_67 : decode cX8_programmesAhead 67 = .ok (.iinc 4 1, 3) := by decide +kernel
theorem dX8_programmesAhead_70 : decode cX8_programmesAhead 70 = .ok (.goto (-53), 3) := by decide +kernel
theorem dX8_programmesAhead_73 : decode cX8_programmesAhead 73 = .ok (.iload_n 3, 1) := by decide +kernel
theorem dX8_programmesAhead_74 : decode cX8_programmesAhead 74 = .ok (.ireturn, 1) := by decide +kernel
theorem dX8_writeLine_0 : decode cX8_writeLine 0 = .ok (.aload_n 0, 1) := by decide +kernel
theorem dX8_writeLine_1 : decode cX8_writeLine 1 = .ok (.getfield 12, 3) := by decide +kernel
theorem dX8_writeLine_4 : decode cX8_writeLine 4 = .ok (.getfield 102, 3) := by decide +kernel
theorem dX8_writeLine_7 : decode cX8_writeLine 7 = .ok (.getfield 150, 3) := by decide +kernel
theorem dX8_writeLine_10 : decode cX8_writeLine 10 = .ok (.iload_n 1, 1) := by decide +kernel
theorem dX8_writeLine_11 : decode cX8_writeLine 11 = .ok (.iaload, 1) := by decide +kernel
theorem dX8_writeLine_12 : decode cX8_writeLine 12 = .ok (.sipush 1440, 3) := by decide +kernel
theorem dX8_writeLine_15 : decode cX8_writeLine 15 = .ok (.irem, 1) := by decide +kernel
theorem dX8_writeLine_16 : decode cX8_writeLine 16 = .ok (.istore_n 2, 1) := by decide +kernel
theorem dX8_writeLine_17 : decode cX8_writeLine 17 = .ok (.aload_n 0, 1) := by decide +kernel
theorem dX8_writeLine_18 : decode cX8_writeLine 18 = .ok (.getfield 40, 3) := by decide +kernel
theorem dX8_writeLine_21 : decode cX8_writeLine 21 = .ok (.iconst 0, 1) := by decide +kernel
theorem dX8_writeLine_22 : decode cX8_writeLine 22 = .ok (.invokevirtual 259, 3) := by decide +kernel
theorem dX8_writeLine_25 : decode cX8_writeLine 25 = .ok (.aload_n 0, 1) := by decide +kernel
theorem dX8_writeLine_26 : decode cX8_writeLine 26 = .ok (.getfield 40, 3) := by decide +kernel
theorem dX8_writeLine_29 : decode cX8_writeLine 29 = .ok (.aload_n 0, 1) := by decide +kernel
theorem dX8_writeLine_30 : decode cX8_writeLine 30 = .ok (.getfield 12, 3) := by decide +kernel
theorem dX8_writeLine_33 : decode cX8_writeLine 33 = .ok (.getfield 102, 3) := by decide +kernel
theorem dX8_writeLine_36 : decode cX8_writeLine 36 = .ok (.getfield 150, 3) := by decide +kernel
theorem dX8_writeLine_39 : decode cX8_writeLine 39 = .ok (.iload_n 1, 1) := by decide +kernel
theorem dX8_writeLine_40 : decode cX8_writeLine 40 = .ok (.iaload, 1) := by decide +kernel
theorem dX8_writeLine_41 : decode cX8_writeLine 41 = .ok (.sipush 1440, 3) := by decide +kernel
theorem dX8_writeLine_44 : decode cX8_writeLine 44 = .ok (.idiv, 1) := by decide +kernel
theorem dX8_writeLine_45 : decode cX8_writeLine 45 = .ok (.invokevirtual 262, 3) := by decide +kernel
theorem dX8_writeLine_48 : decode cX8_writeLine 48 = .ok (.bipush 32, 2) := by decide +kernel
theorem dX8_writeLine_50 : decode cX8_writeLine 50 = .ok (.invokevirtual 265, 3) := by decide +kernel
theorem dX8_writeLine_53 : decode cX8_writeLine 53 = .ok (.pop, 1) := by decide +kernel
theorem dX8_writeLine_54 : decode cX8_writeLine 54 = .ok (.aload_n 0, 1) := by decide +kernel
theorem dX8_writeLine_55 : decode cX8_writeLine 55 = .ok (.iload_n 2, 1) := by decide +kernel
theorem dX8_writeLine_56 : decode cX8_writeLine 56 = .ok (.bipush 60, 2) := by decide +kernel
theorem dX8_writeLine_58 : decode cX8_writeLine 58 = .ok (.idiv, 1) := by decide +kernel
theorem dX8_writeLine_59 : decode cX8_writeLine 59 = .ok (.invokevirtual 268, 3) := by decide +kernel
theorem dX8_writeLine_62 : decode cX8_writeLine 62 = .ok (.aload_n 0, 1) := by decide +kernel
theorem dX8_writeLine_63 : decode cX8_writeLine 63 = .ok (.getfield 40, 3) := by decide +kernel
theorem dX8_writeLine_66 : decode cX8_writeLine 66 = .ok (.bipush 58, 2) := by decide +kernel
theorem dX8_writeLine_68 : decode cX8_writeLine 68 = .ok (.invokevirtual 265, 3) := by decide +kernel
theorem dX8_writeLine_71 : decode cX8_writeLine 71 = .ok (.pop, 1) := by decide +kernel
theorem dX8_writeLine_72 : decode cX8_writeLine 72 = .ok (.aload_n 0, 1) := by decide +kernel
theorem dX8_writeLine_73 : decode cX8_writeLine 73 = .ok (.iload_n 2, 1) := by decide +kernel
theorem dX8_writeLine_74 : decode cX8_writeLine 74 = .ok (.bipush 60, 2) := by decide +kernel
theorem dX8_writeLine_76 : decode cX8_writeLine 76 = .ok (.irem, 1) := by decide +kernel
theorem dX8_writeLine_77 : decode cX8_writeLine 77 = .ok (.invokevirtual 268, 3) := by decide +kernel
theorem dX8_writeLine_80 : decode cX8_writeLine 80 = .ok (.aload_n 0, 1) := by decide +kernel
theorem dX8_writeLine_81 : decode cX8_writeLine 81 = .ok (.getfield 40, 3) := by decide +kernel
theorem dX8_writeLine_84 : decode cX8_writeLine 84 = .ok (.ldc_w 271, 3) := by decide +kernel
theorem dX8_writeLine_87 : decode cX8_writeLine 87 = .ok (.invokevirtual 273, 3) := by decide +kernel
theorem dX8_writeLine_90 : decode cX8_writeLine 90 = .ok (.aload_n 0, 1) := by decide +kernel
theorem dX8_writeLine_91 : decode cX8_writeLine 91 = .ok (.getfield 12, 3) := by decide +kernel
theorem dX8_writeLine_94 : decode cX8_writeLine 94 = .ok (.getfield 102, 3) := by decide +kernel
theorem dX8_writeLine_97 : decode cX8_writeLine 97 = .ok (.getfield 140, 3) := by decide +kernel
theorem dX8_writeLine_100 : decode cX8_writeLine 100 = .ok (.iload_n 1, 1) := by decide +kernel
theorem dX8_writeLine_101 : decode cX8_writeLine 101 = .ok (.iaload, 1) := by decide +kernel
theorem dX8_writeLine_102 : decode cX8_writeLine 102 = .ok (.invokevirtual 262, 3) := by decide +kernel
theorem dX8_writeLine_105 : decode cX8_writeLine 105 = .ok (.pop, 1) := by decide +kernel
theorem dX8_writeLine_106 : decode cX8_writeLine 106 = .ok (.aload_n 0, 1) := by decide +kernel
theorem dX8_writeLine_107 : decode cX8_writeLine 107 = .ok (.getfield 40, 3) := by decide +kernel
theorem dX8_writeLine_110 : decode cX8_writeLine 110 = .ok (.ldc_w 276, 3) := by decide +kernel
theorem dX8_writeLine_113 : decode cX8_writeLine 113 = .ok (.invokevirtual 273, 3) := by decide +kernel
theorem dX8_writeLine_116 : decode cX8_writeLine 116 = .ok (.aload_n 0, 1) := by decide +kernel
theorem dX8_writeLine_117 : decode cX8_writeLine 117 = .ok (.getfield 12, 3) := by decide +kernel
theorem dX8_writeLine_120 : decode cX8_writeLine 120 = .ok (.getfield 102, 3) := by decide +kernel
theorem dX8_writeLine_123 : decode cX8_writeLine 123 = .ok (.getfield 147, 3) := by decide +kernel
theorem dX8_writeLine_126 : decode cX8_writeLine 126 = .ok (.iload_n 1, 1) := by decide +kernel
theorem dX8_writeLine_127 : decode cX8_writeLine 127 = .ok (.iaload, 1) := by decide +kernel
theorem dX8_writeLine_128 : decode cX8_writeLine 128 = .ok (.invokevirtual 262, 3) := by decide +kernel
theorem dX8_writeLine_131 : decode cX8_writeLine 131 = .ok (.pop, 1) := by decide +kernel
theorem dX8_writeLine_132 : decode cX8_writeLine 132 = .ok (.aload_n 0, 1) := by decide +kernel
theorem dX8_writeLine_133 : decode cX8_writeLine 133 = .ok (.getfield 12, 3) := by decide +kernel
theorem dX8_writeLine_136 : decode cX8_writeLine 136 = .ok (.getfield 102, 3) := by decide +kernel
theorem dX8_writeLine_139 : decode cX8_writeLine 139 = .ok (.getfield 153, 3) := by decide +kernel
theorem dX8_writeLine_142 : decode cX8_writeLine 142 = .ok (.iload_n 1, 1) := by decide +kernel
theorem dX8_writeLine_143 : decode cX8_writeLine 143 = .ok (.iaload, 1) := by decide +kernel
theorem dX8_writeLine_144 : decode cX8_writeLine 144 = .ok (.iconst 1, 1) := by decide +kernel
theorem dX8_writeLine_145 : decode cX8_writeLine 145 = .ok (.if_icmp .ne 13, 3) := by decide +kernel
theorem dX8_writeLine_148 : decode cX8_writeLine 148 = .ok (.aload_n 0, 1) := by decide +kernel
theorem dX8_writeLine_149 : decode cX8_writeLine 149 = .ok (.getfield 40, 3) := by decide +kernel
theorem dX8_writeLine_152 : decode cX8_writeLine 152 = .ok (.bipush 33, 2) := by decide +kernel
theorem dX8_writeLine_154 : decode cX8_writeLine 154 = .ok (.invokevirtual 265, 3) := by decide +kernel
theorem dX8_writeLine_157 : decode cX8_writeLine 157 = .ok (.pop, 1) := by decide +kernel
theorem dX8_writeLine_158 : decode cX8_writeLine 158 = .ok (.return_, 1) := by decide +kernel
theorem dX8_writeTwoDigits_0 : decode cX8_writeTwoDigits 0 = .ok (.aload_n 0, 1) := by decide +kernel
theorem dX8_writeTwoDigits_1 : decode cX8_writeTwoDigits 1 = .ok (.getfield 40, 3) := by decide +kernel
theorem dX8_writeTwoDigits_4 : decode cX8_writeTwoDigits 4 = .ok (.iload_n 1, 1) := by decide +kernel
theorem dX8_writeTwoDigits_5 : decode cX8_writeTwoDigits 5 = .ok (.bipush 10, 2) := by decide +kernel
theorem dX8_writeTwoDigits_7 : decode cX8_writeTwoDigits 7 = .ok (.idiv, 1) := by decide +kernel
theorem dX8_writeTwoDigits_8 : decode cX8_writeTwoDigits 8 = .ok (.invokevirtual 262, 3) := by decide +kernel
theorem dX8_writeTwoDigits_11 : decode cX8_writeTwoDigits 11 = .ok (.iload_n 1, 1) := by decide +kernel
theorem dX8_writeTwoDigits_12 : decode cX8_writeTwoDigits 12 = .ok (.bipush 10, 2) := by decide +kernel
theorem dX8_writeTwoDigits_14 : decode cX8_writeTwoDigits 14 = .ok (.irem, 1) := by decide +kernel
theorem dX8_writeTwoDigits_15 : decode cX8_writeTwoDigits 15 = .ok (.invokevirtual 262, 3) := by decide +kernel
theorem dX8_writeTwoDigits_18 : decode cX8_writeTwoDigits 18 = .ok (.pop, 1) := by decide +kernel
theorem dX8_writeTwoDigits_19 : decode cX8_writeTwoDigits 19 = .ok (.return_, 1) := by decide +kernel
theorem dL_cell_0 : decode cL_cell 0 = .ok (.iload_n 1, 1) := by decide +kernel
theorem dL_cell_1 : decode cL_cell 1 = .ok (.aload_n 0, 1) := by decide +kernel
theorem dL_cell_2 : decode cL_cell 2 = .ok (.arraylength, 1) := by decide +kernel
theorem dL_cell_3 : decode cL_cell 3 = .ok (.if_icmp .ge 9, 3) := by decide +kernel
theorem dL_cell_6 : decode cL_cell 6 = .ok (.aload_n 0, 1) := by decide +kernel
theorem dL_cell_7 : decode cL_cell 7 = .ok (.iload_n 1, 1) := by decide +kernel
theorem dL_cell_8 : decode cL_cell 8 = .ok (.iaload, 1) := by decide +kernel
theorem dL_cell_9 : decode cL_cell 9 = .ok (.goto 9, 3) := by decide +kernel
theorem dL_cell_12 : decode cL_cell 12 = .ok (.ldc 7, 2) := by decide +kernel
theorem dL_cell_14 : decode cL_cell 14 = .ok (.iload_n 1, 1) := by decide +kernel
theorem dL_cell_15 : decode cL_cell 15 = .ok (.iconst 3, 1) := by decide +kernel
theorem dL_cell_16 : decode cL_cell 16 = .ok (.iadd, 1) := by decide +kernel
theorem dL_cell_17 : decode cL_cell 17 = .ok (.imul, 1) := by decide +kernel
theorem dL_cell_18 : decode cL_cell 18 = .ok (.ireturn, 1) := by decide +kernel
theorem dL_up_0 : decode cL_up 0 = .ok (.iload_n 0, 1) := by decide +kernel
theorem dL_up_1 : decode cL_up 1 = .ok (.ldc 8, 2) := by decide +kernel
theorem dL_up_3 : decode cL_up 3 = .ok (.iand, 1) := by decide +kernel
theorem dL_up_4 : decode cL_up 4 = .ok (.iload_n 1, 1) := by decide +kernel
theorem dL_up_5 : decode cL_up 5 = .ok (.irem, 1) := by decide +kernel
theorem dL_up_6 : decode cL_up 6 = .ok (.ireturn, 1) := by decide +kernel
theorem dL_fails_0 : decode cL_fails 0 = .ok (.aload_n 0, 1) := by decide +kernel
theorem dL_fails_1 : decode cL_fails 1 = .ok (.invokevirtual 9, 3) := by decide +kernel
theorem dL_fails_4 : decode cL_fails 4 = .ok (.lstore_n 3, 1) := by decide +kernel
theorem dL_fails_5 : decode cL_fails 5 = .ok (.aload_n 0, 1) := by decide +kernel
theorem dL_fails_6 : decode cL_fails 6 = .ok (.invokevirtual 15, 3) := by decide +kernel
theorem dL_fails_9 : decode cL_fails 9 = .ok (.istore 5, 2) := by decide +kernel
theorem dL_fails_11 : decode cL_fails 11 = .ok (.aload_n 0, 1) := by decide +kernel
theorem dL_fails_12 : decode cL_fails 12 = .ok (.iconst 4, 1) := by decide +kernel
theorem dL_fails_13 : decode cL_fails 13 = .ok (.iconst 1, 1) := by decide +kernel
theorem dL_fails_14 : decode cL_fails 14 = .ok (.iconst 0, 1) := by decide +kernel
theorem dL_fails_15 : decode cL_fails 15 = .ok (.invokevirtual 19, 3) := by decide +kernel
theorem dL_fails_18 : decode cL_fails 18 = .ok (.iconst (-1), 1) := by decide +kernel
theorem dL_fails_19 : decode cL_fails 19 = .ok (.if_icmp .ne 85, 3) := by decide +kernel
theorem dL_fails_22 : decode cL_fails 22 = .ok (.aload_n 0, 1) := by decide +kernel
theorem dL_fails_23 : decode cL_fails 23 = .ok (.iconst 0, 1) := by decide +kernel
theorem dL_fails_24 : decode cL_fails 24 = .ok (.sipush 241, 3) := by decide +kernel
theorem dL_fails_27 : decode cL_fails 27 = .ok (.iconst 0, 1) := by decide +kernel
theorem dL_fails_28 : decode cL_fails 28 = .ok (.invokevirtual 19, 3) := by decide +kernel
theorem dL_fails_31 : decode cL_fails 31 = .ok (.iconst (-1), 1) := by decide +kernel
theorem dL_fails_32 : decode cL_fails 32 = .ok (.if_icmp .ne 72, 3) := by decide +kernel
theorem dL_fails_35 : decode cL_fails 35 = .ok (.aload_n 0, 1) := by decide +kernel
theorem dL_fails_36 : decode cL_fails 36 = .ok (.iload_n 1, 1) := by decide +kernel
theorem dL_fails_37 : decode cL_fails 37 = .ok (.iconst 0, 1) := by decide +kernel
theorem dL_fails_38 : decode cL_fails 38 = .ok (.iconst 1, 1) := by decide +kernel
theorem dL_fails_39 : decode cL_fails 39 = .ok (.iconst 1, 1) := by decide +kernel
theorem dL_fails_40 : decode cL_fails 40 = .ok (.invokevirtual 23, 3) := by decide +kernel
theorem dL_fails_43 : decode cL_fails 43 = .ok (.iconst (-1), 1) := by decide +kernel
theorem dL_fails_44 : decode cL_fails 44 = .ok (.if_icmp .ne 60, 3) := by decide +kernel
theorem dL_fails_47 : decode cL_fails 47 = .ok (.aload_n 0, 1) := by decide +kernel
theorem dL_fails_48 : decode cL_fails 48 = .ok (.iconst 5, 1) := by decide +kernel
theorem dL_fails_49 : decode cL_fails 49 = .ok (.iconst 5, 1) := by decide +kernel
theorem dL_fails_50 : decode cL_fails 50 = .ok (.iconst 0, 1) := by decide +kernel
theorem dL_fails_51 : decode cL_fails 51 = .ok (.invokevirtual 27, 3) := by decide +kernel
theorem dL_fails_54 : decode cL_fails 54 = .ok (.iconst (-1), 1) := by decide +kernel
theorem dL_fails_55 : decode cL_fails 55 = .ok (.if_icmp .ne 49, 3) := by decide +kernel
theorem dL_fails_58 : decode cL_fails 58 = .ok (.aload_n 0, 1) := by decide +kernel
theorem dL_fails_59 : decode cL_fails 59 = .ok (.iload_n 1, 1) := by decide +kernel
theorem dL_fails_60 : decode cL_fails 60 = .ok (.iconst 0, 1) := by decide +kernel
theorem dL_fails_61 : decode cL_fails 61 = .ok (.iconst 0, 1) := by decide +kernel
theorem dL_fails_62 : decode cL_fails 62 = .ok (.invokevirtual 30, 3) := by decide +kernel
theorem dL_fails_65 : decode cL_fails 65 = .ok (.iconst (-1), 1) := by decide +kernel
theorem dL_fails_66 : decode cL_fails 66 = .ok (.if_icmp .ne 38, 3) := by decide +kernel
theorem dL_fails_69 : decode cL_fails 69 = .ok (.aload_n 0, 1) := by decide +kernel
theorem dL_fails_70 : decode cL_fails 70 = .ok (.iconst (-1), 1) := by decide +kernel
theorem dL_fails_71 : decode cL_fails 71 = .ok (.iconst 0, 1) := by decide +kernel
theorem dL_fails_72 : decode cL_fails 72 = .ok (.iconst 1, 1) := by decide +kernel
theorem dL_fails_73 : decode cL_fails 73 = .ok (.invokevirtual 30, 3) := by decide +kernel
theorem dL_fails_76 : decode cL_fails 76 = .ok (.iconst (-1), 1) := by decide +kernel
theorem dL_fails_77 : decode cL_fails 77 = .ok (.if_icmp .ne 27, 3) := by decide +kernel
theorem dL_fails_80 : decode cL_fails 80 = .ok (.aload_n 0, 1) := by decide +kernel
theorem dL_fails_81 : decode cL_fails 81 = .ok (.iload 5, 2) := by decide +kernel
theorem dL_fails_83 : decode cL_fails 83 = .ok (.invokevirtual 34, 3) := by decide +kernel
theorem dL_fails_86 : decode cL_fails 86 = .ok (.iconst (-1), 1) := by decide +kernel
theorem dL_fails_87 : decode cL_fails 87 = .ok (.if_icmp .ne 17, 3) := by decide +kernel
theorem dL_fails_90 : decode cL_fails 90 = .ok (.aload_n 0, 1) := by decide +kernel
theorem dL_fails_91 : decode cL_fails 91 = .ok (.iload_n 1, 1) := by decide +kernel
theorem dL_fails_92 : decode cL_fails 92 = .ok (.iconst 0, 1) := by decide +kernel
theorem dL_fails_93 : decode cL_fails 93 = .ok (.invokevirtual 38, 3) := by decide +kernel
theorem dL_fails_96 : decode cL_fails 96 = .ok (.iconst (-1), 1) := by decide +kernel
theorem dL_fails_97 : decode cL_fails 97 = .ok (.if_icmp .ne 7, 3) := by decide +kernel
theorem dL_fails_100 : decode cL_fails 100 = .ok (.iconst 1, 1) := by decide +kernel
theorem dL_fails_101 : decode cL_fails 101 = .ok (.goto 4, 3) := by decide +kernel
theorem dL_fails_104 : decode cL_fails 104 = .ok (.iconst 0, 1) := by decide +kernel
theorem dL_fails_105 : decode cL_fails 105 = .ok (.istore 6, 2) := by decide +kernel
theorem dL_fails_107 : decode cL_fails 107 = .ok (.iload 6, 2) := by decide +kernel
theorem dL_fails_109 : decode cL_fails 109 = .ok (.ifCond .eq 116, 3) := by decide +kernel
theorem dL_fails_112 : decode cL_fails 112 = .ok (.aload_n 0, 1) := by decide +kernel
theorem dL_fails_113 : decode cL_fails 113 = .ok (.bipush 10, 2) := by decide +kernel
theorem dL_fails_115 : decode cL_fails 115 = .ok (.bipush 10, 2) := by decide +kernel
theorem dL_fails_117 : decode cL_fails 117 = .ok (.invokevirtual 42, 3) := by decide +kernel
theorem dL_fails_120 : decode cL_fails 120 = .ok (.iconst (-1), 1) := by decide +kernel
theorem dL_fails_121 : decode cL_fails 121 = .ok (.if_icmp .ne 104, 3) := by decide +kernel
theorem dL_fails_124 : decode cL_fails 124 = .ok (.aload_n 0, 1) := by decide +kernel
theorem dL_fails_125 : decode cL_fails 125 = .ok (.iconst 0, 1) := by decide +kernel
theorem dL_fails_126 : decode cL_fails 126 = .ok (.sipush 241, 3) := by decide +kernel
theorem dL_fails_129 : decode cL_fails 129 = .ok (.invokevirtual 42, 3) := by decide +kernel
theorem dL_fails_132 : decode cL_fails 132 = .ok (.iconst (-1), 1) := by decide +kernel
theorem dL_fails_133 : decode cL_fails 133 = .ok (.if_icmp .ne 92, 3) := by decide +kernel
theorem dL_fails_136 : decode cL_fails 136 = .ok (.aload_n 0, 1) := by decide +kernel
theorem dL_fails_137 : decode cL_fails 137 = .ok (.sipush 10000, 3) := by decide +kernel
theorem dL_fails_140 : decode cL_fails 140 = .ok (.sipush 10081, 3) := by decide +kernel
theorem dL_fails_143 : decode cL_fails 143 = .ok (.invokevirtual 42, 3) := by decide +kernel
theorem dL_fails_146 : decode cL_fails 146 = .ok (.iconst (-1), 1) := by decide +kernel
theorem dL_fails_147 : decode cL_fails 147 = .ok (.if_icmp .ne 78, 3) := by decide +kernel
theorem dL_fails_150 : decode cL_fails 150 = .ok (.aload_n 0, 1) := by decide +kernel
theorem dL_fails_151 : decode cL_fails 151 = .ok (.iload 5, 2) := by decide +kernel
theorem dL_fails_153 : decode cL_fails 153 = .ok (.iconst 1, 1) := by decide +kernel
theorem dL_fails_154 : decode cL_fails 154 = .ok (.invokevirtual 45, 3) := by decide +kernel
theorem dL_fails_157 : decode cL_fails 157 = .ok (.iconst (-1), 1) := by decide +kernel
theorem dL_fails_158 : decode cL_fails 158 = .ok (.if_icmp .ne 67, 3) := by decide +kernel
theorem dL_fails_161 : decode cL_fails 161 = .ok (.aload_n 0, 1) := by decide +kernel
theorem dL_fails_162 : decode cL_fails 162 = .ok (.iload_n 1, 1) := by decide +kernel
theorem dL_fails_163 : decode cL_fails 163 = .ok (.iconst 0, 1) := by decide +kernel
theorem dL_fails_164 : decode cL_fails 164 = .ok (.invokevirtual 48, 3) := by decide +kernel
theorem dL_fails_167 : decode cL_fails 167 = .ok (.iconst (-1), 1) := by decide +kernel
theorem dL_fails_168 : decode cL_fails 168 = .ok (.if_icmp .ne 57, 3) := by decide +kernel
theorem dL_fails_171 : decode cL_fails 171 = .ok (.aload_n 0, 1) := by decide +kernel
theorem dL_fails_172 : decode cL_fails 172 = .ok (.iload 5, 2) := by decide +kernel
theorem dL_fails_174 : decode cL_fails 174 = .ok (.iconst 0, 1) := by decide +kernel
theorem dL_fails_175 : decode cL_fails 175 = .ok (.invokevirtual 51, 3) := by decide +kernel
theorem dL_fails_178 : decode cL_fails 178 = .ok (.iconst (-1), 1) := by decide +kernel
theorem dL_fails_179 : decode cL_fails 179 = .ok (.if_icmp .ne 46, 3) := by decide +kernel
theorem dL_fails_182 : decode cL_fails 182 = .ok (.aload_n 0, 1) := by decide +kernel
theorem dL_fails_183 : decode cL_fails 183 = .ok (.sipush 10080, 3) := by decide +kernel
theorem dL_fails_186 : decode cL_fails 186 = .ok (.invokevirtual 54, 3) := by decide +kernel
theorem dL_fails_189 : decode cL_fails 189 = .ok (.iconst (-1), 1) := by decide +kernel
theorem dL_fails_190 : decode cL_fails 190 = .ok (.if_icmp .ne 35, 3) := by decide +kernel
theorem dL_fails_193 : decode cL_fails 193 = .ok (.aload_n 0, 1) := by decide +kernel
theorem dL_fails_194 : decode cL_fails 194 = .ok (.iload_n 2, 1) := by decide +kernel
theorem dL_fails_195 : decode cL_fails 195 = .ok (.invokevirtual 57, 3) := by decide +kernel
theorem dL_fails_198 : decode cL_fails 198 = .ok (.iconst (-1), 1) := by decide +kernel
theorem dL_fails_199 : decode cL_fails 199 = .ok (.if_icmp .ne 26, 3) := by decide +kernel
theorem dL_fails_202 : decode cL_fails 202 = .ok (.aload_n 0, 1) := by decide +kernel
theorem dL_fails_203 : decode cL_fails 203 = .ok (.iload_n 1, 1) := by decide +kernel
theorem dL_fails_204 : decode cL_fails 204 = .ok (.iconst 0, 1) := by decide +kernel
theorem dL_fails_205 : decode cL_fails 205 = .ok (.invokevirtual 60, 3) := by decide +kernel
theorem dL_fails_208 : decode cL_fails 208 = .ok (.iconst (-1), 1) := by decide +kernel
theorem dL_fails_209 : decode cL_fails 209 = .ok (.if_icmp .ne 16, 3) := by decide +kernel
theorem dL_fails_212 : decode cL_fails 212 = .ok (.aload_n 0, 1) := by decide +kernel
theorem dL_fails_213 : decode cL_fails 213 = .ok (.iconst (-1), 1) := by decide +kernel
theorem dL_fails_214 : decode cL_fails 214 = .ok (.invokevirtual 63, 3) := by decide +kernel
theorem dL_fails_217 : decode cL_fails 217 = .ok (.iconst (-1), 1) := by decide +kernel
theorem dL_fails_218 : decode cL_fails 218 = .ok (.if_icmp .ne 7, 3) := by decide +kernel
theorem dL_fails_221 : decode cL_fails 221 = .ok (.iconst 1, 1) := by decide +kernel
theorem dL_fails_222 : decode cL_fails 222 = .ok (.goto 4, 3) := by decide +kernel
theorem dL_fails_225 : decode cL_fails 225 = .ok (.iconst 0, 1) := by decide +kernel
theorem dL_fails_226 : decode cL_fails 226 = .ok (.istore 6, 2) := by decide +kernel
theorem dL_fails_228 : decode cL_fails 228 = .ok (.iload 6, 2) := by decide +kernel
theorem dL_fails_230 : decode cL_fails 230 = .ok (.ifCond .eq 59, 3) := by decide +kernel
theorem dL_fails_233 : decode cL_fails 233 = .ok (.aload_n 0, 1) := by decide +kernel
theorem dL_fails_234 : decode cL_fails 234 = .ok (.iconst 5, 1) := by decide +kernel
theorem dL_fails_235 : decode cL_fails 235 = .ok (.iconst 0, 1) := by decide +kernel
theorem dL_fails_236 : decode cL_fails 236 = .ok (.iconst 1, 1) := by decide +kernel
theorem dL_fails_237 : decode cL_fails 237 = .ok (.invokevirtual 66, 3) := by decide +kernel
theorem dL_fails_240 : decode cL_fails 240 = .ok (.iconst (-1), 1) := by decide +kernel
theorem dL_fails_241 : decode cL_fails 241 = .ok (.if_icmp .ne 48, 3) := by decide +kernel
theorem dL_fails_244 : decode cL_fails 244 = .ok (.aload_n 0, 1) := by decide +kernel
theorem dL_fails_245 : decode cL_fails 245 = .ok (.iconst 0, 1) := by decide +kernel
theorem dL_fails_246 : decode cL_fails 246 = .ok (.iconst 1, 1) := by decide +kernel
theorem dL_fails_247 : decode cL_fails 247 = .ok (.iconst 1, 1) := by decide +kernel
theorem dL_fails_248 : decode cL_fails 248 = .ok (.invokevirtual 66, 3) := by decide +kernel
theorem dL_fails_251 : decode cL_fails 251 = .ok (.iconst (-1), 1) := by decide +kernel
theorem dL_fails_252 : decode cL_fails 252 = .ok (.if_icmp .ne 37, 3) := by decide +kernel
theorem dL_fails_255 : decode cL_fails 255 = .ok (.aload_n 0, 1) := by decide +kernel
theorem dL_fails_256 : decode cL_fails 256 = .ok (.iconst (-1), 1) := by decide +kernel
theorem dL_fails_257 : decode cL_fails 257 = .ok (.iconst 1, 1) := by decide +kernel
theorem dL_fails_258 : decode cL_fails 258 = .ok (.invokevirtual 69, 3) := by decide +kernel
theorem dL_fails_261 : decode cL_fails 261 = .ok (.iconst (-1), 1) := by decide +kernel
theorem dL_fails_262 : decode cL_fails 262 = .ok (.if_icmp .ne 27, 3) := by decide +kernel
theorem dL_fails_265 : decode cL_fails 265 = .ok (.aload_n 0, 1) := by decide +kernel
theorem dL_fails_266 : decode cL_fails 266 = .ok (.iload_n 1, 1) := by decide +kernel
theorem dL_fails_267 : decode cL_fails 267 = .ok (.invokevirtual 72, 3) := by decide +kernel
theorem dL_fails_270 : decode cL_fails 270 = .ok (.iconst (-1), 1) := by decide +kernel
theorem dL_fails_271 : decode cL_fails 271 = .ok (.if_icmp .ne 18, 3) := by decide +kernel
theorem dL_fails_274 : decode cL_fails 274 = .ok (.aload_n 0, 1) := by decide +kernel
theorem dL_fails_275 : decode cL_fails 275 = .ok (.iload 5, 2) := by decide +kernel
theorem dL_fails_277 : decode cL_fails 277 = .ok (.iconst 0, 1) := by decide +kernel
theorem dL_fails_278 : decode cL_fails 278 = .ok (.invokevirtual 75, 3) := by decide +kernel
theorem dL_fails_281 : decode cL_fails 281 = .ok (.iconst (-1), 1) := by decide +kernel
theorem dL_fails_282 : decode cL_fails 282 = .ok (.if_icmp .ne 7, 3) := by decide +kernel
theorem dL_fails_285 : decode cL_fails 285 = .ok (.iconst 1, 1) := by decide +kernel
theorem dL_fails_286 : decode cL_fails 286 = .ok (.goto 4, 3) := by decide +kernel
theorem dL_fails_289 : decode cL_fails 289 = .ok (.iconst 0, 1) := by decide +kernel
theorem dL_fails_290 : decode cL_fails 290 = .ok (.istore 6, 2) := by decide +kernel
theorem dL_fails_292 : decode cL_fails 292 = .ok (.iload 6, 2) := by decide +kernel
theorem dL_fails_294 : decode cL_fails 294 = .ok (.ifCond .eq 16, 3) := by decide +kernel
theorem dL_fails_297 : decode cL_fails 297 = .ok (.aload_n 0, 1) := by decide +kernel
theorem dL_fails_298 : decode cL_fails 298 = .ok (.invokevirtual 9, 3) := by decide +kernel
theorem dL_fails_301 : decode cL_fails 301 = .ok (.lload_n 3, 1) := by decide +kernel
theorem dL_fails_302 : decode cL_fails 302 = .ok (.lcmp, 1) := by decide +kernel
theorem dL_fails_303 : decode cL_fails 303 = .ok (.ifCond .ne 7, 3) := by decide +kernel
theorem dL_fails_306 : decode cL_fails 306 = .ok (.iconst 1, 1) := by decide +kernel
theorem dL_fails_307 : decode cL_fails 307 = .ok (.goto 4, 3) := by decide +kernel
theorem dL_fails_310 : decode cL_fails 310 = .ok (.iconst 0, 1) := by decide +kernel
theorem dL_fails_311 : decode cL_fails 311 = .ok (.ireturn, 1) := by decide +kernel
theorem dL_agrees_0 : decode cL_agrees 0 = .ok (.aload_n 0, 1) := by decide +kernel
theorem dL_agrees_1 : decode cL_agrees 1 = .ok (.invokevirtual 15, 3) := by decide +kernel
theorem dL_agrees_4 : decode cL_agrees 4 = .ok (.istore 5, 2) := by decide +kernel
theorem dL_agrees_6 : decode cL_agrees 6 = .ok (.iconst 0, 1) := by decide +kernel
theorem dL_agrees_7 : decode cL_agrees 7 = .ok (.istore 6, 2) := by decide +kernel
theorem dL_agrees_9 : decode cL_agrees 9 = .ok (.iconst 0, 1) := by decide +kernel
theorem dL_agrees_10 : decode cL_agrees 10 = .ok (.istore 7, 2) := by decide +kernel
theorem dL_agrees_12 : decode cL_agrees 12 = .ok (.iconst 0, 1) := by decide +kernel
theorem dL_agrees_13 : decode cL_agrees 13 = .ok (.istore 8, 2) := by decide +kernel
theorem dL_agrees_15 : decode cL_agrees 15 = .ok (.bipush 30, 2) := by decide +kernel
theorem dL_agrees_17 : decode cL_agrees 17 = .ok (.newarray .int, 2) := by decide +kernel
theorem dL_agrees_19 : decode cL_agrees 19 = .ok (.astore 9, 2) := by decide +kernel
theorem dL_agrees_21 : decode cL_agrees 21 = .ok (.iconst 0, 1) := by decide +kernel
theorem dL_agrees_22 : decode cL_agrees 22 = .ok (.istore 10, 2) := by decide +kernel
theorem dL_agrees_24 : decode cL_agrees 24 = .ok (.iload 10, 2) := by decide +kernel
theorem dL_agrees_26 : decode cL_agrees 26 = .ok (.iload 5, 2) := by decide +kernel
theorem dL_agrees_28 : decode cL_agrees 28 = .ok (.if_icmp .ge 130, 3) := by decide +kernel
theorem dL_agrees_31 : decode cL_agrees 31 = .ok (.aload_n 0, 1) := by decide +kernel
theorem dL_agrees_32 : decode cL_agrees 32 = .ok (.iload 10, 2) := by decide +kernel
theorem dL_agrees_34 : decode cL_agrees 34 = .ok (.iconst 1, 1) := by decide +kernel
theorem dL_agrees_35 : decode cL_agrees 35 = .ok (.invokevirtual 51, 3) := by decide +kernel
theorem dL_agrees_38 : decode cL_agrees 38 = .ok (.istore 11, 2) := by decide +kernel
theorem dL_agrees_40 : decode cL_agrees 40 = .ok (.aload_n 0, 1) := by decide +kernel
theorem dL_agrees_41 : decode cL_agrees 41 = .ok (.iload 10, 2) := by decide +kernel
theorem dL_agrees_43 : decode cL_agrees 43 = .ok (.iconst 2, 1) := by decide +kernel
theorem dL_agrees_44 : decode cL_agrees 44 = .ok (.invokevirtual 51, 3) := by decide +kernel
theorem dL_agrees_47 : decode cL_agrees 47 = .ok (.istore 12, 2) := by decide +kernel
theorem dL_agrees_49 : decode cL_agrees 49 = .ok (.aload_n 0, 1) := by decide +kernel
theorem dL_agrees_50 : decode cL_agrees 50 = .ok (.iload 10, 2) := by decide +kernel
theorem dL_agrees_52 : decode cL_agrees 52 = .ok (.iconst 4, 1) := by decide +kernel
theorem dL_agrees_53 : decode cL_agrees 53 = .ok (.invokevirtual 51, 3) := by decide +kernel
theorem dL_agrees_56 : decode cL_agrees 56 = .ok (.istore 13, 2) := by decide +kernel
theorem dL_agrees_58 : decode cL_agrees 58 = .ok (.iload 11, 2) := by decide +kernel
theorem dL_agrees_60 : decode cL_agrees 60 = .ok (.iload 6, 2) := by decide +kernel
theorem dL_agrees_62 : decode cL_agrees 62 = .ok (.if_icmp .lt 60, 3) := by decide +kernel
theorem dL_agrees_65 : decode cL_agrees 65 = .ok (.iload 12, 2) := by decide +kernel
theorem dL_agrees_67 : decode cL_agrees 67 = .ok (.iconst 1, 1) := by decide +kernel
theorem dL_agrees_68 : decode cL_agrees 68 = .ok (.if_icmp .lt 54, 3) := by decide +kernel
theorem dL_agrees_71 : decode cL_agrees 71 = .ok (.iload 11, 2) := by decide +kernel
theorem dL_agrees_73 : decode cL_agrees 73 = .ok (.iload 12, 2) := by decide +kernel
theorem dL_agrees_75 : decode cL_agrees 75 = .ok (.iadd, 1) := by decide +kernel
theorem dL_agrees_76 : decode cL_agrees 76 = .ok (.sipush 10080, 3) := by decide +kernel
theorem dL_agrees_79 : decode cL_agrees 79 = .ok (.if_icmp .gt 43, 3) := by decide +kernel
theorem dL_agrees_82 : decode cL_agrees 82 = .ok (.aload_n 0, 1) := by decide +kernel
theorem dL_agrees_83 : decode cL_agrees 83 = .ok (.iload 11, 2) := by decide +kernel
theorem dL_agrees_85 : decode cL_agrees 85 = .ok (.invokevirtual 54, 3) := by decide +kernel
theorem dL_agrees_88 : decode cL_agrees 88 = .ok (.iload 10, 2) := by decide +kernel
theorem dL_agrees_90 : decode cL_agrees 90 = .ok (.if_icmp .ne 32, 3) := by decide +kernel
theorem dL_agrees_93 : decode cL_agrees 93 = .ok (.aload_n 0, 1) := by decide +kernel
theorem dL_agrees_94 : decode cL_agrees 94 = .ok (.iload 11, 2) := by decide +kernel
theorem dL_agrees_96 : decode cL_agrees 96 = .ok (.iload 12, 2) := by decide +kernel
theorem dL_agrees_98 : decode cL_agrees 98 = .ok (.iadd, 1) := by decide +kernel
theorem dL_agrees_99 : decode cL_agrees 99 = .ok (.iconst 1, 1) := by decide +kernel
theorem dL_agrees_100 : decode cL_agrees 100 = .ok (.isub, 1) := by decide +kernel
theorem dL_agrees_101 : decode cL_agrees 101 = .ok (.invokevirtual 54, 3) := by decide +kernel
theorem dL_agrees_104 : decode cL_agrees 104 = .ok (.iload 10, 2) := by decide +kernel
theorem dL_agrees_106 : decode cL_agrees 106 = .ok (.if_icmp .ne 16, 3) := by decide +kernel
theorem dL_agrees_109 : decode cL_agrees 109 = .ok (.iload 13, 2) := by decide +kernel
theorem dL_agrees_111 : decode cL_agrees 111 = .ok (.bipush (-9), 2) := by decide +kernel
theorem dL_agrees_113 : decode cL_agrees 113 = .ok (.if_icmp .lt 9, 3) := by decide +kernel
theorem dL_agrees_116 : decode cL_agrees 116 = .ok (.iload 13, 2) := by decide +kernel
theorem dL_agrees_118 : decode cL_agrees 118 = .ok (.iload_n 2, 1) := by decide +kernel
theorem dL_agrees_119 : decode cL_agrees 119 = .ok (.if_icmp .lt 5, 3) := by decide +kernel
theorem dL_agrees_122 : decode cL_agrees 122 = .ok (.iconst 0, 1) := by decide +kernel
theorem dL_agrees_123 : decode cL_agrees 123 = .ok (.ireturn, 1) := by decide +kernel
theorem dL_agrees_124 : decode cL_agrees 124 = .ok (.iload 13, 2) := by decide +kernel
theorem dL_agrees_126 : decode cL_agrees 126 = .ok (.ifCond .lt 12, 3) := by decide +kernel
theorem dL_agrees_129 : decode cL_agrees 129 = .ok (.aload 9, 2) := by decide +kernel
theorem dL_agrees_131 : decode cL_agrees 131 = .ok (.iload 13, 2) := by decide +kernel
theorem dL_agrees_133 : decode cL_agrees 133 = .ok (.dup2, 1) := by decide +kernel
theorem dL_agrees_134 : decode cL_agrees 134 = .ok (.iaload, 1) := by decide +kernel
theorem dL_agrees_135 : decode cL_agrees 135 = .ok (.iconst 1, 1) := by decide +kernel
theorem dL_agrees_136 : decode cL_agrees 136 = .ok (.iadd, 1) := by decide +kernel
theorem dL_agrees_137 : decode cL_agrees 137 = .ok (.iastore, 1) := by decide +kernel
theorem dL_agrees_138 : decode cL_agrees 138 = .ok (.iload 11, 2) := by decide +kernel
theorem dL_agrees_140 : decode cL_agrees 140 = .ok (.iload 12, 2) := by decide +kernel
theorem dL_agrees_142 : decode cL_agrees 142 = .ok (.iadd, 1) := by decide +kernel
theorem dL_agrees_143 : decode cL_agrees 143 = .ok (.istore 6, 2) := by decide +kernel
theorem dL_agrees_145 : decode cL_agrees 145 = .ok (.iload 7, 2) := by decide +kernel
theorem dL_agrees_147 : decode cL_agrees 147 = .ok (.iload 12, 2) := by decide +kernel
theorem dL_agrees_149 : decode cL_agrees 149 = .ok (.iadd, 1) := by decide +kernel
theorem dL_agrees_150 : decode cL_agrees 150 = .ok (.istore 7, 2) := by decide +kernel
theorem dL_agrees_152 : decode cL_agrees 152 = .ok (.iinc 10 1, 3) := by decide +kernel
theorem dL_agrees_155 : decode cL_agrees 155 = .ok (.goto (-131), 3) := by decide +kernel
theorem dL_agrees_158 : decode cL_agrees 158 = .ok (.iconst 0, 1) := by decide +kernel
theorem dL_agrees_159 : decode cL_agrees 159 = .ok (.istore 10, 2) := by decide +kernel
theorem dL_agrees_161 : decode cL_agrees 161 = .ok (.iload 10, 2) := by decide +kernel
theorem dL_agrees_163 : decode cL_agrees 163 = .ok (.iload_n 2, 1) := by decide +kernel
theorem dL_agrees_164 : decode cL_agrees 164 = .ok (.if_icmp .ge 39, 3) := by decide +kernel
theorem dL_agrees_167 : decode cL_agrees 167 = .ok (.aload_n 0, 1) := by decide +kernel
theorem dL_agrees_168 : decode cL_agrees 168 = .ok (.iload 10, 2) := by decide +kernel
theorem dL_agrees_170 : decode cL_agrees 170 = .ok (.invokevirtual 57, 3) := by decide +kernel
theorem dL_agrees_173 : decode cL_agrees 173 = .ok (.aload_n 3, 1) := by decide +kernel
theorem dL_agrees_174 : decode cL_agrees 174 = .ok (.iload 10, 2) := by decide +kernel
