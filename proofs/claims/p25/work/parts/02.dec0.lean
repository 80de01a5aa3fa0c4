theorem dX0_init_0 : decode cX0_init 0 = .ok (.aload_n 0, 1) := by decide +kernel
theorem dX0_init_1 : decode cX0_init 1 = .ok (.invokespecial 3, 3) := by decide +kernel
theorem dX0_init_4 : decode cX0_init 4 = .ok (.aload_n 0, 1) := by decide +kernel
theorem dX0_init_5 : decode cX0_init 5 = .ok (.bipush 10, 2) := by decide +kernel
theorem dX0_init_7 : decode cX0_init 7 = .ok (.newarray .int, 2) := by decide +kernel
theorem dX0_init_9 : decode cX0_init 9 = .ok (.putfield 9, 3) := by decide +kernel
theorem dX0_init_12 : decode cX0_init 12 = .ok (.aload_n 0, 1) := by decide +kernel
theorem dX0_init_13 : decode cX0_init 13 = .ok (.bipush 10, 2) := by decide +kernel
theorem dX0_init_15 : decode cX0_init 15 = .ok (.newarray .int, 2) := by decide +kernel
theorem dX0_init_17 : decode cX0_init 17 = .ok (.putfield 15, 3) := by decide +kernel
theorem dX0_init_20 : decode cX0_init 20 = .ok (.aload_n 0, 1) := by decide +kernel
theorem dX0_init_21 : decode cX0_init 21 = .ok (.bipush 10, 2) := by decide +kernel
theorem dX0_init_23 : decode cX0_init 23 = .ok (.newarray .int, 2) := by decide +kernel
theorem dX0_init_25 : decode cX0_init 25 = .ok (.putfield 18, 3) := by decide +kernel
theorem dX0_init_28 : decode cX0_init 28 = .ok (.return_, 1) := by decide +kernel
theorem dX0_append_0 : decode cX0_append 0 = .ok (.aload_n 0, 1) := by decide +kernel
theorem dX0_append_1 : decode cX0_append 1 = .ok (.getfield 9, 3) := by decide +kernel
theorem dX0_append_4 : decode cX0_append 4 = .ok (.aload_n 0, 1) := by decide +kernel
theorem dX0_append_5 : decode cX0_append 5 = .ok (.getfield 21, 3) := by decide +kernel
theorem dX0_append_8 : decode cX0_append 8 = .ok (.iload_n 1, 1) := by decide +kernel
theorem dX0_append_9 : decode cX0_append 9 = .ok (.iastore, 1) := by decide +kernel
theorem dX0_append_10 : decode cX0_append 10 = .ok (.aload_n 0, 1) := by decide +kernel
theorem dX0_append_11 : decode cX0_append 11 = .ok (.getfield 15, 3) := by decide +kernel
theorem dX0_append_14 : decode cX0_append 14 = .ok (.aload_n 0, 1) := by decide +kernel
theorem dX0_append_15 : decode cX0_append 15 = .ok (.getfield 21, 3) := by decide +kernel
theorem dX0_append_18 : decode cX0_append 18 = .ok (.iload_n 2, 1) := by decide +kernel
theorem dX0_append_19 : decode cX0_append 19 = .ok (.iastore, 1) := by decide +kernel
theorem dX0_append_20 : decode cX0_append 20 = .ok (.aload_n 0, 1) := by decide +kernel
theorem dX0_append_21 : decode cX0_append 21 = .ok (.getfield 18, 3) := by decide +kernel
theorem dX0_append_24 : decode cX0_append 24 = .ok (.aload_n 0, 1) := by decide +kernel
theorem dX0_append_25 : decode cX0_append 25 = .ok (.getfield 21, 3) := by decide +kernel
theorem dX0_append_28 : decode cX0_append 28 = .ok (.iload_n 3, 1) := by decide +kernel
theorem dX0_append_29 : decode cX0_append 29 = .ok (.iastore, 1) := by decide +kernel
theorem dX0_append_30 : decode cX0_append 30 = .ok (.aload_n 0, 1) := by decide +kernel
theorem dX0_append_31 : decode cX0_append 31 = .ok (.dup, 1) := by decide +kernel
theorem dX0_append_32 : decode cX0_append 32 = .ok (.getfield 21, 3) := by decide +kernel
theorem dX0_append_35 : decode cX0_append 35 = .ok (.dup_x1, 1) := by decide +kernel
theorem dX0_append_36 : decode cX0_append 36 = .ok (.iconst 1, 1) := by decide +kernel
theorem dX0_append_37 : decode cX0_append 37 = .ok (.iadd, 1) := by decide +kernel
theorem dX0_append_38 : decode cX0_append 38 = .ok (.putfield 21, 3) := by decide +kernel
theorem dX0_append_41 : decode cX0_append 41 = .ok (.ireturn, 1) := by decide +kernel
theorem dX0_darkUntil_0 : decode cX0_darkUntil 0 = .ok (.iconst 0, 1) := by decide +kernel
theorem dX0_darkUntil_1 : decode cX0_darkUntil 1 = .ok (.istore 4, 2) := by decide +kernel
theorem dX0_darkUntil_3 : decode cX0_darkUntil 3 = .ok (.iload 4, 2) := by decide +kernel
theorem dX0_darkUntil_5 : decode cX0_darkUntil 5 = .ok (.aload_n 0, 1) := by decide +kernel
theorem dX0_darkUntil_6 : decode cX0_darkUntil 6 = .ok (.getfield 21, 3) := by decide +kernel
theorem dX0_darkUntil_9 : decode cX0_darkUntil 9 = .ok (.if_icmp .ge 86, 3) := by decide +kernel
theorem dX0_darkUntil_12 : decode cX0_darkUntil 12 = .ok (.iload_n 1, 1) := by decide +kernel
theorem dX0_darkUntil_13 : decode cX0_darkUntil 13 = .ok (.aload_n 0, 1) := by decide +kernel
theorem dX0_darkUntil_14 : decode cX0_darkUntil 14 = .ok (.getfield 18, 3) := by decide +kernel
theorem dX0_darkUntil_17 : decode cX0_darkUntil 17 = .ok (.iload 4, 2) := by decide +kernel
theorem dX0_darkUntil_19 : decode cX0_darkUntil 19 = .ok (.iaload, 1) := by decide +kernel
theorem dX0_darkUntil_20 : decode cX0_darkUntil 20 = .ok (.if_icmp .ge 6, 3) := by decide +kernel
theorem dX0_darkUntil_23 : decode cX0_darkUntil 23 = .ok (.goto 66, 3) := by decide +kernel
theorem dX0_darkUntil_26 : decode cX0_darkUntil 26 = .ok (.iload_n 2, 1) := by decide +kernel
theorem dX0_darkUntil_27 : decode cX0_darkUntil 27 = .ok (.iload_n 2, 1) := by decide +kernel
theorem dX0_darkUntil_28 : decode cX0_darkUntil 28 = .ok (.sipush 1440, 3) := by decide +kernel
theorem dX0_darkUntil_31 : decode cX0_darkUntil 31 = .ok (.irem, 1) := by decide +kernel
theorem dX0_darkUntil_32 : decode cX0_darkUntil 32 = .ok (.isub, 1) := by decide +kernel
theorem dX0_darkUntil_33 : decode cX0_darkUntil 33 = .ok (.istore 5, 2) := by decide +kernel
theorem dX0_darkUntil_35 : decode cX0_darkUntil 35 = .ok (.iload 5, 2) := by decide +kernel
theorem dX0_darkUntil_37 : decode cX0_darkUntil 37 = .ok (.iload_n 3, 1) := by decide +kernel
theorem dX0_darkUntil_38 : decode cX0_darkUntil 38 = .ok (.if_icmp .ge 51, 3) := by decide +kernel
theorem dX0_darkUntil_41 : decode cX0_darkUntil 41 = .ok (.iload_n 2, 1) := by decide +kernel
theorem dX0_darkUntil_42 : decode cX0_darkUntil 42 = .ok (.iload 5, 2) := by decide +kernel
theorem dX0_darkUntil_44 : decode cX0_darkUntil 44 = .ok (.aload_n 0, 1) := by decide +kernel
theorem dX0_darkUntil_45 : decode cX0_darkUntil 45 = .ok (.getfield 15, 3) := by decide +kernel
theorem dX0_darkUntil_48 : decode cX0_darkUntil 48 = .ok (.iload 4, 2) := by decide +kernel
theorem dX0_darkUntil_50 : decode cX0_darkUntil 50 = .ok (.iaload, 1) := by decide +kernel
theorem dX0_darkUntil_51 : decode cX0_darkUntil 51 = .ok (.iadd, 1) := by decide +kernel
theorem dX0_darkUntil_52 : decode cX0_darkUntil 52 = .ok (.if_icmp .ge 28, 3) := by decide +kernel
theorem dX0_darkUntil_55 : decode cX0_darkUntil 55 = .ok (.iload 5, 2) := by decide +kernel
theorem dX0_darkUntil_57 : decode cX0_darkUntil 57 = .ok (.aload_n 0, 1) := by decide +kernel
theorem dX0_darkUntil_58 : decode cX0_darkUntil 58 = .ok (.getfield 9, 3) := by decide +kernel
theorem dX0_darkUntil_61 : decode cX0_darkUntil 61 = .ok (.iload 4, 2) := by decide +kernel
theorem dX0_darkUntil_63 : decode cX0_darkUntil 63 = .ok (.iaload, 1) := by decide +kernel
theorem dX0_darkUntil_64 : decode cX0_darkUntil 64 = .ok (.iadd, 1) := by decide +kernel
theorem dX0_darkUntil_65 : decode cX0_darkUntil 65 = .ok (.iload_n 3, 1) := by decide +kernel
theorem dX0_darkUntil_66 : decode cX0_darkUntil 66 = .ok (.if_icmp .ge 14, 3) := by decide +kernel
theorem dX0_darkUntil_69 : decode cX0_darkUntil 69 = .ok (.iload 5, 2) := by decide +kernel
theorem dX0_darkUntil_71 : decode cX0_darkUntil 71 = .ok (.aload_n 0, 1) := by decide +kernel
theorem dX0_darkUntil_72 : decode cX0_darkUntil 72 = .ok (.getfield 15, 3) := by decide +kernel
theorem dX0_darkUntil_75 : decode cX0_darkUntil 75 = .ok (.iload 4, 2) := by decide +kernel
theorem dX0_darkUntil_77 : decode cX0_darkUntil 77 = .ok (.iaload, 1) := by decide +kernel
theorem dX0_darkUntil_78 : decode cX0_darkUntil 78 = .ok (.iadd, 1) := by decide +kernel
theorem dX0_darkUntil_79 : decode cX0_darkUntil 79 = .ok (.ireturn, 1) := by decide +kernel
theorem dX0_darkUntil_80 : decode cX0_darkUntil 80 = .ok (.iinc 5 1440, 6) := by decide +kernel
theorem dX0_darkUntil_86 : decode cX0_darkUntil 86 = .ok (.goto (-51), 3) := by decide +kernel
theorem dX0_darkUntil_89 : decode cX0_darkUntil 89 = .ok (.iinc 4 1, 3) := by decide +kernel
theorem dX0_darkUntil_92 : decode cX0_darkUntil 92 = .ok (.goto (-89), 3) := by decide +kernel
theorem dX0_darkUntil_95 : decode cX0_darkUntil 95 = .ok (.bipush (-9), 2) := by decide +kernel
theorem dX0_darkUntil_97 : decode cX0_darkUntil 97 = .ok (.ireturn, 1) := by decide +kernel
theorem dX0_copyFrom_0 : decode cX0_copyFrom 0 = .ok (.aload_n 0, 1) := by decide +kernel
theorem dX0_copyFrom_1 : decode cX0_copyFrom 1 = .ok (.aload_n 1, 1) := by decide +kernel
theorem dX0_copyFrom_2 : decode cX0_copyFrom 2 = .ok (.getfield 21, 3) := by decide +kernel
theorem dX0_copyFrom_5 : decode cX0_copyFrom 5 = .ok (.putfield 21, 3) := by decide +kernel
theorem dX0_copyFrom_8 : decode cX0_copyFrom 8 = .ok (.aload_n 1, 1) := by decide +kernel
theorem dX0_copyFrom_9 : decode cX0_copyFrom 9 = .ok (.getfield 9, 3) := by decide +kernel
theorem dX0_copyFrom_12 : decode cX0_copyFrom 12 = .ok (.iconst 0, 1) := by decide +kernel
theorem dX0_copyFrom_13 : decode cX0_copyFrom 13 = .ok (.aload_n 0, 1) := by decide +kernel
theorem dX0_copyFrom_14 : decode cX0_copyFrom 14 = .ok (.getfield 9, 3) := by decide +kernel
theorem dX0_copyFrom_17 : decode cX0_copyFrom 17 = .ok (.iconst 0, 1) := by decide +kernel
theorem dX0_copyFrom_18 : decode cX0_copyFrom 18 = .ok (.aload_n 0, 1) := by decide +kernel
theorem dX0_copyFrom_19 : decode cX0_copyFrom 19 = .ok (.getfield 21, 3) := by decide +kernel
theorem dX0_copyFrom_22 : decode cX0_copyFrom 22 = .ok (.invokestatic 25, 3) := by decide +kernel
theorem dX0_copyFrom_25 : decode cX0_copyFrom 25 = .ok (.aload_n 1, 1) := by decide +kernel
theorem dX0_copyFrom_26 : decode cX0_copyFrom 26 = .ok (.getfield 15, 3) := by decide +kernel
theorem dX0_copyFrom_29 : decode cX0_copyFrom 29 = .ok (.iconst 0, 1) := by decide +kernel
theorem dX0_copyFrom_30 : decode cX0_copyFrom 30 = .ok (.aload_n 0, 1) := by decide +kernel
theorem dX0_copyFrom_31 : decode cX0_copyFrom 31 = .ok (.getfield 15, 3) := by decide +kernel
theorem dX0_copyFrom_34 : decode cX0_copyFrom 34 = .ok (.iconst 0, 1) := by decide +kernel
theorem dX0_copyFrom_35 : decode cX0_copyFrom 35 = .ok (.aload_n 0, 1) := by decide +kernel
theorem dX0_copyFrom_36 : decode cX0_copyFrom 36 = .ok (.getfield 21, 3) := by decide +kernel
theorem dX0_copyFrom_39 : decode cX0_copyFrom 39 = .ok (.invokestatic 25, 3) := by decide +kernel
theorem dX0_copyFrom_42 : decode cX0_copyFrom 42 = .ok (.aload_n 1, 1) := by decide +kernel
theorem dX0_copyFrom_43 : decode cX0_copyFrom 43 = .ok (.getfield 18, 3) := by decide +kernel
theorem dX0_copyFrom_46 : decode cX0_copyFrom 46 = .ok (.iconst 0, 1) := by decide +kernel
theorem dX0_copyFrom_47 : decode cX0_copyFrom 47 = .ok (.aload_n 0, 1) := by decide +kernel
theorem dX0_copyFrom_48 : decode cX0_copyFrom 48 = .ok (.getfield 18, 3) := by decide +kernel
theorem dX0_copyFrom_51 : decode cX0_copyFrom 51 = .ok (.iconst 0, 1) := by decide +kernel
theorem dX0_copyFrom_52 : decode cX0_copyFrom 52 = .ok (.aload_n 0, 1) := by decide +kernel
theorem dX0_copyFrom_53 : decode cX0_copyFrom 53 = .ok (.getfield 21, 3) := by decide +kernel
theorem dX0_copyFrom_56 : decode cX0_copyFrom 56 = .ok (.invokestatic 25, 3) := by decide +kernel
theorem dX0_copyFrom_59 : decode cX0_copyFrom 59 = .ok (.return_, 1) := by decide +kernel
theorem dX1_init_0 : decode cX1_init 0 = .ok (.aload_n 0, 1) := by decide +kernel
theorem dX1_init_1 : decode cX1_init 1 = .ok (.invokespecial 3, 3) := by decide +kernel
theorem dX1_init_4 : decode cX1_init 4 = .ok (.aload_n 0, 1) := by decide +kernel
theorem dX1_init_5 : decode cX1_init 5 = .ok (.sipush 240, 3) := by decide +kernel
theorem dX1_init_8 : decode cX1_init 8 = .ok (.newarray .int, 2) := by decide +kernel
theorem dX1_init_10 : decode cX1_init 10 = .ok (.putfield 9, 3) := by decide +kernel
theorem dX1_init_13 : decode cX1_init 13 = .ok (.aload_n 0, 1) := by decide +kernel
theorem dX1_init_14 : decode cX1_init 14 = .ok (.sipush 240, 3) := by decide +kernel
theorem dX1_init_17 : decode cX1_init 17 = .ok (.newarray .int, 2) := by decide +kernel
theorem dX1_init_19 : decode cX1_init 19 = .ok (.putfield 15, 3) := by decide +kernel
theorem dX1_init_22 : decode cX1_init 22 = .ok (.aload_n 0, 1) := by decide +kernel
theorem dX1_init_23 : decode cX1_init 23 = .ok (.sipush 240, 3) := by decide +kernel
theorem dX1_init_26 : decode cX1_init 26 = .ok (.newarray .int, 2) := by decide +kernel
theorem dX1_init_28 : decode cX1_init 28 = .ok (.putfield 18, 3) := by decide +kernel
theorem dX1_init_31 : decode cX1_init 31 = .ok (.aload_n 0, 1) := by decide +kernel
theorem dX1_init_32 : decode cX1_init 32 = .ok (.sipush 240, 3) := by decide +kernel
theorem dX1_init_35 : decode cX1_init 35 = .ok (.newarray .int, 2) := by decide +kernel
theorem dX1_init_37 : decode cX1_init 37 = .ok (.putfield 21, 3) := by decide +kernel
theorem dX1_init_40 : decode cX1_init 40 = .ok (.aload_n 0, 1) := by decide +kernel
theorem dX1_init_41 : decode cX1_init 41 = .ok (.sipush 240, 3) := by decide +kernel
theorem dX1_init_44 : decode cX1_init 44 = .ok (.newarray .int, 2) := by decide +kernel
theorem dX1_init_46 : decode cX1_init 46 = .ok (.putfield 24, 3) := by decide +kernel
theorem dX1_init_49 : decode cX1_init 49 = .ok (.return_, 1) := by decide +kernel
theorem dX1_find_0 : decode cX1_find 0 = .ok (.aload_n 0, 1) := by decide +kernel
theorem dX1_find_1 : decode cX1_find 1 = .ok (.iload_n 2, 1) := by decide +kernel
theorem dX1_find_2 : decode cX1_find 2 = .ok (.putfield 27, 3) := by decide +kernel
theorem dX1_find_5 : decode cX1_find 5 = .ok (.aload_n 0, 1) := by decide +kernel
theorem dX1_find_6 : decode cX1_find 6 = .ok (.iload_n 3, 1) := by decide +kernel
theorem dX1_find_7 : decode cX1_find 7 = .ok (.iload_n 2, 1) := by decide +kernel
theorem dX1_find_8 : decode cX1_find 8 = .ok (.isub, 1) := by decide +kernel
theorem dX1_find_9 : decode cX1_find 9 = .ok (.sipush 240, 3) := by decide +kernel
theorem dX1_find_12 : decode cX1_find 12 = .ok (.invokestatic 31, 3) := by decide +kernel
theorem dX1_find_15 : decode cX1_find 15 = .ok (.putfield 37, 3) := by decide +kernel
theorem dX1_find_18 : decode cX1_find 18 = .ok (.aload_n 0, 1) := by decide +kernel
theorem dX1_find_19 : decode cX1_find 19 = .ok (.aload_n 1, 1) := by decide +kernel
theorem dX1_find_20 : decode cX1_find 20 = .ok (.aload_n 1, 1) := by decide +kernel
theorem dX1_find_21 : decode cX1_find 21 = .ok (.getfield 40, 3) := by decide +kernel
theorem dX1_find_24 : decode cX1_find 24 = .ok (.iload_n 3, 1) := by decide +kernel
theorem dX1_find_25 : decode cX1_find 25 = .ok (.invokevirtual 46, 3) := by decide +kernel
theorem dX1_find_28 : decode cX1_find 28 = .ok (.invokestatic 52, 3) := by decide +kernel
theorem dX1_find_31 : decode cX1_find 31 = .ok (.putfield 56, 3) := by decide +kernel
theorem dX1_find_34 : decode cX1_find 34 = .ok (.aload_n 0, 1) := by decide +kernel
theorem dX1_find_35 : decode cX1_find 35 = .ok (.getfield 37, 3) := by decide +kernel
theorem dX1_find_38 : decode cX1_find 38 = .ok (.iconst 1, 1) := by decide +kernel
theorem dX1_find_39 : decode cX1_find 39 = .ok (.isub, 1) := by decide +kernel
theorem dX1_find_40 : decode cX1_find 40 = .ok (.istore 4, 2) := by decide +kernel
theorem dX1_find_42 : decode cX1_find 42 = .ok (.iload 4, 2) := by decide +kernel
theorem dX1_find_44 : decode cX1_find 44 = .ok (.ifCond .lt 16, 3) := by decide +kernel
theorem dX1_find_47 : decode cX1_find 47 = .ok (.aload_n 0, 1) := by decide +kernel
theorem dX1_find_48 : decode cX1_find 48 = .ok (.aload_n 1, 1) := by decide +kernel
theorem dX1_find_49 : decode cX1_find 49 = .ok (.iload 4, 2) := by decide +kernel
theorem dX1_find_51 : decode cX1_find 51 = .ok (.invokevirtual 59, 3) := by decide +kernel
theorem dX1_find_54 : decode cX1_find 54 = .ok (.iinc 4 (-1), 3) := by decide +kernel
theorem dX1_find_57 : decode cX1_find 57 = .ok (.goto (-15), 3) := by decide +kernel
theorem dX1_find_60 : decode cX1_find 60 = .ok (.aload_n 0, 1) := by decide +kernel
theorem dX1_find_61 : decode cX1_find 61 = .ok (.aload_n 1, 1) := by decide +kernel
theorem dX1_find_62 : decode cX1_find 62 = .ok (.getfield 63, 3) := by decide +kernel
theorem dX1_find_65 : decode cX1_find 65 = .ok (.aload_n 1, 1) := by decide +kernel
theorem dX1_find_66 : decode cX1_find 66 = .ok (.aload_n 1, 1) := by decide +kernel
theorem dX1_find_67 : decode cX1_find 67 = .ok (.getfield 40, 3) := by decide +kernel
theorem dX1_find_70 : decode cX1_find 70 = .ok (.iload_n 2, 1) := by decide +kernel
theorem dX1_find_71 : decode cX1_find 71 = .ok (.invokevirtual 67, 3) := by decide +kernel
theorem dX1_find_74 : decode cX1_find 74 = .ok (.invokestatic 52, 3) := by decide +kernel
theorem dX1_find_77 : decode cX1_find 77 = .ok (.invokevirtual 70, 3) := by decide +kernel
theorem dX1_find_80 : decode cX1_find 80 = .ok (.ireturn, 1) := by decide +kernel
theorem dX1_fillerOf_0 : decode cX1_fillerOf 0 = .ok (.iload_n 1, 1) := by decide +kernel
theorem dX1_fillerOf_1 : decode cX1_fillerOf 1 = .ok (.ifCond .lt 14, 3) := by decide +kernel
theorem dX1_fillerOf_4 : decode cX1_fillerOf 4 = .ok (.iload_n 1, 1) := by decide +kernel
theorem dX1_fillerOf_5 : decode cX1_fillerOf 5 = .ok (.aload_n 0, 1) := by decide +kernel
theorem dX1_fillerOf_6 : decode cX1_fillerOf 6 = .ok (.getfield 40, 3) := by decide +kernel
theorem dX1_fillerOf_9 : decode cX1_fillerOf 9 = .ok (.getfield 74, 3) := by decide +kernel
theorem dX1_fillerOf_12 : decode cX1_fillerOf 12 = .ok (.if_icmp .lt 6, 3) := by decide +kernel
theorem dX1_fillerOf_15 : decode cX1_fillerOf 15 = .ok (.bipush (-9), 2) := by decide +kernel
theorem dX1_fillerOf_17 : decode cX1_fillerOf 17 = .ok (.ireturn, 1) := by decide +kernel
theorem dX1_fillerOf_18 : decode cX1_fillerOf 18 = .ok (.aload_n 0, 1) := by decide +kernel
theorem dX1_fillerOf_19 : decode cX1_fillerOf 19 = .ok (.getfield 40, 3) := by decide +kernel
theorem dX1_fillerOf_22 : decode cX1_fillerOf 22 = .ok (.getfield 77, 3) := by decide +kernel
theorem dX1_fillerOf_25 : decode cX1_fillerOf 25 = .ok (.iload_n 1, 1) := by decide +kernel
theorem dX1_fillerOf_26 : decode cX1_fillerOf 26 = .ok (.iaload, 1) := by decide +kernel
theorem dX1_fillerOf_27 : decode cX1_fillerOf 27 = .ok (.istore_n 2, 1) := by decide +kernel
theorem dX1_fillerOf_28 : decode cX1_fillerOf 28 = .ok (.aload_n 0, 1) := by decide +kernel
theorem dX1_fillerOf_29 : decode cX1_fillerOf 29 = .ok (.getfield 63, 3) := by decide +kernel
theorem dX1_fillerOf_32 : decode cX1_fillerOf 32 = .ok (.getfield 80, 3) := by decide +kernel
theorem dX1_fillerOf_35 : decode cX1_fillerOf 35 = .ok (.iload_n 2, 1) := by decide +kernel
theorem dX1_fillerOf_36 : decode cX1_fillerOf 36 = .ok (.iaload, 1) := by decide +kernel
theorem dX1_fillerOf_37 : decode cX1_fillerOf 37 = .ok (.iconst 2, 1) := by decide +kernel
theorem dX1_fillerOf_38 : decode cX1_fillerOf 38 = .ok (.if_icmp .ne 7, 3) := by decide +kernel
theorem dX1_fillerOf_41 : decode cX1_fillerOf 41 = .ok (.iload_n 2, 1) := by decide +kernel
theorem dX1_fillerOf_42 : decode cX1_fillerOf 42 = .ok (.goto 5, 3) := by decide +kernel
theorem dX1_fillerOf_45 : decode cX1_fillerOf 45 = .ok (.bipush (-9), 2) := by decide +kernel
theorem dX1_fillerOf_47 : decode cX1_fillerOf 47 = .ok (.ireturn, 1) := by decide +kernel
theorem dX1_settle_0 : decode cX1_settle 0 = .ok (.aload_n 0, 1) := by decide +kernel
theorem dX1_settle_1 : decode cX1_settle 1 = .ok (.getfield 15, 3) := by decide +kernel
theorem dX1_settle_4 : decode cX1_settle 4 = .ok (.iload_n 2, 1) := by decide +kernel
theorem dX1_settle_5 : decode cX1_settle 5 = .ok (.bipush (-9), 2) := by decide +kernel
theorem dX1_settle_7 : decode cX1_settle 7 = .ok (.iastore, 1) := by decide +kernel
theorem dX1_settle_8 : decode cX1_settle 8 = .ok (.aload_n 0, 1) := by decide +kernel
theorem dX1_settle_9 : decode cX1_settle 9 = .ok (.getfield 18, 3) := by decide +kernel
theorem dX1_settle_12 : decode cX1_settle 12 = .ok (.iload_n 2, 1) := by decide +kernel
theorem dX1_settle_13 : decode cX1_settle 13 = .ok (.sipush 241, 3) := by decide +kernel
theorem dX1_settle_16 : decode cX1_settle 16 = .ok (.iastore, 1) := by decide +kernel
theorem dX1_settle_17 : decode cX1_settle 17 = .ok (.aload_n 0, 1) := by decide +kernel
theorem dX1_settle_18 : decode cX1_settle 18 = .ok (.getfield 21, 3) := by decide +kernel
theorem dX1_settle_21 : decode cX1_settle 21 = .ok (.iload_n 2, 1) := by decide +kernel
theorem dX1_settle_22 : decode cX1_settle 22 = .ok (.bipush (-9), 2) := by decide +kernel
theorem dX1_settle_24 : decode cX1_settle 24 = .ok (.iastore, 1) := by decide +kernel
theorem dX1_settle_25 : decode cX1_settle 25 = .ok (.aload_n 0, 1) := by decide +kernel
theorem dX1_settle_26 : decode cX1_settle 26 = .ok (.getfield 24, 3) := by decide +kernel
theorem dX1_settle_29 : decode cX1_settle 29 = .ok (.iload_n 2, 1) := by decide +kernel
theorem dX1_settle_30 : decode cX1_settle 30 = .ok (.sipush 241, 3) := by decide +kernel
theorem dX1_settle_33 : decode cX1_settle 33 = .ok (.iastore, 1) := by decide +kernel
theorem dX1_settle_34 : decode cX1_settle 34 = .ok (.iconst 0, 1) := by decide +kernel
theorem dX1_settle_35 : decode cX1_settle 35 = .ok (.istore_n 3, 1) := by decide +kernel
theorem dX1_settle_36 : decode cX1_settle 36 = .ok (.iload_n 3, 1) := by decide +kernel
theorem dX1_settle_37 : decode cX1_settle 37 = .ok (.aload_n 1, 1) := by decide +kernel
theorem dX1_settle_38 : decode cX1_settle 38 = .ok (.getfield 63, 3) := by decide +kernel
theorem dX1_settle_41 : decode cX1_settle 41 = .ok (.getfield 85, 3) := by decide +kernel
theorem dX1_settle_44 : decode cX1_settle 44 = .ok (.if_icmp .ge 97, 3) := by decide +kernel
theorem dX1_settle_47 : decode cX1_settle 47 = .ok (.aload_n 0, 1) := by decide +kernel
theorem dX1_settle_48 : decode cX1_settle 48 = .ok (.iload_n 3, 1) := by decide +kernel
theorem dX1_settle_49 : decode cX1_settle 49 = .ok (.aload_n 1, 1) := by decide +kernel
theorem dX1_settle_50 : decode cX1_settle 50 = .ok (.iload_n 2, 1) := by decide +kernel
theorem dX1_settle_51 : decode cX1_settle 51 = .ok (.invokevirtual 86, 3) := by decide +kernel
theorem dX1_settle_54 : decode cX1_settle 54 = .ok (.istore 4, 2) := by decide +kernel
theorem dX1_settle_56 : decode cX1_settle 56 = .ok (.iload 4, 2) := by decide +kernel
theorem dX1_settle_58 : decode cX1_settle 58 = .ok (.aload_n 0, 1) := by decide +kernel
theorem dX1_settle_59 : decode cX1_settle 59 = .ok (.getfield 18, 3) := by decide +kernel
theorem dX1_settle_62 : decode cX1_settle 62 = .ok (.iload_n 2, 1) := by decide +kernel
theorem dX1_settle_63 : decode cX1_settle 63 = .ok (.iaload, 1) := by decide +kernel
theorem dX1_settle_64 : decode cX1_settle 64 = .ok (.if_icmp .ge 45, 3) := by decide +kernel
theorem dX1_settle_67 : decode cX1_settle 67 = .ok (.aload_n 0, 1) := by decide +kernel
theorem dX1_settle_68 : decode cX1_settle 68 = .ok (.getfield 21, 3) := by decide +kernel
theorem dX1_settle_71 : decode cX1_settle 71 = .ok (.iload_n 2, 1) := by decide +kernel
theorem dX1_settle_72 : decode cX1_settle 72 = .ok (.aload_n 0, 1) := by decide +kernel
theorem dX1_settle_73 : decode cX1_settle 73 = .ok (.getfield 15, 3) := by decide +kernel
theorem dX1_settle_76 : decode cX1_settle 76 = .ok (.iload_n 2, 1) := by decide +kernel
theorem dX1_settle_77 : decode cX1_settle 77 = .ok (.iaload, 1) := by decide +kernel
theorem dX1_settle_78 : decode cX1_settle 78 = .ok (.iastore, 1) := by decide +kernel
theorem dX1_settle_79 : decode cX1_settle 79 = .ok (.aload_n 0, 1) := by decide +kernel
theorem dX1_settle_80 : decode cX1_settle 80 = .ok (.getfield 24, 3) := by decide +kernel
theorem dX1_settle_83 : decode cX1_settle 83 = .ok (.iload_n 2, 1) := by decide +kernel
theorem dX1_settle_84 : decode cX1_settle 84 = .ok (.aload_n 0, 1) := by decide +kernel
theorem dX1_settle_85 : decode cX1_settle 85 = .ok (.getfield 18, 3) := by decide +kernel
theorem dX1_settle_88 : decode cX1_settle 88 = .ok (.iload_n 2, 1) := by decide +kernel
theorem dX1_settle_89 : decode cX1_settle 89 = .ok (.iaload, 1) := by decide +kernel
theorem dX1_settle_90 : decode cX1_settle 90 = .ok (.iastore, 1) := by decide +kernel
theorem dX1_settle_91 : decode cX1_settle 91 = .ok (.aload_n 0, 1) := by decide +kernel
theorem dX1_settle_92 : decode cX1_settle 92 = .ok (.getfield 15, 3) := by decide +kernel
theorem dX1_settle_95 : decode cX1_settle 95 = .ok (.iload_n 2, 1) := by decide +kernel
theorem dX1_settle_96 : decode cX1_settle 96 = .ok (.iload_n 3, 1) := by decide +kernel
theorem dX1_settle_97 : decode cX1_settle 97 = .ok (.iastore, 1) := by decide +kernel
theorem dX1_settle_98 : decode cX1_settle 98 = .ok (.aload_n 0, 1) := by decide +kernel
theorem dX1_settle_99 : decode cX1_settle 99 = .ok (.getfield 18, 3) := by decide +kernel
theorem dX1_settle_102 : decode cX1_settle 102 = .ok (.iload_n 2, 1) := by decide +kernel
theorem dX1_settle_103 : decode cX1_settle 103 = .ok (.iload 4, 2) := by decide +kernel
theorem dX1_settle_105 : decode cX1_settle 105 = .ok (.iastore, 1) := by decide +kernel
theorem dX1_settle_106 : decode cX1_settle 106 = .ok (.goto 29, 3) := by decide +kernel
theorem dX1_settle_109 : decode cX1_settle 109 = .ok (.iload 4, 2) := by decide +kernel
theorem dX1_settle_111 : decode cX1_settle 111 = .ok (.aload_n 0, 1) := by decide +kernel
theorem dX1_settle_112 : decode cX1_settle 112 = .ok (.getfield 24, 3) := by decide +kernel
theorem dX1_settle_115 : decode cX1_settle 115 = .ok (.iload_n 2, 1) := by decide +kernel
theorem dX1_settle_116 : decode cX1_settle 116 = .ok (.iaload, 1) := by decide +kernel
theorem dX1_settle_117 : decode cX1_settle 117 = .ok (.if_icmp .ge 18, 3) := by decide +kernel
theorem dX1_settle_120 : decode cX1_settle 120 = .ok (.aload_n 0, 1) := by decide +kernel
theorem dX1_settle_121 : decode cX1_settle 121 = .ok (.getfield 21, 3) := by decide +kernel
theorem dX1_settle_124 : decode cX1_settle 124 = .ok (.iload_n 2, 1) := by decide +kernel
theorem dX1_settle_125 : decode cX1_settle 125 = .ok (.iload_n 3, 1) := by decide +kernel
theorem dX1_settle_126 : decode cX1_settle 126 = .ok (.iastore, 1) := by decide +kernel
theorem dX1_settle_127 : decode cX1_settle 127 = .ok (.aload_n 0, 1) := by decide +kernel
theorem dX1_settle_128 : decode cX1_settle 128 = .ok (.getfield 24, 3) := by decide +kernel
theorem dX1_settle_131 : decode cX1_settle 131 = .ok (.iload_n 2, 1) := by decide +kernel
theorem dX1_settle_132 : decode cX1_settle 132 = .ok (.iload 4, 2) := by decide +kernel
theorem dX1_settle_134 : decode cX1_settle 134 = .ok (.iastore, 1) := by decide +kernel
theorem dX1_settle_135 : decode cX1_settle 135 = .ok (.iinc 3 1, 3) := by decide +kernel
theorem dX1_settle_138 : decode cX1_settle 138 = .ok (.goto (-102), 3) := by decide +kernel
theorem dX1_settle_141 : decode cX1_settle 141 = .ok (.return_, 1) := by decide +kernel
theorem dX1_itemsWith_0 : decode cX1_itemsWith 0 = .ok (.iload_n 3, 1) := by decide +kernel
theorem dX1_itemsWith_1 : decode cX1_itemsWith 1 = .ok (.aload_n 2, 1) := by decide +kernel
theorem dX1_itemsWith_2 : decode cX1_itemsWith 2 = .ok (.getfield 63, 3) := by decide +kernel
theorem dX1_itemsWith_5 : decode cX1_itemsWith 5 = .ok (.getfield 90, 3) := by decide +kernel
theorem dX1_itemsWith_8 : decode cX1_itemsWith 8 = .ok (.iload_n 1, 1) := by decide +kernel
theorem dX1_itemsWith_9 : decode cX1_itemsWith 9 = .ok (.iaload, 1) := by decide +kernel
theorem dX1_itemsWith_10 : decode cX1_itemsWith 10 = .ok (.iadd, 1) := by decide +kernel
theorem dX1_itemsWith_11 : decode cX1_itemsWith 11 = .ok (.istore 4, 2) := by decide +kernel
theorem dX1_itemsWith_13 : decode cX1_itemsWith 13 = .ok (.aload_n 2, 1) := by decide +kernel
theorem dX1_itemsWith_14 : decode cX1_itemsWith 14 = .ok (.getfield 63, 3) := by decide +kernel
theorem dX1_itemsWith_17 : decode cX1_itemsWith 17 = .ok (.getfield 80, 3) := by decide +kernel
theorem dX1_itemsWith_20 : decode cX1_itemsWith 20 = .ok (.iload_n 1, 1) := by decide +kernel
theorem dX1_itemsWith_21 : decode cX1_itemsWith 21 = .ok (.iaload, 1) := by decide +kernel
theorem dX1_itemsWith_22 : decode cX1_itemsWith 22 = .ok (.iconst 2, 1) := by decide +kernel
theorem dX1_itemsWith_23 : decode cX1_itemsWith 23 = .ok (.if_icmp .ne 12, 3) := by decide +kernel
theorem dX1_itemsWith_26 : decode cX1_itemsWith 26 = .ok (.iload 4, 2) := by decide +kernel
theorem dX1_itemsWith_28 : decode cX1_itemsWith 28 = .ok (.aload_n 0, 1) := by decide +kernel
theorem dX1_itemsWith_29 : decode cX1_itemsWith 29 = .ok (.getfield 37, 3) := by decide +kernel
theorem dX1_itemsWith_32 : decode cX1_itemsWith 32 = .ok (.if_icmp .le 7, 3) := by decide +kernel
theorem dX1_itemsWith_35 : decode cX1_itemsWith 35 = .ok (.sipush 241, 3) := by decide +kernel
theorem dX1_itemsWith_38 : decode cX1_itemsWith 38 = .ok (.ireturn, 1) := by decide +kernel
theorem dX1_itemsWith_39 : decode cX1_itemsWith 39 = .ok (.aload_n 2, 1) := by decide +kernel
theorem dX1_itemsWith_40 : decode cX1_itemsWith 40 = .ok (.getfield 92, 3) := by decide +kernel
theorem dX1_itemsWith_43 : decode cX1_itemsWith 43 = .ok (.aload_n 2, 1) := by decide +kernel
theorem dX1_itemsWith_44 : decode cX1_itemsWith 44 = .ok (.getfield 63, 3) := by decide +kernel
theorem dX1_itemsWith_47 : decode cX1_itemsWith 47 = .ok (.getfield 96, 3) := by decide +kernel
theorem dX1_itemsWith_50 : decode cX1_itemsWith 50 = .ok (.iload_n 1, 1) := by decide +kernel
theorem dX1_itemsWith_51 : decode cX1_itemsWith 51 = .ok (.iaload, 1) := by decide +kernel
theorem dX1_itemsWith_52 : decode cX1_itemsWith 52 = .ok (.aload_n 0, 1) := by decide +kernel
theorem dX1_itemsWith_53 : decode cX1_itemsWith 53 = .ok (.getfield 27, 3) := by decide +kernel
theorem dX1_itemsWith_56 : decode cX1_itemsWith 56 = .ok (.iload_n 3, 1) := by decide +kernel
theorem dX1_itemsWith_57 : decode cX1_itemsWith 57 = .ok (.iadd, 1) := by decide +kernel
theorem dX1_itemsWith_58 : decode cX1_itemsWith 58 = .ok (.aload_n 0, 1) := by decide +kernel
theorem dX1_itemsWith_59 : decode cX1_itemsWith 59 = .ok (.getfield 27, 3) := by decide +kernel
theorem dX1_itemsWith_62 : decode cX1_itemsWith 62 = .ok (.iload 4, 2) := by decide +kernel
theorem dX1_itemsWith_64 : decode cX1_itemsWith 64 = .ok (.iadd, 1) := by decide +kernel
theorem dX1_itemsWith_65 : decode cX1_itemsWith 65 = .ok (.invokevirtual 99, 3) := by decide +kernel
theorem dX1_itemsWith_68 : decode cX1_itemsWith 68 = .ok (.bipush (-9), 2) := by decide +kernel
theorem dX1_itemsWith_70 : decode cX1_itemsWith 70 = .ok (.if_icmp .eq 7, 3) := by decide +kernel
theorem dX1_itemsWith_73 : decode cX1_itemsWith 73 = .ok (.sipush 241, 3) := by decide +kernel
theorem dX1_itemsWith_76 : decode cX1_itemsWith 76 = .ok (.ireturn, 1) := by decide +kernel
theorem dX1_itemsWith_77 : decode cX1_itemsWith 77 = .ok (.iload 4, 2) := by decide +kernel
theorem dX1_itemsWith_79 : decode cX1_itemsWith 79 = .ok (.aload_n 0, 1) := by decide +kernel
theorem dX1_itemsWith_80 : decode cX1_itemsWith 80 = .ok (.getfield 37, 3) := by decide +kernel
theorem dX1_itemsWith_83 : decode cX1_itemsWith 83 = .ok (.if_icmp .ne 19, 3) := by decide +kernel
theorem dX1_itemsWith_86 : decode cX1_itemsWith 86 = .ok (.iload_n 1, 1) := by decide +kernel
theorem dX1_itemsWith_87 : decode cX1_itemsWith 87 = .ok (.aload_n 0, 1) := by decide +kernel
theorem dX1_itemsWith_88 : decode cX1_itemsWith 88 = .ok (.getfield 56, 3) := by decide +kernel
theorem dX1_itemsWith_91 : decode cX1_itemsWith 91 = .ok (.if_icmp .ne 9, 3) := by decide +kernel
theorem dX1_itemsWith_94 : decode cX1_itemsWith 94 = .ok (.sipush 241, 3) := by decide +kernel
theorem dX1_itemsWith_97 : decode cX1_itemsWith 97 = .ok (.goto 4, 3) := by decide +kernel
theorem dX1_itemsWith_100 : decode cX1_itemsWith 100 = .ok (.iconst 1, 1) := by decide +kernel
theorem dX1_itemsWith_101 : decode cX1_itemsWith 101 = .ok (.ireturn, 1) := by decide +kernel
theorem dX1_itemsWith_102 : decode cX1_itemsWith 102 = .ok (.aload_n 0, 1) := by decide +kernel
theorem dX1_itemsWith_103 : decode cX1_itemsWith 103 = .ok (.getfield 15, 3) := by decide +kernel
theorem dX1_itemsWith_106 : decode cX1_itemsWith 106 = .ok (.iload 4, 2) := by decide +kernel
theorem dX1_itemsWith_108 : decode cX1_itemsWith 108 = .ok (.iaload, 1) := by decide +kernel
theorem dX1_itemsWith_109 : decode cX1_itemsWith 109 = .ok (.iload_n 1, 1) := by decide +kernel
theorem dX1_itemsWith_110 : decode cX1_itemsWith 110 = .ok (.if_icmp .ne 13, 3) := by decide +kernel
theorem dX1_itemsWith_113 : decode cX1_itemsWith 113 = .ok (.aload_n 0, 1) := by decide +kernel
theorem dX1_itemsWith_114 : decode cX1_itemsWith 114 = .ok (.getfield 24, 3) := by decide +kernel
theorem dX1_itemsWith_117 : decode cX1_itemsWith 117 = .ok (.iload 4, 2) := by decide +kernel
theorem dX1_itemsWith_119 : decode cX1_itemsWith 119 = .ok (.iaload, 1) := by decide +kernel
theorem dX1_itemsWith_120 : decode cX1_itemsWith 120 = .ok (.goto 10, 3) := by decide +kernel
theorem dX1_itemsWith_123 : decode cX1_itemsWith 123 = .ok (.aload_n 0, 1) := by decide +kernel
theorem dX1_itemsWith_124 : decode cX1_itemsWith 124 = .ok (.getfield 18, 3) := by decide +kernel
theorem dX1_itemsWith_127 : decode cX1_itemsWith 127 = .ok (.iload 4, 2) := by decide +kernel
theorem dX1_itemsWith_129 : decode cX1_itemsWith 129 = .ok (.iaload, 1) := by decide +kernel
theorem dX1_itemsWith_130 : decode cX1_itemsWith 130 = .ok (.istore 5, 2) := by decide +kernel
theorem dX1_itemsWith_132 : decode cX1_itemsWith 132 = .ok (.iload 5, 2) := by decide +kernel
theorem dX1_itemsWith_134 : decode cX1_itemsWith 134 = .ok (.iconst 1, 1) := by decide +kernel
theorem dX1_itemsWith_135 : decode cX1_itemsWith 135 = .ok (.iadd, 1) := by decide +kernel
theorem dX1_itemsWith_136 : decode cX1_itemsWith 136 = .ok (.sipush 241, 3) := by decide +kernel
theorem dX1_itemsWith_139 : decode cX1_itemsWith 139 = .ok (.invokestatic 31, 3) := by decide +kernel
theorem dX1_itemsWith_142 : decode cX1_itemsWith 142 = .ok (.ireturn, 1) := by decide +kernel
theorem dX1_choose_0 : decode cX1_choose 0 = .ok (.iconst 0, 1) := by decide +kernel
theorem dX1_choose_1 : decode cX1_choose 1 = .ok (.istore_n 3, 1) := by decide +kernel
theorem dX1_choose_2 : decode cX1_choose 2 = .ok (.iload_n 2, 1) := by decide +kernel
theorem dX1_choose_3 : decode cX1_choose 3 = .ok (.istore 4, 2) := by decide +kernel
theorem dX1_choose_5 : decode cX1_choose 5 = .ok (.iconst 0, 1) := by decide +kernel
theorem dX1_choose_6 : decode cX1_choose 6 = .ok (.istore 5, 2) := by decide +kernel
theorem dX1_choose_8 : decode cX1_choose 8 = .ok (.iload 5, 2) := by decide +kernel
theorem dX1_choose_10 : decode cX1_choose 10 = .ok (.aload_n 0, 1) := by decide +kernel
theorem dX1_choose_11 : decode cX1_choose 11 = .ok (.getfield 37, 3) := by decide +kernel
theorem dX1_choose_14 : decode cX1_choose 14 = .ok (.if_icmp .ge 81, 3) := by decide +kernel
theorem dX1_choose_17 : decode cX1_choose 17 = .ok (.iload_n 3, 1) := by decide +kernel
theorem dX1_choose_18 : decode cX1_choose 18 = .ok (.sipush 240, 3) := by decide +kernel
theorem dX1_choose_21 : decode cX1_choose 21 = .ok (.if_icmp .ge 74, 3) := by decide +kernel
theorem dX1_choose_24 : decode cX1_choose 24 = .ok (.aload_n 0, 1) := by decide +kernel
theorem dX1_choose_25 : decode cX1_choose 25 = .ok (.getfield 15, 3) := by decide +kernel
theorem dX1_choose_28 : decode cX1_choose 28 = .ok (.iload 5, 2) := by decide +kernel
theorem dX1_choose_30 : decode cX1_choose 30 = .ok (.iaload, 1) := by decide +kernel
theorem dX1_choose_31 : decode cX1_choose 31 = .ok (.iload 4, 2) := by decide +kernel
theorem dX1_choose_33 : decode cX1_choose 33 = .ok (.if_icmp .ne 13, 3) := by decide +kernel
theorem dX1_choose_36 : decode cX1_choose 36 = .ok (.aload_n 0, 1) := by decide +kernel
theorem dX1_choose_37 : decode cX1_choose 37 = .ok (.getfield 21, 3) := by decide +kernel
theorem dX1_choose_40 : decode cX1_choose 40 = .ok (.iload 5, 2) := by decide +kernel
theorem dX1_choose_42 : decode cX1_choose 42 = .ok (.iaload, 1) := by decide +kernel
theorem dX1_choose_43 : decode cX1_choose 43 = .ok (.goto 10, 3) := by decide +kernel
theorem dX1_choose_46 : decode cX1_choose 46 = .ok (.aload_n 0, 1) := by decide +kernel
theorem dX1_choose_47 : decode cX1_choose 47 = .ok (.getfield 15, 3) := by decide +kernel
theorem dX1_choose_50 : decode cX1_choose 50 = .ok (.iload 5, 2) := by decide +kernel
theorem dX1_choose_52 : decode cX1_choose 52 = .ok (.iaload, 1) := by decide +kernel
theorem dX1_choose_53 : decode cX1_choose 53 = .ok (.istore 6, 2) := by decide +kernel
theorem dX1_choose_55 : decode cX1_choose 55 = .ok (.iload 6, 2) := by decide +kernel
theorem dX1_choose_57 : decode cX1_choose 57 = .ok (.bipush (-9), 2) := by decide +kernel
theorem dX1_choose_59 : decode cX1_choose 59 = .ok (.if_icmp .ne 6, 3) := by decide +kernel
theorem dX1_choose_62 : decode cX1_choose 62 = .ok (.bipush (-9), 2) := by decide +kernel
theorem dX1_choose_64 : decode cX1_choose 64 = .ok (.ireturn, 1) := by decide +kernel
theorem dX1_choose_65 : decode cX1_choose 65 = .ok (.aload_n 0, 1) := by decide +kernel
theorem dX1_choose_66 : decode cX1_choose 66 = .ok (.getfield 9, 3) := by decide +kernel
theorem dX1_choose_69 : decode cX1_choose 69 = .ok (.iload_n 3, 1) := by decide +kernel
theorem dX1_choose_70 : decode cX1_choose 70 = .ok (.iload 6, 2) := by decide +kernel
theorem dX1_choose_72 : decode cX1_choose 72 = .ok (.iastore, 1) := by decide +kernel
theorem dX1_choose_73 : decode cX1_choose 73 = .ok (.iinc 3 1, 3) := by decide +kernel
theorem dX1_choose_76 : decode cX1_choose 76 = .ok (.iload 5, 2) := by decide +kernel
theorem dX1_choose_78 : decode cX1_choose 78 = .ok (.aload_n 1, 1) := by decide +kernel
theorem dX1_choose_79 : decode cX1_choose 79 = .ok (.getfield 90, 3) := by decide +kernel
theorem dX1_choose_82 : decode cX1_choose 82 = .ok (.iload 6, 2) := by decide +kernel
theorem dX1_choose_84 : decode cX1_choose 84 = .ok (.iaload, 1) := by decide +kernel
theorem dX1_choose_85 : decode cX1_choose 85 = .ok (.iadd, 1) := by decide +kernel
theorem dX1_choose_86 : decode cX1_choose 86 = .ok (.istore 5, 2) := by decide +kernel
theorem dX1_choose_88 : decode cX1_choose 88 = .ok (.iload 6, 2) := by decide +kernel
theorem dX1_choose_90 : decode cX1_choose 90 = .ok (.istore 4, 2) := by decide +kernel
theorem dX1_choose_92 : decode cX1_choose 92 = .ok (.goto (-84), 3) := by decide +kernel
theorem dX1_choose_95 : decode cX1_choose 95 = .ok (.iload_n 3, 1) := by decide +kernel
theorem dX1_choose_96 : decode cX1_choose 96 = .ok (.ireturn, 1) := by decide +kernel
theorem dX2_init_0 : decode cX2_init 0 = .ok (.aload_n 0, 1) := by decide +kernel
theorem dX2_init_1 : decode cX2_init 1 = .ok (.invokespecial 3, 3) := by decide +kernel
theorem dX2_init_4 : decode cX2_init 4 = .ok (.aload_n 0, 1) := by decide +kernel
theorem dX2_init_5 : decode cX2_init 5 = .ok (.iconst 5, 1) := by decide +kernel
theorem dX2_init_6 : decode cX2_init 6 = .ok (.anewarray 9, 3) := by decide +kernel
theorem dX2_init_9 : decode cX2_init 9 = .ok (.putfield 11, 3) := by decide +kernel
theorem dX2_init_12 : decode cX2_init 12 = .ok (.iconst 0, 1) := by decide +kernel
theorem dX2_init_13 : decode cX2_init 13 = .ok (.istore_n 1, 1) := by decide +kernel
theorem dX2_init_14 : decode cX2_init 14 = .ok (.iload_n 1, 1) := by decide +kernel
theorem dX2_init_15 : decode cX2_init 15 = .ok (.iconst 5, 1) := by decide +kernel
theorem dX2_init_16 : decode cX2_init 16 = .ok (.if_icmp .ge 22, 3) := by decide +kernel
theorem dX2_init_19 : decode cX2_init 19 = .ok (.aload_n 0, 1) := by decide +kernel
theorem dX2_init_20 : decode cX2_init 20 = .ok (.getfield 11, 3) := by decide +kernel
theorem dX2_init_23 : decode cX2_init 23 = .ok (.iload_n 1, 1) := by decide +kernel
theorem dX2_init_24 : decode cX2_init 24 = .ok (.new 9, 3) := by decide +kernel
theorem dX2_init_27 : decode cX2_init 27 = .ok (.dup, 1) := by decide +kernel
theorem dX2_init_28 : decode cX2_init 28 = .ok (.invokespecial 17, 3) := by decide +kernel
theorem dX2_init_31 : decode cX2_init 31 = .ok (.aastore, 1) := by decide +kernel
theorem dX2_init_32 : decode cX2_init 32 = .ok (.iinc 1 1, 3) := by decide +kernel
theorem dX2_init_35 : decode cX2_init 35 = .ok (.goto (-21), 3) := by decide +kernel
theorem dX2_init_38 : decode cX2_init 38 = .ok (.return_, 1) := by decide +kernel
theorem dX2_keep_0 : decode cX2_keep 0 = .ok (.aload_n 0, 1) := by decide +kernel
theorem dX2_keep_1 : decode cX2_keep 1 = .ok (.getfield 18, 3) := by decide +kernel
theorem dX2_keep_4 : decode cX2_keep 4 = .ok (.iconst 5, 1) := by decide +kernel
theorem dX2_keep_5 : decode cX2_keep 5 = .ok (.if_icmp .ne 25, 3) := by decide +kernel
theorem dX2_keep_8 : decode cX2_keep 8 = .ok (.aload_n 0, 1) := by decide +kernel
theorem dX2_keep_9 : decode cX2_keep 9 = .ok (.aload_n 0, 1) := by decide +kernel
theorem dX2_keep_10 : decode cX2_keep 10 = .ok (.getfield 22, 3) := by decide +kernel
theorem dX2_keep_13 : decode cX2_keep 13 = .ok (.iconst 1, 1) := by decide +kernel
theorem dX2_keep_14 : decode cX2_keep 14 = .ok (.iadd, 1) := by decide +kernel
theorem dX2_keep_15 : decode cX2_keep 15 = .ok (.iconst 5, 1) := by decide +kernel
theorem dX2_keep_16 : decode cX2_keep 16 = .ok (.irem, 1) := by decide +kernel
theorem dX2_keep_17 : decode cX2_keep 17 = .ok (.putfield 22, 3) := by decide +kernel
theorem dX2_keep_20 : decode cX2_keep 20 = .ok (.aload_n 0, 1) := by decide +kernel
theorem dX2_keep_21 : decode cX2_keep 21 = .ok (.dup, 1) := by decide +kernel
theorem dX2_keep_22 : decode cX2_keep 22 = .ok (.getfield 18, 3) := by decide +kernel
theorem dX2_keep_25 : decode cX2_keep 25 = .ok (.iconst 1, 1) := by decide +kernel
theorem dX2_keep_26 : decode cX2_keep 26 = .ok (.isub, 1) := by decide +kernel
theorem dX2_keep_27 : decode cX2_keep 27 = .ok (.putfield 18, 3) := by decide +kernel
theorem dX2_keep_30 : decode cX2_keep 30 = .ok (.aload_n 0, 1) := by decide +kernel
theorem dX2_keep_31 : decode cX2_keep 31 = .ok (.getfield 11, 3) := by decide +kernel
theorem dX2_keep_34 : decode cX2_keep 34 = .ok (.aload_n 0, 1) := by decide +kernel
theorem dX2_keep_35 : decode cX2_keep 35 = .ok (.getfield 22, 3) := by decide +kernel
theorem dX2_keep_38 : decode cX2_keep 38 = .ok (.aload_n 0, 1) := by decide +kernel
theorem dX2_keep_39 : decode cX2_keep 39 = .ok (.getfield 18, 3) := by decide +kernel
theorem dX2_keep_42 : decode cX2_keep 42 = .ok (.iadd, 1) := by decide +kernel
theorem dX2_keep_43 : decode cX2_keep 43 = .ok (.iconst 5, 1) := by decide +kernel
theorem dX2_keep_44 : decode cX2_keep 44 = .ok (.irem, 1) := by decide +kernel
theorem dX2_keep_45 : decode cX2_keep 45 = .ok (.aaload, 1) := by decide +kernel
theorem dX2_keep_46 : decode cX2_keep 46 = .ok (.aload_n 1, 1) := by decide +kernel
theorem dX2_keep_47 : decode cX2_keep 47 = .ok (.invokevirtual 25, 3) := by decide +kernel
theorem dX2_keep_50 : decode cX2_keep 50 = .ok (.aload_n 0, 1) := by decide +kernel
theorem dX2_keep_51 : decode cX2_keep 51 = .ok (.dup, 1) := by decide +kernel
theorem dX2_keep_52 : decode cX2_keep 52 = .ok (.getfield 18, 3) := by decide +kernel
theorem dX2_keep_55 : decode cX2_keep 55 = .ok (.iconst 1, 1) := by decide +kernel
theorem dX2_keep_56 : decode cX2_keep 56 = .ok (.iadd, 1) := by decide +kernel
theorem dX2_keep_57 : decode cX2_keep 57 = .ok (.putfield 18, 3) := by decide +kernel
theorem dX2_keep_60 : decode cX2_keep 60 = .ok (.return_, 1) := by decide +kernel
theorem dX2_takeBack_0 : decode cX2_takeBack 0 = .ok (.aload_n 0, 1) := by decide +kernel
theorem dX2_takeBack_1 : decode cX2_takeBack 1 = .ok (.dup, 1) := by decide +kernel
theorem dX2_takeBack_2 : decode cX2_takeBack 2 = .ok (.getfield 18, 3) := by decide +kernel
theorem dX2_takeBack_5 : decode cX2_takeBack 5 = .ok (.iconst 1, 1) := by decide +kernel
theorem dX2_takeBack_6 : decode cX2_takeBack 6 = .ok (.isub, 1) := by decide +kernel
theorem dX2_takeBack_7 : decode cX2_takeBack 7 = .ok (.putfield 18, 3) := by decide +kernel
theorem dX2_takeBack_10 : decode cX2_takeBack 10 = .ok (.aload_n 1, 1) := by decide +kernel
theorem dX2_takeBack_11 : decode cX2_takeBack 11 = .ok (.aload_n 0, 1) := by decide +kernel
theorem dX2_takeBack_12 : decode cX2_takeBack 12 = .ok (.getfield 11, 3) := by decide +kernel
theorem dX2_takeBack_15 : decode cX2_takeBack 15 = .ok (.aload_n 0, 1) := by decide +kernel
theorem dX2_takeBack_16 : decode cX2_takeBack 16 = .ok (.getfield 22, 3) := by decide +kernel
theorem dX2_takeBack_19 : decode cX2_takeBack 19 = .ok (.aload_n 0, 1) := by decide +kernel
theorem dX2_takeBack_20 : decode cX2_takeBack 20 = .ok (.getfield 18, 3) := by decide +kernel
theorem dX2_takeBack_23 : decode cX2_takeBack 23 = .ok (.iadd, 1) := by decide +kernel
theorem dX2_takeBack_24 : decode cX2_takeBack 24 = .ok (.iconst 5, 1) := by decide +kernel
theorem dX2_takeBack_25 : decode cX2_takeBack 25 = .ok (.irem, 1) := by decide +kernel
theorem dX2_takeBack_26 : decode cX2_takeBack 26 = .ok (.aaload, 1) := by decide +kernel
theorem dX2_takeBack_27 : decode cX2_takeBack 27 = .ok (.invokevirtual 25, 3) := by decide +kernel
theorem dX2_takeBack_30 : decode cX2_takeBack 30 = .ok (.return_, 1) := by decide +kernel
theorem dX3_init_0 : decode cX3_init 0 = .ok (.aload_n 0, 1) := by decide +kernel
theorem dX3_init_1 : decode cX3_init 1 = .ok (.invokespecial 3, 3) := by decide +kernel
theorem dX3_init_4 : decode cX3_init 4 = .ok (.aload_n 0, 1) := by decide +kernel
theorem dX3_init_5 : decode cX3_init 5 = .ok (.bipush 60, 2) := by decide +kernel
theorem dX3_init_7 : decode cX3_init 7 = .ok (.newarray .int, 2) := by decide +kernel
theorem dX3_init_9 : decode cX3_init 9 = .ok (.putfield 9, 3) := by decide +kernel
theorem dX3_init_12 : decode cX3_init 12 = .ok (.aload_n 0, 1) := by decide +kernel
theorem dX3_init_13 : decode cX3_init 13 = .ok (.bipush 60, 2) := by decide +kernel
theorem dX3_init_15 : decode cX3_init 15 = .ok (.newarray .int, 2) := by decide +kernel
theorem dX3_init_17 : decode cX3_init 17 = .ok (.putfield 15, 3) := by decide +kernel
theorem dX3_init_20 : decode cX3_init 20 = .ok (.aload_n 0, 1) := by decide +kernel
theorem dX3_init_21 : decode cX3_init 21 = .ok (.bipush 60, 2) := by decide +kernel
theorem dX3_init_23 : decode cX3_init 23 = .ok (.newarray .int, 2) := by decide +kernel
theorem dX3_init_25 : decode cX3_init 25 = .ok (.putfield 18, 3) := by decide +kernel
theorem dX3_init_28 : decode cX3_init 28 = .ok (.aload_n 0, 1) := by decide +kernel
theorem dX3_init_29 : decode cX3_init 29 = .ok (.bipush 60, 2) := by decide +kernel
theorem dX3_init_31 : decode cX3_init 31 = .ok (.newarray .int, 2) := by decide +kernel
theorem dX3_init_33 : decode cX3_init 33 = .ok (.putfield 21, 3) := by decide +kernel
theorem dX3_init_36 : decode cX3_init 36 = .ok (.return_, 1) := by decide +kernel
theorem dX3_end_0 : decode cX3_end 0 = .ok (.aload_n 0, 1) := by decide +kernel
theorem dX3_end_1 : decode cX3_end 1 = .ok (.getfield 15, 3) := by decide +kernel
theorem dX3_end_4 : decode cX3_end 4 = .ok (.iload_n 1, 1) := by decide +kernel
theorem dX3_end_5 : decode cX3_end 5 = .ok (.iaload, 1) := by decide +kernel
theorem dX3_end_6 : decode cX3_end 6 = .ok (.aload_n 0, 1) := by decide +kernel
theorem dX3_end_7 : decode cX3_end 7 = .ok (.getfield 18, 3) := by decide +kernel
theorem dX3_end_10 : decode cX3_end 10 = .ok (.iload_n 1, 1) := by decide +kernel
theorem dX3_end_11 : decode cX3_end 11 = .ok (.iaload, 1) := by decide +kernel
theorem dX3_end_12 : decode cX3_end 12 = .ok (.iadd, 1) := by decide +kernel
theorem dX3_end_13 : decode cX3_end 13 = .ok (.ireturn, 1) := by decide +kernel
theorem dX3_firstIn_0 : decode cX3_firstIn 0 = .ok (.iconst 0, 1) := by decide +kernel
theorem dX3_firstIn_1 : decode cX3_firstIn 1 = .ok (.istore_n 3, 1) := by decide +kernel
theorem dX3_firstIn_2 : decode cX3_firstIn 2 = .ok (.iload_n 3, 1) := by decide +kernel
theorem dX3_firstIn_3 : decode cX3_firstIn 3 = .ok (.aload_n 0, 1) := by decide +kernel
theorem dX3_firstIn_4 : decode cX3_firstIn 4 = .ok (.getfield 24, 3) := by decide +kernel
theorem dX3_firstIn_7 : decode cX3_firstIn 7 = .ok (.if_icmp .ge 30, 3) := by decide +kernel
theorem dX3_firstIn_10 : decode cX3_firstIn 10 = .ok (.aload_n 0, 1) := by decide +kernel
theorem dX3_firstIn_11 : decode cX3_firstIn 11 = .ok (.getfield 15, 3) := by decide +kernel
theorem dX3_firstIn_14 : decode cX3_firstIn 14 = .ok (.iload_n 3, 1) := by decide +kernel
theorem dX3_firstIn_15 : decode cX3_firstIn 15 = .ok (.iaload, 1) := by decide +kernel
theorem dX3_firstIn_16 : decode cX3_firstIn 16 = .ok (.iload_n 2, 1) := by decide +kernel
theorem dX3_firstIn_17 : decode cX3_firstIn 17 = .ok (.if_icmp .ge 14, 3) := by decide +kernel
theorem dX3_firstIn_20 : decode cX3_firstIn 20 = .ok (.aload_n 0, 1) := by decide +kernel
theorem dX3_firstIn_21 : decode cX3_firstIn 21 = .ok (.iload_n 3, 1) := by decide +kernel
theorem dX3_firstIn_22 : decode cX3_firstIn 22 = .ok (.invokevirtual 28, 3) := by decide +kernel
theorem dX3_firstIn_25 : decode cX3_firstIn 25 = .ok (.iload_n 1, 1) := by decide +kernel
theorem dX3_firstIn_26 : decode cX3_firstIn 26 = .ok (.if_icmp .le 5, 3) := by decide +kernel
theorem dX3_firstIn_29 : decode cX3_firstIn 29 = .ok (.iload_n 3, 1) := by decide +kernel
theorem dX3_firstIn_30 : decode cX3_firstIn 30 = .ok (.ireturn, 1) := by decide +kernel
theorem dX3_firstIn_31 : decode cX3_firstIn 31 = .ok (.iinc 3 1, 3) := by decide +kernel
theorem dX3_firstIn_34 : decode cX3_firstIn 34 = .ok (.goto (-32), 3) := by decide +kernel
theorem dX3_firstIn_37 : decode cX3_firstIn 37 = .ok (.bipush (-9), 2) := by decide +kernel
theorem dX3_firstIn_39 : decode cX3_firstIn 39 = .ok (.ireturn, 1) := by decide +kernel
theorem dX3_beginningAt_0 : decode cX3_beginningAt 0 = .ok (.iconst 0, 1) := by decide +kernel
theorem dX3_beginningAt_1 : decode cX3_beginningAt 1 = .ok (.istore_n 2, 1) := by decide +kernel
theorem dX3_beginningAt_2 : decode cX3_beginningAt 2 = .ok (.iload_n 2, 1) := by decide +kernel
theorem dX3_beginningAt_3 : decode cX3_beginningAt 3 = .ok (.aload_n 0, 1) := by decide +kernel
theorem dX3_beginningAt_4 : decode cX3_beginningAt 4 = .ok (.getfield 24, 3) := by decide +kernel
theorem dX3_beginningAt_7 : decode cX3_beginningAt 7 = .ok (.if_icmp .ge 21, 3) := by decide +kernel
theorem dX3_beginningAt_10 : decode cX3_beginningAt 10 = .ok (.aload_n 0, 1) := by decide +kernel
theorem dX3_beginningAt_11 : decode cX3_beginningAt 11 = .ok (.getfield 15, 3) := by decide +kernel
theorem dX3_beginningAt_14 : decode cX3_beginningAt 14 = .ok (.iload_n 2, 1) := by decide +kernel
theorem dX3_beginningAt_15 : decode cX3_beginningAt 15 = .ok (.iaload, 1) := by decide +kernel
theorem dX3_beginningAt_16 : decode cX3_beginningAt 16 = .ok (.iload_n 1, 1) := by decide +kernel
theorem dX3_beginningAt_17 : decode cX3_beginningAt 17 = .ok (.if_icmp .ne 5, 3) := by decide +kernel
theorem dX3_beginningAt_20 : decode cX3_beginningAt 20 = .ok (.iload_n 2, 1) := by decide +kernel
theorem dX3_beginningAt_21 : decode cX3_beginningAt 21 = .ok (.ireturn, 1) := by decide +kernel
theorem dX3_beginningAt_22 : decode cX3_beginningAt 22 = .ok (.iinc 2 1, 3) := by decide +kernel
theorem dX3_beginningAt_25 : decode cX3_beginningAt 25 = .ok (.goto (-23), 3) := by decide +kernel
theorem dX3_beginningAt_28 : decode cX3_beginningAt 28 = .ok (.bipush (-9), 2) := by decide +kernel
theorem dX3_beginningAt_30 : decode cX3_beginningAt 30 = .ok (.ireturn, 1) := by decide +kernel
theorem dX3_endingAt_0 : decode cX3_endingAt 0 = .ok (.iconst 0, 1) := by decide +kernel
theorem dX3_endingAt_1 : decode cX3_endingAt 1 = .ok (.istore_n 2, 1) := by decide +kernel
theorem dX3_endingAt_2 : decode cX3_endingAt 2 = .ok (.iload_n 2, 1) := by decide +kernel
theorem dX3_endingAt_3 : decode cX3_endingAt 3 = .ok (.aload_n 0, 1) := by decide +kernel
theorem dX3_endingAt_4 : decode cX3_endingAt 4 = .ok (.getfield 24, 3) := by decide +kernel
theorem dX3_endingAt_7 : decode cX3_endingAt 7 = .ok (.if_icmp .ge 20, 3) := by decide +kernel
theorem dX3_endingAt_10 : decode cX3_endingAt 10 = .ok (.aload_n 0, 1) := by decide +kernel
theorem dX3_endingAt_11 : decode cX3_endingAt 11 = .ok (.iload_n 2, 1) := by decide +kernel
theorem dX3_endingAt_12 : decode cX3_endingAt 12 = .ok (.invokevirtual 28, 3) := by decide +kernel
theorem dX3_endingAt_15 : decode cX3_endingAt 15 = .ok (.iload_n 1, 1) := by decide +kernel
theorem dX3_endingAt_16 : decode cX3_endingAt 16 = .ok (.if_icmp .ne 5, 3) := by decide +kernel
theorem dX3_endingAt_19 : decode cX3_endingAt 19 = .ok (.iload_n 2, 1) := by decide +kernel
theorem dX3_endingAt_20 : decode cX3_endingAt 20 = .ok (.ireturn, 1) := by decide +kernel
theorem dX3_endingAt_21 : decode cX3_endingAt 21 = .ok (.iinc 2 1, 3) := by decide +kernel
theorem dX3_endingAt_24 : decode cX3_endingAt 24 = .ok (.goto (-22), 3) := by decide +kernel
theorem dX3_endingAt_27 : decode cX3_endingAt 27 = .ok (.bipush (-9), 2) := by decide +kernel
theorem dX3_endingAt_29 : decode cX3_endingAt 29 = .ok (.ireturn, 1) := by decide +kernel
theorem dX3_minutesIn_0 : decode cX3_minutesIn 0 = .ok (.iconst 0, 1) := by decide +kernel
theorem dX3_minutesIn_1 : decode cX3_minutesIn 1 = .ok (.aload_n 0, 1) := by decide +kernel
theorem dX3_minutesIn_2 : decode cX3_minutesIn 2 = .ok (.iload_n 1, 1) := by decide +kernel
theorem dX3_minutesIn_3 : decode cX3_minutesIn 3 = .ok (.invokevirtual 28, 3) := by decide +kernel
theorem dX3_minutesIn_6 : decode cX3_minutesIn 6 = .ok (.iload_n 3, 1) := by decide +kernel
theorem dX3_minutesIn_7 : decode cX3_minutesIn 7 = .ok (.invokestatic 32, 3) := by decide +kernel
theorem dX3_minutesIn_10 : decode cX3_minutesIn 10 = .ok (.aload_n 0, 1) := by decide +kernel
theorem dX3_minutesIn_11 : decode cX3_minutesIn 11 = .ok (.getfield 15, 3) := by decide +kernel
theorem dX3_minutesIn_14 : decode cX3_minutesIn 14 = .ok (.iload_n 1, 1) := by decide +kernel
theorem dX3_minutesIn_15 : decode cX3_minutesIn 15 = .ok (.iaload, 1) := by decide +kernel
theorem dX3_minutesIn_16 : decode cX3_minutesIn 16 = .ok (.iload_n 2, 1) := by decide +kernel
theorem dX3_minutesIn_17 : decode cX3_minutesIn 17 = .ok (.invokestatic 38, 3) := by decide +kernel
theorem dX3_minutesIn_20 : decode cX3_minutesIn 20 = .ok (.isub, 1) := by decide +kernel
theorem dX3_minutesIn_21 : decode cX3_minutesIn 21 = .ok (.invokestatic 38, 3) := by decide +kernel
theorem dX3_minutesIn_24 : decode cX3_minutesIn 24 = .ok (.ireturn, 1) := by decide +kernel
theorem dX3_minutesOf_0 : decode cX3_minutesOf 0 = .ok (.iconst 0, 1) := by decide +kernel
theorem dX3_minutesOf_1 : decode cX3_minutesOf 1 = .ok (.istore_n 2, 1) := by decide +kernel
theorem dX3_minutesOf_2 : decode cX3_minutesOf 2 = .ok (.iconst 0, 1) := by decide +kernel
theorem dX3_minutesOf_3 : decode cX3_minutesOf 3 = .ok (.istore_n 3, 1) := by decide +kernel
theorem dX3_minutesOf_4 : decode cX3_minutesOf 4 = .ok (.iload_n 3, 1) := by decide +kernel
theorem dX3_minutesOf_5 : decode cX3_minutesOf 5 = .ok (.aload_n 0, 1) := by decide +kernel
theorem dX3_minutesOf_6 : decode cX3_minutesOf 6 = .ok (.getfield 24, 3) := by decide +kernel
theorem dX3_minutesOf_9 : decode cX3_minutesOf 9 = .ok (.if_icmp .ge 28, 3) := by decide +kernel
theorem dX3_minutesOf_12 : decode cX3_minutesOf 12 = .ok (.aload_n 0, 1) := by decide +kernel
theorem dX3_minutesOf_13 : decode cX3_minutesOf 13 = .ok (.getfield 9, 3) := by decide +kernel
theorem dX3_minutesOf_16 : decode cX3_minutesOf 16 = .ok (.iload_n 3, 1) := by decide +kernel
theorem dX3_minutesOf_17 : decode cX3_minutesOf 17 = .ok (.iaload, 1) := by decide +kernel
theorem dX3_minutesOf_18 : decode cX3_minutesOf 18 = .ok (.iload_n 1, 1) := by decide +kernel
theorem dX3_minutesOf_19 : decode cX3_minutesOf 19 = .ok (.if_icmp .ne 12, 3) := by decide +kernel
theorem dX3_minutesOf_22 : decode cX3_minutesOf 22 = .ok (.iload_n 2, 1) := by decide +kernel
theorem dX3_minutesOf_23 : decode cX3_minutesOf 23 = .ok (.aload_n 0, 1) := by decide +kernel
theorem dX3_minutesOf_24 : decode cX3_minutesOf 24 = .ok (.getfield 18, 3) := by decide +kernel
theorem dX3_minutesOf_27 : decode cX3_minutesOf 27 = .ok (.iload_n 3, 1) := by decide +kernel
theorem dX3_minutesOf_28 : decode cX3_minutesOf 28 = .ok (.iaload, 1) := by decide +kernel
theorem dX3_minutesOf_29 : decode cX3_minutesOf 29 = .ok (.iadd, 1) := by decide +kernel
theorem dX3_minutesOf_30 : decode cX3_minutesOf 30 = .ok (.istore_n 2, 1) := by decide +kernel
theorem dX3_minutesOf_31 : decode cX3_minutesOf 31 = .ok (.iinc 3 1, 3) := by decide +kernel
theorem dX3_minutesOf_34 : decode cX3_minutesOf 34 = .ok (.goto (-30), 3) := by decide +kernel
theorem dX3_minutesOf_37 : decode cX3_minutesOf 37 = .ok (.iload_n 2, 1) := by decide +kernel
theorem dX3_minutesOf_38 : decode cX3_minutesOf 38 = .ok (.ireturn, 1) := by decide +kernel
theorem dX3_indexFor_0 : decode cX3_indexFor 0 = .ok (.iconst 0, 1) := by decide +kernel
theorem dX3_indexFor_1 : decode cX3_indexFor 1 = .ok (.istore_n 2, 1) := by decide +kernel
theorem dX3_indexFor_2 : decode cX3_indexFor 2 = .ok (.iconst 0, 1) := by decide +kernel
theorem dX3_indexFor_3 : decode cX3_indexFor 3 = .ok (.istore_n 3, 1) := by decide +kernel
theorem dX3_indexFor_4 : decode cX3_indexFor 4 = .ok (.iload_n 3, 1) := by decide +kernel
theorem dX3_indexFor_5 : decode cX3_indexFor 5 = .ok (.aload_n 0, 1) := by decide +kernel
theorem dX3_indexFor_6 : decode cX3_indexFor 6 = .ok (.getfield 24, 3) := by decide +kernel
theorem dX3_indexFor_9 : decode cX3_indexFor 9 = .ok (.if_icmp .ge 22, 3) := by decide +kernel
theorem dX3_indexFor_12 : decode cX3_indexFor 12 = .ok (.aload_n 0, 1) := by decide +kernel
theorem dX3_indexFor_13 : decode cX3_indexFor 13 = .ok (.getfield 15, 3) := by decide +kernel
theorem dX3_indexFor_16 : decode cX3_indexFor 16 = .ok (.iload_n 3, 1) := by decide +kernel
theorem dX3_indexFor_17 : decode cX3_indexFor 17 = .ok (.iaload, 1) := by decide +kernel
theorem dX3_indexFor_18 : decode cX3_indexFor 18 = .ok (.iload_n 1, 1) := by decide +kernel
theorem dX3_indexFor_19 : decode cX3_indexFor 19 = .ok (.if_icmp .ge 6, 3) := by decide +kernel
theorem dX3_indexFor_22 : decode cX3_indexFor 22 = .ok (.iinc 2 1, 3) := by decide +kernel
theorem dX3_indexFor_25 : decode cX3_indexFor 25 = .ok (.iinc 3 1, 3) := by decide +kernel
theorem dX3_indexFor_28 : decode cX3_indexFor 28 = .ok (.goto (-24), 3) := by decide +kernel
theorem dX3_indexFor_31 : decode cX3_indexFor 31 = .ok (.iload_n 2, 1) := by decide +kernel
theorem dX3_indexFor_32 : decode cX3_indexFor 32 = .ok (.ireturn, 1) := by decide +kernel
theorem dX3_insert_0 : decode cX3_insert 0 = .ok (.aload_n 0, 1) := by decide +kernel
theorem dX3_insert_1 : decode cX3_insert 1 = .ok (.iload_n 1, 1) := by decide +kernel
theorem dX3_insert_2 : decode cX3_insert 2 = .ok (.iload_n 1, 1) := by decide +kernel
theorem dX3_insert_3 : decode cX3_insert 3 = .ok (.iconst 1, 1) := by decide +kernel
theorem dX3_insert_4 : decode cX3_insert 4 = .ok (.iadd, 1) := by decide +kernel
theorem dX3_insert_5 : decode cX3_insert 5 = .ok (.invokevirtual 41, 3) := by decide +kernel
theorem dX3_insert_8 : decode cX3_insert 8 = .ok (.aload_n 0, 1) := by decide +kernel
theorem dX3_insert_9 : decode cX3_insert 9 = .ok (.getfield 9, 3) := by decide +kernel
theorem dX3_insert_12 : decode cX3_insert 12 = .ok (.iload_n 1, 1) := by decide +kernel
theorem dX3_insert_13 : decode cX3_insert 13 = .ok (.iload_n 2, 1) := by decide +kernel
theorem dX3_insert_14 : decode cX3_insert 14 = .ok (.iastore, 1) := by decide +kernel
theorem dX3_insert_15 : decode cX3_insert 15 = .ok (.aload_n 0, 1) := by decide +kernel
theorem dX3_insert_16 : decode cX3_insert 16 = .ok (.getfield 15, 3) := by decide +kernel
theorem dX3_insert_19 : decode cX3_insert 19 = .ok (.iload_n 1, 1) := by decide +kernel
theorem dX3_insert_20 : decode cX3_insert 20 = .ok (.iload_n 3, 1) := by decide +kernel
theorem dX3_insert_21 : decode cX3_insert 21 = .ok (.iastore, 1) := by decide +kernel
theorem dX3_insert_22 : decode cX3_insert 22 = .ok (.aload_n 0, 1) := by decide +kernel
theorem dX3_insert_23 : decode cX3_insert 23 = .ok (.getfield 18, 3) := by decide +kernel
theorem dX3_insert_26 : decode cX3_insert 26 = .ok (.iload_n 1, 1) := by decide +kernel
theorem dX3_insert_27 : decode cX3_insert 27 = .ok (.iload 4, 2) := by decide +kernel
theorem dX3_insert_29 : decode cX3_insert 29 = .ok (.iastore, 1) := by decide +kernel
theorem dX3_insert_30 : decode cX3_insert 30 = .ok (.aload_n 0, 1) := by decide +kernel
theorem dX3_insert_31 : decode cX3_insert 31 = .ok (.getfield 21, 3) := by decide +kernel
theorem dX3_insert_34 : decode cX3_insert 34 = .ok (.iload_n 1, 1) := by decide +kernel
theorem dX3_insert_35 : decode cX3_insert 35 = .ok (.iload 5, 2) := by decide +kernel
theorem dX3_insert_37 : decode cX3_insert 37 = .ok (.ifCond .eq 7, 3) := by decide +kernel
theorem dX3_insert_40 : decode cX3_insert 40 = .ok (.iconst 1, 1) := by decide +kernel
theorem dX3_insert_41 : decode cX3_insert 41 = .ok (.goto 4, 3) := by decide +kernel
theorem dX3_insert_44 : decode cX3_insert 44 = .ok (.iconst 0, 1) := by decide +kernel
theorem dX3_insert_45 : decode cX3_insert 45 = .ok (.iastore, 1) := by decide +kernel
theorem dX3_insert_46 : decode cX3_insert 46 = .ok (.aload_n 0, 1) := by decide +kernel
theorem dX3_insert_47 : decode cX3_insert 47 = .ok (.dup, 1) := by decide +kernel
theorem dX3_insert_48 : decode cX3_insert 48 = .ok (.getfield 24, 3) := by decide +kernel
theorem dX3_insert_51 : decode cX3_insert 51 = .ok (.iconst 1, 1) := by decide +kernel
theorem dX3_insert_52 : decode cX3_insert 52 = .ok (.iadd, 1) := by decide +kernel
theorem dX3_insert_53 : decode cX3_insert 53 = .ok (.putfield 24, 3) := by decide +kernel
theorem dX3_insert_56 : decode cX3_insert 56 = .ok (.return_, 1) := by decide +kernel
theorem dX3_delete_0 : decode cX3_delete 0 = .ok (.aload_n 0, 1) := by decide +kernel
theorem dX3_delete_1 : decode cX3_delete 1 = .ok (.iload_n 1, 1) := by decide +kernel
theorem dX3_delete_2 : decode cX3_delete 2 = .ok (.iconst 1, 1) := by decide +kernel
theorem dX3_delete_3 : decode cX3_delete 3 = .ok (.iadd, 1) := by decide +kernel
theorem dX3_delete_4 : decode cX3_delete 4 = .ok (.iload_n 1, 1) := by decide +kernel
theorem dX3_delete_5 : decode cX3_delete 5 = .ok (.invokevirtual 41, 3) := by decide +kernel
theorem dX3_delete_8 : decode cX3_delete 8 = .ok (.aload_n 0, 1) := by decide +kernel
theorem dX3_delete_9 : decode cX3_delete 9 = .ok (.dup, 1) := by decide +kernel
theorem dX3_delete_10 : decode cX3_delete 10 = .ok (.getfield 24, 3) := by decide +kernel
theorem dX3_delete_13 : decode cX3_delete 13 = .ok (.iconst 1, 1) := by decide +kernel
theorem dX3_delete_14 : decode cX3_delete 14 = .ok (.isub, 1) := by decide +kernel
theorem dX3_delete_15 : decode cX3_delete 15 = .ok (.putfield 24, 3) := by decide +kernel
theorem dX3_delete_18 : decode cX3_delete 18 = .ok (.return_, 1) := by decide +kernel
theorem dX3_move_0 : decode cX3_move 0 = .ok (.aload_n 0, 1) := by decide +kernel
theorem dX3_move_1 : decode cX3_move 1 = .ok (.getfield 9, 3) := by decide +kernel
theorem dX3_move_4 : decode cX3_move 4 = .ok (.iload_n 1, 1) := by decide +kernel
theorem dX3_move_5 : decode cX3_move 5 = .ok (.aload_n 0, 1) := by decide +kernel
theorem dX3_move_6 : decode cX3_move 6 = .ok (.getfield 9, 3) := by decide +kernel
theorem dX3_move_9 : decode cX3_move 9 = .ok (.iload_n 2, 1) := by decide +kernel
theorem dX3_move_10 : decode cX3_move 10 = .ok (.aload_n 0, 1) := by decide +kernel
theorem dX3_move_11 : decode cX3_move 11 = .ok (.getfield 24, 3) := by decide +kernel
theorem dX3_move_14 : decode cX3_move 14 = .ok (.iload_n 1, 1) := by decide +kernel
theorem dX3_move_15 : decode cX3_move 15 = .ok (.isub, 1) := by decide +kernel
theorem dX3_move_16 : decode cX3_move 16 = .ok (.invokestatic 45, 3) := by decide +kernel
theorem dX3_move_19 : decode cX3_move 19 = .ok (.aload_n 0, 1) := by decide +kernel
theorem dX3_move_20 : decode cX3_move 20 = .ok (.getfield 15, 3) := by decide +kernel
theorem dX3_move_23 : decode cX3_move 23 = .ok (.iload_n 1, 1) := by decide +kernel
theorem dX3_move_24 : decode cX3_move 24 = .ok (.aload_n 0, 1) := by decide +kernel
theorem dX3_move_25 : decode cX3_move 25 = .ok (.getfield 15, 3) := by decide +kernel
theorem dX3_move_28 : decode cX3_move 28 = .ok (.iload_n 2, 1) := by decide +kernel
theorem dX3_move_29 : decode cX3_move 29 = .ok (.aload_n 0, 1) := by decide +kernel
theorem dX3_move_30 : decode cX3_move 30 = .ok (.getfield 24, 3) := by decide +kernel
theorem dX3_move_33 : decode cX3_move 33 = .ok (.iload_n 1, 1) := by decide +kernel
theorem dX3_move_34 : decode cX3_move 34 = .ok (.isub, 1) := by decide +kernel
theorem dX3_move_35 : decode cX3_move 35 = .ok (.invokestatic 45, 3) := by decide +kernel
theorem dX3_move_38 : decode cX3_move 38 = .ok (.aload_n 0, 1) := by decide +kernel
theorem dX3_move_39 : decode cX3_move 39 = .ok (.getfield 18, 3) := by decide +kernel
theorem dX3_move_42 : decode cX3_move 42 = .ok (.iload_n 1, 1) := by decide +kernel
theorem dX3_move_43 : decode cX3_move 43 = .ok (.aload_n 0, 1) := by decide +kernel
theorem dX3_move_44 : decode cX3_move 44 = .ok (.getfield 18, 3) := by decide +kernel
theorem dX3_move_47 : decode cX3_move 47 = .ok (.iload_n 2, 1) := by decide +kernel
theorem dX3_move_48 : decode cX3_move 48 = .ok (.aload_n 0, 1) := by decide +kernel
theorem dX3_move_49 : decode cX3_move 49 = .ok (.getfield 24, 3) := by decide +kernel
theorem dX3_move_52 : decode cX3_move 52 = .ok (.iload_n 1, 1) := by decide +kernel
theorem dX3_move_53 : decode cX3_move 53 = .ok (.isub, 1) := by decide +kernel
theorem dX3_move_54 : decode cX3_move 54 = .ok (.invokestatic 45, 3) := by decide +kernel
theorem dX3_move_57 : decode cX3_move 57 = .ok (.aload_n 0, 1) := by decide +kernel
theorem dX3_move_58 : decode cX3_move 58 = .ok (.getfield 21, 3) := by decide +kernel
theorem dX3_move_61 : decode cX3_move 61 = .ok (.iload_n 1, 1) := by decide +kernel
theorem dX3_move_62 : decode cX3_move 62 = .ok (.aload_n 0, 1) := by decide +kernel
theorem dX3_move_63 : decode cX3_move 63 = .ok (.getfield 21, 3) := by decide +kernel
theorem dX3_move_66 : decode cX3_move 66 = .ok (.iload_n 2, 1) := by decide +kernel
theorem dX3_move_67 : decode cX3_move 67 = .ok (.aload_n 0, 1) := by decide +kernel
theorem dX3_move_68 : decode cX3_move 68 = .ok (.getfield 24, 3) := by decide +kernel
theorem dX3_move_71 : decode cX3_move 71 = .ok (.iload_n 1, 1) := by decide +kernel
theorem dX3_move_72 : decode cX3_move 72 = .ok (.isub, 1) := by decide +kernel
theorem dX3_move_73 : decode cX3_move 73 = .ok (.invokestatic 45, 3) := by decide +kernel
theorem dX3_move_76 : decode cX3_move 76 = .ok (.return_, 1) := by decide +kernel
theorem dX3_copyFrom_0 : decode cX3_copyFrom 0 = .ok (.aload_n 0, 1) := by decide +kernel
theorem dX3_copyFrom_1 : decode cX3_copyFrom 1 = .ok (.aload_n 1, 1) := by decide +kernel
theorem dX3_copyFrom_2 : decode cX3_copyFrom 2 = .ok (.getfield 24, 3) := by decide +kernel
theorem dX3_copyFrom_5 : decode cX3_copyFrom 5 = .ok (.putfield 24, 3) := by decide +kernel
theorem dX3_copyFrom_8 : decode cX3_copyFrom 8 = .ok (.aload_n 1, 1) := by decide +kernel
theorem dX3_copyFrom_9 : decode cX3_copyFrom 9 = .ok (.getfield 9, 3) := by decide +kernel
theorem dX3_copyFrom_12 : decode cX3_copyFrom 12 = .ok (.iconst 0, 1) := by decide +kernel
theorem dX3_copyFrom_13 : decode cX3_copyFrom 13 = .ok (.aload_n 0, 1) := by decide +kernel
theorem dX3_copyFrom_14 : decode cX3_copyFrom 14 = .ok (.getfield 9, 3) := by decide +kernel
theorem dX3_copyFrom_17 : decode cX3_copyFrom 17 = .ok (.iconst 0, 1) := by decide +kernel
theorem dX3_copyFrom_18 : decode cX3_copyFrom 18 = .ok (.aload_n 0, 1) := by decide +kernel
theorem dX3_copyFrom_19 : decode cX3_copyFrom 19 = .ok (.getfield 24, 3) := by decide +kernel
theorem dX3_copyFrom_22 : decode cX3_copyFrom 22 = .ok (.invokestatic 45, 3) := by decide +kernel
theorem dX3_copyFrom_25 : decode cX3_copyFrom 25 = .ok (.aload_n 1, 1) := by decide +kernel
theorem dX3_copyFrom_26 : decode cX3_copyFrom 26 = .ok (.getfield 15, 3) := by decide +kernel
theorem dX3_copyFrom_29 : decode cX3_copyFrom 29 = .ok (.iconst 0, 1) := by decide +kernel
theorem dX3_copyFrom_30 : decode cX3_copyFrom 30 = .ok (.aload_n 0, 1) := by decide +kernel
theorem dX3_copyFrom_31 : decode cX3_copyFrom 31 = .ok (.getfield 15, 3) := by decide +kernel
theorem dX3_copyFrom_34 : decode cX3_copyFrom 34 = .ok (.iconst 0, 1) := by decide +kernel
theorem dX3_copyFrom_35 : decode cX3_copyFrom 35 = .ok (.aload_n 0, 1) := by decide +kernel
theorem dX3_copyFrom_36 : decode cX3_copyFrom 36 = .ok (.getfield 24, 3) := by decide +kernel
theorem dX3_copyFrom_39 : decode cX3_copyFrom 39 = .ok (.invokestatic 45, 3) := by decide +kernel
theorem dX3_copyFrom_42 : decode cX3_copyFrom 42 = .ok (.aload_n 1, 1) := by decide +kernel
theorem dX3_copyFrom_43 : decode cX3_copyFrom 43 = .ok (.getfield 18, 3) := by decide +kernel
theorem dX3_copyFrom_46 : decode cX3_copyFrom 46 = .ok (.iconst 0, 1) := by decide +kernel
theorem dX3_copyFrom_47 : decode cX3_copyFrom 47 = .ok (.aload_n 0, 1) := by decide +kernel
theorem dX3_copyFrom_48 : decode cX3_copyFrom 48 = .ok (.getfield 18, 3) := by decide +kernel
theorem dX3_copyFrom_51 : decode cX3_copyFrom 51 = .ok (.iconst 0, 1) := by decide +kernel
theorem dX3_copyFrom_52 : decode cX3_copyFrom 52 = .ok (.aload_n 0, 1) := by decide +kernel
theorem dX3_copyFrom_53 : decode cX3_copyFrom 53 = .ok (.getfield 24, 3) := by decide +kernel
theorem dX3_copyFrom_56 : decode cX3_copyFrom 56 = .ok (.invokestatic 45, 3) := by decide +kernel
theorem dX3_copyFrom_59 : decode cX3_copyFrom 59 = .ok (.aload_n 1, 1) := by decide +kernel
theorem dX3_copyFrom_60 : decode cX3_copyFrom 60 = .ok (.getfield 21, 3) := by decide +kernel
theorem dX3_copyFrom_63 : decode cX3_copyFrom 63 = .ok (.iconst 0, 1) := by decide +kernel
theorem dX3_copyFrom_64 : decode cX3_copyFrom 64 = .ok (.aload_n 0, 1) := by decide +kernel
theorem dX3_copyFrom_65 : decode cX3_copyFrom 65 = .ok (.getfield 21, 3) := by decide +kernel
theorem dX3_copyFrom_68 : decode cX3_copyFrom 68 = .ok (.iconst 0, 1) := by decide +kernel
theorem dX3_copyFrom_69 : decode cX3_copyFrom 69 = .ok (.aload_n 0, 1) := by decide +kernel
theorem dX3_copyFrom_70 : decode cX3_copyFrom 70 = .ok (.getfield 24, 3) := by decide +kernel
theorem dX3_copyFrom_73 : decode cX3_copyFrom 73 = .ok (.invokestatic 45, 3) := by decide +kernel
theorem dX3_copyFrom_76 : decode cX3_copyFrom 76 = .ok (.return_, 1) := by decide +kernel
theorem dX4_init_0 : decode cX4_init 0 = .ok (.aload_n 0, 1) := by decide +kernel
theorem dX4_init_1 : decode cX4_init 1 = .ok (.invokespecial 3, 3) := by decide +kernel
theorem dX4_init_4 : decode cX4_init 4 = .ok (.aload_n 0, 1) := by decide +kernel
theorem dX4_init_5 : decode cX4_init 5 = .ok (.bipush 16, 2) := by decide +kernel
theorem dX4_init_7 : decode cX4_init 7 = .ok (.newarray .int, 2) := by decide +kernel
theorem dX4_init_9 : decode cX4_init 9 = .ok (.putfield 9, 3) := by decide +kernel
theorem dX4_init_12 : decode cX4_init 12 = .ok (.aload_n 0, 1) := by decide +kernel
theorem dX4_init_13 : decode cX4_init 13 = .ok (.bipush 16, 2) := by decide +kernel
theorem dX4_init_15 : decode cX4_init 15 = .ok (.newarray .int, 2) := by decide +kernel
theorem dX4_init_17 : decode cX4_init 17 = .ok (.putfield 15, 3) := by decide +kernel
theorem dX4_init_20 : decode cX4_init 20 = .ok (.aload_n 0, 1) := by decide +kernel
theorem dX4_init_21 : decode cX4_init 21 = .ok (.bipush 16, 2) := by decide +kernel
theorem dX4_init_23 : decode cX4_init 23 = .ok (.newarray .int, 2) := by decide +kernel
theorem dX4_init_25 : decode cX4_init 25 = .ok (.putfield 18, 3) := by decide +kernel
theorem dX4_init_28 : decode cX4_init 28 = .ok (.aload_n 0, 1) := by decide +kernel
theorem dX4_init_29 : decode cX4_init 29 = .ok (.bipush 16, 2) := by decide +kernel
theorem dX4_init_31 : decode cX4_init 31 = .ok (.newarray .int, 2) := by decide +kernel
theorem dX4_init_33 : decode cX4_init 33 = .ok (.putfield 21, 3) := by decide +kernel
theorem dX4_init_36 : decode cX4_init 36 = .ok (.return_, 1) := by decide +kernel
theorem dX4_append_0 : decode cX4_append 0 = .ok (.aload_n 0, 1) := by decide +kernel
theorem dX4_append_1 : decode cX4_append 1 = .ok (.getfield 9, 3) := by decide +kernel
theorem dX4_append_4 : decode cX4_append 4 = .ok (.aload_n 0, 1) := by decide +kernel
theorem dX4_append_5 : decode cX4_append 5 = .ok (.getfield 24, 3) := by decide +kernel
theorem dX4_append_8 : decode cX4_append 8 = .ok (.iload_n 1, 1) := by decide +kernel
theorem dX4_append_9 : decode cX4_append 9 = .ok (.iastore, 1) := by decide +kernel
theorem dX4_append_10 : decode cX4_append 10 = .ok (.aload_n 0, 1) := by decide +kernel
theorem dX4_append_11 : decode cX4_append 11 = .ok (.getfield 15, 3) := by decide +kernel
theorem dX4_append_14 : decode cX4_append 14 = .ok (.aload_n 0, 1) := by decide +kernel
theorem dX4_append_15 : decode cX4_append 15 = .ok (.getfield 24, 3) := by decide +kernel
theorem dX4_append_18 : decode cX4_append 18 = .ok (.iload_n 2, 1) := by decide +kernel
theorem dX4_append_19 : decode cX4_append 19 = .ok (.iastore, 1) := by decide +kernel
theorem dX4_append_20 : decode cX4_append 20 = .ok (.aload_n 0, 1) := by decide +kernel
theorem dX4_append_21 : decode cX4_append 21 = .ok (.getfield 18, 3) := by decide +kernel
theorem dX4_append_24 : decode cX4_append 24 = .ok (.aload_n 0, 1) := by decide +kernel
theorem dX4_append_25 : decode cX4_append 25 = .ok (.getfield 24, 3) := by decide +kernel
theorem dX4_append_28 : decode cX4_append 28 = .ok (.iload_n 3, 1) := by decide +kernel
theorem dX4_append_29 : decode cX4_append 29 = .ok (.iastore, 1) := by decide +kernel
theorem dX4_append_30 : decode cX4_append 30 = .ok (.aload_n 0, 1) := by decide +kernel
theorem dX4_append_31 : decode cX4_append 31 = .ok (.getfield 21, 3) := by decide +kernel
theorem dX4_append_34 : decode cX4_append 34 = .ok (.aload_n 0, 1) := by decide +kernel
theorem dX4_append_35 : decode cX4_append 35 = .ok (.getfield 24, 3) := by decide +kernel
theorem dX4_append_38 : decode cX4_append 38 = .ok (.iconst 0, 1) := by decide +kernel
theorem dX4_append_39 : decode cX4_append 39 = .ok (.iastore, 1) := by decide +kernel
theorem dX4_append_40 : decode cX4_append 40 = .ok (.aload_n 0, 1) := by decide +kernel
theorem dX4_append_41 : decode cX4_append 41 = .ok (.dup, 1) := by decide +kernel
theorem dX4_append_42 : decode cX4_append 42 = .ok (.getfield 24, 3) := by decide +kernel
theorem dX4_append_45 : decode cX4_append 45 = .ok (.dup_x1, 1) := by decide +kernel
theorem dX4_append_46 : decode cX4_append 46 = .ok (.iconst 1, 1) := by decide +kernel
theorem dX4_append_47 : decode cX4_append 47 = .ok (.iadd, 1) := by decide +kernel
theorem dX4_append_48 : decode cX4_append 48 = .ok (.putfield 24, 3) := by decide +kernel
theorem dX4_append_51 : decode cX4_append 51 = .ok (.ireturn, 1) := by decide +kernel
theorem dX4_copyFrom_0 : decode cX4_copyFrom 0 = .ok (.aload_n 0, 1) := by decide +kernel
theorem dX4_copyFrom_1 : decode cX4_copyFrom 1 = .ok (.aload_n 1, 1) := by decide +kernel
theorem dX4_copyFrom_2 : decode cX4_copyFrom 2 = .ok (.getfield 24, 3) := by decide +kernel
theorem dX4_copyFrom_5 : decode cX4_copyFrom 5 = .ok (.putfield 24, 3) := by decide +kernel
theorem dX4_copyFrom_8 : decode cX4_copyFrom 8 = .ok (.aload_n 1, 1) := by decide +kernel
theorem dX4_copyFrom_9 : decode cX4_copyFrom 9 = .ok (.getfield 9, 3) := by decide +kernel
theorem dX4_copyFrom_12 : decode cX4_copyFrom 12 = .ok (.iconst 0, 1) := by decide +kernel
theorem dX4_copyFrom_13 : decode cX4_copyFrom 13 = .ok (.aload_n 0, 1) := by decide +kernel
theorem dX4_copyFrom_14 : decode cX4_copyFrom 14 = .ok (.getfield 9, 3) := by decide +kernel
theorem dX4_copyFrom_17 : decode cX4_copyFrom 17 = .ok (.iconst 0, 1) := by decide +kernel
theorem dX4_copyFrom_18 : decode cX4_copyFrom 18 = .ok (.aload_n 0, 1) := by decide +kernel
theorem dX4_copyFrom_19 : decode cX4_copyFrom 19 = .ok (.getfield 24, 3) := by decide +kernel
theorem dX4_copyFrom_22 : decode cX4_copyFrom 22 = .ok (.invokestatic 28, 3) := by decide +kernel
theorem dX4_copyFrom_25 : decode cX4_copyFrom 25 = .ok (.aload_n 1, 1) := by decide +kernel
theorem dX4_copyFrom_26 : decode cX4_copyFrom 26 = .ok (.getfield 15, 3) := by decide +kernel
theorem dX4_copyFrom_29 : decode cX4_copyFrom 29 = .ok (.iconst 0, 1) := by decide +kernel
theorem dX4_copyFrom_30 : decode cX4_copyFrom 30 = .ok (.aload_n 0, 1) := by decide +kernel
theorem dX4_copyFrom_31 : decode cX4_copyFrom 31 = .ok (.getfield 15, 3) := by decide +kernel
theorem dX4_copyFrom_34 : decode cX4_copyFrom 34 = .ok (.iconst 0, 1) := by decide +kernel
theorem dX4_copyFrom_35 : decode cX4_copyFrom 35 = .ok (.aload_n 0, 1) := by decide +kernel
theorem dX4_copyFrom_36 : decode cX4_copyFrom 36 = .ok (.getfield 24, 3) := by decide +kernel
theorem dX4_copyFrom_39 : decode cX4_copyFrom 39 = .ok (.invokestatic 28, 3) := by decide +kernel
theorem dX4_copyFrom_42 : decode cX4_copyFrom 42 = .ok (.aload_n 1, 1) := by decide +kernel
theorem dX4_copyFrom_43 : decode cX4_copyFrom 43 = .ok (.getfield 18, 3) := by decide +kernel
theorem dX4_copyFrom_46 : decode cX4_copyFrom 46 = .ok (.iconst 0, 1) := by decide +kernel
theorem dX4_copyFrom_47 : decode cX4_copyFrom 47 = .ok (.aload_n 0, 1) := by decide +kernel
theorem dX4_copyFrom_48 : decode cX4_copyFrom 48 = .ok (.getfield 18, 3) := by decide +kernel
theorem dX4_copyFrom_51 : decode cX4_copyFrom 51 = .ok (.iconst 0, 1) := by decide +kernel
theorem dX4_copyFrom_52 : decode cX4_copyFrom 52 = .ok (.aload_n 0, 1) := by decide +kernel
theorem dX4_copyFrom_53 : decode cX4_copyFrom 53 = .ok (.getfield 24, 3) := by decide +kernel
theorem dX4_copyFrom_56 : decode cX4_copyFrom 56 = .ok (.invokestatic 28, 3) := by decide +kernel
theorem dX4_copyFrom_59 : decode cX4_copyFrom 59 = .ok (.aload_n 1, 1) := by decide +kernel
theorem dX4_copyFrom_60 : decode cX4_copyFrom 60 = .ok (.getfield 21, 3) := by decide +kernel
theorem dX4_copyFrom_63 : decode cX4_copyFrom 63 = .ok (.iconst 0, 1) := by decide +kernel
theorem dX4_copyFrom_64 : decode cX4_copyFrom 64 = .ok (.aload_n 0, 1) := by decide +kernel
theorem dX4_copyFrom_65 : decode cX4_copyFrom 65 = .ok (.getfield 21, 3) := by decide +kernel
theorem dX4_copyFrom_68 : decode cX4_copyFrom 68 = .ok (.iconst 0, 1) := by decide +kernel
theorem dX4_copyFrom_69 : decode cX4_copyFrom 69 = .ok (.aload_n 0, 1) := by decide +kernel
theorem dX4_copyFrom_70 : decode cX4_copyFrom 70 = .ok (.getfield 24, 3) := by decide +kernel
theorem dX4_copyFrom_73 : decode cX4_copyFrom 73 = .ok (.invokestatic 28, 3) := by decide +kernel
theorem dX4_copyFrom_76 : decode cX4_copyFrom 76 = .ok (.return_, 1) := by decide +kernel
theorem dX5_init_0 : decode cX5_init 0 = .ok (.aload_n 0, 1) := by decide +kernel
theorem dX5_init_1 : decode cX5_init 1 = .ok (.invokespecial 3, 3) := by decide +kernel
theorem dX5_init_4 : decode cX5_init 4 = .ok (.aload_n 0, 1) := by decide +kernel
theorem dX5_init_5 : decode cX5_init 5 = .ok (.bipush 30, 2) := by decide +kernel
theorem dX5_init_7 : decode cX5_init 7 = .ok (.newarray .int, 2) := by decide +kernel
theorem dX5_init_9 : decode cX5_init 9 = .ok (.putfield 9, 3) := by decide +kernel
theorem dX5_init_12 : decode cX5_init 12 = .ok (.aload_n 0, 1) := by decide +kernel
theorem dX5_init_13 : decode cX5_init 13 = .ok (.bipush 30, 2) := by decide +kernel
theorem dX5_init_15 : decode cX5_init 15 = .ok (.newarray .int, 2) := by decide +kernel
theorem dX5_init_17 : decode cX5_init 17 = .ok (.putfield 15, 3) := by decide +kernel
theorem dX5_init_20 : decode cX5_init 20 = .ok (.aload_n 0, 1) := by decide +kernel
theorem dX5_init_21 : decode cX5_init 21 = .ok (.bipush 30, 2) := by decide +kernel
theorem dX5_init_23 : decode cX5_init 23 = .ok (.newarray .int, 2) := by decide +kernel
theorem dX5_init_25 : decode cX5_init 25 = .ok (.putfield 18, 3) := by decide +kernel
theorem dX5_init_28 : decode cX5_init 28 = .ok (.aload_n 0, 1) := by decide +kernel
theorem dX5_init_29 : decode cX5_init 29 = .ok (.bipush 30, 2) := by decide +kernel
theorem dX5_init_31 : decode cX5_init 31 = .ok (.newarray .int, 2) := by decide +kernel
theorem dX5_init_33 : decode cX5_init 33 = .ok (.putfield 21, 3) := by decide +kernel
theorem dX5_init_36 : decode cX5_init 36 = .ok (.return_, 1) := by decide +kernel
theorem dX5_append_0 : decode cX5_append 0 = .ok (.aload_n 0, 1) := by decide +kernel
theorem dX5_append_1 : decode cX5_append 1 = .ok (.getfield 9, 3) := by decide +kernel
theorem dX5_append_4 : decode cX5_append 4 = .ok (.aload_n 0, 1) := by decide +kernel
theorem dX5_append_5 : decode cX5_append 5 = .ok (.getfield 24, 3) := by decide +kernel
theorem dX5_append_8 : decode cX5_append 8 = .ok (.iload_n 1, 1) := by decide +kernel
theorem dX5_append_9 : decode cX5_append 9 = .ok (.iastore, 1) := by decide +kernel
theorem dX5_append_10 : decode cX5_append 10 = .ok (.aload_n 0, 1) := by decide +kernel
theorem dX5_append_11 : decode cX5_append 11 = .ok (.getfield 15, 3) := by decide +kernel
theorem dX5_append_14 : decode cX5_append 14 = .ok (.aload_n 0, 1) := by decide +kernel
theorem dX5_append_15 : decode cX5_append 15 = .ok (.getfield 24, 3) := by decide +kernel
theorem dX5_append_18 : decode cX5_append 18 = .ok (.iload_n 2, 1) := by decide +kernel
theorem dX5_append_19 : decode cX5_append 19 = .ok (.iastore, 1) := by decide +kernel
theorem dX5_append_20 : decode cX5_append 20 = .ok (.aload_n 0, 1) := by decide +kernel
theorem dX5_append_21 : decode cX5_append 21 = .ok (.getfield 18, 3) := by decide +kernel
theorem dX5_append_24 : decode cX5_append 24 = .ok (.aload_n 0, 1) := by decide +kernel
theorem dX5_append_25 : decode cX5_append 25 = .ok (.getfield 24, 3) := by decide +kernel
theorem dX5_append_28 : decode cX5_append 28 = .ok (.iload_n 3, 1) := by decide +kernel
theorem dX5_append_29 : decode cX5_append 29 = .ok (.iastore, 1) := by decide +kernel
theorem dX5_append_30 : decode cX5_append 30 = .ok (.aload_n 0, 1) := by decide +kernel
theorem dX5_append_31 : decode cX5_append 31 = .ok (.getfield 21, 3) := by decide +kernel
theorem dX5_append_34 : decode cX5_append 34 = .ok (.aload_n 0, 1) := by decide +kernel
theorem dX5_append_35 : decode cX5_append 35 = .ok (.getfield 24, 3) := by decide +kernel
theorem dX5_append_38 : decode cX5_append 38 = .ok (.iload 4, 2) := by decide +kernel
theorem dX5_append_40 : decode cX5_append 40 = .ok (.iastore, 1) := by decide +kernel
theorem dX5_append_41 : decode cX5_append 41 = .ok (.aload_n 0, 1) := by decide +kernel
theorem dX5_append_42 : decode cX5_append 42 = .ok (.dup, 1) := by decide +kernel
theorem dX5_append_43 : decode cX5_append 43 = .ok (.getfield 24, 3) := by decide +kernel
theorem dX5_append_46 : decode cX5_append 46 = .ok (.dup_x1, 1) := by decide +kernel
theorem dX5_append_47 : decode cX5_append 47 = .ok (.iconst 1, 1) := by decide +kernel
theorem dX5_append_48 : decode cX5_append 48 = .ok (.iadd, 1) := by decide +kernel
theorem dX5_append_49 : decode cX5_append 49 = .ok (.putfield 24, 3) := by decide +kernel
theorem dX5_append_52 : decode cX5_append 52 = .ok (.ireturn, 1) := by decide +kernel
theorem dX5_covers_0 : decode cX5_covers 0 = .ok (.aload_n 0, 1) := by decide +kernel
theorem dX5_covers_1 : decode cX5_covers 1 = .ok (.getfield 9, 3) := by decide +kernel
theorem dX5_covers_4 : decode cX5_covers 4 = .ok (.iload_n 1, 1) := by decide +kernel
theorem dX5_covers_5 : decode cX5_covers 5 = .ok (.iaload, 1) := by decide +kernel
theorem dX5_covers_6 : decode cX5_covers 6 = .ok (.iload_n 2, 1) := by decide +kernel
theorem dX5_covers_7 : decode cX5_covers 7 = .ok (.if_icmp .ne 28, 3) := by decide +kernel
theorem dX5_covers_10 : decode cX5_covers 10 = .ok (.aload_n 0, 1) := by decide +kernel
theorem dX5_covers_11 : decode cX5_covers 11 = .ok (.getfield 15, 3) := by decide +kernel
theorem dX5_covers_14 : decode cX5_covers 14 = .ok (.iload_n 1, 1) := by decide +kernel
theorem dX5_covers_15 : decode cX5_covers 15 = .ok (.iaload, 1) := by decide +kernel
theorem dX5_covers_16 : decode cX5_covers 16 = .ok (.iload_n 3, 1) := by decide +kernel
theorem dX5_covers_17 : decode cX5_covers 17 = .ok (.if_icmp .gt 18, 3) := by decide +kernel
theorem dX5_covers_20 : decode cX5_covers 20 = .ok (.iload 4, 2) := by decide +kernel
theorem dX5_covers_22 : decode cX5_covers 22 = .ok (.aload_n 0, 1) := by decide +kernel
theorem dX5_covers_23 : decode cX5_covers 23 = .ok (.getfield 18, 3) := by decide +kernel
theorem dX5_covers_26 : decode cX5_covers 26 = .ok (.iload_n 1, 1) := by decide +kernel
theorem dX5_covers_27 : decode cX5_covers 27 = .ok (.iaload, 1) := by decide +kernel
theorem dX5_covers_28 : decode cX5_covers 28 = .ok (.if_icmp .gt 7, 3) := by decide +kernel
theorem dX5_covers_31 : decode cX5_covers 31 = .ok (.iconst 1, 1) := by decide +kernel
theorem dX5_covers_32 : decode cX5_covers 32 = .ok (.goto 4, 3) := by decide +kernel
theorem dX5_covers_35 : decode cX5_covers 35 = .ok (.iconst 0, 1) := by decide +kernel
theorem dX5_covers_36 : decode cX5_covers 36 = .ok (.ireturn, 1) := by decide +kernel
theorem dX5_copyFrom_0 : decode cX5_copyFrom 0 = .ok (.aload_n 0, 1) := by decide +kernel
theorem dX5_copyFrom_1 : decode cX5_copyFrom 1 = .ok (.aload_n 1, 1) := by decide +kernel
theorem dX5_copyFrom_2 : decode cX5_copyFrom 2 = .ok (.getfield 24, 3) := by decide +kernel
theorem dX5_copyFrom_5 : decode cX5_copyFrom 5 = .ok (.putfield 24, 3) := by decide +kernel
theorem dX5_copyFrom_8 : decode cX5_copyFrom 8 = .ok (.aload_n 1, 1) := by decide +kernel
theorem dX5_copyFrom_9 : decode cX5_copyFrom 9 = .ok (.getfield 9, 3) := by decide +kernel
theorem dX5_copyFrom_12 : decode cX5_copyFrom 12 = .ok (.iconst 0, 1) := by decide +kernel
theorem dX5_copyFrom_13 : decode cX5_copyFrom 13 = .ok (.aload_n 0, 1) := by decide +kernel
theorem dX5_copyFrom_14 : decode cX5_copyFrom 14 = .ok (.getfield 9, 3) := by decide +kernel
theorem dX5_copyFrom_17 : decode cX5_copyFrom 17 = .ok (.iconst 0, 1) := by decide +kernel
theorem dX5_copyFrom_18 : decode cX5_copyFrom 18 = .ok (.aload_n 0, 1) := by decide +kernel
theorem dX5_copyFrom_19 : decode cX5_copyFrom 19 = .ok (.getfield 24, 3) := by decide +kernel
theorem dX5_copyFrom_22 : decode cX5_copyFrom 22 = .ok (.invokestatic 28, 3) := by decide +kernel
theorem dX5_copyFrom_25 : decode cX5_copyFrom 25 = .ok (.aload_n 1, 1) := by decide +kernel
theorem dX5_copyFrom_26 : decode cX5_copyFrom 26 = .ok (.getfield 15, 3) := by decide +kernel
theorem dX5_copyFrom_29 : decode cX5_copyFrom 29 = .ok (.iconst 0, 1) := by decide +kernel
theorem dX5_copyFrom_30 : decode cX5_copyFrom 30 = .ok (.aload_n 0, 1) := by decide +kernel
theorem dX5_copyFrom_31 : decode cX5_copyFrom 31 = .ok (.getfield 15, 3) := by decide +kernel
theorem dX5_copyFrom_34 : decode cX5_copyFrom 34 = .ok (.iconst 0, 1) := by decide +kernel
theorem dX5_copyFrom_35 : decode cX5_copyFrom 35 = .ok (.aload_n 0, 1) := by decide +kernel
theorem dX5_copyFrom_36 : decode cX5_copyFrom 36 = .ok (.getfield 24, 3) := by decide +kernel
theorem dX5_copyFrom_39 : decode cX5_copyFrom 39 = .ok (.invokestatic 28, 3) := by decide +kernel
theorem dX5_copyFrom_42 : decode cX5_copyFrom 42 = .ok (.aload_n 1, 1) := by decide +kernel
theorem dX5_copyFrom_43 : decode cX5_copyFrom 43 = .ok (.getfield 18, 3) := by decide +kernel
theorem dX5_copyFrom_46 : decode cX5_copyFrom 46 = .ok (.iconst 0, 1) := by decide +kernel
theorem dX5_copyFrom_47 : decode cX5_copyFrom 47 = .ok (.aload_n 0, 1) := by decide +kernel
theorem dX5_copyFrom_48 : decode cX5_copyFrom 48 = .ok (.getfield 18, 3) := by decide +kernel
theorem dX5_copyFrom_51 : decode cX5_copyFrom 51 = .ok (.iconst 0, 1) := by decide +kernel
theorem dX5_copyFrom_52 : decode cX5_copyFrom 52 = .ok (.aload_n 0, 1) := by decide +kernel
theorem dX5_copyFrom_53 : decode cX5_copyFrom 53 = .ok (.getfield 24, 3) := by decide +kernel
theorem dX5_copyFrom_56 : decode cX5_copyFrom 56 = .ok (.invokestatic 28, 3) := by decide +kernel
theorem dX5_copyFrom_59 : decode cX5_copyFrom 59 = .ok (.aload_n 1, 1) := by decide +kernel
theorem dX5_copyFrom_60 : decode cX5_copyFrom 60 = .ok (.getfield 21, 3) := by decide +kernel
theorem dX5_copyFrom_63 : decode cX5_copyFrom 63 = .ok (.iconst 0, 1) := by decide +kernel
theorem dX5_copyFrom_64 : decode cX5_copyFrom 64 = .ok (.aload_n 0, 1) := by decide +kernel
theorem dX5_copyFrom_65 : decode cX5_copyFrom 65 = .ok (.getfield 21, 3) := by decide +kernel
theorem dX5_copyFrom_68 : decode cX5_copyFrom 68 = .ok (.iconst 0, 1) := by decide +kernel
theorem dX5_copyFrom_69 : decode cX5_copyFrom 69 = .ok (.aload_n 0, 1) := by decide +kernel
theorem dX5_copyFrom_70 : decode cX5_copyFrom 70 = .ok (.getfield 24, 3) := by decide +kernel
theorem dX5_copyFrom_73 : decode cX5_copyFrom 73 = .ok (.invokestatic 28, 3) := by decide +kernel
theorem dX5_copyFrom_76 : decode cX5_copyFrom 76 = .ok (.return_, 1) := by decide +kernel
theorem dX6_init_0 : decode cX6_init 0 = .ok (.aload_n 0, 1) := by decide +kernel
theorem dX6_init_1 : decode cX6_init 1 = .ok (.invokespecial 3, 3) := by decide +kernel
theorem dX6_init_4 : decode cX6_init 4 = .ok (.aload_n 0, 1) := by decide +kernel
theorem dX6_init_5 : decode cX6_init 5 = .ok (.bipush 61, 2) := by decide +kernel
theorem dX6_init_7 : decode cX6_init 7 = .ok (.newarray .int, 2) := by decide +kernel
theorem dX6_init_9 : decode cX6_init 9 = .ok (.putfield 11, 3) := by decide +kernel
theorem dX6_init_12 : decode cX6_init 12 = .ok (.aload_n 0, 1) := by decide +kernel
theorem dX6_init_13 : decode cX6_init 13 = .ok (.bipush 61, 2) := by decide +kernel
theorem dX6_init_15 : decode cX6_init 15 = .ok (.newarray .int, 2) := by decide +kernel
theorem dX6_init_17 : decode cX6_init 17 = .ok (.putfield 15, 3) := by decide +kernel
theorem dX6_init_20 : decode cX6_init 20 = .ok (.aload_n 0, 1) := by decide +kernel
theorem dX6_init_21 : decode cX6_init 21 = .ok (.bipush 61, 2) := by decide +kernel
theorem dX6_init_23 : decode cX6_init 23 = .ok (.newarray .int, 2) := by decide +kernel
theorem dX6_init_25 : decode cX6_init 25 = .ok (.putfield 18, 3) := by decide +kernel
theorem dX6_init_28 : decode cX6_init 28 = .ok (.aload_n 0, 1) := by decide +kernel
theorem dX6_init_29 : decode cX6_init 29 = .ok (.bipush 61, 2) := by decide +kernel
theorem dX6_init_31 : decode cX6_init 31 = .ok (.newarray .int, 2) := by decide +kernel
theorem dX6_init_33 : decode cX6_init 33 = .ok (.putfield 21, 3) := by decide +kernel
theorem dX6_init_36 : decode cX6_init 36 = .ok (.aload_n 0, 1) := by decide +kernel
theorem dX6_init_37 : decode cX6_init 37 = .ok (.bipush 30, 2) := by decide +kernel
theorem dX6_init_39 : decode cX6_init 39 = .ok (.newarray .int, 2) := by decide +kernel
theorem dX6_init_41 : decode cX6_init 41 = .ok (.putfield 24, 3) := by decide +kernel
theorem dX6_init_44 : decode cX6_init 44 = .ok (.return_, 1) := by decide +kernel
theorem dX6_clear_0 : decode cX6_clear 0 = .ok (.aload_n 0, 1) := by decide +kernel
theorem dX6_clear_1 : decode cX6_clear 1 = .ok (.iconst 0, 1) := by decide +kernel
theorem dX6_clear_2 : decode cX6_clear 2 = .ok (.putfield 27, 3) := by decide +kernel
theorem dX6_clear_5 : decode cX6_clear 5 = .ok (.return_, 1) := by decide +kernel
theorem dX6_add_0 : decode cX6_add 0 = .ok (.aload_n 0, 1) := by decide +kernel
theorem dX6_add_1 : decode cX6_add 1 = .ok (.getfield 27, 3) := by decide +kernel
theorem dX6_add_4 : decode cX6_add 4 = .ok (.bipush 61, 2) := by decide +kernel
theorem dX6_add_6 : decode cX6_add 6 = .ok (.if_icmp .lt 4, 3) := by decide +kernel
theorem dX6_add_9 : decode cX6_add 9 = .ok (.return_, 1) := by decide +kernel
theorem dX6_add_10 : decode cX6_add 10 = .ok (.aload_n 0, 1) := by decide +kernel
theorem dX6_add_11 : decode cX6_add 11 = .ok (.getfield 27, 3) := by decide +kernel
theorem dX6_add_14 : decode cX6_add 14 = .ok (.istore 4, 2) := by decide +kernel
theorem dX6_add_16 : decode cX6_add 16 = .ok (.iload 4, 2) := by decide +kernel
theorem dX6_add_18 : decode cX6_add 18 = .ok (.ifCond .le 70, 3) := by decide +kernel
theorem dX6_add_21 : decode cX6_add 21 = .ok (.aload_n 0, 1) := by decide +kernel
theorem dX6_add_22 : decode cX6_add 22 = .ok (.getfield 15, 3) := by decide +kernel
theorem dX6_add_25 : decode cX6_add 25 = .ok (.iload 4, 2) := by decide +kernel
theorem dX6_add_27 : decode cX6_add 27 = .ok (.iconst 1, 1) := by decide +kernel
theorem dX6_add_28 : decode cX6_add 28 = .ok (.isub, 1) := by decide +kernel
theorem dX6_add_29 : decode cX6_add 29 = .ok (.iaload, 1) := by decide +kernel
theorem dX6_add_30 : decode cX6_add 30 = .ok (.iload_n 2, 1) := by decide +kernel
theorem dX6_add_31 : decode cX6_add 31 = .ok (.if_icmp .le 57, 3) := by decide +kernel
theorem dX6_add_34 : decode cX6_add 34 = .ok (.aload_n 0, 1) := by decide +kernel
theorem dX6_add_35 : decode cX6_add 35 = .ok (.getfield 11, 3) := by decide +kernel
theorem dX6_add_38 : decode cX6_add 38 = .ok (.iload 4, 2) := by decide +kernel
theorem dX6_add_40 : decode cX6_add 40 = .ok (.aload_n 0, 1) := by decide +kernel
theorem dX6_add_41 : decode cX6_add 41 = .ok (.getfield 11, 3) := by decide +kernel
theorem dX6_add_44 : decode cX6_add 44 = .ok (.iload 4, 2) := by decide +kernel
theorem dX6_add_46 : decode cX6_add 46 = .ok (.iconst 1, 1) := by decide +kernel
theorem dX6_add_47 : decode cX6_add 47 = .ok (.isub, 1) := by decide +kernel
theorem dX6_add_48 : decode cX6_add 48 = .ok (.iaload, 1) := by decide +kernel
theorem dX6_add_49 : decode cX6_add 49 = .ok (.iastore, 1) := by decide +kernel
theorem dX6_add_50 : decode cX6_add 50 = .ok (.aload_n 0, 1) := by decide +kernel
theorem dX6_add_51 : decode cX6_add 51 = .ok (.getfield 15, 3) := by decide +kernel
theorem dX6_add_54 : decode cX6_add 54 = .ok (.iload 4, 2) := by decide +kernel
theorem dX6_add_56 : decode cX6_add 56 = .ok (.aload_n 0, 1) := by decide +kernel
theorem dX6_add_57 : decode cX6_add 57 = .ok (.getfield 15, 3) := by decide +kernel
theorem dX6_add_60 : decode cX6_add 60 = .ok (.iload 4, 2) := by decide +kernel
theorem dX6_add_62 : decode cX6_add 62 = .ok (.iconst 1, 1) := by decide +kernel
theorem dX6_add_63 : decode cX6_add 63 = .ok (.isub, 1) := by decide +kernel
theorem dX6_add_64 : decode cX6_add 64 = .ok (.iaload, 1) := by decide +kernel
theorem dX6_add_65 : decode cX6_add 65 = .ok (.iastore, 1) := by decide +kernel
theorem dX6_add_66 : decode cX6_add 66 = .ok (.aload_n 0, 1) := by decide +kernel
theorem dX6_add_67 : decode cX6_add 67 = .ok (.getfield 18, 3) := by decide +kernel
theorem dX6_add_70 : decode cX6_add 70 = .ok (.iload 4, 2) := by decide +kernel
theorem dX6_add_72 : decode cX6_add 72 = .ok (.aload_n 0, 1) := by decide +kernel
theorem dX6_add_73 : decode cX6_add 73 = .ok (.getfield 18, 3) := by decide +kernel
theorem dX6_add_76 : decode cX6_add 76 = .ok (.iload 4, 2) := by decide +kernel
theorem dX6_add_78 : decode cX6_add 78 = .ok (.iconst 1, 1) := by decide +kernel
theorem dX6_add_79 : decode cX6_add 79 = .ok (.isub, 1) := by decide +kernel
theorem dX6_add_80 : decode cX6_add 80 = .ok (.iaload, 1) := by decide +kernel
theorem dX6_add_81 : decode cX6_add 81 = .ok (.iastore, 1) := by decide +kernel
theorem dX6_add_82 : decode cX6_add 82 = .ok (.iinc 4 (-1), 3) := by decide +kernel
theorem dX6_add_85 : decode cX6_add 85 = .ok (.goto (-69), 3) := by decide +kernel
theorem dX6_add_88 : decode cX6_add 88 = .ok (.aload_n 0, 1) := by decide +kernel
theorem dX6_add_89 : decode cX6_add 89 = .ok (.getfield 11, 3) := by decide +kernel
theorem dX6_add_92 : decode cX6_add 92 = .ok (.iload 4, 2) := by decide +kernel
theorem dX6_add_94 : decode cX6_add 94 = .ok (.iload_n 1, 1) := by decide +kernel
theorem dX6_add_95 : decode cX6_add 95 = .ok (.iastore, 1) := by decide +kernel
theorem dX6_add_96 : decode cX6_add 96 = .ok (.aload_n 0, 1) := by decide +kernel
theorem dX6_add_97 : decode cX6_add 97 = .ok (.getfield 15, 3) := by decide +kernel
theorem dX6_add_100 : decode cX6_add 100 = .ok (.iload 4, 2) := by decide +kernel
theorem dX6_add_102 : decode cX6_add 102 = .ok (.iload_n 2, 1) := by decide +kernel
theorem dX6_add_103 : decode cX6_add 103 = .ok (.iastore, 1) := by decide +kernel
theorem dX6_add_104 : decode cX6_add 104 = .ok (.aload_n 0, 1) := by decide +kernel
theorem dX6_add_105 : decode cX6_add 105 = .ok (.getfield 18, 3) := by decide +kernel
theorem dX6_add_108 : decode cX6_add 108 = .ok (.iload 4, 2) := by decide +kernel
theorem dX6_add_110 : decode cX6_add 110 = .ok (.iload_n 3, 1) := by decide +kernel
theorem dX6_add_111 : decode cX6_add 111 = .ok (.iastore, 1) := by decide +kernel
theorem dX6_add_112 : decode cX6_add 112 = .ok (.aload_n 0, 1) := by decide +kernel
theorem dX6_add_113 : decode cX6_add 113 = .ok (.dup, 1) := by decide +kernel
theorem dX6_add_114 : decode cX6_add 114 = .ok (.getfield 27, 3) := by decide +kernel
theorem dX6_add_117 : decode cX6_add 117 = .ok (.iconst 1, 1) := by decide +kernel
theorem dX6_add_118 : decode cX6_add 118 = .ok (.iadd, 1) := by decide +kernel
theorem dX6_add_119 : decode cX6_add 119 = .ok (.putfield 27, 3) := by decide +kernel
theorem dX6_add_122 : decode cX6_add 122 = .ok (.return_, 1) := by decide +kernel
theorem dX6_share_0 : decode cX6_share 0 = .ok (.aload_n 1, 1) := by decide +kernel
theorem dX6_share_1 : decode cX6_share 1 = .ok (.getfield 31, 3) := by decide +kernel
theorem dX6_share_4 : decode cX6_share 4 = .ok (.iconst 0, 1) := by decide +kernel
theorem dX6_share_5 : decode cX6_share 5 = .ok (.aload_n 0, 1) := by decide +kernel
theorem dX6_share_6 : decode cX6_share 6 = .ok (.getfield 24, 3) := by decide +kernel
theorem dX6_share_9 : decode cX6_share 9 = .ok (.iconst 0, 1) := by decide +kernel
theorem dX6_share_10 : decode cX6_share 10 = .ok (.aload_n 1, 1) := by decide +kernel
theorem dX6_share_11 : decode cX6_share 11 = .ok (.getfield 36, 3) := by decide +kernel
theorem dX6_share_14 : decode cX6_share 14 = .ok (.invokestatic 37, 3) := by decide +kernel
theorem dX6_share_17 : decode cX6_share 17 = .ok (.iconst 1, 1) := by decide +kernel
theorem dX6_share_18 : decode cX6_share 18 = .ok (.istore_n 2, 1) := by decide +kernel
theorem dX6_share_19 : decode cX6_share 19 = .ok (.iconst 0, 1) := by decide +kernel
theorem dX6_share_20 : decode cX6_share 20 = .ok (.istore_n 3, 1) := by decide +kernel
theorem dX6_share_21 : decode cX6_share 21 = .ok (.iload_n 3, 1) := by decide +kernel
theorem dX6_share_22 : decode cX6_share 22 = .ok (.aload_n 0, 1) := by decide +kernel
theorem dX6_share_23 : decode cX6_share 23 = .ok (.getfield 27, 3) := by decide +kernel
theorem dX6_share_26 : decode cX6_share 26 = .ok (.if_icmp .ge 52, 3) := by decide +kernel
theorem dX6_share_29 : decode cX6_share 29 = .ok (.aload_n 0, 1) := by decide +kernel
theorem dX6_share_30 : decode cX6_share 30 = .ok (.getfield 21, 3) := by decide +kernel
theorem dX6_share_33 : decode cX6_share 33 = .ok (.iload_n 3, 1) := by decide +kernel
theorem dX6_share_34 : decode cX6_share 34 = .ok (.aload_n 0, 1) := by decide +kernel
theorem dX6_share_35 : decode cX6_share 35 = .ok (.iload_n 3, 1) := by decide +kernel
theorem dX6_share_36 : decode cX6_share 36 = .ok (.aload_n 1, 1) := by decide +kernel
theorem dX6_share_37 : decode cX6_share 37 = .ok (.invokevirtual 43, 3) := by decide +kernel
theorem dX6_share_40 : decode cX6_share 40 = .ok (.iastore, 1) := by decide +kernel
theorem dX6_share_41 : decode cX6_share 41 = .ok (.aload_n 0, 1) := by decide +kernel
theorem dX6_share_42 : decode cX6_share 42 = .ok (.getfield 21, 3) := by decide +kernel
theorem dX6_share_45 : decode cX6_share 45 = .ok (.iload_n 3, 1) := by decide +kernel
theorem dX6_share_46 : decode cX6_share 46 = .ok (.iaload, 1) := by decide +kernel
theorem dX6_share_47 : decode cX6_share 47 = .ok (.bipush (-9), 2) := by decide +kernel
theorem dX6_share_49 : decode cX6_share 49 = .ok (.if_icmp .ne 8, 3) := by decide +kernel
theorem dX6_share_52 : decode cX6_share 52 = .ok (.iconst 0, 1) := by decide +kernel
theorem dX6_share_53 : decode cX6_share 53 = .ok (.istore_n 2, 1) := by decide +kernel
theorem dX6_share_54 : decode cX6_share 54 = .ok (.goto 18, 3) := by decide +kernel
theorem dX6_share_57 : decode cX6_share 57 = .ok (.aload_n 0, 1) := by decide +kernel
theorem dX6_share_58 : decode cX6_share 58 = .ok (.getfield 24, 3) := by decide +kernel
theorem dX6_share_61 : decode cX6_share 61 = .ok (.aload_n 0, 1) := by decide +kernel
theorem dX6_share_62 : decode cX6_share 62 = .ok (.getfield 21, 3) := by decide +kernel
theorem dX6_share_65 : decode cX6_share 65 = .ok (.iload_n 3, 1) := by decide +kernel
theorem dX6_share_66 : decode cX6_share 66 = .ok (.iaload, 1) := by decide +kernel
theorem dX6_share_67 : decode cX6_share 67 = .ok (.dup2, 1) := by decide +kernel
theorem dX6_share_68 : decode cX6_share 68 = .ok (.iaload, 1) := by decide +kernel
theorem dX6_share_69 : decode cX6_share 69 = .ok (.iconst 1, 1) := by decide +kernel
theorem dX6_share_70 : decode cX6_share 70 = .ok (.isub, 1) := by decide +kernel
theorem dX6_share_71 : decode cX6_share 71 = .ok (.iastore, 1) := by decide +kernel
theorem dX6_share_72 : decode cX6_share 72 = .ok (.iinc 3 1, 3) := by decide +kernel
theorem dX6_share_75 : decode cX6_share 75 = .ok (.goto (-54), 3) := by decide +kernel
theorem dX6_share_78 : decode cX6_share 78 = .ok (.iload_n 2, 1) := by decide +kernel
theorem dX6_share_79 : decode cX6_share 79 = .ok (.ireturn, 1) := by decide +kernel
theorem dX6_rightFor_0 : decode cX6_rightFor 0 = .ok (.bipush (-9), 2) := by decide +kernel
theorem dX6_rightFor_2 : decode cX6_rightFor 2 = .ok (.istore_n 3, 1) := by decide +kernel
theorem dX6_rightFor_3 : decode cX6_rightFor 3 = .ok (.iconst 0, 1) := by decide +kernel
theorem dX6_rightFor_4 : decode cX6_rightFor 4 = .ok (.istore 4, 2) := by decide +kernel
theorem dX6_rightFor_6 : decode cX6_rightFor 6 = .ok (.iload 4, 2) := by decide +kernel
theorem dX6_rightFor_8 : decode cX6_rightFor 8 = .ok (.aload_n 2, 1) := by decide +kernel
theorem dX6_rightFor_9 : decode cX6_rightFor 9 = .ok (.getfield 36, 3) := by decide +kernel
theorem dX6_rightFor_12 : decode cX6_rightFor 12 = .ok (.if_icmp .ge 71, 3) := by decide +kernel
theorem dX6_rightFor_15 : decode cX6_rightFor 15 = .ok (.aload_n 0, 1) := by decide +kernel
theorem dX6_rightFor_16 : decode cX6_rightFor 16 = .ok (.getfield 24, 3) := by decide +kernel
theorem dX6_rightFor_19 : decode cX6_rightFor 19 = .ok (.iload 4, 2) := by decide +kernel
theorem dX6_rightFor_21 : decode cX6_rightFor 21 = .ok (.iaload, 1) := by decide +kernel
theorem dX6_rightFor_22 : decode cX6_rightFor 22 = .ok (.ifCond .le 55, 3) := by decide +kernel
theorem dX6_rightFor_25 : decode cX6_rightFor 25 = .ok (.aload_n 2, 1) := by decide +kernel
theorem dX6_rightFor_26 : decode cX6_rightFor 26 = .ok (.iload 4, 2) := by decide +kernel
theorem dX6_rightFor_28 : decode cX6_rightFor 28 = .ok (.aload_n 0, 1) := by decide +kernel
theorem dX6_rightFor_29 : decode cX6_rightFor 29 = .ok (.getfield 11, 3) := by decide +kernel
theorem dX6_rightFor_32 : decode cX6_rightFor 32 = .ok (.iload_n 1, 1) := by decide +kernel
theorem dX6_rightFor_33 : decode cX6_rightFor 33 = .ok (.iaload, 1) := by decide +kernel
theorem dX6_rightFor_34 : decode cX6_rightFor 34 = .ok (.aload_n 0, 1) := by decide +kernel
theorem dX6_rightFor_35 : decode cX6_rightFor 35 = .ok (.getfield 15, 3) := by decide +kernel
theorem dX6_rightFor_38 : decode cX6_rightFor 38 = .ok (.iload_n 1, 1) := by decide +kernel
theorem dX6_rightFor_39 : decode cX6_rightFor 39 = .ok (.iaload, 1) := by decide +kernel
theorem dX6_rightFor_40 : decode cX6_rightFor 40 = .ok (.aload_n 0, 1) := by decide +kernel
theorem dX6_rightFor_41 : decode cX6_rightFor 41 = .ok (.getfield 18, 3) := by decide +kernel
theorem dX6_rightFor_44 : decode cX6_rightFor 44 = .ok (.iload_n 1, 1) := by decide +kernel
theorem dX6_rightFor_45 : decode cX6_rightFor 45 = .ok (.iaload, 1) := by decide +kernel
theorem dX6_rightFor_46 : decode cX6_rightFor 46 = .ok (.invokevirtual 47, 3) := by decide +kernel
theorem dX6_rightFor_49 : decode cX6_rightFor 49 = .ok (.ifCond .eq 28, 3) := by decide +kernel
theorem dX6_rightFor_52 : decode cX6_rightFor 52 = .ok (.iload_n 3, 1) := by decide +kernel
theorem dX6_rightFor_53 : decode cX6_rightFor 53 = .ok (.bipush (-9), 2) := by decide +kernel
theorem dX6_rightFor_55 : decode cX6_rightFor 55 = .ok (.if_icmp .eq 19, 3) := by decide +kernel
theorem dX6_rightFor_58 : decode cX6_rightFor 58 = .ok (.aload_n 2, 1) := by decide +kernel
theorem dX6_rightFor_59 : decode cX6_rightFor 59 = .ok (.getfield 51, 3) := by decide +kernel
theorem dX6_rightFor_62 : decode cX6_rightFor 62 = .ok (.iload 4, 2) := by decide +kernel
theorem dX6_rightFor_64 : decode cX6_rightFor 64 = .ok (.iaload, 1) := by decide +kernel
theorem dX6_rightFor_65 : decode cX6_rightFor 65 = .ok (.aload_n 2, 1) := by decide +kernel
theorem dX6_rightFor_66 : decode cX6_rightFor 66 = .ok (.getfield 51, 3) := by decide +kernel
theorem dX6_rightFor_69 : decode cX6_rightFor 69 = .ok (.iload_n 3, 1) := by decide +kernel
theorem dX6_rightFor_70 : decode cX6_rightFor 70 = .ok (.iaload, 1) := by decide +kernel
theorem dX6_rightFor_71 : decode cX6_rightFor 71 = .ok (.if_icmp .ge 6, 3) := by decide +kernel
theorem dX6_rightFor_74 : decode cX6_rightFor 74 = .ok (.iload 4, 2) := by decide +kernel
theorem dX6_rightFor_76 : decode cX6_rightFor 76 = .ok (.istore_n 3, 1) := by decide +kernel
theorem dX6_rightFor_77 : decode cX6_rightFor 77 = .ok (.iinc 4 1, 3) := by decide +kernel
theorem dX6_rightFor_80 : decode cX6_rightFor 80 = .ok (.goto (-74), 3) := by decide +kernel
theorem dX6_rightFor_83 : decode cX6_rightFor 83 = .ok (.iload_n 3, 1) := by decide +kernel
theorem dX6_rightFor_84 : decode cX6_rightFor 84 = .ok (.ireturn, 1) := by decide +kernel
theorem dX7_init_0 : decode cX7_init 0 = .ok (.aload_n 0, 1) := by decide +kernel
theorem dX7_init_1 : decode cX7_init 1 = .ok (.invokespecial 1, 3) := by decide +kernel
theorem dX7_init_4 : decode cX7_init 4 = .ok (.aload_n 0, 1) := by decide +kernel
theorem dX7_init_5 : decode cX7_init 5 = .ok (.new 7, 3) := by decide +kernel
theorem dX7_init_8 : decode cX7_init 8 = .ok (.dup, 1) := by decide +kernel
theorem dX7_init_9 : decode cX7_init 9 = .ok (.invokespecial 9, 3) := by decide +kernel
theorem dX7_init_12 : decode cX7_init 12 = .ok (.putfield 10, 3) := by decide +kernel
theorem dX7_init_15 : decode cX7_init 15 = .ok (.aload_n 0, 1) := by decide +kernel
theorem dX7_init_16 : decode cX7_init 16 = .ok (.new 16, 3) := by decide +kernel
theorem dX7_init_19 : decode cX7_init 19 = .ok (.dup, 1) := by decide +kernel
theorem dX7_init_20 : decode cX7_init 20 = .ok (.invokespecial 18, 3) := by decide +kernel
theorem dX7_init_23 : decode cX7_init 23 = .ok (.putfield 19, 3) := by decide +kernel
theorem dX7_init_26 : decode cX7_init 26 = .ok (.aload_n 0, 1) := by decide +kernel
theorem dX7_init_27 : decode cX7_init 27 = .ok (.new 23, 3) := by decide +kernel
theorem dX7_init_30 : decode cX7_init 30 = .ok (.dup, 1) := by decide +kernel
theorem dX7_init_31 : decode cX7_init 31 = .ok (.invokespecial 25, 3) := by decide +kernel
theorem dX7_init_34 : decode cX7_init 34 = .ok (.putfield 26, 3) := by decide +kernel
theorem dX7_init_37 : decode cX7_init 37 = .ok (.aload_n 0, 1) := by decide +kernel
theorem dX7_init_38 : decode cX7_init 38 = .ok (.new 30, 3) := by decide +kernel
theorem dX7_init_41 : decode cX7_init 41 = .ok (.dup, 1) := by decide +kernel
theorem dX7_init_42 : decode cX7_init 42 = .ok (.invokespecial 32, 3) := by decide +kernel
theorem dX7_init_45 : decode cX7_init 45 = .ok (.putfield 33, 3) := by decide +kernel
theorem dX7_init_48 : decode cX7_init 48 = .ok (.return_, 1) := by decide +kernel
theorem dX7_copyFrom_0 : decode cX7_copyFrom 0 = .ok (.aload_n 0, 1) := by decide +kernel
theorem dX7_copyFrom_1 : decode cX7_copyFrom 1 = .ok (.getfield 10, 3) := by decide +kernel
theorem dX7_copyFrom_4 : decode cX7_copyFrom 4 = .ok (.aload_n 1, 1) := by decide +kernel
theorem dX7_copyFrom_5 : decode cX7_copyFrom 5 = .ok (.getfield 10, 3) := by decide +kernel
theorem dX7_copyFrom_8 : decode cX7_copyFrom 8 = .ok (.invokevirtual 37, 3) := by decide +kernel
theorem dX7_copyFrom_11 : decode cX7_copyFrom 11 = .ok (.aload_n 0, 1) := by decide +kernel
theorem dX7_copyFrom_12 : decode cX7_copyFrom 12 = .ok (.getfield 19, 3) := by decide +kernel
theorem dX7_copyFrom_15 : decode cX7_copyFrom 15 = .ok (.aload_n 1, 1) := by decide +kernel
theorem dX7_copyFrom_16 : decode cX7_copyFrom 16 = .ok (.getfield 19, 3) := by decide +kernel
theorem dX7_copyFrom_19 : decode cX7_copyFrom 19 = .ok (.invokevirtual 41, 3) := by decide +kernel
theorem dX7_copyFrom_22 : decode cX7_copyFrom 22 = .ok (.aload_n 0, 1) := by decide +kernel
theorem dX7_copyFrom_23 : decode cX7_copyFrom 23 = .ok (.getfield 26, 3) := by decide +kernel
theorem dX7_copyFrom_26 : decode cX7_copyFrom 26 = .ok (.aload_n 1, 1) := by decide +kernel
theorem dX7_copyFrom_27 : decode cX7_copyFrom 27 = .ok (.getfield 26, 3) := by decide +kernel
theorem dX7_copyFrom_30 : decode cX7_copyFrom 30 = .ok (.invokevirtual 44, 3) := by decide +kernel
theorem dX7_copyFrom_33 : decode cX7_copyFrom 33 = .ok (.aload_n 0, 1) := by decide +kernel
theorem dX7_copyFrom_34 : decode cX7_copyFrom 34 = .ok (.getfield 33, 3) := by decide +kernel
theorem dX7_copyFrom_37 : decode cX7_copyFrom 37 = .ok (.aload_n 1, 1) := by decide +kernel
theorem dX7_copyFrom_38 : decode cX7_copyFrom 38 = .ok (.getfield 33, 3) := by decide +kernel
theorem dX7_copyFrom_41 : decode cX7_copyFrom 41 = .ok (.invokevirtual 47, 3) := by decide +kernel
theorem dX7_copyFrom_44 : decode cX7_copyFrom 44 = .ok (.return_, 1) := by decide +kernel
theorem dX8_init_0 : decode cX8_init 0 = .ok (.aload_n 0, 1) := by decide +kernel
theorem dX8_init_1 : decode cX8_init 1 = .ok (.invokespecial 3, 3) := by decide +kernel
theorem dX8_init_4 : decode cX8_init 4 = .ok (.aload_n 0, 1) := by decide +kernel
theorem dX8_init_5 : decode cX8_init 5 = .ok (.new 9, 3) := by decide +kernel
theorem dX8_init_8 : decode cX8_init 8 = .ok (.dup, 1) := by decide +kernel
theorem dX8_init_9 : decode cX8_init 9 = .ok (.invokespecial 11, 3) := by decide +kernel
theorem dX8_init_12 : decode cX8_init 12 = .ok (.putfield 12, 3) := by decide +kernel
theorem dX8_init_15 : decode cX8_init 15 = .ok (.aload_n 0, 1) := by decide +kernel
theorem dX8_init_16 : decode cX8_init 16 = .ok (.new 16, 3) := by decide +kernel
theorem dX8_init_19 : decode cX8_init 19 = .ok (.dup, 1) := by decide +kernel
theorem dX8_init_20 : decode cX8_init 20 = .ok (.invokespecial 18, 3) := by decide +kernel
theorem dX8_init_23 : decode cX8_init 23 = .ok (.putfield 19, 3) := by decide +kernel
theorem dX8_init_26 : decode cX8_init 26 = .ok (.aload_n 0, 1) := by decide +kernel
theorem dX8_init_27 : decode cX8_init 27 = .ok (.new 23, 3) := by decide +kernel
theorem dX8_init_30 : decode cX8_init 30 = .ok (.dup, 1) := by decide +kernel
theorem dX8_init_31 : decode cX8_init 31 = .ok (.invokespecial 25, 3) := by decide +kernel
theorem dX8_init_34 : decode cX8_init 34 = .ok (.putfield 26, 3) := by decide +kernel
theorem dX8_init_37 : decode cX8_init 37 = .ok (.aload_n 0, 1) := by decide +kernel
theorem dX8_init_38 : decode cX8_init 38 = .ok (.new 30, 3) := by decide +kernel
theorem dX8_init_41 : decode cX8_init 41 = .ok (.dup, 1) := by decide +kernel
theorem dX8_init_42 : decode cX8_init 42 = .ok (.invokespecial 32, 3) := by decide +kernel
theorem dX8_init_45 : decode cX8_init 45 = .ok (.putfield 33, 3) := by decide +kernel
theorem dX8_init_48 : decode cX8_init 48 = .ok (.aload_n 0, 1) := by decide +kernel
theorem dX8_init_49 : decode cX8_init 49 = .ok (.new 37, 3) := by decide +kernel
theorem dX8_init_52 : decode cX8_init 52 = .ok (.dup, 1) := by decide +kernel
theorem dX8_init_53 : decode cX8_init 53 = .ok (.invokespecial 39, 3) := by decide +kernel
theorem dX8_init_56 : decode cX8_init 56 = .ok (.putfield 40, 3) := by decide +kernel
theorem dX8_init_59 : decode cX8_init 59 = .ok (.return_, 1) := by decide +kernel
theorem dX8_addProgramme_0 : decode cX8_addProgramme 0 = .ok (.iload_n 1, 1) := by decide +kernel
theorem dX8_addProgramme_1 : decode cX8_addProgramme 1 = .ok (.iconst 0, 1) := by decide +kernel
theorem dX8_addProgramme_2 : decode cX8_addProgramme 2 = .ok (.iconst 3, 1) := by decide +kernel
theorem dX8_addProgramme_3 : decode cX8_addProgramme 3 = .ok (.invokestatic 44, 3) := by decide +kernel
theorem dX8_addProgramme_6 : decode cX8_addProgramme 6 = .ok (.ifCond .eq 23, 3) := by decide +kernel
theorem dX8_addProgramme_9 : decode cX8_addProgramme 9 = .ok (.iload_n 2, 1) := by decide +kernel
theorem dX8_addProgramme_10 : decode cX8_addProgramme 10 = .ok (.iconst 1, 1) := by decide +kernel
theorem dX8_addProgramme_11 : decode cX8_addProgramme 11 = .ok (.sipush 240, 3) := by decide +kernel
theorem dX8_addProgramme_14 : decode cX8_addProgramme 14 = .ok (.invokestatic 44, 3) := by decide +kernel
theorem dX8_addProgramme_17 : decode cX8_addProgramme 17 = .ok (.ifCond .eq 12, 3) := by decide +kernel
theorem dX8_addProgramme_20 : decode cX8_addProgramme 20 = .ok (.iload_n 3, 1) := by decide +kernel
theorem dX8_addProgramme_21 : decode cX8_addProgramme 21 = .ok (.iconst 0, 1) := by decide +kernel
theorem dX8_addProgramme_22 : decode cX8_addProgramme 22 = .ok (.iconst 3, 1) := by decide +kernel
theorem dX8_addProgramme_23 : decode cX8_addProgramme 23 = .ok (.invokestatic 44, 3) := by decide +kernel
theorem dX8_addProgramme_26 : decode cX8_addProgramme 26 = .ok (.ifCond .ne 5, 3) := by decide +kernel
theorem dX8_addProgramme_29 : decode cX8_addProgramme 29 = .ok (.iconst (-1), 1) := by decide +kernel
theorem dX8_addProgramme_30 : decode cX8_addProgramme 30 = .ok (.ireturn, 1) := by decide +kernel
theorem dX8_addProgramme_31 : decode cX8_addProgramme 31 = .ok (.aload_n 0, 1) := by decide +kernel
theorem dX8_addProgramme_32 : decode cX8_addProgramme 32 = .ok (.getfield 12, 3) := by decide +kernel
theorem dX8_addProgramme_35 : decode cX8_addProgramme 35 = .ok (.getfield 48, 3) := by decide +kernel
theorem dX8_addProgramme_38 : decode cX8_addProgramme 38 = .ok (.getfield 52, 3) := by decide +kernel
theorem dX8_addProgramme_41 : decode cX8_addProgramme 41 = .ok (.bipush 16, 2) := by decide +kernel
theorem dX8_addProgramme_43 : decode cX8_addProgramme 43 = .ok (.if_icmp .lt 6, 3) := by decide +kernel
theorem dX8_addProgramme_46 : decode cX8_addProgramme 46 = .ok (.bipush (-3), 2) := by decide +kernel
theorem dX8_addProgramme_48 : decode cX8_addProgramme 48 = .ok (.ireturn, 1) := by decide +kernel
theorem dX8_addProgramme_49 : decode cX8_addProgramme 49 = .ok (.aload_n 0, 1) := by decide +kernel
theorem dX8_addProgramme_50 : decode cX8_addProgramme 50 = .ok (.getfield 19, 3) := by decide +kernel
theorem dX8_addProgramme_53 : decode cX8_addProgramme 53 = .ok (.aload_n 0, 1) := by decide +kernel
theorem dX8_addProgramme_54 : decode cX8_addProgramme 54 = .ok (.getfield 12, 3) := by decide +kernel
theorem dX8_addProgramme_57 : decode cX8_addProgramme 57 = .ok (.invokevirtual 58, 3) := by decide +kernel
theorem dX8_addProgramme_60 : decode cX8_addProgramme 60 = .ok (.aload_n 0, 1) := by decide +kernel
theorem dX8_addProgramme_61 : decode cX8_addProgramme 61 = .ok (.getfield 12, 3) := by decide +kernel
theorem dX8_addProgramme_64 : decode cX8_addProgramme 64 = .ok (.getfield 48, 3) := by decide +kernel
theorem dX8_addProgramme_67 : decode cX8_addProgramme 67 = .ok (.iload_n 1, 1) := by decide +kernel
theorem dX8_addProgramme_68 : decode cX8_addProgramme 68 = .ok (.iload_n 2, 1) := by decide +kernel
theorem dX8_addProgramme_69 : decode cX8_addProgramme 69 = .ok (.iload_n 3, 1) := by decide +kernel
theorem dX8_addProgramme_70 : decode cX8_addProgramme 70 = .ok (.invokevirtual 62, 3) := by decide +kernel
theorem dX8_addProgramme_73 : decode cX8_addProgramme 73 = .ok (.ireturn, 1) := by decide +kernel
theorem dX8_addRight_0 : decode cX8_addRight 0 = .ok (.aload_n 0, 1) := by decide +kernel
theorem dX8_addRight_1 : decode cX8_addRight 1 = .ok (.iload_n 1, 1) := by decide +kernel
theorem dX8_addRight_2 : decode cX8_addRight 2 = .ok (.invokevirtual 66, 3) := by decide +kernel
theorem dX8_addRight_5 : decode cX8_addRight 5 = .ok (.ifCond .eq 25, 3) := by decide +kernel
theorem dX8_addRight_8 : decode cX8_addRight 8 = .ok (.iload_n 2, 1) := by decide +kernel
theorem dX8_addRight_9 : decode cX8_addRight 9 = .ok (.iload_n 3, 1) := by decide +kernel
theorem dX8_addRight_10 : decode cX8_addRight 10 = .ok (.sipush 10080, 3) := by decide +kernel
theorem dX8_addRight_13 : decode cX8_addRight 13 = .ok (.invokestatic 70, 3) := by decide +kernel
theorem dX8_addRight_16 : decode cX8_addRight 16 = .ok (.ifCond .eq 14, 3) := by decide +kernel
theorem dX8_addRight_19 : decode cX8_addRight 19 = .ok (.iload 4, 2) := by decide +kernel
theorem dX8_addRight_21 : decode cX8_addRight 21 = .ok (.iconst 1, 1) := by decide +kernel
theorem dX8_addRight_22 : decode cX8_addRight 22 = .ok (.bipush 50, 2) := by decide +kernel
theorem dX8_addRight_24 : decode cX8_addRight 24 = .ok (.invokestatic 44, 3) := by decide +kernel
theorem dX8_addRight_27 : decode cX8_addRight 27 = .ok (.ifCond .ne 5, 3) := by decide +kernel
theorem dX8_addRight_30 : decode cX8_addRight 30 = .ok (.iconst (-1), 1) := by decide +kernel
theorem dX8_addRight_31 : decode cX8_addRight 31 = .ok (.ireturn, 1) := by decide +kernel
theorem dX8_addRight_32 : decode cX8_addRight 32 = .ok (.aload_n 0, 1) := by decide +kernel
theorem dX8_addRight_33 : decode cX8_addRight 33 = .ok (.getfield 12, 3) := by decide +kernel
theorem dX8_addRight_36 : decode cX8_addRight 36 = .ok (.getfield 73, 3) := by decide +kernel
theorem dX8_addRight_39 : decode cX8_addRight 39 = .ok (.getfield 77, 3) := by decide +kernel
theorem dX8_addRight_42 : decode cX8_addRight 42 = .ok (.bipush 30, 2) := by decide +kernel
theorem dX8_addRight_44 : decode cX8_addRight 44 = .ok (.if_icmp .lt 6, 3) := by decide +kernel
theorem dX8_addRight_47 : decode cX8_addRight 47 = .ok (.bipush (-3), 2) := by decide +kernel
theorem dX8_addRight_49 : decode cX8_addRight 49 = .ok (.ireturn, 1) := by decide +kernel
theorem dX8_addRight_50 : decode cX8_addRight 50 = .ok (.aload_n 0, 1) := by decide +kernel
theorem dX8_addRight_51 : decode cX8_addRight 51 = .ok (.getfield 19, 3) := by decide +kernel
theorem dX8_addRight_54 : decode cX8_addRight 54 = .ok (.aload_n 0, 1) := by decide +kernel
theorem dX8_addRight_55 : decode cX8_addRight 55 = .ok (.getfield 12, 3) := by decide +kernel
theorem dX8_addRight_58 : decode cX8_addRight 58 = .ok (.invokevirtual 58, 3) := by decide +kernel
theorem dX8_addRight_61 : decode cX8_addRight 61 = .ok (.aload_n 0, 1) := by decide +kernel
theorem dX8_addRight_62 : decode cX8_addRight 62 = .ok (.getfield 12, 3) := by decide +kernel
theorem dX8_addRight_65 : decode cX8_addRight 65 = .ok (.getfield 73, 3) := by decide +kernel
theorem dX8_addRight_68 : decode cX8_addRight 68 = .ok (.iload_n 1, 1) := by decide +kernel
theorem dX8_addRight_69 : decode cX8_addRight 69 = .ok (.iload_n 2, 1) := by decide +kernel
theorem dX8_addRight_70 : decode cX8_addRight 70 = .ok (.iload_n 3, 1) := by decide +kernel
theorem dX8_addRight_71 : decode cX8_addRight 71 = .ok (.iload 4, 2) := by decide +kernel
theorem dX8_addRight_73 : decode cX8_addRight 73 = .ok (.invokevirtual 80, 3) := by decide +kernel
theorem dX8_addRight_76 : decode cX8_addRight 76 = .ok (.ireturn, 1) := by decide +kernel
theorem dX8_addBlackout_0 : decode cX8_addBlackout 0 = .ok (.iload_n 1, 1) := by decide +kernel
theorem dX8_addBlackout_1 : decode cX8_addBlackout 1 = .ok (.iload_n 2, 1) := by decide +kernel
theorem dX8_addBlackout_2 : decode cX8_addBlackout 2 = .ok (.sipush 1440, 3) := by decide +kernel
theorem dX8_addBlackout_5 : decode cX8_addBlackout 5 = .ok (.invokestatic 70, 3) := by decide +kernel
theorem dX8_addBlackout_8 : decode cX8_addBlackout 8 = .ok (.ifCond .eq 12, 3) := by decide +kernel
theorem dX8_addBlackout_11 : decode cX8_addBlackout 11 = .ok (.iload_n 3, 1) := by decide +kernel
theorem dX8_addBlackout_12 : decode cX8_addBlackout 12 = .ok (.iconst 0, 1) := by decide +kernel
theorem dX8_addBlackout_13 : decode cX8_addBlackout 13 = .ok (.iconst 3, 1) := by decide +kernel
theorem dX8_addBlackout_14 : decode cX8_addBlackout 14 = .ok (.invokestatic 44, 3) := by decide +kernel
theorem dX8_addBlackout_17 : decode cX8_addBlackout 17 = .ok (.ifCond .ne 5, 3) := by decide +kernel
theorem dX8_addBlackout_20 : decode cX8_addBlackout 20 = .ok (.iconst (-1), 1) := by decide +kernel
theorem dX8_addBlackout_21 : decode cX8_addBlackout 21 = .ok (.ireturn, 1) := by decide +kernel
theorem dX8_addBlackout_22 : decode cX8_addBlackout 22 = .ok (.aload_n 0, 1) := by decide +kernel
theorem dX8_addBlackout_23 : decode cX8_addBlackout 23 = .ok (.getfield 12, 3) := by decide +kernel
theorem dX8_addBlackout_26 : decode cX8_addBlackout 26 = .ok (.getfield 83, 3) := by decide +kernel
theorem dX8_addBlackout_29 : decode cX8_addBlackout 29 = .ok (.getfield 87, 3) := by decide +kernel
theorem dX8_addBlackout_32 : decode cX8_addBlackout 32 = .ok (.bipush 10, 2) := by decide +kernel
theorem dX8_addBlackout_34 : decode cX8_addBlackout 34 = .ok (.if_icmp .lt 6, 3) := by decide +kernel
theorem dX8_addBlackout_37 : decode cX8_addBlackout 37 = .ok (.bipush (-3), 2) := by decide +kernel
theorem dX8_addBlackout_39 : decode cX8_addBlackout 39 = .ok (.ireturn, 1) := by decide +kernel
theorem dX8_addBlackout_40 : decode cX8_addBlackout 40 = .ok (.aload_n 0, 1) := by decide +kernel
theorem dX8_addBlackout_41 : decode cX8_addBlackout 41 = .ok (.getfield 19, 3) := by decide +kernel
theorem dX8_addBlackout_44 : decode cX8_addBlackout 44 = .ok (.aload_n 0, 1) := by decide +kernel
theorem dX8_addBlackout_45 : decode cX8_addBlackout 45 = .ok (.getfield 12, 3) := by decide +kernel
theorem dX8_addBlackout_48 : decode cX8_addBlackout 48 = .ok (.invokevirtual 58, 3) := by decide +kernel
theorem dX8_addBlackout_51 : decode cX8_addBlackout 51 = .ok (.aload_n 0, 1) := by decide +kernel
theorem dX8_addBlackout_52 : decode cX8_addBlackout 52 = .ok (.getfield 12, 3) := by decide +kernel
theorem dX8_addBlackout_55 : decode cX8_addBlackout 55 = .ok (.getfield 83, 3) := by decide +kernel
theorem dX8_addBlackout_58 : decode cX8_addBlackout 58 = .ok (.iload_n 1, 1) := by decide +kernel
theorem dX8_addBlackout_59 : decode cX8_addBlackout 59 = .ok (.iload_n 2, 1) := by decide +kernel
theorem dX8_addBlackout_60 : decode cX8_addBlackout 60 = .ok (.iload_n 3, 1) := by decide +kernel
theorem dX8_addBlackout_61 : decode cX8_addBlackout 61 = .ok (.invokevirtual 90, 3) := by decide +kernel
theorem dX8_addBlackout_64 : decode cX8_addBlackout 64 = .ok (.ireturn, 1) := by decide +kernel
theorem dX8_place_0 : decode cX8_place 0 = .ok (.aload_n 0, 1) := by decide +kernel
theorem dX8_place_1 : decode cX8_place 1 = .ok (.iload_n 1, 1) := by decide +kernel
theorem dX8_place_2 : decode cX8_place 2 = .ok (.iload_n 2, 1) := by decide +kernel
theorem dX8_place_3 : decode cX8_place 3 = .ok (.invokevirtual 91, 3) := by decide +kernel
theorem dX8_place_6 : decode cX8_place 6 = .ok (.istore 4, 2) := by decide +kernel
theorem dX8_place_8 : decode cX8_place 8 = .ok (.iload 4, 2) := by decide +kernel
theorem dX8_place_10 : decode cX8_place 10 = .ok (.ifCond .eq 6, 3) := by decide +kernel
theorem dX8_place_13 : decode cX8_place 13 = .ok (.iload 4, 2) := by decide +kernel
theorem dX8_place_15 : decode cX8_place 15 = .ok (.ireturn, 1) := by decide +kernel
theorem dX8_place_16 : decode cX8_place 16 = .ok (.aload_n 0, 1) := by decide +kernel
theorem dX8_place_17 : decode cX8_place 17 = .ok (.getfield 19, 3) := by decide +kernel
theorem dX8_place_20 : decode cX8_place 20 = .ok (.aload_n 0, 1) := by decide +kernel
theorem dX8_place_21 : decode cX8_place 21 = .ok (.getfield 12, 3) := by decide +kernel
theorem dX8_place_24 : decode cX8_place 24 = .ok (.invokevirtual 58, 3) := by decide +kernel
theorem dX8_place_27 : decode cX8_place 27 = .ok (.aload_n 0, 1) := by decide +kernel
theorem dX8_place_28 : decode cX8_place 28 = .ok (.iload_n 1, 1) := by decide +kernel
theorem dX8_place_29 : decode cX8_place 29 = .ok (.iload_n 2, 1) := by decide +kernel
theorem dX8_place_30 : decode cX8_place 30 = .ok (.iload_n 3, 1) := by decide +kernel
theorem dX8_place_31 : decode cX8_place 31 = .ok (.invokevirtual 95, 3) := by decide +kernel
theorem dX8_place_34 : decode cX8_place 34 = .ok (.ireturn, 1) := by decide +kernel
theorem dX8_remove_0 : decode cX8_remove 0 = .ok (.aload_n 0, 1) := by decide +kernel
theorem dX8_remove_1 : decode cX8_remove 1 = .ok (.iload_n 1, 1) := by decide +kernel
theorem dX8_remove_2 : decode cX8_remove 2 = .ok (.invokevirtual 99, 3) := by decide +kernel
theorem dX8_remove_5 : decode cX8_remove 5 = .ok (.ifCond .ne 5, 3) := by decide +kernel
theorem dX8_remove_8 : decode cX8_remove 8 = .ok (.iconst (-1), 1) := by decide +kernel
theorem dX8_remove_9 : decode cX8_remove 9 = .ok (.ireturn, 1) := by decide +kernel
theorem dX8_remove_10 : decode cX8_remove 10 = .ok (.aload_n 0, 1) := by decide +kernel
theorem dX8_remove_11 : decode cX8_remove 11 = .ok (.getfield 19, 3) := by decide +kernel
theorem dX8_remove_14 : decode cX8_remove 14 = .ok (.aload_n 0, 1) := by decide +kernel
theorem dX8_remove_15 : decode cX8_remove 15 = .ok (.getfield 12, 3) := by decide +kernel
theorem dX8_remove_18 : decode cX8_remove 18 = .ok (.invokevirtual 58, 3) := by decide +kernel
theorem dX8_remove_21 : decode cX8_remove 21 = .ok (.aload_n 0, 1) := by decide +kernel
theorem dX8_remove_22 : decode cX8_remove 22 = .ok (.getfield 12, 3) := by decide +kernel
theorem dX8_remove_25 : decode cX8_remove 25 = .ok (.getfield 102, 3) := by decide +kernel
theorem dX8_remove_28 : decode cX8_remove 28 = .ok (.iload_n 1, 1) := by decide +kernel
theorem dX8_remove_29 : decode cX8_remove 29 = .ok (.invokevirtual 106, 3) := by decide +kernel
theorem dX8_remove_32 : decode cX8_remove 32 = .ok (.aload_n 0, 1) := by decide +kernel
theorem dX8_remove_33 : decode cX8_remove 33 = .ok (.getfield 12, 3) := by decide +kernel
theorem dX8_remove_36 : decode cX8_remove 36 = .ok (.getfield 102, 3) := by decide +kernel
theorem dX8_remove_39 : decode cX8_remove 39 = .ok (.getfield 112, 3) := by decide +kernel
theorem dX8_remove_42 : decode cX8_remove 42 = .ok (.ireturn, 1) := by decide +kernel
theorem dX8_earliest_0 : decode cX8_earliest 0 = .ok (.aload_n 0, 1) := by decide +kernel
theorem dX8_earliest_1 : decode cX8_earliest 1 = .ok (.iload_n 1, 1) := by decide +kernel
theorem dX8_earliest_2 : decode cX8_earliest 2 = .ok (.invokevirtual 66, 3) := by decide +kernel
theorem dX8_earliest_5 : decode cX8_earliest 5 = .ok (.ifCond .eq 10, 3) := by decide +kernel
theorem dX8_earliest_8 : decode cX8_earliest 8 = .ok (.iload_n 2, 1) := by decide +kernel
theorem dX8_earliest_9 : decode cX8_earliest 9 = .ok (.invokestatic 113, 3) := by decide +kernel
theorem dX8_earliest_12 : decode cX8_earliest 12 = .ok (.ifCond .ne 5, 3) := by decide +kernel
theorem dX8_earliest_15 : decode cX8_earliest 15 = .ok (.iconst (-1), 1) := by decide +kernel
theorem dX8_earliest_16 : decode cX8_earliest 16 = .ok (.ireturn, 1) := by decide +kernel
theorem dX8_earliest_17 : decode cX8_earliest 17 = .ok (.aload_n 0, 1) := by decide +kernel
theorem dX8_earliest_18 : decode cX8_earliest 18 = .ok (.iload_n 1, 1) := by decide +kernel
theorem dX8_earliest_19 : decode cX8_earliest 19 = .ok (.iload_n 2, 1) := by decide +kernel
theorem dX8_earliest_20 : decode cX8_earliest 20 = .ok (.invokevirtual 116, 3) := by decide +kernel
theorem dX8_earliest_23 : decode cX8_earliest 23 = .ok (.ireturn, 1) := by decide +kernel
theorem dX8_fill_0 : decode cX8_fill 0 = .ok (.iload_n 1, 1) := by decide +kernel
theorem dX8_fill_1 : decode cX8_fill 1 = .ok (.iload_n 2, 1) := by decide +kernel
theorem dX8_fill_2 : decode cX8_fill 2 = .ok (.sipush 10080, 3) := by decide +kernel
theorem dX8_fill_5 : decode cX8_fill 5 = .ok (.invokestatic 70, 3) := by decide +kernel
theorem dX8_fill_8 : decode cX8_fill 8 = .ok (.ifCond .eq 12, 3) := by decide +kernel
theorem dX8_fill_11 : decode cX8_fill 11 = .ok (.iload_n 2, 1) := by decide +kernel
theorem dX8_fill_12 : decode cX8_fill 12 = .ok (.iload_n 1, 1) := by decide +kernel
theorem dX8_fill_13 : decode cX8_fill 13 = .ok (.isub, 1) := by decide +kernel
theorem dX8_fill_14 : decode cX8_fill 14 = .ok (.sipush 240, 3) := by decide +kernel
theorem dX8_fill_17 : decode cX8_fill 17 = .ok (.if_icmp .le 5, 3) := by decide +kernel
theorem dX8_fill_20 : decode cX8_fill 20 = .ok (.iconst (-1), 1) := by decide +kernel
theorem dX8_fill_21 : decode cX8_fill 21 = .ok (.ireturn, 1) := by decide +kernel
theorem dX8_fill_22 : decode cX8_fill 22 = .ok (.aload_n 0, 1) := by decide +kernel
theorem dX8_fill_23 : decode cX8_fill 23 = .ok (.getfield 12, 3) := by decide +kernel
theorem dX8_fill_26 : decode cX8_fill 26 = .ok (.getfield 102, 3) := by decide +kernel
theorem dX8_fill_29 : decode cX8_fill 29 = .ok (.iload_n 1, 1) := by decide +kernel
theorem dX8_fill_30 : decode cX8_fill 30 = .ok (.iload_n 2, 1) := by decide +kernel
theorem dX8_fill_31 : decode cX8_fill 31 = .ok (.invokevirtual 119, 3) := by decide +kernel
theorem dX8_fill_34 : decode cX8_fill 34 = .ok (.bipush (-9), 2) := by decide +kernel
theorem dX8_fill_36 : decode cX8_fill 36 = .ok (.if_icmp .eq 6, 3) := by decide +kernel
theorem dX8_fill_39 : decode cX8_fill 39 = .ok (.bipush (-4), 2) := by decide +kernel
theorem dX8_fill_41 : decode cX8_fill 41 = .ok (.ireturn, 1) := by decide +kernel
theorem dX8_fill_42 : decode cX8_fill 42 = .ok (.aload_n 0, 1) := by decide +kernel
theorem dX8_fill_43 : decode cX8_fill 43 = .ok (.getfield 33, 3) := by decide +kernel
theorem dX8_fill_46 : decode cX8_fill 46 = .ok (.aload_n 0, 1) := by decide +kernel
theorem dX8_fill_47 : decode cX8_fill 47 = .ok (.getfield 12, 3) := by decide +kernel
theorem dX8_fill_50 : decode cX8_fill 50 = .ok (.iload_n 1, 1) := by decide +kernel
theorem dX8_fill_51 : decode cX8_fill 51 = .ok (.iload_n 2, 1) := by decide +kernel
theorem dX8_fill_52 : decode cX8_fill 52 = .ok (.invokevirtual 122, 3) := by decide +kernel
theorem dX8_fill_55 : decode cX8_fill 55 = .ok (.istore_n 3, 1) := by decide +kernel
theorem dX8_fill_56 : decode cX8_fill 56 = .ok (.iload_n 3, 1) := by decide +kernel
theorem dX8_fill_57 : decode cX8_fill 57 = .ok (.bipush (-9), 2) := by decide +kernel
theorem dX8_fill_59 : decode cX8_fill 59 = .ok (.if_icmp .ne 6, 3) := by decide +kernel
theorem dX8_fill_62 : decode cX8_fill 62 = .ok (.bipush (-9), 2) := by decide +kernel
theorem dX8_fill_64 : decode cX8_fill 64 = .ok (.ireturn, 1) := by decide +kernel
theorem dX8_fill_65 : decode cX8_fill 65 = .ok (.aload_n 0, 1) := by decide +kernel
theorem dX8_fill_66 : decode cX8_fill 66 = .ok (.getfield 12, 3) := by decide +kernel
theorem dX8_fill_69 : decode cX8_fill 69 = .ok (.getfield 102, 3) := by decide +kernel
theorem dX8_fill_72 : decode cX8_fill 72 = .ok (.getfield 112, 3) := by decide +kernel
theorem dX8_fill_75 : decode cX8_fill 75 = .ok (.iload_n 3, 1) := by decide +kernel
theorem dX8_fill_76 : decode cX8_fill 76 = .ok (.iadd, 1) := by decide +kernel
theorem dX8_fill_77 : decode cX8_fill 77 = .ok (.bipush 60, 2) := by decide +kernel
theorem dX8_fill_79 : decode cX8_fill 79 = .ok (.if_icmp .le 6, 3) := by decide +kernel
theorem dX8_fill_82 : decode cX8_fill 82 = .ok (.bipush (-3), 2) := by decide +kernel
theorem dX8_fill_84 : decode cX8_fill 84 = .ok (.ireturn, 1) := by decide +kernel
theorem dX8_fill_85 : decode cX8_fill 85 = .ok (.aload_n 0, 1) := by decide +kernel
theorem dX8_fill_86 : decode cX8_fill 86 = .ok (.getfield 19, 3) := by decide +kernel
theorem dX8_fill_89 : decode cX8_fill 89 = .ok (.aload_n 0, 1) := by decide +kernel
theorem dX8_fill_90 : decode cX8_fill 90 = .ok (.getfield 12, 3) := by decide +kernel
theorem dX8_fill_93 : decode cX8_fill 93 = .ok (.invokevirtual 58, 3) := by decide +kernel
theorem dX8_fill_96 : decode cX8_fill 96 = .ok (.iload_n 1, 1) := by decide +kernel
theorem dX8_fill_97 : decode cX8_fill 97 = .ok (.istore 4, 2) := by decide +kernel
theorem dX8_fill_99 : decode cX8_fill 99 = .ok (.iconst 0, 1) := by decide +kernel
theorem dX8_fill_100 : decode cX8_fill 100 = .ok (.istore 5, 2) := by decide +kernel
theorem dX8_fill_102 : decode cX8_fill 102 = .ok (.iload 5, 2) := by decide +kernel
theorem dX8_fill_104 : decode cX8_fill 104 = .ok (.iload_n 3, 1) := by decide +kernel
theorem dX8_fill_105 : decode cX8_fill 105 = .ok (.if_icmp .ge 49, 3) := by decide +kernel
theorem dX8_fill_108 : decode cX8_fill 108 = .ok (.aload_n 0, 1) := by decide +kernel
theorem dX8_fill_109 : decode cX8_fill 109 = .ok (.getfield 33, 3) := by decide +kernel
theorem dX8_fill_112 : decode cX8_fill 112 = .ok (.getfield 126, 3) := by decide +kernel
theorem dX8_fill_115 : decode cX8_fill 115 = .ok (.iload 5, 2) := by decide +kernel
theorem dX8_fill_117 : decode cX8_fill 117 = .ok (.iaload, 1) := by decide +kernel
theorem dX8_fill_118 : decode cX8_fill 118 = .ok (.istore 6, 2) := by decide +kernel
theorem dX8_fill_120 : decode cX8_fill 120 = .ok (.aload_n 0, 1) := by decide +kernel
theorem dX8_fill_121 : decode cX8_fill 121 = .ok (.iload 6, 2) := by decide +kernel
theorem dX8_fill_123 : decode cX8_fill 123 = .ok (.iload 4, 2) := by decide +kernel
theorem dX8_fill_125 : decode cX8_fill 125 = .ok (.iconst 0, 1) := by decide +kernel
theorem dX8_fill_126 : decode cX8_fill 126 = .ok (.invokevirtual 95, 3) := by decide +kernel
theorem dX8_fill_129 : decode cX8_fill 129 = .ok (.pop, 1) := by decide +kernel
theorem dX8_fill_130 : decode cX8_fill 130 = .ok (.iload 4, 2) := by decide +kernel
theorem dX8_fill_132 : decode cX8_fill 132 = .ok (.aload_n 0, 1) := by decide +kernel
theorem dX8_fill_133 : decode cX8_fill 133 = .ok (.getfield 12, 3) := by decide +kernel
theorem dX8_fill_136 : decode cX8_fill 136 = .ok (.getfield 48, 3) := by decide +kernel
theorem dX8_fill_139 : decode cX8_fill 139 = .ok (.getfield 130, 3) := by decide +kernel
theorem dX8_fill_142 : decode cX8_fill 142 = .ok (.iload 6, 2) := by decide +kernel
theorem dX8_fill_144 : decode cX8_fill 144 = .ok (.iaload, 1) := by decide +kernel
theorem dX8_fill_145 : decode cX8_fill 145 = .ok (.iadd, 1) := by decide +kernel
theorem dX8_fill_146 : decode cX8_fill 146 = .ok (.istore 4, 2) := by decide +kernel
theorem dX8_fill_148 : decode cX8_fill 148 = .ok (.iinc 5 1, 3) := by decide +kernel
theorem dX8_fill_151 : decode cX8_fill 151 = .ok (.goto (-49), 3) := by decide +kernel
theorem dX8_fill_154 : decode cX8_fill 154 = .ok (.iload_n 3, 1) := by decide +kernel
theorem dX8_fill_155 : decode cX8_fill 155 = .ok (.ireturn, 1) := by decide +kernel
theorem dX8_runOver_0 : decode cX8_runOver 0 = .ok (.aload_n 0, 1) := by decide +kernel
theorem dX8_runOver_1 : decode cX8_runOver 1 = .ok (.iload_n 1, 1) := by decide +kernel
theorem dX8_runOver_2 : decode cX8_runOver 2 = .ok (.invokevirtual 99, 3) := by decide +kernel
theorem dX8_runOver_5 : decode cX8_runOver 5 = .ok (.ifCond .eq 13, 3) := by decide +kernel
theorem dX8_runOver_8 : decode cX8_runOver 8 = .ok (.iload_n 2, 1) := by decide +kernel
theorem dX8_runOver_9 : decode cX8_runOver 9 = .ok (.iconst 1, 1) := by decide +kernel
theorem dX8_runOver_10 : decode cX8_runOver 10 = .ok (.bipush 120, 2) := by decide +kernel
theorem dX8_runOver_12 : decode cX8_runOver 12 = .ok (.invokestatic 44, 3) := by decide +kernel
theorem dX8_runOver_15 : decode cX8_runOver 15 = .ok (.ifCond .ne 5, 3) := by decide +kernel
theorem dX8_runOver_18 : decode cX8_runOver 18 = .ok (.iconst (-1), 1) := by decide +kernel
theorem dX8_runOver_19 : decode cX8_runOver 19 = .ok (.ireturn, 1) := by decide +kernel
theorem dX8_runOver_20 : decode cX8_runOver 20 = .ok (.aload_n 0, 1) := by decide +kernel
theorem dX8_runOver_21 : decode cX8_runOver 21 = .ok (.iload_n 1, 1) := by decide +kernel
theorem dX8_runOver_22 : decode cX8_runOver 22 = .ok (.invokevirtual 133, 3) := by decide +kernel
theorem dX8_runOver_25 : decode cX8_runOver 25 = .ok (.iconst 1, 1) := by decide +kernel
theorem dX8_runOver_26 : decode cX8_runOver 26 = .ok (.if_icmp .eq 6, 3) := by decide +kernel
theorem dX8_runOver_29 : decode cX8_runOver 29 = .ok (.bipush (-2), 2) := by decide +kernel
theorem dX8_runOver_31 : decode cX8_runOver 31 = .ok (.ireturn, 1) := by decide +kernel
theorem dX8_runOver_32 : decode cX8_runOver 32 = .ok (.aload_n 0, 1) := by decide +kernel
theorem dX8_runOver_33 : decode cX8_runOver 33 = .ok (.getfield 12, 3) := by decide +kernel
theorem dX8_runOver_36 : decode cX8_runOver 36 = .ok (.getfield 102, 3) := by decide +kernel
theorem dX8_runOver_39 : decode cX8_runOver 39 = .ok (.iload_n 1, 1) := by decide +kernel
theorem dX8_runOver_40 : decode cX8_runOver 40 = .ok (.invokevirtual 137, 3) := by decide +kernel
theorem dX8_runOver_43 : decode cX8_runOver 43 = .ok (.iload_n 2, 1) := by decide +kernel
theorem dX8_runOver_44 : decode cX8_runOver 44 = .ok (.iadd, 1) := by decide +kernel
theorem dX8_runOver_45 : decode cX8_runOver 45 = .ok (.sipush 10080, 3) := by decide +kernel
theorem dX8_runOver_48 : decode cX8_runOver 48 = .ok (.if_icmp .le 6, 3) := by decide +kernel
theorem dX8_runOver_51 : decode cX8_runOver 51 = .ok (.bipush (-4), 2) := by decide +kernel
theorem dX8_runOver_53 : decode cX8_runOver 53 = .ok (.ireturn, 1) := by decide +kernel
theorem dX8_runOver_54 : decode cX8_runOver 54 = .ok (.aload_n 0, 1) := by decide +kernel
theorem dX8_runOver_55 : decode cX8_runOver 55 = .ok (.getfield 19, 3) := by decide +kernel
theorem dX8_runOver_58 : decode cX8_runOver 58 = .ok (.aload_n 0, 1) := by decide +kernel
theorem dX8_runOver_59 : decode cX8_runOver 59 = .ok (.getfield 12, 3) := by decide +kernel
theorem dX8_runOver_62 : decode cX8_runOver 62 = .ok (.invokevirtual 58, 3) := by decide +kernel
theorem dX8_runOver_65 : decode cX8_runOver 65 = .ok (.aload_n 0, 1) := by decide +kernel
theorem dX8_runOver_66 : decode cX8_runOver 66 = .ok (.getfield 12, 3) := by decide +kernel
theorem dX8_runOver_69 : decode cX8_runOver 69 = .ok (.getfield 102, 3) := by decide +kernel
theorem dX8_runOver_72 : decode cX8_runOver 72 = .ok (.getfield 140, 3) := by decide +kernel
theorem dX8_runOver_75 : decode cX8_runOver 75 = .ok (.iload_n 1, 1) := by decide +kernel
theorem dX8_runOver_76 : decode cX8_runOver 76 = .ok (.dup2, 1) := by decide +kernel
theorem dX8_runOver_77 : decode cX8_runOver 77 = .ok (.iaload, 1) := by decide +kernel
theorem dX8_runOver_78 : decode cX8_runOver 78 = .ok (.iload_n 2, 1) := by decide +kernel
theorem dX8_runOver_79 : decode cX8_runOver 79 = .ok (.iadd, 1) := by decide +kernel
theorem dX8_runOver_80 : decode cX8_runOver 80 = .ok (.iastore, 1) := by decide +kernel
theorem dX8_runOver_81 : decode cX8_runOver 81 = .ok (.aload_n 0, 1) := by decide +kernel
theorem dX8_runOver_82 : decode cX8_runOver 82 = .ok (.iload_n 1, 1) := by decide +kernel
theorem dX8_runOver_83 : decode cX8_runOver 83 = .ok (.invokevirtual 141, 3) := by decide +kernel
theorem dX8_runOver_86 : decode cX8_runOver 86 = .ok (.ireturn, 1) := by decide +kernel
theorem dX8_makeGood_0 : decode cX8_makeGood 0 = .ok (.aload_n 0, 1) := by decide +kernel
theorem dX8_makeGood_1 : decode cX8_makeGood 1 = .ok (.iload_n 1, 1) := by decide +kernel
