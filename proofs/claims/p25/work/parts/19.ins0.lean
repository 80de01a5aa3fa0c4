theorem I0_0 : decode (zB 0) 0 = .ok (.aload_n 0, 1) := dX0_init_0
theorem I0_1 : decode (zB 0) 1 = .ok (.invokespecial 3, 3) := dX0_init_1
theorem I0_4 : decode (zB 0) 4 = .ok (.aload_n 0, 1) := dX0_init_4
theorem I0_5 : decode (zB 0) 5 = .ok (.bipush 10, 2) := dX0_init_5
theorem I0_7 : decode (zB 0) 7 = .ok (.newarray .int, 2) := dX0_init_7
theorem I0_9 : decode (zB 0) 9 = .ok (.putfield 9, 3) := dX0_init_9
theorem I0_12 : decode (zB 0) 12 = .ok (.aload_n 0, 1) := dX0_init_12
theorem I0_13 : decode (zB 0) 13 = .ok (.bipush 10, 2) := dX0_init_13
theorem I0_15 : decode (zB 0) 15 = .ok (.newarray .int, 2) := dX0_init_15
theorem I0_17 : decode (zB 0) 17 = .ok (.putfield 15, 3) := dX0_init_17
theorem I0_20 : decode (zB 0) 20 = .ok (.aload_n 0, 1) := dX0_init_20
theorem I0_21 : decode (zB 0) 21 = .ok (.bipush 10, 2) := dX0_init_21
theorem I0_23 : decode (zB 0) 23 = .ok (.newarray .int, 2) := dX0_init_23
theorem I0_25 : decode (zB 0) 25 = .ok (.putfield 18, 3) := dX0_init_25
theorem I0_28 : decode (zB 0) 28 = .ok (.return_, 1) := dX0_init_28
theorem I1_0 : decode (zB 1) 0 = .ok (.aload_n 0, 1) := dX0_append_0
theorem I1_1 : decode (zB 1) 1 = .ok (.getfield 9, 3) := dX0_append_1
theorem I1_4 : decode (zB 1) 4 = .ok (.aload_n 0, 1) := dX0_append_4
theorem I1_5 : decode (zB 1) 5 = .ok (.getfield 21, 3) := dX0_append_5
theorem I1_8 : decode (zB 1) 8 = .ok (.iload_n 1, 1) := dX0_append_8
theorem I1_9 : decode (zB 1) 9 = .ok (.iastore, 1) := dX0_append_9
theorem I1_10 : decode (zB 1) 10 = .ok (.aload_n 0, 1) := dX0_append_10
theorem I1_11 : decode (zB 1) 11 = .ok (.getfield 15, 3) := dX0_append_11
theorem I1_14 : decode (zB 1) 14 = .ok (.aload_n 0, 1) := dX0_append_14
theorem I1_15 : decode (zB 1) 15 = .ok (.getfield 21, 3) := dX0_append_15
theorem I1_18 : decode (zB 1) 18 = .ok (.iload_n 2, 1) := dX0_append_18
theorem I1_19 : decode (zB 1) 19 = .ok (.iastore, 1) := dX0_append_19
theorem I1_20 : decode (zB 1) 20 = .ok (.aload_n 0, 1) := dX0_append_20
theorem I1_21 : decode (zB 1) 21 = .ok (.getfield 18, 3) := dX0_append_21
theorem I1_24 : decode (zB 1) 24 = .ok (.aload_n 0, 1) := dX0_append_24
theorem I1_25 : decode (zB 1) 25 = .ok (.getfield 21, 3) := dX0_append_25
theorem I1_28 : decode (zB 1) 28 = .ok (.iload_n 3, 1) := dX0_append_28
theorem I1_29 : decode (zB 1) 29 = .ok (.iastore, 1) := dX0_append_29
theorem I1_30 : decode (zB 1) 30 = .ok (.aload_n 0, 1) := dX0_append_30
theorem I1_31 : decode (zB 1) 31 = .ok (.dup, 1) := dX0_append_31
theorem I1_32 : decode (zB 1) 32 = .ok (.getfield 21, 3) := dX0_append_32
theorem I1_35 : decode (zB 1) 35 = .ok (.dup_x1, 1) := dX0_append_35
theorem I1_36 : decode (zB 1) 36 = .ok (.iconst 1, 1) := dX0_append_36
theorem I1_37 : decode (zB 1) 37 = .ok (.iadd, 1) := dX0_append_37
theorem I1_38 : decode (zB 1) 38 = .ok (.putfield 21, 3) := dX0_append_38
theorem I1_41 : decode (zB 1) 41 = .ok (.ireturn, 1) := dX0_append_41
theorem I2_0 : decode (zB 2) 0 = .ok (.iconst 0, 1) := dX0_darkUntil_0
theorem I2_1 : decode (zB 2) 1 = .ok (.istore 4, 2) := dX0_darkUntil_1
theorem I2_3 : decode (zB 2) 3 = .ok (.iload 4, 2) := dX0_darkUntil_3
theorem I2_5 : decode (zB 2) 5 = .ok (.aload_n 0, 1) := dX0_darkUntil_5
theorem I2_6 : decode (zB 2) 6 = .ok (.getfield 21, 3) := dX0_darkUntil_6
theorem I2_9 : decode (zB 2) 9 = .ok (.if_icmp .ge 86, 3) := dX0_darkUntil_9
theorem I2_12 : decode (zB 2) 12 = .ok (.iload_n 1, 1) := dX0_darkUntil_12
theorem I2_13 : decode (zB 2) 13 = .ok (.aload_n 0, 1) := dX0_darkUntil_13
theorem I2_14 : decode (zB 2) 14 = .ok (.getfield 18, 3) := dX0_darkUntil_14
theorem I2_17 : decode (zB 2) 17 = .ok (.iload 4, 2) := dX0_darkUntil_17
theorem I2_19 : decode (zB 2) 19 = .ok (.iaload, 1) := dX0_darkUntil_19
theorem I2_20 : decode (zB 2) 20 = .ok (.if_icmp .ge 6, 3) := dX0_darkUntil_20
theorem I2_23 : decode (zB 2) 23 = .ok (.goto 66, 3) := dX0_darkUntil_23
theorem I2_26 : decode (zB 2) 26 = .ok (.iload_n 2, 1) := dX0_darkUntil_26
theorem I2_27 : decode (zB 2) 27 = .ok (.iload_n 2, 1) := dX0_darkUntil_27
theorem I2_28 : decode (zB 2) 28 = .ok (.sipush 1440, 3) := dX0_darkUntil_28
theorem I2_31 : decode (zB 2) 31 = .ok (.irem, 1) := dX0_darkUntil_31
theorem I2_32 : decode (zB 2) 32 = .ok (.isub, 1) := dX0_darkUntil_32
theorem I2_33 : decode (zB 2) 33 = .ok (.istore 5, 2) := dX0_darkUntil_33
theorem I2_35 : decode (zB 2) 35 = .ok (.iload 5, 2) := dX0_darkUntil_35
theorem I2_37 : decode (zB 2) 37 = .ok (.iload_n 3, 1) := dX0_darkUntil_37
theorem I2_38 : decode (zB 2) 38 = .ok (.if_icmp .ge 51, 3) := dX0_darkUntil_38
theorem I2_41 : decode (zB 2) 41 = .ok (.iload_n 2, 1) := dX0_darkUntil_41
theorem I2_42 : decode (zB 2) 42 = .ok (.iload 5, 2) := dX0_darkUntil_42
theorem I2_44 : decode (zB 2) 44 = .ok (.aload_n 0, 1) := dX0_darkUntil_44
theorem I2_45 : decode (zB 2) 45 = .ok (.getfield 15, 3) := dX0_darkUntil_45
theorem I2_48 : decode (zB 2) 48 = .ok (.iload 4, 2) := dX0_darkUntil_48
theorem I2_50 : decode (zB 2) 50 = .ok (.iaload, 1) := dX0_darkUntil_50
theorem I2_51 : decode (zB 2) 51 = .ok (.iadd, 1) := dX0_darkUntil_51
theorem I2_52 : decode (zB 2) 52 = .ok (.if_icmp .ge 28, 3) := dX0_darkUntil_52
theorem I2_55 : decode (zB 2) 55 = .ok (.iload 5, 2) := dX0_darkUntil_55
theorem I2_57 : decode (zB 2) 57 = .ok (.aload_n 0, 1) := dX0_darkUntil_57
theorem I2_58 : decode (zB 2) 58 = .ok (.getfield 9, 3) := dX0_darkUntil_58
theorem I2_61 : decode (zB 2) 61 = .ok (.iload 4, 2) := dX0_darkUntil_61
theorem I2_63 : decode (zB 2) 63 = .ok (.iaload, 1) := dX0_darkUntil_63
theorem I2_64 : decode (zB 2) 64 = .ok (.iadd, 1) := dX0_darkUntil_64
theorem I2_65 : decode (zB 2) 65 = .ok (.iload_n 3, 1) := dX0_darkUntil_65
theorem I2_66 : decode (zB 2) 66 = .ok (.if_icmp .ge 14, 3) := dX0_darkUntil_66
theorem I2_69 : decode (zB 2) 69 = .ok (.iload 5, 2) := dX0_darkUntil_69
theorem I2_71 : decode (zB 2) 71 = .ok (.aload_n 0, 1) := dX0_darkUntil_71
theorem I2_72 : decode (zB 2) 72 = .ok (.getfield 15, 3) := dX0_darkUntil_72
theorem I2_75 : decode (zB 2) 75 = .ok (.iload 4, 2) := dX0_darkUntil_75
theorem I2_77 : decode (zB 2) 77 = .ok (.iaload, 1) := dX0_darkUntil_77
theorem I2_78 : decode (zB 2) 78 = .ok (.iadd, 1) := dX0_darkUntil_78
theorem I2_79 : decode (zB 2) 79 = .ok (.ireturn, 1) := dX0_darkUntil_79
theorem I2_80 : decode (zB 2) 80 = .ok (.iinc 5 1440, 6) := dX0_darkUntil_80
theorem I2_86 : decode (zB 2) 86 = .ok (.goto (-51), 3) := dX0_darkUntil_86
theorem I2_89 : decode (zB 2) 89 = .ok (.iinc 4 1, 3) := dX0_darkUntil_89
theorem I2_92 : decode (zB 2) 92 = .ok (.goto (-89), 3) := dX0_darkUntil_92
theorem I2_95 : decode (zB 2) 95 = .ok (.bipush (-9), 2) := dX0_darkUntil_95
theorem I2_97 : decode (zB 2) 97 = .ok (.ireturn, 1) := dX0_darkUntil_97
theorem I3_0 : decode (zB 3) 0 = .ok (.aload_n 0, 1) := dX0_copyFrom_0
theorem I3_1 : decode (zB 3) 1 = .ok (.aload_n 1, 1) := dX0_copyFrom_1
theorem I3_2 : decode (zB 3) 2 = .ok (.getfield 21, 3) := dX0_copyFrom_2
theorem I3_5 : decode (zB 3) 5 = .ok (.putfield 21, 3) := dX0_copyFrom_5
theorem I3_8 : decode (zB 3) 8 = .ok (.aload_n 1, 1) := dX0_copyFrom_8
theorem I3_9 : decode (zB 3) 9 = .ok (.getfield 9, 3) := dX0_copyFrom_9
theorem I3_12 : decode (zB 3) 12 = .ok (.iconst 0, 1) := dX0_copyFrom_12
theorem I3_13 : decode (zB 3) 13 = .ok (.aload_n 0, 1) := dX0_copyFrom_13
theorem I3_14 : decode (zB 3) 14 = .ok (.getfield 9, 3) := dX0_copyFrom_14
theorem I3_17 : decode (zB 3) 17 = .ok (.iconst 0, 1) := dX0_copyFrom_17
theorem I3_18 : decode (zB 3) 18 = .ok (.aload_n 0, 1) := dX0_copyFrom_18
theorem I3_19 : decode (zB 3) 19 = .ok (.getfield 21, 3) := dX0_copyFrom_19
theorem I3_22 : decode (zB 3) 22 = .ok (.invokestatic 25, 3) := dX0_copyFrom_22
theorem I3_25 : decode (zB 3) 25 = .ok (.aload_n 1, 1) := dX0_copyFrom_25
theorem I3_26 : decode (zB 3) 26 = .ok (.getfield 15, 3) := dX0_copyFrom_26
theorem I3_29 : decode (zB 3) 29 = .ok (.iconst 0, 1) := dX0_copyFrom_29
theorem I3_30 : decode (zB 3) 30 = .ok (.aload_n 0, 1) := dX0_copyFrom_30
theorem I3_31 : decode (zB 3) 31 = .ok (.getfield 15, 3) := dX0_copyFrom_31
theorem I3_34 : decode (zB 3) 34 = .ok (.iconst 0, 1) := dX0_copyFrom_34
theorem I3_35 : decode (zB 3) 35 = .ok (.aload_n 0, 1) := dX0_copyFrom_35
theorem I3_36 : decode (zB 3) 36 = .ok (.getfield 21, 3) := dX0_copyFrom_36
theorem I3_39 : decode (zB 3) 39 = .ok (.invokestatic 25, 3) := dX0_copyFrom_39
theorem I3_42 : decode (zB 3) 42 = .ok (.aload_n 1, 1) := dX0_copyFrom_42
theorem I3_43 : decode (zB 3) 43 = .ok (.getfield 18, 3) := dX0_copyFrom_43
theorem I3_46 : decode (zB 3) 46 = .ok (.iconst 0, 1) := dX0_copyFrom_46
theorem I3_47 : decode (zB 3) 47 = .ok (.aload_n 0, 1) := dX0_copyFrom_47
theorem I3_48 : decode (zB 3) 48 = .ok (.getfield 18, 3) := dX0_copyFrom_48
theorem I3_51 : decode (zB 3) 51 = .ok (.iconst 0, 1) := dX0_copyFrom_51
theorem I3_52 : decode (zB 3) 52 = .ok (.aload_n 0, 1) := dX0_copyFrom_52
theorem I3_53 : decode (zB 3) 53 = .ok (.getfield 21, 3) := dX0_copyFrom_53
theorem I3_56 : decode (zB 3) 56 = .ok (.invokestatic 25, 3) := dX0_copyFrom_56
theorem I3_59 : decode (zB 3) 59 = .ok (.return_, 1) := dX0_copyFrom_59
theorem I4_0 : decode (zB 4) 0 = .ok (.aload_n 0, 1) := dX1_init_0
theorem I4_1 : decode (zB 4) 1 = .ok (.invokespecial 3, 3) := dX1_init_1
theorem I4_4 : decode (zB 4) 4 = .ok (.aload_n 0, 1) := dX1_init_4
theorem I4_5 : decode (zB 4) 5 = .ok (.sipush 240, 3) := dX1_init_5
theorem I4_8 : decode (zB 4) 8 = .ok (.newarray .int, 2) := dX1_init_8
theorem I4_10 : decode (zB 4) 10 = .ok (.putfield 9, 3) := dX1_init_10
theorem I4_13 : decode (zB 4) 13 = .ok (.aload_n 0, 1) := dX1_init_13
theorem I4_14 : decode (zB 4) 14 = .ok (.sipush 240, 3) := dX1_init_14
theorem I4_17 : decode (zB 4) 17 = .ok (.newarray .int, 2) := dX1_init_17
theorem I4_19 : decode (zB 4) 19 = .ok (.putfield 15, 3) := dX1_init_19
theorem I4_22 : decode (zB 4) 22 = .ok (.aload_n 0, 1) := dX1_init_22
theorem I4_23 : decode (zB 4) 23 = .ok (.sipush 240, 3) := dX1_init_23
theorem I4_26 : decode (zB 4) 26 = .ok (.newarray .int, 2) := dX1_init_26
theorem I4_28 : decode (zB 4) 28 = .ok (.putfield 18, 3) := dX1_init_28
theorem I4_31 : decode (zB 4) 31 = .ok (.aload_n 0, 1) := dX1_init_31
theorem I4_32 : decode (zB 4) 32 = .ok (.sipush 240, 3) := dX1_init_32
theorem I4_35 : decode (zB 4) 35 = .ok (.newarray .int, 2) := dX1_init_35
theorem I4_37 : decode (zB 4) 37 = .ok (.putfield 21, 3) := dX1_init_37
theorem I4_40 : decode (zB 4) 40 = .ok (.aload_n 0, 1) := dX1_init_40
theorem I4_41 : decode (zB 4) 41 = .ok (.sipush 240, 3) := dX1_init_41
theorem I4_44 : decode (zB 4) 44 = .ok (.newarray .int, 2) := dX1_init_44
theorem I4_46 : decode (zB 4) 46 = .ok (.putfield 24, 3) := dX1_init_46
theorem I4_49 : decode (zB 4) 49 = .ok (.return_, 1) := dX1_init_49
theorem I5_0 : decode (zB 5) 0 = .ok (.aload_n 0, 1) := dX1_find_0
theorem I5_1 : decode (zB 5) 1 = .ok (.iload_n 2, 1) := dX1_find_1
theorem I5_2 : decode (zB 5) 2 = .ok (.putfield 27, 3) := dX1_find_2
theorem I5_5 : decode (zB 5) 5 = .ok (.aload_n 0, 1) := dX1_find_5
theorem I5_6 : decode (zB 5) 6 = .ok (.iload_n 3, 1) := dX1_find_6
theorem I5_7 : decode (zB 5) 7 = .ok (.iload_n 2, 1) := dX1_find_7
theorem I5_8 : decode (zB 5) 8 = .ok (.isub, 1) := dX1_find_8
theorem I5_9 : decode (zB 5) 9 = .ok (.sipush 240, 3) := dX1_find_9
theorem I5_12 : decode (zB 5) 12 = .ok (.invokestatic 31, 3) := dX1_find_12
theorem I5_15 : decode (zB 5) 15 = .ok (.putfield 37, 3) := dX1_find_15
theorem I5_18 : decode (zB 5) 18 = .ok (.aload_n 0, 1) := dX1_find_18
theorem I5_19 : decode (zB 5) 19 = .ok (.aload_n 1, 1) := dX1_find_19
theorem I5_20 : decode (zB 5) 20 = .ok (.aload_n 1, 1) := dX1_find_20
theorem I5_21 : decode (zB 5) 21 = .ok (.getfield 40, 3) := dX1_find_21
theorem I5_24 : decode (zB 5) 24 = .ok (.iload_n 3, 1) := dX1_find_24
theorem I5_25 : decode (zB 5) 25 = .ok (.invokevirtual 46, 3) := dX1_find_25
theorem I5_28 : decode (zB 5) 28 = .ok (.invokestatic 52, 3) := dX1_find_28
theorem I5_31 : decode (zB 5) 31 = .ok (.putfield 56, 3) := dX1_find_31
theorem I5_34 : decode (zB 5) 34 = .ok (.aload_n 0, 1) := dX1_find_34
theorem I5_35 : decode (zB 5) 35 = .ok (.getfield 37, 3) := dX1_find_35
theorem I5_38 : decode (zB 5) 38 = .ok (.iconst 1, 1) := dX1_find_38
theorem I5_39 : decode (zB 5) 39 = .ok (.isub, 1) := dX1_find_39
theorem I5_40 : decode (zB 5) 40 = .ok (.istore 4, 2) := dX1_find_40
theorem I5_42 : decode (zB 5) 42 = .ok (.iload 4, 2) := dX1_find_42
theorem I5_44 : decode (zB 5) 44 = .ok (.ifCond .lt 16, 3) := dX1_find_44
theorem I5_47 : decode (zB 5) 47 = .ok (.aload_n 0, 1) := dX1_find_47
theorem I5_48 : decode (zB 5) 48 = .ok (.aload_n 1, 1) := dX1_find_48
theorem I5_49 : decode (zB 5) 49 = .ok (.iload 4, 2) := dX1_find_49
theorem I5_51 : decode (zB 5) 51 = .ok (.invokevirtual 59, 3) := dX1_find_51
theorem I5_54 : decode (zB 5) 54 = .ok (.iinc 4 (-1), 3) := dX1_find_54
theorem I5_57 : decode (zB 5) 57 = .ok (.goto (-15), 3) := dX1_find_57
theorem I5_60 : decode (zB 5) 60 = .ok (.aload_n 0, 1) := dX1_find_60
theorem I5_61 : decode (zB 5) 61 = .ok (.aload_n 1, 1) := dX1_find_61
theorem I5_62 : decode (zB 5) 62 = .ok (.getfield 63, 3) := dX1_find_62
theorem I5_65 : decode (zB 5) 65 = .ok (.aload_n 1, 1) := dX1_find_65
theorem I5_66 : decode (zB 5) 66 = .ok (.aload_n 1, 1) := dX1_find_66
theorem I5_67 : decode (zB 5) 67 = .ok (.getfield 40, 3) := dX1_find_67
theorem I5_70 : decode (zB 5) 70 = .ok (.iload_n 2, 1) := dX1_find_70
theorem I5_71 : decode (zB 5) 71 = .ok (.invokevirtual 67, 3) := dX1_find_71
theorem I5_74 : decode (zB 5) 74 = .ok (.invokestatic 52, 3) := dX1_find_74
theorem I5_77 : decode (zB 5) 77 = .ok (.invokevirtual 70, 3) := dX1_find_77
theorem I5_80 : decode (zB 5) 80 = .ok (.ireturn, 1) := dX1_find_80
theorem I6_0 : decode (zB 6) 0 = .ok (.iload_n 1, 1) := dX1_fillerOf_0
theorem I6_1 : decode (zB 6) 1 = .ok (.ifCond .lt 14, 3) := dX1_fillerOf_1
theorem I6_4 : decode (zB 6) 4 = .ok (.iload_n 1, 1) := dX1_fillerOf_4
theorem I6_5 : decode (zB 6) 5 = .ok (.aload_n 0, 1) := dX1_fillerOf_5
theorem I6_6 : decode (zB 6) 6 = .ok (.getfield 40, 3) := dX1_fillerOf_6
theorem I6_9 : decode (zB 6) 9 = .ok (.getfield 74, 3) := dX1_fillerOf_9
theorem I6_12 : decode (zB 6) 12 = .ok (.if_icmp .lt 6, 3) := dX1_fillerOf_12
theorem I6_15 : decode (zB 6) 15 = .ok (.bipush (-9), 2) := dX1_fillerOf_15
theorem I6_17 : decode (zB 6) 17 = .ok (.ireturn, 1) := dX1_fillerOf_17
theorem I6_18 : decode (zB 6) 18 = .ok (.aload_n 0, 1) := dX1_fillerOf_18
theorem I6_19 : decode (zB 6) 19 = .ok (.getfield 40, 3) := dX1_fillerOf_19
theorem I6_22 : decode (zB 6) 22 = .ok (.getfield 77, 3) := dX1_fillerOf_22
theorem I6_25 : decode (zB 6) 25 = .ok (.iload_n 1, 1) := dX1_fillerOf_25
theorem I6_26 : decode (zB 6) 26 = .ok (.iaload, 1) := dX1_fillerOf_26
theorem I6_27 : decode (zB 6) 27 = .ok (.istore_n 2, 1) := dX1_fillerOf_27
theorem I6_28 : decode (zB 6) 28 = .ok (.aload_n 0, 1) := dX1_fillerOf_28
theorem I6_29 : decode (zB 6) 29 = .ok (.getfield 63, 3) := dX1_fillerOf_29
theorem I6_32 : decode (zB 6) 32 = .ok (.getfield 80, 3) := dX1_fillerOf_32
theorem I6_35 : decode (zB 6) 35 = .ok (.iload_n 2, 1) := dX1_fillerOf_35
theorem I6_36 : decode (zB 6) 36 = .ok (.iaload, 1) := dX1_fillerOf_36
theorem I6_37 : decode (zB 6) 37 = .ok (.iconst 2, 1) := dX1_fillerOf_37
theorem I6_38 : decode (zB 6) 38 = .ok (.if_icmp .ne 7, 3) := dX1_fillerOf_38
theorem I6_41 : decode (zB 6) 41 = .ok (.iload_n 2, 1) := dX1_fillerOf_41
theorem I6_42 : decode (zB 6) 42 = .ok (.goto 5, 3) := dX1_fillerOf_42
theorem I6_45 : decode (zB 6) 45 = .ok (.bipush (-9), 2) := dX1_fillerOf_45
theorem I6_47 : decode (zB 6) 47 = .ok (.ireturn, 1) := dX1_fillerOf_47
theorem I7_0 : decode (zB 7) 0 = .ok (.aload_n 0, 1) := dX1_settle_0
theorem I7_1 : decode (zB 7) 1 = .ok (.getfield 15, 3) := dX1_settle_1
theorem I7_4 : decode (zB 7) 4 = .ok (.iload_n 2, 1) := dX1_settle_4
theorem I7_5 : decode (zB 7) 5 = .ok (.bipush (-9), 2) := dX1_settle_5
theorem I7_7 : decode (zB 7) 7 = .ok (.iastore, 1) := dX1_settle_7
theorem I7_8 : decode (zB 7) 8 = .ok (.aload_n 0, 1) := dX1_settle_8
theorem I7_9 : decode (zB 7) 9 = .ok (.getfield 18, 3) := dX1_settle_9
theorem I7_12 : decode (zB 7) 12 = .ok (.iload_n 2, 1) := dX1_settle_12
theorem I7_13 : decode (zB 7) 13 = .ok (.sipush 241, 3) := dX1_settle_13
theorem I7_16 : decode (zB 7) 16 = .ok (.iastore, 1) := dX1_settle_16
theorem I7_17 : decode (zB 7) 17 = .ok (.aload_n 0, 1) := dX1_settle_17
theorem I7_18 : decode (zB 7) 18 = .ok (.getfield 21, 3) := dX1_settle_18
theorem I7_21 : decode (zB 7) 21 = .ok (.iload_n 2, 1) := dX1_settle_21
theorem I7_22 : decode (zB 7) 22 = .ok (.bipush (-9), 2) := dX1_settle_22
theorem I7_24 : decode (zB 7) 24 = .ok (.iastore, 1) := dX1_settle_24
theorem I7_25 : decode (zB 7) 25 = .ok (.aload_n 0, 1) := dX1_settle_25
theorem I7_26 : decode (zB 7) 26 = .ok (.getfield 24, 3) := dX1_settle_26
theorem I7_29 : decode (zB 7) 29 = .ok (.iload_n 2, 1) := dX1_settle_29
theorem I7_30 : decode (zB 7) 30 = .ok (.sipush 241, 3) := dX1_settle_30
theorem I7_33 : decode (zB 7) 33 = .ok (.iastore, 1) := dX1_settle_33
theorem I7_34 : decode (zB 7) 34 = .ok (.iconst 0, 1) := dX1_settle_34
theorem I7_35 : decode (zB 7) 35 = .ok (.istore_n 3, 1) := dX1_settle_35
theorem I7_36 : decode (zB 7) 36 = .ok (.iload_n 3, 1) := dX1_settle_36
theorem I7_37 : decode (zB 7) 37 = .ok (.aload_n 1, 1) := dX1_settle_37
theorem I7_38 : decode (zB 7) 38 = .ok (.getfield 63, 3) := dX1_settle_38
theorem I7_41 : decode (zB 7) 41 = .ok (.getfield 85, 3) := dX1_settle_41
theorem I7_44 : decode (zB 7) 44 = .ok (.if_icmp .ge 97, 3) := dX1_settle_44
theorem I7_47 : decode (zB 7) 47 = .ok (.aload_n 0, 1) := dX1_settle_47
theorem I7_48 : decode (zB 7) 48 = .ok (.iload_n 3, 1) := dX1_settle_48
theorem I7_49 : decode (zB 7) 49 = .ok (.aload_n 1, 1) := dX1_settle_49
theorem I7_50 : decode (zB 7) 50 = .ok (.iload_n 2, 1) := dX1_settle_50
theorem I7_51 : decode (zB 7) 51 = .ok (.invokevirtual 86, 3) := dX1_settle_51
theorem I7_54 : decode (zB 7) 54 = .ok (.istore 4, 2) := dX1_settle_54
theorem I7_56 : decode (zB 7) 56 = .ok (.iload 4, 2) := dX1_settle_56
theorem I7_58 : decode (zB 7) 58 = .ok (.aload_n 0, 1) := dX1_settle_58
theorem I7_59 : decode (zB 7) 59 = .ok (.getfield 18, 3) := dX1_settle_59
theorem I7_62 : decode (zB 7) 62 = .ok (.iload_n 2, 1) := dX1_settle_62
theorem I7_63 : decode (zB 7) 63 = .ok (.iaload, 1) := dX1_settle_63
theorem I7_64 : decode (zB 7) 64 = .ok (.if_icmp .ge 45, 3) := dX1_settle_64
theorem I7_67 : decode (zB 7) 67 = .ok (.aload_n 0, 1) := dX1_settle_67
theorem I7_68 : decode (zB 7) 68 = .ok (.getfield 21, 3) := dX1_settle_68
theorem I7_71 : decode (zB 7) 71 = .ok (.iload_n 2, 1) := dX1_settle_71
theorem I7_72 : decode (zB 7) 72 = .ok (.aload_n 0, 1) := dX1_settle_72
theorem I7_73 : decode (zB 7) 73 = .ok (.getfield 15, 3) := dX1_settle_73
theorem I7_76 : decode (zB 7) 76 = .ok (.iload_n 2, 1) := dX1_settle_76
theorem I7_77 : decode (zB 7) 77 = .ok (.iaload, 1) := dX1_settle_77
theorem I7_78 : decode (zB 7) 78 = .ok (.iastore, 1) := dX1_settle_78
theorem I7_79 : decode (zB 7) 79 = .ok (.aload_n 0, 1) := dX1_settle_79
theorem I7_80 : decode (zB 7) 80 = .ok (.getfield 24, 3) := dX1_settle_80
theorem I7_83 : decode (zB 7) 83 = .ok (.iload_n 2, 1) := dX1_settle_83
theorem I7_84 : decode (zB 7) 84 = .ok (.aload_n 0, 1) := dX1_settle_84
theorem I7_85 : decode (zB 7) 85 = .ok (.getfield 18, 3) := dX1_settle_85
theorem I7_88 : decode (zB 7) 88 = .ok (.iload_n 2, 1) := dX1_settle_88
theorem I7_89 : decode (zB 7) 89 = .ok (.iaload, 1) := dX1_settle_89
theorem I7_90 : decode (zB 7) 90 = .ok (.iastore, 1) := dX1_settle_90
theorem I7_91 : decode (zB 7) 91 = .ok (.aload_n 0, 1) := dX1_settle_91
theorem I7_92 : decode (zB 7) 92 = .ok (.getfield 15, 3) := dX1_settle_92
theorem I7_95 : decode (zB 7) 95 = .ok (.iload_n 2, 1) := dX1_settle_95
theorem I7_96 : decode (zB 7) 96 = .ok (.iload_n 3, 1) := dX1_settle_96
theorem I7_97 : decode (zB 7) 97 = .ok (.iastore, 1) := dX1_settle_97
theorem I7_98 : decode (zB 7) 98 = .ok (.aload_n 0, 1) := dX1_settle_98
theorem I7_99 : decode (zB 7) 99 = .ok (.getfield 18, 3) := dX1_settle_99
theorem I7_102 : decode (zB 7) 102 = .ok (.iload_n 2, 1) := dX1_settle_102
theorem I7_103 : decode (zB 7) 103 = .ok (.iload 4, 2) := dX1_settle_103
theorem I7_105 : decode (zB 7) 105 = .ok (.iastore, 1) := dX1_settle_105
theorem I7_106 : decode (zB 7) 106 = .ok (.goto 29, 3) := dX1_settle_106
theorem I7_109 : decode (zB 7) 109 = .ok (.iload 4, 2) := dX1_settle_109
theorem I7_111 : decode (zB 7) 111 = .ok (.aload_n 0, 1) := dX1_settle_111
theorem I7_112 : decode (zB 7) 112 = .ok (.getfield 24, 3) := dX1_settle_112
theorem I7_115 : decode (zB 7) 115 = .ok (.iload_n 2, 1) := dX1_settle_115
theorem I7_116 : decode (zB 7) 116 = .ok (.iaload, 1) := dX1_settle_116
theorem I7_117 : decode (zB 7) 117 = .ok (.if_icmp .ge 18, 3) := dX1_settle_117
theorem I7_120 : decode (zB 7) 120 = .ok (.aload_n 0, 1) := dX1_settle_120
theorem I7_121 : decode (zB 7) 121 = .ok (.getfield 21, 3) := dX1_settle_121
theorem I7_124 : decode (zB 7) 124 = .ok (.iload_n 2, 1) := dX1_settle_124
theorem I7_125 : decode (zB 7) 125 = .ok (.iload_n 3, 1) := dX1_settle_125
theorem I7_126 : decode (zB 7) 126 = .ok (.iastore, 1) := dX1_settle_126
theorem I7_127 : decode (zB 7) 127 = .ok (.aload_n 0, 1) := dX1_settle_127
theorem I7_128 : decode (zB 7) 128 = .ok (.getfield 24, 3) := dX1_settle_128
theorem I7_131 : decode (zB 7) 131 = .ok (.iload_n 2, 1) := dX1_settle_131
theorem I7_132 : decode (zB 7) 132 = .ok (.iload 4, 2) := dX1_settle_132
theorem I7_134 : decode (zB 7) 134 = .ok (.iastore, 1) := dX1_settle_134
theorem I7_135 : decode (zB 7) 135 = .ok (.iinc 3 1, 3) := dX1_settle_135
theorem I7_138 : decode (zB 7) 138 = .ok (.goto (-102), 3) := dX1_settle_138
theorem I7_141 : decode (zB 7) 141 = .ok (.return_, 1) := dX1_settle_141
theorem I8_0 : decode (zB 8) 0 = .ok (.iload_n 3, 1) := dX1_itemsWith_0
theorem I8_1 : decode (zB 8) 1 = .ok (.aload_n 2, 1) := dX1_itemsWith_1
theorem I8_2 : decode (zB 8) 2 = .ok (.getfield 63, 3) := dX1_itemsWith_2
theorem I8_5 : decode (zB 8) 5 = .ok (.getfield 90, 3) := dX1_itemsWith_5
theorem I8_8 : decode (zB 8) 8 = .ok (.iload_n 1, 1) := dX1_itemsWith_8
theorem I8_9 : decode (zB 8) 9 = .ok (.iaload, 1) := dX1_itemsWith_9
theorem I8_10 : decode (zB 8) 10 = .ok (.iadd, 1) := dX1_itemsWith_10
theorem I8_11 : decode (zB 8) 11 = .ok (.istore 4, 2) := dX1_itemsWith_11
theorem I8_13 : decode (zB 8) 13 = .ok (.aload_n 2, 1) := dX1_itemsWith_13
theorem I8_14 : decode (zB 8) 14 = .ok (.getfield 63, 3) := dX1_itemsWith_14
theorem I8_17 : decode (zB 8) 17 = .ok (.getfield 80, 3) := dX1_itemsWith_17
theorem I8_20 : decode (zB 8) 20 = .ok (.iload_n 1, 1) := dX1_itemsWith_20
theorem I8_21 : decode (zB 8) 21 = .ok (.iaload, 1) := dX1_itemsWith_21
theorem I8_22 : decode (zB 8) 22 = .ok (.iconst 2, 1) := dX1_itemsWith_22
theorem I8_23 : decode (zB 8) 23 = .ok (.if_icmp .ne 12, 3) := dX1_itemsWith_23
theorem I8_26 : decode (zB 8) 26 = .ok (.iload 4, 2) := dX1_itemsWith_26
theorem I8_28 : decode (zB 8) 28 = .ok (.aload_n 0, 1) := dX1_itemsWith_28
theorem I8_29 : decode (zB 8) 29 = .ok (.getfield 37, 3) := dX1_itemsWith_29
theorem I8_32 : decode (zB 8) 32 = .ok (.if_icmp .le 7, 3) := dX1_itemsWith_32
theorem I8_35 : decode (zB 8) 35 = .ok (.sipush 241, 3) := dX1_itemsWith_35
theorem I8_38 : decode (zB 8) 38 = .ok (.ireturn, 1) := dX1_itemsWith_38
theorem I8_39 : decode (zB 8) 39 = .ok (.aload_n 2, 1) := dX1_itemsWith_39
theorem I8_40 : decode (zB 8) 40 = .ok (.getfield 92, 3) := dX1_itemsWith_40
theorem I8_43 : decode (zB 8) 43 = .ok (.aload_n 2, 1) := dX1_itemsWith_43
theorem I8_44 : decode (zB 8) 44 = .ok (.getfield 63, 3) := dX1_itemsWith_44
theorem I8_47 : decode (zB 8) 47 = .ok (.getfield 96, 3) := dX1_itemsWith_47
theorem I8_50 : decode (zB 8) 50 = .ok (.iload_n 1, 1) := dX1_itemsWith_50
theorem I8_51 : decode (zB 8) 51 = .ok (.iaload, 1) := dX1_itemsWith_51
theorem I8_52 : decode (zB 8) 52 = .ok (.aload_n 0, 1) := dX1_itemsWith_52
theorem I8_53 : decode (zB 8) 53 = .ok (.getfield 27, 3) := dX1_itemsWith_53
theorem I8_56 : decode (zB 8) 56 = .ok (.iload_n 3, 1) := dX1_itemsWith_56
theorem I8_57 : decode (zB 8) 57 = .ok (.iadd, 1) := dX1_itemsWith_57
theorem I8_58 : decode (zB 8) 58 = .ok (.aload_n 0, 1) := dX1_itemsWith_58
theorem I8_59 : decode (zB 8) 59 = .ok (.getfield 27, 3) := dX1_itemsWith_59
theorem I8_62 : decode (zB 8) 62 = .ok (.iload 4, 2) := dX1_itemsWith_62
theorem I8_64 : decode (zB 8) 64 = .ok (.iadd, 1) := dX1_itemsWith_64
theorem I8_65 : decode (zB 8) 65 = .ok (.invokevirtual 99, 3) := dX1_itemsWith_65
theorem I8_68 : decode (zB 8) 68 = .ok (.bipush (-9), 2) := dX1_itemsWith_68
theorem I8_70 : decode (zB 8) 70 = .ok (.if_icmp .eq 7, 3) := dX1_itemsWith_70
theorem I8_73 : decode (zB 8) 73 = .ok (.sipush 241, 3) := dX1_itemsWith_73
theorem I8_76 : decode (zB 8) 76 = .ok (.ireturn, 1) := dX1_itemsWith_76
theorem I8_77 : decode (zB 8) 77 = .ok (.iload 4, 2) := dX1_itemsWith_77
theorem I8_79 : decode (zB 8) 79 = .ok (.aload_n 0, 1) := dX1_itemsWith_79
theorem I8_80 : decode (zB 8) 80 = .ok (.getfield 37, 3) := dX1_itemsWith_80
theorem I8_83 : decode (zB 8) 83 = .ok (.if_icmp .ne 19, 3) := dX1_itemsWith_83
theorem I8_86 : decode (zB 8) 86 = .ok (.iload_n 1, 1) := dX1_itemsWith_86
theorem I8_87 : decode (zB 8) 87 = .ok (.aload_n 0, 1) := dX1_itemsWith_87
theorem I8_88 : decode (zB 8) 88 = .ok (.getfield 56, 3) := dX1_itemsWith_88
theorem I8_91 : decode (zB 8) 91 = .ok (.if_icmp .ne 9, 3) := dX1_itemsWith_91
theorem I8_94 : decode (zB 8) 94 = .ok (.sipush 241, 3) := dX1_itemsWith_94
theorem I8_97 : decode (zB 8) 97 = .ok (.goto 4, 3) := dX1_itemsWith_97
theorem I8_100 : decode (zB 8) 100 = .ok (.iconst 1, 1) := dX1_itemsWith_100
theorem I8_101 : decode (zB 8) 101 = .ok (.ireturn, 1) := dX1_itemsWith_101
theorem I8_102 : decode (zB 8) 102 = .ok (.aload_n 0, 1) := dX1_itemsWith_102
theorem I8_103 : decode (zB 8) 103 = .ok (.getfield 15, 3) := dX1_itemsWith_103
theorem I8_106 : decode (zB 8) 106 = .ok (.iload 4, 2) := dX1_itemsWith_106
theorem I8_108 : decode (zB 8) 108 = .ok (.iaload, 1) := dX1_itemsWith_108
theorem I8_109 : decode (zB 8) 109 = .ok (.iload_n 1, 1) := dX1_itemsWith_109
theorem I8_110 : decode (zB 8) 110 = .ok (.if_icmp .ne 13, 3) := dX1_itemsWith_110
theorem I8_113 : decode (zB 8) 113 = .ok (.aload_n 0, 1) := dX1_itemsWith_113
theorem I8_114 : decode (zB 8) 114 = .ok (.getfield 24, 3) := dX1_itemsWith_114
theorem I8_117 : decode (zB 8) 117 = .ok (.iload 4, 2) := dX1_itemsWith_117
theorem I8_119 : decode (zB 8) 119 = .ok (.iaload, 1) := dX1_itemsWith_119
theorem I8_120 : decode (zB 8) 120 = .ok (.goto 10, 3) := dX1_itemsWith_120
theorem I8_123 : decode (zB 8) 123 = .ok (.aload_n 0, 1) := dX1_itemsWith_123
theorem I8_124 : decode (zB 8) 124 = .ok (.getfield 18, 3) := dX1_itemsWith_124
theorem I8_127 : decode (zB 8) 127 = .ok (.iload 4, 2) := dX1_itemsWith_127
theorem I8_129 : decode (zB 8) 129 = .ok (.iaload, 1) := dX1_itemsWith_129
theorem I8_130 : decode (zB 8) 130 = .ok (.istore 5, 2) := dX1_itemsWith_130
theorem I8_132 : decode (zB 8) 132 = .ok (.iload 5, 2) := dX1_itemsWith_132
theorem I8_134 : decode (zB 8) 134 = .ok (.iconst 1, 1) := dX1_itemsWith_134
theorem I8_135 : decode (zB 8) 135 = .ok (.iadd, 1) := dX1_itemsWith_135
theorem I8_136 : decode (zB 8) 136 = .ok (.sipush 241, 3) := dX1_itemsWith_136
theorem I8_139 : decode (zB 8) 139 = .ok (.invokestatic 31, 3) := dX1_itemsWith_139
theorem I8_142 : decode (zB 8) 142 = .ok (.ireturn, 1) := dX1_itemsWith_142
theorem I9_0 : decode (zB 9) 0 = .ok (.iconst 0, 1) := dX1_choose_0
theorem I9_1 : decode (zB 9) 1 = .ok (.istore_n 3, 1) := dX1_choose_1
theorem I9_2 : decode (zB 9) 2 = .ok (.iload_n 2, 1) := dX1_choose_2
theorem I9_3 : decode (zB 9) 3 = .ok (.istore 4, 2) := dX1_choose_3
theorem I9_5 : decode (zB 9) 5 = .ok (.iconst 0, 1) := dX1_choose_5
theorem I9_6 : decode (zB 9) 6 = .ok (.istore 5, 2) := dX1_choose_6
theorem I9_8 : decode (zB 9) 8 = .ok (.iload 5, 2) := dX1_choose_8
theorem I9_10 : decode (zB 9) 10 = .ok (.aload_n 0, 1) := dX1_choose_10
theorem I9_11 : decode (zB 9) 11 = .ok (.getfield 37, 3) := dX1_choose_11
theorem I9_14 : decode (zB 9) 14 = .ok (.if_icmp .ge 81, 3) := dX1_choose_14
theorem I9_17 : decode (zB 9) 17 = .ok (.iload_n 3, 1) := dX1_choose_17
theorem I9_18 : decode (zB 9) 18 = .ok (.sipush 240, 3) := dX1_choose_18
theorem I9_21 : decode (zB 9) 21 = .ok (.if_icmp .ge 74, 3) := dX1_choose_21
theorem I9_24 : decode (zB 9) 24 = .ok (.aload_n 0, 1) := dX1_choose_24
theorem I9_25 : decode (zB 9) 25 = .ok (.getfield 15, 3) := dX1_choose_25
theorem I9_28 : decode (zB 9) 28 = .ok (.iload 5, 2) := dX1_choose_28
theorem I9_30 : decode (zB 9) 30 = .ok (.iaload, 1) := dX1_choose_30
theorem I9_31 : decode (zB 9) 31 = .ok (.iload 4, 2) := dX1_choose_31
theorem I9_33 : decode (zB 9) 33 = .ok (.if_icmp .ne 13, 3) := dX1_choose_33
theorem I9_36 : decode (zB 9) 36 = .ok (.aload_n 0, 1) := dX1_choose_36
theorem I9_37 : decode (zB 9) 37 = .ok (.getfield 21, 3) := dX1_choose_37
theorem I9_40 : decode (zB 9) 40 = .ok (.iload 5, 2) := dX1_choose_40
theorem I9_42 : decode (zB 9) 42 = .ok (.iaload, 1) := dX1_choose_42
theorem I9_43 : decode (zB 9) 43 = .ok (.goto 10, 3) := dX1_choose_43
theorem I9_46 : decode (zB 9) 46 = .ok (.aload_n 0, 1) := dX1_choose_46
theorem I9_47 : decode (zB 9) 47 = .ok (.getfield 15, 3) := dX1_choose_47
theorem I9_50 : decode (zB 9) 50 = .ok (.iload 5, 2) := dX1_choose_50
theorem I9_52 : decode (zB 9) 52 = .ok (.iaload, 1) := dX1_choose_52
theorem I9_53 : decode (zB 9) 53 = .ok (.istore 6, 2) := dX1_choose_53
theorem I9_55 : decode (zB 9) 55 = .ok (.iload 6, 2) := dX1_choose_55
theorem I9_57 : decode (zB 9) 57 = .ok (.bipush (-9), 2) := dX1_choose_57
theorem I9_59 : decode (zB 9) 59 = .ok (.if_icmp .ne 6, 3) := dX1_choose_59
theorem I9_62 : decode (zB 9) 62 = .ok (.bipush (-9), 2) := dX1_choose_62
theorem I9_64 : decode (zB 9) 64 = .ok (.ireturn, 1) := dX1_choose_64
theorem I9_65 : decode (zB 9) 65 = .ok (.aload_n 0, 1) := dX1_choose_65
theorem I9_66 : decode (zB 9) 66 = .ok (.getfield 9, 3) := dX1_choose_66
theorem I9_69 : decode (zB 9) 69 = .ok (.iload_n 3, 1) := dX1_choose_69
theorem I9_70 : decode (zB 9) 70 = .ok (.iload 6, 2) := dX1_choose_70
theorem I9_72 : decode (zB 9) 72 = .ok (.iastore, 1) := dX1_choose_72
theorem I9_73 : decode (zB 9) 73 = .ok (.iinc 3 1, 3) := dX1_choose_73
theorem I9_76 : decode (zB 9) 76 = .ok (.iload 5, 2) := dX1_choose_76
theorem I9_78 : decode (zB 9) 78 = .ok (.aload_n 1, 1) := dX1_choose_78
theorem I9_79 : decode (zB 9) 79 = .ok (.getfield 90, 3) := dX1_choose_79
theorem I9_82 : decode (zB 9) 82 = .ok (.iload 6, 2) := dX1_choose_82
theorem I9_84 : decode (zB 9) 84 = .ok (.iaload, 1) := dX1_choose_84
theorem I9_85 : decode (zB 9) 85 = .ok (.iadd, 1) := dX1_choose_85
theorem I9_86 : decode (zB 9) 86 = .ok (.istore 5, 2) := dX1_choose_86
theorem I9_88 : decode (zB 9) 88 = .ok (.iload 6, 2) := dX1_choose_88
theorem I9_90 : decode (zB 9) 90 = .ok (.istore 4, 2) := dX1_choose_90
theorem I9_92 : decode (zB 9) 92 = .ok (.goto (-84), 3) := dX1_choose_92
theorem I9_95 : decode (zB 9) 95 = .ok (.iload_n 3, 1) := dX1_choose_95
theorem I9_96 : decode (zB 9) 96 = .ok (.ireturn, 1) := dX1_choose_96
theorem I10_0 : decode (zB 10) 0 = .ok (.aload_n 0, 1) := dX2_init_0
theorem I10_1 : decode (zB 10) 1 = .ok (.invokespecial 3, 3) := dX2_init_1
theorem I10_4 : decode (zB 10) 4 = .ok (.aload_n 0, 1) := dX2_init_4
theorem I10_5 : decode (zB 10) 5 = .ok (.iconst 5, 1) := dX2_init_5
theorem I10_6 : decode (zB 10) 6 = .ok (.anewarray 9, 3) := dX2_init_6
theorem I10_9 : decode (zB 10) 9 = .ok (.putfield 11, 3) := dX2_init_9
theorem I10_12 : decode (zB 10) 12 = .ok (.iconst 0, 1) := dX2_init_12
theorem I10_13 : decode (zB 10) 13 = .ok (.istore_n 1, 1) := dX2_init_13
theorem I10_14 : decode (zB 10) 14 = .ok (.iload_n 1, 1) := dX2_init_14
theorem I10_15 : decode (zB 10) 15 = .ok (.iconst 5, 1) := dX2_init_15
theorem I10_16 : decode (zB 10) 16 = .ok (.if_icmp .ge 22, 3) := dX2_init_16
theorem I10_19 : decode (zB 10) 19 = .ok (.aload_n 0, 1) := dX2_init_19
theorem I10_20 : decode (zB 10) 20 = .ok (.getfield 11, 3) := dX2_init_20
theorem I10_23 : decode (zB 10) 23 = .ok (.iload_n 1, 1) := dX2_init_23
theorem I10_24 : decode (zB 10) 24 = .ok (.new 9, 3) := dX2_init_24
theorem I10_27 : decode (zB 10) 27 = .ok (.dup, 1) := dX2_init_27
theorem I10_28 : decode (zB 10) 28 = .ok (.invokespecial 17, 3) := dX2_init_28
theorem I10_31 : decode (zB 10) 31 = .ok (.aastore, 1) := dX2_init_31
theorem I10_32 : decode (zB 10) 32 = .ok (.iinc 1 1, 3) := dX2_init_32
theorem I10_35 : decode (zB 10) 35 = .ok (.goto (-21), 3) := dX2_init_35
theorem I10_38 : decode (zB 10) 38 = .ok (.return_, 1) := dX2_init_38
theorem I11_0 : decode (zB 11) 0 = .ok (.aload_n 0, 1) := dX2_keep_0
theorem I11_1 : decode (zB 11) 1 = .ok (.getfield 18, 3) := dX2_keep_1
theorem I11_4 : decode (zB 11) 4 = .ok (.iconst 5, 1) := dX2_keep_4
theorem I11_5 : decode (zB 11) 5 = .ok (.if_icmp .ne 25, 3) := dX2_keep_5
theorem I11_8 : decode (zB 11) 8 = .ok (.aload_n 0, 1) := dX2_keep_8
theorem I11_9 : decode (zB 11) 9 = .ok (.aload_n 0, 1) := dX2_keep_9
theorem I11_10 : decode (zB 11) 10 = .ok (.getfield 22, 3) := dX2_keep_10
theorem I11_13 : decode (zB 11) 13 = .ok (.iconst 1, 1) := dX2_keep_13
theorem I11_14 : decode (zB 11) 14 = .ok (.iadd, 1) := dX2_keep_14
theorem I11_15 : decode (zB 11) 15 = .ok (.iconst 5, 1) := dX2_keep_15
theorem I11_16 : decode (zB 11) 16 = .ok (.irem, 1) := dX2_keep_16
theorem I11_17 : decode (zB 11) 17 = .ok (.putfield 22, 3) := dX2_keep_17
theorem I11_20 : decode (zB 11) 20 = .ok (.aload_n 0, 1) := dX2_keep_20
theorem I11_21 : decode (zB 11) 21 = .ok (.dup, 1) := dX2_keep_21
theorem I11_22 : decode (zB 11) 22 = .ok (.getfield 18, 3) := dX2_keep_22
theorem I11_25 : decode (zB 11) 25 = .ok (.iconst 1, 1) := dX2_keep_25
theorem I11_26 : decode (zB 11) 26 = .ok (.isub, 1) := dX2_keep_26
theorem I11_27 : decode (zB 11) 27 = .ok (.putfield 18, 3) := dX2_keep_27
theorem I11_30 : decode (zB 11) 30 = .ok (.aload_n 0, 1) := dX2_keep_30
theorem I11_31 : decode (zB 11) 31 = .ok (.getfield 11, 3) := dX2_keep_31
theorem I11_34 : decode (zB 11) 34 = .ok (.aload_n 0, 1) := dX2_keep_34
theorem I11_35 : decode (zB 11) 35 = .ok (.getfield 22, 3) := dX2_keep_35
theorem I11_38 : decode (zB 11) 38 = .ok (.aload_n 0, 1) := dX2_keep_38
theorem I11_39 : decode (zB 11) 39 = .ok (.getfield 18, 3) := dX2_keep_39
theorem I11_42 : decode (zB 11) 42 = .ok (.iadd, 1) := dX2_keep_42
theorem I11_43 : decode (zB 11) 43 = .ok (.iconst 5, 1) := dX2_keep_43
theorem I11_44 : decode (zB 11) 44 = .ok (.irem, 1) := dX2_keep_44
theorem I11_45 : decode (zB 11) 45 = .ok (.aaload, 1) := dX2_keep_45
theorem I11_46 : decode (zB 11) 46 = .ok (.aload_n 1, 1) := dX2_keep_46
theorem I11_47 : decode (zB 11) 47 = .ok (.invokevirtual 25, 3) := dX2_keep_47
theorem I11_50 : decode (zB 11) 50 = .ok (.aload_n 0, 1) := dX2_keep_50
theorem I11_51 : decode (zB 11) 51 = .ok (.dup, 1) := dX2_keep_51
theorem I11_52 : decode (zB 11) 52 = .ok (.getfield 18, 3) := dX2_keep_52
theorem I11_55 : decode (zB 11) 55 = .ok (.iconst 1, 1) := dX2_keep_55
theorem I11_56 : decode (zB 11) 56 = .ok (.iadd, 1) := dX2_keep_56
theorem I11_57 : decode (zB 11) 57 = .ok (.putfield 18, 3) := dX2_keep_57
theorem I11_60 : decode (zB 11) 60 = .ok (.return_, 1) := dX2_keep_60
theorem I12_0 : decode (zB 12) 0 = .ok (.aload_n 0, 1) := dX2_takeBack_0
theorem I12_1 : decode (zB 12) 1 = .ok (.dup, 1) := dX2_takeBack_1
theorem I12_2 : decode (zB 12) 2 = .ok (.getfield 18, 3) := dX2_takeBack_2
theorem I12_5 : decode (zB 12) 5 = .ok (.iconst 1, 1) := dX2_takeBack_5
theorem I12_6 : decode (zB 12) 6 = .ok (.isub, 1) := dX2_takeBack_6
theorem I12_7 : decode (zB 12) 7 = .ok (.putfield 18, 3) := dX2_takeBack_7
theorem I12_10 : decode (zB 12) 10 = .ok (.aload_n 1, 1) := dX2_takeBack_10
theorem I12_11 : decode (zB 12) 11 = .ok (.aload_n 0, 1) := dX2_takeBack_11
theorem I12_12 : decode (zB 12) 12 = .ok (.getfield 11, 3) := dX2_takeBack_12
theorem I12_15 : decode (zB 12) 15 = .ok (.aload_n 0, 1) := dX2_takeBack_15
theorem I12_16 : decode (zB 12) 16 = .ok (.getfield 22, 3) := dX2_takeBack_16
theorem I12_19 : decode (zB 12) 19 = .ok (.aload_n 0, 1) := dX2_takeBack_19
theorem I12_20 : decode (zB 12) 20 = .ok (.getfield 18, 3) := dX2_takeBack_20
theorem I12_23 : decode (zB 12) 23 = .ok (.iadd, 1) := dX2_takeBack_23
theorem I12_24 : decode (zB 12) 24 = .ok (.iconst 5, 1) := dX2_takeBack_24
theorem I12_25 : decode (zB 12) 25 = .ok (.irem, 1) := dX2_takeBack_25
theorem I12_26 : decode (zB 12) 26 = .ok (.aaload, 1) := dX2_takeBack_26
theorem I12_27 : decode (zB 12) 27 = .ok (.invokevirtual 25, 3) := dX2_takeBack_27
theorem I12_30 : decode (zB 12) 30 = .ok (.return_, 1) := dX2_takeBack_30
theorem I13_0 : decode (zB 13) 0 = .ok (.aload_n 0, 1) := dX3_init_0
theorem I13_1 : decode (zB 13) 1 = .ok (.invokespecial 3, 3) := dX3_init_1
theorem I13_4 : decode (zB 13) 4 = .ok (.aload_n 0, 1) := dX3_init_4
theorem I13_5 : decode (zB 13) 5 = .ok (.bipush 60, 2) := dX3_init_5
theorem I13_7 : decode (zB 13) 7 = .ok (.newarray .int, 2) := dX3_init_7
theorem I13_9 : decode (zB 13) 9 = .ok (.putfield 9, 3) := dX3_init_9
theorem I13_12 : decode (zB 13) 12 = .ok (.aload_n 0, 1) := dX3_init_12
theorem I13_13 : decode (zB 13) 13 = .ok (.bipush 60, 2) := dX3_init_13
theorem I13_15 : decode (zB 13) 15 = .ok (.newarray .int, 2) := dX3_init_15
theorem I13_17 : decode (zB 13) 17 = .ok (.putfield 15, 3) := dX3_init_17
theorem I13_20 : decode (zB 13) 20 = .ok (.aload_n 0, 1) := dX3_init_20
theorem I13_21 : decode (zB 13) 21 = .ok (.bipush 60, 2) := dX3_init_21
theorem I13_23 : decode (zB 13) 23 = .ok (.newarray .int, 2) := dX3_init_23
theorem I13_25 : decode (zB 13) 25 = .ok (.putfield 18, 3) := dX3_init_25
theorem I13_28 : decode (zB 13) 28 = .ok (.aload_n 0, 1) := dX3_init_28
theorem I13_29 : decode (zB 13) 29 = .ok (.bipush 60, 2) := dX3_init_29
theorem I13_31 : decode (zB 13) 31 = .ok (.newarray .int, 2) := dX3_init_31
theorem I13_33 : decode (zB 13) 33 = .ok (.putfield 21, 3) := dX3_init_33
theorem I13_36 : decode (zB 13) 36 = .ok (.return_, 1) := dX3_init_36
theorem I14_0 : decode (zB 14) 0 = .ok (.aload_n 0, 1) := dX3_end_0
theorem I14_1 : decode (zB 14) 1 = .ok (.getfield 15, 3) := dX3_end_1
theorem I14_4 : decode (zB 14) 4 = .ok (.iload_n 1, 1) := dX3_end_4
theorem I14_5 : decode (zB 14) 5 = .ok (.iaload, 1) := dX3_end_5
theorem I14_6 : decode (zB 14) 6 = .ok (.aload_n 0, 1) := dX3_end_6
theorem I14_7 : decode (zB 14) 7 = .ok (.getfield 18, 3) := dX3_end_7
theorem I14_10 : decode (zB 14) 10 = .ok (.iload_n 1, 1) := dX3_end_10
theorem I14_11 : decode (zB 14) 11 = .ok (.iaload, 1) := dX3_end_11
theorem I14_12 : decode (zB 14) 12 = .ok (.iadd, 1) := dX3_end_12
theorem I14_13 : decode (zB 14) 13 = .ok (.ireturn, 1) := dX3_end_13
theorem I15_0 : decode (zB 15) 0 = .ok (.iconst 0, 1) := dX3_firstIn_0
theorem I15_1 : decode (zB 15) 1 = .ok (.istore_n 3, 1) := dX3_firstIn_1
theorem I15_2 : decode (zB 15) 2 = .ok (.iload_n 3, 1) := dX3_firstIn_2
theorem I15_3 : decode (zB 15) 3 = .ok (.aload_n 0, 1) := dX3_firstIn_3
theorem I15_4 : decode (zB 15) 4 = .ok (.getfield 24, 3) := dX3_firstIn_4
theorem I15_7 : decode (zB 15) 7 = .ok (.if_icmp .ge 30, 3) := dX3_firstIn_7
theorem I15_10 : decode (zB 15) 10 = .ok (.aload_n 0, 1) := dX3_firstIn_10
theorem I15_11 : decode (zB 15) 11 = .ok (.getfield 15, 3) := dX3_firstIn_11
theorem I15_14 : decode (zB 15) 14 = .ok (.iload_n 3, 1) := dX3_firstIn_14
theorem I15_15 : decode (zB 15) 15 = .ok (.iaload, 1) := dX3_firstIn_15
theorem I15_16 : decode (zB 15) 16 = .ok (.iload_n 2, 1) := dX3_firstIn_16
theorem I15_17 : decode (zB 15) 17 = .ok (.if_icmp .ge 14, 3) := dX3_firstIn_17
theorem I15_20 : decode (zB 15) 20 = .ok (.aload_n 0, 1) := dX3_firstIn_20
theorem I15_21 : decode (zB 15) 21 = .ok (.iload_n 3, 1) := dX3_firstIn_21
theorem I15_22 : decode (zB 15) 22 = .ok (.invokevirtual 28, 3) := dX3_firstIn_22
theorem I15_25 : decode (zB 15) 25 = .ok (.iload_n 1, 1) := dX3_firstIn_25
theorem I15_26 : decode (zB 15) 26 = .ok (.if_icmp .le 5, 3) := dX3_firstIn_26
theorem I15_29 : decode (zB 15) 29 = .ok (.iload_n 3, 1) := dX3_firstIn_29
theorem I15_30 : decode (zB 15) 30 = .ok (.ireturn, 1) := dX3_firstIn_30
theorem I15_31 : decode (zB 15) 31 = .ok (.iinc 3 1, 3) := dX3_firstIn_31
theorem I15_34 : decode (zB 15) 34 = .ok (.goto (-32), 3) := dX3_firstIn_34
theorem I15_37 : decode (zB 15) 37 = .ok (.bipush (-9), 2) := dX3_firstIn_37
theorem I15_39 : decode (zB 15) 39 = .ok (.ireturn, 1) := dX3_firstIn_39
theorem I16_0 : decode (zB 16) 0 = .ok (.iconst 0, 1) := dX3_beginningAt_0
theorem I16_1 : decode (zB 16) 1 = .ok (.istore_n 2, 1) := dX3_beginningAt_1
theorem I16_2 : decode (zB 16) 2 = .ok (.iload_n 2, 1) := dX3_beginningAt_2
theorem I16_3 : decode (zB 16) 3 = .ok (.aload_n 0, 1) := dX3_beginningAt_3
theorem I16_4 : decode (zB 16) 4 = .ok (.getfield 24, 3) := dX3_beginningAt_4
theorem I16_7 : decode (zB 16) 7 = .ok (.if_icmp .ge 21, 3) := dX3_beginningAt_7
theorem I16_10 : decode (zB 16) 10 = .ok (.aload_n 0, 1) := dX3_beginningAt_10
theorem I16_11 : decode (zB 16) 11 = .ok (.getfield 15, 3) := dX3_beginningAt_11
theorem I16_14 : decode (zB 16) 14 = .ok (.iload_n 2, 1) := dX3_beginningAt_14
theorem I16_15 : decode (zB 16) 15 = .ok (.iaload, 1) := dX3_beginningAt_15
theorem I16_16 : decode (zB 16) 16 = .ok (.iload_n 1, 1) := dX3_beginningAt_16
theorem I16_17 : decode (zB 16) 17 = .ok (.if_icmp .ne 5, 3) := dX3_beginningAt_17
theorem I16_20 : decode (zB 16) 20 = .ok (.iload_n 2, 1) := dX3_beginningAt_20
theorem I16_21 : decode (zB 16) 21 = .ok (.ireturn, 1) := dX3_beginningAt_21
theorem I16_22 : decode (zB 16) 22 = .ok (.iinc 2 1, 3) := dX3_beginningAt_22
theorem I16_25 : decode (zB 16) 25 = .ok (.goto (-23), 3) := dX3_beginningAt_25
theorem I16_28 : decode (zB 16) 28 = .ok (.bipush (-9), 2) := dX3_beginningAt_28
theorem I16_30 : decode (zB 16) 30 = .ok (.ireturn, 1) := dX3_beginningAt_30
theorem I17_0 : decode (zB 17) 0 = .ok (.iconst 0, 1) := dX3_endingAt_0
theorem I17_1 : decode (zB 17) 1 = .ok (.istore_n 2, 1) := dX3_endingAt_1
theorem I17_2 : decode (zB 17) 2 = .ok (.iload_n 2, 1) := dX3_endingAt_2
theorem I17_3 : decode (zB 17) 3 = .ok (.aload_n 0, 1) := dX3_endingAt_3
theorem I17_4 : decode (zB 17) 4 = .ok (.getfield 24, 3) := dX3_endingAt_4
theorem I17_7 : decode (zB 17) 7 = .ok (.if_icmp .ge 20, 3) := dX3_endingAt_7
theorem I17_10 : decode (zB 17) 10 = .ok (.aload_n 0, 1) := dX3_endingAt_10
theorem I17_11 : decode (zB 17) 11 = .ok (.iload_n 2, 1) := dX3_endingAt_11
theorem I17_12 : decode (zB 17) 12 = .ok (.invokevirtual 28, 3) := dX3_endingAt_12
theorem I17_15 : decode (zB 17) 15 = .ok (.iload_n 1, 1) := dX3_endingAt_15
theorem I17_16 : decode (zB 17) 16 = .ok (.if_icmp .ne 5, 3) := dX3_endingAt_16
theorem I17_19 : decode (zB 17) 19 = .ok (.iload_n 2, 1) := dX3_endingAt_19
theorem I17_20 : decode (zB 17) 20 = .ok (.ireturn, 1) := dX3_endingAt_20
theorem I17_21 : decode (zB 17) 21 = .ok (.iinc 2 1, 3) := dX3_endingAt_21
theorem I17_24 : decode (zB 17) 24 = .ok (.goto (-22), 3) := dX3_endingAt_24
theorem I17_27 : decode (zB 17) 27 = .ok (.bipush (-9), 2) := dX3_endingAt_27
theorem I17_29 : decode (zB 17) 29 = .ok (.ireturn, 1) := dX3_endingAt_29
theorem I18_0 : decode (zB 18) 0 = .ok (.iconst 0, 1) := dX3_minutesIn_0
theorem I18_1 : decode (zB 18) 1 = .ok (.aload_n 0, 1) := dX3_minutesIn_1
theorem I18_2 : decode (zB 18) 2 = .ok (.iload_n 1, 1) := dX3_minutesIn_2
theorem I18_3 : decode (zB 18) 3 = .ok (.invokevirtual 28, 3) := dX3_minutesIn_3
theorem I18_6 : decode (zB 18) 6 = .ok (.iload_n 3, 1) := dX3_minutesIn_6
theorem I18_7 : decode (zB 18) 7 = .ok (.invokestatic 32, 3) := dX3_minutesIn_7
theorem I18_10 : decode (zB 18) 10 = .ok (.aload_n 0, 1) := dX3_minutesIn_10
theorem I18_11 : decode (zB 18) 11 = .ok (.getfield 15, 3) := dX3_minutesIn_11
theorem I18_14 : decode (zB 18) 14 = .ok (.iload_n 1, 1) := dX3_minutesIn_14
theorem I18_15 : decode (zB 18) 15 = .ok (.iaload, 1) := dX3_minutesIn_15
theorem I18_16 : decode (zB 18) 16 = .ok (.iload_n 2, 1) := dX3_minutesIn_16
theorem I18_17 : decode (zB 18) 17 = .ok (.invokestatic 38, 3) := dX3_minutesIn_17
theorem I18_20 : decode (zB 18) 20 = .ok (.isub, 1) := dX3_minutesIn_20
theorem I18_21 : decode (zB 18) 21 = .ok (.invokestatic 38, 3) := dX3_minutesIn_21
theorem I18_24 : decode (zB 18) 24 = .ok (.ireturn, 1) := dX3_minutesIn_24
theorem I19_0 : decode (zB 19) 0 = .ok (.iconst 0, 1) := dX3_minutesOf_0
theorem I19_1 : decode (zB 19) 1 = .ok (.istore_n 2, 1) := dX3_minutesOf_1
theorem I19_2 : decode (zB 19) 2 = .ok (.iconst 0, 1) := dX3_minutesOf_2
theorem I19_3 : decode (zB 19) 3 = .ok (.istore_n 3, 1) := dX3_minutesOf_3
theorem I19_4 : decode (zB 19) 4 = .ok (.iload_n 3, 1) := dX3_minutesOf_4
theorem I19_5 : decode (zB 19) 5 = .ok (.aload_n 0, 1) := dX3_minutesOf_5
theorem I19_6 : decode (zB 19) 6 = .ok (.getfield 24, 3) := dX3_minutesOf_6
theorem I19_9 : decode (zB 19) 9 = .ok (.if_icmp .ge 28, 3) := dX3_minutesOf_9
theorem I19_12 : decode (zB 19) 12 = .ok (.aload_n 0, 1) := dX3_minutesOf_12
theorem I19_13 : decode (zB 19) 13 = .ok (.getfield 9, 3) := dX3_minutesOf_13
theorem I19_16 : decode (zB 19) 16 = .ok (.iload_n 3, 1) := dX3_minutesOf_16
theorem I19_17 : decode (zB 19) 17 = .ok (.iaload, 1) := dX3_minutesOf_17
theorem I19_18 : decode (zB 19) 18 = .ok (.iload_n 1, 1) := dX3_minutesOf_18
theorem I19_19 : decode (zB 19) 19 = .ok (.if_icmp .ne 12, 3) := dX3_minutesOf_19
theorem I19_22 : decode (zB 19) 22 = .ok (.iload_n 2, 1) := dX3_minutesOf_22
theorem I19_23 : decode (zB 19) 23 = .ok (.aload_n 0, 1) := dX3_minutesOf_23
theorem I19_24 : decode (zB 19) 24 = .ok (.getfield 18, 3) := dX3_minutesOf_24
theorem I19_27 : decode (zB 19) 27 = .ok (.iload_n 3, 1) := dX3_minutesOf_27
theorem I19_28 : decode (zB 19) 28 = .ok (.iaload, 1) := dX3_minutesOf_28
theorem I19_29 : decode (zB 19) 29 = .ok (.iadd, 1) := dX3_minutesOf_29
theorem I19_30 : decode (zB 19) 30 = .ok (.istore_n 2, 1) := dX3_minutesOf_30
theorem I19_31 : decode (zB 19) 31 = .ok (.iinc 3 1, 3) := dX3_minutesOf_31
theorem I19_34 : decode (zB 19) 34 = .ok (.goto (-30), 3) := dX3_minutesOf_34
theorem I19_37 : decode (zB 19) 37 = .ok (.iload_n 2, 1) := dX3_minutesOf_37
theorem I19_38 : decode (zB 19) 38 = .ok (.ireturn, 1) := dX3_minutesOf_38
theorem I20_0 : decode (zB 20) 0 = .ok (.iconst 0, 1) := dX3_indexFor_0
theorem I20_1 : decode (zB 20) 1 = .ok (.istore_n 2, 1) := dX3_indexFor_1
theorem I20_2 : decode (zB 20) 2 = .ok (.iconst 0, 1) := dX3_indexFor_2
theorem I20_3 : decode (zB 20) 3 = .ok (.istore_n 3, 1) := dX3_indexFor_3
theorem I20_4 : decode (zB 20) 4 = .ok (.iload_n 3, 1) := dX3_indexFor_4
theorem I20_5 : decode (zB 20) 5 = .ok (.aload_n 0, 1) := dX3_indexFor_5
theorem I20_6 : decode (zB 20) 6 = .ok (.getfield 24, 3) := dX3_indexFor_6
theorem I20_9 : decode (zB 20) 9 = .ok (.if_icmp .ge 22, 3) := dX3_indexFor_9
theorem I20_12 : decode (zB 20) 12 = .ok (.aload_n 0, 1) := dX3_indexFor_12
theorem I20_13 : decode (zB 20) 13 = .ok (.getfield 15, 3) := dX3_indexFor_13
theorem I20_16 : decode (zB 20) 16 = .ok (.iload_n 3, 1) := dX3_indexFor_16
theorem I20_17 : decode (zB 20) 17 = .ok (.iaload, 1) := dX3_indexFor_17
theorem I20_18 : decode (zB 20) 18 = .ok (.iload_n 1, 1) := dX3_indexFor_18
theorem I20_19 : decode (zB 20) 19 = .ok (.if_icmp .ge 6, 3) := dX3_indexFor_19
theorem I20_22 : decode (zB 20) 22 = .ok (.iinc 2 1, 3) := dX3_indexFor_22
theorem I20_25 : decode (zB 20) 25 = .ok (.iinc 3 1, 3) := dX3_indexFor_25
theorem I20_28 : decode (zB 20) 28 = .ok (.goto (-24), 3) := dX3_indexFor_28
theorem I20_31 : decode (zB 20) 31 = .ok (.iload_n 2, 1) := dX3_indexFor_31
theorem I20_32 : decode (zB 20) 32 = .ok (.ireturn, 1) := dX3_indexFor_32
theorem I21_0 : decode (zB 21) 0 = .ok (.aload_n 0, 1) := dX3_insert_0
theorem I21_1 : decode (zB 21) 1 = .ok (.iload_n 1, 1) := dX3_insert_1
theorem I21_2 : decode (zB 21) 2 = .ok (.iload_n 1, 1) := dX3_insert_2
theorem I21_3 : decode (zB 21) 3 = .ok (.iconst 1, 1) := dX3_insert_3
theorem I21_4 : decode (zB 21) 4 = .ok (.iadd, 1) := dX3_insert_4
theorem I21_5 : decode (zB 21) 5 = .ok (.invokevirtual 41, 3) := dX3_insert_5
theorem I21_8 : decode (zB 21) 8 = .ok (.aload_n 0, 1) := dX3_insert_8
theorem I21_9 : decode (zB 21) 9 = .ok (.getfield 9, 3) := dX3_insert_9
theorem I21_12 : decode (zB 21) 12 = .ok (.iload_n 1, 1) := dX3_insert_12
theorem I21_13 : decode (zB 21) 13 = .ok (.iload_n 2, 1) := dX3_insert_13
theorem I21_14 : decode (zB 21) 14 = .ok (.iastore, 1) := dX3_insert_14
theorem I21_15 : decode (zB 21) 15 = .ok (.aload_n 0, 1) := dX3_insert_15
theorem I21_16 : decode (zB 21) 16 = .ok (.getfield 15, 3) := dX3_insert_16
theorem I21_19 : decode (zB 21) 19 = .ok (.iload_n 1, 1) := dX3_insert_19
theorem I21_20 : decode (zB 21) 20 = .ok (.iload_n 3, 1) := dX3_insert_20
theorem I21_21 : decode (zB 21) 21 = .ok (.iastore, 1) := dX3_insert_21
theorem I21_22 : decode (zB 21) 22 = .ok (.aload_n 0, 1) := dX3_insert_22
theorem I21_23 : decode (zB 21) 23 = .ok (.getfield 18, 3) := dX3_insert_23
theorem I21_26 : decode (zB 21) 26 = .ok (.iload_n 1, 1) := dX3_insert_26
theorem I21_27 : decode (zB 21) 27 = .ok (.iload 4, 2) := dX3_insert_27
theorem I21_29 : decode (zB 21) 29 = .ok (.iastore, 1) := dX3_insert_29
theorem I21_30 : decode (zB 21) 30 = .ok (.aload_n 0, 1) := dX3_insert_30
theorem I21_31 : decode (zB 21) 31 = .ok (.getfield 21, 3) := dX3_insert_31
theorem I21_34 : decode (zB 21) 34 = .ok (.iload_n 1, 1) := dX3_insert_34
theorem I21_35 : decode (zB 21) 35 = .ok (.iload 5, 2) := dX3_insert_35
theorem I21_37 : decode (zB 21) 37 = .ok (.ifCond .eq 7, 3) := dX3_insert_37
theorem I21_40 : decode (zB 21) 40 = .ok (.iconst 1, 1) := dX3_insert_40
theorem I21_41 : decode (zB 21) 41 = .ok (.goto 4, 3) := dX3_insert_41
theorem I21_44 : decode (zB 21) 44 = .ok (.iconst 0, 1) := dX3_insert_44
theorem I21_45 : decode (zB 21) 45 = .ok (.iastore, 1) := dX3_insert_45
theorem I21_46 : decode (zB 21) 46 = .ok (.aload_n 0, 1) := dX3_insert_46
theorem I21_47 : decode (zB 21) 47 = .ok (.dup, 1) := dX3_insert_47
theorem I21_48 : decode (zB 21) 48 = .ok (.getfield 24, 3) := dX3_insert_48
theorem I21_51 : decode (zB 21) 51 = .ok (.iconst 1, 1) := dX3_insert_51
theorem I21_52 : decode (zB 21) 52 = .ok (.iadd, 1) := dX3_insert_52
theorem I21_53 : decode (zB 21) 53 = .ok (.putfield 24, 3) := dX3_insert_53
theorem I21_56 : decode (zB 21) 56 = .ok (.return_, 1) := dX3_insert_56
theorem I22_0 : decode (zB 22) 0 = .ok (.aload_n 0, 1) := dX3_delete_0
theorem I22_1 : decode (zB 22) 1 = .ok (.iload_n 1, 1) := dX3_delete_1
theorem I22_2 : decode (zB 22) 2 = .ok (.iconst 1, 1) := dX3_delete_2
theorem I22_3 : decode (zB 22) 3 = .ok (.iadd, 1) := dX3_delete_3
theorem I22_4 : decode (zB 22) 4 = .ok (.iload_n 1, 1) := dX3_delete_4
theorem I22_5 : decode (zB 22) 5 = .ok (.invokevirtual 41, 3) := dX3_delete_5
theorem I22_8 : decode (zB 22) 8 = .ok (.aload_n 0, 1) := dX3_delete_8
theorem I22_9 : decode (zB 22) 9 = .ok (.dup, 1) := dX3_delete_9
theorem I22_10 : decode (zB 22) 10 = .ok (.getfield 24, 3) := dX3_delete_10
theorem I22_13 : decode (zB 22) 13 = .ok (.iconst 1, 1) := dX3_delete_13
theorem I22_14 : decode (zB 22) 14 = .ok (.isub, 1) := dX3_delete_14
theorem I22_15 : decode (zB 22) 15 = .ok (.putfield 24, 3) := dX3_delete_15
theorem I22_18 : decode (zB 22) 18 = .ok (.return_, 1) := dX3_delete_18
theorem I23_0 : decode (zB 23) 0 = .ok (.aload_n 0, 1) := dX3_move_0
theorem I23_1 : decode (zB 23) 1 = .ok (.getfield 9, 3) := dX3_move_1
theorem I23_4 : decode (zB 23) 4 = .ok (.iload_n 1, 1) := dX3_move_4
theorem I23_5 : decode (zB 23) 5 = .ok (.aload_n 0, 1) := dX3_move_5
theorem I23_6 : decode (zB 23) 6 = .ok (.getfield 9, 3) := dX3_move_6
theorem I23_9 : decode (zB 23) 9 = .ok (.iload_n 2, 1) := dX3_move_9
theorem I23_10 : decode (zB 23) 10 = .ok (.aload_n 0, 1) := dX3_move_10
theorem I23_11 : decode (zB 23) 11 = .ok (.getfield 24, 3) := dX3_move_11
theorem I23_14 : decode (zB 23) 14 = .ok (.iload_n 1, 1) := dX3_move_14
theorem I23_15 : decode (zB 23) 15 = .ok (.isub, 1) := dX3_move_15
theorem I23_16 : decode (zB 23) 16 = .ok (.invokestatic 45, 3) := dX3_move_16
theorem I23_19 : decode (zB 23) 19 = .ok (.aload_n 0, 1) := dX3_move_19
theorem I23_20 : decode (zB 23) 20 = .ok (.getfield 15, 3) := dX3_move_20
theorem I23_23 : decode (zB 23) 23 = .ok (.iload_n 1, 1) := dX3_move_23
theorem I23_24 : decode (zB 23) 24 = .ok (.aload_n 0, 1) := dX3_move_24
theorem I23_25 : decode (zB 23) 25 = .ok (.getfield 15, 3) := dX3_move_25
theorem I23_28 : decode (zB 23) 28 = .ok (.iload_n 2, 1) := dX3_move_28
theorem I23_29 : decode (zB 23) 29 = .ok (.aload_n 0, 1) := dX3_move_29
theorem I23_30 : decode (zB 23) 30 = .ok (.getfield 24, 3) := dX3_move_30
theorem I23_33 : decode (zB 23) 33 = .ok (.iload_n 1, 1) := dX3_move_33
theorem I23_34 : decode (zB 23) 34 = .ok (.isub, 1) := dX3_move_34
theorem I23_35 : decode (zB 23) 35 = .ok (.invokestatic 45, 3) := dX3_move_35
theorem I23_38 : decode (zB 23) 38 = .ok (.aload_n 0, 1) := dX3_move_38
theorem I23_39 : decode (zB 23) 39 = .ok (.getfield 18, 3) := dX3_move_39
theorem I23_42 : decode (zB 23) 42 = .ok (.iload_n 1, 1) := dX3_move_42
theorem I23_43 : decode (zB 23) 43 = .ok (.aload_n 0, 1) := dX3_move_43
theorem I23_44 : decode (zB 23) 44 = .ok (.getfield 18, 3) := dX3_move_44
theorem I23_47 : decode (zB 23) 47 = .ok (.iload_n 2, 1) := dX3_move_47
theorem I23_48 : decode (zB 23) 48 = .ok (.aload_n 0, 1) := dX3_move_48
theorem I23_49 : decode (zB 23) 49 = .ok (.getfield 24, 3) := dX3_move_49
theorem I23_52 : decode (zB 23) 52 = .ok (.iload_n 1, 1) := dX3_move_52
theorem I23_53 : decode (zB 23) 53 = .ok (.isub, 1) := dX3_move_53
theorem I23_54 : decode (zB 23) 54 = .ok (.invokestatic 45, 3) := dX3_move_54
theorem I23_57 : decode (zB 23) 57 = .ok (.aload_n 0, 1) := dX3_move_57
theorem I23_58 : decode (zB 23) 58 = .ok (.getfield 21, 3) := dX3_move_58
theorem I23_61 : decode (zB 23) 61 = .ok (.iload_n 1, 1) := dX3_move_61
theorem I23_62 : decode (zB 23) 62 = .ok (.aload_n 0, 1) := dX3_move_62
theorem I23_63 : decode (zB 23) 63 = .ok (.getfield 21, 3) := dX3_move_63
theorem I23_66 : decode (zB 23) 66 = .ok (.iload_n 2, 1) := dX3_move_66
theorem I23_67 : decode (zB 23) 67 = .ok (.aload_n 0, 1) := dX3_move_67
theorem I23_68 : decode (zB 23) 68 = .ok (.getfield 24, 3) := dX3_move_68
theorem I23_71 : decode (zB 23) 71 = .ok (.iload_n 1, 1) := dX3_move_71
theorem I23_72 : decode (zB 23) 72 = .ok (.isub, 1) := dX3_move_72
theorem I23_73 : decode (zB 23) 73 = .ok (.invokestatic 45, 3) := dX3_move_73
theorem I23_76 : decode (zB 23) 76 = .ok (.return_, 1) := dX3_move_76
theorem I24_0 : decode (zB 24) 0 = .ok (.aload_n 0, 1) := dX3_copyFrom_0
theorem I24_1 : decode (zB 24) 1 = .ok (.aload_n 1, 1) := dX3_copyFrom_1
theorem I24_2 : decode (zB 24) 2 = .ok (.getfield 24, 3) := dX3_copyFrom_2
theorem I24_5 : decode (zB 24) 5 = .ok (.putfield 24, 3) := dX3_copyFrom_5
theorem I24_8 : decode (zB 24) 8 = .ok (.aload_n 1, 1) := dX3_copyFrom_8
theorem I24_9 : decode (zB 24) 9 = .ok (.getfield 9, 3) := dX3_copyFrom_9
theorem I24_12 : decode (zB 24) 12 = .ok (.iconst 0, 1) := dX3_copyFrom_12
theorem I24_13 : decode (zB 24) 13 = .ok (.aload_n 0, 1) := dX3_copyFrom_13
theorem I24_14 : decode (zB 24) 14 = .ok (.getfield 9, 3) := dX3_copyFrom_14
theorem I24_17 : decode (zB 24) 17 = .ok (.iconst 0, 1) := dX3_copyFrom_17
theorem I24_18 : decode (zB 24) 18 = .ok (.aload_n 0, 1) := dX3_copyFrom_18
theorem I24_19 : decode (zB 24) 19 = .ok (.getfield 24, 3) := dX3_copyFrom_19
theorem I24_22 : decode (zB 24) 22 = .ok (.invokestatic 45, 3) := dX3_copyFrom_22
theorem I24_25 : decode (zB 24) 25 = .ok (.aload_n 1, 1) := dX3_copyFrom_25
theorem I24_26 : decode (zB 24) 26 = .ok (.getfield 15, 3) := dX3_copyFrom_26
theorem I24_29 : decode (zB 24) 29 = .ok (.iconst 0, 1) := dX3_copyFrom_29
theorem I24_30 : decode (zB 24) 30 = .ok (.aload_n 0, 1) := dX3_copyFrom_30
theorem I24_31 : decode (zB 24) 31 = .ok (.getfield 15, 3) := dX3_copyFrom_31
theorem I24_34 : decode (zB 24) 34 = .ok (.iconst 0, 1) := dX3_copyFrom_34
theorem I24_35 : decode (zB 24) 35 = .ok (.aload_n 0, 1) := dX3_copyFrom_35
theorem I24_36 : decode (zB 24) 36 = .ok (.getfield 24, 3) := dX3_copyFrom_36
theorem I24_39 : decode (zB 24) 39 = .ok (.invokestatic 45, 3) := dX3_copyFrom_39
theorem I24_42 : decode (zB 24) 42 = .ok (.aload_n 1, 1) := dX3_copyFrom_42
theorem I24_43 : decode (zB 24) 43 = .ok (.getfield 18, 3) := dX3_copyFrom_43
theorem I24_46 : decode (zB 24) 46 = .ok (.iconst 0, 1) := dX3_copyFrom_46
theorem I24_47 : decode (zB 24) 47 = .ok (.aload_n 0, 1) := dX3_copyFrom_47
theorem I24_48 : decode (zB 24) 48 = .ok (.getfield 18, 3) := dX3_copyFrom_48
theorem I24_51 : decode (zB 24) 51 = .ok (.iconst 0, 1) := dX3_copyFrom_51
theorem I24_52 : decode (zB 24) 52 = .ok (.aload_n 0, 1) := dX3_copyFrom_52
theorem I24_53 : decode (zB 24) 53 = .ok (.getfield 24, 3) := dX3_copyFrom_53
theorem I24_56 : decode (zB 24) 56 = .ok (.invokestatic 45, 3) := dX3_copyFrom_56
theorem I24_59 : decode (zB 24) 59 = .ok (.aload_n 1, 1) := dX3_copyFrom_59
theorem I24_60 : decode (zB 24) 60 = .ok (.getfield 21, 3) := dX3_copyFrom_60
theorem I24_63 : decode (zB 24) 63 = .ok (.iconst 0, 1) := dX3_copyFrom_63
theorem I24_64 : decode (zB 24) 64 = .ok (.aload_n 0, 1) := dX3_copyFrom_64
theorem I24_65 : decode (zB 24) 65 = .ok (.getfield 21, 3) := dX3_copyFrom_65
theorem I24_68 : decode (zB 24) 68 = .ok (.iconst 0, 1) := dX3_copyFrom_68
theorem I24_69 : decode (zB 24) 69 = .ok (.aload_n 0, 1) := dX3_copyFrom_69
theorem I24_70 : decode (zB 24) 70 = .ok (.getfield 24, 3) := dX3_copyFrom_70
theorem I24_73 : decode (zB 24) 73 = .ok (.invokestatic 45, 3) := dX3_copyFrom_73
theorem I24_76 : decode (zB 24) 76 = .ok (.return_, 1) := dX3_copyFrom_76
theorem I25_0 : decode (zB 25) 0 = .ok (.aload_n 0, 1) := dX4_init_0
theorem I25_1 : decode (zB 25) 1 = .ok (.invokespecial 3, 3) := dX4_init_1
theorem I25_4 : decode (zB 25) 4 = .ok (.aload_n 0, 1) := dX4_init_4
theorem I25_5 : decode (zB 25) 5 = .ok (.bipush 16, 2) := dX4_init_5
theorem I25_7 : decode (zB 25) 7 = .ok (.newarray .int, 2) := dX4_init_7
theorem I25_9 : decode (zB 25) 9 = .ok (.putfield 9, 3) := dX4_init_9
theorem I25_12 : decode (zB 25) 12 = .ok (.aload_n 0, 1) := dX4_init_12
theorem I25_13 : decode (zB 25) 13 = .ok (.bipush 16, 2) := dX4_init_13
theorem I25_15 : decode (zB 25) 15 = .ok (.newarray .int, 2) := dX4_init_15
theorem I25_17 : decode (zB 25) 17 = .ok (.putfield 15, 3) := dX4_init_17
theorem I25_20 : decode (zB 25) 20 = .ok (.aload_n 0, 1) := dX4_init_20
theorem I25_21 : decode (zB 25) 21 = .ok (.bipush 16, 2) := dX4_init_21
theorem I25_23 : decode (zB 25) 23 = .ok (.newarray .int, 2) := dX4_init_23
theorem I25_25 : decode (zB 25) 25 = .ok (.putfield 18, 3) := dX4_init_25
theorem I25_28 : decode (zB 25) 28 = .ok (.aload_n 0, 1) := dX4_init_28
theorem I25_29 : decode (zB 25) 29 = .ok (.bipush 16, 2) := dX4_init_29
theorem I25_31 : decode (zB 25) 31 = .ok (.newarray .int, 2) := dX4_init_31
theorem I25_33 : decode (zB 25) 33 = .ok (.putfield 21, 3) := dX4_init_33
theorem I25_36 : decode (zB 25) 36 = .ok (.return_, 1) := dX4_init_36
theorem I26_0 : decode (zB 26) 0 = .ok (.aload_n 0, 1) := dX4_append_0
theorem I26_1 : decode (zB 26) 1 = .ok (.getfield 9, 3) := dX4_append_1
theorem I26_4 : decode (zB 26) 4 = .ok (.aload_n 0, 1) := dX4_append_4
theorem I26_5 : decode (zB 26) 5 = .ok (.getfield 24, 3) := dX4_append_5
theorem I26_8 : decode (zB 26) 8 = .ok (.iload_n 1, 1) := dX4_append_8
theorem I26_9 : decode (zB 26) 9 = .ok (.iastore, 1) := dX4_append_9
theorem I26_10 : decode (zB 26) 10 = .ok (.aload_n 0, 1) := dX4_append_10
theorem I26_11 : decode (zB 26) 11 = .ok (.getfield 15, 3) := dX4_append_11
theorem I26_14 : decode (zB 26) 14 = .ok (.aload_n 0, 1) := dX4_append_14
theorem I26_15 : decode (zB 26) 15 = .ok (.getfield 24, 3) := dX4_append_15
theorem I26_18 : decode (zB 26) 18 = .ok (.iload_n 2, 1) := dX4_append_18
theorem I26_19 : decode (zB 26) 19 = .ok (.iastore, 1) := dX4_append_19
theorem I26_20 : decode (zB 26) 20 = .ok (.aload_n 0, 1) := dX4_append_20
theorem I26_21 : decode (zB 26) 21 = .ok (.getfield 18, 3) := dX4_append_21
theorem I26_24 : decode (zB 26) 24 = .ok (.aload_n 0, 1) := dX4_append_24
theorem I26_25 : decode (zB 26) 25 = .ok (.getfield 24, 3) := dX4_append_25
theorem I26_28 : decode (zB 26) 28 = .ok (.iload_n 3, 1) := dX4_append_28
theorem I26_29 : decode (zB 26) 29 = .ok (.iastore, 1) := dX4_append_29
theorem I26_30 : decode (zB 26) 30 = .ok (.aload_n 0, 1) := dX4_append_30
theorem I26_31 : decode (zB 26) 31 = .ok (.getfield 21, 3) := dX4_append_31
theorem I26_34 : decode (zB 26) 34 = .ok (.aload_n 0, 1) := dX4_append_34
theorem I26_35 : decode (zB 26) 35 = .ok (.getfield 24, 3) := dX4_append_35
theorem I26_38 : decode (zB 26) 38 = .ok (.iconst 0, 1) := dX4_append_38
theorem I26_39 : decode (zB 26) 39 = .ok (.iastore, 1) := dX4_append_39
theorem I26_40 : decode (zB 26) 40 = .ok (.aload_n 0, 1) := dX4_append_40
theorem I26_41 : decode (zB 26) 41 = .ok (.dup, 1) := dX4_append_41
theorem I26_42 : decode (zB 26) 42 = .ok (.getfield 24, 3) := dX4_append_42
theorem I26_45 : decode (zB 26) 45 = .ok (.dup_x1, 1) := dX4_append_45
theorem I26_46 : decode (zB 26) 46 = .ok (.iconst 1, 1) := dX4_append_46
theorem I26_47 : decode (zB 26) 47 = .ok (.iadd, 1) := dX4_append_47
theorem I26_48 : decode (zB 26) 48 = .ok (.putfield 24, 3) := dX4_append_48
theorem I26_51 : decode (zB 26) 51 = .ok (.ireturn, 1) := dX4_append_51
theorem I27_0 : decode (zB 27) 0 = .ok (.aload_n 0, 1) := dX4_copyFrom_0
theorem I27_1 : decode (zB 27) 1 = .ok (.aload_n 1, 1) := dX4_copyFrom_1
theorem I27_2 : decode (zB 27) 2 = .ok (.getfield 24, 3) := dX4_copyFrom_2
theorem I27_5 : decode (zB 27) 5 = .ok (.putfield 24, 3) := dX4_copyFrom_5
theorem I27_8 : decode (zB 27) 8 = .ok (.aload_n 1, 1) := dX4_copyFrom_8
theorem I27_9 : decode (zB 27) 9 = .ok (.getfield 9, 3) := dX4_copyFrom_9
theorem I27_12 : decode (zB 27) 12 = .ok (.iconst 0, 1) := dX4_copyFrom_12
theorem I27_13 : decode (zB 27) 13 = .ok (.aload_n 0, 1) := dX4_copyFrom_13
theorem I27_14 : decode (zB 27) 14 = .ok (.getfield 9, 3) := dX4_copyFrom_14
theorem I27_17 : decode (zB 27) 17 = .ok (.iconst 0, 1) := dX4_copyFrom_17
theorem I27_18 : decode (zB 27) 18 = .ok (.aload_n 0, 1) := dX4_copyFrom_18
theorem I27_19 : decode (zB 27) 19 = .ok (.getfield 24, 3) := dX4_copyFrom_19
theorem I27_22 : decode (zB 27) 22 = .ok (.invokestatic 28, 3) := dX4_copyFrom_22
theorem I27_25 : decode (zB 27) 25 = .ok (.aload_n 1, 1) := dX4_copyFrom_25
theorem I27_26 : decode (zB 27) 26 = .ok (.getfield 15, 3) := dX4_copyFrom_26
theorem I27_29 : decode (zB 27) 29 = .ok (.iconst 0, 1) := dX4_copyFrom_29
theorem I27_30 : decode (zB 27) 30 = .ok (.aload_n 0, 1) := dX4_copyFrom_30
theorem I27_31 : decode (zB 27) 31 = .ok (.getfield 15, 3) := dX4_copyFrom_31
theorem I27_34 : decode (zB 27) 34 = .ok (.iconst 0, 1) := dX4_copyFrom_34
theorem I27_35 : decode (zB 27) 35 = .ok (.aload_n 0, 1) := dX4_copyFrom_35
theorem I27_36 : decode (zB 27) 36 = .ok (.getfield 24, 3) := dX4_copyFrom_36
theorem I27_39 : decode (zB 27) 39 = .ok (.invokestatic 28, 3) := dX4_copyFrom_39
theorem I27_42 : decode (zB 27) 42 = .ok (.aload_n 1, 1) := dX4_copyFrom_42
theorem I27_43 : decode (zB 27) 43 = .ok (.getfield 18, 3) := dX4_copyFrom_43
theorem I27_46 : decode (zB 27) 46 = .ok (.iconst 0, 1) := dX4_copyFrom_46
theorem I27_47 : decode (zB 27) 47 = .ok (.aload_n 0, 1) := dX4_copyFrom_47
theorem I27_48 : decode (zB 27) 48 = .ok (.getfield 18, 3) := dX4_copyFrom_48
theorem I27_51 : decode (zB 27) 51 = .ok (.iconst 0, 1) := dX4_copyFrom_51
theorem I27_52 : decode (zB 27) 52 = .ok (.aload_n 0, 1) := dX4_copyFrom_52
theorem I27_53 : decode (zB 27) 53 = .ok (.getfield 24, 3) := dX4_copyFrom_53
theorem I27_56 : decode (zB 27) 56 = .ok (.invokestatic 28, 3) := dX4_copyFrom_56
theorem I27_59 : decode (zB 27) 59 = .ok (.aload_n 1, 1) := dX4_copyFrom_59
theorem I27_60 : decode (zB 27) 60 = .ok (.getfield 21, 3) := dX4_copyFrom_60
theorem I27_63 : decode (zB 27) 63 = .ok (.iconst 0, 1) := dX4_copyFrom_63
theorem I27_64 : decode (zB 27) 64 = .ok (.aload_n 0, 1) := dX4_copyFrom_64
theorem I27_65 : decode (zB 27) 65 = .ok (.getfield 21, 3) := dX4_copyFrom_65
theorem I27_68 : decode (zB 27) 68 = .ok (.iconst 0, 1) := dX4_copyFrom_68
theorem I27_69 : decode (zB 27) 69 = .ok (.aload_n 0, 1) := dX4_copyFrom_69
theorem I27_70 : decode (zB 27) 70 = .ok (.getfield 24, 3) := dX4_copyFrom_70
theorem I27_73 : decode (zB 27) 73 = .ok (.invokestatic 28, 3) := dX4_copyFrom_73
theorem I27_76 : decode (zB 27) 76 = .ok (.return_, 1) := dX4_copyFrom_76
theorem I28_0 : decode (zB 28) 0 = .ok (.aload_n 0, 1) := dX5_init_0
theorem I28_1 : decode (zB 28) 1 = .ok (.invokespecial 3, 3) := dX5_init_1
theorem I28_4 : decode (zB 28) 4 = .ok (.aload_n 0, 1) := dX5_init_4
theorem I28_5 : decode (zB 28) 5 = .ok (.bipush 30, 2) := dX5_init_5
theorem I28_7 : decode (zB 28) 7 = .ok (.newarray .int, 2) := dX5_init_7
theorem I28_9 : decode (zB 28) 9 = .ok (.putfield 9, 3) := dX5_init_9
theorem I28_12 : decode (zB 28) 12 = .ok (.aload_n 0, 1) := dX5_init_12
theorem I28_13 : decode (zB 28) 13 = .ok (.bipush 30, 2) := dX5_init_13
theorem I28_15 : decode (zB 28) 15 = .ok (.newarray .int, 2) := dX5_init_15
theorem I28_17 : decode (zB 28) 17 = .ok (.putfield 15, 3) := dX5_init_17
theorem I28_20 : decode (zB 28) 20 = .ok (.aload_n 0, 1) := dX5_init_20
theorem I28_21 : decode (zB 28) 21 = .ok (.bipush 30, 2) := dX5_init_21
theorem I28_23 : decode (zB 28) 23 = .ok (.newarray .int, 2) := dX5_init_23
theorem I28_25 : decode (zB 28) 25 = .ok (.putfield 18, 3) := dX5_init_25
theorem I28_28 : decode (zB 28) 28 = .ok (.aload_n 0, 1) := dX5_init_28
theorem I28_29 : decode (zB 28) 29 = .ok (.bipush 30, 2) := dX5_init_29
theorem I28_31 : decode (zB 28) 31 = .ok (.newarray .int, 2) := dX5_init_31
theorem I28_33 : decode (zB 28) 33 = .ok (.putfield 21, 3) := dX5_init_33
theorem I28_36 : decode (zB 28) 36 = .ok (.return_, 1) := dX5_init_36
theorem I29_0 : decode (zB 29) 0 = .ok (.aload_n 0, 1) := dX5_append_0
theorem I29_1 : decode (zB 29) 1 = .ok (.getfield 9, 3) := dX5_append_1
theorem I29_4 : decode (zB 29) 4 = .ok (.aload_n 0, 1) := dX5_append_4
theorem I29_5 : decode (zB 29) 5 = .ok (.getfield 24, 3) := dX5_append_5
theorem I29_8 : decode (zB 29) 8 = .ok (.iload_n 1, 1) := dX5_append_8
theorem I29_9 : decode (zB 29) 9 = .ok (.iastore, 1) := dX5_append_9
theorem I29_10 : decode (zB 29) 10 = .ok (.aload_n 0, 1) := dX5_append_10
theorem I29_11 : decode (zB 29) 11 = .ok (.getfield 15, 3) := dX5_append_11
theorem I29_14 : decode (zB 29) 14 = .ok (.aload_n 0, 1) := dX5_append_14
theorem I29_15 : decode (zB 29) 15 = .ok (.getfield 24, 3) := dX5_append_15
theorem I29_18 : decode (zB 29) 18 = .ok (.iload_n 2, 1) := dX5_append_18
theorem I29_19 : decode (zB 29) 19 = .ok (.iastore, 1) := dX5_append_19
theorem I29_20 : decode (zB 29) 20 = .ok (.aload_n 0, 1) := dX5_append_20
theorem I29_21 : decode (zB 29) 21 = .ok (.getfield 18, 3) := dX5_append_21
theorem I29_24 : decode (zB 29) 24 = .ok (.aload_n 0, 1) := dX5_append_24
theorem I29_25 : decode (zB 29) 25 = .ok (.getfield 24, 3) := dX5_append_25
theorem I29_28 : decode (zB 29) 28 = .ok (.iload_n 3, 1) := dX5_append_28
theorem I29_29 : decode (zB 29) 29 = .ok (.iastore, 1) := dX5_append_29
theorem I29_30 : decode (zB 29) 30 = .ok (.aload_n 0, 1) := dX5_append_30
theorem I29_31 : decode (zB 29) 31 = .ok (.getfield 21, 3) := dX5_append_31
theorem I29_34 : decode (zB 29) 34 = .ok (.aload_n 0, 1) := dX5_append_34
theorem I29_35 : decode (zB 29) 35 = .ok (.getfield 24, 3) := dX5_append_35
theorem I29_38 : decode (zB 29) 38 = .ok (.iload 4, 2) := dX5_append_38
theorem I29_40 : decode (zB 29) 40 = .ok (.iastore, 1) := dX5_append_40
theorem I29_41 : decode (zB 29) 41 = .ok (.aload_n 0, 1) := dX5_append_41
theorem I29_42 : decode (zB 29) 42 = .ok (.dup, 1) := dX5_append_42
theorem I29_43 : decode (zB 29) 43 = .ok (.getfield 24, 3) := dX5_append_43
theorem I29_46 : decode (zB 29) 46 = .ok (.dup_x1, 1) := dX5_append_46
theorem I29_47 : decode (zB 29) 47 = .ok (.iconst 1, 1) := dX5_append_47
theorem I29_48 : decode (zB 29) 48 = .ok (.iadd, 1) := dX5_append_48
theorem I29_49 : decode (zB 29) 49 = .ok (.putfield 24, 3) := dX5_append_49
theorem I29_52 : decode (zB 29) 52 = .ok (.ireturn, 1) := dX5_append_52
theorem I30_0 : decode (zB 30) 0 = .ok (.aload_n 0, 1) := dX5_covers_0
theorem I30_1 : decode (zB 30) 1 = .ok (.getfield 9, 3) := dX5_covers_1
theorem I30_4 : decode (zB 30) 4 = .ok (.iload_n 1, 1) := dX5_covers_4
theorem I30_5 : decode (zB 30) 5 = .ok (.iaload, 1) := dX5_covers_5
theorem I30_6 : decode (zB 30) 6 = .ok (.iload_n 2, 1) := dX5_covers_6
theorem I30_7 : decode (zB 30) 7 = .ok (.if_icmp .ne 28, 3) := dX5_covers_7
theorem I30_10 : decode (zB 30) 10 = .ok (.aload_n 0, 1) := dX5_covers_10
theorem I30_11 : decode (zB 30) 11 = .ok (.getfield 15, 3) := dX5_covers_11
theorem I30_14 : decode (zB 30) 14 = .ok (.iload_n 1, 1) := dX5_covers_14
theorem I30_15 : decode (zB 30) 15 = .ok (.iaload, 1) := dX5_covers_15
theorem I30_16 : decode (zB 30) 16 = .ok (.iload_n 3, 1) := dX5_covers_16
theorem I30_17 : decode (zB 30) 17 = .ok (.if_icmp .gt 18, 3) := dX5_covers_17
theorem I30_20 : decode (zB 30) 20 = .ok (.iload 4, 2) := dX5_covers_20
theorem I30_22 : decode (zB 30) 22 = .ok (.aload_n 0, 1) := dX5_covers_22
theorem I30_23 : decode (zB 30) 23 = .ok (.getfield 18, 3) := dX5_covers_23
theorem I30_26 : decode (zB 30) 26 = .ok (.iload_n 1, 1) := dX5_covers_26
theorem I30_27 : decode (zB 30) 27 = .ok (.iaload, 1) := dX5_covers_27
theorem I30_28 : decode (zB 30) 28 = .ok (.if_icmp .gt 7, 3) := dX5_covers_28
theorem I30_31 : decode (zB 30) 31 = .ok (.iconst 1, 1) := dX5_covers_31
theorem I30_32 : decode (zB 30) 32 = .ok (.goto 4, 3) := dX5_covers_32
theorem I30_35 : decode (zB 30) 35 = .ok (.iconst 0, 1) := dX5_covers_35
theorem I30_36 : decode (zB 30) 36 = .ok (.ireturn, 1) := dX5_covers_36
theorem I31_0 : decode (zB 31) 0 = .ok (.aload_n 0, 1) := dX5_copyFrom_0
theorem I31_1 : decode (zB 31) 1 = .ok (.aload_n 1, 1) := dX5_copyFrom_1
theorem I31_2 : decode (zB 31) 2 = .ok (.getfield 24, 3) := dX5_copyFrom_2
theorem I31_5 : decode (zB 31) 5 = .ok (.putfield 24, 3) := dX5_copyFrom_5
theorem I31_8 : decode (zB 31) 8 = .ok (.aload_n 1, 1) := dX5_copyFrom_8
theorem I31_9 : decode (zB 31) 9 = .ok (.getfield 9, 3) := dX5_copyFrom_9
theorem I31_12 : decode (zB 31) 12 = .ok (.iconst 0, 1) := dX5_copyFrom_12
theorem I31_13 : decode (zB 31) 13 = .ok (.aload_n 0, 1) := dX5_copyFrom_13
theorem I31_14 : decode (zB 31) 14 = .ok (.getfield 9, 3) := dX5_copyFrom_14
theorem I31_17 : decode (zB 31) 17 = .ok (.iconst 0, 1) := dX5_copyFrom_17
theorem I31_18 : decode (zB 31) 18 = .ok (.aload_n 0, 1) := dX5_copyFrom_18
theorem I31_19 : decode (zB 31) 19 = .ok (.getfield 24, 3) := dX5_copyFrom_19
theorem I31_22 : decode (zB 31) 22 = .ok (.invokestatic 28, 3) := dX5_copyFrom_22
theorem I31_25 : decode (zB 31) 25 = .ok (.aload_n 1, 1) := dX5_copyFrom_25
theorem I31_26 : decode (zB 31) 26 = .ok (.getfield 15, 3) := dX5_copyFrom_26
theorem I31_29 : decode (zB 31) 29 = .ok (.iconst 0, 1) := dX5_copyFrom_29
theorem I31_30 : decode (zB 31) 30 = .ok (.aload_n 0, 1) := dX5_copyFrom_30
theorem I31_31 : decode (zB 31) 31 = .ok (.getfield 15, 3) := dX5_copyFrom_31
theorem I31_34 : decode (zB 31) 34 = .ok (.iconst 0, 1) := dX5_copyFrom_34
theorem I31_35 : decode (zB 31) 35 = .ok (.aload_n 0, 1) := dX5_copyFrom_35
theorem I31_36 : decode (zB 31) 36 = .ok (.getfield 24, 3) := dX5_copyFrom_36
theorem I31_39 : decode (zB 31) 39 = .ok (.invokestatic 28, 3) := dX5_copyFrom_39
theorem I31_42 : decode (zB 31) 42 = .ok (.aload_n 1, 1) := dX5_copyFrom_42
theorem I31_43 : decode (zB 31) 43 = .ok (.getfield 18, 3) := dX5_copyFrom_43
theorem I31_46 : decode (zB 31) 46 = .ok (.iconst 0, 1) := dX5_copyFrom_46
theorem I31_47 : decode (zB 31) 47 = .ok (.aload_n 0, 1) := dX5_copyFrom_47
theorem I31_48 : decode (zB 31) 48 = .ok (.getfield 18, 3) := dX5_copyFrom_48
theorem I31_51 : decode (zB 31) 51 = .ok (.iconst 0, 1) := dX5_copyFrom_51
theorem I31_52 : decode (zB 31) 52 = .ok (.aload_n 0, 1) := dX5_copyFrom_52
theorem I31_53 : decode (zB 31) 53 = .ok (.getfield 24, 3) := dX5_copyFrom_53
theorem I31_56 : decode (zB 31) 56 = .ok (.invokestatic 28, 3) := dX5_copyFrom_56
theorem I31_59 : decode (zB 31) 59 = .ok (.aload_n 1, 1) := dX5_copyFrom_59
theorem I31_60 : decode (zB 31) 60 = .ok (.getfield 21, 3) := dX5_copyFrom_60
theorem I31_63 : decode (zB 31) 63 = .ok (.iconst 0, 1) := dX5_copyFrom_63
theorem I31_64 : decode (zB 31) 64 = .ok (.aload_n 0, 1) := dX5_copyFrom_64
theorem I31_65 : decode (zB 31) 65 = .ok (.getfield 21, 3) := dX5_copyFrom_65
theorem I31_68 : decode (zB 31) 68 = .ok (.iconst 0, 1) := dX5_copyFrom_68
theorem I31_69 : decode (zB 31) 69 = .ok (.aload_n 0, 1) := dX5_copyFrom_69
theorem I31_70 : decode (zB 31) 70 = .ok (.getfield 24, 3) := dX5_copyFrom_70
theorem I31_73 : decode (zB 31) 73 = .ok (.invokestatic 28, 3) := dX5_copyFrom_73
theorem I31_76 : decode (zB 31) 76 = .ok (.return_, 1) := dX5_copyFrom_76
theorem I32_0 : decode (zB 32) 0 = .ok (.aload_n 0, 1) := dX6_init_0
theorem I32_1 : decode (zB 32) 1 = .ok (.invokespecial 3, 3) := dX6_init_1
theorem I32_4 : decode (zB 32) 4 = .ok (.aload_n 0, 1) := dX6_init_4
theorem I32_5 : decode (zB 32) 5 = .ok (.bipush 61, 2) := dX6_init_5
theorem I32_7 : decode (zB 32) 7 = .ok (.newarray .int, 2) := dX6_init_7
theorem I32_9 : decode (zB 32) 9 = .ok (.putfield 11, 3) := dX6_init_9
theorem I32_12 : decode (zB 32) 12 = .ok (.aload_n 0, 1) := dX6_init_12
theorem I32_13 : decode (zB 32) 13 = .ok (.bipush 61, 2) := dX6_init_13
theorem I32_15 : decode (zB 32) 15 = .ok (.newarray .int, 2) := dX6_init_15
theorem I32_17 : decode (zB 32) 17 = .ok (.putfield 15, 3) := dX6_init_17
theorem I32_20 : decode (zB 32) 20 = .ok (.aload_n 0, 1) := dX6_init_20
theorem I32_21 : decode (zB 32) 21 = .ok (.bipush 61, 2) := dX6_init_21
theorem I32_23 : decode (zB 32) 23 = .ok (.newarray .int, 2) := dX6_init_23
theorem I32_25 : decode (zB 32) 25 = .ok (.putfield 18, 3) := dX6_init_25
theorem I32_28 : decode (zB 32) 28 = .ok (.aload_n 0, 1) := dX6_init_28
theorem I32_29 : decode (zB 32) 29 = .ok (.bipush 61, 2) := dX6_init_29
theorem I32_31 : decode (zB 32) 31 = .ok (.newarray .int, 2) := dX6_init_31
theorem I32_33 : decode (zB 32) 33 = .ok (.putfield 21, 3) := dX6_init_33
theorem I32_36 : decode (zB 32) 36 = .ok (.aload_n 0, 1) := dX6_init_36
theorem I32_37 : decode (zB 32) 37 = .ok (.bipush 30, 2) := dX6_init_37
theorem I32_39 : decode (zB 32) 39 = .ok (.newarray .int, 2) := dX6_init_39
theorem I32_41 : decode (zB 32) 41 = .ok (.putfield 24, 3) := dX6_init_41
theorem I32_44 : decode (zB 32) 44 = .ok (.return_, 1) := dX6_init_44
theorem I33_0 : decode (zB 33) 0 = .ok (.aload_n 0, 1) := dX6_clear_0
theorem I33_1 : decode (zB 33) 1 = .ok (.iconst 0, 1) := dX6_clear_1
theorem I33_2 : decode (zB 33) 2 = .ok (.putfield 27, 3) := dX6_clear_2
theorem I33_5 : decode (zB 33) 5 = .ok (.return_, 1) := dX6_clear_5
theorem I34_0 : decode (zB 34) 0 = .ok (.aload_n 0, 1) := dX6_add_0
theorem I34_1 : decode (zB 34) 1 = .ok (.getfield 27, 3) := dX6_add_1
theorem I34_4 : decode (zB 34) 4 = .ok (.bipush 61, 2) := dX6_add_4
theorem I34_6 : decode (zB 34) 6 = .ok (.if_icmp .lt 4, 3) := dX6_add_6
theorem I34_9 : decode (zB 34) 9 = .ok (.return_, 1) := dX6_add_9
theorem I34_10 : decode (zB 34) 10 = .ok (.aload_n 0, 1) := dX6_add_10
theorem I34_11 : decode (zB 34) 11 = .ok (.getfield 27, 3) := dX6_add_11
theorem I34_14 : decode (zB 34) 14 = .ok (.istore 4, 2) := dX6_add_14
theorem I34_16 : decode (zB 34) 16 = .ok (.iload 4, 2) := dX6_add_16
theorem I34_18 : decode (zB 34) 18 = .ok (.ifCond .le 70, 3) := dX6_add_18
theorem I34_21 : decode (zB 34) 21 = .ok (.aload_n 0, 1) := dX6_add_21
theorem I34_22 : decode (zB 34) 22 = .ok (.getfield 15, 3) := dX6_add_22
theorem I34_25 : decode (zB 34) 25 = .ok (.iload 4, 2) := dX6_add_25
theorem I34_27 : decode (zB 34) 27 = .ok (.iconst 1, 1) := dX6_add_27
theorem I34_28 : decode (zB 34) 28 = .ok (.isub, 1) := dX6_add_28
theorem I34_29 : decode (zB 34) 29 = .ok (.iaload, 1) := dX6_add_29
theorem I34_30 : decode (zB 34) 30 = .ok (.iload_n 2, 1) := dX6_add_30
theorem I34_31 : decode (zB 34) 31 = .ok (.if_icmp .le 57, 3) := dX6_add_31
theorem I34_34 : decode (zB 34) 34 = .ok (.aload_n 0, 1) := dX6_add_34
theorem I34_35 : decode (zB 34) 35 = .ok (.getfield 11, 3) := dX6_add_35
theorem I34_38 : decode (zB 34) 38 = .ok (.iload 4, 2) := dX6_add_38
theorem I34_40 : decode (zB 34) 40 = .ok (.aload_n 0, 1) := dX6_add_40
theorem I34_41 : decode (zB 34) 41 = .ok (.getfield 11, 3) := dX6_add_41
theorem I34_44 : decode (zB 34) 44 = .ok (.iload 4, 2) := dX6_add_44
theorem I34_46 : decode (zB 34) 46 = .ok (.iconst 1, 1) := dX6_add_46
theorem I34_47 : decode (zB 34) 47 = .ok (.isub, 1) := dX6_add_47
theorem I34_48 : decode (zB 34) 48 = .ok (.iaload, 1) := dX6_add_48
theorem I34_49 : decode (zB 34) 49 = .ok (.iastore, 1) := dX6_add_49
theorem I34_50 : decode (zB 34) 50 = .ok (.aload_n 0, 1) := dX6_add_50
theorem I34_51 : decode (zB 34) 51 = .ok (.getfield 15, 3) := dX6_add_51
theorem I34_54 : decode (zB 34) 54 = .ok (.iload 4, 2) := dX6_add_54
theorem I34_56 : decode (zB 34) 56 = .ok (.aload_n 0, 1) := dX6_add_56
theorem I34_57 : decode (zB 34) 57 = .ok (.getfield 15, 3) := dX6_add_57
theorem I34_60 : decode (zB 34) 60 = .ok (.iload 4, 2) := dX6_add_60
theorem I34_62 : decode (zB 34) 62 = .ok (.iconst 1, 1) := dX6_add_62
theorem I34_63 : decode (zB 34) 63 = .ok (.isub, 1) := dX6_add_63
theorem I34_64 : decode (zB 34) 64 = .ok (.iaload, 1) := dX6_add_64
theorem I34_65 : decode (zB 34) 65 = .ok (.iastore, 1) := dX6_add_65
theorem I34_66 : decode (zB 34) 66 = .ok (.aload_n 0, 1) := dX6_add_66
theorem I34_67 : decode (zB 34) 67 = .ok (.getfield 18, 3) := dX6_add_67
theorem I34_70 : decode (zB 34) 70 = .ok (.iload 4, 2) := dX6_add_70
theorem I34_72 : decode (zB 34) 72 = .ok (.aload_n 0, 1) := dX6_add_72
theorem I34_73 : decode (zB 34) 73 = .ok (.getfield 18, 3) := dX6_add_73
theorem I34_76 : decode (zB 34) 76 = .ok (.iload 4, 2) := dX6_add_76
theorem I34_78 : decode (zB 34) 78 = .ok (.iconst 1, 1) := dX6_add_78
theorem I34_79 : decode (zB 34) 79 = .ok (.isub, 1) := dX6_add_79
theorem I34_80 : decode (zB 34) 80 = .ok (.iaload, 1) := dX6_add_80
theorem I34_81 : decode (zB 34) 81 = .ok (.iastore, 1) := dX6_add_81
theorem I34_82 : decode (zB 34) 82 = .ok (.iinc 4 (-1), 3) := dX6_add_82
theorem I34_85 : decode (zB 34) 85 = .ok (.goto (-69), 3) := dX6_add_85
theorem I34_88 : decode (zB 34) 88 = .ok (.aload_n 0, 1) := dX6_add_88
theorem I34_89 : decode (zB 34) 89 = .ok (.getfield 11, 3) := dX6_add_89
theorem I34_92 : decode (zB 34) 92 = .ok (.iload 4, 2) := dX6_add_92
theorem I34_94 : decode (zB 34) 94 = .ok (.iload_n 1, 1) := dX6_add_94
theorem I34_95 : decode (zB 34) 95 = .ok (.iastore, 1) := dX6_add_95
theorem I34_96 : decode (zB 34) 96 = .ok (.aload_n 0, 1) := dX6_add_96
theorem I34_97 : decode (zB 34) 97 = .ok (.getfield 15, 3) := dX6_add_97
theorem I34_100 : decode (zB 34) 100 = .ok (.iload 4, 2) := dX6_add_100
theorem I34_102 : decode (zB 34) 102 = .ok (.iload_n 2, 1) := dX6_add_102
theorem I34_103 : decode (zB 34) 103 = .ok (.iastore, 1) := dX6_add_103
theorem I34_104 : decode (zB 34) 104 = .ok (.aload_n 0, 1) := dX6_add_104
theorem I34_105 : decode (zB 34) 105 = .ok (.getfield 18, 3) := dX6_add_105
theorem I34_108 : decode (zB 34) 108 = .ok (.iload 4, 2) := dX6_add_108
theorem I34_110 : decode (zB 34) 110 = .ok (.iload_n 3, 1) := dX6_add_110
theorem I34_111 : decode (zB 34) 111 = .ok (.iastore, 1) := dX6_add_111
theorem I34_112 : decode (zB 34) 112 = .ok (.aload_n 0, 1) := dX6_add_112
theorem I34_113 : decode (zB 34) 113 = .ok (.dup, 1) := dX6_add_113
theorem I34_114 : decode (zB 34) 114 = .ok (.getfield 27, 3) := dX6_add_114
theorem I34_117 : decode (zB 34) 117 = .ok (.iconst 1, 1) := dX6_add_117
theorem I34_118 : decode (zB 34) 118 = .ok (.iadd, 1) := dX6_add_118
theorem I34_119 : decode (zB 34) 119 = .ok (.putfield 27, 3) := dX6_add_119
theorem I34_122 : decode (zB 34) 122 = .ok (.return_, 1) := dX6_add_122
theorem I35_0 : decode (zB 35) 0 = .ok (.aload_n 1, 1) := dX6_share_0
theorem I35_1 : decode (zB 35) 1 = .ok (.getfield 31, 3) := dX6_share_1
theorem I35_4 : decode (zB 35) 4 = .ok (.iconst 0, 1) := dX6_share_4
theorem I35_5 : decode (zB 35) 5 = .ok (.aload_n 0, 1) := dX6_share_5
theorem I35_6 : decode (zB 35) 6 = .ok (.getfield 24, 3) := dX6_share_6
theorem I35_9 : decode (zB 35) 9 = .ok (.iconst 0, 1) := dX6_share_9
theorem I35_10 : decode (zB 35) 10 = .ok (.aload_n 1, 1) := dX6_share_10
theorem I35_11 : decode (zB 35) 11 = .ok (.getfield 36, 3) := dX6_share_11
theorem I35_14 : decode (zB 35) 14 = .ok (.invokestatic 37, 3) := dX6_share_14
theorem I35_17 : decode (zB 35) 17 = .ok (.iconst 1, 1) := dX6_share_17
theorem I35_18 : decode (zB 35) 18 = .ok (.istore_n 2, 1) := dX6_share_18
theorem I35_19 : decode (zB 35) 19 = .ok (.iconst 0, 1) := dX6_share_19
theorem I35_20 : decode (zB 35) 20 = .ok (.istore_n 3, 1) := dX6_share_20
theorem I35_21 : decode (zB 35) 21 = .ok (.iload_n 3, 1) := dX6_share_21
theorem I35_22 : decode (zB 35) 22 = .ok (.aload_n 0, 1) := dX6_share_22
theorem I35_23 : decode (zB 35) 23 = .ok (.getfield 27, 3) := dX6_share_23
theorem I35_26 : decode (zB 35) 26 = .ok (.if_icmp .ge 52, 3) := dX6_share_26
theorem I35_29 : decode (zB 35) 29 = .ok (.aload_n 0, 1) := dX6_share_29
theorem I35_30 : decode (zB 35) 30 = .ok (.getfield 21, 3) := dX6_share_30
theorem I35_33 : decode (zB 35) 33 = .ok (.iload_n 3, 1) := dX6_share_33
theorem I35_34 : decode (zB 35) 34 = .ok (.aload_n 0, 1) := dX6_share_34
theorem I35_35 : decode (zB 35) 35 = .ok (.iload_n 3, 1) := dX6_share_35
theorem I35_36 : decode (zB 35) 36 = .ok (.aload_n 1, 1) := dX6_share_36
theorem I35_37 : decode (zB 35) 37 = .ok (.invokevirtual 43, 3) := dX6_share_37
theorem I35_40 : decode (zB 35) 40 = .ok (.iastore, 1) := dX6_share_40
theorem I35_41 : decode (zB 35) 41 = .ok (.aload_n 0, 1) := dX6_share_41
theorem I35_42 : decode (zB 35) 42 = .ok (.getfield 21, 3) := dX6_share_42
theorem I35_45 : decode (zB 35) 45 = .ok (.iload_n 3, 1) := dX6_share_45
theorem I35_46 : decode (zB 35) 46 = .ok (.iaload, 1) := dX6_share_46
theorem I35_47 : decode (zB 35) 47 = .ok (.bipush (-9), 2) := dX6_share_47
theorem I35_49 : decode (zB 35) 49 = .ok (.if_icmp .ne 8, 3) := dX6_share_49
theorem I35_52 : decode (zB 35) 52 = .ok (.iconst 0, 1) := dX6_share_52
theorem I35_53 : decode (zB 35) 53 = .ok (.istore_n 2, 1) := dX6_share_53
theorem I35_54 : decode (zB 35) 54 = .ok (.goto 18, 3) := dX6_share_54
theorem I35_57 : decode (zB 35) 57 = .ok (.aload_n 0, 1) := dX6_share_57
theorem I35_58 : decode (zB 35) 58 = .ok (.getfield 24, 3) := dX6_share_58
theorem I35_61 : decode (zB 35) 61 = .ok (.aload_n 0, 1) := dX6_share_61
theorem I35_62 : decode (zB 35) 62 = .ok (.getfield 21, 3) := dX6_share_62
theorem I35_65 : decode (zB 35) 65 = .ok (.iload_n 3, 1) := dX6_share_65
theorem I35_66 : decode (zB 35) 66 = .ok (.iaload, 1) := dX6_share_66
theorem I35_67 : decode (zB 35) 67 = .ok (.dup2, 1) := dX6_share_67
theorem I35_68 : decode (zB 35) 68 = .ok (.iaload, 1) := dX6_share_68
theorem I35_69 : decode (zB 35) 69 = .ok (.iconst 1, 1) := dX6_share_69
theorem I35_70 : decode (zB 35) 70 = .ok (.isub, 1) := dX6_share_70
theorem I35_71 : decode (zB 35) 71 = .ok (.iastore, 1) := dX6_share_71
theorem I35_72 : decode (zB 35) 72 = .ok (.iinc 3 1, 3) := dX6_share_72
theorem I35_75 : decode (zB 35) 75 = .ok (.goto (-54), 3) := dX6_share_75
theorem I35_78 : decode (zB 35) 78 = .ok (.iload_n 2, 1) := dX6_share_78
theorem I35_79 : decode (zB 35) 79 = .ok (.ireturn, 1) := dX6_share_79
theorem I36_0 : decode (zB 36) 0 = .ok (.bipush (-9), 2) := dX6_rightFor_0
theorem I36_2 : decode (zB 36) 2 = .ok (.istore_n 3, 1) := dX6_rightFor_2
theorem I36_3 : decode (zB 36) 3 = .ok (.iconst 0, 1) := dX6_rightFor_3
theorem I36_4 : decode (zB 36) 4 = .ok (.istore 4, 2) := dX6_rightFor_4
theorem I36_6 : decode (zB 36) 6 = .ok (.iload 4, 2) := dX6_rightFor_6
theorem I36_8 : decode (zB 36) 8 = .ok (.aload_n 2, 1) := dX6_rightFor_8
theorem I36_9 : decode (zB 36) 9 = .ok (.getfield 36, 3) := dX6_rightFor_9
theorem I36_12 : decode (zB 36) 12 = .ok (.if_icmp .ge 71, 3) := dX6_rightFor_12
theorem I36_15 : decode (zB 36) 15 = .ok (.aload_n 0, 1) := dX6_rightFor_15
theorem I36_16 : decode (zB 36) 16 = .ok (.getfield 24, 3) := dX6_rightFor_16
theorem I36_19 : decode (zB 36) 19 = .ok (.iload 4, 2) := dX6_rightFor_19
theorem I36_21 : decode (zB 36) 21 = .ok (.iaload, 1) := dX6_rightFor_21
theorem I36_22 : decode (zB 36) 22 = .ok (.ifCond .le 55, 3) := dX6_rightFor_22
theorem I36_25 : decode (zB 36) 25 = .ok (.aload_n 2, 1) := dX6_rightFor_25
theorem I36_26 : decode (zB 36) 26 = .ok (.iload 4, 2) := dX6_rightFor_26
theorem I36_28 : decode (zB 36) 28 = .ok (.aload_n 0, 1) := dX6_rightFor_28
theorem I36_29 : decode (zB 36) 29 = .ok (.getfield 11, 3) := dX6_rightFor_29
theorem I36_32 : decode (zB 36) 32 = .ok (.iload_n 1, 1) := dX6_rightFor_32
theorem I36_33 : decode (zB 36) 33 = .ok (.iaload, 1) := dX6_rightFor_33
theorem I36_34 : decode (zB 36) 34 = .ok (.aload_n 0, 1) := dX6_rightFor_34
theorem I36_35 : decode (zB 36) 35 = .ok (.getfield 15, 3) := dX6_rightFor_35
theorem I36_38 : decode (zB 36) 38 = .ok (.iload_n 1, 1) := dX6_rightFor_38
theorem I36_39 : decode (zB 36) 39 = .ok (.iaload, 1) := dX6_rightFor_39
theorem I36_40 : decode (zB 36) 40 = .ok (.aload_n 0, 1) := dX6_rightFor_40
theorem I36_41 : decode (zB 36) 41 = .ok (.getfield 18, 3) := dX6_rightFor_41
theorem I36_44 : decode (zB 36) 44 = .ok (.iload_n 1, 1) := dX6_rightFor_44
theorem I36_45 : decode (zB 36) 45 = .ok (.iaload, 1) := dX6_rightFor_45
theorem I36_46 : decode (zB 36) 46 = .ok (.invokevirtual 47, 3) := dX6_rightFor_46
theorem I36_49 : decode (zB 36) 49 = .ok (.ifCond .eq 28, 3) := dX6_rightFor_49
theorem I36_52 : decode (zB 36) 52 = .ok (.iload_n 3, 1) := dX6_rightFor_52
theorem I36_53 : decode (zB 36) 53 = .ok (.bipush (-9), 2) := dX6_rightFor_53
theorem I36_55 : decode (zB 36) 55 = .ok (.if_icmp .eq 19, 3) := dX6_rightFor_55
theorem I36_58 : decode (zB 36) 58 = .ok (.aload_n 2, 1) := dX6_rightFor_58
theorem I36_59 : decode (zB 36) 59 = .ok (.getfield 51, 3) := dX6_rightFor_59
theorem I36_62 : decode (zB 36) 62 = .ok (.iload 4, 2) := dX6_rightFor_62
theorem I36_64 : decode (zB 36) 64 = .ok (.iaload, 1) := dX6_rightFor_64
theorem I36_65 : decode (zB 36) 65 = .ok (.aload_n 2, 1) := dX6_rightFor_65
theorem I36_66 : decode (zB 36) 66 = .ok (.getfield 51, 3) := dX6_rightFor_66
theorem I36_69 : decode (zB 36) 69 = .ok (.iload_n 3, 1) := dX6_rightFor_69
theorem I36_70 : decode (zB 36) 70 = .ok (.iaload, 1) := dX6_rightFor_70
theorem I36_71 : decode (zB 36) 71 = .ok (.if_icmp .ge 6, 3) := dX6_rightFor_71
theorem I36_74 : decode (zB 36) 74 = .ok (.iload 4, 2) := dX6_rightFor_74
theorem I36_76 : decode (zB 36) 76 = .ok (.istore_n 3, 1) := dX6_rightFor_76
theorem I36_77 : decode (zB 36) 77 = .ok (.iinc 4 1, 3) := dX6_rightFor_77
theorem I36_80 : decode (zB 36) 80 = .ok (.goto (-74), 3) := dX6_rightFor_80
theorem I36_83 : decode (zB 36) 83 = .ok (.iload_n 3, 1) := dX6_rightFor_83
theorem I36_84 : decode (zB 36) 84 = .ok (.ireturn, 1) := dX6_rightFor_84
theorem I37_0 : decode (zB 37) 0 = .ok (.aload_n 0, 1) := dX7_init_0
theorem I37_1 : decode (zB 37) 1 = .ok (.invokespecial 1, 3) := dX7_init_1
theorem I37_4 : decode (zB 37) 4 = .ok (.aload_n 0, 1) := dX7_init_4
theorem I37_5 : decode (zB 37) 5 = .ok (.new 7, 3) := dX7_init_5
theorem I37_8 : decode (zB 37) 8 = .ok (.dup, 1) := dX7_init_8
theorem I37_9 : decode (zB 37) 9 = .ok (.invokespecial 9, 3) := dX7_init_9
theorem I37_12 : decode (zB 37) 12 = .ok (.putfield 10, 3) := dX7_init_12
theorem I37_15 : decode (zB 37) 15 = .ok (.aload_n 0, 1) := dX7_init_15
theorem I37_16 : decode (zB 37) 16 = .ok (.new 16, 3) := dX7_init_16
theorem I37_19 : decode (zB 37) 19 = .ok (.dup, 1) := dX7_init_19
theorem I37_20 : decode (zB 37) 20 = .ok (.invokespecial 18, 3) := dX7_init_20
theorem I37_23 : decode (zB 37) 23 = .ok (.putfield 19, 3) := dX7_init_23
theorem I37_26 : decode (zB 37) 26 = .ok (.aload_n 0, 1) := dX7_init_26
theorem I37_27 : decode (zB 37) 27 = .ok (.new 23, 3) := dX7_init_27
theorem I37_30 : decode (zB 37) 30 = .ok (.dup, 1) := dX7_init_30
theorem I37_31 : decode (zB 37) 31 = .ok (.invokespecial 25, 3) := dX7_init_31
theorem I37_34 : decode (zB 37) 34 = .ok (.putfield 26, 3) := dX7_init_34
theorem I37_37 : decode (zB 37) 37 = .ok (.aload_n 0, 1) := dX7_init_37
theorem I37_38 : decode (zB 37) 38 = .ok (.new 30, 3) := dX7_init_38
theorem I37_41 : decode (zB 37) 41 = .ok (.dup, 1) := dX7_init_41
theorem I37_42 : decode (zB 37) 42 = .ok (.invokespecial 32, 3) := dX7_init_42
theorem I37_45 : decode (zB 37) 45 = .ok (.putfield 33, 3) := dX7_init_45
theorem I37_48 : decode (zB 37) 48 = .ok (.return_, 1) := dX7_init_48
theorem I38_0 : decode (zB 38) 0 = .ok (.aload_n 0, 1) := dX7_copyFrom_0
theorem I38_1 : decode (zB 38) 1 = .ok (.getfield 10, 3) := dX7_copyFrom_1
theorem I38_4 : decode (zB 38) 4 = .ok (.aload_n 1, 1) := dX7_copyFrom_4
theorem I38_5 : decode (zB 38) 5 = .ok (.getfield 10, 3) := dX7_copyFrom_5
theorem I38_8 : decode (zB 38) 8 = .ok (.invokevirtual 37, 3) := dX7_copyFrom_8
theorem I38_11 : decode (zB 38) 11 = .ok (.aload_n 0, 1) := dX7_copyFrom_11
theorem I38_12 : decode (zB 38) 12 = .ok (.getfield 19, 3) := dX7_copyFrom_12
theorem I38_15 : decode (zB 38) 15 = .ok (.aload_n 1, 1) := dX7_copyFrom_15
theorem I38_16 : decode (zB 38) 16 = .ok (.getfield 19, 3) := dX7_copyFrom_16
theorem I38_19 : decode (zB 38) 19 = .ok (.invokevirtual 41, 3) := dX7_copyFrom_19
theorem I38_22 : decode (zB 38) 22 = .ok (.aload_n 0, 1) := dX7_copyFrom_22
theorem I38_23 : decode (zB 38) 23 = .ok (.getfield 26, 3) := dX7_copyFrom_23
theorem I38_26 : decode (zB 38) 26 = .ok (.aload_n 1, 1) := dX7_copyFrom_26
theorem I38_27 : decode (zB 38) 27 = .ok (.getfield 26, 3) := dX7_copyFrom_27
theorem I38_30 : decode (zB 38) 30 = .ok (.invokevirtual 44, 3) := dX7_copyFrom_30
theorem I38_33 : decode (zB 38) 33 = .ok (.aload_n 0, 1) := dX7_copyFrom_33
theorem I38_34 : decode (zB 38) 34 = .ok (.getfield 33, 3) := dX7_copyFrom_34
theorem I38_37 : decode (zB 38) 37 = .ok (.aload_n 1, 1) := dX7_copyFrom_37
theorem I38_38 : decode (zB 38) 38 = .ok (.getfield 33, 3) := dX7_copyFrom_38
theorem I38_41 : decode (zB 38) 41 = .ok (.invokevirtual 47, 3) := dX7_copyFrom_41
theorem I38_44 : decode (zB 38) 44 = .ok (.return_, 1) := dX7_copyFrom_44
theorem I39_0 : decode (zB 39) 0 = .ok (.aload_n 0, 1) := dX8_init_0
theorem I39_1 : decode (zB 39) 1 = .ok (.invokespecial 3, 3) := dX8_init_1
theorem I39_4 : decode (zB 39) 4 = .ok (.aload_n 0, 1) := dX8_init_4
theorem I39_5 : decode (zB 39) 5 = .ok (.new 9, 3) := dX8_init_5
theorem I39_8 : decode (zB 39) 8 = .ok (.dup, 1) := dX8_init_8
theorem I39_9 : decode (zB 39) 9 = .ok (.invokespecial 11, 3) := dX8_init_9
theorem I39_12 : decode (zB 39) 12 = .ok (.putfield 12, 3) := dX8_init_12
theorem I39_15 : decode (zB 39) 15 = .ok (.aload_n 0, 1) := dX8_init_15
theorem I39_16 : decode (zB 39) 16 = .ok (.new 16, 3) := dX8_init_16
theorem I39_19 : decode (zB 39) 19 = .ok (.dup, 1) := dX8_init_19
theorem I39_20 : decode (zB 39) 20 = .ok (.invokespecial 18, 3) := dX8_init_20
theorem I39_23 : decode (zB 39) 23 = .ok (.putfield 19, 3) := dX8_init_23
theorem I39_26 : decode (zB 39) 26 = .ok (.aload_n 0, 1) := dX8_init_26
theorem I39_27 : decode (zB 39) 27 = .ok (.new 23, 3) := dX8_init_27
theorem I39_30 : decode (zB 39) 30 = .ok (.dup, 1) := dX8_init_30
theorem I39_31 : decode (zB 39) 31 = .ok (.invokespecial 25, 3) := dX8_init_31
theorem I39_34 : decode (zB 39) 34 = .ok (.putfield 26, 3) := dX8_init_34
theorem I39_37 : decode (zB 39) 37 = .ok (.aload_n 0, 1) := dX8_init_37
theorem I39_38 : decode (zB 39) 38 = .ok (.new 30, 3) := dX8_init_38
theorem I39_41 : decode (zB 39) 41 = .ok (.dup, 1) := dX8_init_41
theorem I39_42 : decode (zB 39) 42 = .ok (.invokespecial 32, 3) := dX8_init_42
theorem I39_45 : decode (zB 39) 45 = .ok (.putfield 33, 3) := dX8_init_45
theorem I39_48 : decode (zB 39) 48 = .ok (.aload_n 0, 1) := dX8_init_48
theorem I39_49 : decode (zB 39) 49 = .ok (.new 37, 3) := dX8_init_49
theorem I39_52 : decode (zB 39) 52 = .ok (.dup, 1) := dX8_init_52
theorem I39_53 : decode (zB 39) 53 = .ok (.invokespecial 39, 3) := dX8_init_53
theorem I39_56 : decode (zB 39) 56 = .ok (.putfield 40, 3) := dX8_init_56
theorem I39_59 : decode (zB 39) 59 = .ok (.return_, 1) := dX8_init_59
theorem I40_0 : decode (zB 40) 0 = .ok (.iload_n 1, 1) := dX8_addProgramme_0
theorem I40_1 : decode (zB 40) 1 = .ok (.iconst 0, 1) := dX8_addProgramme_1
theorem I40_2 : decode (zB 40) 2 = .ok (.iconst 3, 1) := dX8_addProgramme_2
theorem I40_3 : decode (zB 40) 3 = .ok (.invokestatic 44, 3) := dX8_addProgramme_3
theorem I40_6 : decode (zB 40) 6 = .ok (.ifCond .eq 23, 3) := dX8_addProgramme_6
theorem I40_9 : decode (zB 40) 9 = .ok (.iload_n 2, 1) := dX8_addProgramme_9
theorem I40_10 : decode (zB 40) 10 = .ok (.iconst 1, 1) := dX8_addProgramme_10
theorem I40_11 : decode (zB 40) 11 = .ok (.sipush 240, 3) := dX8_addProgramme_11
theorem I40_14 : decode (zB 40) 14 = .ok (.invokestatic 44, 3) := dX8_addProgramme_14
theorem I40_17 : decode (zB 40) 17 = .ok (.ifCond .eq 12, 3) := dX8_addProgramme_17
theorem I40_20 : decode (zB 40) 20 = .ok (.iload_n 3, 1) := dX8_addProgramme_20
theorem I40_21 : decode (zB 40) 21 = .ok (.iconst 0, 1) := dX8_addProgramme_21
theorem I40_22 : decode (zB 40) 22 = .ok (.iconst 3, 1) := dX8_addProgramme_22
theorem I40_23 : decode (zB 40) 23 = .ok (.invokestatic 44, 3) := dX8_addProgramme_23
theorem I40_26 : decode (zB 40) 26 = .ok (.ifCond .ne 5, 3) := dX8_addProgramme_26
theorem I40_29 : decode (zB 40) 29 = .ok (.iconst (-1), 1) := dX8_addProgramme_29
theorem I40_30 : decode (zB 40) 30 = .ok (.ireturn, 1) := dX8_addProgramme_30
theorem I40_31 : decode (zB 40) 31 = .ok (.aload_n 0, 1) := dX8_addProgramme_31
theorem I40_32 : decode (zB 40) 32 = .ok (.getfield 12, 3) := dX8_addProgramme_32
theorem I40_35 : decode (zB 40) 35 = .ok (.getfield 48, 3) := dX8_addProgramme_35
theorem I40_38 : decode (zB 40) 38 = .ok (.getfield 52, 3) := dX8_addProgramme_38
theorem I40_41 : decode (zB 40) 41 = .ok (.bipush 16, 2) := dX8_addProgramme_41
theorem I40_43 : decode (zB 40) 43 = .ok (.if_icmp .lt 6, 3) := dX8_addProgramme_43
theorem I40_46 : decode (zB 40) 46 = .ok (.bipush (-3), 2) := dX8_addProgramme_46
theorem I40_48 : decode (zB 40) 48 = .ok (.ireturn, 1) := dX8_addProgramme_48
theorem I40_49 : decode (zB 40) 49 = .ok (.aload_n 0, 1) := dX8_addProgramme_49
theorem I40_50 : decode (zB 40) 50 = .ok (.getfield 19, 3) := dX8_addProgramme_50
theorem I40_53 : decode (zB 40) 53 = .ok (.aload_n 0, 1) := dX8_addProgramme_53
theorem I40_54 : decode (zB 40) 54 = .ok (.getfield 12, 3) := dX8_addProgramme_54
theorem I40_57 : decode (zB 40) 57 = .ok (.invokevirtual 58, 3) := dX8_addProgramme_57
theorem I40_60 : decode (zB 40) 60 = .ok (.aload_n 0, 1) := dX8_addProgramme_60
theorem I40_61 : decode (zB 40) 61 = .ok (.getfield 12, 3) := dX8_addProgramme_61
theorem I40_64 : decode (zB 40) 64 = .ok (.getfield 48, 3) := dX8_addProgramme_64
theorem I40_67 : decode (zB 40) 67 = .ok (.iload_n 1, 1) := dX8_addProgramme_67
theorem I40_68 : decode (zB 40) 68 = .ok (.iload_n 2, 1) := dX8_addProgramme_68
theorem I40_69 : decode (zB 40) 69 = .ok (.iload_n 3, 1) := dX8_addProgramme_69
theorem I40_70 : decode (zB 40) 70 = .ok (.invokevirtual 62, 3) := dX8_addProgramme_70
theorem I40_73 : decode (zB 40) 73 = .ok (.ireturn, 1) := dX8_addProgramme_73
theorem I41_0 : decode (zB 41) 0 = .ok (.aload_n 0, 1) := dX8_addRight_0
theorem I41_1 : decode (zB 41) 1 = .ok (.iload_n 1, 1) := dX8_addRight_1
theorem I41_2 : decode (zB 41) 2 = .ok (.invokevirtual 66, 3) := dX8_addRight_2
theorem I41_5 : decode (zB 41) 5 = .ok (.ifCond .eq 25, 3) := dX8_addRight_5
theorem I41_8 : decode (zB 41) 8 = .ok (.iload_n 2, 1) := dX8_addRight_8
theorem I41_9 : decode (zB 41) 9 = .ok (.iload_n 3, 1) := dX8_addRight_9
theorem I41_10 : decode (zB 41) 10 = .ok (.sipush 10080, 3) := dX8_addRight_10
theorem I41_13 : decode (zB 41) 13 = .ok (.invokestatic 70, 3) := dX8_addRight_13
theorem I41_16 : decode (zB 41) 16 = .ok (.ifCond .eq 14, 3) := dX8_addRight_16
theorem I41_19 : decode (zB 41) 19 = .ok (.iload 4, 2) := dX8_addRight_19
theorem I41_21 : decode (zB 41) 21 = .ok (.iconst 1, 1) := dX8_addRight_21
theorem I41_22 : decode (zB 41) 22 = .ok (.bipush 50, 2) := dX8_addRight_22
theorem I41_24 : decode (zB 41) 24 = .ok (.invokestatic 44, 3) := dX8_addRight_24
theorem I41_27 : decode (zB 41) 27 = .ok (.ifCond .ne 5, 3) := dX8_addRight_27
theorem I41_30 : decode (zB 41) 30 = .ok (.iconst (-1), 1) := dX8_addRight_30
theorem I41_31 : decode (zB 41) 31 = .ok (.ireturn, 1) := dX8_addRight_31
theorem I41_32 : decode (zB 41) 32 = .ok (.aload_n 0, 1) := dX8_addRight_32
theorem I41_33 : decode (zB 41) 33 = .ok (.getfield 12, 3) := dX8_addRight_33
theorem I41_36 : decode (zB 41) 36 = .ok (.getfield 73, 3) := dX8_addRight_36
theorem I41_39 : decode (zB 41) 39 = .ok (.getfield 77, 3) := dX8_addRight_39
theorem I41_42 : decode (zB 41) 42 = .ok (.bipush 30, 2) := dX8_addRight_42
theorem I41_44 : decode (zB 41) 44 = .ok (.if_icmp .lt 6, 3) := dX8_addRight_44
theorem I41_47 : decode (zB 41) 47 = .ok (.bipush (-3), 2) := dX8_addRight_47
theorem I41_49 : decode (zB 41) 49 = .ok (.ireturn, 1) := dX8_addRight_49
theorem I41_50 : decode (zB 41) 50 = .ok (.aload_n 0, 1) := dX8_addRight_50
theorem I41_51 : decode (zB 41) 51 = .ok (.getfield 19, 3) := dX8_addRight_51
theorem I41_54 : decode (zB 41) 54 = .ok (.aload_n 0, 1) := dX8_addRight_54
theorem I41_55 : decode (zB 41) 55 = .ok (.getfield 12, 3) := dX8_addRight_55
theorem I41_58 : decode (zB 41) 58 = .ok (.invokevirtual 58, 3) := dX8_addRight_58
theorem I41_61 : decode (zB 41) 61 = .ok (.aload_n 0, 1) := dX8_addRight_61
theorem I41_62 : decode (zB 41) 62 = .ok (.getfield 12, 3) := dX8_addRight_62
theorem I41_65 : decode (zB 41) 65 = .ok (.getfield 73, 3) := dX8_addRight_65
theorem I41_68 : decode (zB 41) 68 = .ok (.iload_n 1, 1) := dX8_addRight_68
theorem I41_69 : decode (zB 41) 69 = .ok (.iload_n 2, 1) := dX8_addRight_69
theorem I41_70 : decode (zB 41) 70 = .ok (.iload_n 3, 1) := dX8_addRight_70
theorem I41_71 : decode (zB 41) 71 = .ok (.iload 4, 2) := dX8_addRight_71
theorem I41_73 : decode (zB 41) 73 = .ok (.invokevirtual 80, 3) := dX8_addRight_73
theorem I41_76 : decode (zB 41) 76 = .ok (.ireturn, 1) := dX8_addRight_76
theorem I42_0 : decode (zB 42) 0 = .ok (.iload_n 1, 1) := dX8_addBlackout_0
theorem I42_1 : decode (zB 42) 1 = .ok (.iload_n 2, 1) := dX8_addBlackout_1
theorem I42_2 : decode (zB 42) 2 = .ok (.sipush 1440, 3) := dX8_addBlackout_2
theorem I42_5 : decode (zB 42) 5 = .ok (.invokestatic 70, 3) := dX8_addBlackout_5
theorem I42_8 : decode (zB 42) 8 = .ok (.ifCond .eq 12, 3) := dX8_addBlackout_8
theorem I42_11 : decode (zB 42) 11 = .ok (.iload_n 3, 1) := dX8_addBlackout_11
theorem I42_12 : decode (zB 42) 12 = .ok (.iconst 0, 1) := dX8_addBlackout_12
theorem I42_13 : decode (zB 42) 13 = .ok (.iconst 3, 1) := dX8_addBlackout_13
theorem I42_14 : decode (zB 42) 14 = .ok (.invokestatic 44, 3) := dX8_addBlackout_14
theorem I42_17 : decode (zB 42) 17 = .ok (.ifCond .ne 5, 3) := dX8_addBlackout_17
theorem I42_20 : decode (zB 42) 20 = .ok (.iconst (-1), 1) := dX8_addBlackout_20
theorem I42_21 : decode (zB 42) 21 = .ok (.ireturn, 1) := dX8_addBlackout_21
theorem I42_22 : decode (zB 42) 22 = .ok (.aload_n 0, 1) := dX8_addBlackout_22
theorem I42_23 : decode (zB 42) 23 = .ok (.getfield 12, 3) := dX8_addBlackout_23
theorem I42_26 : decode (zB 42) 26 = .ok (.getfield 83, 3) := dX8_addBlackout_26
theorem I42_29 : decode (zB 42) 29 = .ok (.getfield 87, 3) := dX8_addBlackout_29
theorem I42_32 : decode (zB 42) 32 = .ok (.bipush 10, 2) := dX8_addBlackout_32
theorem I42_34 : decode (zB 42) 34 = .ok (.if_icmp .lt 6, 3) := dX8_addBlackout_34
theorem I42_37 : decode (zB 42) 37 = .ok (.bipush (-3), 2) := dX8_addBlackout_37
theorem I42_39 : decode (zB 42) 39 = .ok (.ireturn, 1) := dX8_addBlackout_39
theorem I42_40 : decode (zB 42) 40 = .ok (.aload_n 0, 1) := dX8_addBlackout_40
theorem I42_41 : decode (zB 42) 41 = .ok (.getfield 19, 3) := dX8_addBlackout_41
theorem I42_44 : decode (zB 42) 44 = .ok (.aload_n 0, 1) := dX8_addBlackout_44
theorem I42_45 : decode (zB 42) 45 = .ok (.getfield 12, 3) := dX8_addBlackout_45
theorem I42_48 : decode (zB 42) 48 = .ok (.invokevirtual 58, 3) := dX8_addBlackout_48
theorem I42_51 : decode (zB 42) 51 = .ok (.aload_n 0, 1) := dX8_addBlackout_51
theorem I42_52 : decode (zB 42) 52 = .ok (.getfield 12, 3) := dX8_addBlackout_52
theorem I42_55 : decode (zB 42) 55 = .ok (.getfield 83, 3) := dX8_addBlackout_55
theorem I42_58 : decode (zB 42) 58 = .ok (.iload_n 1, 1) := dX8_addBlackout_58
theorem I42_59 : decode (zB 42) 59 = .ok (.iload_n 2, 1) := dX8_addBlackout_59
theorem I42_60 : decode (zB 42) 60 = .ok (.iload_n 3, 1) := dX8_addBlackout_60
theorem I42_61 : decode (zB 42) 61 = .ok (.invokevirtual 90, 3) := dX8_addBlackout_61
theorem I42_64 : decode (zB 42) 64 = .ok (.ireturn, 1) := dX8_addBlackout_64
theorem I43_0 : decode (zB 43) 0 = .ok (.aload_n 0, 1) := dX8_place_0
theorem I43_1 : decode (zB 43) 1 = .ok (.iload_n 1, 1) := dX8_place_1
theorem I43_2 : decode (zB 43) 2 = .ok (.iload_n 2, 1) := dX8_place_2
theorem I43_3 : decode (zB 43) 3 = .ok (.invokevirtual 91, 3) := dX8_place_3
theorem I43_6 : decode (zB 43) 6 = .ok (.istore 4, 2) := dX8_place_6
theorem I43_8 : decode (zB 43) 8 = .ok (.iload 4, 2) := dX8_place_8
theorem I43_10 : decode (zB 43) 10 = .ok (.ifCond .eq 6, 3) := dX8_place_10
theorem I43_13 : decode (zB 43) 13 = .ok (.iload 4, 2) := dX8_place_13
theorem I43_15 : decode (zB 43) 15 = .ok (.ireturn, 1) := dX8_place_15
theorem I43_16 : decode (zB 43) 16 = .ok (.aload_n 0, 1) := dX8_place_16
theorem I43_17 : decode (zB 43) 17 = .ok (.getfield 19, 3) := dX8_place_17
theorem I43_20 : decode (zB 43) 20 = .ok (.aload_n 0, 1) := dX8_place_20
theorem I43_21 : decode (zB 43) 21 = .ok (.getfield 12, 3) := dX8_place_21
theorem I43_24 : decode (zB 43) 24 = .ok (.invokevirtual 58, 3) := dX8_place_24
theorem I43_27 : decode (zB 43) 27 = .ok (.aload_n 0, 1) := dX8_place_27
theorem I43_28 : decode (zB 43) 28 = .ok (.iload_n 1, 1) := dX8_place_28
theorem I43_29 : decode (zB 43) 29 = .ok (.iload_n 2, 1) := dX8_place_29
theorem I43_30 : decode (zB 43) 30 = .ok (.iload_n 3, 1) := dX8_place_30
theorem I43_31 : decode (zB 43) 31 = .ok (.invokevirtual 95, 3) := dX8_place_31
theorem I43_34 : decode (zB 43) 34 = .ok (.ireturn, 1) := dX8_place_34
theorem I44_0 : decode (zB 44) 0 = .ok (.aload_n 0, 1) := dX8_remove_0
theorem I44_1 : decode (zB 44) 1 = .ok (.iload_n 1, 1) := dX8_remove_1
theorem I44_2 : decode (zB 44) 2 = .ok (.invokevirtual 99, 3) := dX8_remove_2
theorem I44_5 : decode (zB 44) 5 = .ok (.ifCond .ne 5, 3) := dX8_remove_5
theorem I44_8 : decode (zB 44) 8 = .ok (.iconst (-1), 1) := dX8_remove_8
theorem I44_9 : decode (zB 44) 9 = .ok (.ireturn, 1) := dX8_remove_9
theorem I44_10 : decode (zB 44) 10 = .ok (.aload_n 0, 1) := dX8_remove_10
theorem I44_11 : decode (zB 44) 11 = .ok (.getfield 19, 3) := dX8_remove_11
theorem I44_14 : decode (zB 44) 14 = .ok (.aload_n 0, 1) := dX8_remove_14
theorem I44_15 : decode (zB 44) 15 = .ok (.getfield 12, 3) := dX8_remove_15
theorem I44_18 : decode (zB 44) 18 = .ok (.invokevirtual 58, 3) := dX8_remove_18
theorem I44_21 : decode (zB 44) 21 = .ok (.aload_n 0, 1) := dX8_remove_21
theorem I44_22 : decode (zB 44) 22 = .ok (.getfield 12, 3) := dX8_remove_22
theorem I44_25 : decode (zB 44) 25 = .ok (.getfield 102, 3) := dX8_remove_25
theorem I44_28 : decode (zB 44) 28 = .ok (.iload_n 1, 1) := dX8_remove_28
theorem I44_29 : decode (zB 44) 29 = .ok (.invokevirtual 106, 3) := dX8_remove_29
theorem I44_32 : decode (zB 44) 32 = .ok (.aload_n 0, 1) := dX8_remove_32
theorem I44_33 : decode (zB 44) 33 = .ok (.getfield 12, 3) := dX8_remove_33
theorem I44_36 : decode (zB 44) 36 = .ok (.getfield 102, 3) := dX8_remove_36
theorem I44_39 : decode (zB 44) 39 = .ok (.getfield 112, 3) := dX8_remove_39
theorem I44_42 : decode (zB 44) 42 = .ok (.ireturn, 1) := dX8_remove_42
theorem I45_0 : decode (zB 45) 0 = .ok (.aload_n 0, 1) := dX8_earliest_0
theorem I45_1 : decode (zB 45) 1 = .ok (.iload_n 1, 1) := dX8_earliest_1
theorem I45_2 : decode (zB 45) 2 = .ok (.invokevirtual 66, 3) := dX8_earliest_2
theorem I45_5 : decode (zB 45) 5 = .ok (.ifCond .eq 10, 3) := dX8_earliest_5
theorem I45_8 : decode (zB 45) 8 = .ok (.iload_n 2, 1) := dX8_earliest_8
theorem I45_9 : decode (zB 45) 9 = .ok (.invokestatic 113, 3) := dX8_earliest_9
theorem I45_12 : decode (zB 45) 12 = .ok (.ifCond .ne 5, 3) := dX8_earliest_12
theorem I45_15 : decode (zB 45) 15 = .ok (.iconst (-1), 1) := dX8_earliest_15
theorem I45_16 : decode (zB 45) 16 = .ok (.ireturn, 1) := dX8_earliest_16
theorem I45_17 : decode (zB 45) 17 = .ok (.aload_n 0, 1) := dX8_earliest_17
theorem I45_18 : decode (zB 45) 18 = .ok (.iload_n 1, 1) := dX8_earliest_18
theorem I45_19 : decode (zB 45) 19 = .ok (.iload_n 2, 1) := dX8_earliest_19
theorem I45_20 : decode (zB 45) 20 = .ok (.invokevirtual 116, 3) := dX8_earliest_20
theorem I45_23 : decode (zB 45) 23 = .ok (.ireturn, 1) := dX8_earliest_23
theorem I46_0 : decode (zB 46) 0 = .ok (.iload_n 1, 1) := dX8_fill_0
theorem I46_1 : decode (zB 46) 1 = .ok (.iload_n 2, 1) := dX8_fill_1
theorem I46_2 : decode (zB 46) 2 = .ok (.sipush 10080, 3) := dX8_fill_2
theorem I46_5 : decode (zB 46) 5 = .ok (.invokestatic 70, 3) := dX8_fill_5
theorem I46_8 : decode (zB 46) 8 = .ok (.ifCond .eq 12, 3) := dX8_fill_8
theorem I46_11 : decode (zB 46) 11 = .ok (.iload_n 2, 1) := dX8_fill_11
theorem I46_12 : decode (zB 46) 12 = .ok (.iload_n 1, 1) := dX8_fill_12
theorem I46_13 : decode (zB 46) 13 = .ok (.isub, 1) := dX8_fill_13
theorem I46_14 : decode (zB 46) 14 = .ok (.sipush 240, 3) := dX8_fill_14
theorem I46_17 : decode (zB 46) 17 = .ok (.if_icmp .le 5, 3) := dX8_fill_17
theorem I46_20 : decode (zB 46) 20 = .ok (.iconst (-1), 1) := dX8_fill_20
theorem I46_21 : decode (zB 46) 21 = .ok (.ireturn, 1) := dX8_fill_21
theorem I46_22 : decode (zB 46) 22 = .ok (.aload_n 0, 1) := dX8_fill_22
theorem I46_23 : decode (zB 46) 23 = .ok (.getfield 12, 3) := dX8_fill_23
theorem I46_26 : decode (zB 46) 26 = .ok (.getfield 102, 3) := dX8_fill_26
theorem I46_29 : decode (zB 46) 29 = .ok (.iload_n 1, 1) := dX8_fill_29
theorem I46_30 : decode (zB 46) 30 = .ok (.iload_n 2, 1) := dX8_fill_30
theorem I46_31 : decode (zB 46) 31 = .ok (.invokevirtual 119, 3) := dX8_fill_31
theorem I46_34 : decode (zB 46) 34 = .ok (.bipush (-9), 2) := dX8_fill_34
theorem I46_36 : decode (zB 46) 36 = .ok (.if_icmp .eq 6, 3) := dX8_fill_36
theorem I46_39 : decode (zB 46) 39 = .ok (.bipush (-4), 2) := dX8_fill_39
theorem I46_41 : decode (zB 46) 41 = .ok (.ireturn, 1) := dX8_fill_41
theorem I46_42 : decode (zB 46) 42 = .ok (.aload_n 0, 1) := dX8_fill_42
theorem I46_43 : decode (zB 46) 43 = .ok (.getfield 33, 3) := dX8_fill_43
theorem I46_46 : decode (zB 46) 46 = .ok (.aload_n 0, 1) := dX8_fill_46
theorem I46_47 : decode (zB 46) 47 = .ok (.getfield 12, 3) := dX8_fill_47
theorem I46_50 : decode (zB 46) 50 = .ok (.iload_n 1, 1) := dX8_fill_50
theorem I46_51 : decode (zB 46) 51 = .ok (.iload_n 2, 1) := dX8_fill_51
theorem I46_52 : decode (zB 46) 52 = .ok (.invokevirtual 122, 3) := dX8_fill_52
theorem I46_55 : decode (zB 46) 55 = .ok (.istore_n 3, 1) := dX8_fill_55
theorem I46_56 : decode (zB 46) 56 = .ok (.iload_n 3, 1) := dX8_fill_56
theorem I46_57 : decode (zB 46) 57 = .ok (.bipush (-9), 2) := dX8_fill_57
theorem I46_59 : decode (zB 46) 59 = .ok (.if_icmp .ne 6, 3) := dX8_fill_59
theorem I46_62 : decode (zB 46) 62 = .ok (.bipush (-9), 2) := dX8_fill_62
theorem I46_64 : decode (zB 46) 64 = .ok (.ireturn, 1) := dX8_fill_64
theorem I46_65 : decode (zB 46) 65 = .ok (.aload_n 0, 1) := dX8_fill_65
theorem I46_66 : decode (zB 46) 66 = .ok (.getfield 12, 3) := dX8_fill_66
theorem I46_69 : decode (zB 46) 69 = .ok (.getfield 102, 3) := dX8_fill_69
theorem I46_72 : decode (zB 46) 72 = .ok (.getfield 112, 3) := dX8_fill_72
theorem I46_75 : decode (zB 46) 75 = .ok (.iload_n 3, 1) := dX8_fill_75
theorem I46_76 : decode (zB 46) 76 = .ok (.iadd, 1) := dX8_fill_76
theorem I46_77 : decode (zB 46) 77 = .ok (.bipush 60, 2) := dX8_fill_77
theorem I46_79 : decode (zB 46) 79 = .ok (.if_icmp .le 6, 3) := dX8_fill_79
theorem I46_82 : decode (zB 46) 82 = .ok (.bipush (-3), 2) := dX8_fill_82
theorem I46_84 : decode (zB 46) 84 = .ok (.ireturn, 1) := dX8_fill_84
theorem I46_85 : decode (zB 46) 85 = .ok (.aload_n 0, 1) := dX8_fill_85
theorem I46_86 : decode (zB 46) 86 = .ok (.getfield 19, 3) := dX8_fill_86
theorem I46_89 : decode (zB 46) 89 = .ok (.aload_n 0, 1) := dX8_fill_89
theorem I46_90 : decode (zB 46) 90 = .ok (.getfield 12, 3) := dX8_fill_90
theorem I46_93 : decode (zB 46) 93 = .ok (.invokevirtual 58, 3) := dX8_fill_93
theorem I46_96 : decode (zB 46) 96 = .ok (.iload_n 1, 1) := dX8_fill_96
theorem I46_97 : decode (zB 46) 97 = .ok (.istore 4, 2) := dX8_fill_97
theorem I46_99 : decode (zB 46) 99 = .ok (.iconst 0, 1) := dX8_fill_99
theorem I46_100 : decode (zB 46) 100 = .ok (.istore 5, 2) := dX8_fill_100
theorem I46_102 : decode (zB 46) 102 = .ok (.iload 5, 2) := dX8_fill_102
theorem I46_104 : decode (zB 46) 104 = .ok (.iload_n 3, 1) := dX8_fill_104
theorem I46_105 : decode (zB 46) 105 = .ok (.if_icmp .ge 49, 3) := dX8_fill_105
theorem I46_108 : decode (zB 46) 108 = .ok (.aload_n 0, 1) := dX8_fill_108
theorem I46_109 : decode (zB 46) 109 = .ok (.getfield 33, 3) := dX8_fill_109
theorem I46_112 : decode (zB 46) 112 = .ok (.getfield 126, 3) := dX8_fill_112
theorem I46_115 : decode (zB 46) 115 = .ok (.iload 5, 2) := dX8_fill_115
theorem I46_117 : decode (zB 46) 117 = .ok (.iaload, 1) := dX8_fill_117
theorem I46_118 : decode (zB 46) 118 = .ok (.istore 6, 2) := dX8_fill_118
theorem I46_120 : decode (zB 46) 120 = .ok (.aload_n 0, 1) := dX8_fill_120
theorem I46_121 : decode (zB 46) 121 = .ok (.iload 6, 2) := dX8_fill_121
theorem I46_123 : decode (zB 46) 123 = .ok (.iload 4, 2) := dX8_fill_123
theorem I46_125 : decode (zB 46) 125 = .ok (.iconst 0, 1) := dX8_fill_125
theorem I46_126 : decode (zB 46) 126 = .ok (.invokevirtual 95, 3) := dX8_fill_126
theorem I46_129 : decode (zB 46) 129 = .ok (.pop, 1) := dX8_fill_129
theorem I46_130 : decode (zB 46) 130 = .ok (.iload 4, 2) := dX8_fill_130
theorem I46_132 : decode (zB 46) 132 = .ok (.aload_n 0, 1) := dX8_fill_132
theorem I46_133 : decode (zB 46) 133 = .ok (.getfield 12, 3) := dX8_fill_133
theorem I46_136 : decode (zB 46) 136 = .ok (.getfield 48, 3) := dX8_fill_136
theorem I46_139 : decode (zB 46) 139 = .ok (.getfield 130, 3) := dX8_fill_139
theorem I46_142 : decode (zB 46) 142 = .ok (.iload 6, 2) := dX8_fill_142
theorem I46_144 : decode (zB 46) 144 = .ok (.iaload, 1) := dX8_fill_144
theorem I46_145 : decode (zB 46) 145 = .ok (.iadd, 1) := dX8_fill_145
theorem I46_146 : decode (zB 46) 146 = .ok (.istore 4, 2) := dX8_fill_146
theorem I46_148 : decode (zB 46) 148 = .ok (.iinc 5 1, 3) := dX8_fill_148
theorem I46_151 : decode (zB 46) 151 = .ok (.goto (-49), 3) := dX8_fill_151
theorem I46_154 : decode (zB 46) 154 = .ok (.iload_n 3, 1) := dX8_fill_154
theorem I46_155 : decode (zB 46) 155 = .ok (.ireturn, 1) := dX8_fill_155
theorem I47_0 : decode (zB 47) 0 = .ok (.aload_n 0, 1) := dX8_runOver_0
theorem I47_1 : decode (zB 47) 1 = .ok (.iload_n 1, 1) := dX8_runOver_1
theorem I47_2 : decode (zB 47) 2 = .ok (.invokevirtual 99, 3) := dX8_runOver_2
theorem I47_5 : decode (zB 47) 5 = .ok (.ifCond .eq 13, 3) := dX8_runOver_5
theorem I47_8 : decode (zB 47) 8 = .ok (.iload_n 2, 1) := dX8_runOver_8
theorem I47_9 : decode (zB 47) 9 = .ok (.iconst 1, 1) := dX8_runOver_9
theorem I47_10 : decode (zB 47) 10 = .ok (.bipush 120, 2) := dX8_runOver_10
theorem I47_12 : decode (zB 47) 12 = .ok (.invokestatic 44, 3) := dX8_runOver_12
theorem I47_15 : decode (zB 47) 15 = .ok (.ifCond .ne 5, 3) := dX8_runOver_15
theorem I47_18 : decode (zB 47) 18 = .ok (.iconst (-1), 1) := dX8_runOver_18
theorem I47_19 : decode (zB 47) 19 = .ok (.ireturn, 1) := dX8_runOver_19
theorem I47_20 : decode (zB 47) 20 = .ok (.aload_n 0, 1) := dX8_runOver_20
theorem I47_21 : decode (zB 47) 21 = .ok (.iload_n 1, 1) := dX8_runOver_21
theorem I47_22 : decode (zB 47) 22 = .ok (.invokevirtual 133, 3) := dX8_runOver_22
theorem I47_25 : decode (zB 47) 25 = .ok (.iconst 1, 1) := dX8_runOver_25
theorem I47_26 : decode (zB 47) 26 = .ok (.if_icmp .eq 6, 3) := dX8_runOver_26
theorem I47_29 : decode (zB 47) 29 = .ok (.bipush (-2), 2) := dX8_runOver_29
theorem I47_31 : decode (zB 47) 31 = .ok (.ireturn, 1) := dX8_runOver_31
theorem I47_32 : decode (zB 47) 32 = .ok (.aload_n 0, 1) := dX8_runOver_32
theorem I47_33 : decode (zB 47) 33 = .ok (.getfield 12, 3) := dX8_runOver_33
theorem I47_36 : decode (zB 47) 36 = .ok (.getfield 102, 3) := dX8_runOver_36
theorem I47_39 : decode (zB 47) 39 = .ok (.iload_n 1, 1) := dX8_runOver_39
theorem I47_40 : decode (zB 47) 40 = .ok (.invokevirtual 137, 3) := dX8_runOver_40
theorem I47_43 : decode (zB 47) 43 = .ok (.iload_n 2, 1) := dX8_runOver_43
theorem I47_44 : decode (zB 47) 44 = .ok (.iadd, 1) := dX8_runOver_44
theorem I47_45 : decode (zB 47) 45 = .ok (.sipush 10080, 3) := dX8_runOver_45
theorem I47_48 : decode (zB 47) 48 = .ok (.if_icmp .le 6, 3) := dX8_runOver_48
theorem I47_51 : decode (zB 47) 51 = .ok (.bipush (-4), 2) := dX8_runOver_51
theorem I47_53 : decode (zB 47) 53 = .ok (.ireturn, 1) := dX8_runOver_53
theorem I47_54 : decode (zB 47) 54 = .ok (.aload_n 0, 1) := dX8_runOver_54
theorem I47_55 : decode (zB 47) 55 = .ok (.getfield 19, 3) := dX8_runOver_55
theorem I47_58 : decode (zB 47) 58 = .ok (.aload_n 0, 1) := dX8_runOver_58
theorem I47_59 : decode (zB 47) 59 = .ok (.getfield 12, 3) := dX8_runOver_59
theorem I47_62 : decode (zB 47) 62 = .ok (.invokevirtual 58, 3) := dX8_runOver_62
theorem I47_65 : decode (zB 47) 65 = .ok (.aload_n 0, 1) := dX8_runOver_65
theorem I47_66 : decode (zB 47) 66 = .ok (.getfield 12, 3) := dX8_runOver_66
theorem I47_69 : decode (zB 47) 69 = .ok (.getfield 102, 3) := dX8_runOver_69
theorem I47_72 : decode (zB 47) 72 = .ok (.getfield 140, 3) := dX8_runOver_72
theorem I47_75 : decode (zB 47) 75 = .ok (.iload_n 1, 1) := dX8_runOver_75
theorem I47_76 : decode (zB 47) 76 = .ok (.dup2, 1) := dX8_runOver_76
theorem I47_77 : decode (zB 47) 77 = .ok (.iaload, 1) := dX8_runOver_77
theorem I47_78 : decode (zB 47) 78 = .ok (.iload_n 2, 1) := dX8_runOver_78
theorem I47_79 : decode (zB 47) 79 = .ok (.iadd, 1) := dX8_runOver_79
theorem I47_80 : decode (zB 47) 80 = .ok (.iastore, 1) := dX8_runOver_80
theorem I47_81 : decode (zB 47) 81 = .ok (.aload_n 0, 1) := dX8_runOver_81
theorem I47_82 : decode (zB 47) 82 = .ok (.iload_n 1, 1) := dX8_runOver_82
theorem I47_83 : decode (zB 47) 83 = .ok (.invokevirtual 141, 3) := dX8_runOver_83
theorem I47_86 : decode (zB 47) 86 = .ok (.ireturn, 1) := dX8_runOver_86
theorem I48_0 : decode (zB 48) 0 = .ok (.aload_n 0, 1) := dX8_makeGood_0
theorem I48_1 : decode (zB 48) 1 = .ok (.iload_n 1, 1) := dX8_makeGood_1
theorem I48_2 : decode (zB 48) 2 = .ok (.invokevirtual 66, 3) := dX8_makeGood_2
theorem I48_5 : decode (zB 48) 5 = .ok (.ifCond .eq 10, 3) := dX8_makeGood_5
theorem I48_8 : decode (zB 48) 8 = .ok (.iload_n 2, 1) := dX8_makeGood_8
theorem I48_9 : decode (zB 48) 9 = .ok (.invokestatic 113, 3) := dX8_makeGood_9
theorem I48_12 : decode (zB 48) 12 = .ok (.ifCond .ne 5, 3) := dX8_makeGood_12
theorem I48_15 : decode (zB 48) 15 = .ok (.iconst (-1), 1) := dX8_makeGood_15
theorem I48_16 : decode (zB 48) 16 = .ok (.ireturn, 1) := dX8_makeGood_16
theorem I48_17 : decode (zB 48) 17 = .ok (.aload_n 0, 1) := dX8_makeGood_17
theorem I48_18 : decode (zB 48) 18 = .ok (.getfield 12, 3) := dX8_makeGood_18
theorem I48_21 : decode (zB 48) 21 = .ok (.getfield 48, 3) := dX8_makeGood_21
theorem I48_24 : decode (zB 48) 24 = .ok (.getfield 144, 3) := dX8_makeGood_24
theorem I48_27 : decode (zB 48) 27 = .ok (.iload_n 1, 1) := dX8_makeGood_27
theorem I48_28 : decode (zB 48) 28 = .ok (.iaload, 1) := dX8_makeGood_28
theorem I48_29 : decode (zB 48) 29 = .ok (.ifCond .gt 6, 3) := dX8_makeGood_29
theorem I48_32 : decode (zB 48) 32 = .ok (.bipush (-2), 2) := dX8_makeGood_32
theorem I48_34 : decode (zB 48) 34 = .ok (.ireturn, 1) := dX8_makeGood_34
theorem I48_35 : decode (zB 48) 35 = .ok (.aload_n 0, 1) := dX8_makeGood_35
theorem I48_36 : decode (zB 48) 36 = .ok (.iload_n 1, 1) := dX8_makeGood_36
theorem I48_37 : decode (zB 48) 37 = .ok (.iload_n 2, 1) := dX8_makeGood_37
theorem I48_38 : decode (zB 48) 38 = .ok (.invokevirtual 116, 3) := dX8_makeGood_38
theorem I48_41 : decode (zB 48) 41 = .ok (.istore_n 3, 1) := dX8_makeGood_41
theorem I48_42 : decode (zB 48) 42 = .ok (.iload_n 3, 1) := dX8_makeGood_42
theorem I48_43 : decode (zB 48) 43 = .ok (.bipush (-9), 2) := dX8_makeGood_43
theorem I48_45 : decode (zB 48) 45 = .ok (.if_icmp .ne 6, 3) := dX8_makeGood_45
theorem I48_48 : decode (zB 48) 48 = .ok (.bipush (-9), 2) := dX8_makeGood_48
theorem I48_50 : decode (zB 48) 50 = .ok (.ireturn, 1) := dX8_makeGood_50
theorem I48_51 : decode (zB 48) 51 = .ok (.aload_n 0, 1) := dX8_makeGood_51
theorem I48_52 : decode (zB 48) 52 = .ok (.getfield 19, 3) := dX8_makeGood_52
theorem I48_55 : decode (zB 48) 55 = .ok (.aload_n 0, 1) := dX8_makeGood_55
theorem I48_56 : decode (zB 48) 56 = .ok (.getfield 12, 3) := dX8_makeGood_56
theorem I48_59 : decode (zB 48) 59 = .ok (.invokevirtual 58, 3) := dX8_makeGood_59
theorem I48_62 : decode (zB 48) 62 = .ok (.aload_n 0, 1) := dX8_makeGood_62
theorem I48_63 : decode (zB 48) 63 = .ok (.iload_n 1, 1) := dX8_makeGood_63
theorem I48_64 : decode (zB 48) 64 = .ok (.iload_n 3, 1) := dX8_makeGood_64
theorem I48_65 : decode (zB 48) 65 = .ok (.iconst 0, 1) := dX8_makeGood_65
theorem I48_66 : decode (zB 48) 66 = .ok (.invokevirtual 95, 3) := dX8_makeGood_66
theorem I48_69 : decode (zB 48) 69 = .ok (.pop, 1) := dX8_makeGood_69
theorem I48_70 : decode (zB 48) 70 = .ok (.aload_n 0, 1) := dX8_makeGood_70
theorem I48_71 : decode (zB 48) 71 = .ok (.getfield 12, 3) := dX8_makeGood_71
theorem I48_74 : decode (zB 48) 74 = .ok (.getfield 48, 3) := dX8_makeGood_74
theorem I48_77 : decode (zB 48) 77 = .ok (.getfield 144, 3) := dX8_makeGood_77
theorem I48_80 : decode (zB 48) 80 = .ok (.iload_n 1, 1) := dX8_makeGood_80
theorem I48_81 : decode (zB 48) 81 = .ok (.dup2, 1) := dX8_makeGood_81
theorem I48_82 : decode (zB 48) 82 = .ok (.iaload, 1) := dX8_makeGood_82
theorem I48_83 : decode (zB 48) 83 = .ok (.iconst 1, 1) := dX8_makeGood_83
theorem I48_84 : decode (zB 48) 84 = .ok (.isub, 1) := dX8_makeGood_84
theorem I48_85 : decode (zB 48) 85 = .ok (.iastore, 1) := dX8_makeGood_85
theorem I48_86 : decode (zB 48) 86 = .ok (.iload_n 3, 1) := dX8_makeGood_86
theorem I48_87 : decode (zB 48) 87 = .ok (.ireturn, 1) := dX8_makeGood_87
theorem I49_0 : decode (zB 49) 0 = .ok (.aload_n 0, 1) := dX8_items_0
theorem I49_1 : decode (zB 49) 1 = .ok (.getfield 12, 3) := dX8_items_1
theorem I49_4 : decode (zB 49) 4 = .ok (.getfield 102, 3) := dX8_items_4
theorem I49_7 : decode (zB 49) 7 = .ok (.getfield 112, 3) := dX8_items_7
theorem I49_10 : decode (zB 49) 10 = .ok (.ireturn, 1) := dX8_items_10
theorem I50_0 : decode (zB 50) 0 = .ok (.aload_n 0, 1) := dX8_item_0
theorem I50_1 : decode (zB 50) 1 = .ok (.iload_n 1, 1) := dX8_item_1
theorem I50_2 : decode (zB 50) 2 = .ok (.invokevirtual 99, 3) := dX8_item_2
theorem I50_5 : decode (zB 50) 5 = .ok (.ifCond .ne 5, 3) := dX8_item_5
theorem I50_8 : decode (zB 50) 8 = .ok (.iconst (-1), 1) := dX8_item_8
theorem I50_9 : decode (zB 50) 9 = .ok (.ireturn, 1) := dX8_item_9
theorem I50_10 : decode (zB 50) 10 = .ok (.iload_n 2, 1) := dX8_item_10
theorem I50_11 : decode (zB 50) 11 = .ok (.tableswitch 99 0 4 #[33, 46, 59, 72, 85], 33) := dX8_item_11
theorem I50_44 : decode (zB 50) 44 = .ok (.aload_n 0, 1) := dX8_item_44
theorem I50_45 : decode (zB 50) 45 = .ok (.getfield 12, 3) := dX8_item_45
theorem I50_48 : decode (zB 50) 48 = .ok (.getfield 102, 3) := dX8_item_48
theorem I50_51 : decode (zB 50) 51 = .ok (.getfield 147, 3) := dX8_item_51
theorem I50_54 : decode (zB 50) 54 = .ok (.iload_n 1, 1) := dX8_item_54
theorem I50_55 : decode (zB 50) 55 = .ok (.iaload, 1) := dX8_item_55
theorem I50_56 : decode (zB 50) 56 = .ok (.ireturn, 1) := dX8_item_56
theorem I50_57 : decode (zB 50) 57 = .ok (.aload_n 0, 1) := dX8_item_57
theorem I50_58 : decode (zB 50) 58 = .ok (.getfield 12, 3) := dX8_item_58
theorem I50_61 : decode (zB 50) 61 = .ok (.getfield 102, 3) := dX8_item_61
theorem I50_64 : decode (zB 50) 64 = .ok (.getfield 150, 3) := dX8_item_64
theorem I50_67 : decode (zB 50) 67 = .ok (.iload_n 1, 1) := dX8_item_67
theorem I50_68 : decode (zB 50) 68 = .ok (.iaload, 1) := dX8_item_68
theorem I50_69 : decode (zB 50) 69 = .ok (.ireturn, 1) := dX8_item_69
theorem I50_70 : decode (zB 50) 70 = .ok (.aload_n 0, 1) := dX8_item_70
theorem I50_71 : decode (zB 50) 71 = .ok (.getfield 12, 3) := dX8_item_71
theorem I50_74 : decode (zB 50) 74 = .ok (.getfield 102, 3) := dX8_item_74
theorem I50_77 : decode (zB 50) 77 = .ok (.getfield 140, 3) := dX8_item_77
theorem I50_80 : decode (zB 50) 80 = .ok (.iload_n 1, 1) := dX8_item_80
theorem I50_81 : decode (zB 50) 81 = .ok (.iaload, 1) := dX8_item_81
theorem I50_82 : decode (zB 50) 82 = .ok (.ireturn, 1) := dX8_item_82
theorem I50_83 : decode (zB 50) 83 = .ok (.aload_n 0, 1) := dX8_item_83
theorem I50_84 : decode (zB 50) 84 = .ok (.getfield 12, 3) := dX8_item_84
theorem I50_87 : decode (zB 50) 87 = .ok (.getfield 102, 3) := dX8_item_87
theorem I50_90 : decode (zB 50) 90 = .ok (.getfield 153, 3) := dX8_item_90
theorem I50_93 : decode (zB 50) 93 = .ok (.iload_n 1, 1) := dX8_item_93
theorem I50_94 : decode (zB 50) 94 = .ok (.iaload, 1) := dX8_item_94
theorem I50_95 : decode (zB 50) 95 = .ok (.ireturn, 1) := dX8_item_95
theorem I50_96 : decode (zB 50) 96 = .ok (.aload_n 0, 1) := dX8_item_96
theorem I50_97 : decode (zB 50) 97 = .ok (.invokevirtual 156, 3) := dX8_item_97
theorem I50_100 : decode (zB 50) 100 = .ok (.aload_n 0, 1) := dX8_item_100
theorem I50_101 : decode (zB 50) 101 = .ok (.getfield 26, 3) := dX8_item_101
theorem I50_104 : decode (zB 50) 104 = .ok (.getfield 159, 3) := dX8_item_104
theorem I50_107 : decode (zB 50) 107 = .ok (.iload_n 1, 1) := dX8_item_107
theorem I50_108 : decode (zB 50) 108 = .ok (.iaload, 1) := dX8_item_108
theorem I50_109 : decode (zB 50) 109 = .ok (.ireturn, 1) := dX8_item_109
theorem I50_110 : decode (zB 50) 110 = .ok (.iconst (-1), 1) := dX8_item_110
theorem I50_111 : decode (zB 50) 111 = .ok (.ireturn, 1) := dX8_item_111
theorem I51_0 : decode (zB 51) 0 = .ok (.iload_n 1, 1) := dX8_onAir_0
theorem I51_1 : decode (zB 51) 1 = .ok (.invokestatic 113, 3) := dX8_onAir_1
theorem I51_4 : decode (zB 51) 4 = .ok (.ifCond .ne 5, 3) := dX8_onAir_4
theorem I51_7 : decode (zB 51) 7 = .ok (.iconst (-1), 1) := dX8_onAir_7
theorem I51_8 : decode (zB 51) 8 = .ok (.ireturn, 1) := dX8_onAir_8
theorem I51_9 : decode (zB 51) 9 = .ok (.aload_n 0, 1) := dX8_onAir_9
theorem I51_10 : decode (zB 51) 10 = .ok (.getfield 12, 3) := dX8_onAir_10
theorem I51_13 : decode (zB 51) 13 = .ok (.getfield 102, 3) := dX8_onAir_13
theorem I51_16 : decode (zB 51) 16 = .ok (.iload_n 1, 1) := dX8_onAir_16
theorem I51_17 : decode (zB 51) 17 = .ok (.iload_n 1, 1) := dX8_onAir_17
theorem I51_18 : decode (zB 51) 18 = .ok (.iconst 1, 1) := dX8_onAir_18
theorem I51_19 : decode (zB 51) 19 = .ok (.iadd, 1) := dX8_onAir_19
theorem I51_20 : decode (zB 51) 20 = .ok (.invokevirtual 119, 3) := dX8_onAir_20
theorem I51_23 : decode (zB 51) 23 = .ok (.ireturn, 1) := dX8_onAir_23
theorem I52_0 : decode (zB 52) 0 = .ok (.iload_n 1, 1) := dX8_left_0
theorem I52_1 : decode (zB 52) 1 = .ok (.iconst 0, 1) := dX8_left_1
theorem I52_2 : decode (zB 52) 2 = .ok (.aload_n 0, 1) := dX8_left_2
theorem I52_3 : decode (zB 52) 3 = .ok (.getfield 12, 3) := dX8_left_3
theorem I52_6 : decode (zB 52) 6 = .ok (.getfield 73, 3) := dX8_left_6
theorem I52_9 : decode (zB 52) 9 = .ok (.getfield 77, 3) := dX8_left_9
theorem I52_12 : decode (zB 52) 12 = .ok (.iconst 1, 1) := dX8_left_12
theorem I52_13 : decode (zB 52) 13 = .ok (.isub, 1) := dX8_left_13
theorem I52_14 : decode (zB 52) 14 = .ok (.invokestatic 44, 3) := dX8_left_14
theorem I52_17 : decode (zB 52) 17 = .ok (.ifCond .ne 5, 3) := dX8_left_17
theorem I52_20 : decode (zB 52) 20 = .ok (.iconst (-1), 1) := dX8_left_20
theorem I52_21 : decode (zB 52) 21 = .ok (.ireturn, 1) := dX8_left_21
theorem I52_22 : decode (zB 52) 22 = .ok (.aload_n 0, 1) := dX8_left_22
theorem I52_23 : decode (zB 52) 23 = .ok (.invokevirtual 156, 3) := dX8_left_23
theorem I52_26 : decode (zB 52) 26 = .ok (.aload_n 0, 1) := dX8_left_26
theorem I52_27 : decode (zB 52) 27 = .ok (.getfield 26, 3) := dX8_left_27
theorem I52_30 : decode (zB 52) 30 = .ok (.getfield 162, 3) := dX8_left_30
theorem I52_33 : decode (zB 52) 33 = .ok (.iload_n 1, 1) := dX8_left_33
theorem I52_34 : decode (zB 52) 34 = .ok (.iaload, 1) := dX8_left_34
theorem I52_35 : decode (zB 52) 35 = .ok (.ireturn, 1) := dX8_left_35
theorem I53_0 : decode (zB 53) 0 = .ok (.aload_n 0, 1) := dX8_mayPlace_0
theorem I53_1 : decode (zB 53) 1 = .ok (.iload_n 1, 1) := dX8_mayPlace_1
theorem I53_2 : decode (zB 53) 2 = .ok (.invokevirtual 66, 3) := dX8_mayPlace_2
theorem I53_5 : decode (zB 53) 5 = .ok (.ifCond .eq 10, 3) := dX8_mayPlace_5
theorem I53_8 : decode (zB 53) 8 = .ok (.iload_n 2, 1) := dX8_mayPlace_8
theorem I53_9 : decode (zB 53) 9 = .ok (.invokestatic 113, 3) := dX8_mayPlace_9
theorem I53_12 : decode (zB 53) 12 = .ok (.ifCond .ne 5, 3) := dX8_mayPlace_12
theorem I53_15 : decode (zB 53) 15 = .ok (.iconst (-1), 1) := dX8_mayPlace_15
theorem I53_16 : decode (zB 53) 16 = .ok (.ireturn, 1) := dX8_mayPlace_16
theorem I53_17 : decode (zB 53) 17 = .ok (.aload_n 0, 1) := dX8_mayPlace_17
theorem I53_18 : decode (zB 53) 18 = .ok (.iload_n 1, 1) := dX8_mayPlace_18
theorem I53_19 : decode (zB 53) 19 = .ok (.iload_n 2, 1) := dX8_mayPlace_19
theorem I53_20 : decode (zB 53) 20 = .ok (.invokevirtual 165, 3) := dX8_mayPlace_20
theorem I53_23 : decode (zB 53) 23 = .ok (.ireturn, 1) := dX8_mayPlace_23
theorem I54_0 : decode (zB 54) 0 = .ok (.aload_n 0, 1) := dX8_owed_0
theorem I54_1 : decode (zB 54) 1 = .ok (.iload_n 1, 1) := dX8_owed_1
theorem I54_2 : decode (zB 54) 2 = .ok (.invokevirtual 66, 3) := dX8_owed_2
theorem I54_5 : decode (zB 54) 5 = .ok (.ifCond .ne 5, 3) := dX8_owed_5
theorem I54_8 : decode (zB 54) 8 = .ok (.iconst (-1), 1) := dX8_owed_8
theorem I54_9 : decode (zB 54) 9 = .ok (.ireturn, 1) := dX8_owed_9
theorem I54_10 : decode (zB 54) 10 = .ok (.aload_n 0, 1) := dX8_owed_10
theorem I54_11 : decode (zB 54) 11 = .ok (.getfield 12, 3) := dX8_owed_11
theorem I54_14 : decode (zB 54) 14 = .ok (.getfield 48, 3) := dX8_owed_14
theorem I54_17 : decode (zB 54) 17 = .ok (.getfield 144, 3) := dX8_owed_17
theorem I54_20 : decode (zB 54) 20 = .ok (.iload_n 1, 1) := dX8_owed_20
theorem I54_21 : decode (zB 54) 21 = .ok (.iaload, 1) := dX8_owed_21
theorem I54_22 : decode (zB 54) 22 = .ok (.ireturn, 1) := dX8_owed_22
theorem I55_0 : decode (zB 55) 0 = .ok (.iload_n 1, 1) := dX8_minutes_0
theorem I55_1 : decode (zB 55) 1 = .ok (.iconst 0, 1) := dX8_minutes_1
theorem I55_2 : decode (zB 55) 2 = .ok (.iconst 4, 1) := dX8_minutes_2
theorem I55_3 : decode (zB 55) 3 = .ok (.invokestatic 44, 3) := dX8_minutes_3
theorem I55_6 : decode (zB 55) 6 = .ok (.ifCond .eq 14, 3) := dX8_minutes_6
theorem I55_9 : decode (zB 55) 9 = .ok (.iload_n 2, 1) := dX8_minutes_9
theorem I55_10 : decode (zB 55) 10 = .ok (.iload_n 3, 1) := dX8_minutes_10
theorem I55_11 : decode (zB 55) 11 = .ok (.sipush 10080, 3) := dX8_minutes_11
theorem I55_14 : decode (zB 55) 14 = .ok (.invokestatic 70, 3) := dX8_minutes_14
theorem I55_17 : decode (zB 55) 17 = .ok (.ifCond .ne 5, 3) := dX8_minutes_17
theorem I55_20 : decode (zB 55) 20 = .ok (.iconst (-1), 1) := dX8_minutes_20
theorem I55_21 : decode (zB 55) 21 = .ok (.ireturn, 1) := dX8_minutes_21
theorem I55_22 : decode (zB 55) 22 = .ok (.iconst 0, 1) := dX8_minutes_22
theorem I55_23 : decode (zB 55) 23 = .ok (.istore 4, 2) := dX8_minutes_23
theorem I55_25 : decode (zB 55) 25 = .ok (.iconst 0, 1) := dX8_minutes_25
theorem I55_26 : decode (zB 55) 26 = .ok (.istore 5, 2) := dX8_minutes_26
theorem I55_28 : decode (zB 55) 28 = .ok (.iconst 0, 1) := dX8_minutes_28
theorem I55_29 : decode (zB 55) 29 = .ok (.istore 6, 2) := dX8_minutes_29
theorem I55_31 : decode (zB 55) 31 = .ok (.iload 6, 2) := dX8_minutes_31
theorem I55_33 : decode (zB 55) 33 = .ok (.aload_n 0, 1) := dX8_minutes_33
theorem I55_34 : decode (zB 55) 34 = .ok (.getfield 12, 3) := dX8_minutes_34
theorem I55_37 : decode (zB 55) 37 = .ok (.getfield 102, 3) := dX8_minutes_37
theorem I55_40 : decode (zB 55) 40 = .ok (.getfield 112, 3) := dX8_minutes_40
theorem I55_43 : decode (zB 55) 43 = .ok (.if_icmp .ge 49, 3) := dX8_minutes_43
theorem I55_46 : decode (zB 55) 46 = .ok (.aload_n 0, 1) := dX8_minutes_46
theorem I55_47 : decode (zB 55) 47 = .ok (.getfield 12, 3) := dX8_minutes_47
theorem I55_50 : decode (zB 55) 50 = .ok (.getfield 102, 3) := dX8_minutes_50
theorem I55_53 : decode (zB 55) 53 = .ok (.iload 6, 2) := dX8_minutes_53
theorem I55_55 : decode (zB 55) 55 = .ok (.iload_n 2, 1) := dX8_minutes_55
theorem I55_56 : decode (zB 55) 56 = .ok (.iload_n 3, 1) := dX8_minutes_56
theorem I55_57 : decode (zB 55) 57 = .ok (.invokevirtual 168, 3) := dX8_minutes_57
theorem I55_60 : decode (zB 55) 60 = .ok (.istore 7, 2) := dX8_minutes_60
theorem I55_62 : decode (zB 55) 62 = .ok (.iload 5, 2) := dX8_minutes_62
theorem I55_64 : decode (zB 55) 64 = .ok (.iload 7, 2) := dX8_minutes_64
theorem I55_66 : decode (zB 55) 66 = .ok (.iadd, 1) := dX8_minutes_66
theorem I55_67 : decode (zB 55) 67 = .ok (.istore 5, 2) := dX8_minutes_67
theorem I55_69 : decode (zB 55) 69 = .ok (.aload_n 0, 1) := dX8_minutes_69
theorem I55_70 : decode (zB 55) 70 = .ok (.iload 6, 2) := dX8_minutes_70
theorem I55_72 : decode (zB 55) 72 = .ok (.invokevirtual 133, 3) := dX8_minutes_72
theorem I55_75 : decode (zB 55) 75 = .ok (.iload_n 1, 1) := dX8_minutes_75
theorem I55_76 : decode (zB 55) 76 = .ok (.if_icmp .ne 10, 3) := dX8_minutes_76
theorem I55_79 : decode (zB 55) 79 = .ok (.iload 4, 2) := dX8_minutes_79
theorem I55_81 : decode (zB 55) 81 = .ok (.iload 7, 2) := dX8_minutes_81
theorem I55_83 : decode (zB 55) 83 = .ok (.iadd, 1) := dX8_minutes_83
theorem I55_84 : decode (zB 55) 84 = .ok (.istore 4, 2) := dX8_minutes_84
theorem I55_86 : decode (zB 55) 86 = .ok (.iinc 6 1, 3) := dX8_minutes_86
theorem I55_89 : decode (zB 55) 89 = .ok (.goto (-58), 3) := dX8_minutes_89
theorem I55_92 : decode (zB 55) 92 = .ok (.iload_n 1, 1) := dX8_minutes_92
theorem I55_93 : decode (zB 55) 93 = .ok (.iconst 4, 1) := dX8_minutes_93
theorem I55_94 : decode (zB 55) 94 = .ok (.if_icmp .ne 12, 3) := dX8_minutes_94
theorem I55_97 : decode (zB 55) 97 = .ok (.iload_n 3, 1) := dX8_minutes_97
theorem I55_98 : decode (zB 55) 98 = .ok (.iload_n 2, 1) := dX8_minutes_98
theorem I55_99 : decode (zB 55) 99 = .ok (.isub, 1) := dX8_minutes_99
theorem I55_100 : decode (zB 55) 100 = .ok (.iload 5, 2) := dX8_minutes_100
theorem I55_102 : decode (zB 55) 102 = .ok (.isub, 1) := dX8_minutes_102
theorem I55_103 : decode (zB 55) 103 = .ok (.goto 5, 3) := dX8_minutes_103
theorem I55_106 : decode (zB 55) 106 = .ok (.iload 4, 2) := dX8_minutes_106
theorem I55_108 : decode (zB 55) 108 = .ok (.ireturn, 1) := dX8_minutes_108
theorem I56_0 : decode (zB 56) 0 = .ok (.iload_n 1, 1) := dX8_silence_0
theorem I56_1 : decode (zB 56) 1 = .ok (.iload_n 2, 1) := dX8_silence_1
theorem I56_2 : decode (zB 56) 2 = .ok (.sipush 10080, 3) := dX8_silence_2
theorem I56_5 : decode (zB 56) 5 = .ok (.invokestatic 70, 3) := dX8_silence_5
theorem I56_8 : decode (zB 56) 8 = .ok (.ifCond .ne 5, 3) := dX8_silence_8
theorem I56_11 : decode (zB 56) 11 = .ok (.iconst (-1), 1) := dX8_silence_11
theorem I56_12 : decode (zB 56) 12 = .ok (.ireturn, 1) := dX8_silence_12
theorem I56_13 : decode (zB 56) 13 = .ok (.iconst 0, 1) := dX8_silence_13
theorem I56_14 : decode (zB 56) 14 = .ok (.istore_n 3, 1) := dX8_silence_14
theorem I56_15 : decode (zB 56) 15 = .ok (.iload_n 1, 1) := dX8_silence_15
theorem I56_16 : decode (zB 56) 16 = .ok (.istore 4, 2) := dX8_silence_16
theorem I56_18 : decode (zB 56) 18 = .ok (.iload_n 1, 1) := dX8_silence_18
theorem I56_19 : decode (zB 56) 19 = .ok (.istore 5, 2) := dX8_silence_19
theorem I56_21 : decode (zB 56) 21 = .ok (.iconst 0, 1) := dX8_silence_21
theorem I56_22 : decode (zB 56) 22 = .ok (.istore 6, 2) := dX8_silence_22
theorem I56_24 : decode (zB 56) 24 = .ok (.iload 6, 2) := dX8_silence_24
theorem I56_26 : decode (zB 56) 26 = .ok (.aload_n 0, 1) := dX8_silence_26
theorem I56_27 : decode (zB 56) 27 = .ok (.getfield 12, 3) := dX8_silence_27
theorem I56_30 : decode (zB 56) 30 = .ok (.getfield 102, 3) := dX8_silence_30
theorem I56_33 : decode (zB 56) 33 = .ok (.getfield 112, 3) := dX8_silence_33
theorem I56_36 : decode (zB 56) 36 = .ok (.if_icmp .gt 100, 3) := dX8_silence_36
theorem I56_39 : decode (zB 56) 39 = .ok (.iload 6, 2) := dX8_silence_39
theorem I56_41 : decode (zB 56) 41 = .ok (.aload_n 0, 1) := dX8_silence_41
theorem I56_42 : decode (zB 56) 42 = .ok (.getfield 12, 3) := dX8_silence_42
theorem I56_45 : decode (zB 56) 45 = .ok (.getfield 102, 3) := dX8_silence_45
theorem I56_48 : decode (zB 56) 48 = .ok (.getfield 112, 3) := dX8_silence_48
theorem I56_51 : decode (zB 56) 51 = .ok (.if_icmp .ge 23, 3) := dX8_silence_51
theorem I56_54 : decode (zB 56) 54 = .ok (.aload_n 0, 1) := dX8_silence_54
theorem I56_55 : decode (zB 56) 55 = .ok (.getfield 12, 3) := dX8_silence_55
theorem I56_58 : decode (zB 56) 58 = .ok (.getfield 102, 3) := dX8_silence_58
theorem I56_61 : decode (zB 56) 61 = .ok (.getfield 150, 3) := dX8_silence_61
theorem I56_64 : decode (zB 56) 64 = .ok (.iload 6, 2) := dX8_silence_64
theorem I56_66 : decode (zB 56) 66 = .ok (.iaload, 1) := dX8_silence_66
theorem I56_67 : decode (zB 56) 67 = .ok (.iload_n 2, 1) := dX8_silence_67
theorem I56_68 : decode (zB 56) 68 = .ok (.invokestatic 171, 3) := dX8_silence_68
theorem I56_71 : decode (zB 56) 71 = .ok (.goto 4, 3) := dX8_silence_71
theorem I56_74 : decode (zB 56) 74 = .ok (.iload_n 2, 1) := dX8_silence_74
theorem I56_75 : decode (zB 56) 75 = .ok (.istore 7, 2) := dX8_silence_75
theorem I56_77 : decode (zB 56) 77 = .ok (.iload 7, 2) := dX8_silence_77
theorem I56_79 : decode (zB 56) 79 = .ok (.iload 5, 2) := dX8_silence_79
theorem I56_81 : decode (zB 56) 81 = .ok (.isub, 1) := dX8_silence_81
theorem I56_82 : decode (zB 56) 82 = .ok (.iload_n 3, 1) := dX8_silence_82
theorem I56_83 : decode (zB 56) 83 = .ok (.if_icmp .le 13, 3) := dX8_silence_83
theorem I56_86 : decode (zB 56) 86 = .ok (.iload 7, 2) := dX8_silence_86
theorem I56_88 : decode (zB 56) 88 = .ok (.iload 5, 2) := dX8_silence_88
theorem I56_90 : decode (zB 56) 90 = .ok (.isub, 1) := dX8_silence_90
theorem I56_91 : decode (zB 56) 91 = .ok (.istore_n 3, 1) := dX8_silence_91
theorem I56_92 : decode (zB 56) 92 = .ok (.iload 5, 2) := dX8_silence_92
theorem I56_94 : decode (zB 56) 94 = .ok (.istore 4, 2) := dX8_silence_94
theorem I56_96 : decode (zB 56) 96 = .ok (.iload 6, 2) := dX8_silence_96
theorem I56_98 : decode (zB 56) 98 = .ok (.aload_n 0, 1) := dX8_silence_98
theorem I56_99 : decode (zB 56) 99 = .ok (.getfield 12, 3) := dX8_silence_99
theorem I56_102 : decode (zB 56) 102 = .ok (.getfield 102, 3) := dX8_silence_102
theorem I56_105 : decode (zB 56) 105 = .ok (.getfield 112, 3) := dX8_silence_105
theorem I56_108 : decode (zB 56) 108 = .ok (.if_icmp .ge 22, 3) := dX8_silence_108
theorem I56_111 : decode (zB 56) 111 = .ok (.iload 5, 2) := dX8_silence_111
theorem I56_113 : decode (zB 56) 113 = .ok (.aload_n 0, 1) := dX8_silence_113
theorem I56_114 : decode (zB 56) 114 = .ok (.getfield 12, 3) := dX8_silence_114
theorem I56_117 : decode (zB 56) 117 = .ok (.getfield 102, 3) := dX8_silence_117
theorem I56_120 : decode (zB 56) 120 = .ok (.iload 6, 2) := dX8_silence_120
theorem I56_122 : decode (zB 56) 122 = .ok (.invokevirtual 137, 3) := dX8_silence_122
theorem I56_125 : decode (zB 56) 125 = .ok (.invokestatic 176, 3) := dX8_silence_125
theorem I56_128 : decode (zB 56) 128 = .ok (.istore 5, 2) := dX8_silence_128
theorem I56_130 : decode (zB 56) 130 = .ok (.iinc 6 1, 3) := dX8_silence_130
theorem I56_133 : decode (zB 56) 133 = .ok (.goto (-109), 3) := dX8_silence_133
theorem I56_136 : decode (zB 56) 136 = .ok (.iload_n 3, 1) := dX8_silence_136
theorem I56_137 : decode (zB 56) 137 = .ok (.ifCond .ne 8, 3) := dX8_silence_137
theorem I56_140 : decode (zB 56) 140 = .ok (.bipush (-9), 2) := dX8_silence_140
theorem I56_142 : decode (zB 56) 142 = .ok (.goto 11, 3) := dX8_silence_142
theorem I56_145 : decode (zB 56) 145 = .ok (.sipush 10081, 3) := dX8_silence_145
theorem I56_148 : decode (zB 56) 148 = .ok (.iload_n 3, 1) := dX8_silence_148
theorem I56_149 : decode (zB 56) 149 = .ok (.imul, 1) := dX8_silence_149
theorem I56_150 : decode (zB 56) 150 = .ok (.iload 4, 2) := dX8_silence_150
theorem I56_152 : decode (zB 56) 152 = .ok (.iadd, 1) := dX8_silence_152
theorem I56_153 : decode (zB 56) 153 = .ok (.ireturn, 1) := dX8_silence_153
theorem I57_0 : decode (zB 57) 0 = .ok (.iload_n 1, 1) := dX8_ranked_0
theorem I57_1 : decode (zB 57) 1 = .ok (.iconst 0, 1) := dX8_ranked_1
theorem I57_2 : decode (zB 57) 2 = .ok (.aload_n 0, 1) := dX8_ranked_2
theorem I57_3 : decode (zB 57) 3 = .ok (.getfield 12, 3) := dX8_ranked_3
theorem I57_6 : decode (zB 57) 6 = .ok (.getfield 48, 3) := dX8_ranked_6
theorem I57_9 : decode (zB 57) 9 = .ok (.getfield 52, 3) := dX8_ranked_9
theorem I57_12 : decode (zB 57) 12 = .ok (.iconst 1, 1) := dX8_ranked_12
theorem I57_13 : decode (zB 57) 13 = .ok (.isub, 1) := dX8_ranked_13
theorem I57_14 : decode (zB 57) 14 = .ok (.invokestatic 44, 3) := dX8_ranked_14
theorem I57_17 : decode (zB 57) 17 = .ok (.ifCond .ne 5, 3) := dX8_ranked_17
theorem I57_20 : decode (zB 57) 20 = .ok (.iconst (-1), 1) := dX8_ranked_20
theorem I57_21 : decode (zB 57) 21 = .ok (.ireturn, 1) := dX8_ranked_21
theorem I57_22 : decode (zB 57) 22 = .ok (.iconst 0, 1) := dX8_ranked_22
theorem I57_23 : decode (zB 57) 23 = .ok (.istore_n 2, 1) := dX8_ranked_23
theorem I57_24 : decode (zB 57) 24 = .ok (.iload_n 2, 1) := dX8_ranked_24
theorem I57_25 : decode (zB 57) 25 = .ok (.aload_n 0, 1) := dX8_ranked_25
theorem I57_26 : decode (zB 57) 26 = .ok (.getfield 12, 3) := dX8_ranked_26
theorem I57_29 : decode (zB 57) 29 = .ok (.getfield 48, 3) := dX8_ranked_29
theorem I57_32 : decode (zB 57) 32 = .ok (.getfield 52, 3) := dX8_ranked_32
theorem I57_35 : decode (zB 57) 35 = .ok (.if_icmp .ge 20, 3) := dX8_ranked_35
theorem I57_38 : decode (zB 57) 38 = .ok (.aload_n 0, 1) := dX8_ranked_38
theorem I57_39 : decode (zB 57) 39 = .ok (.iload_n 2, 1) := dX8_ranked_39
theorem I57_40 : decode (zB 57) 40 = .ok (.invokevirtual 179, 3) := dX8_ranked_40
theorem I57_43 : decode (zB 57) 43 = .ok (.iload_n 1, 1) := dX8_ranked_43
theorem I57_44 : decode (zB 57) 44 = .ok (.if_icmp .ne 5, 3) := dX8_ranked_44
theorem I57_47 : decode (zB 57) 47 = .ok (.iload_n 2, 1) := dX8_ranked_47
theorem I57_48 : decode (zB 57) 48 = .ok (.ireturn, 1) := dX8_ranked_48
theorem I57_49 : decode (zB 57) 49 = .ok (.iinc 2 1, 3) := dX8_ranked_49
theorem I57_52 : decode (zB 57) 52 = .ok (.goto (-28), 3) := dX8_ranked_52
theorem I57_55 : decode (zB 57) 55 = .ok (.iconst (-1), 1) := dX8_ranked_55
theorem I57_56 : decode (zB 57) 56 = .ok (.ireturn, 1) := dX8_ranked_56
theorem I58_0 : decode (zB 58) 0 = .ok (.iconst 0, 1) := dX8_broken_0
theorem I58_1 : decode (zB 58) 1 = .ok (.istore_n 1, 1) := dX8_broken_1
theorem I58_2 : decode (zB 58) 2 = .ok (.iconst 0, 1) := dX8_broken_2
theorem I58_3 : decode (zB 58) 3 = .ok (.istore_n 2, 1) := dX8_broken_3
theorem I58_4 : decode (zB 58) 4 = .ok (.iload_n 2, 1) := dX8_broken_4
theorem I58_5 : decode (zB 58) 5 = .ok (.aload_n 0, 1) := dX8_broken_5
theorem I58_6 : decode (zB 58) 6 = .ok (.getfield 12, 3) := dX8_broken_6
theorem I58_9 : decode (zB 58) 9 = .ok (.getfield 102, 3) := dX8_broken_9
theorem I58_12 : decode (zB 58) 12 = .ok (.getfield 112, 3) := dX8_broken_12
theorem I58_15 : decode (zB 58) 15 = .ok (.if_icmp .ge 75, 3) := dX8_broken_15
theorem I58_18 : decode (zB 58) 18 = .ok (.aload_n 0, 1) := dX8_broken_18
theorem I58_19 : decode (zB 58) 19 = .ok (.getfield 12, 3) := dX8_broken_19
theorem I58_22 : decode (zB 58) 22 = .ok (.getfield 48, 3) := dX8_broken_22
theorem I58_25 : decode (zB 58) 25 = .ok (.getfield 182, 3) := dX8_broken_25
theorem I58_28 : decode (zB 58) 28 = .ok (.aload_n 0, 1) := dX8_broken_28
theorem I58_29 : decode (zB 58) 29 = .ok (.getfield 12, 3) := dX8_broken_29
theorem I58_32 : decode (zB 58) 32 = .ok (.getfield 102, 3) := dX8_broken_32
theorem I58_35 : decode (zB 58) 35 = .ok (.getfield 147, 3) := dX8_broken_35
theorem I58_38 : decode (zB 58) 38 = .ok (.iload_n 2, 1) := dX8_broken_38
theorem I58_39 : decode (zB 58) 39 = .ok (.iaload, 1) := dX8_broken_39
theorem I58_40 : decode (zB 58) 40 = .ok (.iaload, 1) := dX8_broken_40
theorem I58_41 : decode (zB 58) 41 = .ok (.istore_n 3, 1) := dX8_broken_41
theorem I58_42 : decode (zB 58) 42 = .ok (.aload_n 0, 1) := dX8_broken_42
theorem I58_43 : decode (zB 58) 43 = .ok (.getfield 12, 3) := dX8_broken_43
theorem I58_46 : decode (zB 58) 46 = .ok (.getfield 83, 3) := dX8_broken_46
theorem I58_49 : decode (zB 58) 49 = .ok (.iload_n 3, 1) := dX8_broken_49
theorem I58_50 : decode (zB 58) 50 = .ok (.aload_n 0, 1) := dX8_broken_50
theorem I58_51 : decode (zB 58) 51 = .ok (.getfield 12, 3) := dX8_broken_51
theorem I58_54 : decode (zB 58) 54 = .ok (.getfield 102, 3) := dX8_broken_54
theorem I58_57 : decode (zB 58) 57 = .ok (.getfield 150, 3) := dX8_broken_57
theorem I58_60 : decode (zB 58) 60 = .ok (.iload_n 2, 1) := dX8_broken_60
theorem I58_61 : decode (zB 58) 61 = .ok (.iaload, 1) := dX8_broken_61
theorem I58_62 : decode (zB 58) 62 = .ok (.aload_n 0, 1) := dX8_broken_62
theorem I58_63 : decode (zB 58) 63 = .ok (.getfield 12, 3) := dX8_broken_63
theorem I58_66 : decode (zB 58) 66 = .ok (.getfield 102, 3) := dX8_broken_66
theorem I58_69 : decode (zB 58) 69 = .ok (.iload_n 2, 1) := dX8_broken_69
theorem I58_70 : decode (zB 58) 70 = .ok (.invokevirtual 137, 3) := dX8_broken_70
theorem I58_73 : decode (zB 58) 73 = .ok (.invokevirtual 185, 3) := dX8_broken_73
theorem I58_76 : decode (zB 58) 76 = .ok (.bipush (-9), 2) := dX8_broken_76
theorem I58_78 : decode (zB 58) 78 = .ok (.if_icmp .eq 6, 3) := dX8_broken_78
theorem I58_81 : decode (zB 58) 81 = .ok (.iinc 1 1, 3) := dX8_broken_81
theorem I58_84 : decode (zB 58) 84 = .ok (.iinc 2 1, 3) := dX8_broken_84
theorem I58_87 : decode (zB 58) 87 = .ok (.goto (-83), 3) := dX8_broken_87
theorem I58_90 : decode (zB 58) 90 = .ok (.iload_n 1, 1) := dX8_broken_90
theorem I58_91 : decode (zB 58) 91 = .ok (.ireturn, 1) := dX8_broken_91
theorem I59_0 : decode (zB 59) 0 = .ok (.aload_n 0, 1) := dX8_line_0
theorem I59_1 : decode (zB 59) 1 = .ok (.iload_n 1, 1) := dX8_line_1
theorem I59_2 : decode (zB 59) 2 = .ok (.invokevirtual 99, 3) := dX8_line_2
theorem I59_5 : decode (zB 59) 5 = .ok (.ifCond .eq 7, 3) := dX8_line_5
theorem I59_8 : decode (zB 59) 8 = .ok (.iload_n 2, 1) := dX8_line_8
theorem I59_9 : decode (zB 59) 9 = .ok (.ifCond .ge 5, 3) := dX8_line_9
theorem I59_12 : decode (zB 59) 12 = .ok (.iconst (-1), 1) := dX8_line_12
theorem I59_13 : decode (zB 59) 13 = .ok (.ireturn, 1) := dX8_line_13
theorem I59_14 : decode (zB 59) 14 = .ok (.aload_n 0, 1) := dX8_line_14
theorem I59_15 : decode (zB 59) 15 = .ok (.iload_n 1, 1) := dX8_line_15
theorem I59_16 : decode (zB 59) 16 = .ok (.invokevirtual 188, 3) := dX8_line_16
theorem I59_19 : decode (zB 59) 19 = .ok (.iload_n 2, 1) := dX8_line_19
theorem I59_20 : decode (zB 59) 20 = .ok (.aload_n 0, 1) := dX8_line_20
theorem I59_21 : decode (zB 59) 21 = .ok (.getfield 40, 3) := dX8_line_21
theorem I59_24 : decode (zB 59) 24 = .ok (.invokevirtual 191, 3) := dX8_line_24
theorem I59_27 : decode (zB 59) 27 = .ok (.if_icmp .ge 14, 3) := dX8_line_27
theorem I59_30 : decode (zB 59) 30 = .ok (.aload_n 0, 1) := dX8_line_30
theorem I59_31 : decode (zB 59) 31 = .ok (.getfield 40, 3) := dX8_line_31
theorem I59_34 : decode (zB 59) 34 = .ok (.iload_n 2, 1) := dX8_line_34
theorem I59_35 : decode (zB 59) 35 = .ok (.invokevirtual 194, 3) := dX8_line_35
theorem I59_38 : decode (zB 59) 38 = .ok (.goto 5, 3) := dX8_line_38
theorem I59_41 : decode (zB 59) 41 = .ok (.bipush (-9), 2) := dX8_line_41
theorem I59_43 : decode (zB 59) 43 = .ok (.ireturn, 1) := dX8_line_43
theorem I60_0 : decode (zB 60) 0 = .ok (.aload_n 0, 1) := dX8_undo_0
theorem I60_1 : decode (zB 60) 1 = .ok (.getfield 19, 3) := dX8_undo_1
theorem I60_4 : decode (zB 60) 4 = .ok (.getfield 198, 3) := dX8_undo_4
theorem I60_7 : decode (zB 60) 7 = .ok (.ifCond .ne 6, 3) := dX8_undo_7
theorem I60_10 : decode (zB 60) 10 = .ok (.bipush (-9), 2) := dX8_undo_10
theorem I60_12 : decode (zB 60) 12 = .ok (.ireturn, 1) := dX8_undo_12
theorem I60_13 : decode (zB 60) 13 = .ok (.aload_n 0, 1) := dX8_undo_13
theorem I60_14 : decode (zB 60) 14 = .ok (.getfield 19, 3) := dX8_undo_14
theorem I60_17 : decode (zB 60) 17 = .ok (.aload_n 0, 1) := dX8_undo_17
theorem I60_18 : decode (zB 60) 18 = .ok (.getfield 12, 3) := dX8_undo_18
theorem I60_21 : decode (zB 60) 21 = .ok (.invokevirtual 199, 3) := dX8_undo_21
theorem I60_24 : decode (zB 60) 24 = .ok (.aload_n 0, 1) := dX8_undo_24
theorem I60_25 : decode (zB 60) 25 = .ok (.getfield 19, 3) := dX8_undo_25
theorem I60_28 : decode (zB 60) 28 = .ok (.getfield 198, 3) := dX8_undo_28
theorem I60_31 : decode (zB 60) 31 = .ok (.ireturn, 1) := dX8_undo_31
theorem I61_0 : decode (zB 61) 0 = .ok (.aload_n 0, 1) := dX8_fingerprint_0
theorem I61_1 : decode (zB 61) 1 = .ok (.invokevirtual 156, 3) := dX8_fingerprint_1
theorem I61_4 : decode (zB 61) 4 = .ok (.ldc2_w 202, 3) := dX8_fingerprint_4
theorem I61_7 : decode (zB 61) 7 = .ok (.lstore_n 1, 1) := dX8_fingerprint_7
theorem I61_8 : decode (zB 61) 8 = .ok (.ldc2_w 204, 3) := dX8_fingerprint_8
theorem I61_11 : decode (zB 61) 11 = .ok (.lload_n 1, 1) := dX8_fingerprint_11
theorem I61_12 : decode (zB 61) 12 = .ok (.lmul, 1) := dX8_fingerprint_12
theorem I61_13 : decode (zB 61) 13 = .ok (.aload_n 0, 1) := dX8_fingerprint_13
theorem I61_14 : decode (zB 61) 14 = .ok (.getfield 12, 3) := dX8_fingerprint_14
theorem I61_17 : decode (zB 61) 17 = .ok (.getfield 48, 3) := dX8_fingerprint_17
theorem I61_20 : decode (zB 61) 20 = .ok (.getfield 52, 3) := dX8_fingerprint_20
theorem I61_23 : decode (zB 61) 23 = .ok (.i2l, 1) := dX8_fingerprint_23
theorem I61_24 : decode (zB 61) 24 = .ok (.ladd, 1) := dX8_fingerprint_24
theorem I61_25 : decode (zB 61) 25 = .ok (.lstore_n 1, 1) := dX8_fingerprint_25
theorem I61_26 : decode (zB 61) 26 = .ok (.ldc2_w 204, 3) := dX8_fingerprint_26
theorem I61_29 : decode (zB 61) 29 = .ok (.lload_n 1, 1) := dX8_fingerprint_29
theorem I61_30 : decode (zB 61) 30 = .ok (.lmul, 1) := dX8_fingerprint_30
theorem I61_31 : decode (zB 61) 31 = .ok (.aload_n 0, 1) := dX8_fingerprint_31
theorem I61_32 : decode (zB 61) 32 = .ok (.getfield 12, 3) := dX8_fingerprint_32
theorem I61_35 : decode (zB 61) 35 = .ok (.getfield 73, 3) := dX8_fingerprint_35
theorem I61_38 : decode (zB 61) 38 = .ok (.getfield 77, 3) := dX8_fingerprint_38
theorem I61_41 : decode (zB 61) 41 = .ok (.i2l, 1) := dX8_fingerprint_41
theorem I61_42 : decode (zB 61) 42 = .ok (.ladd, 1) := dX8_fingerprint_42
theorem I61_43 : decode (zB 61) 43 = .ok (.lstore_n 1, 1) := dX8_fingerprint_43
theorem I61_44 : decode (zB 61) 44 = .ok (.ldc2_w 204, 3) := dX8_fingerprint_44
theorem I61_47 : decode (zB 61) 47 = .ok (.lload_n 1, 1) := dX8_fingerprint_47
theorem I61_48 : decode (zB 61) 48 = .ok (.lmul, 1) := dX8_fingerprint_48
theorem I61_49 : decode (zB 61) 49 = .ok (.aload_n 0, 1) := dX8_fingerprint_49
theorem I61_50 : decode (zB 61) 50 = .ok (.getfield 12, 3) := dX8_fingerprint_50
theorem I61_53 : decode (zB 61) 53 = .ok (.getfield 83, 3) := dX8_fingerprint_53
theorem I61_56 : decode (zB 61) 56 = .ok (.getfield 87, 3) := dX8_fingerprint_56
theorem I61_59 : decode (zB 61) 59 = .ok (.i2l, 1) := dX8_fingerprint_59
theorem I61_60 : decode (zB 61) 60 = .ok (.ladd, 1) := dX8_fingerprint_60
theorem I61_61 : decode (zB 61) 61 = .ok (.lstore_n 1, 1) := dX8_fingerprint_61
theorem I61_62 : decode (zB 61) 62 = .ok (.ldc2_w 204, 3) := dX8_fingerprint_62
theorem I61_65 : decode (zB 61) 65 = .ok (.lload_n 1, 1) := dX8_fingerprint_65
theorem I61_66 : decode (zB 61) 66 = .ok (.lmul, 1) := dX8_fingerprint_66
theorem I61_67 : decode (zB 61) 67 = .ok (.aload_n 0, 1) := dX8_fingerprint_67
theorem I61_68 : decode (zB 61) 68 = .ok (.getfield 12, 3) := dX8_fingerprint_68
theorem I61_71 : decode (zB 61) 71 = .ok (.getfield 102, 3) := dX8_fingerprint_71
theorem I61_74 : decode (zB 61) 74 = .ok (.getfield 112, 3) := dX8_fingerprint_74
theorem I61_77 : decode (zB 61) 77 = .ok (.i2l, 1) := dX8_fingerprint_77
theorem I61_78 : decode (zB 61) 78 = .ok (.ladd, 1) := dX8_fingerprint_78
theorem I61_79 : decode (zB 61) 79 = .ok (.lstore_n 1, 1) := dX8_fingerprint_79
theorem I61_80 : decode (zB 61) 80 = .ok (.iconst 0, 1) := dX8_fingerprint_80
theorem I61_81 : decode (zB 61) 81 = .ok (.istore_n 3, 1) := dX8_fingerprint_81
theorem I61_82 : decode (zB 61) 82 = .ok (.iload_n 3, 1) := dX8_fingerprint_82
theorem I61_83 : decode (zB 61) 83 = .ok (.aload_n 0, 1) := dX8_fingerprint_83
theorem I61_84 : decode (zB 61) 84 = .ok (.getfield 12, 3) := dX8_fingerprint_84
theorem I61_87 : decode (zB 61) 87 = .ok (.getfield 102, 3) := dX8_fingerprint_87
theorem I61_90 : decode (zB 61) 90 = .ok (.getfield 112, 3) := dX8_fingerprint_90
theorem I61_93 : decode (zB 61) 93 = .ok (.if_icmp .ge 106, 3) := dX8_fingerprint_93
theorem I61_96 : decode (zB 61) 96 = .ok (.ldc2_w 204, 3) := dX8_fingerprint_96
theorem I61_99 : decode (zB 61) 99 = .ok (.lload_n 1, 1) := dX8_fingerprint_99
theorem I61_100 : decode (zB 61) 100 = .ok (.lmul, 1) := dX8_fingerprint_100
theorem I61_101 : decode (zB 61) 101 = .ok (.aload_n 0, 1) := dX8_fingerprint_101
theorem I61_102 : decode (zB 61) 102 = .ok (.getfield 12, 3) := dX8_fingerprint_102
theorem I61_105 : decode (zB 61) 105 = .ok (.getfield 102, 3) := dX8_fingerprint_105
theorem I61_108 : decode (zB 61) 108 = .ok (.getfield 147, 3) := dX8_fingerprint_108
theorem I61_111 : decode (zB 61) 111 = .ok (.iload_n 3, 1) := dX8_fingerprint_111
theorem I61_112 : decode (zB 61) 112 = .ok (.iaload, 1) := dX8_fingerprint_112
theorem I61_113 : decode (zB 61) 113 = .ok (.i2l, 1) := dX8_fingerprint_113
theorem I61_114 : decode (zB 61) 114 = .ok (.ladd, 1) := dX8_fingerprint_114
theorem I61_115 : decode (zB 61) 115 = .ok (.lstore_n 1, 1) := dX8_fingerprint_115
theorem I61_116 : decode (zB 61) 116 = .ok (.ldc2_w 204, 3) := dX8_fingerprint_116
theorem I61_119 : decode (zB 61) 119 = .ok (.lload_n 1, 1) := dX8_fingerprint_119
theorem I61_120 : decode (zB 61) 120 = .ok (.lmul, 1) := dX8_fingerprint_120
theorem I61_121 : decode (zB 61) 121 = .ok (.aload_n 0, 1) := dX8_fingerprint_121
theorem I61_122 : decode (zB 61) 122 = .ok (.getfield 12, 3) := dX8_fingerprint_122
theorem I61_125 : decode (zB 61) 125 = .ok (.getfield 102, 3) := dX8_fingerprint_125
theorem I61_128 : decode (zB 61) 128 = .ok (.getfield 150, 3) := dX8_fingerprint_128
theorem I61_131 : decode (zB 61) 131 = .ok (.iload_n 3, 1) := dX8_fingerprint_131
theorem I61_132 : decode (zB 61) 132 = .ok (.iaload, 1) := dX8_fingerprint_132
theorem I61_133 : decode (zB 61) 133 = .ok (.i2l, 1) := dX8_fingerprint_133
theorem I61_134 : decode (zB 61) 134 = .ok (.ladd, 1) := dX8_fingerprint_134
theorem I61_135 : decode (zB 61) 135 = .ok (.lstore_n 1, 1) := dX8_fingerprint_135
theorem I61_136 : decode (zB 61) 136 = .ok (.ldc2_w 204, 3) := dX8_fingerprint_136
theorem I61_139 : decode (zB 61) 139 = .ok (.lload_n 1, 1) := dX8_fingerprint_139
theorem I61_140 : decode (zB 61) 140 = .ok (.lmul, 1) := dX8_fingerprint_140
theorem I61_141 : decode (zB 61) 141 = .ok (.aload_n 0, 1) := dX8_fingerprint_141
theorem I61_142 : decode (zB 61) 142 = .ok (.getfield 12, 3) := dX8_fingerprint_142
theorem I61_145 : decode (zB 61) 145 = .ok (.getfield 102, 3) := dX8_fingerprint_145
theorem I61_148 : decode (zB 61) 148 = .ok (.getfield 140, 3) := dX8_fingerprint_148
theorem I61_151 : decode (zB 61) 151 = .ok (.iload_n 3, 1) := dX8_fingerprint_151
theorem I61_152 : decode (zB 61) 152 = .ok (.iaload, 1) := dX8_fingerprint_152
theorem I61_153 : decode (zB 61) 153 = .ok (.i2l, 1) := dX8_fingerprint_153
theorem I61_154 : decode (zB 61) 154 = .ok (.ladd, 1) := dX8_fingerprint_154
theorem I61_155 : decode (zB 61) 155 = .ok (.lstore_n 1, 1) := dX8_fingerprint_155
theorem I61_156 : decode (zB 61) 156 = .ok (.ldc2_w 204, 3) := dX8_fingerprint_156
theorem I61_159 : decode (zB 61) 159 = .ok (.lload_n 1, 1) := dX8_fingerprint_159
theorem I61_160 : decode (zB 61) 160 = .ok (.lmul, 1) := dX8_fingerprint_160
theorem I61_161 : decode (zB 61) 161 = .ok (.aload_n 0, 1) := dX8_fingerprint_161
theorem I61_162 : decode (zB 61) 162 = .ok (.getfield 12, 3) := dX8_fingerprint_162
theorem I61_165 : decode (zB 61) 165 = .ok (.getfield 102, 3) := dX8_fingerprint_165
theorem I61_168 : decode (zB 61) 168 = .ok (.getfield 153, 3) := dX8_fingerprint_168
theorem I61_171 : decode (zB 61) 171 = .ok (.iload_n 3, 1) := dX8_fingerprint_171
theorem I61_172 : decode (zB 61) 172 = .ok (.iaload, 1) := dX8_fingerprint_172
theorem I61_173 : decode (zB 61) 173 = .ok (.i2l, 1) := dX8_fingerprint_173
theorem I61_174 : decode (zB 61) 174 = .ok (.ladd, 1) := dX8_fingerprint_174
theorem I61_175 : decode (zB 61) 175 = .ok (.lstore_n 1, 1) := dX8_fingerprint_175
theorem I61_176 : decode (zB 61) 176 = .ok (.ldc2_w 204, 3) := dX8_fingerprint_176
theorem I61_179 : decode (zB 61) 179 = .ok (.lload_n 1, 1) := dX8_fingerprint_179
theorem I61_180 : decode (zB 61) 180 = .ok (.lmul, 1) := dX8_fingerprint_180
theorem I61_181 : decode (zB 61) 181 = .ok (.aload_n 0, 1) := dX8_fingerprint_181
theorem I61_182 : decode (zB 61) 182 = .ok (.getfield 26, 3) := dX8_fingerprint_182
theorem I61_185 : decode (zB 61) 185 = .ok (.getfield 159, 3) := dX8_fingerprint_185
theorem I61_188 : decode (zB 61) 188 = .ok (.iload_n 3, 1) := dX8_fingerprint_188
theorem I61_189 : decode (zB 61) 189 = .ok (.iaload, 1) := dX8_fingerprint_189
theorem I61_190 : decode (zB 61) 190 = .ok (.i2l, 1) := dX8_fingerprint_190
theorem I61_191 : decode (zB 61) 191 = .ok (.ladd, 1) := dX8_fingerprint_191
theorem I61_192 : decode (zB 61) 192 = .ok (.lstore_n 1, 1) := dX8_fingerprint_192
theorem I61_193 : decode (zB 61) 193 = .ok (.iinc 3 1, 3) := dX8_fingerprint_193
theorem I61_196 : decode (zB 61) 196 = .ok (.goto (-114), 3) := dX8_fingerprint_196
theorem I61_199 : decode (zB 61) 199 = .ok (.iconst 0, 1) := dX8_fingerprint_199
theorem I61_200 : decode (zB 61) 200 = .ok (.istore_n 3, 1) := dX8_fingerprint_200
theorem I61_201 : decode (zB 61) 201 = .ok (.iload_n 3, 1) := dX8_fingerprint_201
theorem I61_202 : decode (zB 61) 202 = .ok (.aload_n 0, 1) := dX8_fingerprint_202
theorem I61_203 : decode (zB 61) 203 = .ok (.getfield 12, 3) := dX8_fingerprint_203
theorem I61_206 : decode (zB 61) 206 = .ok (.getfield 48, 3) := dX8_fingerprint_206
theorem I61_209 : decode (zB 61) 209 = .ok (.getfield 52, 3) := dX8_fingerprint_209
theorem I61_212 : decode (zB 61) 212 = .ok (.if_icmp .ge 29, 3) := dX8_fingerprint_212
theorem I61_215 : decode (zB 61) 215 = .ok (.ldc2_w 204, 3) := dX8_fingerprint_215
theorem I61_218 : decode (zB 61) 218 = .ok (.lload_n 1, 1) := dX8_fingerprint_218
theorem I61_219 : decode (zB 61) 219 = .ok (.lmul, 1) := dX8_fingerprint_219
theorem I61_220 : decode (zB 61) 220 = .ok (.aload_n 0, 1) := dX8_fingerprint_220
theorem I61_221 : decode (zB 61) 221 = .ok (.getfield 12, 3) := dX8_fingerprint_221
theorem I61_224 : decode (zB 61) 224 = .ok (.getfield 48, 3) := dX8_fingerprint_224
theorem I61_227 : decode (zB 61) 227 = .ok (.getfield 144, 3) := dX8_fingerprint_227
theorem I61_230 : decode (zB 61) 230 = .ok (.iload_n 3, 1) := dX8_fingerprint_230
theorem I61_231 : decode (zB 61) 231 = .ok (.iaload, 1) := dX8_fingerprint_231
theorem I61_232 : decode (zB 61) 232 = .ok (.i2l, 1) := dX8_fingerprint_232
theorem I61_233 : decode (zB 61) 233 = .ok (.ladd, 1) := dX8_fingerprint_233
theorem I61_234 : decode (zB 61) 234 = .ok (.lstore_n 1, 1) := dX8_fingerprint_234
theorem I61_235 : decode (zB 61) 235 = .ok (.iinc 3 1, 3) := dX8_fingerprint_235
theorem I61_238 : decode (zB 61) 238 = .ok (.goto (-37), 3) := dX8_fingerprint_238
theorem I61_241 : decode (zB 61) 241 = .ok (.iconst 0, 1) := dX8_fingerprint_241
theorem I61_242 : decode (zB 61) 242 = .ok (.istore_n 3, 1) := dX8_fingerprint_242
theorem I61_243 : decode (zB 61) 243 = .ok (.iload_n 3, 1) := dX8_fingerprint_243
theorem I61_244 : decode (zB 61) 244 = .ok (.aload_n 0, 1) := dX8_fingerprint_244
theorem I61_245 : decode (zB 61) 245 = .ok (.getfield 12, 3) := dX8_fingerprint_245
theorem I61_248 : decode (zB 61) 248 = .ok (.getfield 73, 3) := dX8_fingerprint_248
theorem I61_251 : decode (zB 61) 251 = .ok (.getfield 77, 3) := dX8_fingerprint_251
theorem I61_254 : decode (zB 61) 254 = .ok (.if_icmp .ge 26, 3) := dX8_fingerprint_254
theorem I61_257 : decode (zB 61) 257 = .ok (.ldc2_w 204, 3) := dX8_fingerprint_257
theorem I61_260 : decode (zB 61) 260 = .ok (.lload_n 1, 1) := dX8_fingerprint_260
theorem I61_261 : decode (zB 61) 261 = .ok (.lmul, 1) := dX8_fingerprint_261
theorem I61_262 : decode (zB 61) 262 = .ok (.aload_n 0, 1) := dX8_fingerprint_262
theorem I61_263 : decode (zB 61) 263 = .ok (.getfield 26, 3) := dX8_fingerprint_263
theorem I61_266 : decode (zB 61) 266 = .ok (.getfield 162, 3) := dX8_fingerprint_266
theorem I61_269 : decode (zB 61) 269 = .ok (.iload_n 3, 1) := dX8_fingerprint_269
theorem I61_270 : decode (zB 61) 270 = .ok (.iaload, 1) := dX8_fingerprint_270
theorem I61_271 : decode (zB 61) 271 = .ok (.i2l, 1) := dX8_fingerprint_271
theorem I61_272 : decode (zB 61) 272 = .ok (.ladd, 1) := dX8_fingerprint_272
theorem I61_273 : decode (zB 61) 273 = .ok (.lstore_n 1, 1) := dX8_fingerprint_273
theorem I61_274 : decode (zB 61) 274 = .ok (.iinc 3 1, 3) := dX8_fingerprint_274
theorem I61_277 : decode (zB 61) 277 = .ok (.goto (-34), 3) := dX8_fingerprint_277
theorem I61_280 : decode (zB 61) 280 = .ok (.lload_n 1, 1) := dX8_fingerprint_280
theorem I61_281 : decode (zB 61) 281 = .ok (.lreturn, 1) := dX8_fingerprint_281
theorem I62_0 : decode (zB 62) 0 = .ok (.iload_n 0, 1) := dX8_within_0
theorem I62_1 : decode (zB 62) 1 = .ok (.iload_n 1, 1) := dX8_within_1
theorem I62_2 : decode (zB 62) 2 = .ok (.if_icmp .lt 12, 3) := dX8_within_2
theorem I62_5 : decode (zB 62) 5 = .ok (.iload_n 0, 1) := dX8_within_5
theorem I62_6 : decode (zB 62) 6 = .ok (.iload_n 2, 1) := dX8_within_6
theorem I62_7 : decode (zB 62) 7 = .ok (.if_icmp .gt 7, 3) := dX8_within_7
theorem I62_10 : decode (zB 62) 10 = .ok (.iconst 1, 1) := dX8_within_10
theorem I62_11 : decode (zB 62) 11 = .ok (.goto 4, 3) := dX8_within_11
theorem I62_14 : decode (zB 62) 14 = .ok (.iconst 0, 1) := dX8_within_14
theorem I62_15 : decode (zB 62) 15 = .ok (.ireturn, 1) := dX8_within_15
theorem I63_0 : decode (zB 63) 0 = .ok (.iload_n 0, 1) := dX8_isTime_0
theorem I63_1 : decode (zB 63) 1 = .ok (.iconst 0, 1) := dX8_isTime_1
theorem I63_2 : decode (zB 63) 2 = .ok (.sipush 10079, 3) := dX8_isTime_2
theorem I63_5 : decode (zB 63) 5 = .ok (.invokestatic 44, 3) := dX8_isTime_5
theorem I63_8 : decode (zB 63) 8 = .ok (.ireturn, 1) := dX8_isTime_8
theorem I64_0 : decode (zB 64) 0 = .ok (.iload_n 0, 1) := dX8_isInterval_0
theorem I64_1 : decode (zB 64) 1 = .ok (.ifCond .lt 17, 3) := dX8_isInterval_1
theorem I64_4 : decode (zB 64) 4 = .ok (.iload_n 0, 1) := dX8_isInterval_4
theorem I64_5 : decode (zB 64) 5 = .ok (.iload_n 1, 1) := dX8_isInterval_5
theorem I64_6 : decode (zB 64) 6 = .ok (.if_icmp .ge 12, 3) := dX8_isInterval_6
theorem I64_9 : decode (zB 64) 9 = .ok (.iload_n 1, 1) := dX8_isInterval_9
theorem I64_10 : decode (zB 64) 10 = .ok (.iload_n 2, 1) := dX8_isInterval_10
theorem I64_11 : decode (zB 64) 11 = .ok (.if_icmp .gt 7, 3) := dX8_isInterval_11
theorem I64_14 : decode (zB 64) 14 = .ok (.iconst 1, 1) := dX8_isInterval_14
theorem I64_15 : decode (zB 64) 15 = .ok (.goto 4, 3) := dX8_isInterval_15
theorem I64_18 : decode (zB 64) 18 = .ok (.iconst 0, 1) := dX8_isInterval_18
theorem I64_19 : decode (zB 64) 19 = .ok (.ireturn, 1) := dX8_isInterval_19
theorem I65_0 : decode (zB 65) 0 = .ok (.iload_n 1, 1) := dX8_isProgramme_0
theorem I65_1 : decode (zB 65) 1 = .ok (.iconst 0, 1) := dX8_isProgramme_1
theorem I65_2 : decode (zB 65) 2 = .ok (.aload_n 0, 1) := dX8_isProgramme_2
theorem I65_3 : decode (zB 65) 3 = .ok (.getfield 12, 3) := dX8_isProgramme_3
theorem I65_6 : decode (zB 65) 6 = .ok (.getfield 48, 3) := dX8_isProgramme_6
theorem I65_9 : decode (zB 65) 9 = .ok (.getfield 52, 3) := dX8_isProgramme_9
theorem I65_12 : decode (zB 65) 12 = .ok (.iconst 1, 1) := dX8_isProgramme_12
theorem I65_13 : decode (zB 65) 13 = .ok (.isub, 1) := dX8_isProgramme_13
theorem I65_14 : decode (zB 65) 14 = .ok (.invokestatic 44, 3) := dX8_isProgramme_14
theorem I65_17 : decode (zB 65) 17 = .ok (.ireturn, 1) := dX8_isProgramme_17
theorem I66_0 : decode (zB 66) 0 = .ok (.iload_n 1, 1) := dX8_isItem_0
theorem I66_1 : decode (zB 66) 1 = .ok (.iconst 0, 1) := dX8_isItem_1
theorem I66_2 : decode (zB 66) 2 = .ok (.aload_n 0, 1) := dX8_isItem_2
theorem I66_3 : decode (zB 66) 3 = .ok (.getfield 12, 3) := dX8_isItem_3
theorem I66_6 : decode (zB 66) 6 = .ok (.getfield 102, 3) := dX8_isItem_6
theorem I66_9 : decode (zB 66) 9 = .ok (.getfield 112, 3) := dX8_isItem_9
theorem I66_12 : decode (zB 66) 12 = .ok (.iconst 1, 1) := dX8_isItem_12
theorem I66_13 : decode (zB 66) 13 = .ok (.isub, 1) := dX8_isItem_13
theorem I66_14 : decode (zB 66) 14 = .ok (.invokestatic 44, 3) := dX8_isItem_14
theorem I66_17 : decode (zB 66) 17 = .ok (.ireturn, 1) := dX8_isItem_17
theorem I67_0 : decode (zB 67) 0 = .ok (.aload_n 0, 1) := dX8_obstacle_0
theorem I67_1 : decode (zB 67) 1 = .ok (.getfield 12, 3) := dX8_obstacle_1
theorem I67_4 : decode (zB 67) 4 = .ok (.getfield 102, 3) := dX8_obstacle_4
theorem I67_7 : decode (zB 67) 7 = .ok (.getfield 112, 3) := dX8_obstacle_7
theorem I67_10 : decode (zB 67) 10 = .ok (.bipush 60, 2) := dX8_obstacle_10
theorem I67_12 : decode (zB 67) 12 = .ok (.if_icmp .lt 6, 3) := dX8_obstacle_12
theorem I67_15 : decode (zB 67) 15 = .ok (.bipush (-3), 2) := dX8_obstacle_15
theorem I67_17 : decode (zB 67) 17 = .ok (.ireturn, 1) := dX8_obstacle_17
theorem I67_18 : decode (zB 67) 18 = .ok (.iload_n 2, 1) := dX8_obstacle_18
theorem I67_19 : decode (zB 67) 19 = .ok (.aload_n 0, 1) := dX8_obstacle_19
theorem I67_20 : decode (zB 67) 20 = .ok (.getfield 12, 3) := dX8_obstacle_20
theorem I67_23 : decode (zB 67) 23 = .ok (.getfield 48, 3) := dX8_obstacle_23
theorem I67_26 : decode (zB 67) 26 = .ok (.getfield 130, 3) := dX8_obstacle_26
theorem I67_29 : decode (zB 67) 29 = .ok (.iload_n 1, 1) := dX8_obstacle_29
theorem I67_30 : decode (zB 67) 30 = .ok (.iaload, 1) := dX8_obstacle_30
theorem I67_31 : decode (zB 67) 31 = .ok (.iadd, 1) := dX8_obstacle_31
theorem I67_32 : decode (zB 67) 32 = .ok (.istore_n 3, 1) := dX8_obstacle_32
theorem I67_33 : decode (zB 67) 33 = .ok (.iload_n 3, 1) := dX8_obstacle_33
theorem I67_34 : decode (zB 67) 34 = .ok (.sipush 10080, 3) := dX8_obstacle_34
theorem I67_37 : decode (zB 67) 37 = .ok (.if_icmp .gt 20, 3) := dX8_obstacle_37
theorem I67_40 : decode (zB 67) 40 = .ok (.aload_n 0, 1) := dX8_obstacle_40
theorem I67_41 : decode (zB 67) 41 = .ok (.getfield 12, 3) := dX8_obstacle_41
theorem I67_44 : decode (zB 67) 44 = .ok (.getfield 102, 3) := dX8_obstacle_44
theorem I67_47 : decode (zB 67) 47 = .ok (.iload_n 2, 1) := dX8_obstacle_47
theorem I67_48 : decode (zB 67) 48 = .ok (.iload_n 3, 1) := dX8_obstacle_48
theorem I67_49 : decode (zB 67) 49 = .ok (.invokevirtual 119, 3) := dX8_obstacle_49
theorem I67_52 : decode (zB 67) 52 = .ok (.bipush (-9), 2) := dX8_obstacle_52
theorem I67_54 : decode (zB 67) 54 = .ok (.if_icmp .eq 6, 3) := dX8_obstacle_54
theorem I67_57 : decode (zB 67) 57 = .ok (.bipush (-4), 2) := dX8_obstacle_57
theorem I67_59 : decode (zB 67) 59 = .ok (.ireturn, 1) := dX8_obstacle_59
theorem I67_60 : decode (zB 67) 60 = .ok (.aload_n 0, 1) := dX8_obstacle_60
theorem I67_61 : decode (zB 67) 61 = .ok (.iload_n 1, 1) := dX8_obstacle_61
theorem I67_62 : decode (zB 67) 62 = .ok (.iload_n 2, 1) := dX8_obstacle_62
theorem I67_63 : decode (zB 67) 63 = .ok (.iload_n 3, 1) := dX8_obstacle_63
theorem I67_64 : decode (zB 67) 64 = .ok (.invokevirtual 206, 3) := dX8_obstacle_64
theorem I67_67 : decode (zB 67) 67 = .ok (.ifCond .ne 6, 3) := dX8_obstacle_67
theorem I67_70 : decode (zB 67) 70 = .ok (.bipush (-5), 2) := dX8_obstacle_70
theorem I67_72 : decode (zB 67) 72 = .ok (.ireturn, 1) := dX8_obstacle_72
theorem I67_73 : decode (zB 67) 73 = .ok (.aload_n 0, 1) := dX8_obstacle_73
theorem I67_74 : decode (zB 67) 74 = .ok (.getfield 12, 3) := dX8_obstacle_74
theorem I67_77 : decode (zB 67) 77 = .ok (.getfield 83, 3) := dX8_obstacle_77
theorem I67_80 : decode (zB 67) 80 = .ok (.aload_n 0, 1) := dX8_obstacle_80
theorem I67_81 : decode (zB 67) 81 = .ok (.getfield 12, 3) := dX8_obstacle_81
theorem I67_84 : decode (zB 67) 84 = .ok (.getfield 48, 3) := dX8_obstacle_84
theorem I67_87 : decode (zB 67) 87 = .ok (.getfield 182, 3) := dX8_obstacle_87
theorem I67_90 : decode (zB 67) 90 = .ok (.iload_n 1, 1) := dX8_obstacle_90
theorem I67_91 : decode (zB 67) 91 = .ok (.iaload, 1) := dX8_obstacle_91
theorem I67_92 : decode (zB 67) 92 = .ok (.iload_n 2, 1) := dX8_obstacle_92
theorem I67_93 : decode (zB 67) 93 = .ok (.iload_n 3, 1) := dX8_obstacle_93
theorem I67_94 : decode (zB 67) 94 = .ok (.invokevirtual 185, 3) := dX8_obstacle_94
theorem I67_97 : decode (zB 67) 97 = .ok (.bipush (-9), 2) := dX8_obstacle_97
theorem I67_99 : decode (zB 67) 99 = .ok (.if_icmp .eq 6, 3) := dX8_obstacle_99
theorem I67_102 : decode (zB 67) 102 = .ok (.bipush (-6), 2) := dX8_obstacle_102
theorem I67_104 : decode (zB 67) 104 = .ok (.ireturn, 1) := dX8_obstacle_104
theorem I67_105 : decode (zB 67) 105 = .ok (.iconst 0, 1) := dX8_obstacle_105
theorem I67_106 : decode (zB 67) 106 = .ok (.ireturn, 1) := dX8_obstacle_106
theorem I68_0 : decode (zB 68) 0 = .ok (.aload_n 0, 1) := dX8_rightsAllow_0
theorem I68_1 : decode (zB 68) 1 = .ok (.getfield 12, 3) := dX8_rightsAllow_1
theorem I68_4 : decode (zB 68) 4 = .ok (.getfield 48, 3) := dX8_rightsAllow_4
theorem I68_7 : decode (zB 68) 7 = .ok (.getfield 209, 3) := dX8_rightsAllow_7
theorem I68_10 : decode (zB 68) 10 = .ok (.iload_n 1, 1) := dX8_rightsAllow_10
theorem I68_11 : decode (zB 68) 11 = .ok (.iaload, 1) := dX8_rightsAllow_11
theorem I68_12 : decode (zB 68) 12 = .ok (.iconst 2, 1) := dX8_rightsAllow_12
theorem I68_13 : decode (zB 68) 13 = .ok (.if_icmp .ne 5, 3) := dX8_rightsAllow_13
theorem I68_16 : decode (zB 68) 16 = .ok (.iconst 1, 1) := dX8_rightsAllow_16
theorem I68_17 : decode (zB 68) 17 = .ok (.ireturn, 1) := dX8_rightsAllow_17
theorem I68_18 : decode (zB 68) 18 = .ok (.aload_n 0, 1) := dX8_rightsAllow_18
theorem I68_19 : decode (zB 68) 19 = .ok (.iload_n 1, 1) := dX8_rightsAllow_19
theorem I68_20 : decode (zB 68) 20 = .ok (.invokevirtual 212, 3) := dX8_rightsAllow_20
theorem I68_23 : decode (zB 68) 23 = .ok (.aload_n 0, 1) := dX8_rightsAllow_23
theorem I68_24 : decode (zB 68) 24 = .ok (.getfield 26, 3) := dX8_rightsAllow_24
theorem I68_27 : decode (zB 68) 27 = .ok (.iload_n 1, 1) := dX8_rightsAllow_27
theorem I68_28 : decode (zB 68) 28 = .ok (.iload_n 2, 1) := dX8_rightsAllow_28
theorem I68_29 : decode (zB 68) 29 = .ok (.iload_n 3, 1) := dX8_rightsAllow_29
theorem I68_30 : decode (zB 68) 30 = .ok (.invokevirtual 215, 3) := dX8_rightsAllow_30
theorem I68_33 : decode (zB 68) 33 = .ok (.aload_n 0, 1) := dX8_rightsAllow_33
theorem I68_34 : decode (zB 68) 34 = .ok (.getfield 26, 3) := dX8_rightsAllow_34
theorem I68_37 : decode (zB 68) 37 = .ok (.aload_n 0, 1) := dX8_rightsAllow_37
theorem I68_38 : decode (zB 68) 38 = .ok (.getfield 12, 3) := dX8_rightsAllow_38
theorem I68_41 : decode (zB 68) 41 = .ok (.getfield 73, 3) := dX8_rightsAllow_41
theorem I68_44 : decode (zB 68) 44 = .ok (.invokevirtual 219, 3) := dX8_rightsAllow_44
theorem I68_47 : decode (zB 68) 47 = .ok (.ireturn, 1) := dX8_rightsAllow_47
theorem I69_0 : decode (zB 69) 0 = .ok (.aload_n 0, 1) := dX8_gatherItemsOf_0
theorem I69_1 : decode (zB 69) 1 = .ok (.getfield 26, 3) := dX8_gatherItemsOf_1
theorem I69_4 : decode (zB 69) 4 = .ok (.invokevirtual 223, 3) := dX8_gatherItemsOf_4
theorem I69_7 : decode (zB 69) 7 = .ok (.iconst 0, 1) := dX8_gatherItemsOf_7
theorem I69_8 : decode (zB 69) 8 = .ok (.istore_n 2, 1) := dX8_gatherItemsOf_8
theorem I69_9 : decode (zB 69) 9 = .ok (.iload_n 2, 1) := dX8_gatherItemsOf_9
theorem I69_10 : decode (zB 69) 10 = .ok (.aload_n 0, 1) := dX8_gatherItemsOf_10
theorem I69_11 : decode (zB 69) 11 = .ok (.getfield 12, 3) := dX8_gatherItemsOf_11
theorem I69_14 : decode (zB 69) 14 = .ok (.getfield 102, 3) := dX8_gatherItemsOf_14
theorem I69_17 : decode (zB 69) 17 = .ok (.getfield 112, 3) := dX8_gatherItemsOf_17
theorem I69_20 : decode (zB 69) 20 = .ok (.if_icmp .ge 56, 3) := dX8_gatherItemsOf_20
theorem I69_23 : decode (zB 69) 23 = .ok (.aload_n 0, 1) := dX8_gatherItemsOf_23
theorem I69_24 : decode (zB 69) 24 = .ok (.getfield 12, 3) := dX8_gatherItemsOf_24
theorem I69_27 : decode (zB 69) 27 = .ok (.getfield 102, 3) := dX8_gatherItemsOf_27
theorem I69_30 : decode (zB 69) 30 = .ok (.getfield 147, 3) := dX8_gatherItemsOf_30
theorem I69_33 : decode (zB 69) 33 = .ok (.iload_n 2, 1) := dX8_gatherItemsOf_33
theorem I69_34 : decode (zB 69) 34 = .ok (.iaload, 1) := dX8_gatherItemsOf_34
theorem I69_35 : decode (zB 69) 35 = .ok (.iload_n 1, 1) := dX8_gatherItemsOf_35
theorem I69_36 : decode (zB 69) 36 = .ok (.if_icmp .ne 34, 3) := dX8_gatherItemsOf_36
theorem I69_39 : decode (zB 69) 39 = .ok (.aload_n 0, 1) := dX8_gatherItemsOf_39
theorem I69_40 : decode (zB 69) 40 = .ok (.getfield 26, 3) := dX8_gatherItemsOf_40
theorem I69_43 : decode (zB 69) 43 = .ok (.iload_n 1, 1) := dX8_gatherItemsOf_43
theorem I69_44 : decode (zB 69) 44 = .ok (.aload_n 0, 1) := dX8_gatherItemsOf_44
theorem I69_45 : decode (zB 69) 45 = .ok (.getfield 12, 3) := dX8_gatherItemsOf_45
theorem I69_48 : decode (zB 69) 48 = .ok (.getfield 102, 3) := dX8_gatherItemsOf_48
theorem I69_51 : decode (zB 69) 51 = .ok (.getfield 150, 3) := dX8_gatherItemsOf_51
theorem I69_54 : decode (zB 69) 54 = .ok (.iload_n 2, 1) := dX8_gatherItemsOf_54
theorem I69_55 : decode (zB 69) 55 = .ok (.iaload, 1) := dX8_gatherItemsOf_55
theorem I69_56 : decode (zB 69) 56 = .ok (.aload_n 0, 1) := dX8_gatherItemsOf_56
theorem I69_57 : decode (zB 69) 57 = .ok (.getfield 12, 3) := dX8_gatherItemsOf_57
theorem I69_60 : decode (zB 69) 60 = .ok (.getfield 102, 3) := dX8_gatherItemsOf_60
theorem I69_63 : decode (zB 69) 63 = .ok (.iload_n 2, 1) := dX8_gatherItemsOf_63
theorem I69_64 : decode (zB 69) 64 = .ok (.invokevirtual 137, 3) := dX8_gatherItemsOf_64
theorem I69_67 : decode (zB 69) 67 = .ok (.invokevirtual 215, 3) := dX8_gatherItemsOf_67
theorem I69_70 : decode (zB 69) 70 = .ok (.iinc 2 1, 3) := dX8_gatherItemsOf_70
theorem I69_73 : decode (zB 69) 73 = .ok (.goto (-64), 3) := dX8_gatherItemsOf_73
theorem I69_76 : decode (zB 69) 76 = .ok (.return_, 1) := dX8_gatherItemsOf_76
theorem I70_0 : decode (zB 70) 0 = .ok (.aload_n 0, 1) := dX8_putOnAir_0
theorem I70_1 : decode (zB 70) 1 = .ok (.getfield 12, 3) := dX8_putOnAir_1
theorem I70_4 : decode (zB 70) 4 = .ok (.getfield 102, 3) := dX8_putOnAir_4
theorem I70_7 : decode (zB 70) 7 = .ok (.iload_n 2, 1) := dX8_putOnAir_7
theorem I70_8 : decode (zB 70) 8 = .ok (.invokevirtual 226, 3) := dX8_putOnAir_8
theorem I70_11 : decode (zB 70) 11 = .ok (.istore 4, 2) := dX8_putOnAir_11
theorem I70_13 : decode (zB 70) 13 = .ok (.aload_n 0, 1) := dX8_putOnAir_13
theorem I70_14 : decode (zB 70) 14 = .ok (.getfield 12, 3) := dX8_putOnAir_14
theorem I70_17 : decode (zB 70) 17 = .ok (.getfield 102, 3) := dX8_putOnAir_17
theorem I70_20 : decode (zB 70) 20 = .ok (.iload 4, 2) := dX8_putOnAir_20
theorem I70_22 : decode (zB 70) 22 = .ok (.iload_n 1, 1) := dX8_putOnAir_22
theorem I70_23 : decode (zB 70) 23 = .ok (.iload_n 2, 1) := dX8_putOnAir_23
theorem I70_24 : decode (zB 70) 24 = .ok (.aload_n 0, 1) := dX8_putOnAir_24
theorem I70_25 : decode (zB 70) 25 = .ok (.getfield 12, 3) := dX8_putOnAir_25
theorem I70_28 : decode (zB 70) 28 = .ok (.getfield 48, 3) := dX8_putOnAir_28
theorem I70_31 : decode (zB 70) 31 = .ok (.getfield 130, 3) := dX8_putOnAir_31
theorem I70_34 : decode (zB 70) 34 = .ok (.iload_n 1, 1) := dX8_putOnAir_34
theorem I70_35 : decode (zB 70) 35 = .ok (.iaload, 1) := dX8_putOnAir_35
theorem I70_36 : decode (zB 70) 36 = .ok (.iload_n 3, 1) := dX8_putOnAir_36
theorem I70_37 : decode (zB 70) 37 = .ok (.invokevirtual 229, 3) := dX8_putOnAir_37
theorem I70_40 : decode (zB 70) 40 = .ok (.iload 4, 2) := dX8_putOnAir_40
theorem I70_42 : decode (zB 70) 42 = .ok (.ireturn, 1) := dX8_putOnAir_42
theorem I71_0 : decode (zB 71) 0 = .ok (.iload_n 2, 1) := dX8_earliestStart_0
theorem I71_1 : decode (zB 71) 1 = .ok (.sipush 1440, 3) := dX8_earliestStart_1
theorem I71_4 : decode (zB 71) 4 = .ok (.iadd, 1) := dX8_earliestStart_4
theorem I71_5 : decode (zB 71) 5 = .ok (.iconst 1, 1) := dX8_earliestStart_5
theorem I71_6 : decode (zB 71) 6 = .ok (.isub, 1) := dX8_earliestStart_6
theorem I71_7 : decode (zB 71) 7 = .ok (.sipush 10079, 3) := dX8_earliestStart_7
theorem I71_10 : decode (zB 71) 10 = .ok (.invokestatic 171, 3) := dX8_earliestStart_10
theorem I71_13 : decode (zB 71) 13 = .ok (.istore_n 3, 1) := dX8_earliestStart_13
theorem I71_14 : decode (zB 71) 14 = .ok (.iload_n 2, 1) := dX8_earliestStart_14
theorem I71_15 : decode (zB 71) 15 = .ok (.istore 4, 2) := dX8_earliestStart_15
theorem I71_17 : decode (zB 71) 17 = .ok (.iconst 0, 1) := dX8_earliestStart_17
theorem I71_18 : decode (zB 71) 18 = .ok (.istore 5, 2) := dX8_earliestStart_18
theorem I71_20 : decode (zB 71) 20 = .ok (.iload 5, 2) := dX8_earliestStart_20
theorem I71_22 : decode (zB 71) 22 = .ok (.sipush 1440, 3) := dX8_earliestStart_22
theorem I71_25 : decode (zB 71) 25 = .ok (.if_icmp .ge 43, 3) := dX8_earliestStart_25
theorem I71_28 : decode (zB 71) 28 = .ok (.iload 4, 2) := dX8_earliestStart_28
theorem I71_30 : decode (zB 71) 30 = .ok (.iload_n 3, 1) := dX8_earliestStart_30
theorem I71_31 : decode (zB 71) 31 = .ok (.if_icmp .gt 37, 3) := dX8_earliestStart_31
theorem I71_34 : decode (zB 71) 34 = .ok (.aload_n 0, 1) := dX8_earliestStart_34
theorem I71_35 : decode (zB 71) 35 = .ok (.iload_n 1, 1) := dX8_earliestStart_35
theorem I71_36 : decode (zB 71) 36 = .ok (.iload 4, 2) := dX8_earliestStart_36
theorem I71_38 : decode (zB 71) 38 = .ok (.invokevirtual 165, 3) := dX8_earliestStart_38
theorem I71_41 : decode (zB 71) 41 = .ok (.istore 6, 2) := dX8_earliestStart_41
