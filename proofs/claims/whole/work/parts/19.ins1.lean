theorem I95_64 : decode (zB 95) 64 = .ok (.istore 4, 2) := dX9_addBlackout_64
theorem I95_66 : decode (zB 95) 66 = .ok (.aload_n 0, 1) := dX9_addBlackout_66
theorem I95_67 : decode (zB 95) 67 = .ok (.getfield 7, 3) := dX9_addBlackout_67
theorem I95_70 : decode (zB 95) 70 = .ok (.iload 4, 2) := dX9_addBlackout_70
theorem I95_72 : decode (zB 95) 72 = .ok (.iload_n 1, 1) := dX9_addBlackout_72
theorem I95_73 : decode (zB 95) 73 = .ok (.iastore, 1) := dX9_addBlackout_73
theorem I95_74 : decode (zB 95) 74 = .ok (.aload_n 0, 1) := dX9_addBlackout_74
theorem I95_75 : decode (zB 95) 75 = .ok (.getfield 7, 3) := dX9_addBlackout_75
theorem I95_78 : decode (zB 95) 78 = .ok (.iload 4, 2) := dX9_addBlackout_78
theorem I95_80 : decode (zB 95) 80 = .ok (.iconst 1, 1) := dX9_addBlackout_80
theorem I95_81 : decode (zB 95) 81 = .ok (.iadd, 1) := dX9_addBlackout_81
theorem I95_82 : decode (zB 95) 82 = .ok (.iload_n 2, 1) := dX9_addBlackout_82
theorem I95_83 : decode (zB 95) 83 = .ok (.iastore, 1) := dX9_addBlackout_83
theorem I95_84 : decode (zB 95) 84 = .ok (.aload_n 0, 1) := dX9_addBlackout_84
theorem I95_85 : decode (zB 95) 85 = .ok (.getfield 7, 3) := dX9_addBlackout_85
theorem I95_88 : decode (zB 95) 88 = .ok (.iload 4, 2) := dX9_addBlackout_88
theorem I95_90 : decode (zB 95) 90 = .ok (.iconst 2, 1) := dX9_addBlackout_90
theorem I95_91 : decode (zB 95) 91 = .ok (.iadd, 1) := dX9_addBlackout_91
theorem I95_92 : decode (zB 95) 92 = .ok (.iload_n 3, 1) := dX9_addBlackout_92
theorem I95_93 : decode (zB 95) 93 = .ok (.iastore, 1) := dX9_addBlackout_93
theorem I95_94 : decode (zB 95) 94 = .ok (.aload_n 0, 1) := dX9_addBlackout_94
theorem I95_95 : decode (zB 95) 95 = .ok (.getfield 7, 3) := dX9_addBlackout_95
theorem I95_98 : decode (zB 95) 98 = .ok (.iconst 1, 1) := dX9_addBlackout_98
theorem I95_99 : decode (zB 95) 99 = .ok (.dup2, 1) := dX9_addBlackout_99
theorem I95_100 : decode (zB 95) 100 = .ok (.iaload, 1) := dX9_addBlackout_100
theorem I95_101 : decode (zB 95) 101 = .ok (.iconst 1, 1) := dX9_addBlackout_101
theorem I95_102 : decode (zB 95) 102 = .ok (.iadd, 1) := dX9_addBlackout_102
theorem I95_103 : decode (zB 95) 103 = .ok (.iastore, 1) := dX9_addBlackout_103
theorem I95_104 : decode (zB 95) 104 = .ok (.aload_n 0, 1) := dX9_addBlackout_104
theorem I95_105 : decode (zB 95) 105 = .ok (.getfield 7, 3) := dX9_addBlackout_105
theorem I95_108 : decode (zB 95) 108 = .ok (.iconst 1, 1) := dX9_addBlackout_108
theorem I95_109 : decode (zB 95) 109 = .ok (.iaload, 1) := dX9_addBlackout_109
theorem I95_110 : decode (zB 95) 110 = .ok (.iconst 1, 1) := dX9_addBlackout_110
theorem I95_111 : decode (zB 95) 111 = .ok (.isub, 1) := dX9_addBlackout_111
theorem I95_112 : decode (zB 95) 112 = .ok (.ireturn, 1) := dX9_addBlackout_112
theorem I96_0 : decode (zB 96) 0 = .ok (.aload_n 0, 1) := dX9_lists_0
theorem I96_1 : decode (zB 96) 1 = .ok (.getfield 56, 3) := dX9_lists_1
theorem I96_4 : decode (zB 96) 4 = .ok (.istore 4, 2) := dX9_lists_4
theorem I96_6 : decode (zB 96) 6 = .ok (.iload 4, 2) := dX9_lists_6
theorem I96_8 : decode (zB 96) 8 = .ok (.ifCond .le 70, 3) := dX9_lists_8
theorem I96_11 : decode (zB 96) 11 = .ok (.aload_n 0, 1) := dX9_lists_11
theorem I96_12 : decode (zB 96) 12 = .ok (.getfield 19, 3) := dX9_lists_12
theorem I96_15 : decode (zB 96) 15 = .ok (.iload 4, 2) := dX9_lists_15
theorem I96_17 : decode (zB 96) 17 = .ok (.iconst 1, 1) := dX9_lists_17
theorem I96_18 : decode (zB 96) 18 = .ok (.isub, 1) := dX9_lists_18
theorem I96_19 : decode (zB 96) 19 = .ok (.iaload, 1) := dX9_lists_19
theorem I96_20 : decode (zB 96) 20 = .ok (.iload_n 2, 1) := dX9_lists_20
theorem I96_21 : decode (zB 96) 21 = .ok (.if_icmp .lt 57, 3) := dX9_lists_21
theorem I96_24 : decode (zB 96) 24 = .ok (.aload_n 0, 1) := dX9_lists_24
theorem I96_25 : decode (zB 96) 25 = .ok (.getfield 16, 3) := dX9_lists_25
theorem I96_28 : decode (zB 96) 28 = .ok (.iload 4, 2) := dX9_lists_28
theorem I96_30 : decode (zB 96) 30 = .ok (.aload_n 0, 1) := dX9_lists_30
theorem I96_31 : decode (zB 96) 31 = .ok (.getfield 16, 3) := dX9_lists_31
theorem I96_34 : decode (zB 96) 34 = .ok (.iload 4, 2) := dX9_lists_34
theorem I96_36 : decode (zB 96) 36 = .ok (.iconst 1, 1) := dX9_lists_36
theorem I96_37 : decode (zB 96) 37 = .ok (.isub, 1) := dX9_lists_37
theorem I96_38 : decode (zB 96) 38 = .ok (.iaload, 1) := dX9_lists_38
theorem I96_39 : decode (zB 96) 39 = .ok (.iastore, 1) := dX9_lists_39
theorem I96_40 : decode (zB 96) 40 = .ok (.aload_n 0, 1) := dX9_lists_40
theorem I96_41 : decode (zB 96) 41 = .ok (.getfield 19, 3) := dX9_lists_41
theorem I96_44 : decode (zB 96) 44 = .ok (.iload 4, 2) := dX9_lists_44
theorem I96_46 : decode (zB 96) 46 = .ok (.aload_n 0, 1) := dX9_lists_46
theorem I96_47 : decode (zB 96) 47 = .ok (.getfield 19, 3) := dX9_lists_47
theorem I96_50 : decode (zB 96) 50 = .ok (.iload 4, 2) := dX9_lists_50
theorem I96_52 : decode (zB 96) 52 = .ok (.iconst 1, 1) := dX9_lists_52
theorem I96_53 : decode (zB 96) 53 = .ok (.isub, 1) := dX9_lists_53
theorem I96_54 : decode (zB 96) 54 = .ok (.iaload, 1) := dX9_lists_54
theorem I96_55 : decode (zB 96) 55 = .ok (.iastore, 1) := dX9_lists_55
theorem I96_56 : decode (zB 96) 56 = .ok (.aload_n 0, 1) := dX9_lists_56
theorem I96_57 : decode (zB 96) 57 = .ok (.getfield 22, 3) := dX9_lists_57
theorem I96_60 : decode (zB 96) 60 = .ok (.iload 4, 2) := dX9_lists_60
theorem I96_62 : decode (zB 96) 62 = .ok (.aload_n 0, 1) := dX9_lists_62
theorem I96_63 : decode (zB 96) 63 = .ok (.getfield 22, 3) := dX9_lists_63
theorem I96_66 : decode (zB 96) 66 = .ok (.iload 4, 2) := dX9_lists_66
theorem I96_68 : decode (zB 96) 68 = .ok (.iconst 1, 1) := dX9_lists_68
theorem I96_69 : decode (zB 96) 69 = .ok (.isub, 1) := dX9_lists_69
theorem I96_70 : decode (zB 96) 70 = .ok (.iaload, 1) := dX9_lists_70
theorem I96_71 : decode (zB 96) 71 = .ok (.iastore, 1) := dX9_lists_71
theorem I96_72 : decode (zB 96) 72 = .ok (.iinc 4 (-1), 3) := dX9_lists_72
theorem I96_75 : decode (zB 96) 75 = .ok (.goto (-69), 3) := dX9_lists_75
theorem I96_78 : decode (zB 96) 78 = .ok (.aload_n 0, 1) := dX9_lists_78
theorem I96_79 : decode (zB 96) 79 = .ok (.getfield 16, 3) := dX9_lists_79
theorem I96_82 : decode (zB 96) 82 = .ok (.iload 4, 2) := dX9_lists_82
theorem I96_84 : decode (zB 96) 84 = .ok (.iload_n 1, 1) := dX9_lists_84
theorem I96_85 : decode (zB 96) 85 = .ok (.iastore, 1) := dX9_lists_85
theorem I96_86 : decode (zB 96) 86 = .ok (.aload_n 0, 1) := dX9_lists_86
theorem I96_87 : decode (zB 96) 87 = .ok (.getfield 19, 3) := dX9_lists_87
theorem I96_90 : decode (zB 96) 90 = .ok (.iload 4, 2) := dX9_lists_90
theorem I96_92 : decode (zB 96) 92 = .ok (.iload_n 2, 1) := dX9_lists_92
theorem I96_93 : decode (zB 96) 93 = .ok (.iastore, 1) := dX9_lists_93
theorem I96_94 : decode (zB 96) 94 = .ok (.aload_n 0, 1) := dX9_lists_94
theorem I96_95 : decode (zB 96) 95 = .ok (.getfield 22, 3) := dX9_lists_95
theorem I96_98 : decode (zB 96) 98 = .ok (.iload 4, 2) := dX9_lists_98
theorem I96_100 : decode (zB 96) 100 = .ok (.iload_n 3, 1) := dX9_lists_100
theorem I96_101 : decode (zB 96) 101 = .ok (.iastore, 1) := dX9_lists_101
theorem I96_102 : decode (zB 96) 102 = .ok (.aload_n 0, 1) := dX9_lists_102
theorem I96_103 : decode (zB 96) 103 = .ok (.dup, 1) := dX9_lists_103
theorem I96_104 : decode (zB 96) 104 = .ok (.getfield 56, 3) := dX9_lists_104
theorem I96_107 : decode (zB 96) 107 = .ok (.iconst 1, 1) := dX9_lists_107
theorem I96_108 : decode (zB 96) 108 = .ok (.iadd, 1) := dX9_lists_108
theorem I96_109 : decode (zB 96) 109 = .ok (.putfield 56, 3) := dX9_lists_109
theorem I96_112 : decode (zB 96) 112 = .ok (.return_, 1) := dX9_lists_112
theorem I97_0 : decode (zB 97) 0 = .ok (.aload_n 0, 1) := dX9_listsAll_0
theorem I97_1 : decode (zB 97) 1 = .ok (.iconst 0, 1) := dX9_listsAll_1
theorem I97_2 : decode (zB 97) 2 = .ok (.putfield 56, 3) := dX9_listsAll_2
theorem I97_5 : decode (zB 97) 5 = .ok (.iconst 0, 1) := dX9_listsAll_5
theorem I97_6 : decode (zB 97) 6 = .ok (.istore_n 1, 1) := dX9_listsAll_6
theorem I97_7 : decode (zB 97) 7 = .ok (.iload_n 1, 1) := dX9_listsAll_7
theorem I97_8 : decode (zB 97) 8 = .ok (.aload_n 0, 1) := dX9_listsAll_8
theorem I97_9 : decode (zB 97) 9 = .ok (.getfield 7, 3) := dX9_listsAll_9
theorem I97_12 : decode (zB 97) 12 = .ok (.iconst 3, 1) := dX9_listsAll_12
theorem I97_13 : decode (zB 97) 13 = .ok (.iaload, 1) := dX9_listsAll_13
theorem I97_14 : decode (zB 97) 14 = .ok (.if_icmp .ge 55, 3) := dX9_listsAll_14
theorem I97_17 : decode (zB 97) 17 = .ok (.aload_n 0, 1) := dX9_listsAll_17
theorem I97_18 : decode (zB 97) 18 = .ok (.getfield 16, 3) := dX9_listsAll_18
theorem I97_21 : decode (zB 97) 21 = .ok (.iload_n 1, 1) := dX9_listsAll_21
theorem I97_22 : decode (zB 97) 22 = .ok (.aload_n 0, 1) := dX9_listsAll_22
theorem I97_23 : decode (zB 97) 23 = .ok (.iload_n 1, 1) := dX9_listsAll_23
theorem I97_24 : decode (zB 97) 24 = .ok (.iconst 0, 1) := dX9_listsAll_24
theorem I97_25 : decode (zB 97) 25 = .ok (.invokevirtual 45, 3) := dX9_listsAll_25
theorem I97_28 : decode (zB 97) 28 = .ok (.iastore, 1) := dX9_listsAll_28
theorem I97_29 : decode (zB 97) 29 = .ok (.aload_n 0, 1) := dX9_listsAll_29
theorem I97_30 : decode (zB 97) 30 = .ok (.getfield 19, 3) := dX9_listsAll_30
theorem I97_33 : decode (zB 97) 33 = .ok (.iload_n 1, 1) := dX9_listsAll_33
theorem I97_34 : decode (zB 97) 34 = .ok (.aload_n 0, 1) := dX9_listsAll_34
theorem I97_35 : decode (zB 97) 35 = .ok (.iload_n 1, 1) := dX9_listsAll_35
theorem I97_36 : decode (zB 97) 36 = .ok (.iconst 1, 1) := dX9_listsAll_36
theorem I97_37 : decode (zB 97) 37 = .ok (.invokevirtual 45, 3) := dX9_listsAll_37
theorem I97_40 : decode (zB 97) 40 = .ok (.iastore, 1) := dX9_listsAll_40
theorem I97_41 : decode (zB 97) 41 = .ok (.aload_n 0, 1) := dX9_listsAll_41
theorem I97_42 : decode (zB 97) 42 = .ok (.getfield 22, 3) := dX9_listsAll_42
theorem I97_45 : decode (zB 97) 45 = .ok (.iload_n 1, 1) := dX9_listsAll_45
theorem I97_46 : decode (zB 97) 46 = .ok (.aload_n 0, 1) := dX9_listsAll_46
theorem I97_47 : decode (zB 97) 47 = .ok (.iload_n 1, 1) := dX9_listsAll_47
theorem I97_48 : decode (zB 97) 48 = .ok (.iconst 2, 1) := dX9_listsAll_48
theorem I97_49 : decode (zB 97) 49 = .ok (.invokevirtual 45, 3) := dX9_listsAll_49
theorem I97_52 : decode (zB 97) 52 = .ok (.iastore, 1) := dX9_listsAll_52
theorem I97_53 : decode (zB 97) 53 = .ok (.aload_n 0, 1) := dX9_listsAll_53
theorem I97_54 : decode (zB 97) 54 = .ok (.dup, 1) := dX9_listsAll_54
theorem I97_55 : decode (zB 97) 55 = .ok (.getfield 56, 3) := dX9_listsAll_55
theorem I97_58 : decode (zB 97) 58 = .ok (.iconst 1, 1) := dX9_listsAll_58
theorem I97_59 : decode (zB 97) 59 = .ok (.iadd, 1) := dX9_listsAll_59
theorem I97_60 : decode (zB 97) 60 = .ok (.putfield 56, 3) := dX9_listsAll_60
theorem I97_63 : decode (zB 97) 63 = .ok (.iinc 1 1, 3) := dX9_listsAll_63
theorem I97_66 : decode (zB 97) 66 = .ok (.goto (-59), 3) := dX9_listsAll_66
theorem I97_69 : decode (zB 97) 69 = .ok (.return_, 1) := dX9_listsAll_69
theorem I98_0 : decode (zB 98) 0 = .ok (.bipush (-9), 2) := dX9_rightFor_0
theorem I98_2 : decode (zB 98) 2 = .ok (.istore 4, 2) := dX9_rightFor_2
theorem I98_4 : decode (zB 98) 4 = .ok (.iconst 0, 1) := dX9_rightFor_4
theorem I98_5 : decode (zB 98) 5 = .ok (.istore 5, 2) := dX9_rightFor_5
theorem I98_7 : decode (zB 98) 7 = .ok (.iload 5, 2) := dX9_rightFor_7
theorem I98_9 : decode (zB 98) 9 = .ok (.aload_n 0, 1) := dX9_rightFor_9
theorem I98_10 : decode (zB 98) 10 = .ok (.getfield 7, 3) := dX9_rightFor_10
theorem I98_13 : decode (zB 98) 13 = .ok (.iconst 2, 1) := dX9_rightFor_13
theorem I98_14 : decode (zB 98) 14 = .ok (.iaload, 1) := dX9_rightFor_14
theorem I98_15 : decode (zB 98) 15 = .ok (.if_icmp .ge 117, 3) := dX9_rightFor_15
theorem I98_18 : decode (zB 98) 18 = .ok (.bipush 110, 2) := dX9_rightFor_18
theorem I98_20 : decode (zB 98) 20 = .ok (.iconst 4, 1) := dX9_rightFor_20
theorem I98_21 : decode (zB 98) 21 = .ok (.iload 5, 2) := dX9_rightFor_21
theorem I98_23 : decode (zB 98) 23 = .ok (.imul, 1) := dX9_rightFor_23
theorem I98_24 : decode (zB 98) 24 = .ok (.iadd, 1) := dX9_rightFor_24
theorem I98_25 : decode (zB 98) 25 = .ok (.istore 6, 2) := dX9_rightFor_25
theorem I98_27 : decode (zB 98) 27 = .ok (.aload_n 0, 1) := dX9_rightFor_27
theorem I98_28 : decode (zB 98) 28 = .ok (.getfield 7, 3) := dX9_rightFor_28
theorem I98_31 : decode (zB 98) 31 = .ok (.iload 6, 2) := dX9_rightFor_31
theorem I98_33 : decode (zB 98) 33 = .ok (.iaload, 1) := dX9_rightFor_33
theorem I98_34 : decode (zB 98) 34 = .ok (.iload_n 1, 1) := dX9_rightFor_34
theorem I98_35 : decode (zB 98) 35 = .ok (.if_icmp .ne 43, 3) := dX9_rightFor_35
theorem I98_38 : decode (zB 98) 38 = .ok (.iload_n 2, 1) := dX9_rightFor_38
theorem I98_39 : decode (zB 98) 39 = .ok (.aload_n 0, 1) := dX9_rightFor_39
theorem I98_40 : decode (zB 98) 40 = .ok (.getfield 7, 3) := dX9_rightFor_40
theorem I98_43 : decode (zB 98) 43 = .ok (.iload 6, 2) := dX9_rightFor_43
theorem I98_45 : decode (zB 98) 45 = .ok (.iconst 1, 1) := dX9_rightFor_45
theorem I98_46 : decode (zB 98) 46 = .ok (.iadd, 1) := dX9_rightFor_46
theorem I98_47 : decode (zB 98) 47 = .ok (.iaload, 1) := dX9_rightFor_47
theorem I98_48 : decode (zB 98) 48 = .ok (.if_icmp .lt 30, 3) := dX9_rightFor_48
theorem I98_51 : decode (zB 98) 51 = .ok (.iload_n 3, 1) := dX9_rightFor_51
theorem I98_52 : decode (zB 98) 52 = .ok (.aload_n 0, 1) := dX9_rightFor_52
theorem I98_53 : decode (zB 98) 53 = .ok (.getfield 7, 3) := dX9_rightFor_53
theorem I98_56 : decode (zB 98) 56 = .ok (.iload 6, 2) := dX9_rightFor_56
theorem I98_58 : decode (zB 98) 58 = .ok (.iconst 2, 1) := dX9_rightFor_58
theorem I98_59 : decode (zB 98) 59 = .ok (.iadd, 1) := dX9_rightFor_59
theorem I98_60 : decode (zB 98) 60 = .ok (.iaload, 1) := dX9_rightFor_60
theorem I98_61 : decode (zB 98) 61 = .ok (.if_icmp .gt 17, 3) := dX9_rightFor_61
theorem I98_64 : decode (zB 98) 64 = .ok (.aload_n 0, 1) := dX9_rightFor_64
theorem I98_65 : decode (zB 98) 65 = .ok (.getfield 28, 3) := dX9_rightFor_65
theorem I98_68 : decode (zB 98) 68 = .ok (.iload 5, 2) := dX9_rightFor_68
theorem I98_70 : decode (zB 98) 70 = .ok (.iaload, 1) := dX9_rightFor_70
theorem I98_71 : decode (zB 98) 71 = .ok (.ifCond .le 7, 3) := dX9_rightFor_71
theorem I98_74 : decode (zB 98) 74 = .ok (.iconst 1, 1) := dX9_rightFor_74
theorem I98_75 : decode (zB 98) 75 = .ok (.goto 4, 3) := dX9_rightFor_75
theorem I98_78 : decode (zB 98) 78 = .ok (.iconst 0, 1) := dX9_rightFor_78
theorem I98_79 : decode (zB 98) 79 = .ok (.istore 7, 2) := dX9_rightFor_79
theorem I98_81 : decode (zB 98) 81 = .ok (.iload 7, 2) := dX9_rightFor_81
theorem I98_83 : decode (zB 98) 83 = .ok (.ifCond .eq 39, 3) := dX9_rightFor_83
theorem I98_86 : decode (zB 98) 86 = .ok (.iload 4, 2) := dX9_rightFor_86
theorem I98_88 : decode (zB 98) 88 = .ok (.ifCond .lt 29, 3) := dX9_rightFor_88
theorem I98_91 : decode (zB 98) 91 = .ok (.aload_n 0, 1) := dX9_rightFor_91
theorem I98_92 : decode (zB 98) 92 = .ok (.getfield 7, 3) := dX9_rightFor_92
theorem I98_95 : decode (zB 98) 95 = .ok (.iload 6, 2) := dX9_rightFor_95
theorem I98_97 : decode (zB 98) 97 = .ok (.iconst 2, 1) := dX9_rightFor_97
theorem I98_98 : decode (zB 98) 98 = .ok (.iadd, 1) := dX9_rightFor_98
theorem I98_99 : decode (zB 98) 99 = .ok (.iaload, 1) := dX9_rightFor_99
theorem I98_100 : decode (zB 98) 100 = .ok (.aload_n 0, 1) := dX9_rightFor_100
theorem I98_101 : decode (zB 98) 101 = .ok (.getfield 7, 3) := dX9_rightFor_101
theorem I98_104 : decode (zB 98) 104 = .ok (.bipush 110, 2) := dX9_rightFor_104
theorem I98_106 : decode (zB 98) 106 = .ok (.iconst 4, 1) := dX9_rightFor_106
theorem I98_107 : decode (zB 98) 107 = .ok (.iload 4, 2) := dX9_rightFor_107
theorem I98_109 : decode (zB 98) 109 = .ok (.imul, 1) := dX9_rightFor_109
theorem I98_110 : decode (zB 98) 110 = .ok (.iadd, 1) := dX9_rightFor_110
theorem I98_111 : decode (zB 98) 111 = .ok (.iconst 2, 1) := dX9_rightFor_111
theorem I98_112 : decode (zB 98) 112 = .ok (.iadd, 1) := dX9_rightFor_112
theorem I98_113 : decode (zB 98) 113 = .ok (.iaload, 1) := dX9_rightFor_113
theorem I98_114 : decode (zB 98) 114 = .ok (.if_icmp .ge 8, 3) := dX9_rightFor_114
theorem I98_117 : decode (zB 98) 117 = .ok (.iload 5, 2) := dX9_rightFor_117
theorem I98_119 : decode (zB 98) 119 = .ok (.goto 5, 3) := dX9_rightFor_119
theorem I98_122 : decode (zB 98) 122 = .ok (.iload 4, 2) := dX9_rightFor_122
theorem I98_124 : decode (zB 98) 124 = .ok (.istore 4, 2) := dX9_rightFor_124
theorem I98_126 : decode (zB 98) 126 = .ok (.iinc 5 1, 3) := dX9_rightFor_126
theorem I98_129 : decode (zB 98) 129 = .ok (.goto (-122), 3) := dX9_rightFor_129
theorem I98_132 : decode (zB 98) 132 = .ok (.iload 4, 2) := dX9_rightFor_132
theorem I98_134 : decode (zB 98) 134 = .ok (.ireturn, 1) := dX9_rightFor_134
theorem I99_0 : decode (zB 99) 0 = .ok (.iconst 0, 1) := dX9_gives_0
theorem I99_1 : decode (zB 99) 1 = .ok (.istore_n 1, 1) := dX9_gives_1
theorem I99_2 : decode (zB 99) 2 = .ok (.iload_n 1, 1) := dX9_gives_2
theorem I99_3 : decode (zB 99) 3 = .ok (.aload_n 0, 1) := dX9_gives_3
theorem I99_4 : decode (zB 99) 4 = .ok (.getfield 7, 3) := dX9_gives_4
theorem I99_7 : decode (zB 99) 7 = .ok (.iconst 2, 1) := dX9_gives_7
theorem I99_8 : decode (zB 99) 8 = .ok (.iaload, 1) := dX9_gives_8
theorem I99_9 : decode (zB 99) 9 = .ok (.if_icmp .ge 28, 3) := dX9_gives_9
theorem I99_12 : decode (zB 99) 12 = .ok (.aload_n 0, 1) := dX9_gives_12
theorem I99_13 : decode (zB 99) 13 = .ok (.getfield 28, 3) := dX9_gives_13
theorem I99_16 : decode (zB 99) 16 = .ok (.iload_n 1, 1) := dX9_gives_16
theorem I99_17 : decode (zB 99) 17 = .ok (.aload_n 0, 1) := dX9_gives_17
theorem I99_18 : decode (zB 99) 18 = .ok (.getfield 7, 3) := dX9_gives_18
theorem I99_21 : decode (zB 99) 21 = .ok (.bipush 110, 2) := dX9_gives_21
theorem I99_23 : decode (zB 99) 23 = .ok (.iconst 4, 1) := dX9_gives_23
theorem I99_24 : decode (zB 99) 24 = .ok (.iload_n 1, 1) := dX9_gives_24
theorem I99_25 : decode (zB 99) 25 = .ok (.imul, 1) := dX9_gives_25
theorem I99_26 : decode (zB 99) 26 = .ok (.iadd, 1) := dX9_gives_26
theorem I99_27 : decode (zB 99) 27 = .ok (.iconst 3, 1) := dX9_gives_27
theorem I99_28 : decode (zB 99) 28 = .ok (.iadd, 1) := dX9_gives_28
theorem I99_29 : decode (zB 99) 29 = .ok (.iaload, 1) := dX9_gives_29
theorem I99_30 : decode (zB 99) 30 = .ok (.iastore, 1) := dX9_gives_30
theorem I99_31 : decode (zB 99) 31 = .ok (.iinc 1 1, 3) := dX9_gives_31
theorem I99_34 : decode (zB 99) 34 = .ok (.goto (-32), 3) := dX9_gives_34
theorem I99_37 : decode (zB 99) 37 = .ok (.iconst 0, 1) := dX9_gives_37
theorem I99_38 : decode (zB 99) 38 = .ok (.istore_n 1, 1) := dX9_gives_38
theorem I99_39 : decode (zB 99) 39 = .ok (.iload_n 1, 1) := dX9_gives_39
theorem I99_40 : decode (zB 99) 40 = .ok (.aload_n 0, 1) := dX9_gives_40
theorem I99_41 : decode (zB 99) 41 = .ok (.getfield 56, 3) := dX9_gives_41
theorem I99_44 : decode (zB 99) 44 = .ok (.if_icmp .ge 87, 3) := dX9_gives_44
theorem I99_47 : decode (zB 99) 47 = .ok (.aload_n 0, 1) := dX9_gives_47
theorem I99_48 : decode (zB 99) 48 = .ok (.getfield 25, 3) := dX9_gives_48
theorem I99_51 : decode (zB 99) 51 = .ok (.iload_n 1, 1) := dX9_gives_51
theorem I99_52 : decode (zB 99) 52 = .ok (.aload_n 0, 1) := dX9_gives_52
theorem I99_53 : decode (zB 99) 53 = .ok (.aload_n 0, 1) := dX9_gives_53
theorem I99_54 : decode (zB 99) 54 = .ok (.getfield 16, 3) := dX9_gives_54
theorem I99_57 : decode (zB 99) 57 = .ok (.iload_n 1, 1) := dX9_gives_57
theorem I99_58 : decode (zB 99) 58 = .ok (.iaload, 1) := dX9_gives_58
theorem I99_59 : decode (zB 99) 59 = .ok (.invokevirtual 59, 3) := dX9_gives_59
theorem I99_62 : decode (zB 99) 62 = .ok (.iconst 2, 1) := dX9_gives_62
theorem I99_63 : decode (zB 99) 63 = .ok (.if_icmp .ne 8, 3) := dX9_gives_63
theorem I99_66 : decode (zB 99) 66 = .ok (.bipush (-9), 2) := dX9_gives_66
theorem I99_68 : decode (zB 99) 68 = .ok (.goto 32, 3) := dX9_gives_68
theorem I99_71 : decode (zB 99) 71 = .ok (.aload_n 0, 1) := dX9_gives_71
theorem I99_72 : decode (zB 99) 72 = .ok (.aload_n 0, 1) := dX9_gives_72
theorem I99_73 : decode (zB 99) 73 = .ok (.getfield 16, 3) := dX9_gives_73
theorem I99_76 : decode (zB 99) 76 = .ok (.iload_n 1, 1) := dX9_gives_76
theorem I99_77 : decode (zB 99) 77 = .ok (.iaload, 1) := dX9_gives_77
theorem I99_78 : decode (zB 99) 78 = .ok (.aload_n 0, 1) := dX9_gives_78
theorem I99_79 : decode (zB 99) 79 = .ok (.getfield 19, 3) := dX9_gives_79
theorem I99_82 : decode (zB 99) 82 = .ok (.iload_n 1, 1) := dX9_gives_82
theorem I99_83 : decode (zB 99) 83 = .ok (.iaload, 1) := dX9_gives_83
theorem I99_84 : decode (zB 99) 84 = .ok (.aload_n 0, 1) := dX9_gives_84
theorem I99_85 : decode (zB 99) 85 = .ok (.getfield 19, 3) := dX9_gives_85
theorem I99_88 : decode (zB 99) 88 = .ok (.iload_n 1, 1) := dX9_gives_88
theorem I99_89 : decode (zB 99) 89 = .ok (.iaload, 1) := dX9_gives_89
theorem I99_90 : decode (zB 99) 90 = .ok (.aload_n 0, 1) := dX9_gives_90
theorem I99_91 : decode (zB 99) 91 = .ok (.getfield 22, 3) := dX9_gives_91
theorem I99_94 : decode (zB 99) 94 = .ok (.iload_n 1, 1) := dX9_gives_94
theorem I99_95 : decode (zB 99) 95 = .ok (.iaload, 1) := dX9_gives_95
theorem I99_96 : decode (zB 99) 96 = .ok (.iadd, 1) := dX9_gives_96
theorem I99_97 : decode (zB 99) 97 = .ok (.invokevirtual 63, 3) := dX9_gives_97
theorem I99_100 : decode (zB 99) 100 = .ok (.iastore, 1) := dX9_gives_100
theorem I99_101 : decode (zB 99) 101 = .ok (.aload_n 0, 1) := dX9_gives_101
theorem I99_102 : decode (zB 99) 102 = .ok (.getfield 25, 3) := dX9_gives_102
theorem I99_105 : decode (zB 99) 105 = .ok (.iload_n 1, 1) := dX9_gives_105
theorem I99_106 : decode (zB 99) 106 = .ok (.iaload, 1) := dX9_gives_106
theorem I99_107 : decode (zB 99) 107 = .ok (.ifCond .lt 18, 3) := dX9_gives_107
theorem I99_110 : decode (zB 99) 110 = .ok (.aload_n 0, 1) := dX9_gives_110
theorem I99_111 : decode (zB 99) 111 = .ok (.getfield 28, 3) := dX9_gives_111
theorem I99_114 : decode (zB 99) 114 = .ok (.aload_n 0, 1) := dX9_gives_114
theorem I99_115 : decode (zB 99) 115 = .ok (.getfield 25, 3) := dX9_gives_115
theorem I99_118 : decode (zB 99) 118 = .ok (.iload_n 1, 1) := dX9_gives_118
theorem I99_119 : decode (zB 99) 119 = .ok (.iaload, 1) := dX9_gives_119
theorem I99_120 : decode (zB 99) 120 = .ok (.dup2, 1) := dX9_gives_120
theorem I99_121 : decode (zB 99) 121 = .ok (.iaload, 1) := dX9_gives_121
theorem I99_122 : decode (zB 99) 122 = .ok (.iconst 1, 1) := dX9_gives_122
theorem I99_123 : decode (zB 99) 123 = .ok (.isub, 1) := dX9_gives_123
theorem I99_124 : decode (zB 99) 124 = .ok (.iastore, 1) := dX9_gives_124
theorem I99_125 : decode (zB 99) 125 = .ok (.iinc 1 1, 3) := dX9_gives_125
theorem I99_128 : decode (zB 99) 128 = .ok (.goto (-89), 3) := dX9_gives_128
theorem I99_131 : decode (zB 99) 131 = .ok (.return_, 1) := dX9_gives_131
theorem I100_0 : decode (zB 100) 0 = .ok (.aload_n 0, 1) := dX9_isBroken_0
theorem I100_1 : decode (zB 100) 1 = .ok (.invokevirtual 67, 3) := dX9_isBroken_1
theorem I100_4 : decode (zB 100) 4 = .ok (.iconst 0, 1) := dX9_isBroken_4
theorem I100_5 : decode (zB 100) 5 = .ok (.istore_n 2, 1) := dX9_isBroken_5
theorem I100_6 : decode (zB 100) 6 = .ok (.iconst 0, 1) := dX9_isBroken_6
theorem I100_7 : decode (zB 100) 7 = .ok (.istore_n 3, 1) := dX9_isBroken_7
theorem I100_8 : decode (zB 100) 8 = .ok (.iload_n 3, 1) := dX9_isBroken_8
theorem I100_9 : decode (zB 100) 9 = .ok (.aload_n 0, 1) := dX9_isBroken_9
theorem I100_10 : decode (zB 100) 10 = .ok (.getfield 56, 3) := dX9_isBroken_10
theorem I100_13 : decode (zB 100) 13 = .ok (.if_icmp .ge 47, 3) := dX9_isBroken_13
theorem I100_16 : decode (zB 100) 16 = .ok (.iload_n 2, 1) := dX9_isBroken_16
theorem I100_17 : decode (zB 100) 17 = .ok (.ifCond .ne 31, 3) := dX9_isBroken_17
theorem I100_20 : decode (zB 100) 20 = .ok (.aload_n 0, 1) := dX9_isBroken_20
theorem I100_21 : decode (zB 100) 21 = .ok (.getfield 16, 3) := dX9_isBroken_21
theorem I100_24 : decode (zB 100) 24 = .ok (.iload_n 3, 1) := dX9_isBroken_24
theorem I100_25 : decode (zB 100) 25 = .ok (.iaload, 1) := dX9_isBroken_25
theorem I100_26 : decode (zB 100) 26 = .ok (.iload_n 1, 1) := dX9_isBroken_26
theorem I100_27 : decode (zB 100) 27 = .ok (.if_icmp .ne 25, 3) := dX9_isBroken_27
theorem I100_30 : decode (zB 100) 30 = .ok (.aload_n 0, 1) := dX9_isBroken_30
theorem I100_31 : decode (zB 100) 31 = .ok (.getfield 25, 3) := dX9_isBroken_31
theorem I100_34 : decode (zB 100) 34 = .ok (.iload_n 3, 1) := dX9_isBroken_34
theorem I100_35 : decode (zB 100) 35 = .ok (.iaload, 1) := dX9_isBroken_35
theorem I100_36 : decode (zB 100) 36 = .ok (.ifCond .ge 16, 3) := dX9_isBroken_36
theorem I100_39 : decode (zB 100) 39 = .ok (.aload_n 0, 1) := dX9_isBroken_39
theorem I100_40 : decode (zB 100) 40 = .ok (.iload_n 1, 1) := dX9_isBroken_40
theorem I100_41 : decode (zB 100) 41 = .ok (.invokevirtual 59, 3) := dX9_isBroken_41
theorem I100_44 : decode (zB 100) 44 = .ok (.iconst 2, 1) := dX9_isBroken_44
theorem I100_45 : decode (zB 100) 45 = .ok (.if_icmp .eq 7, 3) := dX9_isBroken_45
theorem I100_48 : decode (zB 100) 48 = .ok (.iconst 1, 1) := dX9_isBroken_48
theorem I100_49 : decode (zB 100) 49 = .ok (.goto 4, 3) := dX9_isBroken_49
theorem I100_52 : decode (zB 100) 52 = .ok (.iconst 0, 1) := dX9_isBroken_52
theorem I100_53 : decode (zB 100) 53 = .ok (.istore_n 2, 1) := dX9_isBroken_53
theorem I100_54 : decode (zB 100) 54 = .ok (.iinc 3 1, 3) := dX9_isBroken_54
theorem I100_57 : decode (zB 100) 57 = .ok (.goto (-49), 3) := dX9_isBroken_57
theorem I100_60 : decode (zB 100) 60 = .ok (.iload_n 2, 1) := dX9_isBroken_60
theorem I100_61 : decode (zB 100) 61 = .ok (.ireturn, 1) := dX9_isBroken_61
theorem I101_0 : decode (zB 101) 0 = .ok (.iconst 0, 1) := dX9_isDark_0
theorem I101_1 : decode (zB 101) 1 = .ok (.istore 4, 2) := dX9_isDark_1
theorem I101_3 : decode (zB 101) 3 = .ok (.iload 4, 2) := dX9_isDark_3
theorem I101_5 : decode (zB 101) 5 = .ok (.aload_n 0, 1) := dX9_isDark_5
theorem I101_6 : decode (zB 101) 6 = .ok (.getfield 7, 3) := dX9_isDark_6
theorem I101_9 : decode (zB 101) 9 = .ok (.iconst 1, 1) := dX9_isDark_9
theorem I101_10 : decode (zB 101) 10 = .ok (.iaload, 1) := dX9_isDark_10
theorem I101_11 : decode (zB 101) 11 = .ok (.if_icmp .ge 90, 3) := dX9_isDark_11
theorem I101_14 : decode (zB 101) 14 = .ok (.bipush 80, 2) := dX9_isDark_14
theorem I101_16 : decode (zB 101) 16 = .ok (.iconst 3, 1) := dX9_isDark_16
theorem I101_17 : decode (zB 101) 17 = .ok (.iload 4, 2) := dX9_isDark_17
theorem I101_19 : decode (zB 101) 19 = .ok (.imul, 1) := dX9_isDark_19
theorem I101_20 : decode (zB 101) 20 = .ok (.iadd, 1) := dX9_isDark_20
theorem I101_21 : decode (zB 101) 21 = .ok (.istore 5, 2) := dX9_isDark_21
theorem I101_23 : decode (zB 101) 23 = .ok (.iload_n 2, 1) := dX9_isDark_23
theorem I101_24 : decode (zB 101) 24 = .ok (.istore 6, 2) := dX9_isDark_24
theorem I101_26 : decode (zB 101) 26 = .ok (.iload 6, 2) := dX9_isDark_26
theorem I101_28 : decode (zB 101) 28 = .ok (.iload_n 3, 1) := dX9_isDark_28
theorem I101_29 : decode (zB 101) 29 = .ok (.if_icmp .ge 66, 3) := dX9_isDark_29
theorem I101_32 : decode (zB 101) 32 = .ok (.aload_n 0, 1) := dX9_isDark_32
theorem I101_33 : decode (zB 101) 33 = .ok (.getfield 7, 3) := dX9_isDark_33
theorem I101_36 : decode (zB 101) 36 = .ok (.bipush 10, 2) := dX9_isDark_36
theorem I101_38 : decode (zB 101) 38 = .ok (.iconst 4, 1) := dX9_isDark_38
theorem I101_39 : decode (zB 101) 39 = .ok (.iload_n 1, 1) := dX9_isDark_39
theorem I101_40 : decode (zB 101) 40 = .ok (.imul, 1) := dX9_isDark_40
theorem I101_41 : decode (zB 101) 41 = .ok (.iadd, 1) := dX9_isDark_41
theorem I101_42 : decode (zB 101) 42 = .ok (.iconst 2, 1) := dX9_isDark_42
theorem I101_43 : decode (zB 101) 43 = .ok (.iadd, 1) := dX9_isDark_43
theorem I101_44 : decode (zB 101) 44 = .ok (.iaload, 1) := dX9_isDark_44
theorem I101_45 : decode (zB 101) 45 = .ok (.aload_n 0, 1) := dX9_isDark_45
theorem I101_46 : decode (zB 101) 46 = .ok (.getfield 7, 3) := dX9_isDark_46
theorem I101_49 : decode (zB 101) 49 = .ok (.iload 5, 2) := dX9_isDark_49
theorem I101_51 : decode (zB 101) 51 = .ok (.iconst 2, 1) := dX9_isDark_51
theorem I101_52 : decode (zB 101) 52 = .ok (.iadd, 1) := dX9_isDark_52
theorem I101_53 : decode (zB 101) 53 = .ok (.iaload, 1) := dX9_isDark_53
theorem I101_54 : decode (zB 101) 54 = .ok (.if_icmp .lt 41, 3) := dX9_isDark_54
theorem I101_57 : decode (zB 101) 57 = .ok (.iload 6, 2) := dX9_isDark_57
theorem I101_59 : decode (zB 101) 59 = .ok (.sipush 1440, 3) := dX9_isDark_59
theorem I101_62 : decode (zB 101) 62 = .ok (.irem, 1) := dX9_isDark_62
theorem I101_63 : decode (zB 101) 63 = .ok (.aload_n 0, 1) := dX9_isDark_63
theorem I101_64 : decode (zB 101) 64 = .ok (.getfield 7, 3) := dX9_isDark_64
theorem I101_67 : decode (zB 101) 67 = .ok (.iload 5, 2) := dX9_isDark_67
theorem I101_69 : decode (zB 101) 69 = .ok (.iaload, 1) := dX9_isDark_69
theorem I101_70 : decode (zB 101) 70 = .ok (.aload_n 0, 1) := dX9_isDark_70
theorem I101_71 : decode (zB 101) 71 = .ok (.getfield 7, 3) := dX9_isDark_71
theorem I101_74 : decode (zB 101) 74 = .ok (.iload 5, 2) := dX9_isDark_74
theorem I101_76 : decode (zB 101) 76 = .ok (.iconst 1, 1) := dX9_isDark_76
theorem I101_77 : decode (zB 101) 77 = .ok (.iadd, 1) := dX9_isDark_77
theorem I101_78 : decode (zB 101) 78 = .ok (.iaload, 1) := dX9_isDark_78
theorem I101_79 : decode (zB 101) 79 = .ok (.iconst 1, 1) := dX9_isDark_79
theorem I101_80 : decode (zB 101) 80 = .ok (.isub, 1) := dX9_isDark_80
theorem I101_81 : decode (zB 101) 81 = .ok (.invokestatic 41, 3) := dX9_isDark_81
theorem I101_84 : decode (zB 101) 84 = .ok (.ifCond .eq 5, 3) := dX9_isDark_84
theorem I101_87 : decode (zB 101) 87 = .ok (.iconst 1, 1) := dX9_isDark_87
theorem I101_88 : decode (zB 101) 88 = .ok (.ireturn, 1) := dX9_isDark_88
theorem I101_89 : decode (zB 101) 89 = .ok (.iinc 6 1, 3) := dX9_isDark_89
theorem I101_92 : decode (zB 101) 92 = .ok (.goto (-66), 3) := dX9_isDark_92
theorem I101_95 : decode (zB 101) 95 = .ok (.iinc 4 1, 3) := dX9_isDark_95
theorem I101_98 : decode (zB 101) 98 = .ok (.goto (-95), 3) := dX9_isDark_98
theorem I101_101 : decode (zB 101) 101 = .ok (.iconst 0, 1) := dX9_isDark_101
theorem I101_102 : decode (zB 101) 102 = .ok (.ireturn, 1) := dX9_isDark_102
theorem I102_0 : decode (zB 102) 0 = .ok (.iconst 0, 1) := dX9_isTaken_0
theorem I102_1 : decode (zB 102) 1 = .ok (.istore_n 3, 1) := dX9_isTaken_1
theorem I102_2 : decode (zB 102) 2 = .ok (.iconst 0, 1) := dX9_isTaken_2
theorem I102_3 : decode (zB 102) 3 = .ok (.istore 4, 2) := dX9_isTaken_3
theorem I102_5 : decode (zB 102) 5 = .ok (.iload 4, 2) := dX9_isTaken_5
theorem I102_7 : decode (zB 102) 7 = .ok (.aload_n 0, 1) := dX9_isTaken_7
theorem I102_8 : decode (zB 102) 8 = .ok (.getfield 7, 3) := dX9_isTaken_8
theorem I102_11 : decode (zB 102) 11 = .ok (.iconst 3, 1) := dX9_isTaken_11
theorem I102_12 : decode (zB 102) 12 = .ok (.iaload, 1) := dX9_isTaken_12
theorem I102_13 : decode (zB 102) 13 = .ok (.if_icmp .ge 40, 3) := dX9_isTaken_13
theorem I102_16 : decode (zB 102) 16 = .ok (.iload_n 3, 1) := dX9_isTaken_16
theorem I102_17 : decode (zB 102) 17 = .ok (.ifCond .ne 24, 3) := dX9_isTaken_17
theorem I102_20 : decode (zB 102) 20 = .ok (.aload_n 0, 1) := dX9_isTaken_20
theorem I102_21 : decode (zB 102) 21 = .ok (.iload 4, 2) := dX9_isTaken_21
theorem I102_23 : decode (zB 102) 23 = .ok (.iconst 1, 1) := dX9_isTaken_23
theorem I102_24 : decode (zB 102) 24 = .ok (.invokevirtual 45, 3) := dX9_isTaken_24
theorem I102_27 : decode (zB 102) 27 = .ok (.iload_n 2, 1) := dX9_isTaken_27
theorem I102_28 : decode (zB 102) 28 = .ok (.if_icmp .ge 17, 3) := dX9_isTaken_28
theorem I102_31 : decode (zB 102) 31 = .ok (.iload_n 1, 1) := dX9_isTaken_31
theorem I102_32 : decode (zB 102) 32 = .ok (.aload_n 0, 1) := dX9_isTaken_32
theorem I102_33 : decode (zB 102) 33 = .ok (.iload 4, 2) := dX9_isTaken_33
theorem I102_35 : decode (zB 102) 35 = .ok (.invokevirtual 70, 3) := dX9_isTaken_35
theorem I102_38 : decode (zB 102) 38 = .ok (.if_icmp .ge 7, 3) := dX9_isTaken_38
theorem I102_41 : decode (zB 102) 41 = .ok (.iconst 1, 1) := dX9_isTaken_41
theorem I102_42 : decode (zB 102) 42 = .ok (.goto 4, 3) := dX9_isTaken_42
theorem I102_45 : decode (zB 102) 45 = .ok (.iconst 0, 1) := dX9_isTaken_45
theorem I102_46 : decode (zB 102) 46 = .ok (.istore_n 3, 1) := dX9_isTaken_46
theorem I102_47 : decode (zB 102) 47 = .ok (.iinc 4 1, 3) := dX9_isTaken_47
theorem I102_50 : decode (zB 102) 50 = .ok (.goto (-45), 3) := dX9_isTaken_50
theorem I102_53 : decode (zB 102) 53 = .ok (.iload_n 3, 1) := dX9_isTaken_53
theorem I102_54 : decode (zB 102) 54 = .ok (.ireturn, 1) := dX9_isTaken_54
theorem I103_0 : decode (zB 103) 0 = .ok (.iload_n 2, 1) := dX9_fault_0
theorem I103_1 : decode (zB 103) 1 = .ok (.aload_n 0, 1) := dX9_fault_1
theorem I103_2 : decode (zB 103) 2 = .ok (.iload_n 1, 1) := dX9_fault_2
theorem I103_3 : decode (zB 103) 3 = .ok (.invokevirtual 73, 3) := dX9_fault_3
theorem I103_6 : decode (zB 103) 6 = .ok (.iadd, 1) := dX9_fault_6
theorem I103_7 : decode (zB 103) 7 = .ok (.istore_n 3, 1) := dX9_fault_7
theorem I103_8 : decode (zB 103) 8 = .ok (.aload_n 0, 1) := dX9_fault_8
theorem I103_9 : decode (zB 103) 9 = .ok (.getfield 7, 3) := dX9_fault_9
theorem I103_12 : decode (zB 103) 12 = .ok (.iconst 3, 1) := dX9_fault_12
theorem I103_13 : decode (zB 103) 13 = .ok (.iaload, 1) := dX9_fault_13
theorem I103_14 : decode (zB 103) 14 = .ok (.bipush 60, 2) := dX9_fault_14
theorem I103_16 : decode (zB 103) 16 = .ok (.if_icmp .ne 6, 3) := dX9_fault_16
theorem I103_19 : decode (zB 103) 19 = .ok (.bipush (-3), 2) := dX9_fault_19
theorem I103_21 : decode (zB 103) 21 = .ok (.ireturn, 1) := dX9_fault_21
theorem I103_22 : decode (zB 103) 22 = .ok (.iload_n 3, 1) := dX9_fault_22
theorem I103_23 : decode (zB 103) 23 = .ok (.sipush 10080, 3) := dX9_fault_23
theorem I103_26 : decode (zB 103) 26 = .ok (.if_icmp .gt 12, 3) := dX9_fault_26
theorem I103_29 : decode (zB 103) 29 = .ok (.aload_n 0, 1) := dX9_fault_29
theorem I103_30 : decode (zB 103) 30 = .ok (.iload_n 2, 1) := dX9_fault_30
theorem I103_31 : decode (zB 103) 31 = .ok (.iload_n 3, 1) := dX9_fault_31
theorem I103_32 : decode (zB 103) 32 = .ok (.invokevirtual 76, 3) := dX9_fault_32
theorem I103_35 : decode (zB 103) 35 = .ok (.ifCond .eq 6, 3) := dX9_fault_35
theorem I103_38 : decode (zB 103) 38 = .ok (.bipush (-4), 2) := dX9_fault_38
theorem I103_40 : decode (zB 103) 40 = .ok (.ireturn, 1) := dX9_fault_40
theorem I103_41 : decode (zB 103) 41 = .ok (.aload_n 0, 1) := dX9_fault_41
theorem I103_42 : decode (zB 103) 42 = .ok (.invokevirtual 80, 3) := dX9_fault_42
theorem I103_45 : decode (zB 103) 45 = .ok (.aload_n 0, 1) := dX9_fault_45
theorem I103_46 : decode (zB 103) 46 = .ok (.iload_n 1, 1) := dX9_fault_46
theorem I103_47 : decode (zB 103) 47 = .ok (.iload_n 2, 1) := dX9_fault_47
theorem I103_48 : decode (zB 103) 48 = .ok (.iload_n 3, 1) := dX9_fault_48
theorem I103_49 : decode (zB 103) 49 = .ok (.iload_n 2, 1) := dX9_fault_49
theorem I103_50 : decode (zB 103) 50 = .ok (.isub, 1) := dX9_fault_50
theorem I103_51 : decode (zB 103) 51 = .ok (.invokevirtual 83, 3) := dX9_fault_51
theorem I103_54 : decode (zB 103) 54 = .ok (.aload_n 0, 1) := dX9_fault_54
theorem I103_55 : decode (zB 103) 55 = .ok (.iload_n 1, 1) := dX9_fault_55
theorem I103_56 : decode (zB 103) 56 = .ok (.invokevirtual 87, 3) := dX9_fault_56
theorem I103_59 : decode (zB 103) 59 = .ok (.ifCond .eq 8, 3) := dX9_fault_59
theorem I103_62 : decode (zB 103) 62 = .ok (.bipush (-5), 2) := dX9_fault_62
theorem I103_64 : decode (zB 103) 64 = .ok (.goto 19, 3) := dX9_fault_64
theorem I103_67 : decode (zB 103) 67 = .ok (.aload_n 0, 1) := dX9_fault_67
theorem I103_68 : decode (zB 103) 68 = .ok (.iload_n 1, 1) := dX9_fault_68
theorem I103_69 : decode (zB 103) 69 = .ok (.iload_n 2, 1) := dX9_fault_69
theorem I103_70 : decode (zB 103) 70 = .ok (.iload_n 3, 1) := dX9_fault_70
theorem I103_71 : decode (zB 103) 71 = .ok (.invokevirtual 90, 3) := dX9_fault_71
theorem I103_74 : decode (zB 103) 74 = .ok (.ifCond .eq 8, 3) := dX9_fault_74
theorem I103_77 : decode (zB 103) 77 = .ok (.bipush (-6), 2) := dX9_fault_77
theorem I103_79 : decode (zB 103) 79 = .ok (.goto 4, 3) := dX9_fault_79
theorem I103_82 : decode (zB 103) 82 = .ok (.iconst 0, 1) := dX9_fault_82
theorem I103_83 : decode (zB 103) 83 = .ok (.ireturn, 1) := dX9_fault_83
theorem I104_0 : decode (zB 104) 0 = .ok (.aload_n 0, 1) := dX9_puts_0
theorem I104_1 : decode (zB 104) 1 = .ok (.getfield 7, 3) := dX9_puts_1
theorem I104_4 : decode (zB 104) 4 = .ok (.iconst 3, 1) := dX9_puts_4
theorem I104_5 : decode (zB 104) 5 = .ok (.iaload, 1) := dX9_puts_5
theorem I104_6 : decode (zB 104) 6 = .ok (.istore 5, 2) := dX9_puts_6
theorem I104_8 : decode (zB 104) 8 = .ok (.iload 5, 2) := dX9_puts_8
theorem I104_10 : decode (zB 104) 10 = .ok (.ifCond .le 71, 3) := dX9_puts_10
theorem I104_13 : decode (zB 104) 13 = .ok (.aload_n 0, 1) := dX9_puts_13
theorem I104_14 : decode (zB 104) 14 = .ok (.iload 5, 2) := dX9_puts_14
theorem I104_16 : decode (zB 104) 16 = .ok (.iconst 1, 1) := dX9_puts_16
theorem I104_17 : decode (zB 104) 17 = .ok (.isub, 1) := dX9_puts_17
theorem I104_18 : decode (zB 104) 18 = .ok (.iconst 1, 1) := dX9_puts_18
theorem I104_19 : decode (zB 104) 19 = .ok (.invokevirtual 45, 3) := dX9_puts_19
theorem I104_22 : decode (zB 104) 22 = .ok (.iload_n 2, 1) := dX9_puts_22
theorem I104_23 : decode (zB 104) 23 = .ok (.if_icmp .le 58, 3) := dX9_puts_23
theorem I104_26 : decode (zB 104) 26 = .ok (.iconst 0, 1) := dX9_puts_26
theorem I104_27 : decode (zB 104) 27 = .ok (.istore 6, 2) := dX9_puts_27
theorem I104_29 : decode (zB 104) 29 = .ok (.iload 6, 2) := dX9_puts_29
theorem I104_31 : decode (zB 104) 31 = .ok (.iconst 4, 1) := dX9_puts_31
theorem I104_32 : decode (zB 104) 32 = .ok (.if_icmp .ge 43, 3) := dX9_puts_32
theorem I104_35 : decode (zB 104) 35 = .ok (.aload_n 0, 1) := dX9_puts_35
theorem I104_36 : decode (zB 104) 36 = .ok (.getfield 7, 3) := dX9_puts_36
theorem I104_39 : decode (zB 104) 39 = .ok (.sipush 230, 3) := dX9_puts_39
theorem I104_42 : decode (zB 104) 42 = .ok (.iconst 4, 1) := dX9_puts_42
theorem I104_43 : decode (zB 104) 43 = .ok (.iload 5, 2) := dX9_puts_43
theorem I104_45 : decode (zB 104) 45 = .ok (.imul, 1) := dX9_puts_45
theorem I104_46 : decode (zB 104) 46 = .ok (.iadd, 1) := dX9_puts_46
theorem I104_47 : decode (zB 104) 47 = .ok (.iload 6, 2) := dX9_puts_47
theorem I104_49 : decode (zB 104) 49 = .ok (.iadd, 1) := dX9_puts_49
theorem I104_50 : decode (zB 104) 50 = .ok (.aload_n 0, 1) := dX9_puts_50
theorem I104_51 : decode (zB 104) 51 = .ok (.getfield 7, 3) := dX9_puts_51
theorem I104_54 : decode (zB 104) 54 = .ok (.sipush 230, 3) := dX9_puts_54
theorem I104_57 : decode (zB 104) 57 = .ok (.iconst 4, 1) := dX9_puts_57
theorem I104_58 : decode (zB 104) 58 = .ok (.iload 5, 2) := dX9_puts_58
theorem I104_60 : decode (zB 104) 60 = .ok (.imul, 1) := dX9_puts_60
theorem I104_61 : decode (zB 104) 61 = .ok (.iadd, 1) := dX9_puts_61
theorem I104_62 : decode (zB 104) 62 = .ok (.iconst 4, 1) := dX9_puts_62
theorem I104_63 : decode (zB 104) 63 = .ok (.isub, 1) := dX9_puts_63
theorem I104_64 : decode (zB 104) 64 = .ok (.iload 6, 2) := dX9_puts_64
theorem I104_66 : decode (zB 104) 66 = .ok (.iadd, 1) := dX9_puts_66
theorem I104_67 : decode (zB 104) 67 = .ok (.iaload, 1) := dX9_puts_67
theorem I104_68 : decode (zB 104) 68 = .ok (.iastore, 1) := dX9_puts_68
theorem I104_69 : decode (zB 104) 69 = .ok (.iinc 6 1, 3) := dX9_puts_69
theorem I104_72 : decode (zB 104) 72 = .ok (.goto (-43), 3) := dX9_puts_72
theorem I104_75 : decode (zB 104) 75 = .ok (.iinc 5 (-1), 3) := dX9_puts_75
theorem I104_78 : decode (zB 104) 78 = .ok (.goto (-70), 3) := dX9_puts_78
theorem I104_81 : decode (zB 104) 81 = .ok (.aload_n 0, 1) := dX9_puts_81
theorem I104_82 : decode (zB 104) 82 = .ok (.getfield 7, 3) := dX9_puts_82
theorem I104_85 : decode (zB 104) 85 = .ok (.sipush 230, 3) := dX9_puts_85
theorem I104_88 : decode (zB 104) 88 = .ok (.iconst 4, 1) := dX9_puts_88
theorem I104_89 : decode (zB 104) 89 = .ok (.iload 5, 2) := dX9_puts_89
theorem I104_91 : decode (zB 104) 91 = .ok (.imul, 1) := dX9_puts_91
theorem I104_92 : decode (zB 104) 92 = .ok (.iadd, 1) := dX9_puts_92
theorem I104_93 : decode (zB 104) 93 = .ok (.iload_n 1, 1) := dX9_puts_93
theorem I104_94 : decode (zB 104) 94 = .ok (.iastore, 1) := dX9_puts_94
theorem I104_95 : decode (zB 104) 95 = .ok (.aload_n 0, 1) := dX9_puts_95
theorem I104_96 : decode (zB 104) 96 = .ok (.getfield 7, 3) := dX9_puts_96
theorem I104_99 : decode (zB 104) 99 = .ok (.sipush 230, 3) := dX9_puts_99
theorem I104_102 : decode (zB 104) 102 = .ok (.iconst 4, 1) := dX9_puts_102
theorem I104_103 : decode (zB 104) 103 = .ok (.iload 5, 2) := dX9_puts_103
theorem I104_105 : decode (zB 104) 105 = .ok (.imul, 1) := dX9_puts_105
theorem I104_106 : decode (zB 104) 106 = .ok (.iadd, 1) := dX9_puts_106
theorem I104_107 : decode (zB 104) 107 = .ok (.iconst 1, 1) := dX9_puts_107
theorem I104_108 : decode (zB 104) 108 = .ok (.iadd, 1) := dX9_puts_108
theorem I104_109 : decode (zB 104) 109 = .ok (.iload_n 2, 1) := dX9_puts_109
theorem I104_110 : decode (zB 104) 110 = .ok (.iastore, 1) := dX9_puts_110
theorem I104_111 : decode (zB 104) 111 = .ok (.aload_n 0, 1) := dX9_puts_111
theorem I104_112 : decode (zB 104) 112 = .ok (.getfield 7, 3) := dX9_puts_112
theorem I104_115 : decode (zB 104) 115 = .ok (.sipush 230, 3) := dX9_puts_115
theorem I104_118 : decode (zB 104) 118 = .ok (.iconst 4, 1) := dX9_puts_118
theorem I104_119 : decode (zB 104) 119 = .ok (.iload 5, 2) := dX9_puts_119
theorem I104_121 : decode (zB 104) 121 = .ok (.imul, 1) := dX9_puts_121
theorem I104_122 : decode (zB 104) 122 = .ok (.iadd, 1) := dX9_puts_122
theorem I104_123 : decode (zB 104) 123 = .ok (.iconst 2, 1) := dX9_puts_123
theorem I104_124 : decode (zB 104) 124 = .ok (.iadd, 1) := dX9_puts_124
theorem I104_125 : decode (zB 104) 125 = .ok (.iload_n 3, 1) := dX9_puts_125
theorem I104_126 : decode (zB 104) 126 = .ok (.iastore, 1) := dX9_puts_126
theorem I104_127 : decode (zB 104) 127 = .ok (.aload_n 0, 1) := dX9_puts_127
theorem I104_128 : decode (zB 104) 128 = .ok (.getfield 7, 3) := dX9_puts_128
theorem I104_131 : decode (zB 104) 131 = .ok (.sipush 230, 3) := dX9_puts_131
theorem I104_134 : decode (zB 104) 134 = .ok (.iconst 4, 1) := dX9_puts_134
theorem I104_135 : decode (zB 104) 135 = .ok (.iload 5, 2) := dX9_puts_135
theorem I104_137 : decode (zB 104) 137 = .ok (.imul, 1) := dX9_puts_137
theorem I104_138 : decode (zB 104) 138 = .ok (.iadd, 1) := dX9_puts_138
theorem I104_139 : decode (zB 104) 139 = .ok (.iconst 3, 1) := dX9_puts_139
theorem I104_140 : decode (zB 104) 140 = .ok (.iadd, 1) := dX9_puts_140
theorem I104_141 : decode (zB 104) 141 = .ok (.iload 4, 2) := dX9_puts_141
theorem I104_143 : decode (zB 104) 143 = .ok (.iastore, 1) := dX9_puts_143
theorem I104_144 : decode (zB 104) 144 = .ok (.aload_n 0, 1) := dX9_puts_144
theorem I104_145 : decode (zB 104) 145 = .ok (.getfield 7, 3) := dX9_puts_145
theorem I104_148 : decode (zB 104) 148 = .ok (.iconst 3, 1) := dX9_puts_148
theorem I104_149 : decode (zB 104) 149 = .ok (.dup2, 1) := dX9_puts_149
theorem I104_150 : decode (zB 104) 150 = .ok (.iaload, 1) := dX9_puts_150
theorem I104_151 : decode (zB 104) 151 = .ok (.iconst 1, 1) := dX9_puts_151
theorem I104_152 : decode (zB 104) 152 = .ok (.iadd, 1) := dX9_puts_152
theorem I104_153 : decode (zB 104) 153 = .ok (.iastore, 1) := dX9_puts_153
theorem I104_154 : decode (zB 104) 154 = .ok (.iload 5, 2) := dX9_puts_154
theorem I104_156 : decode (zB 104) 156 = .ok (.ireturn, 1) := dX9_puts_156
theorem I105_0 : decode (zB 105) 0 = .ok (.aload_n 0, 1) := dX9_drops_0
theorem I105_1 : decode (zB 105) 1 = .ok (.getfield 7, 3) := dX9_drops_1
theorem I105_4 : decode (zB 105) 4 = .ok (.iconst 3, 1) := dX9_drops_4
theorem I105_5 : decode (zB 105) 5 = .ok (.dup2, 1) := dX9_drops_5
theorem I105_6 : decode (zB 105) 6 = .ok (.iaload, 1) := dX9_drops_6
theorem I105_7 : decode (zB 105) 7 = .ok (.iconst 1, 1) := dX9_drops_7
theorem I105_8 : decode (zB 105) 8 = .ok (.isub, 1) := dX9_drops_8
theorem I105_9 : decode (zB 105) 9 = .ok (.iastore, 1) := dX9_drops_9
theorem I105_10 : decode (zB 105) 10 = .ok (.sipush 230, 3) := dX9_drops_10
theorem I105_13 : decode (zB 105) 13 = .ok (.iconst 4, 1) := dX9_drops_13
theorem I105_14 : decode (zB 105) 14 = .ok (.iload_n 1, 1) := dX9_drops_14
theorem I105_15 : decode (zB 105) 15 = .ok (.imul, 1) := dX9_drops_15
theorem I105_16 : decode (zB 105) 16 = .ok (.iadd, 1) := dX9_drops_16
theorem I105_17 : decode (zB 105) 17 = .ok (.istore_n 2, 1) := dX9_drops_17
theorem I105_18 : decode (zB 105) 18 = .ok (.iload_n 2, 1) := dX9_drops_18
theorem I105_19 : decode (zB 105) 19 = .ok (.sipush 230, 3) := dX9_drops_19
theorem I105_22 : decode (zB 105) 22 = .ok (.iconst 4, 1) := dX9_drops_22
theorem I105_23 : decode (zB 105) 23 = .ok (.aload_n 0, 1) := dX9_drops_23
theorem I105_24 : decode (zB 105) 24 = .ok (.getfield 7, 3) := dX9_drops_24
theorem I105_27 : decode (zB 105) 27 = .ok (.iconst 3, 1) := dX9_drops_27
theorem I105_28 : decode (zB 105) 28 = .ok (.iaload, 1) := dX9_drops_28
theorem I105_29 : decode (zB 105) 29 = .ok (.imul, 1) := dX9_drops_29
theorem I105_30 : decode (zB 105) 30 = .ok (.iadd, 1) := dX9_drops_30
theorem I105_31 : decode (zB 105) 31 = .ok (.if_icmp .ge 23, 3) := dX9_drops_31
theorem I105_34 : decode (zB 105) 34 = .ok (.aload_n 0, 1) := dX9_drops_34
theorem I105_35 : decode (zB 105) 35 = .ok (.getfield 7, 3) := dX9_drops_35
theorem I105_38 : decode (zB 105) 38 = .ok (.iload_n 2, 1) := dX9_drops_38
theorem I105_39 : decode (zB 105) 39 = .ok (.aload_n 0, 1) := dX9_drops_39
theorem I105_40 : decode (zB 105) 40 = .ok (.getfield 7, 3) := dX9_drops_40
theorem I105_43 : decode (zB 105) 43 = .ok (.iload_n 2, 1) := dX9_drops_43
theorem I105_44 : decode (zB 105) 44 = .ok (.iconst 4, 1) := dX9_drops_44
theorem I105_45 : decode (zB 105) 45 = .ok (.iadd, 1) := dX9_drops_45
theorem I105_46 : decode (zB 105) 46 = .ok (.iaload, 1) := dX9_drops_46
theorem I105_47 : decode (zB 105) 47 = .ok (.iastore, 1) := dX9_drops_47
theorem I105_48 : decode (zB 105) 48 = .ok (.iinc 2 1, 3) := dX9_drops_48
theorem I105_51 : decode (zB 105) 51 = .ok (.goto (-33), 3) := dX9_drops_51
theorem I105_54 : decode (zB 105) 54 = .ok (.return_, 1) := dX9_drops_54
theorem I106_0 : decode (zB 106) 0 = .ok (.aload_n 0, 1) := dX9_place_0
theorem I106_1 : decode (zB 106) 1 = .ok (.iload_n 1, 1) := dX9_place_1
theorem I106_2 : decode (zB 106) 2 = .ok (.invokevirtual 52, 3) := dX9_place_2
theorem I106_5 : decode (zB 106) 5 = .ok (.ifCond .eq 14, 3) := dX9_place_5
theorem I106_8 : decode (zB 106) 8 = .ok (.iload_n 2, 1) := dX9_place_8
theorem I106_9 : decode (zB 106) 9 = .ok (.iconst 0, 1) := dX9_place_9
theorem I106_10 : decode (zB 106) 10 = .ok (.sipush 10079, 3) := dX9_place_10
theorem I106_13 : decode (zB 106) 13 = .ok (.invokestatic 41, 3) := dX9_place_13
theorem I106_16 : decode (zB 106) 16 = .ok (.ifCond .ne 5, 3) := dX9_place_16
theorem I106_19 : decode (zB 106) 19 = .ok (.iconst (-1), 1) := dX9_place_19
theorem I106_20 : decode (zB 106) 20 = .ok (.ireturn, 1) := dX9_place_20
theorem I106_21 : decode (zB 106) 21 = .ok (.aload_n 0, 1) := dX9_place_21
theorem I106_22 : decode (zB 106) 22 = .ok (.iload_n 1, 1) := dX9_place_22
theorem I106_23 : decode (zB 106) 23 = .ok (.iload_n 2, 1) := dX9_place_23
theorem I106_24 : decode (zB 106) 24 = .ok (.invokevirtual 93, 3) := dX9_place_24
theorem I106_27 : decode (zB 106) 27 = .ok (.istore 4, 2) := dX9_place_27
theorem I106_29 : decode (zB 106) 29 = .ok (.iload 4, 2) := dX9_place_29
theorem I106_31 : decode (zB 106) 31 = .ok (.ifCond .eq 6, 3) := dX9_place_31
theorem I106_34 : decode (zB 106) 34 = .ok (.iload 4, 2) := dX9_place_34
theorem I106_36 : decode (zB 106) 36 = .ok (.ireturn, 1) := dX9_place_36
theorem I106_37 : decode (zB 106) 37 = .ok (.aload_n 0, 1) := dX9_place_37
theorem I106_38 : decode (zB 106) 38 = .ok (.invokevirtual 49, 3) := dX9_place_38
theorem I106_41 : decode (zB 106) 41 = .ok (.aload_n 0, 1) := dX9_place_41
theorem I106_42 : decode (zB 106) 42 = .ok (.iload_n 1, 1) := dX9_place_42
theorem I106_43 : decode (zB 106) 43 = .ok (.iload_n 2, 1) := dX9_place_43
theorem I106_44 : decode (zB 106) 44 = .ok (.aload_n 0, 1) := dX9_place_44
theorem I106_45 : decode (zB 106) 45 = .ok (.iload_n 1, 1) := dX9_place_45
theorem I106_46 : decode (zB 106) 46 = .ok (.invokevirtual 73, 3) := dX9_place_46
theorem I106_49 : decode (zB 106) 49 = .ok (.iload_n 3, 1) := dX9_place_49
theorem I106_50 : decode (zB 106) 50 = .ok (.ifCond .eq 7, 3) := dX9_place_50
theorem I106_53 : decode (zB 106) 53 = .ok (.iconst 1, 1) := dX9_place_53
theorem I106_54 : decode (zB 106) 54 = .ok (.goto 4, 3) := dX9_place_54
theorem I106_57 : decode (zB 106) 57 = .ok (.iconst 0, 1) := dX9_place_57
theorem I106_58 : decode (zB 106) 58 = .ok (.invokevirtual 96, 3) := dX9_place_58
theorem I106_61 : decode (zB 106) 61 = .ok (.ireturn, 1) := dX9_place_61
theorem I107_0 : decode (zB 107) 0 = .ok (.aload_n 0, 1) := dX9_remove_0
theorem I107_1 : decode (zB 107) 1 = .ok (.iload_n 1, 1) := dX9_remove_1
theorem I107_2 : decode (zB 107) 2 = .ok (.invokevirtual 100, 3) := dX9_remove_2
theorem I107_5 : decode (zB 107) 5 = .ok (.ifCond .ne 5, 3) := dX9_remove_5
theorem I107_8 : decode (zB 107) 8 = .ok (.iconst (-1), 1) := dX9_remove_8
theorem I107_9 : decode (zB 107) 9 = .ok (.ireturn, 1) := dX9_remove_9
theorem I107_10 : decode (zB 107) 10 = .ok (.aload_n 0, 1) := dX9_remove_10
theorem I107_11 : decode (zB 107) 11 = .ok (.invokevirtual 49, 3) := dX9_remove_11
theorem I107_14 : decode (zB 107) 14 = .ok (.aload_n 0, 1) := dX9_remove_14
theorem I107_15 : decode (zB 107) 15 = .ok (.iload_n 1, 1) := dX9_remove_15
theorem I107_16 : decode (zB 107) 16 = .ok (.invokevirtual 103, 3) := dX9_remove_16
theorem I107_19 : decode (zB 107) 19 = .ok (.aload_n 0, 1) := dX9_remove_19
theorem I107_20 : decode (zB 107) 20 = .ok (.getfield 7, 3) := dX9_remove_20
theorem I107_23 : decode (zB 107) 23 = .ok (.iconst 3, 1) := dX9_remove_23
theorem I107_24 : decode (zB 107) 24 = .ok (.iaload, 1) := dX9_remove_24
theorem I107_25 : decode (zB 107) 25 = .ok (.ireturn, 1) := dX9_remove_25
theorem I108_0 : decode (zB 108) 0 = .ok (.iload_n 2, 1) := dX9_firstFor_0
theorem I108_1 : decode (zB 108) 1 = .ok (.istore_n 3, 1) := dX9_firstFor_1
theorem I108_2 : decode (zB 108) 2 = .ok (.iload_n 3, 1) := dX9_firstFor_2
theorem I108_3 : decode (zB 108) 3 = .ok (.iload_n 2, 1) := dX9_firstFor_3
theorem I108_4 : decode (zB 108) 4 = .ok (.sipush 1439, 3) := dX9_firstFor_4
theorem I108_7 : decode (zB 108) 7 = .ok (.iadd, 1) := dX9_firstFor_7
theorem I108_8 : decode (zB 108) 8 = .ok (.if_icmp .gt 27, 3) := dX9_firstFor_8
theorem I108_11 : decode (zB 108) 11 = .ok (.iload_n 3, 1) := dX9_firstFor_11
theorem I108_12 : decode (zB 108) 12 = .ok (.sipush 10080, 3) := dX9_firstFor_12
theorem I108_15 : decode (zB 108) 15 = .ok (.if_icmp .ge 20, 3) := dX9_firstFor_15
theorem I108_18 : decode (zB 108) 18 = .ok (.aload_n 0, 1) := dX9_firstFor_18
theorem I108_19 : decode (zB 108) 19 = .ok (.iload_n 1, 1) := dX9_firstFor_19
theorem I108_20 : decode (zB 108) 20 = .ok (.iload_n 3, 1) := dX9_firstFor_20
theorem I108_21 : decode (zB 108) 21 = .ok (.invokevirtual 93, 3) := dX9_firstFor_21
theorem I108_24 : decode (zB 108) 24 = .ok (.ifCond .ne 5, 3) := dX9_firstFor_24
theorem I108_27 : decode (zB 108) 27 = .ok (.iload_n 3, 1) := dX9_firstFor_27
theorem I108_28 : decode (zB 108) 28 = .ok (.ireturn, 1) := dX9_firstFor_28
theorem I108_29 : decode (zB 108) 29 = .ok (.iinc 3 1, 3) := dX9_firstFor_29
theorem I108_32 : decode (zB 108) 32 = .ok (.goto (-30), 3) := dX9_firstFor_32
theorem I108_35 : decode (zB 108) 35 = .ok (.bipush (-9), 2) := dX9_firstFor_35
theorem I108_37 : decode (zB 108) 37 = .ok (.ireturn, 1) := dX9_firstFor_37
theorem I109_0 : decode (zB 109) 0 = .ok (.aload_n 0, 1) := dX9_earliest_0
theorem I109_1 : decode (zB 109) 1 = .ok (.iload_n 1, 1) := dX9_earliest_1
theorem I109_2 : decode (zB 109) 2 = .ok (.invokevirtual 52, 3) := dX9_earliest_2
theorem I109_5 : decode (zB 109) 5 = .ok (.ifCond .eq 23, 3) := dX9_earliest_5
theorem I109_8 : decode (zB 109) 8 = .ok (.iload_n 2, 1) := dX9_earliest_8
theorem I109_9 : decode (zB 109) 9 = .ok (.iconst 0, 1) := dX9_earliest_9
theorem I109_10 : decode (zB 109) 10 = .ok (.sipush 10079, 3) := dX9_earliest_10
theorem I109_13 : decode (zB 109) 13 = .ok (.invokestatic 41, 3) := dX9_earliest_13
theorem I109_16 : decode (zB 109) 16 = .ok (.ifCond .eq 12, 3) := dX9_earliest_16
theorem I109_19 : decode (zB 109) 19 = .ok (.aload_n 0, 1) := dX9_earliest_19
theorem I109_20 : decode (zB 109) 20 = .ok (.iload_n 1, 1) := dX9_earliest_20
theorem I109_21 : decode (zB 109) 21 = .ok (.iload_n 2, 1) := dX9_earliest_21
theorem I109_22 : decode (zB 109) 22 = .ok (.invokevirtual 107, 3) := dX9_earliest_22
theorem I109_25 : decode (zB 109) 25 = .ok (.goto 4, 3) := dX9_earliest_25
theorem I109_28 : decode (zB 109) 28 = .ok (.iconst (-1), 1) := dX9_earliest_28
theorem I109_29 : decode (zB 109) 29 = .ok (.ireturn, 1) := dX9_earliest_29
theorem I110_0 : decode (zB 110) 0 = .ok (.aload_n 0, 1) := dX9_mayFill_0
theorem I110_1 : decode (zB 110) 1 = .ok (.iload_n 1, 1) := dX9_mayFill_1
theorem I110_2 : decode (zB 110) 2 = .ok (.invokevirtual 59, 3) := dX9_mayFill_2
theorem I110_5 : decode (zB 110) 5 = .ok (.iconst 2, 1) := dX9_mayFill_5
theorem I110_6 : decode (zB 110) 6 = .ok (.if_icmp .ne 40, 3) := dX9_mayFill_6
theorem I110_9 : decode (zB 110) 9 = .ok (.iload_n 1, 1) := dX9_mayFill_9
theorem I110_10 : decode (zB 110) 10 = .ok (.iload_n 2, 1) := dX9_mayFill_10
theorem I110_11 : decode (zB 110) 11 = .ok (.if_icmp .eq 35, 3) := dX9_mayFill_11
theorem I110_14 : decode (zB 110) 14 = .ok (.iload_n 3, 1) := dX9_mayFill_14
theorem I110_15 : decode (zB 110) 15 = .ok (.aload_n 0, 1) := dX9_mayFill_15
theorem I110_16 : decode (zB 110) 16 = .ok (.iload_n 1, 1) := dX9_mayFill_16
theorem I110_17 : decode (zB 110) 17 = .ok (.invokevirtual 73, 3) := dX9_mayFill_17
theorem I110_20 : decode (zB 110) 20 = .ok (.iadd, 1) := dX9_mayFill_20
theorem I110_21 : decode (zB 110) 21 = .ok (.iload 4, 2) := dX9_mayFill_21
theorem I110_23 : decode (zB 110) 23 = .ok (.if_icmp .gt 23, 3) := dX9_mayFill_23
theorem I110_26 : decode (zB 110) 26 = .ok (.aload_n 0, 1) := dX9_mayFill_26
theorem I110_27 : decode (zB 110) 27 = .ok (.iload_n 1, 1) := dX9_mayFill_27
theorem I110_28 : decode (zB 110) 28 = .ok (.iload_n 3, 1) := dX9_mayFill_28
theorem I110_29 : decode (zB 110) 29 = .ok (.iload_n 3, 1) := dX9_mayFill_29
theorem I110_30 : decode (zB 110) 30 = .ok (.aload_n 0, 1) := dX9_mayFill_30
theorem I110_31 : decode (zB 110) 31 = .ok (.iload_n 1, 1) := dX9_mayFill_31
theorem I110_32 : decode (zB 110) 32 = .ok (.invokevirtual 73, 3) := dX9_mayFill_32
theorem I110_35 : decode (zB 110) 35 = .ok (.iadd, 1) := dX9_mayFill_35
theorem I110_36 : decode (zB 110) 36 = .ok (.invokevirtual 90, 3) := dX9_mayFill_36
theorem I110_39 : decode (zB 110) 39 = .ok (.ifCond .ne 7, 3) := dX9_mayFill_39
theorem I110_42 : decode (zB 110) 42 = .ok (.iconst 1, 1) := dX9_mayFill_42
theorem I110_43 : decode (zB 110) 43 = .ok (.goto 4, 3) := dX9_mayFill_43
theorem I110_46 : decode (zB 110) 46 = .ok (.iconst 0, 1) := dX9_mayFill_46
theorem I110_47 : decode (zB 110) 47 = .ok (.ireturn, 1) := dX9_mayFill_47
theorem I111_0 : decode (zB 111) 0 = .ok (.iload_n 2, 1) := dX9_measures_0
theorem I111_1 : decode (zB 111) 1 = .ok (.istore 4, 2) := dX9_measures_1
theorem I111_3 : decode (zB 111) 3 = .ok (.iload 4, 2) := dX9_measures_3
theorem I111_5 : decode (zB 111) 5 = .ok (.iload_n 1, 1) := dX9_measures_5
theorem I111_6 : decode (zB 111) 6 = .ok (.if_icmp .lt 201, 3) := dX9_measures_6
theorem I111_9 : decode (zB 111) 9 = .ok (.iconst 0, 1) := dX9_measures_9
theorem I111_10 : decode (zB 111) 10 = .ok (.istore 5, 2) := dX9_measures_10
theorem I111_12 : decode (zB 111) 12 = .ok (.iload 5, 2) := dX9_measures_12
theorem I111_14 : decode (zB 111) 14 = .ok (.bipush 17, 2) := dX9_measures_14
theorem I111_16 : decode (zB 111) 16 = .ok (.if_icmp .ge 54, 3) := dX9_measures_16
theorem I111_19 : decode (zB 111) 19 = .ok (.iload 4, 2) := dX9_measures_19
theorem I111_21 : decode (zB 111) 21 = .ok (.iload_n 2, 1) := dX9_measures_21
theorem I111_22 : decode (zB 111) 22 = .ok (.if_icmp .ne 20, 3) := dX9_measures_22
theorem I111_25 : decode (zB 111) 25 = .ok (.iload 5, 2) := dX9_measures_25
theorem I111_27 : decode (zB 111) 27 = .ok (.bipush 16, 2) := dX9_measures_27
theorem I111_29 : decode (zB 111) 29 = .ok (.if_icmp .eq 9, 3) := dX9_measures_29
theorem I111_32 : decode (zB 111) 32 = .ok (.iload 5, 2) := dX9_measures_32
theorem I111_34 : decode (zB 111) 34 = .ok (.iload_n 3, 1) := dX9_measures_34
theorem I111_35 : decode (zB 111) 35 = .ok (.if_icmp .eq 7, 3) := dX9_measures_35
theorem I111_38 : decode (zB 111) 38 = .ok (.iconst 0, 1) := dX9_measures_38
theorem I111_39 : decode (zB 111) 39 = .ok (.goto 6, 3) := dX9_measures_39
theorem I111_42 : decode (zB 111) 42 = .ok (.sipush 999, 3) := dX9_measures_42
theorem I111_45 : decode (zB 111) 45 = .ok (.istore 6, 2) := dX9_measures_45
theorem I111_47 : decode (zB 111) 47 = .ok (.aload_n 0, 1) := dX9_measures_47
theorem I111_48 : decode (zB 111) 48 = .ok (.getfield 31, 3) := dX9_measures_48
theorem I111_51 : decode (zB 111) 51 = .ok (.bipush 17, 2) := dX9_measures_51
theorem I111_53 : decode (zB 111) 53 = .ok (.iload 4, 2) := dX9_measures_53
theorem I111_55 : decode (zB 111) 55 = .ok (.iload_n 1, 1) := dX9_measures_55
theorem I111_56 : decode (zB 111) 56 = .ok (.isub, 1) := dX9_measures_56
theorem I111_57 : decode (zB 111) 57 = .ok (.imul, 1) := dX9_measures_57
theorem I111_58 : decode (zB 111) 58 = .ok (.iload 5, 2) := dX9_measures_58
theorem I111_60 : decode (zB 111) 60 = .ok (.iadd, 1) := dX9_measures_60
theorem I111_61 : decode (zB 111) 61 = .ok (.iload 6, 2) := dX9_measures_61
theorem I111_63 : decode (zB 111) 63 = .ok (.iastore, 1) := dX9_measures_63
theorem I111_64 : decode (zB 111) 64 = .ok (.iinc 5 1, 3) := dX9_measures_64
theorem I111_67 : decode (zB 111) 67 = .ok (.goto (-55), 3) := dX9_measures_67
theorem I111_70 : decode (zB 111) 70 = .ok (.iconst 0, 1) := dX9_measures_70
theorem I111_71 : decode (zB 111) 71 = .ok (.istore 5, 2) := dX9_measures_71
theorem I111_73 : decode (zB 111) 73 = .ok (.iload 5, 2) := dX9_measures_73
theorem I111_75 : decode (zB 111) 75 = .ok (.aload_n 0, 1) := dX9_measures_75
theorem I111_76 : decode (zB 111) 76 = .ok (.getfield 7, 3) := dX9_measures_76
theorem I111_79 : decode (zB 111) 79 = .ok (.iconst 0, 1) := dX9_measures_79
theorem I111_80 : decode (zB 111) 80 = .ok (.iaload, 1) := dX9_measures_80
theorem I111_81 : decode (zB 111) 81 = .ok (.if_icmp .ge 120, 3) := dX9_measures_81
theorem I111_84 : decode (zB 111) 84 = .ok (.iload 4, 2) := dX9_measures_84
theorem I111_86 : decode (zB 111) 86 = .ok (.iload_n 2, 1) := dX9_measures_86
theorem I111_87 : decode (zB 111) 87 = .ok (.if_icmp .ge 114, 3) := dX9_measures_87
theorem I111_90 : decode (zB 111) 90 = .ok (.aload_n 0, 1) := dX9_measures_90
theorem I111_91 : decode (zB 111) 91 = .ok (.iload 5, 2) := dX9_measures_91
theorem I111_93 : decode (zB 111) 93 = .ok (.iconst (-1), 1) := dX9_measures_93
theorem I111_94 : decode (zB 111) 94 = .ok (.iload 4, 2) := dX9_measures_94
theorem I111_96 : decode (zB 111) 96 = .ok (.iload_n 2, 1) := dX9_measures_96
theorem I111_97 : decode (zB 111) 97 = .ok (.invokevirtual 110, 3) := dX9_measures_97
theorem I111_100 : decode (zB 111) 100 = .ok (.ifCond .eq 95, 3) := dX9_measures_100
theorem I111_103 : decode (zB 111) 103 = .ok (.iconst 1, 1) := dX9_measures_103
theorem I111_104 : decode (zB 111) 104 = .ok (.aload_n 0, 1) := dX9_measures_104
theorem I111_105 : decode (zB 111) 105 = .ok (.getfield 31, 3) := dX9_measures_105
theorem I111_108 : decode (zB 111) 108 = .ok (.bipush 17, 2) := dX9_measures_108
theorem I111_110 : decode (zB 111) 110 = .ok (.iload 4, 2) := dX9_measures_110
theorem I111_112 : decode (zB 111) 112 = .ok (.aload_n 0, 1) := dX9_measures_112
theorem I111_113 : decode (zB 111) 113 = .ok (.iload 5, 2) := dX9_measures_113
theorem I111_115 : decode (zB 111) 115 = .ok (.invokevirtual 73, 3) := dX9_measures_115
theorem I111_118 : decode (zB 111) 118 = .ok (.iadd, 1) := dX9_measures_118
theorem I111_119 : decode (zB 111) 119 = .ok (.iload_n 1, 1) := dX9_measures_119
theorem I111_120 : decode (zB 111) 120 = .ok (.isub, 1) := dX9_measures_120
theorem I111_121 : decode (zB 111) 121 = .ok (.imul, 1) := dX9_measures_121
theorem I111_122 : decode (zB 111) 122 = .ok (.iload 5, 2) := dX9_measures_122
theorem I111_124 : decode (zB 111) 124 = .ok (.iadd, 1) := dX9_measures_124
theorem I111_125 : decode (zB 111) 125 = .ok (.iaload, 1) := dX9_measures_125
theorem I111_126 : decode (zB 111) 126 = .ok (.iadd, 1) := dX9_measures_126
theorem I111_127 : decode (zB 111) 127 = .ok (.istore 6, 2) := dX9_measures_127
theorem I111_129 : decode (zB 111) 129 = .ok (.iconst 0, 1) := dX9_measures_129
theorem I111_130 : decode (zB 111) 130 = .ok (.istore 7, 2) := dX9_measures_130
theorem I111_132 : decode (zB 111) 132 = .ok (.iload 7, 2) := dX9_measures_132
theorem I111_134 : decode (zB 111) 134 = .ok (.bipush 17, 2) := dX9_measures_134
theorem I111_136 : decode (zB 111) 136 = .ok (.if_icmp .ge 59, 3) := dX9_measures_136
theorem I111_139 : decode (zB 111) 139 = .ok (.bipush 17, 2) := dX9_measures_139
theorem I111_141 : decode (zB 111) 141 = .ok (.iload 4, 2) := dX9_measures_141
theorem I111_143 : decode (zB 111) 143 = .ok (.iload_n 1, 1) := dX9_measures_143
theorem I111_144 : decode (zB 111) 144 = .ok (.isub, 1) := dX9_measures_144
theorem I111_145 : decode (zB 111) 145 = .ok (.imul, 1) := dX9_measures_145
theorem I111_146 : decode (zB 111) 146 = .ok (.iload 7, 2) := dX9_measures_146
theorem I111_148 : decode (zB 111) 148 = .ok (.iadd, 1) := dX9_measures_148
theorem I111_149 : decode (zB 111) 149 = .ok (.istore 8, 2) := dX9_measures_149
theorem I111_151 : decode (zB 111) 151 = .ok (.aload_n 0, 1) := dX9_measures_151
theorem I111_152 : decode (zB 111) 152 = .ok (.getfield 31, 3) := dX9_measures_152
theorem I111_155 : decode (zB 111) 155 = .ok (.iload 8, 2) := dX9_measures_155
theorem I111_157 : decode (zB 111) 157 = .ok (.iload 7, 2) := dX9_measures_157
theorem I111_159 : decode (zB 111) 159 = .ok (.iload 5, 2) := dX9_measures_159
theorem I111_161 : decode (zB 111) 161 = .ok (.if_icmp .eq 20, 3) := dX9_measures_161
theorem I111_164 : decode (zB 111) 164 = .ok (.iload 6, 2) := dX9_measures_164
theorem I111_166 : decode (zB 111) 166 = .ok (.aload_n 0, 1) := dX9_measures_166
theorem I111_167 : decode (zB 111) 167 = .ok (.getfield 31, 3) := dX9_measures_167
theorem I111_170 : decode (zB 111) 170 = .ok (.iload 8, 2) := dX9_measures_170
theorem I111_172 : decode (zB 111) 172 = .ok (.iaload, 1) := dX9_measures_172
theorem I111_173 : decode (zB 111) 173 = .ok (.if_icmp .ge 8, 3) := dX9_measures_173
theorem I111_176 : decode (zB 111) 176 = .ok (.iload 6, 2) := dX9_measures_176
theorem I111_178 : decode (zB 111) 178 = .ok (.goto 10, 3) := dX9_measures_178
theorem I111_181 : decode (zB 111) 181 = .ok (.aload_n 0, 1) := dX9_measures_181
theorem I111_182 : decode (zB 111) 182 = .ok (.getfield 31, 3) := dX9_measures_182
theorem I111_185 : decode (zB 111) 185 = .ok (.iload 8, 2) := dX9_measures_185
theorem I111_187 : decode (zB 111) 187 = .ok (.iaload, 1) := dX9_measures_187
theorem I111_188 : decode (zB 111) 188 = .ok (.iastore, 1) := dX9_measures_188
theorem I111_189 : decode (zB 111) 189 = .ok (.iinc 7 1, 3) := dX9_measures_189
theorem I111_192 : decode (zB 111) 192 = .ok (.goto (-60), 3) := dX9_measures_192
theorem I111_195 : decode (zB 111) 195 = .ok (.iinc 5 1, 3) := dX9_measures_195
theorem I111_198 : decode (zB 111) 198 = .ok (.goto (-125), 3) := dX9_measures_198
theorem I111_201 : decode (zB 111) 201 = .ok (.iinc 4 (-1), 3) := dX9_measures_201
theorem I111_204 : decode (zB 111) 204 = .ok (.goto (-201), 3) := dX9_measures_204
theorem I111_207 : decode (zB 111) 207 = .ok (.return_, 1) := dX9_measures_207
theorem I112_0 : decode (zB 112) 0 = .ok (.iload_n 1, 1) := dX9_fill_0
theorem I112_1 : decode (zB 112) 1 = .ok (.iconst 0, 1) := dX9_fill_1
theorem I112_2 : decode (zB 112) 2 = .ok (.sipush 10079, 3) := dX9_fill_2
theorem I112_5 : decode (zB 112) 5 = .ok (.invokestatic 41, 3) := dX9_fill_5
theorem I112_8 : decode (zB 112) 8 = .ok (.ifCond .eq 35, 3) := dX9_fill_8
theorem I112_11 : decode (zB 112) 11 = .ok (.iload_n 2, 1) := dX9_fill_11
theorem I112_12 : decode (zB 112) 12 = .ok (.iload_n 1, 1) := dX9_fill_12
theorem I112_13 : decode (zB 112) 13 = .ok (.iconst 1, 1) := dX9_fill_13
theorem I112_14 : decode (zB 112) 14 = .ok (.iadd, 1) := dX9_fill_14
theorem I112_15 : decode (zB 112) 15 = .ok (.iload_n 1, 1) := dX9_fill_15
theorem I112_16 : decode (zB 112) 16 = .ok (.sipush 240, 3) := dX9_fill_16
theorem I112_19 : decode (zB 112) 19 = .ok (.iadd, 1) := dX9_fill_19
theorem I112_20 : decode (zB 112) 20 = .ok (.sipush 10080, 3) := dX9_fill_20
theorem I112_23 : decode (zB 112) 23 = .ok (.if_icmp .ge 11, 3) := dX9_fill_23
theorem I112_26 : decode (zB 112) 26 = .ok (.iload_n 1, 1) := dX9_fill_26
theorem I112_27 : decode (zB 112) 27 = .ok (.sipush 240, 3) := dX9_fill_27
theorem I112_30 : decode (zB 112) 30 = .ok (.iadd, 1) := dX9_fill_30
theorem I112_31 : decode (zB 112) 31 = .ok (.goto 6, 3) := dX9_fill_31
theorem I112_34 : decode (zB 112) 34 = .ok (.sipush 10080, 3) := dX9_fill_34
theorem I112_37 : decode (zB 112) 37 = .ok (.invokestatic 41, 3) := dX9_fill_37
theorem I112_40 : decode (zB 112) 40 = .ok (.ifCond .ne 5, 3) := dX9_fill_40
theorem I112_43 : decode (zB 112) 43 = .ok (.iconst (-1), 1) := dX9_fill_43
theorem I112_44 : decode (zB 112) 44 = .ok (.ireturn, 1) := dX9_fill_44
theorem I112_45 : decode (zB 112) 45 = .ok (.aload_n 0, 1) := dX9_fill_45
theorem I112_46 : decode (zB 112) 46 = .ok (.iload_n 1, 1) := dX9_fill_46
theorem I112_47 : decode (zB 112) 47 = .ok (.iload_n 2, 1) := dX9_fill_47
theorem I112_48 : decode (zB 112) 48 = .ok (.invokevirtual 76, 3) := dX9_fill_48
theorem I112_51 : decode (zB 112) 51 = .ok (.ifCond .eq 6, 3) := dX9_fill_51
theorem I112_54 : decode (zB 112) 54 = .ok (.bipush (-4), 2) := dX9_fill_54
theorem I112_56 : decode (zB 112) 56 = .ok (.ireturn, 1) := dX9_fill_56
theorem I112_57 : decode (zB 112) 57 = .ok (.bipush 16, 2) := dX9_fill_57
theorem I112_59 : decode (zB 112) 59 = .ok (.istore_n 3, 1) := dX9_fill_59
theorem I112_60 : decode (zB 112) 60 = .ok (.iconst (-1), 1) := dX9_fill_60
theorem I112_61 : decode (zB 112) 61 = .ok (.istore 4, 2) := dX9_fill_61
theorem I112_63 : decode (zB 112) 63 = .ok (.iconst 0, 1) := dX9_fill_63
theorem I112_64 : decode (zB 112) 64 = .ok (.istore 5, 2) := dX9_fill_64
theorem I112_66 : decode (zB 112) 66 = .ok (.iload 5, 2) := dX9_fill_66
theorem I112_68 : decode (zB 112) 68 = .ok (.aload_n 0, 1) := dX9_fill_68
theorem I112_69 : decode (zB 112) 69 = .ok (.getfield 7, 3) := dX9_fill_69
theorem I112_72 : decode (zB 112) 72 = .ok (.iconst 3, 1) := dX9_fill_72
theorem I112_73 : decode (zB 112) 73 = .ok (.iaload, 1) := dX9_fill_73
theorem I112_74 : decode (zB 112) 74 = .ok (.if_icmp .ge 56, 3) := dX9_fill_74
theorem I112_77 : decode (zB 112) 77 = .ok (.aload_n 0, 1) := dX9_fill_77
theorem I112_78 : decode (zB 112) 78 = .ok (.iload 5, 2) := dX9_fill_78
theorem I112_80 : decode (zB 112) 80 = .ok (.invokevirtual 70, 3) := dX9_fill_80
theorem I112_83 : decode (zB 112) 83 = .ok (.iload_n 1, 1) := dX9_fill_83
theorem I112_84 : decode (zB 112) 84 = .ok (.if_icmp .ne 13, 3) := dX9_fill_84
theorem I112_87 : decode (zB 112) 87 = .ok (.aload_n 0, 1) := dX9_fill_87
theorem I112_88 : decode (zB 112) 88 = .ok (.iload 5, 2) := dX9_fill_88
theorem I112_90 : decode (zB 112) 90 = .ok (.iconst 0, 1) := dX9_fill_90
theorem I112_91 : decode (zB 112) 91 = .ok (.invokevirtual 45, 3) := dX9_fill_91
theorem I112_94 : decode (zB 112) 94 = .ok (.goto 4, 3) := dX9_fill_94
theorem I112_97 : decode (zB 112) 97 = .ok (.iload_n 3, 1) := dX9_fill_97
theorem I112_98 : decode (zB 112) 98 = .ok (.istore_n 3, 1) := dX9_fill_98
theorem I112_99 : decode (zB 112) 99 = .ok (.aload_n 0, 1) := dX9_fill_99
theorem I112_100 : decode (zB 112) 100 = .ok (.iload 5, 2) := dX9_fill_100
theorem I112_102 : decode (zB 112) 102 = .ok (.iconst 1, 1) := dX9_fill_102
theorem I112_103 : decode (zB 112) 103 = .ok (.invokevirtual 45, 3) := dX9_fill_103
theorem I112_106 : decode (zB 112) 106 = .ok (.iload_n 2, 1) := dX9_fill_106
theorem I112_107 : decode (zB 112) 107 = .ok (.if_icmp .ne 13, 3) := dX9_fill_107
theorem I112_110 : decode (zB 112) 110 = .ok (.aload_n 0, 1) := dX9_fill_110
theorem I112_111 : decode (zB 112) 111 = .ok (.iload 5, 2) := dX9_fill_111
theorem I112_113 : decode (zB 112) 113 = .ok (.iconst 0, 1) := dX9_fill_113
theorem I112_114 : decode (zB 112) 114 = .ok (.invokevirtual 45, 3) := dX9_fill_114
theorem I112_117 : decode (zB 112) 117 = .ok (.goto 5, 3) := dX9_fill_117
theorem I112_120 : decode (zB 112) 120 = .ok (.iload 4, 2) := dX9_fill_120
theorem I112_122 : decode (zB 112) 122 = .ok (.istore 4, 2) := dX9_fill_122
theorem I112_124 : decode (zB 112) 124 = .ok (.iinc 5 1, 3) := dX9_fill_124
theorem I112_127 : decode (zB 112) 127 = .ok (.goto (-61), 3) := dX9_fill_127
theorem I112_130 : decode (zB 112) 130 = .ok (.aload_n 0, 1) := dX9_fill_130
theorem I112_131 : decode (zB 112) 131 = .ok (.iload_n 1, 1) := dX9_fill_131
theorem I112_132 : decode (zB 112) 132 = .ok (.iload_n 2, 1) := dX9_fill_132
theorem I112_133 : decode (zB 112) 133 = .ok (.iload 4, 2) := dX9_fill_133
theorem I112_135 : decode (zB 112) 135 = .ok (.invokevirtual 114, 3) := dX9_fill_135
theorem I112_138 : decode (zB 112) 138 = .ok (.aload_n 0, 1) := dX9_fill_138
theorem I112_139 : decode (zB 112) 139 = .ok (.getfield 31, 3) := dX9_fill_139
theorem I112_142 : decode (zB 112) 142 = .ok (.iload_n 3, 1) := dX9_fill_142
theorem I112_143 : decode (zB 112) 143 = .ok (.iaload, 1) := dX9_fill_143
theorem I112_144 : decode (zB 112) 144 = .ok (.istore 5, 2) := dX9_fill_144
theorem I112_146 : decode (zB 112) 146 = .ok (.iload 5, 2) := dX9_fill_146
theorem I112_148 : decode (zB 112) 148 = .ok (.sipush 999, 3) := dX9_fill_148
theorem I112_151 : decode (zB 112) 151 = .ok (.if_icmp .lt 6, 3) := dX9_fill_151
theorem I112_154 : decode (zB 112) 154 = .ok (.bipush (-9), 2) := dX9_fill_154
theorem I112_156 : decode (zB 112) 156 = .ok (.ireturn, 1) := dX9_fill_156
theorem I112_157 : decode (zB 112) 157 = .ok (.aload_n 0, 1) := dX9_fill_157
theorem I112_158 : decode (zB 112) 158 = .ok (.getfield 7, 3) := dX9_fill_158
theorem I112_161 : decode (zB 112) 161 = .ok (.iconst 3, 1) := dX9_fill_161
theorem I112_162 : decode (zB 112) 162 = .ok (.iaload, 1) := dX9_fill_162
theorem I112_163 : decode (zB 112) 163 = .ok (.iload 5, 2) := dX9_fill_163
theorem I112_165 : decode (zB 112) 165 = .ok (.iadd, 1) := dX9_fill_165
theorem I112_166 : decode (zB 112) 166 = .ok (.bipush 60, 2) := dX9_fill_166
theorem I112_168 : decode (zB 112) 168 = .ok (.if_icmp .le 6, 3) := dX9_fill_168
theorem I112_171 : decode (zB 112) 171 = .ok (.bipush (-3), 2) := dX9_fill_171
theorem I112_173 : decode (zB 112) 173 = .ok (.ireturn, 1) := dX9_fill_173
theorem I112_174 : decode (zB 112) 174 = .ok (.aload_n 0, 1) := dX9_fill_174
theorem I112_175 : decode (zB 112) 175 = .ok (.invokevirtual 49, 3) := dX9_fill_175
theorem I112_178 : decode (zB 112) 178 = .ok (.iload_n 1, 1) := dX9_fill_178
theorem I112_179 : decode (zB 112) 179 = .ok (.istore 6, 2) := dX9_fill_179
theorem I112_181 : decode (zB 112) 181 = .ok (.iload_n 3, 1) := dX9_fill_181
theorem I112_182 : decode (zB 112) 182 = .ok (.istore 7, 2) := dX9_fill_182
theorem I112_184 : decode (zB 112) 184 = .ok (.iload 6, 2) := dX9_fill_184
theorem I112_186 : decode (zB 112) 186 = .ok (.iload_n 2, 1) := dX9_fill_186
theorem I112_187 : decode (zB 112) 187 = .ok (.if_icmp .ge 103, 3) := dX9_fill_187
theorem I112_190 : decode (zB 112) 190 = .ok (.iconst 0, 1) := dX9_fill_190
theorem I112_191 : decode (zB 112) 191 = .ok (.istore 8, 2) := dX9_fill_191
theorem I112_193 : decode (zB 112) 193 = .ok (.aload_n 0, 1) := dX9_fill_193
theorem I112_194 : decode (zB 112) 194 = .ok (.iload 8, 2) := dX9_fill_194
theorem I112_196 : decode (zB 112) 196 = .ok (.iload 7, 2) := dX9_fill_196
theorem I112_198 : decode (zB 112) 198 = .ok (.iload 6, 2) := dX9_fill_198
theorem I112_200 : decode (zB 112) 200 = .ok (.iload_n 2, 1) := dX9_fill_200
theorem I112_201 : decode (zB 112) 201 = .ok (.invokevirtual 110, 3) := dX9_fill_201
theorem I112_204 : decode (zB 112) 204 = .ok (.ifCond .eq 45, 3) := dX9_fill_204
theorem I112_207 : decode (zB 112) 207 = .ok (.iconst 1, 1) := dX9_fill_207
theorem I112_208 : decode (zB 112) 208 = .ok (.aload_n 0, 1) := dX9_fill_208
theorem I112_209 : decode (zB 112) 209 = .ok (.getfield 31, 3) := dX9_fill_209
theorem I112_212 : decode (zB 112) 212 = .ok (.bipush 17, 2) := dX9_fill_212
theorem I112_214 : decode (zB 112) 214 = .ok (.iload 6, 2) := dX9_fill_214
theorem I112_216 : decode (zB 112) 216 = .ok (.aload_n 0, 1) := dX9_fill_216
theorem I112_217 : decode (zB 112) 217 = .ok (.iload 8, 2) := dX9_fill_217
theorem I112_219 : decode (zB 112) 219 = .ok (.invokevirtual 73, 3) := dX9_fill_219
theorem I112_222 : decode (zB 112) 222 = .ok (.iadd, 1) := dX9_fill_222
theorem I112_223 : decode (zB 112) 223 = .ok (.iload_n 1, 1) := dX9_fill_223
theorem I112_224 : decode (zB 112) 224 = .ok (.isub, 1) := dX9_fill_224
theorem I112_225 : decode (zB 112) 225 = .ok (.imul, 1) := dX9_fill_225
theorem I112_226 : decode (zB 112) 226 = .ok (.iload 8, 2) := dX9_fill_226
theorem I112_228 : decode (zB 112) 228 = .ok (.iadd, 1) := dX9_fill_228
theorem I112_229 : decode (zB 112) 229 = .ok (.iaload, 1) := dX9_fill_229
theorem I112_230 : decode (zB 112) 230 = .ok (.iadd, 1) := dX9_fill_230
theorem I112_231 : decode (zB 112) 231 = .ok (.aload_n 0, 1) := dX9_fill_231
theorem I112_232 : decode (zB 112) 232 = .ok (.getfield 31, 3) := dX9_fill_232
theorem I112_235 : decode (zB 112) 235 = .ok (.bipush 17, 2) := dX9_fill_235
theorem I112_237 : decode (zB 112) 237 = .ok (.iload 6, 2) := dX9_fill_237
theorem I112_239 : decode (zB 112) 239 = .ok (.iload_n 1, 1) := dX9_fill_239
theorem I112_240 : decode (zB 112) 240 = .ok (.isub, 1) := dX9_fill_240
theorem I112_241 : decode (zB 112) 241 = .ok (.imul, 1) := dX9_fill_241
theorem I112_242 : decode (zB 112) 242 = .ok (.iload 7, 2) := dX9_fill_242
theorem I112_244 : decode (zB 112) 244 = .ok (.iadd, 1) := dX9_fill_244
theorem I112_245 : decode (zB 112) 245 = .ok (.iaload, 1) := dX9_fill_245
theorem I112_246 : decode (zB 112) 246 = .ok (.if_icmp .eq 9, 3) := dX9_fill_246
theorem I112_249 : decode (zB 112) 249 = .ok (.iinc 8 1, 3) := dX9_fill_249
theorem I112_252 : decode (zB 112) 252 = .ok (.goto (-59), 3) := dX9_fill_252
theorem I112_255 : decode (zB 112) 255 = .ok (.aload_n 0, 1) := dX9_fill_255
theorem I112_256 : decode (zB 112) 256 = .ok (.iload 8, 2) := dX9_fill_256
theorem I112_258 : decode (zB 112) 258 = .ok (.iload 6, 2) := dX9_fill_258
theorem I112_260 : decode (zB 112) 260 = .ok (.aload_n 0, 1) := dX9_fill_260
theorem I112_261 : decode (zB 112) 261 = .ok (.iload 8, 2) := dX9_fill_261
theorem I112_263 : decode (zB 112) 263 = .ok (.invokevirtual 73, 3) := dX9_fill_263
theorem I112_266 : decode (zB 112) 266 = .ok (.iconst 0, 1) := dX9_fill_266
theorem I112_267 : decode (zB 112) 267 = .ok (.invokevirtual 96, 3) := dX9_fill_267
theorem I112_270 : decode (zB 112) 270 = .ok (.istore 9, 2) := dX9_fill_270
theorem I112_272 : decode (zB 112) 272 = .ok (.iload 6, 2) := dX9_fill_272
theorem I112_274 : decode (zB 112) 274 = .ok (.aload_n 0, 1) := dX9_fill_274
theorem I112_275 : decode (zB 112) 275 = .ok (.iload 8, 2) := dX9_fill_275
theorem I112_277 : decode (zB 112) 277 = .ok (.invokevirtual 73, 3) := dX9_fill_277
theorem I112_280 : decode (zB 112) 280 = .ok (.iadd, 1) := dX9_fill_280
theorem I112_281 : decode (zB 112) 281 = .ok (.istore 6, 2) := dX9_fill_281
theorem I112_283 : decode (zB 112) 283 = .ok (.iload 8, 2) := dX9_fill_283
theorem I112_285 : decode (zB 112) 285 = .ok (.istore 7, 2) := dX9_fill_285
theorem I112_287 : decode (zB 112) 287 = .ok (.goto (-103), 3) := dX9_fill_287
theorem I112_290 : decode (zB 112) 290 = .ok (.iload 5, 2) := dX9_fill_290
theorem I112_292 : decode (zB 112) 292 = .ok (.ireturn, 1) := dX9_fill_292
theorem I113_0 : decode (zB 113) 0 = .ok (.aload_n 0, 1) := dX9_mayPush_0
theorem I113_1 : decode (zB 113) 1 = .ok (.iload_n 1, 1) := dX9_mayPush_1
theorem I113_2 : decode (zB 113) 2 = .ok (.iconst 0, 1) := dX9_mayPush_2
theorem I113_3 : decode (zB 113) 3 = .ok (.invokevirtual 45, 3) := dX9_mayPush_3
theorem I113_6 : decode (zB 113) 6 = .ok (.istore_n 3, 1) := dX9_mayPush_6
theorem I113_7 : decode (zB 113) 7 = .ok (.aload_n 0, 1) := dX9_mayPush_7
theorem I113_8 : decode (zB 113) 8 = .ok (.iload_n 1, 1) := dX9_mayPush_8
theorem I113_9 : decode (zB 113) 9 = .ok (.iconst 2, 1) := dX9_mayPush_9
theorem I113_10 : decode (zB 113) 10 = .ok (.invokevirtual 45, 3) := dX9_mayPush_10
theorem I113_13 : decode (zB 113) 13 = .ok (.istore 4, 2) := dX9_mayPush_13
theorem I113_15 : decode (zB 113) 15 = .ok (.iload_n 2, 1) := dX9_mayPush_15
theorem I113_16 : decode (zB 113) 16 = .ok (.iload 4, 2) := dX9_mayPush_16
theorem I113_18 : decode (zB 113) 18 = .ok (.iadd, 1) := dX9_mayPush_18
theorem I113_19 : decode (zB 113) 19 = .ok (.sipush 10080, 3) := dX9_mayPush_19
theorem I113_22 : decode (zB 113) 22 = .ok (.if_icmp .gt 16, 3) := dX9_mayPush_22
theorem I113_25 : decode (zB 113) 25 = .ok (.aload_n 0, 1) := dX9_mayPush_25
theorem I113_26 : decode (zB 113) 26 = .ok (.iload_n 3, 1) := dX9_mayPush_26
theorem I113_27 : decode (zB 113) 27 = .ok (.iload_n 2, 1) := dX9_mayPush_27
theorem I113_28 : decode (zB 113) 28 = .ok (.iload_n 2, 1) := dX9_mayPush_28
theorem I113_29 : decode (zB 113) 29 = .ok (.iload 4, 2) := dX9_mayPush_29
theorem I113_31 : decode (zB 113) 31 = .ok (.iadd, 1) := dX9_mayPush_31
theorem I113_32 : decode (zB 113) 32 = .ok (.invokevirtual 90, 3) := dX9_mayPush_32
theorem I113_35 : decode (zB 113) 35 = .ok (.ifCond .eq 5, 3) := dX9_mayPush_35
theorem I113_38 : decode (zB 113) 38 = .ok (.iconst 0, 1) := dX9_mayPush_38
theorem I113_39 : decode (zB 113) 39 = .ok (.ireturn, 1) := dX9_mayPush_39
theorem I113_40 : decode (zB 113) 40 = .ok (.aload_n 0, 1) := dX9_mayPush_40
theorem I113_41 : decode (zB 113) 41 = .ok (.iconst 0, 1) := dX9_mayPush_41
theorem I113_42 : decode (zB 113) 42 = .ok (.putfield 56, 3) := dX9_mayPush_42
theorem I113_45 : decode (zB 113) 45 = .ok (.iload_n 1, 1) := dX9_mayPush_45
theorem I113_46 : decode (zB 113) 46 = .ok (.iconst 1, 1) := dX9_mayPush_46
theorem I113_47 : decode (zB 113) 47 = .ok (.iadd, 1) := dX9_mayPush_47
theorem I113_48 : decode (zB 113) 48 = .ok (.istore 5, 2) := dX9_mayPush_48
theorem I113_50 : decode (zB 113) 50 = .ok (.iload 5, 2) := dX9_mayPush_50
theorem I113_52 : decode (zB 113) 52 = .ok (.aload_n 0, 1) := dX9_mayPush_52
theorem I113_53 : decode (zB 113) 53 = .ok (.getfield 7, 3) := dX9_mayPush_53
theorem I113_56 : decode (zB 113) 56 = .ok (.iconst 3, 1) := dX9_mayPush_56
theorem I113_57 : decode (zB 113) 57 = .ok (.iaload, 1) := dX9_mayPush_57
theorem I113_58 : decode (zB 113) 58 = .ok (.if_icmp .ge 34, 3) := dX9_mayPush_58
theorem I113_61 : decode (zB 113) 61 = .ok (.aload_n 0, 1) := dX9_mayPush_61
theorem I113_62 : decode (zB 113) 62 = .ok (.aload_n 0, 1) := dX9_mayPush_62
theorem I113_63 : decode (zB 113) 63 = .ok (.iload 5, 2) := dX9_mayPush_63
theorem I113_65 : decode (zB 113) 65 = .ok (.iconst 0, 1) := dX9_mayPush_65
theorem I113_66 : decode (zB 113) 66 = .ok (.invokevirtual 45, 3) := dX9_mayPush_66
theorem I113_69 : decode (zB 113) 69 = .ok (.aload_n 0, 1) := dX9_mayPush_69
theorem I113_70 : decode (zB 113) 70 = .ok (.iload 5, 2) := dX9_mayPush_70
theorem I113_72 : decode (zB 113) 72 = .ok (.iconst 1, 1) := dX9_mayPush_72
theorem I113_73 : decode (zB 113) 73 = .ok (.invokevirtual 45, 3) := dX9_mayPush_73
theorem I113_76 : decode (zB 113) 76 = .ok (.aload_n 0, 1) := dX9_mayPush_76
theorem I113_77 : decode (zB 113) 77 = .ok (.iload 5, 2) := dX9_mayPush_77
theorem I113_79 : decode (zB 113) 79 = .ok (.iconst 2, 1) := dX9_mayPush_79
theorem I113_80 : decode (zB 113) 80 = .ok (.invokevirtual 45, 3) := dX9_mayPush_80
theorem I113_83 : decode (zB 113) 83 = .ok (.invokevirtual 83, 3) := dX9_mayPush_83
theorem I113_86 : decode (zB 113) 86 = .ok (.iinc 5 1, 3) := dX9_mayPush_86
theorem I113_89 : decode (zB 113) 89 = .ok (.goto (-39), 3) := dX9_mayPush_89
theorem I113_92 : decode (zB 113) 92 = .ok (.iconst 0, 1) := dX9_mayPush_92
theorem I113_93 : decode (zB 113) 93 = .ok (.istore 5, 2) := dX9_mayPush_93
theorem I113_95 : decode (zB 113) 95 = .ok (.iload 5, 2) := dX9_mayPush_95
theorem I113_97 : decode (zB 113) 97 = .ok (.iload_n 1, 1) := dX9_mayPush_97
theorem I113_98 : decode (zB 113) 98 = .ok (.if_icmp .ge 34, 3) := dX9_mayPush_98
theorem I113_101 : decode (zB 113) 101 = .ok (.aload_n 0, 1) := dX9_mayPush_101
theorem I113_102 : decode (zB 113) 102 = .ok (.aload_n 0, 1) := dX9_mayPush_102
theorem I113_103 : decode (zB 113) 103 = .ok (.iload 5, 2) := dX9_mayPush_103
theorem I113_105 : decode (zB 113) 105 = .ok (.iconst 0, 1) := dX9_mayPush_105
theorem I113_106 : decode (zB 113) 106 = .ok (.invokevirtual 45, 3) := dX9_mayPush_106
theorem I113_109 : decode (zB 113) 109 = .ok (.aload_n 0, 1) := dX9_mayPush_109
theorem I113_110 : decode (zB 113) 110 = .ok (.iload 5, 2) := dX9_mayPush_110
theorem I113_112 : decode (zB 113) 112 = .ok (.iconst 1, 1) := dX9_mayPush_112
theorem I113_113 : decode (zB 113) 113 = .ok (.invokevirtual 45, 3) := dX9_mayPush_113
theorem I113_116 : decode (zB 113) 116 = .ok (.aload_n 0, 1) := dX9_mayPush_116
theorem I113_117 : decode (zB 113) 117 = .ok (.iload 5, 2) := dX9_mayPush_117
theorem I113_119 : decode (zB 113) 119 = .ok (.iconst 2, 1) := dX9_mayPush_119
theorem I113_120 : decode (zB 113) 120 = .ok (.invokevirtual 45, 3) := dX9_mayPush_120
theorem I113_123 : decode (zB 113) 123 = .ok (.invokevirtual 83, 3) := dX9_mayPush_123
theorem I113_126 : decode (zB 113) 126 = .ok (.iinc 5 1, 3) := dX9_mayPush_126
theorem I113_129 : decode (zB 113) 129 = .ok (.goto (-34), 3) := dX9_mayPush_129
theorem I113_132 : decode (zB 113) 132 = .ok (.aload_n 0, 1) := dX9_mayPush_132
theorem I113_133 : decode (zB 113) 133 = .ok (.iload_n 3, 1) := dX9_mayPush_133
theorem I113_134 : decode (zB 113) 134 = .ok (.iload_n 2, 1) := dX9_mayPush_134
theorem I113_135 : decode (zB 113) 135 = .ok (.iload 4, 2) := dX9_mayPush_135
theorem I113_137 : decode (zB 113) 137 = .ok (.invokevirtual 83, 3) := dX9_mayPush_137
theorem I113_140 : decode (zB 113) 140 = .ok (.aload_n 0, 1) := dX9_mayPush_140
theorem I113_141 : decode (zB 113) 141 = .ok (.iload_n 3, 1) := dX9_mayPush_141
theorem I113_142 : decode (zB 113) 142 = .ok (.invokevirtual 87, 3) := dX9_mayPush_142
theorem I113_145 : decode (zB 113) 145 = .ok (.ifCond .ne 7, 3) := dX9_mayPush_145
theorem I113_148 : decode (zB 113) 148 = .ok (.iconst 1, 1) := dX9_mayPush_148
theorem I113_149 : decode (zB 113) 149 = .ok (.goto 4, 3) := dX9_mayPush_149
theorem I113_152 : decode (zB 113) 152 = .ok (.iconst 0, 1) := dX9_mayPush_152
theorem I113_153 : decode (zB 113) 153 = .ok (.ireturn, 1) := dX9_mayPush_153
theorem I114_0 : decode (zB 114) 0 = .ok (.aload_n 0, 1) := dX9_treats_0
theorem I114_1 : decode (zB 114) 1 = .ok (.iload_n 1, 1) := dX9_treats_1
theorem I114_2 : decode (zB 114) 2 = .ok (.iconst 0, 1) := dX9_treats_2
theorem I114_3 : decode (zB 114) 3 = .ok (.invokevirtual 45, 3) := dX9_treats_3
theorem I114_6 : decode (zB 114) 6 = .ok (.istore_n 3, 1) := dX9_treats_6
theorem I114_7 : decode (zB 114) 7 = .ok (.aload_n 0, 1) := dX9_treats_7
theorem I114_8 : decode (zB 114) 8 = .ok (.iload_n 1, 1) := dX9_treats_8
theorem I114_9 : decode (zB 114) 9 = .ok (.iconst 3, 1) := dX9_treats_9
theorem I114_10 : decode (zB 114) 10 = .ok (.invokevirtual 45, 3) := dX9_treats_10
theorem I114_13 : decode (zB 114) 13 = .ok (.iconst 1, 1) := dX9_treats_13
theorem I114_14 : decode (zB 114) 14 = .ok (.if_icmp .ne 7, 3) := dX9_treats_14
theorem I114_17 : decode (zB 114) 17 = .ok (.iconst 1, 1) := dX9_treats_17
theorem I114_18 : decode (zB 114) 18 = .ok (.goto 4, 3) := dX9_treats_18
theorem I114_21 : decode (zB 114) 21 = .ok (.iconst 0, 1) := dX9_treats_21
theorem I114_22 : decode (zB 114) 22 = .ok (.istore 4, 2) := dX9_treats_22
theorem I114_24 : decode (zB 114) 24 = .ok (.aload_n 0, 1) := dX9_treats_24
theorem I114_25 : decode (zB 114) 25 = .ok (.iload_n 3, 1) := dX9_treats_25
theorem I114_26 : decode (zB 114) 26 = .ok (.invokevirtual 59, 3) := dX9_treats_26
theorem I114_29 : decode (zB 114) 29 = .ok (.iconst 2, 1) := dX9_treats_29
theorem I114_30 : decode (zB 114) 30 = .ok (.if_icmp .eq 29, 3) := dX9_treats_30
theorem I114_33 : decode (zB 114) 33 = .ok (.iload 4, 2) := dX9_treats_33
theorem I114_35 : decode (zB 114) 35 = .ok (.ifCond .eq 15, 3) := dX9_treats_35
theorem I114_38 : decode (zB 114) 38 = .ok (.aload_n 0, 1) := dX9_treats_38
theorem I114_39 : decode (zB 114) 39 = .ok (.iload_n 1, 1) := dX9_treats_39
theorem I114_40 : decode (zB 114) 40 = .ok (.invokevirtual 70, 3) := dX9_treats_40
theorem I114_43 : decode (zB 114) 43 = .ok (.iload_n 2, 1) := dX9_treats_43
theorem I114_44 : decode (zB 114) 44 = .ok (.if_icmp .gt 17, 3) := dX9_treats_44
theorem I114_47 : decode (zB 114) 47 = .ok (.goto 12, 3) := dX9_treats_47
theorem I114_50 : decode (zB 114) 50 = .ok (.aload_n 0, 1) := dX9_treats_50
theorem I114_51 : decode (zB 114) 51 = .ok (.iload_n 1, 1) := dX9_treats_51
theorem I114_52 : decode (zB 114) 52 = .ok (.iload_n 2, 1) := dX9_treats_52
theorem I114_53 : decode (zB 114) 53 = .ok (.invokevirtual 117, 3) := dX9_treats_53
theorem I114_56 : decode (zB 114) 56 = .ok (.ifCond .ne 5, 3) := dX9_treats_56
theorem I114_59 : decode (zB 114) 59 = .ok (.iconst (-1), 1) := dX9_treats_59
theorem I114_60 : decode (zB 114) 60 = .ok (.ireturn, 1) := dX9_treats_60
theorem I114_61 : decode (zB 114) 61 = .ok (.iload 4, 2) := dX9_treats_61
theorem I114_63 : decode (zB 114) 63 = .ok (.ifCond .eq 24, 3) := dX9_treats_63
theorem I114_66 : decode (zB 114) 66 = .ok (.aload_n 0, 1) := dX9_treats_66
theorem I114_67 : decode (zB 114) 67 = .ok (.getfield 7, 3) := dX9_treats_67
theorem I114_70 : decode (zB 114) 70 = .ok (.sipush 230, 3) := dX9_treats_70
theorem I114_73 : decode (zB 114) 73 = .ok (.iconst 4, 1) := dX9_treats_73
theorem I114_74 : decode (zB 114) 74 = .ok (.iload_n 1, 1) := dX9_treats_74
theorem I114_75 : decode (zB 114) 75 = .ok (.imul, 1) := dX9_treats_75
theorem I114_76 : decode (zB 114) 76 = .ok (.iadd, 1) := dX9_treats_76
theorem I114_77 : decode (zB 114) 77 = .ok (.iconst 2, 1) := dX9_treats_77
theorem I114_78 : decode (zB 114) 78 = .ok (.iadd, 1) := dX9_treats_78
theorem I114_79 : decode (zB 114) 79 = .ok (.aload_n 0, 1) := dX9_treats_79
theorem I114_80 : decode (zB 114) 80 = .ok (.iload_n 1, 1) := dX9_treats_80
theorem I114_81 : decode (zB 114) 81 = .ok (.invokevirtual 70, 3) := dX9_treats_81
theorem I114_84 : decode (zB 114) 84 = .ok (.iload_n 2, 1) := dX9_treats_84
theorem I114_85 : decode (zB 114) 85 = .ok (.isub, 1) := dX9_treats_85
theorem I114_86 : decode (zB 114) 86 = .ok (.iastore, 1) := dX9_treats_86
theorem I114_87 : decode (zB 114) 87 = .ok (.aload_n 0, 1) := dX9_treats_87
theorem I114_88 : decode (zB 114) 88 = .ok (.getfield 7, 3) := dX9_treats_88
theorem I114_91 : decode (zB 114) 91 = .ok (.sipush 230, 3) := dX9_treats_91
theorem I114_94 : decode (zB 114) 94 = .ok (.iconst 4, 1) := dX9_treats_94
theorem I114_95 : decode (zB 114) 95 = .ok (.iload_n 1, 1) := dX9_treats_95
theorem I114_96 : decode (zB 114) 96 = .ok (.imul, 1) := dX9_treats_96
theorem I114_97 : decode (zB 114) 97 = .ok (.iadd, 1) := dX9_treats_97
theorem I114_98 : decode (zB 114) 98 = .ok (.iconst 1, 1) := dX9_treats_98
theorem I114_99 : decode (zB 114) 99 = .ok (.iadd, 1) := dX9_treats_99
theorem I114_100 : decode (zB 114) 100 = .ok (.iload_n 2, 1) := dX9_treats_100
theorem I114_101 : decode (zB 114) 101 = .ok (.iastore, 1) := dX9_treats_101
theorem I114_102 : decode (zB 114) 102 = .ok (.aload_n 0, 1) := dX9_treats_102
theorem I114_103 : decode (zB 114) 103 = .ok (.iload_n 1, 1) := dX9_treats_103
theorem I114_104 : decode (zB 114) 104 = .ok (.invokevirtual 70, 3) := dX9_treats_104
theorem I114_107 : decode (zB 114) 107 = .ok (.ireturn, 1) := dX9_treats_107
theorem I115_0 : decode (zB 115) 0 = .ok (.aload_n 0, 1) := dX9_runOver_0
theorem I115_1 : decode (zB 115) 1 = .ok (.iload_n 1, 1) := dX9_runOver_1
theorem I115_2 : decode (zB 115) 2 = .ok (.invokevirtual 100, 3) := dX9_runOver_2
theorem I115_5 : decode (zB 115) 5 = .ok (.ifCond .eq 13, 3) := dX9_runOver_5
theorem I115_8 : decode (zB 115) 8 = .ok (.iload_n 2, 1) := dX9_runOver_8
theorem I115_9 : decode (zB 115) 9 = .ok (.iconst 1, 1) := dX9_runOver_9
theorem I115_10 : decode (zB 115) 10 = .ok (.bipush 120, 2) := dX9_runOver_10
theorem I115_12 : decode (zB 115) 12 = .ok (.invokestatic 41, 3) := dX9_runOver_12
theorem I115_15 : decode (zB 115) 15 = .ok (.ifCond .ne 5, 3) := dX9_runOver_15
theorem I115_18 : decode (zB 115) 18 = .ok (.iconst (-1), 1) := dX9_runOver_18
theorem I115_19 : decode (zB 115) 19 = .ok (.ireturn, 1) := dX9_runOver_19
theorem I115_20 : decode (zB 115) 20 = .ok (.aload_n 0, 1) := dX9_runOver_20
theorem I115_21 : decode (zB 115) 21 = .ok (.aload_n 0, 1) := dX9_runOver_21
theorem I115_22 : decode (zB 115) 22 = .ok (.iload_n 1, 1) := dX9_runOver_22
theorem I115_23 : decode (zB 115) 23 = .ok (.iconst 0, 1) := dX9_runOver_23
theorem I115_24 : decode (zB 115) 24 = .ok (.invokevirtual 45, 3) := dX9_runOver_24
theorem I115_27 : decode (zB 115) 27 = .ok (.invokevirtual 59, 3) := dX9_runOver_27
theorem I115_30 : decode (zB 115) 30 = .ok (.iconst 1, 1) := dX9_runOver_30
theorem I115_31 : decode (zB 115) 31 = .ok (.if_icmp .eq 6, 3) := dX9_runOver_31
theorem I115_34 : decode (zB 115) 34 = .ok (.bipush (-2), 2) := dX9_runOver_34
theorem I115_36 : decode (zB 115) 36 = .ok (.ireturn, 1) := dX9_runOver_36
theorem I115_37 : decode (zB 115) 37 = .ok (.aload_n 0, 1) := dX9_runOver_37
theorem I115_38 : decode (zB 115) 38 = .ok (.iload_n 1, 1) := dX9_runOver_38
theorem I115_39 : decode (zB 115) 39 = .ok (.invokevirtual 70, 3) := dX9_runOver_39
theorem I115_42 : decode (zB 115) 42 = .ok (.iload_n 2, 1) := dX9_runOver_42
theorem I115_43 : decode (zB 115) 43 = .ok (.iadd, 1) := dX9_runOver_43
theorem I115_44 : decode (zB 115) 44 = .ok (.sipush 10080, 3) := dX9_runOver_44
theorem I115_47 : decode (zB 115) 47 = .ok (.if_icmp .le 6, 3) := dX9_runOver_47
theorem I115_50 : decode (zB 115) 50 = .ok (.bipush (-4), 2) := dX9_runOver_50
theorem I115_52 : decode (zB 115) 52 = .ok (.ireturn, 1) := dX9_runOver_52
theorem I115_53 : decode (zB 115) 53 = .ok (.aload_n 0, 1) := dX9_runOver_53
theorem I115_54 : decode (zB 115) 54 = .ok (.invokevirtual 49, 3) := dX9_runOver_54
theorem I115_57 : decode (zB 115) 57 = .ok (.aload_n 0, 1) := dX9_runOver_57
theorem I115_58 : decode (zB 115) 58 = .ok (.getfield 7, 3) := dX9_runOver_58
theorem I115_61 : decode (zB 115) 61 = .ok (.sipush 230, 3) := dX9_runOver_61
theorem I115_64 : decode (zB 115) 64 = .ok (.iconst 4, 1) := dX9_runOver_64
theorem I115_65 : decode (zB 115) 65 = .ok (.iload_n 1, 1) := dX9_runOver_65
theorem I115_66 : decode (zB 115) 66 = .ok (.imul, 1) := dX9_runOver_66
theorem I115_67 : decode (zB 115) 67 = .ok (.iadd, 1) := dX9_runOver_67
theorem I115_68 : decode (zB 115) 68 = .ok (.iconst 2, 1) := dX9_runOver_68
theorem I115_69 : decode (zB 115) 69 = .ok (.iadd, 1) := dX9_runOver_69
theorem I115_70 : decode (zB 115) 70 = .ok (.dup2, 1) := dX9_runOver_70
theorem I115_71 : decode (zB 115) 71 = .ok (.iaload, 1) := dX9_runOver_71
theorem I115_72 : decode (zB 115) 72 = .ok (.iload_n 2, 1) := dX9_runOver_72
theorem I115_73 : decode (zB 115) 73 = .ok (.iadd, 1) := dX9_runOver_73
theorem I115_74 : decode (zB 115) 74 = .ok (.iastore, 1) := dX9_runOver_74
theorem I115_75 : decode (zB 115) 75 = .ok (.aload_n 0, 1) := dX9_runOver_75
theorem I115_76 : decode (zB 115) 76 = .ok (.iload_n 1, 1) := dX9_runOver_76
theorem I115_77 : decode (zB 115) 77 = .ok (.invokevirtual 70, 3) := dX9_runOver_77
theorem I115_80 : decode (zB 115) 80 = .ok (.istore_n 3, 1) := dX9_runOver_80
theorem I115_81 : decode (zB 115) 81 = .ok (.iconst 0, 1) := dX9_runOver_81
theorem I115_82 : decode (zB 115) 82 = .ok (.istore 4, 2) := dX9_runOver_82
theorem I115_84 : decode (zB 115) 84 = .ok (.iload_n 1, 1) := dX9_runOver_84
theorem I115_85 : decode (zB 115) 85 = .ok (.iconst 1, 1) := dX9_runOver_85
theorem I115_86 : decode (zB 115) 86 = .ok (.iadd, 1) := dX9_runOver_86
theorem I115_87 : decode (zB 115) 87 = .ok (.istore 5, 2) := dX9_runOver_87
theorem I115_89 : decode (zB 115) 89 = .ok (.iload 5, 2) := dX9_runOver_89
theorem I115_91 : decode (zB 115) 91 = .ok (.aload_n 0, 1) := dX9_runOver_91
theorem I115_92 : decode (zB 115) 92 = .ok (.getfield 7, 3) := dX9_runOver_92
theorem I115_95 : decode (zB 115) 95 = .ok (.iconst 3, 1) := dX9_runOver_95
theorem I115_96 : decode (zB 115) 96 = .ok (.iaload, 1) := dX9_runOver_96
theorem I115_97 : decode (zB 115) 97 = .ok (.if_icmp .ge 90, 3) := dX9_runOver_97
theorem I115_100 : decode (zB 115) 100 = .ok (.aload_n 0, 1) := dX9_runOver_100
theorem I115_101 : decode (zB 115) 101 = .ok (.iload 5, 2) := dX9_runOver_101
theorem I115_103 : decode (zB 115) 103 = .ok (.iconst 1, 1) := dX9_runOver_103
theorem I115_104 : decode (zB 115) 104 = .ok (.invokevirtual 45, 3) := dX9_runOver_104
theorem I115_107 : decode (zB 115) 107 = .ok (.iload_n 3, 1) := dX9_runOver_107
theorem I115_108 : decode (zB 115) 108 = .ok (.if_icmp .ge 79, 3) := dX9_runOver_108
theorem I115_111 : decode (zB 115) 111 = .ok (.aload_n 0, 1) := dX9_runOver_111
theorem I115_112 : decode (zB 115) 112 = .ok (.iload 5, 2) := dX9_runOver_112
theorem I115_114 : decode (zB 115) 114 = .ok (.iconst 0, 1) := dX9_runOver_114
theorem I115_115 : decode (zB 115) 115 = .ok (.invokevirtual 45, 3) := dX9_runOver_115
theorem I115_118 : decode (zB 115) 118 = .ok (.istore 6, 2) := dX9_runOver_118
theorem I115_120 : decode (zB 115) 120 = .ok (.aload_n 0, 1) := dX9_runOver_120
theorem I115_121 : decode (zB 115) 121 = .ok (.iload 5, 2) := dX9_runOver_121
theorem I115_123 : decode (zB 115) 123 = .ok (.iload_n 3, 1) := dX9_runOver_123
theorem I115_124 : decode (zB 115) 124 = .ok (.invokevirtual 120, 3) := dX9_runOver_124
theorem I115_127 : decode (zB 115) 127 = .ok (.istore 7, 2) := dX9_runOver_127
theorem I115_129 : decode (zB 115) 129 = .ok (.iload 7, 2) := dX9_runOver_129
theorem I115_131 : decode (zB 115) 131 = .ok (.ifCond .ge 47, 3) := dX9_runOver_131
theorem I115_134 : decode (zB 115) 134 = .ok (.aload_n 0, 1) := dX9_runOver_134
theorem I115_135 : decode (zB 115) 135 = .ok (.getfield 7, 3) := dX9_runOver_135
theorem I115_138 : decode (zB 115) 138 = .ok (.bipush 10, 2) := dX9_runOver_138
theorem I115_140 : decode (zB 115) 140 = .ok (.iconst 4, 1) := dX9_runOver_140
theorem I115_141 : decode (zB 115) 141 = .ok (.iload 6, 2) := dX9_runOver_141
theorem I115_143 : decode (zB 115) 143 = .ok (.imul, 1) := dX9_runOver_143
theorem I115_144 : decode (zB 115) 144 = .ok (.iadd, 1) := dX9_runOver_144
theorem I115_145 : decode (zB 115) 145 = .ok (.iconst 3, 1) := dX9_runOver_145
theorem I115_146 : decode (zB 115) 146 = .ok (.iadd, 1) := dX9_runOver_146
theorem I115_147 : decode (zB 115) 147 = .ok (.dup2, 1) := dX9_runOver_147
theorem I115_148 : decode (zB 115) 148 = .ok (.iaload, 1) := dX9_runOver_148
theorem I115_149 : decode (zB 115) 149 = .ok (.aload_n 0, 1) := dX9_runOver_149
theorem I115_150 : decode (zB 115) 150 = .ok (.iload 6, 2) := dX9_runOver_150
theorem I115_152 : decode (zB 115) 152 = .ok (.invokevirtual 59, 3) := dX9_runOver_152
theorem I115_155 : decode (zB 115) 155 = .ok (.iconst 3, 1) := dX9_runOver_155
theorem I115_156 : decode (zB 115) 156 = .ok (.if_icmp .ne 7, 3) := dX9_runOver_156
theorem I115_159 : decode (zB 115) 159 = .ok (.iconst 1, 1) := dX9_runOver_159
theorem I115_160 : decode (zB 115) 160 = .ok (.goto 4, 3) := dX9_runOver_160
theorem I115_163 : decode (zB 115) 163 = .ok (.iconst 0, 1) := dX9_runOver_163
theorem I115_164 : decode (zB 115) 164 = .ok (.iadd, 1) := dX9_runOver_164
theorem I115_165 : decode (zB 115) 165 = .ok (.iastore, 1) := dX9_runOver_165
theorem I115_166 : decode (zB 115) 166 = .ok (.aload_n 0, 1) := dX9_runOver_166
theorem I115_167 : decode (zB 115) 167 = .ok (.iload 5, 2) := dX9_runOver_167
theorem I115_169 : decode (zB 115) 169 = .ok (.invokevirtual 103, 3) := dX9_runOver_169
theorem I115_172 : decode (zB 115) 172 = .ok (.iinc 4 1, 3) := dX9_runOver_172
theorem I115_175 : decode (zB 115) 175 = .ok (.goto 9, 3) := dX9_runOver_175
theorem I115_178 : decode (zB 115) 178 = .ok (.iload 7, 2) := dX9_runOver_178
theorem I115_180 : decode (zB 115) 180 = .ok (.istore_n 3, 1) := dX9_runOver_180
theorem I115_181 : decode (zB 115) 181 = .ok (.iinc 5 1, 3) := dX9_runOver_181
theorem I115_184 : decode (zB 115) 184 = .ok (.goto (-95), 3) := dX9_runOver_184
theorem I115_187 : decode (zB 115) 187 = .ok (.iload 4, 2) := dX9_runOver_187
theorem I115_189 : decode (zB 115) 189 = .ok (.ireturn, 1) := dX9_runOver_189
theorem I116_0 : decode (zB 116) 0 = .ok (.aload_n 0, 1) := dX9_makeGood_0
theorem I116_1 : decode (zB 116) 1 = .ok (.iload_n 1, 1) := dX9_makeGood_1
theorem I116_2 : decode (zB 116) 2 = .ok (.invokevirtual 52, 3) := dX9_makeGood_2
theorem I116_5 : decode (zB 116) 5 = .ok (.ifCond .eq 14, 3) := dX9_makeGood_5
theorem I116_8 : decode (zB 116) 8 = .ok (.iload_n 2, 1) := dX9_makeGood_8
theorem I116_9 : decode (zB 116) 9 = .ok (.iconst 0, 1) := dX9_makeGood_9
theorem I116_10 : decode (zB 116) 10 = .ok (.sipush 10079, 3) := dX9_makeGood_10
theorem I116_13 : decode (zB 116) 13 = .ok (.invokestatic 41, 3) := dX9_makeGood_13
theorem I116_16 : decode (zB 116) 16 = .ok (.ifCond .ne 5, 3) := dX9_makeGood_16
theorem I116_19 : decode (zB 116) 19 = .ok (.iconst (-1), 1) := dX9_makeGood_19
theorem I116_20 : decode (zB 116) 20 = .ok (.ireturn, 1) := dX9_makeGood_20
theorem I116_21 : decode (zB 116) 21 = .ok (.aload_n 0, 1) := dX9_makeGood_21
theorem I116_22 : decode (zB 116) 22 = .ok (.getfield 7, 3) := dX9_makeGood_22
theorem I116_25 : decode (zB 116) 25 = .ok (.bipush 10, 2) := dX9_makeGood_25
theorem I116_27 : decode (zB 116) 27 = .ok (.iconst 4, 1) := dX9_makeGood_27
theorem I116_28 : decode (zB 116) 28 = .ok (.iload_n 1, 1) := dX9_makeGood_28
theorem I116_29 : decode (zB 116) 29 = .ok (.imul, 1) := dX9_makeGood_29
theorem I116_30 : decode (zB 116) 30 = .ok (.iadd, 1) := dX9_makeGood_30
theorem I116_31 : decode (zB 116) 31 = .ok (.iconst 3, 1) := dX9_makeGood_31
theorem I116_32 : decode (zB 116) 32 = .ok (.iadd, 1) := dX9_makeGood_32
theorem I116_33 : decode (zB 116) 33 = .ok (.iaload, 1) := dX9_makeGood_33
theorem I116_34 : decode (zB 116) 34 = .ok (.ifCond .ne 6, 3) := dX9_makeGood_34
theorem I116_37 : decode (zB 116) 37 = .ok (.bipush (-2), 2) := dX9_makeGood_37
theorem I116_39 : decode (zB 116) 39 = .ok (.ireturn, 1) := dX9_makeGood_39
theorem I116_40 : decode (zB 116) 40 = .ok (.aload_n 0, 1) := dX9_makeGood_40
theorem I116_41 : decode (zB 116) 41 = .ok (.iload_n 1, 1) := dX9_makeGood_41
theorem I116_42 : decode (zB 116) 42 = .ok (.iload_n 2, 1) := dX9_makeGood_42
theorem I116_43 : decode (zB 116) 43 = .ok (.invokevirtual 107, 3) := dX9_makeGood_43
theorem I116_46 : decode (zB 116) 46 = .ok (.istore_n 3, 1) := dX9_makeGood_46
theorem I116_47 : decode (zB 116) 47 = .ok (.iload_n 3, 1) := dX9_makeGood_47
theorem I116_48 : decode (zB 116) 48 = .ok (.ifCond .ge 6, 3) := dX9_makeGood_48
theorem I116_51 : decode (zB 116) 51 = .ok (.bipush (-9), 2) := dX9_makeGood_51
theorem I116_53 : decode (zB 116) 53 = .ok (.ireturn, 1) := dX9_makeGood_53
theorem I116_54 : decode (zB 116) 54 = .ok (.aload_n 0, 1) := dX9_makeGood_54
theorem I116_55 : decode (zB 116) 55 = .ok (.invokevirtual 49, 3) := dX9_makeGood_55
theorem I116_58 : decode (zB 116) 58 = .ok (.aload_n 0, 1) := dX9_makeGood_58
theorem I116_59 : decode (zB 116) 59 = .ok (.iload_n 1, 1) := dX9_makeGood_59
theorem I116_60 : decode (zB 116) 60 = .ok (.iload_n 3, 1) := dX9_makeGood_60
theorem I116_61 : decode (zB 116) 61 = .ok (.aload_n 0, 1) := dX9_makeGood_61
theorem I116_62 : decode (zB 116) 62 = .ok (.iload_n 1, 1) := dX9_makeGood_62
theorem I116_63 : decode (zB 116) 63 = .ok (.invokevirtual 73, 3) := dX9_makeGood_63
theorem I116_66 : decode (zB 116) 66 = .ok (.iconst 0, 1) := dX9_makeGood_66
theorem I116_67 : decode (zB 116) 67 = .ok (.invokevirtual 96, 3) := dX9_makeGood_67
theorem I116_70 : decode (zB 116) 70 = .ok (.istore 4, 2) := dX9_makeGood_70
theorem I116_72 : decode (zB 116) 72 = .ok (.aload_n 0, 1) := dX9_makeGood_72
theorem I116_73 : decode (zB 116) 73 = .ok (.getfield 7, 3) := dX9_makeGood_73
theorem I116_76 : decode (zB 116) 76 = .ok (.bipush 10, 2) := dX9_makeGood_76
theorem I116_78 : decode (zB 116) 78 = .ok (.iconst 4, 1) := dX9_makeGood_78
theorem I116_79 : decode (zB 116) 79 = .ok (.iload_n 1, 1) := dX9_makeGood_79
theorem I116_80 : decode (zB 116) 80 = .ok (.imul, 1) := dX9_makeGood_80
theorem I116_81 : decode (zB 116) 81 = .ok (.iadd, 1) := dX9_makeGood_81
theorem I116_82 : decode (zB 116) 82 = .ok (.iconst 3, 1) := dX9_makeGood_82
theorem I116_83 : decode (zB 116) 83 = .ok (.iadd, 1) := dX9_makeGood_83
theorem I116_84 : decode (zB 116) 84 = .ok (.dup2, 1) := dX9_makeGood_84
theorem I116_85 : decode (zB 116) 85 = .ok (.iaload, 1) := dX9_makeGood_85
theorem I116_86 : decode (zB 116) 86 = .ok (.iconst 1, 1) := dX9_makeGood_86
theorem I116_87 : decode (zB 116) 87 = .ok (.isub, 1) := dX9_makeGood_87
theorem I116_88 : decode (zB 116) 88 = .ok (.iastore, 1) := dX9_makeGood_88
theorem I116_89 : decode (zB 116) 89 = .ok (.iload_n 3, 1) := dX9_makeGood_89
theorem I116_90 : decode (zB 116) 90 = .ok (.ireturn, 1) := dX9_makeGood_90
theorem I117_0 : decode (zB 117) 0 = .ok (.aload_n 0, 1) := dX9_items_0
theorem I117_1 : decode (zB 117) 1 = .ok (.getfield 7, 3) := dX9_items_1
theorem I117_4 : decode (zB 117) 4 = .ok (.iconst 3, 1) := dX9_items_4
theorem I117_5 : decode (zB 117) 5 = .ok (.iaload, 1) := dX9_items_5
theorem I117_6 : decode (zB 117) 6 = .ok (.ireturn, 1) := dX9_items_6
theorem I118_0 : decode (zB 118) 0 = .ok (.iload_n 2, 1) := dX9_told_0
theorem I118_1 : decode (zB 118) 1 = .ok (.iconst 4, 1) := dX9_told_1
theorem I118_2 : decode (zB 118) 2 = .ok (.if_icmp .ge 10, 3) := dX9_told_2
theorem I118_5 : decode (zB 118) 5 = .ok (.aload_n 0, 1) := dX9_told_5
theorem I118_6 : decode (zB 118) 6 = .ok (.iload_n 1, 1) := dX9_told_6
theorem I118_7 : decode (zB 118) 7 = .ok (.iload_n 2, 1) := dX9_told_7
theorem I118_8 : decode (zB 118) 8 = .ok (.invokevirtual 45, 3) := dX9_told_8
theorem I118_11 : decode (zB 118) 11 = .ok (.ireturn, 1) := dX9_told_11
theorem I118_12 : decode (zB 118) 12 = .ok (.aload_n 0, 1) := dX9_told_12
theorem I118_13 : decode (zB 118) 13 = .ok (.invokevirtual 80, 3) := dX9_told_13
theorem I118_16 : decode (zB 118) 16 = .ok (.aload_n 0, 1) := dX9_told_16
theorem I118_17 : decode (zB 118) 17 = .ok (.invokevirtual 67, 3) := dX9_told_17
theorem I118_20 : decode (zB 118) 20 = .ok (.aload_n 0, 1) := dX9_told_20
theorem I118_21 : decode (zB 118) 21 = .ok (.getfield 25, 3) := dX9_told_21
theorem I118_24 : decode (zB 118) 24 = .ok (.iload_n 1, 1) := dX9_told_24
theorem I118_25 : decode (zB 118) 25 = .ok (.iaload, 1) := dX9_told_25
theorem I118_26 : decode (zB 118) 26 = .ok (.ireturn, 1) := dX9_told_26
theorem I119_0 : decode (zB 119) 0 = .ok (.aload_n 0, 1) := dX9_item_0
theorem I119_1 : decode (zB 119) 1 = .ok (.iload_n 1, 1) := dX9_item_1
theorem I119_2 : decode (zB 119) 2 = .ok (.invokevirtual 100, 3) := dX9_item_2
theorem I119_5 : decode (zB 119) 5 = .ok (.ifCond .eq 21, 3) := dX9_item_5
theorem I119_8 : decode (zB 119) 8 = .ok (.iload_n 2, 1) := dX9_item_8
theorem I119_9 : decode (zB 119) 9 = .ok (.iconst 0, 1) := dX9_item_9
theorem I119_10 : decode (zB 119) 10 = .ok (.iconst 4, 1) := dX9_item_10
theorem I119_11 : decode (zB 119) 11 = .ok (.invokestatic 41, 3) := dX9_item_11
theorem I119_14 : decode (zB 119) 14 = .ok (.ifCond .eq 12, 3) := dX9_item_14
theorem I119_17 : decode (zB 119) 17 = .ok (.aload_n 0, 1) := dX9_item_17
theorem I119_18 : decode (zB 119) 18 = .ok (.iload_n 1, 1) := dX9_item_18
theorem I119_19 : decode (zB 119) 19 = .ok (.iload_n 2, 1) := dX9_item_19
theorem I119_20 : decode (zB 119) 20 = .ok (.invokevirtual 123, 3) := dX9_item_20
theorem I119_23 : decode (zB 119) 23 = .ok (.goto 4, 3) := dX9_item_23
theorem I119_26 : decode (zB 119) 26 = .ok (.iconst (-1), 1) := dX9_item_26
theorem I119_27 : decode (zB 119) 27 = .ok (.ireturn, 1) := dX9_item_27
theorem I120_0 : decode (zB 120) 0 = .ok (.iconst 0, 1) := dX9_itemAt_0
theorem I120_1 : decode (zB 120) 1 = .ok (.istore_n 2, 1) := dX9_itemAt_1
theorem I120_2 : decode (zB 120) 2 = .ok (.iload_n 2, 1) := dX9_itemAt_2
theorem I120_3 : decode (zB 120) 3 = .ok (.aload_n 0, 1) := dX9_itemAt_3
theorem I120_4 : decode (zB 120) 4 = .ok (.getfield 7, 3) := dX9_itemAt_4
theorem I120_7 : decode (zB 120) 7 = .ok (.iconst 3, 1) := dX9_itemAt_7
theorem I120_8 : decode (zB 120) 8 = .ok (.iaload, 1) := dX9_itemAt_8
theorem I120_9 : decode (zB 120) 9 = .ok (.if_icmp .ge 31, 3) := dX9_itemAt_9
theorem I120_12 : decode (zB 120) 12 = .ok (.iload_n 1, 1) := dX9_itemAt_12
theorem I120_13 : decode (zB 120) 13 = .ok (.aload_n 0, 1) := dX9_itemAt_13
theorem I120_14 : decode (zB 120) 14 = .ok (.iload_n 2, 1) := dX9_itemAt_14
theorem I120_15 : decode (zB 120) 15 = .ok (.iconst 1, 1) := dX9_itemAt_15
theorem I120_16 : decode (zB 120) 16 = .ok (.invokevirtual 45, 3) := dX9_itemAt_16
theorem I120_19 : decode (zB 120) 19 = .ok (.aload_n 0, 1) := dX9_itemAt_19
theorem I120_20 : decode (zB 120) 20 = .ok (.iload_n 2, 1) := dX9_itemAt_20
theorem I120_21 : decode (zB 120) 21 = .ok (.invokevirtual 70, 3) := dX9_itemAt_21
theorem I120_24 : decode (zB 120) 24 = .ok (.iconst 1, 1) := dX9_itemAt_24
theorem I120_25 : decode (zB 120) 25 = .ok (.isub, 1) := dX9_itemAt_25
theorem I120_26 : decode (zB 120) 26 = .ok (.invokestatic 41, 3) := dX9_itemAt_26
theorem I120_29 : decode (zB 120) 29 = .ok (.ifCond .eq 5, 3) := dX9_itemAt_29
theorem I120_32 : decode (zB 120) 32 = .ok (.iload_n 2, 1) := dX9_itemAt_32
theorem I120_33 : decode (zB 120) 33 = .ok (.ireturn, 1) := dX9_itemAt_33
theorem I120_34 : decode (zB 120) 34 = .ok (.iinc 2 1, 3) := dX9_itemAt_34
theorem I120_37 : decode (zB 120) 37 = .ok (.goto (-35), 3) := dX9_itemAt_37
theorem I120_40 : decode (zB 120) 40 = .ok (.bipush (-9), 2) := dX9_itemAt_40
theorem I120_42 : decode (zB 120) 42 = .ok (.ireturn, 1) := dX9_itemAt_42
theorem I121_0 : decode (zB 121) 0 = .ok (.iload_n 1, 1) := dX9_onAir_0
theorem I121_1 : decode (zB 121) 1 = .ok (.iconst 0, 1) := dX9_onAir_1
theorem I121_2 : decode (zB 121) 2 = .ok (.sipush 10079, 3) := dX9_onAir_2
theorem I121_5 : decode (zB 121) 5 = .ok (.invokestatic 41, 3) := dX9_onAir_5
theorem I121_8 : decode (zB 121) 8 = .ok (.ifCond .eq 11, 3) := dX9_onAir_8
theorem I121_11 : decode (zB 121) 11 = .ok (.aload_n 0, 1) := dX9_onAir_11
theorem I121_12 : decode (zB 121) 12 = .ok (.iload_n 1, 1) := dX9_onAir_12
theorem I121_13 : decode (zB 121) 13 = .ok (.invokevirtual 126, 3) := dX9_onAir_13
theorem I121_16 : decode (zB 121) 16 = .ok (.goto 4, 3) := dX9_onAir_16
theorem I121_19 : decode (zB 121) 19 = .ok (.iconst (-1), 1) := dX9_onAir_19
theorem I121_20 : decode (zB 121) 20 = .ok (.ireturn, 1) := dX9_onAir_20
theorem I122_0 : decode (zB 122) 0 = .ok (.aload_n 0, 1) := dX9_leftOf_0
theorem I122_1 : decode (zB 122) 1 = .ok (.invokevirtual 80, 3) := dX9_leftOf_1
theorem I122_4 : decode (zB 122) 4 = .ok (.aload_n 0, 1) := dX9_leftOf_4
theorem I122_5 : decode (zB 122) 5 = .ok (.invokevirtual 67, 3) := dX9_leftOf_5
theorem I122_8 : decode (zB 122) 8 = .ok (.aload_n 0, 1) := dX9_leftOf_8
theorem I122_9 : decode (zB 122) 9 = .ok (.getfield 28, 3) := dX9_leftOf_9
theorem I122_12 : decode (zB 122) 12 = .ok (.iload_n 1, 1) := dX9_leftOf_12
theorem I122_13 : decode (zB 122) 13 = .ok (.iaload, 1) := dX9_leftOf_13
theorem I122_14 : decode (zB 122) 14 = .ok (.ireturn, 1) := dX9_leftOf_14
theorem I123_0 : decode (zB 123) 0 = .ok (.iload_n 1, 1) := dX9_left_0
theorem I123_1 : decode (zB 123) 1 = .ok (.iconst 0, 1) := dX9_left_1
theorem I123_2 : decode (zB 123) 2 = .ok (.aload_n 0, 1) := dX9_left_2
theorem I123_3 : decode (zB 123) 3 = .ok (.getfield 7, 3) := dX9_left_3
theorem I123_6 : decode (zB 123) 6 = .ok (.iconst 2, 1) := dX9_left_6
theorem I123_7 : decode (zB 123) 7 = .ok (.iaload, 1) := dX9_left_7
theorem I123_8 : decode (zB 123) 8 = .ok (.iconst 1, 1) := dX9_left_8
theorem I123_9 : decode (zB 123) 9 = .ok (.isub, 1) := dX9_left_9
theorem I123_10 : decode (zB 123) 10 = .ok (.invokestatic 41, 3) := dX9_left_10
theorem I123_13 : decode (zB 123) 13 = .ok (.ifCond .eq 11, 3) := dX9_left_13
theorem I123_16 : decode (zB 123) 16 = .ok (.aload_n 0, 1) := dX9_left_16
theorem I123_17 : decode (zB 123) 17 = .ok (.iload_n 1, 1) := dX9_left_17
theorem I123_18 : decode (zB 123) 18 = .ok (.invokevirtual 129, 3) := dX9_left_18
theorem I123_21 : decode (zB 123) 21 = .ok (.goto 4, 3) := dX9_left_21
theorem I123_24 : decode (zB 123) 24 = .ok (.iconst (-1), 1) := dX9_left_24
theorem I123_25 : decode (zB 123) 25 = .ok (.ireturn, 1) := dX9_left_25
theorem I124_0 : decode (zB 124) 0 = .ok (.aload_n 0, 1) := dX9_mayPlace_0
theorem I124_1 : decode (zB 124) 1 = .ok (.iload_n 1, 1) := dX9_mayPlace_1
theorem I124_2 : decode (zB 124) 2 = .ok (.invokevirtual 52, 3) := dX9_mayPlace_2
theorem I124_5 : decode (zB 124) 5 = .ok (.ifCond .eq 23, 3) := dX9_mayPlace_5
theorem I124_8 : decode (zB 124) 8 = .ok (.iload_n 2, 1) := dX9_mayPlace_8
theorem I124_9 : decode (zB 124) 9 = .ok (.iconst 0, 1) := dX9_mayPlace_9
theorem I124_10 : decode (zB 124) 10 = .ok (.sipush 10079, 3) := dX9_mayPlace_10
theorem I124_13 : decode (zB 124) 13 = .ok (.invokestatic 41, 3) := dX9_mayPlace_13
theorem I124_16 : decode (zB 124) 16 = .ok (.ifCond .eq 12, 3) := dX9_mayPlace_16
theorem I124_19 : decode (zB 124) 19 = .ok (.aload_n 0, 1) := dX9_mayPlace_19
theorem I124_20 : decode (zB 124) 20 = .ok (.iload_n 1, 1) := dX9_mayPlace_20
theorem I124_21 : decode (zB 124) 21 = .ok (.iload_n 2, 1) := dX9_mayPlace_21
theorem I124_22 : decode (zB 124) 22 = .ok (.invokevirtual 93, 3) := dX9_mayPlace_22
theorem I124_25 : decode (zB 124) 25 = .ok (.goto 4, 3) := dX9_mayPlace_25
theorem I124_28 : decode (zB 124) 28 = .ok (.iconst (-1), 1) := dX9_mayPlace_28
theorem I124_29 : decode (zB 124) 29 = .ok (.ireturn, 1) := dX9_mayPlace_29
theorem I125_0 : decode (zB 125) 0 = .ok (.aload_n 0, 1) := dX9_owed_0
theorem I125_1 : decode (zB 125) 1 = .ok (.iload_n 1, 1) := dX9_owed_1
theorem I125_2 : decode (zB 125) 2 = .ok (.invokevirtual 52, 3) := dX9_owed_2
theorem I125_5 : decode (zB 125) 5 = .ok (.ifCond .eq 19, 3) := dX9_owed_5
theorem I125_8 : decode (zB 125) 8 = .ok (.aload_n 0, 1) := dX9_owed_8
theorem I125_9 : decode (zB 125) 9 = .ok (.getfield 7, 3) := dX9_owed_9
theorem I125_12 : decode (zB 125) 12 = .ok (.bipush 10, 2) := dX9_owed_12
theorem I125_14 : decode (zB 125) 14 = .ok (.iconst 4, 1) := dX9_owed_14
theorem I125_15 : decode (zB 125) 15 = .ok (.iload_n 1, 1) := dX9_owed_15
theorem I125_16 : decode (zB 125) 16 = .ok (.imul, 1) := dX9_owed_16
theorem I125_17 : decode (zB 125) 17 = .ok (.iadd, 1) := dX9_owed_17
theorem I125_18 : decode (zB 125) 18 = .ok (.iconst 3, 1) := dX9_owed_18
theorem I125_19 : decode (zB 125) 19 = .ok (.iadd, 1) := dX9_owed_19
theorem I125_20 : decode (zB 125) 20 = .ok (.iaload, 1) := dX9_owed_20
theorem I125_21 : decode (zB 125) 21 = .ok (.goto 4, 3) := dX9_owed_21
theorem I125_24 : decode (zB 125) 24 = .ok (.iconst (-1), 1) := dX9_owed_24
theorem I125_25 : decode (zB 125) 25 = .ok (.ireturn, 1) := dX9_owed_25
theorem I126_0 : decode (zB 126) 0 = .ok (.iload_n 0, 1) := dX9_isSpan_0
theorem I126_1 : decode (zB 126) 1 = .ok (.iconst 0, 1) := dX9_isSpan_1
theorem I126_2 : decode (zB 126) 2 = .ok (.sipush 10079, 3) := dX9_isSpan_2
theorem I126_5 : decode (zB 126) 5 = .ok (.invokestatic 41, 3) := dX9_isSpan_5
theorem I126_8 : decode (zB 126) 8 = .ok (.ifCond .eq 20, 3) := dX9_isSpan_8
theorem I126_11 : decode (zB 126) 11 = .ok (.iload_n 1, 1) := dX9_isSpan_11
theorem I126_12 : decode (zB 126) 12 = .ok (.iload_n 0, 1) := dX9_isSpan_12
theorem I126_13 : decode (zB 126) 13 = .ok (.iconst 1, 1) := dX9_isSpan_13
theorem I126_14 : decode (zB 126) 14 = .ok (.iadd, 1) := dX9_isSpan_14
theorem I126_15 : decode (zB 126) 15 = .ok (.sipush 10080, 3) := dX9_isSpan_15
theorem I126_18 : decode (zB 126) 18 = .ok (.invokestatic 41, 3) := dX9_isSpan_18
theorem I126_21 : decode (zB 126) 21 = .ok (.ifCond .eq 7, 3) := dX9_isSpan_21
theorem I126_24 : decode (zB 126) 24 = .ok (.iconst 1, 1) := dX9_isSpan_24
theorem I126_25 : decode (zB 126) 25 = .ok (.goto 4, 3) := dX9_isSpan_25
theorem I126_28 : decode (zB 126) 28 = .ok (.iconst 0, 1) := dX9_isSpan_28
theorem I126_29 : decode (zB 126) 29 = .ok (.ireturn, 1) := dX9_isSpan_29
theorem I127_0 : decode (zB 127) 0 = .ok (.iload_n 1, 1) := dX9_minutes_0
theorem I127_1 : decode (zB 127) 1 = .ok (.iconst 0, 1) := dX9_minutes_1
theorem I127_2 : decode (zB 127) 2 = .ok (.iconst 4, 1) := dX9_minutes_2
theorem I127_3 : decode (zB 127) 3 = .ok (.invokestatic 41, 3) := dX9_minutes_3
theorem I127_6 : decode (zB 127) 6 = .ok (.ifCond .eq 11, 3) := dX9_minutes_6
theorem I127_9 : decode (zB 127) 9 = .ok (.iload_n 2, 1) := dX9_minutes_9
theorem I127_10 : decode (zB 127) 10 = .ok (.iload_n 3, 1) := dX9_minutes_10
theorem I127_11 : decode (zB 127) 11 = .ok (.invokestatic 132, 3) := dX9_minutes_11
theorem I127_14 : decode (zB 127) 14 = .ok (.ifCond .ne 5, 3) := dX9_minutes_14
theorem I127_17 : decode (zB 127) 17 = .ok (.iconst (-1), 1) := dX9_minutes_17
theorem I127_18 : decode (zB 127) 18 = .ok (.ireturn, 1) := dX9_minutes_18
theorem I127_19 : decode (zB 127) 19 = .ok (.iload_n 1, 1) := dX9_minutes_19
theorem I127_20 : decode (zB 127) 20 = .ok (.iconst 4, 1) := dX9_minutes_20
theorem I127_21 : decode (zB 127) 21 = .ok (.if_icmp .ne 9, 3) := dX9_minutes_21
theorem I127_24 : decode (zB 127) 24 = .ok (.iload_n 3, 1) := dX9_minutes_24
theorem I127_25 : decode (zB 127) 25 = .ok (.iload_n 2, 1) := dX9_minutes_25
theorem I127_26 : decode (zB 127) 26 = .ok (.isub, 1) := dX9_minutes_26
theorem I127_27 : decode (zB 127) 27 = .ok (.goto 4, 3) := dX9_minutes_27
theorem I127_30 : decode (zB 127) 30 = .ok (.iconst 0, 1) := dX9_minutes_30
theorem I127_31 : decode (zB 127) 31 = .ok (.istore 4, 2) := dX9_minutes_31
theorem I127_33 : decode (zB 127) 33 = .ok (.iconst 0, 1) := dX9_minutes_33
theorem I127_34 : decode (zB 127) 34 = .ok (.istore 5, 2) := dX9_minutes_34
theorem I127_36 : decode (zB 127) 36 = .ok (.iload 5, 2) := dX9_minutes_36
theorem I127_38 : decode (zB 127) 38 = .ok (.aload_n 0, 1) := dX9_minutes_38
theorem I127_39 : decode (zB 127) 39 = .ok (.getfield 7, 3) := dX9_minutes_39
theorem I127_42 : decode (zB 127) 42 = .ok (.iconst 3, 1) := dX9_minutes_42
theorem I127_43 : decode (zB 127) 43 = .ok (.iaload, 1) := dX9_minutes_43
theorem I127_44 : decode (zB 127) 44 = .ok (.if_icmp .ge 110, 3) := dX9_minutes_44
theorem I127_47 : decode (zB 127) 47 = .ok (.aload_n 0, 1) := dX9_minutes_47
theorem I127_48 : decode (zB 127) 48 = .ok (.iload 5, 2) := dX9_minutes_48
theorem I127_50 : decode (zB 127) 50 = .ok (.iconst 1, 1) := dX9_minutes_50
theorem I127_51 : decode (zB 127) 51 = .ok (.invokevirtual 45, 3) := dX9_minutes_51
theorem I127_54 : decode (zB 127) 54 = .ok (.iload_n 2, 1) := dX9_minutes_54
theorem I127_55 : decode (zB 127) 55 = .ok (.if_icmp .le 13, 3) := dX9_minutes_55
theorem I127_58 : decode (zB 127) 58 = .ok (.aload_n 0, 1) := dX9_minutes_58
theorem I127_59 : decode (zB 127) 59 = .ok (.iload 5, 2) := dX9_minutes_59
theorem I127_61 : decode (zB 127) 61 = .ok (.iconst 1, 1) := dX9_minutes_61
theorem I127_62 : decode (zB 127) 62 = .ok (.invokevirtual 45, 3) := dX9_minutes_62
theorem I127_65 : decode (zB 127) 65 = .ok (.goto 4, 3) := dX9_minutes_65
theorem I127_68 : decode (zB 127) 68 = .ok (.iload_n 2, 1) := dX9_minutes_68
theorem I127_69 : decode (zB 127) 69 = .ok (.istore 6, 2) := dX9_minutes_69
theorem I127_71 : decode (zB 127) 71 = .ok (.aload_n 0, 1) := dX9_minutes_71
theorem I127_72 : decode (zB 127) 72 = .ok (.iload 5, 2) := dX9_minutes_72
theorem I127_74 : decode (zB 127) 74 = .ok (.invokevirtual 70, 3) := dX9_minutes_74
theorem I127_77 : decode (zB 127) 77 = .ok (.iload_n 3, 1) := dX9_minutes_77
theorem I127_78 : decode (zB 127) 78 = .ok (.if_icmp .ge 12, 3) := dX9_minutes_78
theorem I127_81 : decode (zB 127) 81 = .ok (.aload_n 0, 1) := dX9_minutes_81
theorem I127_82 : decode (zB 127) 82 = .ok (.iload 5, 2) := dX9_minutes_82
theorem I127_84 : decode (zB 127) 84 = .ok (.invokevirtual 70, 3) := dX9_minutes_84
theorem I127_87 : decode (zB 127) 87 = .ok (.goto 4, 3) := dX9_minutes_87
theorem I127_90 : decode (zB 127) 90 = .ok (.iload_n 3, 1) := dX9_minutes_90
theorem I127_91 : decode (zB 127) 91 = .ok (.istore 7, 2) := dX9_minutes_91
theorem I127_93 : decode (zB 127) 93 = .ok (.iload 7, 2) := dX9_minutes_93
theorem I127_95 : decode (zB 127) 95 = .ok (.iload 6, 2) := dX9_minutes_95
theorem I127_97 : decode (zB 127) 97 = .ok (.if_icmp .le 11, 3) := dX9_minutes_97
theorem I127_100 : decode (zB 127) 100 = .ok (.iload 7, 2) := dX9_minutes_100
theorem I127_102 : decode (zB 127) 102 = .ok (.iload 6, 2) := dX9_minutes_102
theorem I127_104 : decode (zB 127) 104 = .ok (.isub, 1) := dX9_minutes_104
theorem I127_105 : decode (zB 127) 105 = .ok (.goto 4, 3) := dX9_minutes_105
theorem I127_108 : decode (zB 127) 108 = .ok (.iconst 0, 1) := dX9_minutes_108
theorem I127_109 : decode (zB 127) 109 = .ok (.istore 8, 2) := dX9_minutes_109
theorem I127_111 : decode (zB 127) 111 = .ok (.iload 4, 2) := dX9_minutes_111
theorem I127_113 : decode (zB 127) 113 = .ok (.iload_n 1, 1) := dX9_minutes_113
theorem I127_114 : decode (zB 127) 114 = .ok (.iconst 4, 1) := dX9_minutes_114
theorem I127_115 : decode (zB 127) 115 = .ok (.if_icmp .ne 9, 3) := dX9_minutes_115
theorem I127_118 : decode (zB 127) 118 = .ok (.iload 8, 2) := dX9_minutes_118
theorem I127_120 : decode (zB 127) 120 = .ok (.ineg, 1) := dX9_minutes_120
theorem I127_121 : decode (zB 127) 121 = .ok (.goto 24, 3) := dX9_minutes_121
theorem I127_124 : decode (zB 127) 124 = .ok (.aload_n 0, 1) := dX9_minutes_124
theorem I127_125 : decode (zB 127) 125 = .ok (.aload_n 0, 1) := dX9_minutes_125
theorem I127_126 : decode (zB 127) 126 = .ok (.iload 5, 2) := dX9_minutes_126
theorem I127_128 : decode (zB 127) 128 = .ok (.iconst 0, 1) := dX9_minutes_128
theorem I127_129 : decode (zB 127) 129 = .ok (.invokevirtual 45, 3) := dX9_minutes_129
theorem I127_132 : decode (zB 127) 132 = .ok (.invokevirtual 59, 3) := dX9_minutes_132
theorem I127_135 : decode (zB 127) 135 = .ok (.iload_n 1, 1) := dX9_minutes_135
theorem I127_136 : decode (zB 127) 136 = .ok (.if_icmp .ne 8, 3) := dX9_minutes_136
theorem I127_139 : decode (zB 127) 139 = .ok (.iload 8, 2) := dX9_minutes_139
theorem I127_141 : decode (zB 127) 141 = .ok (.goto 4, 3) := dX9_minutes_141
theorem I127_144 : decode (zB 127) 144 = .ok (.iconst 0, 1) := dX9_minutes_144
theorem I127_145 : decode (zB 127) 145 = .ok (.iadd, 1) := dX9_minutes_145
theorem I127_146 : decode (zB 127) 146 = .ok (.istore 4, 2) := dX9_minutes_146
theorem I127_148 : decode (zB 127) 148 = .ok (.iinc 5 1, 3) := dX9_minutes_148
theorem I127_151 : decode (zB 127) 151 = .ok (.goto (-115), 3) := dX9_minutes_151
theorem I127_154 : decode (zB 127) 154 = .ok (.iload 4, 2) := dX9_minutes_154
theorem I127_156 : decode (zB 127) 156 = .ok (.ireturn, 1) := dX9_minutes_156
theorem I128_0 : decode (zB 128) 0 = .ok (.iload_n 1, 1) := dX9_silence_0
theorem I128_1 : decode (zB 128) 1 = .ok (.iload_n 2, 1) := dX9_silence_1
theorem I128_2 : decode (zB 128) 2 = .ok (.invokestatic 132, 3) := dX9_silence_2
theorem I128_5 : decode (zB 128) 5 = .ok (.ifCond .ne 5, 3) := dX9_silence_5
theorem I128_8 : decode (zB 128) 8 = .ok (.iconst (-1), 1) := dX9_silence_8
theorem I128_9 : decode (zB 128) 9 = .ok (.ireturn, 1) := dX9_silence_9
theorem I128_10 : decode (zB 128) 10 = .ok (.iconst 0, 1) := dX9_silence_10
theorem I128_11 : decode (zB 128) 11 = .ok (.istore_n 3, 1) := dX9_silence_11
theorem I128_12 : decode (zB 128) 12 = .ok (.iload_n 1, 1) := dX9_silence_12
theorem I128_13 : decode (zB 128) 13 = .ok (.istore 4, 2) := dX9_silence_13
theorem I128_15 : decode (zB 128) 15 = .ok (.iload_n 1, 1) := dX9_silence_15
theorem I128_16 : decode (zB 128) 16 = .ok (.istore 5, 2) := dX9_silence_16
theorem I128_18 : decode (zB 128) 18 = .ok (.iconst 0, 1) := dX9_silence_18
theorem I128_19 : decode (zB 128) 19 = .ok (.istore 6, 2) := dX9_silence_19
theorem I128_21 : decode (zB 128) 21 = .ok (.iload 6, 2) := dX9_silence_21
theorem I128_23 : decode (zB 128) 23 = .ok (.aload_n 0, 1) := dX9_silence_23
theorem I128_24 : decode (zB 128) 24 = .ok (.getfield 7, 3) := dX9_silence_24
theorem I128_27 : decode (zB 128) 27 = .ok (.iconst 3, 1) := dX9_silence_27
theorem I128_28 : decode (zB 128) 28 = .ok (.iaload, 1) := dX9_silence_28
theorem I128_29 : decode (zB 128) 29 = .ok (.if_icmp .gt 98, 3) := dX9_silence_29
theorem I128_32 : decode (zB 128) 32 = .ok (.iload 6, 2) := dX9_silence_32
theorem I128_34 : decode (zB 128) 34 = .ok (.aload_n 0, 1) := dX9_silence_34
theorem I128_35 : decode (zB 128) 35 = .ok (.getfield 7, 3) := dX9_silence_35
theorem I128_38 : decode (zB 128) 38 = .ok (.iconst 3, 1) := dX9_silence_38
theorem I128_39 : decode (zB 128) 39 = .ok (.iaload, 1) := dX9_silence_39
theorem I128_40 : decode (zB 128) 40 = .ok (.if_icmp .ge 24, 3) := dX9_silence_40
theorem I128_43 : decode (zB 128) 43 = .ok (.aload_n 0, 1) := dX9_silence_43
theorem I128_44 : decode (zB 128) 44 = .ok (.iload 6, 2) := dX9_silence_44
theorem I128_46 : decode (zB 128) 46 = .ok (.iconst 1, 1) := dX9_silence_46
theorem I128_47 : decode (zB 128) 47 = .ok (.invokevirtual 45, 3) := dX9_silence_47
theorem I128_50 : decode (zB 128) 50 = .ok (.iload_n 2, 1) := dX9_silence_50
theorem I128_51 : decode (zB 128) 51 = .ok (.if_icmp .ge 13, 3) := dX9_silence_51
theorem I128_54 : decode (zB 128) 54 = .ok (.aload_n 0, 1) := dX9_silence_54
theorem I128_55 : decode (zB 128) 55 = .ok (.iload 6, 2) := dX9_silence_55
theorem I128_57 : decode (zB 128) 57 = .ok (.iconst 1, 1) := dX9_silence_57
theorem I128_58 : decode (zB 128) 58 = .ok (.invokevirtual 45, 3) := dX9_silence_58
theorem I128_61 : decode (zB 128) 61 = .ok (.goto 4, 3) := dX9_silence_61
theorem I128_64 : decode (zB 128) 64 = .ok (.iload_n 2, 1) := dX9_silence_64
theorem I128_65 : decode (zB 128) 65 = .ok (.istore 7, 2) := dX9_silence_65
theorem I128_67 : decode (zB 128) 67 = .ok (.iload 7, 2) := dX9_silence_67
theorem I128_69 : decode (zB 128) 69 = .ok (.iload 5, 2) := dX9_silence_69
theorem I128_71 : decode (zB 128) 71 = .ok (.isub, 1) := dX9_silence_71
theorem I128_72 : decode (zB 128) 72 = .ok (.iload_n 3, 1) := dX9_silence_72
theorem I128_73 : decode (zB 128) 73 = .ok (.if_icmp .le 13, 3) := dX9_silence_73
theorem I128_76 : decode (zB 128) 76 = .ok (.iload 7, 2) := dX9_silence_76
theorem I128_78 : decode (zB 128) 78 = .ok (.iload 5, 2) := dX9_silence_78
theorem I128_80 : decode (zB 128) 80 = .ok (.isub, 1) := dX9_silence_80
theorem I128_81 : decode (zB 128) 81 = .ok (.istore_n 3, 1) := dX9_silence_81
theorem I128_82 : decode (zB 128) 82 = .ok (.iload 5, 2) := dX9_silence_82
theorem I128_84 : decode (zB 128) 84 = .ok (.istore 4, 2) := dX9_silence_84
theorem I128_86 : decode (zB 128) 86 = .ok (.iload 6, 2) := dX9_silence_86
theorem I128_88 : decode (zB 128) 88 = .ok (.aload_n 0, 1) := dX9_silence_88
theorem I128_89 : decode (zB 128) 89 = .ok (.getfield 7, 3) := dX9_silence_89
theorem I128_92 : decode (zB 128) 92 = .ok (.iconst 3, 1) := dX9_silence_92
theorem I128_93 : decode (zB 128) 93 = .ok (.iaload, 1) := dX9_silence_93
theorem I128_94 : decode (zB 128) 94 = .ok (.if_icmp .ge 23, 3) := dX9_silence_94
theorem I128_97 : decode (zB 128) 97 = .ok (.aload_n 0, 1) := dX9_silence_97
theorem I128_98 : decode (zB 128) 98 = .ok (.iload 6, 2) := dX9_silence_98
theorem I128_100 : decode (zB 128) 100 = .ok (.invokevirtual 70, 3) := dX9_silence_100
theorem I128_103 : decode (zB 128) 103 = .ok (.iload 5, 2) := dX9_silence_103
theorem I128_105 : decode (zB 128) 105 = .ok (.if_icmp .le 12, 3) := dX9_silence_105
theorem I128_108 : decode (zB 128) 108 = .ok (.aload_n 0, 1) := dX9_silence_108
theorem I128_109 : decode (zB 128) 109 = .ok (.iload 6, 2) := dX9_silence_109
theorem I128_111 : decode (zB 128) 111 = .ok (.invokevirtual 70, 3) := dX9_silence_111
theorem I128_114 : decode (zB 128) 114 = .ok (.goto 5, 3) := dX9_silence_114
theorem I128_117 : decode (zB 128) 117 = .ok (.iload 5, 2) := dX9_silence_117
theorem I128_119 : decode (zB 128) 119 = .ok (.istore 5, 2) := dX9_silence_119
theorem I128_121 : decode (zB 128) 121 = .ok (.iinc 6 1, 3) := dX9_silence_121
theorem I128_124 : decode (zB 128) 124 = .ok (.goto (-103), 3) := dX9_silence_124
theorem I128_127 : decode (zB 128) 127 = .ok (.iload_n 3, 1) := dX9_silence_127
theorem I128_128 : decode (zB 128) 128 = .ok (.ifCond .le 14, 3) := dX9_silence_128
theorem I128_131 : decode (zB 128) 131 = .ok (.sipush 10081, 3) := dX9_silence_131
theorem I128_134 : decode (zB 128) 134 = .ok (.iload_n 3, 1) := dX9_silence_134
theorem I128_135 : decode (zB 128) 135 = .ok (.imul, 1) := dX9_silence_135
theorem I128_136 : decode (zB 128) 136 = .ok (.iload 4, 2) := dX9_silence_136
theorem I128_138 : decode (zB 128) 138 = .ok (.iadd, 1) := dX9_silence_138
theorem I128_139 : decode (zB 128) 139 = .ok (.goto 5, 3) := dX9_silence_139
theorem I128_142 : decode (zB 128) 142 = .ok (.bipush (-9), 2) := dX9_silence_142
theorem I128_144 : decode (zB 128) 144 = .ok (.ireturn, 1) := dX9_silence_144
theorem I129_0 : decode (zB 129) 0 = .ok (.iconst 0, 1) := dX9_airTime_0
theorem I129_1 : decode (zB 129) 1 = .ok (.istore_n 2, 1) := dX9_airTime_1
theorem I129_2 : decode (zB 129) 2 = .ok (.iconst 0, 1) := dX9_airTime_2
theorem I129_3 : decode (zB 129) 3 = .ok (.istore_n 3, 1) := dX9_airTime_3
theorem I129_4 : decode (zB 129) 4 = .ok (.iload_n 3, 1) := dX9_airTime_4
theorem I129_5 : decode (zB 129) 5 = .ok (.aload_n 0, 1) := dX9_airTime_5
theorem I129_6 : decode (zB 129) 6 = .ok (.getfield 7, 3) := dX9_airTime_6
theorem I129_9 : decode (zB 129) 9 = .ok (.iconst 3, 1) := dX9_airTime_9
theorem I129_10 : decode (zB 129) 10 = .ok (.iaload, 1) := dX9_airTime_10
theorem I129_11 : decode (zB 129) 11 = .ok (.if_icmp .ge 32, 3) := dX9_airTime_11
theorem I129_14 : decode (zB 129) 14 = .ok (.iload_n 2, 1) := dX9_airTime_14
theorem I129_15 : decode (zB 129) 15 = .ok (.aload_n 0, 1) := dX9_airTime_15
theorem I129_16 : decode (zB 129) 16 = .ok (.iload_n 3, 1) := dX9_airTime_16
theorem I129_17 : decode (zB 129) 17 = .ok (.iconst 0, 1) := dX9_airTime_17
theorem I129_18 : decode (zB 129) 18 = .ok (.invokevirtual 45, 3) := dX9_airTime_18
theorem I129_21 : decode (zB 129) 21 = .ok (.iload_n 1, 1) := dX9_airTime_21
theorem I129_22 : decode (zB 129) 22 = .ok (.if_icmp .ne 12, 3) := dX9_airTime_22
theorem I129_25 : decode (zB 129) 25 = .ok (.aload_n 0, 1) := dX9_airTime_25
theorem I129_26 : decode (zB 129) 26 = .ok (.iload_n 3, 1) := dX9_airTime_26
theorem I129_27 : decode (zB 129) 27 = .ok (.iconst 2, 1) := dX9_airTime_27
theorem I129_28 : decode (zB 129) 28 = .ok (.invokevirtual 45, 3) := dX9_airTime_28
theorem I129_31 : decode (zB 129) 31 = .ok (.goto 4, 3) := dX9_airTime_31
theorem I129_34 : decode (zB 129) 34 = .ok (.iconst 0, 1) := dX9_airTime_34
theorem I129_35 : decode (zB 129) 35 = .ok (.iadd, 1) := dX9_airTime_35
theorem I129_36 : decode (zB 129) 36 = .ok (.istore_n 2, 1) := dX9_airTime_36
theorem I129_37 : decode (zB 129) 37 = .ok (.iinc 3 1, 3) := dX9_airTime_37
theorem I129_40 : decode (zB 129) 40 = .ok (.goto (-36), 3) := dX9_airTime_40
theorem I129_43 : decode (zB 129) 43 = .ok (.iload_n 2, 1) := dX9_airTime_43
theorem I129_44 : decode (zB 129) 44 = .ok (.ireturn, 1) := dX9_airTime_44
theorem I130_0 : decode (zB 130) 0 = .ok (.iload_n 1, 1) := dX9_ranked_0
theorem I130_1 : decode (zB 130) 1 = .ok (.iconst 0, 1) := dX9_ranked_1
theorem I130_2 : decode (zB 130) 2 = .ok (.aload_n 0, 1) := dX9_ranked_2
theorem I130_3 : decode (zB 130) 3 = .ok (.getfield 7, 3) := dX9_ranked_3
theorem I130_6 : decode (zB 130) 6 = .ok (.iconst 0, 1) := dX9_ranked_6
theorem I130_7 : decode (zB 130) 7 = .ok (.iaload, 1) := dX9_ranked_7
theorem I130_8 : decode (zB 130) 8 = .ok (.iconst 1, 1) := dX9_ranked_8
theorem I130_9 : decode (zB 130) 9 = .ok (.isub, 1) := dX9_ranked_9
theorem I130_10 : decode (zB 130) 10 = .ok (.invokestatic 41, 3) := dX9_ranked_10
theorem I130_13 : decode (zB 130) 13 = .ok (.ifCond .ne 5, 3) := dX9_ranked_13
theorem I130_16 : decode (zB 130) 16 = .ok (.iconst (-1), 1) := dX9_ranked_16
theorem I130_17 : decode (zB 130) 17 = .ok (.ireturn, 1) := dX9_ranked_17
theorem I130_18 : decode (zB 130) 18 = .ok (.iconst 0, 1) := dX9_ranked_18
theorem I130_19 : decode (zB 130) 19 = .ok (.istore_n 2, 1) := dX9_ranked_19
theorem I130_20 : decode (zB 130) 20 = .ok (.iload_n 2, 1) := dX9_ranked_20
theorem I130_21 : decode (zB 130) 21 = .ok (.aload_n 0, 1) := dX9_ranked_21
theorem I130_22 : decode (zB 130) 22 = .ok (.getfield 7, 3) := dX9_ranked_22
theorem I130_25 : decode (zB 130) 25 = .ok (.iconst 0, 1) := dX9_ranked_25
theorem I130_26 : decode (zB 130) 26 = .ok (.iaload, 1) := dX9_ranked_26
theorem I130_27 : decode (zB 130) 27 = .ok (.if_icmp .ge 76, 3) := dX9_ranked_27
theorem I130_30 : decode (zB 130) 30 = .ok (.iconst 0, 1) := dX9_ranked_30
theorem I130_31 : decode (zB 130) 31 = .ok (.istore_n 3, 1) := dX9_ranked_31
theorem I130_32 : decode (zB 130) 32 = .ok (.iconst 0, 1) := dX9_ranked_32
theorem I130_33 : decode (zB 130) 33 = .ok (.istore 4, 2) := dX9_ranked_33
theorem I130_35 : decode (zB 130) 35 = .ok (.iload 4, 2) := dX9_ranked_35
theorem I130_37 : decode (zB 130) 37 = .ok (.aload_n 0, 1) := dX9_ranked_37
theorem I130_38 : decode (zB 130) 38 = .ok (.getfield 7, 3) := dX9_ranked_38
theorem I130_41 : decode (zB 130) 41 = .ok (.iconst 0, 1) := dX9_ranked_41
theorem I130_42 : decode (zB 130) 42 = .ok (.iaload, 1) := dX9_ranked_42
theorem I130_43 : decode (zB 130) 43 = .ok (.if_icmp .ge 47, 3) := dX9_ranked_43
theorem I130_46 : decode (zB 130) 46 = .ok (.aload_n 0, 1) := dX9_ranked_46
theorem I130_47 : decode (zB 130) 47 = .ok (.iload 4, 2) := dX9_ranked_47
theorem I130_49 : decode (zB 130) 49 = .ok (.invokevirtual 135, 3) := dX9_ranked_49
theorem I130_52 : decode (zB 130) 52 = .ok (.aload_n 0, 1) := dX9_ranked_52
theorem I130_53 : decode (zB 130) 53 = .ok (.iload_n 2, 1) := dX9_ranked_53
theorem I130_54 : decode (zB 130) 54 = .ok (.invokevirtual 135, 3) := dX9_ranked_54
theorem I130_57 : decode (zB 130) 57 = .ok (.isub, 1) := dX9_ranked_57
theorem I130_58 : decode (zB 130) 58 = .ok (.istore 5, 2) := dX9_ranked_58
theorem I130_60 : decode (zB 130) 60 = .ok (.iload_n 3, 1) := dX9_ranked_60
theorem I130_61 : decode (zB 130) 61 = .ok (.iload 5, 2) := dX9_ranked_61
theorem I130_63 : decode (zB 130) 63 = .ok (.ifCond .gt 14, 3) := dX9_ranked_63
theorem I130_66 : decode (zB 130) 66 = .ok (.iload 5, 2) := dX9_ranked_66
theorem I130_68 : decode (zB 130) 68 = .ok (.ifCond .ne 13, 3) := dX9_ranked_68
theorem I130_71 : decode (zB 130) 71 = .ok (.iload 4, 2) := dX9_ranked_71
theorem I130_73 : decode (zB 130) 73 = .ok (.iload_n 2, 1) := dX9_ranked_73
theorem I130_74 : decode (zB 130) 74 = .ok (.if_icmp .ge 7, 3) := dX9_ranked_74
theorem I130_77 : decode (zB 130) 77 = .ok (.iconst 1, 1) := dX9_ranked_77
theorem I130_78 : decode (zB 130) 78 = .ok (.goto 4, 3) := dX9_ranked_78
theorem I130_81 : decode (zB 130) 81 = .ok (.iconst 0, 1) := dX9_ranked_81
theorem I130_82 : decode (zB 130) 82 = .ok (.iadd, 1) := dX9_ranked_82
theorem I130_83 : decode (zB 130) 83 = .ok (.istore_n 3, 1) := dX9_ranked_83
theorem I130_84 : decode (zB 130) 84 = .ok (.iinc 4 1, 3) := dX9_ranked_84
theorem I130_87 : decode (zB 130) 87 = .ok (.goto (-52), 3) := dX9_ranked_87
theorem I130_90 : decode (zB 130) 90 = .ok (.iload_n 3, 1) := dX9_ranked_90
theorem I130_91 : decode (zB 130) 91 = .ok (.iload_n 1, 1) := dX9_ranked_91
theorem I130_92 : decode (zB 130) 92 = .ok (.if_icmp .ne 5, 3) := dX9_ranked_92
theorem I130_95 : decode (zB 130) 95 = .ok (.iload_n 2, 1) := dX9_ranked_95
theorem I130_96 : decode (zB 130) 96 = .ok (.ireturn, 1) := dX9_ranked_96
theorem I130_97 : decode (zB 130) 97 = .ok (.iinc 2 1, 3) := dX9_ranked_97
theorem I130_100 : decode (zB 130) 100 = .ok (.goto (-80), 3) := dX9_ranked_100
theorem I130_103 : decode (zB 130) 103 = .ok (.bipush (-9), 2) := dX9_ranked_103
theorem I130_105 : decode (zB 130) 105 = .ok (.ireturn, 1) := dX9_ranked_105
theorem I131_0 : decode (zB 131) 0 = .ok (.iconst 0, 1) := dX9_broken_0
theorem I131_1 : decode (zB 131) 1 = .ok (.istore_n 1, 1) := dX9_broken_1
theorem I131_2 : decode (zB 131) 2 = .ok (.iconst 0, 1) := dX9_broken_2
theorem I131_3 : decode (zB 131) 3 = .ok (.istore_n 2, 1) := dX9_broken_3
theorem I131_4 : decode (zB 131) 4 = .ok (.iload_n 2, 1) := dX9_broken_4
theorem I131_5 : decode (zB 131) 5 = .ok (.aload_n 0, 1) := dX9_broken_5
theorem I131_6 : decode (zB 131) 6 = .ok (.getfield 7, 3) := dX9_broken_6
theorem I131_9 : decode (zB 131) 9 = .ok (.iconst 3, 1) := dX9_broken_9
theorem I131_10 : decode (zB 131) 10 = .ok (.iaload, 1) := dX9_broken_10
theorem I131_11 : decode (zB 131) 11 = .ok (.if_icmp .ge 41, 3) := dX9_broken_11
theorem I131_14 : decode (zB 131) 14 = .ok (.iload_n 1, 1) := dX9_broken_14
theorem I131_15 : decode (zB 131) 15 = .ok (.aload_n 0, 1) := dX9_broken_15
theorem I131_16 : decode (zB 131) 16 = .ok (.aload_n 0, 1) := dX9_broken_16
theorem I131_17 : decode (zB 131) 17 = .ok (.iload_n 2, 1) := dX9_broken_17
theorem I131_18 : decode (zB 131) 18 = .ok (.iconst 0, 1) := dX9_broken_18
theorem I131_19 : decode (zB 131) 19 = .ok (.invokevirtual 45, 3) := dX9_broken_19
theorem I131_22 : decode (zB 131) 22 = .ok (.aload_n 0, 1) := dX9_broken_22
theorem I131_23 : decode (zB 131) 23 = .ok (.iload_n 2, 1) := dX9_broken_23
theorem I131_24 : decode (zB 131) 24 = .ok (.iconst 1, 1) := dX9_broken_24
theorem I131_25 : decode (zB 131) 25 = .ok (.invokevirtual 45, 3) := dX9_broken_25
theorem I131_28 : decode (zB 131) 28 = .ok (.aload_n 0, 1) := dX9_broken_28
theorem I131_29 : decode (zB 131) 29 = .ok (.iload_n 2, 1) := dX9_broken_29
theorem I131_30 : decode (zB 131) 30 = .ok (.invokevirtual 70, 3) := dX9_broken_30
theorem I131_33 : decode (zB 131) 33 = .ok (.invokevirtual 90, 3) := dX9_broken_33
theorem I131_36 : decode (zB 131) 36 = .ok (.ifCond .eq 7, 3) := dX9_broken_36
theorem I131_39 : decode (zB 131) 39 = .ok (.iconst 1, 1) := dX9_broken_39
theorem I131_40 : decode (zB 131) 40 = .ok (.goto 4, 3) := dX9_broken_40
theorem I131_43 : decode (zB 131) 43 = .ok (.iconst 0, 1) := dX9_broken_43
theorem I131_44 : decode (zB 131) 44 = .ok (.iadd, 1) := dX9_broken_44
theorem I131_45 : decode (zB 131) 45 = .ok (.istore_n 1, 1) := dX9_broken_45
theorem I131_46 : decode (zB 131) 46 = .ok (.iinc 2 1, 3) := dX9_broken_46
theorem I131_49 : decode (zB 131) 49 = .ok (.goto (-45), 3) := dX9_broken_49
theorem I131_52 : decode (zB 131) 52 = .ok (.iload_n 1, 1) := dX9_broken_52
theorem I131_53 : decode (zB 131) 53 = .ok (.ireturn, 1) := dX9_broken_53
theorem I132_0 : decode (zB 132) 0 = .ok (.aload_n 0, 1) := dX9_signs_0
theorem I132_1 : decode (zB 132) 1 = .ok (.getfield 34, 3) := dX9_signs_1
theorem I132_4 : decode (zB 132) 4 = .ok (.aload_n 0, 1) := dX9_signs_4
theorem I132_5 : decode (zB 132) 5 = .ok (.getfield 138, 3) := dX9_signs_5
theorem I132_8 : decode (zB 132) 8 = .ok (.iload_n 1, 1) := dX9_signs_8
theorem I132_9 : decode (zB 132) 9 = .ok (.iastore, 1) := dX9_signs_9
theorem I132_10 : decode (zB 132) 10 = .ok (.aload_n 0, 1) := dX9_signs_10
theorem I132_11 : decode (zB 132) 11 = .ok (.dup, 1) := dX9_signs_11
theorem I132_12 : decode (zB 132) 12 = .ok (.getfield 138, 3) := dX9_signs_12
theorem I132_15 : decode (zB 132) 15 = .ok (.iconst 1, 1) := dX9_signs_15
theorem I132_16 : decode (zB 132) 16 = .ok (.iadd, 1) := dX9_signs_16
theorem I132_17 : decode (zB 132) 17 = .ok (.putfield 138, 3) := dX9_signs_17
theorem I132_20 : decode (zB 132) 20 = .ok (.return_, 1) := dX9_signs_20
theorem I133_0 : decode (zB 133) 0 = .ok (.iload_n 1, 1) := dX9_number_0
theorem I133_1 : decode (zB 133) 1 = .ok (.sipush 10000, 3) := dX9_number_1
theorem I133_4 : decode (zB 133) 4 = .ok (.if_icmp .lt 15, 3) := dX9_number_4
theorem I133_7 : decode (zB 133) 7 = .ok (.aload_n 0, 1) := dX9_number_7
theorem I133_8 : decode (zB 133) 8 = .ok (.bipush 48, 2) := dX9_number_8
theorem I133_10 : decode (zB 133) 10 = .ok (.iload_n 1, 1) := dX9_number_10
theorem I133_11 : decode (zB 133) 11 = .ok (.sipush 10000, 3) := dX9_number_11
theorem I133_14 : decode (zB 133) 14 = .ok (.idiv, 1) := dX9_number_14
theorem I133_15 : decode (zB 133) 15 = .ok (.iadd, 1) := dX9_number_15
theorem I133_16 : decode (zB 133) 16 = .ok (.invokevirtual 141, 3) := dX9_number_16
theorem I133_19 : decode (zB 133) 19 = .ok (.iload_n 1, 1) := dX9_number_19
theorem I133_20 : decode (zB 133) 20 = .ok (.sipush 1000, 3) := dX9_number_20
theorem I133_23 : decode (zB 133) 23 = .ok (.if_icmp .lt 18, 3) := dX9_number_23
theorem I133_26 : decode (zB 133) 26 = .ok (.aload_n 0, 1) := dX9_number_26
theorem I133_27 : decode (zB 133) 27 = .ok (.bipush 48, 2) := dX9_number_27
theorem I133_29 : decode (zB 133) 29 = .ok (.iload_n 1, 1) := dX9_number_29
theorem I133_30 : decode (zB 133) 30 = .ok (.sipush 1000, 3) := dX9_number_30
theorem I133_33 : decode (zB 133) 33 = .ok (.idiv, 1) := dX9_number_33
theorem I133_34 : decode (zB 133) 34 = .ok (.bipush 10, 2) := dX9_number_34
theorem I133_36 : decode (zB 133) 36 = .ok (.irem, 1) := dX9_number_36
theorem I133_37 : decode (zB 133) 37 = .ok (.iadd, 1) := dX9_number_37
theorem I133_38 : decode (zB 133) 38 = .ok (.invokevirtual 141, 3) := dX9_number_38
theorem I133_41 : decode (zB 133) 41 = .ok (.iload_n 1, 1) := dX9_number_41
theorem I133_42 : decode (zB 133) 42 = .ok (.bipush 100, 2) := dX9_number_42
theorem I133_44 : decode (zB 133) 44 = .ok (.if_icmp .lt 17, 3) := dX9_number_44
theorem I133_47 : decode (zB 133) 47 = .ok (.aload_n 0, 1) := dX9_number_47
theorem I133_48 : decode (zB 133) 48 = .ok (.bipush 48, 2) := dX9_number_48
theorem I133_50 : decode (zB 133) 50 = .ok (.iload_n 1, 1) := dX9_number_50
theorem I133_51 : decode (zB 133) 51 = .ok (.bipush 100, 2) := dX9_number_51
theorem I133_53 : decode (zB 133) 53 = .ok (.idiv, 1) := dX9_number_53
theorem I133_54 : decode (zB 133) 54 = .ok (.bipush 10, 2) := dX9_number_54
theorem I133_56 : decode (zB 133) 56 = .ok (.irem, 1) := dX9_number_56
theorem I133_57 : decode (zB 133) 57 = .ok (.iadd, 1) := dX9_number_57
theorem I133_58 : decode (zB 133) 58 = .ok (.invokevirtual 141, 3) := dX9_number_58
theorem I133_61 : decode (zB 133) 61 = .ok (.iload_n 1, 1) := dX9_number_61
theorem I133_62 : decode (zB 133) 62 = .ok (.bipush 10, 2) := dX9_number_62
theorem I133_64 : decode (zB 133) 64 = .ok (.if_icmp .lt 17, 3) := dX9_number_64
theorem I133_67 : decode (zB 133) 67 = .ok (.aload_n 0, 1) := dX9_number_67
theorem I133_68 : decode (zB 133) 68 = .ok (.bipush 48, 2) := dX9_number_68
theorem I133_70 : decode (zB 133) 70 = .ok (.iload_n 1, 1) := dX9_number_70
theorem I133_71 : decode (zB 133) 71 = .ok (.bipush 10, 2) := dX9_number_71
theorem I133_73 : decode (zB 133) 73 = .ok (.idiv, 1) := dX9_number_73
theorem I133_74 : decode (zB 133) 74 = .ok (.bipush 10, 2) := dX9_number_74
theorem I133_76 : decode (zB 133) 76 = .ok (.irem, 1) := dX9_number_76
theorem I133_77 : decode (zB 133) 77 = .ok (.iadd, 1) := dX9_number_77
theorem I133_78 : decode (zB 133) 78 = .ok (.invokevirtual 141, 3) := dX9_number_78
theorem I133_81 : decode (zB 133) 81 = .ok (.aload_n 0, 1) := dX9_number_81
theorem I133_82 : decode (zB 133) 82 = .ok (.bipush 48, 2) := dX9_number_82
theorem I133_84 : decode (zB 133) 84 = .ok (.iload_n 1, 1) := dX9_number_84
theorem I133_85 : decode (zB 133) 85 = .ok (.bipush 10, 2) := dX9_number_85
theorem I133_87 : decode (zB 133) 87 = .ok (.irem, 1) := dX9_number_87
theorem I133_88 : decode (zB 133) 88 = .ok (.iadd, 1) := dX9_number_88
theorem I133_89 : decode (zB 133) 89 = .ok (.invokevirtual 141, 3) := dX9_number_89
theorem I133_92 : decode (zB 133) 92 = .ok (.return_, 1) := dX9_number_92
theorem I134_0 : decode (zB 134) 0 = .ok (.aload_n 0, 1) := dX9_two_0
theorem I134_1 : decode (zB 134) 1 = .ok (.bipush 48, 2) := dX9_two_1
theorem I134_3 : decode (zB 134) 3 = .ok (.iload_n 1, 1) := dX9_two_3
theorem I134_4 : decode (zB 134) 4 = .ok (.bipush 10, 2) := dX9_two_4
theorem I134_6 : decode (zB 134) 6 = .ok (.idiv, 1) := dX9_two_6
theorem I134_7 : decode (zB 134) 7 = .ok (.iadd, 1) := dX9_two_7
theorem I134_8 : decode (zB 134) 8 = .ok (.invokevirtual 141, 3) := dX9_two_8
theorem I134_11 : decode (zB 134) 11 = .ok (.aload_n 0, 1) := dX9_two_11
theorem I134_12 : decode (zB 134) 12 = .ok (.bipush 48, 2) := dX9_two_12
theorem I134_14 : decode (zB 134) 14 = .ok (.iload_n 1, 1) := dX9_two_14
theorem I134_15 : decode (zB 134) 15 = .ok (.bipush 10, 2) := dX9_two_15
theorem I134_17 : decode (zB 134) 17 = .ok (.irem, 1) := dX9_two_17
theorem I134_18 : decode (zB 134) 18 = .ok (.iadd, 1) := dX9_two_18
theorem I134_19 : decode (zB 134) 19 = .ok (.invokevirtual 141, 3) := dX9_two_19
theorem I134_22 : decode (zB 134) 22 = .ok (.return_, 1) := dX9_two_22
theorem I135_0 : decode (zB 135) 0 = .ok (.aload_n 0, 1) := dX9_line_0
theorem I135_1 : decode (zB 135) 1 = .ok (.iload_n 1, 1) := dX9_line_1
theorem I135_2 : decode (zB 135) 2 = .ok (.invokevirtual 100, 3) := dX9_line_2
theorem I135_5 : decode (zB 135) 5 = .ok (.ifCond .eq 7, 3) := dX9_line_5
theorem I135_8 : decode (zB 135) 8 = .ok (.iload_n 2, 1) := dX9_line_8
theorem I135_9 : decode (zB 135) 9 = .ok (.ifCond .ge 5, 3) := dX9_line_9
theorem I135_12 : decode (zB 135) 12 = .ok (.iconst (-1), 1) := dX9_line_12
theorem I135_13 : decode (zB 135) 13 = .ok (.ireturn, 1) := dX9_line_13
theorem I135_14 : decode (zB 135) 14 = .ok (.aload_n 0, 1) := dX9_line_14
theorem I135_15 : decode (zB 135) 15 = .ok (.iload_n 1, 1) := dX9_line_15
theorem I135_16 : decode (zB 135) 16 = .ok (.iconst 1, 1) := dX9_line_16
theorem I135_17 : decode (zB 135) 17 = .ok (.invokevirtual 45, 3) := dX9_line_17
theorem I135_20 : decode (zB 135) 20 = .ok (.istore_n 3, 1) := dX9_line_20
theorem I135_21 : decode (zB 135) 21 = .ok (.aload_n 0, 1) := dX9_line_21
theorem I135_22 : decode (zB 135) 22 = .ok (.iconst 0, 1) := dX9_line_22
theorem I135_23 : decode (zB 135) 23 = .ok (.putfield 138, 3) := dX9_line_23
theorem I135_26 : decode (zB 135) 26 = .ok (.aload_n 0, 1) := dX9_line_26
theorem I135_27 : decode (zB 135) 27 = .ok (.bipush 48, 2) := dX9_line_27
theorem I135_29 : decode (zB 135) 29 = .ok (.iload_n 3, 1) := dX9_line_29
theorem I135_30 : decode (zB 135) 30 = .ok (.sipush 1440, 3) := dX9_line_30
theorem I135_33 : decode (zB 135) 33 = .ok (.idiv, 1) := dX9_line_33
theorem I135_34 : decode (zB 135) 34 = .ok (.iadd, 1) := dX9_line_34
theorem I135_35 : decode (zB 135) 35 = .ok (.invokevirtual 141, 3) := dX9_line_35
theorem I135_38 : decode (zB 135) 38 = .ok (.aload_n 0, 1) := dX9_line_38
theorem I135_39 : decode (zB 135) 39 = .ok (.bipush 32, 2) := dX9_line_39
theorem I135_41 : decode (zB 135) 41 = .ok (.invokevirtual 141, 3) := dX9_line_41
theorem I135_44 : decode (zB 135) 44 = .ok (.aload_n 0, 1) := dX9_line_44
theorem I135_45 : decode (zB 135) 45 = .ok (.iload_n 3, 1) := dX9_line_45
theorem I135_46 : decode (zB 135) 46 = .ok (.sipush 1440, 3) := dX9_line_46
theorem I135_49 : decode (zB 135) 49 = .ok (.irem, 1) := dX9_line_49
theorem I135_50 : decode (zB 135) 50 = .ok (.bipush 60, 2) := dX9_line_50
theorem I135_52 : decode (zB 135) 52 = .ok (.idiv, 1) := dX9_line_52
theorem I135_53 : decode (zB 135) 53 = .ok (.invokevirtual 143, 3) := dX9_line_53
theorem I135_56 : decode (zB 135) 56 = .ok (.aload_n 0, 1) := dX9_line_56
theorem I135_57 : decode (zB 135) 57 = .ok (.bipush 58, 2) := dX9_line_57
theorem I135_59 : decode (zB 135) 59 = .ok (.invokevirtual 141, 3) := dX9_line_59
theorem I135_62 : decode (zB 135) 62 = .ok (.aload_n 0, 1) := dX9_line_62
theorem I135_63 : decode (zB 135) 63 = .ok (.iload_n 3, 1) := dX9_line_63
theorem I135_64 : decode (zB 135) 64 = .ok (.bipush 60, 2) := dX9_line_64
theorem I135_66 : decode (zB 135) 66 = .ok (.irem, 1) := dX9_line_66
theorem I135_67 : decode (zB 135) 67 = .ok (.invokevirtual 143, 3) := dX9_line_67
theorem I135_70 : decode (zB 135) 70 = .ok (.aload_n 0, 1) := dX9_line_70
theorem I135_71 : decode (zB 135) 71 = .ok (.bipush 32, 2) := dX9_line_71
theorem I135_73 : decode (zB 135) 73 = .ok (.invokevirtual 141, 3) := dX9_line_73
theorem I135_76 : decode (zB 135) 76 = .ok (.aload_n 0, 1) := dX9_line_76
theorem I135_77 : decode (zB 135) 77 = .ok (.bipush 43, 2) := dX9_line_77
theorem I135_79 : decode (zB 135) 79 = .ok (.invokevirtual 141, 3) := dX9_line_79
theorem I135_82 : decode (zB 135) 82 = .ok (.aload_n 0, 1) := dX9_line_82
theorem I135_83 : decode (zB 135) 83 = .ok (.aload_n 0, 1) := dX9_line_83
theorem I135_84 : decode (zB 135) 84 = .ok (.iload_n 1, 1) := dX9_line_84
theorem I135_85 : decode (zB 135) 85 = .ok (.iconst 2, 1) := dX9_line_85
theorem I135_86 : decode (zB 135) 86 = .ok (.invokevirtual 45, 3) := dX9_line_86
theorem I135_89 : decode (zB 135) 89 = .ok (.invokevirtual 146, 3) := dX9_line_89
theorem I135_92 : decode (zB 135) 92 = .ok (.aload_n 0, 1) := dX9_line_92
theorem I135_93 : decode (zB 135) 93 = .ok (.bipush 32, 2) := dX9_line_93
theorem I135_95 : decode (zB 135) 95 = .ok (.invokevirtual 141, 3) := dX9_line_95
theorem I135_98 : decode (zB 135) 98 = .ok (.aload_n 0, 1) := dX9_line_98
theorem I135_99 : decode (zB 135) 99 = .ok (.bipush 80, 2) := dX9_line_99
theorem I135_101 : decode (zB 135) 101 = .ok (.invokevirtual 141, 3) := dX9_line_101
theorem I135_104 : decode (zB 135) 104 = .ok (.aload_n 0, 1) := dX9_line_104
theorem I135_105 : decode (zB 135) 105 = .ok (.aload_n 0, 1) := dX9_line_105
theorem I135_106 : decode (zB 135) 106 = .ok (.iload_n 1, 1) := dX9_line_106
theorem I135_107 : decode (zB 135) 107 = .ok (.iconst 0, 1) := dX9_line_107
theorem I135_108 : decode (zB 135) 108 = .ok (.invokevirtual 45, 3) := dX9_line_108
theorem I135_111 : decode (zB 135) 111 = .ok (.invokevirtual 146, 3) := dX9_line_111
theorem I135_114 : decode (zB 135) 114 = .ok (.aload_n 0, 1) := dX9_line_114
theorem I135_115 : decode (zB 135) 115 = .ok (.iload_n 1, 1) := dX9_line_115
theorem I135_116 : decode (zB 135) 116 = .ok (.iconst 3, 1) := dX9_line_116
theorem I135_117 : decode (zB 135) 117 = .ok (.invokevirtual 45, 3) := dX9_line_117
theorem I135_120 : decode (zB 135) 120 = .ok (.iconst 1, 1) := dX9_line_120
theorem I135_121 : decode (zB 135) 121 = .ok (.if_icmp .ne 9, 3) := dX9_line_121
theorem I135_124 : decode (zB 135) 124 = .ok (.aload_n 0, 1) := dX9_line_124
theorem I135_125 : decode (zB 135) 125 = .ok (.bipush 33, 2) := dX9_line_125
theorem I135_127 : decode (zB 135) 127 = .ok (.invokevirtual 141, 3) := dX9_line_127
theorem I135_130 : decode (zB 135) 130 = .ok (.iload_n 2, 1) := dX9_line_130
theorem I135_131 : decode (zB 135) 131 = .ok (.aload_n 0, 1) := dX9_line_131
theorem I135_132 : decode (zB 135) 132 = .ok (.getfield 138, 3) := dX9_line_132
theorem I135_135 : decode (zB 135) 135 = .ok (.if_icmp .ge 12, 3) := dX9_line_135
theorem I135_138 : decode (zB 135) 138 = .ok (.aload_n 0, 1) := dX9_line_138
theorem I135_139 : decode (zB 135) 139 = .ok (.getfield 34, 3) := dX9_line_139
theorem I135_142 : decode (zB 135) 142 = .ok (.iload_n 2, 1) := dX9_line_142
theorem I135_143 : decode (zB 135) 143 = .ok (.iaload, 1) := dX9_line_143
theorem I135_144 : decode (zB 135) 144 = .ok (.goto 5, 3) := dX9_line_144
theorem I135_147 : decode (zB 135) 147 = .ok (.bipush (-9), 2) := dX9_line_147
theorem I135_149 : decode (zB 135) 149 = .ok (.ireturn, 1) := dX9_line_149
theorem I136_0 : decode (zB 136) 0 = .ok (.aload_n 0, 1) := dX9_undo_0
theorem I136_1 : decode (zB 136) 1 = .ok (.getfield 37, 3) := dX9_undo_1
theorem I136_4 : decode (zB 136) 4 = .ok (.ifCond .ne 6, 3) := dX9_undo_4
theorem I136_7 : decode (zB 136) 7 = .ok (.bipush (-9), 2) := dX9_undo_7
theorem I136_9 : decode (zB 136) 9 = .ok (.ireturn, 1) := dX9_undo_9
theorem I136_10 : decode (zB 136) 10 = .ok (.aload_n 0, 1) := dX9_undo_10
theorem I136_11 : decode (zB 136) 11 = .ok (.dup, 1) := dX9_undo_11
theorem I136_12 : decode (zB 136) 12 = .ok (.getfield 37, 3) := dX9_undo_12
theorem I136_15 : decode (zB 136) 15 = .ok (.iconst 1, 1) := dX9_undo_15
theorem I136_16 : decode (zB 136) 16 = .ok (.isub, 1) := dX9_undo_16
theorem I136_17 : decode (zB 136) 17 = .ok (.putfield 37, 3) := dX9_undo_17
theorem I136_20 : decode (zB 136) 20 = .ok (.iconst 0, 1) := dX9_undo_20
theorem I136_21 : decode (zB 136) 21 = .ok (.istore_n 1, 1) := dX9_undo_21
theorem I136_22 : decode (zB 136) 22 = .ok (.iload_n 1, 1) := dX9_undo_22
theorem I136_23 : decode (zB 136) 23 = .ok (.sipush 480, 3) := dX9_undo_23
theorem I136_26 : decode (zB 136) 26 = .ok (.if_icmp .ge 30, 3) := dX9_undo_26
theorem I136_29 : decode (zB 136) 29 = .ok (.aload_n 0, 1) := dX9_undo_29
theorem I136_30 : decode (zB 136) 30 = .ok (.getfield 7, 3) := dX9_undo_30
theorem I136_33 : decode (zB 136) 33 = .ok (.iload_n 1, 1) := dX9_undo_33
theorem I136_34 : decode (zB 136) 34 = .ok (.aload_n 0, 1) := dX9_undo_34
theorem I136_35 : decode (zB 136) 35 = .ok (.getfield 13, 3) := dX9_undo_35
theorem I136_38 : decode (zB 136) 38 = .ok (.sipush 480, 3) := dX9_undo_38
theorem I136_41 : decode (zB 136) 41 = .ok (.aload_n 0, 1) := dX9_undo_41
theorem I136_42 : decode (zB 136) 42 = .ok (.getfield 37, 3) := dX9_undo_42
theorem I136_45 : decode (zB 136) 45 = .ok (.imul, 1) := dX9_undo_45
theorem I136_46 : decode (zB 136) 46 = .ok (.iload_n 1, 1) := dX9_undo_46
theorem I136_47 : decode (zB 136) 47 = .ok (.iadd, 1) := dX9_undo_47
theorem I136_48 : decode (zB 136) 48 = .ok (.iaload, 1) := dX9_undo_48
theorem I136_49 : decode (zB 136) 49 = .ok (.iastore, 1) := dX9_undo_49
theorem I136_50 : decode (zB 136) 50 = .ok (.iinc 1 1, 3) := dX9_undo_50
theorem I136_53 : decode (zB 136) 53 = .ok (.goto (-31), 3) := dX9_undo_53
theorem I136_56 : decode (zB 136) 56 = .ok (.aload_n 0, 1) := dX9_undo_56
theorem I136_57 : decode (zB 136) 57 = .ok (.getfield 37, 3) := dX9_undo_57
theorem I136_60 : decode (zB 136) 60 = .ok (.ireturn, 1) := dX9_undo_60
theorem I137_0 : decode (zB 137) 0 = .ok (.ldc2_w 149, 3) := dX9_fingerprint_0
theorem I137_3 : decode (zB 137) 3 = .ok (.ldc2_w 149, 3) := dX9_fingerprint_3
theorem I137_6 : decode (zB 137) 6 = .ok (.ldc2_w 151, 3) := dX9_fingerprint_6
theorem I137_9 : decode (zB 137) 9 = .ok (.aload_n 0, 1) := dX9_fingerprint_9
theorem I137_10 : decode (zB 137) 10 = .ok (.getfield 7, 3) := dX9_fingerprint_10
theorem I137_13 : decode (zB 137) 13 = .ok (.iconst 0, 1) := dX9_fingerprint_13
theorem I137_14 : decode (zB 137) 14 = .ok (.iaload, 1) := dX9_fingerprint_14
theorem I137_15 : decode (zB 137) 15 = .ok (.i2l, 1) := dX9_fingerprint_15
theorem I137_16 : decode (zB 137) 16 = .ok (.ladd, 1) := dX9_fingerprint_16
theorem I137_17 : decode (zB 137) 17 = .ok (.lmul, 1) := dX9_fingerprint_17
theorem I137_18 : decode (zB 137) 18 = .ok (.aload_n 0, 1) := dX9_fingerprint_18
theorem I137_19 : decode (zB 137) 19 = .ok (.getfield 7, 3) := dX9_fingerprint_19
theorem I137_22 : decode (zB 137) 22 = .ok (.iconst 2, 1) := dX9_fingerprint_22
theorem I137_23 : decode (zB 137) 23 = .ok (.iaload, 1) := dX9_fingerprint_23
theorem I137_24 : decode (zB 137) 24 = .ok (.i2l, 1) := dX9_fingerprint_24
theorem I137_25 : decode (zB 137) 25 = .ok (.ladd, 1) := dX9_fingerprint_25
theorem I137_26 : decode (zB 137) 26 = .ok (.lmul, 1) := dX9_fingerprint_26
theorem I137_27 : decode (zB 137) 27 = .ok (.aload_n 0, 1) := dX9_fingerprint_27
theorem I137_28 : decode (zB 137) 28 = .ok (.getfield 7, 3) := dX9_fingerprint_28
theorem I137_31 : decode (zB 137) 31 = .ok (.iconst 1, 1) := dX9_fingerprint_31
theorem I137_32 : decode (zB 137) 32 = .ok (.iaload, 1) := dX9_fingerprint_32
theorem I137_33 : decode (zB 137) 33 = .ok (.i2l, 1) := dX9_fingerprint_33
theorem I137_34 : decode (zB 137) 34 = .ok (.ladd, 1) := dX9_fingerprint_34
theorem I137_35 : decode (zB 137) 35 = .ok (.lstore_n 1, 1) := dX9_fingerprint_35
theorem I137_36 : decode (zB 137) 36 = .ok (.ldc2_w 149, 3) := dX9_fingerprint_36
theorem I137_39 : decode (zB 137) 39 = .ok (.lload_n 1, 1) := dX9_fingerprint_39
theorem I137_40 : decode (zB 137) 40 = .ok (.lmul, 1) := dX9_fingerprint_40
theorem I137_41 : decode (zB 137) 41 = .ok (.aload_n 0, 1) := dX9_fingerprint_41
theorem I137_42 : decode (zB 137) 42 = .ok (.getfield 7, 3) := dX9_fingerprint_42
theorem I137_45 : decode (zB 137) 45 = .ok (.iconst 3, 1) := dX9_fingerprint_45
theorem I137_46 : decode (zB 137) 46 = .ok (.iaload, 1) := dX9_fingerprint_46
theorem I137_47 : decode (zB 137) 47 = .ok (.i2l, 1) := dX9_fingerprint_47
theorem I137_48 : decode (zB 137) 48 = .ok (.ladd, 1) := dX9_fingerprint_48
theorem I137_49 : decode (zB 137) 49 = .ok (.lstore_n 1, 1) := dX9_fingerprint_49
theorem I137_50 : decode (zB 137) 50 = .ok (.aload_n 0, 1) := dX9_fingerprint_50
theorem I137_51 : decode (zB 137) 51 = .ok (.invokevirtual 80, 3) := dX9_fingerprint_51
theorem I137_54 : decode (zB 137) 54 = .ok (.aload_n 0, 1) := dX9_fingerprint_54
theorem I137_55 : decode (zB 137) 55 = .ok (.invokevirtual 67, 3) := dX9_fingerprint_55
theorem I137_58 : decode (zB 137) 58 = .ok (.iconst 0, 1) := dX9_fingerprint_58
theorem I137_59 : decode (zB 137) 59 = .ok (.istore_n 3, 1) := dX9_fingerprint_59
theorem I137_60 : decode (zB 137) 60 = .ok (.iload_n 3, 1) := dX9_fingerprint_60
theorem I137_61 : decode (zB 137) 61 = .ok (.aload_n 0, 1) := dX9_fingerprint_61
theorem I137_62 : decode (zB 137) 62 = .ok (.getfield 7, 3) := dX9_fingerprint_62
theorem I137_65 : decode (zB 137) 65 = .ok (.iconst 3, 1) := dX9_fingerprint_65
theorem I137_66 : decode (zB 137) 66 = .ok (.iaload, 1) := dX9_fingerprint_66
theorem I137_67 : decode (zB 137) 67 = .ok (.if_icmp .ge 53, 3) := dX9_fingerprint_67
theorem I137_70 : decode (zB 137) 70 = .ok (.iconst 0, 1) := dX9_fingerprint_70
theorem I137_71 : decode (zB 137) 71 = .ok (.istore 4, 2) := dX9_fingerprint_71
theorem I137_73 : decode (zB 137) 73 = .ok (.iload 4, 2) := dX9_fingerprint_73
theorem I137_75 : decode (zB 137) 75 = .ok (.iconst 4, 1) := dX9_fingerprint_75
theorem I137_76 : decode (zB 137) 76 = .ok (.if_icmp .ge 24, 3) := dX9_fingerprint_76
theorem I137_79 : decode (zB 137) 79 = .ok (.ldc2_w 149, 3) := dX9_fingerprint_79
theorem I137_82 : decode (zB 137) 82 = .ok (.lload_n 1, 1) := dX9_fingerprint_82
theorem I137_83 : decode (zB 137) 83 = .ok (.lmul, 1) := dX9_fingerprint_83
theorem I137_84 : decode (zB 137) 84 = .ok (.aload_n 0, 1) := dX9_fingerprint_84
theorem I137_85 : decode (zB 137) 85 = .ok (.iload_n 3, 1) := dX9_fingerprint_85
theorem I137_86 : decode (zB 137) 86 = .ok (.iload 4, 2) := dX9_fingerprint_86
theorem I137_88 : decode (zB 137) 88 = .ok (.invokevirtual 45, 3) := dX9_fingerprint_88
theorem I137_91 : decode (zB 137) 91 = .ok (.i2l, 1) := dX9_fingerprint_91
theorem I137_92 : decode (zB 137) 92 = .ok (.ladd, 1) := dX9_fingerprint_92
theorem I137_93 : decode (zB 137) 93 = .ok (.lstore_n 1, 1) := dX9_fingerprint_93
theorem I137_94 : decode (zB 137) 94 = .ok (.iinc 4 1, 3) := dX9_fingerprint_94
theorem I137_97 : decode (zB 137) 97 = .ok (.goto (-24), 3) := dX9_fingerprint_97
theorem I137_100 : decode (zB 137) 100 = .ok (.ldc2_w 149, 3) := dX9_fingerprint_100
theorem I137_103 : decode (zB 137) 103 = .ok (.lload_n 1, 1) := dX9_fingerprint_103
theorem I137_104 : decode (zB 137) 104 = .ok (.lmul, 1) := dX9_fingerprint_104
theorem I137_105 : decode (zB 137) 105 = .ok (.aload_n 0, 1) := dX9_fingerprint_105
theorem I137_106 : decode (zB 137) 106 = .ok (.getfield 25, 3) := dX9_fingerprint_106
theorem I137_109 : decode (zB 137) 109 = .ok (.iload_n 3, 1) := dX9_fingerprint_109
theorem I137_110 : decode (zB 137) 110 = .ok (.iaload, 1) := dX9_fingerprint_110
theorem I137_111 : decode (zB 137) 111 = .ok (.i2l, 1) := dX9_fingerprint_111
theorem I137_112 : decode (zB 137) 112 = .ok (.ladd, 1) := dX9_fingerprint_112
theorem I137_113 : decode (zB 137) 113 = .ok (.lstore_n 1, 1) := dX9_fingerprint_113
theorem I137_114 : decode (zB 137) 114 = .ok (.iinc 3 1, 3) := dX9_fingerprint_114
theorem I137_117 : decode (zB 137) 117 = .ok (.goto (-57), 3) := dX9_fingerprint_117
theorem I137_120 : decode (zB 137) 120 = .ok (.iconst 0, 1) := dX9_fingerprint_120
theorem I137_121 : decode (zB 137) 121 = .ok (.istore_n 3, 1) := dX9_fingerprint_121
theorem I137_122 : decode (zB 137) 122 = .ok (.iload_n 3, 1) := dX9_fingerprint_122
theorem I137_123 : decode (zB 137) 123 = .ok (.aload_n 0, 1) := dX9_fingerprint_123
theorem I137_124 : decode (zB 137) 124 = .ok (.getfield 7, 3) := dX9_fingerprint_124
theorem I137_127 : decode (zB 137) 127 = .ok (.iconst 0, 1) := dX9_fingerprint_127
theorem I137_128 : decode (zB 137) 128 = .ok (.iaload, 1) := dX9_fingerprint_128
theorem I137_129 : decode (zB 137) 129 = .ok (.if_icmp .ge 30, 3) := dX9_fingerprint_129
theorem I137_132 : decode (zB 137) 132 = .ok (.ldc2_w 149, 3) := dX9_fingerprint_132
theorem I137_135 : decode (zB 137) 135 = .ok (.lload_n 1, 1) := dX9_fingerprint_135
theorem I137_136 : decode (zB 137) 136 = .ok (.lmul, 1) := dX9_fingerprint_136
theorem I137_137 : decode (zB 137) 137 = .ok (.aload_n 0, 1) := dX9_fingerprint_137
theorem I137_138 : decode (zB 137) 138 = .ok (.getfield 7, 3) := dX9_fingerprint_138
theorem I137_141 : decode (zB 137) 141 = .ok (.bipush 10, 2) := dX9_fingerprint_141
theorem I137_143 : decode (zB 137) 143 = .ok (.iconst 4, 1) := dX9_fingerprint_143
theorem I137_144 : decode (zB 137) 144 = .ok (.iload_n 3, 1) := dX9_fingerprint_144
theorem I137_145 : decode (zB 137) 145 = .ok (.imul, 1) := dX9_fingerprint_145
theorem I137_146 : decode (zB 137) 146 = .ok (.iadd, 1) := dX9_fingerprint_146
theorem I137_147 : decode (zB 137) 147 = .ok (.iconst 3, 1) := dX9_fingerprint_147
theorem I137_148 : decode (zB 137) 148 = .ok (.iadd, 1) := dX9_fingerprint_148
theorem I137_149 : decode (zB 137) 149 = .ok (.iaload, 1) := dX9_fingerprint_149
theorem I137_150 : decode (zB 137) 150 = .ok (.i2l, 1) := dX9_fingerprint_150
theorem I137_151 : decode (zB 137) 151 = .ok (.ladd, 1) := dX9_fingerprint_151
theorem I137_152 : decode (zB 137) 152 = .ok (.lstore_n 1, 1) := dX9_fingerprint_152
theorem I137_153 : decode (zB 137) 153 = .ok (.iinc 3 1, 3) := dX9_fingerprint_153
theorem I137_156 : decode (zB 137) 156 = .ok (.goto (-34), 3) := dX9_fingerprint_156
theorem I137_159 : decode (zB 137) 159 = .ok (.iconst 0, 1) := dX9_fingerprint_159
theorem I137_160 : decode (zB 137) 160 = .ok (.istore_n 3, 1) := dX9_fingerprint_160
theorem I137_161 : decode (zB 137) 161 = .ok (.iload_n 3, 1) := dX9_fingerprint_161
theorem I137_162 : decode (zB 137) 162 = .ok (.aload_n 0, 1) := dX9_fingerprint_162
theorem I137_163 : decode (zB 137) 163 = .ok (.getfield 7, 3) := dX9_fingerprint_163
theorem I137_166 : decode (zB 137) 166 = .ok (.iconst 2, 1) := dX9_fingerprint_166
theorem I137_167 : decode (zB 137) 167 = .ok (.iaload, 1) := dX9_fingerprint_167
theorem I137_168 : decode (zB 137) 168 = .ok (.if_icmp .ge 23, 3) := dX9_fingerprint_168
theorem I137_171 : decode (zB 137) 171 = .ok (.ldc2_w 149, 3) := dX9_fingerprint_171
theorem I137_174 : decode (zB 137) 174 = .ok (.lload_n 1, 1) := dX9_fingerprint_174
theorem I137_175 : decode (zB 137) 175 = .ok (.lmul, 1) := dX9_fingerprint_175
theorem I137_176 : decode (zB 137) 176 = .ok (.aload_n 0, 1) := dX9_fingerprint_176
theorem I137_177 : decode (zB 137) 177 = .ok (.getfield 28, 3) := dX9_fingerprint_177
theorem I137_180 : decode (zB 137) 180 = .ok (.iload_n 3, 1) := dX9_fingerprint_180
theorem I137_181 : decode (zB 137) 181 = .ok (.iaload, 1) := dX9_fingerprint_181
theorem I137_182 : decode (zB 137) 182 = .ok (.i2l, 1) := dX9_fingerprint_182
theorem I137_183 : decode (zB 137) 183 = .ok (.ladd, 1) := dX9_fingerprint_183
theorem I137_184 : decode (zB 137) 184 = .ok (.lstore_n 1, 1) := dX9_fingerprint_184
theorem I137_185 : decode (zB 137) 185 = .ok (.iinc 3 1, 3) := dX9_fingerprint_185
theorem I137_188 : decode (zB 137) 188 = .ok (.goto (-27), 3) := dX9_fingerprint_188
theorem I137_191 : decode (zB 137) 191 = .ok (.lload_n 1, 1) := dX9_fingerprint_191
theorem I137_192 : decode (zB 137) 192 = .ok (.lreturn, 1) := dX9_fingerprint_192
theorem I138_0 : decode (zB 138) 0 = .ok (.new 7, 3) := dL_law_0
theorem I138_3 : decode (zB 138) 3 = .ok (.dup, 1) := dL_law_3
theorem I138_4 : decode (zB 138) 4 = .ok (.invokespecial 9, 3) := dL_law_4
theorem I138_7 : decode (zB 138) 7 = .ok (.astore_n 1, 1) := dL_law_7
theorem I138_8 : decode (zB 138) 8 = .ok (.new 10, 3) := dL_law_8
theorem I138_11 : decode (zB 138) 11 = .ok (.dup, 1) := dL_law_11
theorem I138_12 : decode (zB 138) 12 = .ok (.invokespecial 12, 3) := dL_law_12
theorem I138_15 : decode (zB 138) 15 = .ok (.astore_n 2, 1) := dL_law_15
theorem I138_16 : decode (zB 138) 16 = .ok (.iconst 0, 1) := dL_law_16
theorem I138_17 : decode (zB 138) 17 = .ok (.istore_n 3, 1) := dL_law_17
theorem I138_18 : decode (zB 138) 18 = .ok (.iload_n 3, 1) := dL_law_18
theorem I138_19 : decode (zB 138) 19 = .ok (.aload_n 0, 1) := dL_law_19
theorem I138_20 : decode (zB 138) 20 = .ok (.arraylength, 1) := dL_law_20
theorem I138_21 : decode (zB 138) 21 = .ok (.iconst 5, 1) := dL_law_21
theorem I138_22 : decode (zB 138) 22 = .ok (.isub, 1) := dL_law_22
theorem I138_23 : decode (zB 138) 23 = .ok (.if_icmp .gt 792, 3) := dL_law_23
theorem I138_26 : decode (zB 138) 26 = .ok (.aload_n 0, 1) := dL_law_26
theorem I138_27 : decode (zB 138) 27 = .ok (.iload_n 3, 1) := dL_law_27
theorem I138_28 : decode (zB 138) 28 = .ok (.iaload, 1) := dL_law_28
theorem I138_29 : decode (zB 138) 29 = .ok (.bipush 31, 2) := dL_law_29
theorem I138_31 : decode (zB 138) 31 = .ok (.iand, 1) := dL_law_31
theorem I138_32 : decode (zB 138) 32 = .ok (.tableswitch 777 0 21 #[104, 147, 200, 243, 302, 325, 358, 391, 424, 457, 470, 503, 526, 549, 582, 605, 648, 681, 704, 717, 750, 763], 104) := dL_law_32
theorem I138_136 : decode (zB 138) 136 = .ok (.aload_n 1, 1) := dL_law_136
theorem I138_137 : decode (zB 138) 137 = .ok (.aload_n 0, 1) := dL_law_137
theorem I138_138 : decode (zB 138) 138 = .ok (.iload_n 3, 1) := dL_law_138
theorem I138_139 : decode (zB 138) 139 = .ok (.iconst 1, 1) := dL_law_139
theorem I138_140 : decode (zB 138) 140 = .ok (.iadd, 1) := dL_law_140
theorem I138_141 : decode (zB 138) 141 = .ok (.iaload, 1) := dL_law_141
theorem I138_142 : decode (zB 138) 142 = .ok (.aload_n 0, 1) := dL_law_142
theorem I138_143 : decode (zB 138) 143 = .ok (.iload_n 3, 1) := dL_law_143
theorem I138_144 : decode (zB 138) 144 = .ok (.iconst 2, 1) := dL_law_144
theorem I138_145 : decode (zB 138) 145 = .ok (.iadd, 1) := dL_law_145
theorem I138_146 : decode (zB 138) 146 = .ok (.iaload, 1) := dL_law_146
theorem I138_147 : decode (zB 138) 147 = .ok (.aload_n 0, 1) := dL_law_147
theorem I138_148 : decode (zB 138) 148 = .ok (.iload_n 3, 1) := dL_law_148
theorem I138_149 : decode (zB 138) 149 = .ok (.iconst 3, 1) := dL_law_149
theorem I138_150 : decode (zB 138) 150 = .ok (.iadd, 1) := dL_law_150
theorem I138_151 : decode (zB 138) 151 = .ok (.iaload, 1) := dL_law_151
theorem I138_152 : decode (zB 138) 152 = .ok (.invokevirtual 13, 3) := dL_law_152
theorem I138_155 : decode (zB 138) 155 = .ok (.aload_n 2, 1) := dL_law_155
theorem I138_156 : decode (zB 138) 156 = .ok (.aload_n 0, 1) := dL_law_156
theorem I138_157 : decode (zB 138) 157 = .ok (.iload_n 3, 1) := dL_law_157
theorem I138_158 : decode (zB 138) 158 = .ok (.iconst 1, 1) := dL_law_158
theorem I138_159 : decode (zB 138) 159 = .ok (.iadd, 1) := dL_law_159
theorem I138_160 : decode (zB 138) 160 = .ok (.iaload, 1) := dL_law_160
theorem I138_161 : decode (zB 138) 161 = .ok (.aload_n 0, 1) := dL_law_161
theorem I138_162 : decode (zB 138) 162 = .ok (.iload_n 3, 1) := dL_law_162
theorem I138_163 : decode (zB 138) 163 = .ok (.iconst 2, 1) := dL_law_163
theorem I138_164 : decode (zB 138) 164 = .ok (.iadd, 1) := dL_law_164
theorem I138_165 : decode (zB 138) 165 = .ok (.iaload, 1) := dL_law_165
theorem I138_166 : decode (zB 138) 166 = .ok (.aload_n 0, 1) := dL_law_166
theorem I138_167 : decode (zB 138) 167 = .ok (.iload_n 3, 1) := dL_law_167
theorem I138_168 : decode (zB 138) 168 = .ok (.iconst 3, 1) := dL_law_168
theorem I138_169 : decode (zB 138) 169 = .ok (.iadd, 1) := dL_law_169
theorem I138_170 : decode (zB 138) 170 = .ok (.iaload, 1) := dL_law_170
theorem I138_171 : decode (zB 138) 171 = .ok (.invokevirtual 17, 3) := dL_law_171
theorem I138_174 : decode (zB 138) 174 = .ok (.if_icmp .eq 635, 3) := dL_law_174
theorem I138_177 : decode (zB 138) 177 = .ok (.iconst 0, 1) := dL_law_177
theorem I138_178 : decode (zB 138) 178 = .ok (.ireturn, 1) := dL_law_178
theorem I138_179 : decode (zB 138) 179 = .ok (.aload_n 1, 1) := dL_law_179
theorem I138_180 : decode (zB 138) 180 = .ok (.aload_n 0, 1) := dL_law_180
theorem I138_181 : decode (zB 138) 181 = .ok (.iload_n 3, 1) := dL_law_181
theorem I138_182 : decode (zB 138) 182 = .ok (.iconst 1, 1) := dL_law_182
theorem I138_183 : decode (zB 138) 183 = .ok (.iadd, 1) := dL_law_183
theorem I138_184 : decode (zB 138) 184 = .ok (.iaload, 1) := dL_law_184
theorem I138_185 : decode (zB 138) 185 = .ok (.aload_n 0, 1) := dL_law_185
theorem I138_186 : decode (zB 138) 186 = .ok (.iload_n 3, 1) := dL_law_186
theorem I138_187 : decode (zB 138) 187 = .ok (.iconst 2, 1) := dL_law_187
theorem I138_188 : decode (zB 138) 188 = .ok (.iadd, 1) := dL_law_188
theorem I138_189 : decode (zB 138) 189 = .ok (.iaload, 1) := dL_law_189
theorem I138_190 : decode (zB 138) 190 = .ok (.aload_n 0, 1) := dL_law_190
theorem I138_191 : decode (zB 138) 191 = .ok (.iload_n 3, 1) := dL_law_191
theorem I138_192 : decode (zB 138) 192 = .ok (.iconst 3, 1) := dL_law_192
theorem I138_193 : decode (zB 138) 193 = .ok (.iadd, 1) := dL_law_193
theorem I138_194 : decode (zB 138) 194 = .ok (.iaload, 1) := dL_law_194
theorem I138_195 : decode (zB 138) 195 = .ok (.aload_n 0, 1) := dL_law_195
theorem I138_196 : decode (zB 138) 196 = .ok (.iload_n 3, 1) := dL_law_196
theorem I138_197 : decode (zB 138) 197 = .ok (.iconst 4, 1) := dL_law_197
theorem I138_198 : decode (zB 138) 198 = .ok (.iadd, 1) := dL_law_198
theorem I138_199 : decode (zB 138) 199 = .ok (.iaload, 1) := dL_law_199
theorem I138_200 : decode (zB 138) 200 = .ok (.invokevirtual 18, 3) := dL_law_200
theorem I138_203 : decode (zB 138) 203 = .ok (.aload_n 2, 1) := dL_law_203
theorem I138_204 : decode (zB 138) 204 = .ok (.aload_n 0, 1) := dL_law_204
theorem I138_205 : decode (zB 138) 205 = .ok (.iload_n 3, 1) := dL_law_205
theorem I138_206 : decode (zB 138) 206 = .ok (.iconst 1, 1) := dL_law_206
theorem I138_207 : decode (zB 138) 207 = .ok (.iadd, 1) := dL_law_207
theorem I138_208 : decode (zB 138) 208 = .ok (.iaload, 1) := dL_law_208
theorem I138_209 : decode (zB 138) 209 = .ok (.aload_n 0, 1) := dL_law_209
theorem I138_210 : decode (zB 138) 210 = .ok (.iload_n 3, 1) := dL_law_210
theorem I138_211 : decode (zB 138) 211 = .ok (.iconst 2, 1) := dL_law_211
theorem I138_212 : decode (zB 138) 212 = .ok (.iadd, 1) := dL_law_212
theorem I138_213 : decode (zB 138) 213 = .ok (.iaload, 1) := dL_law_213
theorem I138_214 : decode (zB 138) 214 = .ok (.aload_n 0, 1) := dL_law_214
theorem I138_215 : decode (zB 138) 215 = .ok (.iload_n 3, 1) := dL_law_215
theorem I138_216 : decode (zB 138) 216 = .ok (.iconst 3, 1) := dL_law_216
theorem I138_217 : decode (zB 138) 217 = .ok (.iadd, 1) := dL_law_217
theorem I138_218 : decode (zB 138) 218 = .ok (.iaload, 1) := dL_law_218
theorem I138_219 : decode (zB 138) 219 = .ok (.aload_n 0, 1) := dL_law_219
theorem I138_220 : decode (zB 138) 220 = .ok (.iload_n 3, 1) := dL_law_220
theorem I138_221 : decode (zB 138) 221 = .ok (.iconst 4, 1) := dL_law_221
theorem I138_222 : decode (zB 138) 222 = .ok (.iadd, 1) := dL_law_222
theorem I138_223 : decode (zB 138) 223 = .ok (.iaload, 1) := dL_law_223
theorem I138_224 : decode (zB 138) 224 = .ok (.invokevirtual 22, 3) := dL_law_224
theorem I138_227 : decode (zB 138) 227 = .ok (.if_icmp .eq 582, 3) := dL_law_227
theorem I138_230 : decode (zB 138) 230 = .ok (.iconst 0, 1) := dL_law_230
theorem I138_231 : decode (zB 138) 231 = .ok (.ireturn, 1) := dL_law_231
theorem I138_232 : decode (zB 138) 232 = .ok (.aload_n 1, 1) := dL_law_232
theorem I138_233 : decode (zB 138) 233 = .ok (.aload_n 0, 1) := dL_law_233
theorem I138_234 : decode (zB 138) 234 = .ok (.iload_n 3, 1) := dL_law_234
theorem I138_235 : decode (zB 138) 235 = .ok (.iconst 1, 1) := dL_law_235
theorem I138_236 : decode (zB 138) 236 = .ok (.iadd, 1) := dL_law_236
theorem I138_237 : decode (zB 138) 237 = .ok (.iaload, 1) := dL_law_237
theorem I138_238 : decode (zB 138) 238 = .ok (.aload_n 0, 1) := dL_law_238
theorem I138_239 : decode (zB 138) 239 = .ok (.iload_n 3, 1) := dL_law_239
theorem I138_240 : decode (zB 138) 240 = .ok (.iconst 2, 1) := dL_law_240
theorem I138_241 : decode (zB 138) 241 = .ok (.iadd, 1) := dL_law_241
theorem I138_242 : decode (zB 138) 242 = .ok (.iaload, 1) := dL_law_242
theorem I138_243 : decode (zB 138) 243 = .ok (.aload_n 0, 1) := dL_law_243
theorem I138_244 : decode (zB 138) 244 = .ok (.iload_n 3, 1) := dL_law_244
theorem I138_245 : decode (zB 138) 245 = .ok (.iconst 3, 1) := dL_law_245
theorem I138_246 : decode (zB 138) 246 = .ok (.iadd, 1) := dL_law_246
theorem I138_247 : decode (zB 138) 247 = .ok (.iaload, 1) := dL_law_247
theorem I138_248 : decode (zB 138) 248 = .ok (.invokevirtual 23, 3) := dL_law_248
theorem I138_251 : decode (zB 138) 251 = .ok (.aload_n 2, 1) := dL_law_251
theorem I138_252 : decode (zB 138) 252 = .ok (.aload_n 0, 1) := dL_law_252
theorem I138_253 : decode (zB 138) 253 = .ok (.iload_n 3, 1) := dL_law_253
theorem I138_254 : decode (zB 138) 254 = .ok (.iconst 1, 1) := dL_law_254
theorem I138_255 : decode (zB 138) 255 = .ok (.iadd, 1) := dL_law_255
theorem I138_256 : decode (zB 138) 256 = .ok (.iaload, 1) := dL_law_256
theorem I138_257 : decode (zB 138) 257 = .ok (.aload_n 0, 1) := dL_law_257
theorem I138_258 : decode (zB 138) 258 = .ok (.iload_n 3, 1) := dL_law_258
theorem I138_259 : decode (zB 138) 259 = .ok (.iconst 2, 1) := dL_law_259
theorem I138_260 : decode (zB 138) 260 = .ok (.iadd, 1) := dL_law_260
theorem I138_261 : decode (zB 138) 261 = .ok (.iaload, 1) := dL_law_261
theorem I138_262 : decode (zB 138) 262 = .ok (.aload_n 0, 1) := dL_law_262
theorem I138_263 : decode (zB 138) 263 = .ok (.iload_n 3, 1) := dL_law_263
theorem I138_264 : decode (zB 138) 264 = .ok (.iconst 3, 1) := dL_law_264
theorem I138_265 : decode (zB 138) 265 = .ok (.iadd, 1) := dL_law_265
theorem I138_266 : decode (zB 138) 266 = .ok (.iaload, 1) := dL_law_266
theorem I138_267 : decode (zB 138) 267 = .ok (.invokevirtual 26, 3) := dL_law_267
theorem I138_270 : decode (zB 138) 270 = .ok (.if_icmp .eq 539, 3) := dL_law_270
theorem I138_273 : decode (zB 138) 273 = .ok (.iconst 0, 1) := dL_law_273
theorem I138_274 : decode (zB 138) 274 = .ok (.ireturn, 1) := dL_law_274
theorem I138_275 : decode (zB 138) 275 = .ok (.aload_n 1, 1) := dL_law_275
theorem I138_276 : decode (zB 138) 276 = .ok (.aload_n 0, 1) := dL_law_276
theorem I138_277 : decode (zB 138) 277 = .ok (.iload_n 3, 1) := dL_law_277
theorem I138_278 : decode (zB 138) 278 = .ok (.iconst 1, 1) := dL_law_278
theorem I138_279 : decode (zB 138) 279 = .ok (.iadd, 1) := dL_law_279
theorem I138_280 : decode (zB 138) 280 = .ok (.iaload, 1) := dL_law_280
theorem I138_281 : decode (zB 138) 281 = .ok (.aload_n 0, 1) := dL_law_281
theorem I138_282 : decode (zB 138) 282 = .ok (.iload_n 3, 1) := dL_law_282
theorem I138_283 : decode (zB 138) 283 = .ok (.iconst 2, 1) := dL_law_283
theorem I138_284 : decode (zB 138) 284 = .ok (.iadd, 1) := dL_law_284
theorem I138_285 : decode (zB 138) 285 = .ok (.iaload, 1) := dL_law_285
theorem I138_286 : decode (zB 138) 286 = .ok (.aload_n 0, 1) := dL_law_286
theorem I138_287 : decode (zB 138) 287 = .ok (.iload_n 3, 1) := dL_law_287
theorem I138_288 : decode (zB 138) 288 = .ok (.iconst 3, 1) := dL_law_288
theorem I138_289 : decode (zB 138) 289 = .ok (.iadd, 1) := dL_law_289
theorem I138_290 : decode (zB 138) 290 = .ok (.iaload, 1) := dL_law_290
theorem I138_291 : decode (zB 138) 291 = .ok (.ifCond .eq 7, 3) := dL_law_291
theorem I138_294 : decode (zB 138) 294 = .ok (.iconst 1, 1) := dL_law_294
theorem I138_295 : decode (zB 138) 295 = .ok (.goto 4, 3) := dL_law_295
theorem I138_298 : decode (zB 138) 298 = .ok (.iconst 0, 1) := dL_law_298
theorem I138_299 : decode (zB 138) 299 = .ok (.invokevirtual 27, 3) := dL_law_299
theorem I138_302 : decode (zB 138) 302 = .ok (.aload_n 2, 1) := dL_law_302
theorem I138_303 : decode (zB 138) 303 = .ok (.aload_n 0, 1) := dL_law_303
theorem I138_304 : decode (zB 138) 304 = .ok (.iload_n 3, 1) := dL_law_304
theorem I138_305 : decode (zB 138) 305 = .ok (.iconst 1, 1) := dL_law_305
theorem I138_306 : decode (zB 138) 306 = .ok (.iadd, 1) := dL_law_306
theorem I138_307 : decode (zB 138) 307 = .ok (.iaload, 1) := dL_law_307
theorem I138_308 : decode (zB 138) 308 = .ok (.aload_n 0, 1) := dL_law_308
theorem I138_309 : decode (zB 138) 309 = .ok (.iload_n 3, 1) := dL_law_309
theorem I138_310 : decode (zB 138) 310 = .ok (.iconst 2, 1) := dL_law_310
theorem I138_311 : decode (zB 138) 311 = .ok (.iadd, 1) := dL_law_311
theorem I138_312 : decode (zB 138) 312 = .ok (.iaload, 1) := dL_law_312
theorem I138_313 : decode (zB 138) 313 = .ok (.aload_n 0, 1) := dL_law_313
theorem I138_314 : decode (zB 138) 314 = .ok (.iload_n 3, 1) := dL_law_314
theorem I138_315 : decode (zB 138) 315 = .ok (.iconst 3, 1) := dL_law_315
theorem I138_316 : decode (zB 138) 316 = .ok (.iadd, 1) := dL_law_316
theorem I138_317 : decode (zB 138) 317 = .ok (.iaload, 1) := dL_law_317
theorem I138_318 : decode (zB 138) 318 = .ok (.ifCond .eq 7, 3) := dL_law_318
theorem I138_321 : decode (zB 138) 321 = .ok (.iconst 1, 1) := dL_law_321
theorem I138_322 : decode (zB 138) 322 = .ok (.goto 4, 3) := dL_law_322
theorem I138_325 : decode (zB 138) 325 = .ok (.iconst 0, 1) := dL_law_325
theorem I138_326 : decode (zB 138) 326 = .ok (.invokevirtual 31, 3) := dL_law_326
theorem I138_329 : decode (zB 138) 329 = .ok (.if_icmp .eq 480, 3) := dL_law_329
theorem I138_332 : decode (zB 138) 332 = .ok (.iconst 0, 1) := dL_law_332
theorem I138_333 : decode (zB 138) 333 = .ok (.ireturn, 1) := dL_law_333
theorem I138_334 : decode (zB 138) 334 = .ok (.aload_n 1, 1) := dL_law_334
theorem I138_335 : decode (zB 138) 335 = .ok (.aload_n 0, 1) := dL_law_335
theorem I138_336 : decode (zB 138) 336 = .ok (.iload_n 3, 1) := dL_law_336
theorem I138_337 : decode (zB 138) 337 = .ok (.iconst 1, 1) := dL_law_337
theorem I138_338 : decode (zB 138) 338 = .ok (.iadd, 1) := dL_law_338
theorem I138_339 : decode (zB 138) 339 = .ok (.iaload, 1) := dL_law_339
theorem I138_340 : decode (zB 138) 340 = .ok (.invokevirtual 32, 3) := dL_law_340
theorem I138_343 : decode (zB 138) 343 = .ok (.aload_n 2, 1) := dL_law_343
theorem I138_344 : decode (zB 138) 344 = .ok (.aload_n 0, 1) := dL_law_344
theorem I138_345 : decode (zB 138) 345 = .ok (.iload_n 3, 1) := dL_law_345
theorem I138_346 : decode (zB 138) 346 = .ok (.iconst 1, 1) := dL_law_346
theorem I138_347 : decode (zB 138) 347 = .ok (.iadd, 1) := dL_law_347
theorem I138_348 : decode (zB 138) 348 = .ok (.iaload, 1) := dL_law_348
theorem I138_349 : decode (zB 138) 349 = .ok (.invokevirtual 36, 3) := dL_law_349
theorem I138_352 : decode (zB 138) 352 = .ok (.if_icmp .eq 457, 3) := dL_law_352
theorem I138_355 : decode (zB 138) 355 = .ok (.iconst 0, 1) := dL_law_355
theorem I138_356 : decode (zB 138) 356 = .ok (.ireturn, 1) := dL_law_356
theorem I138_357 : decode (zB 138) 357 = .ok (.aload_n 1, 1) := dL_law_357
theorem I138_358 : decode (zB 138) 358 = .ok (.aload_n 0, 1) := dL_law_358
theorem I138_359 : decode (zB 138) 359 = .ok (.iload_n 3, 1) := dL_law_359
theorem I138_360 : decode (zB 138) 360 = .ok (.iconst 1, 1) := dL_law_360
theorem I138_361 : decode (zB 138) 361 = .ok (.iadd, 1) := dL_law_361
theorem I138_362 : decode (zB 138) 362 = .ok (.iaload, 1) := dL_law_362
theorem I138_363 : decode (zB 138) 363 = .ok (.aload_n 0, 1) := dL_law_363
theorem I138_364 : decode (zB 138) 364 = .ok (.iload_n 3, 1) := dL_law_364
theorem I138_365 : decode (zB 138) 365 = .ok (.iconst 2, 1) := dL_law_365
theorem I138_366 : decode (zB 138) 366 = .ok (.iadd, 1) := dL_law_366
theorem I138_367 : decode (zB 138) 367 = .ok (.iaload, 1) := dL_law_367
theorem I138_368 : decode (zB 138) 368 = .ok (.invokevirtual 37, 3) := dL_law_368
theorem I138_371 : decode (zB 138) 371 = .ok (.aload_n 2, 1) := dL_law_371
theorem I138_372 : decode (zB 138) 372 = .ok (.aload_n 0, 1) := dL_law_372
theorem I138_373 : decode (zB 138) 373 = .ok (.iload_n 3, 1) := dL_law_373
theorem I138_374 : decode (zB 138) 374 = .ok (.iconst 1, 1) := dL_law_374
theorem I138_375 : decode (zB 138) 375 = .ok (.iadd, 1) := dL_law_375
theorem I138_376 : decode (zB 138) 376 = .ok (.iaload, 1) := dL_law_376
theorem I138_377 : decode (zB 138) 377 = .ok (.aload_n 0, 1) := dL_law_377
theorem I138_378 : decode (zB 138) 378 = .ok (.iload_n 3, 1) := dL_law_378
theorem I138_379 : decode (zB 138) 379 = .ok (.iconst 2, 1) := dL_law_379
theorem I138_380 : decode (zB 138) 380 = .ok (.iadd, 1) := dL_law_380
theorem I138_381 : decode (zB 138) 381 = .ok (.iaload, 1) := dL_law_381
theorem I138_382 : decode (zB 138) 382 = .ok (.invokevirtual 41, 3) := dL_law_382
theorem I138_385 : decode (zB 138) 385 = .ok (.if_icmp .eq 424, 3) := dL_law_385
theorem I138_388 : decode (zB 138) 388 = .ok (.iconst 0, 1) := dL_law_388
theorem I138_389 : decode (zB 138) 389 = .ok (.ireturn, 1) := dL_law_389
theorem I138_390 : decode (zB 138) 390 = .ok (.aload_n 1, 1) := dL_law_390
theorem I138_391 : decode (zB 138) 391 = .ok (.aload_n 0, 1) := dL_law_391
theorem I138_392 : decode (zB 138) 392 = .ok (.iload_n 3, 1) := dL_law_392
theorem I138_393 : decode (zB 138) 393 = .ok (.iconst 1, 1) := dL_law_393
theorem I138_394 : decode (zB 138) 394 = .ok (.iadd, 1) := dL_law_394
theorem I138_395 : decode (zB 138) 395 = .ok (.iaload, 1) := dL_law_395
theorem I138_396 : decode (zB 138) 396 = .ok (.aload_n 0, 1) := dL_law_396
theorem I138_397 : decode (zB 138) 397 = .ok (.iload_n 3, 1) := dL_law_397
theorem I138_398 : decode (zB 138) 398 = .ok (.iconst 2, 1) := dL_law_398
theorem I138_399 : decode (zB 138) 399 = .ok (.iadd, 1) := dL_law_399
theorem I138_400 : decode (zB 138) 400 = .ok (.iaload, 1) := dL_law_400
theorem I138_401 : decode (zB 138) 401 = .ok (.invokevirtual 42, 3) := dL_law_401
theorem I138_404 : decode (zB 138) 404 = .ok (.aload_n 2, 1) := dL_law_404
theorem I138_405 : decode (zB 138) 405 = .ok (.aload_n 0, 1) := dL_law_405
theorem I138_406 : decode (zB 138) 406 = .ok (.iload_n 3, 1) := dL_law_406
theorem I138_407 : decode (zB 138) 407 = .ok (.iconst 1, 1) := dL_law_407
theorem I138_408 : decode (zB 138) 408 = .ok (.iadd, 1) := dL_law_408
theorem I138_409 : decode (zB 138) 409 = .ok (.iaload, 1) := dL_law_409
theorem I138_410 : decode (zB 138) 410 = .ok (.aload_n 0, 1) := dL_law_410
theorem I138_411 : decode (zB 138) 411 = .ok (.iload_n 3, 1) := dL_law_411
theorem I138_412 : decode (zB 138) 412 = .ok (.iconst 2, 1) := dL_law_412
theorem I138_413 : decode (zB 138) 413 = .ok (.iadd, 1) := dL_law_413
theorem I138_414 : decode (zB 138) 414 = .ok (.iaload, 1) := dL_law_414
theorem I138_415 : decode (zB 138) 415 = .ok (.invokevirtual 45, 3) := dL_law_415
theorem I138_418 : decode (zB 138) 418 = .ok (.if_icmp .eq 391, 3) := dL_law_418
theorem I138_421 : decode (zB 138) 421 = .ok (.iconst 0, 1) := dL_law_421
theorem I138_422 : decode (zB 138) 422 = .ok (.ireturn, 1) := dL_law_422
theorem I138_423 : decode (zB 138) 423 = .ok (.aload_n 1, 1) := dL_law_423
theorem I138_424 : decode (zB 138) 424 = .ok (.aload_n 0, 1) := dL_law_424
theorem I138_425 : decode (zB 138) 425 = .ok (.iload_n 3, 1) := dL_law_425
theorem I138_426 : decode (zB 138) 426 = .ok (.iconst 1, 1) := dL_law_426
theorem I138_427 : decode (zB 138) 427 = .ok (.iadd, 1) := dL_law_427
theorem I138_428 : decode (zB 138) 428 = .ok (.iaload, 1) := dL_law_428
theorem I138_429 : decode (zB 138) 429 = .ok (.aload_n 0, 1) := dL_law_429
theorem I138_430 : decode (zB 138) 430 = .ok (.iload_n 3, 1) := dL_law_430
theorem I138_431 : decode (zB 138) 431 = .ok (.iconst 2, 1) := dL_law_431
theorem I138_432 : decode (zB 138) 432 = .ok (.iadd, 1) := dL_law_432
theorem I138_433 : decode (zB 138) 433 = .ok (.iaload, 1) := dL_law_433
theorem I138_434 : decode (zB 138) 434 = .ok (.invokevirtual 46, 3) := dL_law_434
theorem I138_437 : decode (zB 138) 437 = .ok (.aload_n 2, 1) := dL_law_437
theorem I138_438 : decode (zB 138) 438 = .ok (.aload_n 0, 1) := dL_law_438
theorem I138_439 : decode (zB 138) 439 = .ok (.iload_n 3, 1) := dL_law_439
theorem I138_440 : decode (zB 138) 440 = .ok (.iconst 1, 1) := dL_law_440
theorem I138_441 : decode (zB 138) 441 = .ok (.iadd, 1) := dL_law_441
theorem I138_442 : decode (zB 138) 442 = .ok (.iaload, 1) := dL_law_442
theorem I138_443 : decode (zB 138) 443 = .ok (.aload_n 0, 1) := dL_law_443
theorem I138_444 : decode (zB 138) 444 = .ok (.iload_n 3, 1) := dL_law_444
theorem I138_445 : decode (zB 138) 445 = .ok (.iconst 2, 1) := dL_law_445
theorem I138_446 : decode (zB 138) 446 = .ok (.iadd, 1) := dL_law_446
theorem I138_447 : decode (zB 138) 447 = .ok (.iaload, 1) := dL_law_447
theorem I138_448 : decode (zB 138) 448 = .ok (.invokevirtual 49, 3) := dL_law_448
theorem I138_451 : decode (zB 138) 451 = .ok (.if_icmp .eq 358, 3) := dL_law_451
theorem I138_454 : decode (zB 138) 454 = .ok (.iconst 0, 1) := dL_law_454
theorem I138_455 : decode (zB 138) 455 = .ok (.ireturn, 1) := dL_law_455
theorem I138_456 : decode (zB 138) 456 = .ok (.aload_n 1, 1) := dL_law_456
theorem I138_457 : decode (zB 138) 457 = .ok (.aload_n 0, 1) := dL_law_457
theorem I138_458 : decode (zB 138) 458 = .ok (.iload_n 3, 1) := dL_law_458
theorem I138_459 : decode (zB 138) 459 = .ok (.iconst 1, 1) := dL_law_459
theorem I138_460 : decode (zB 138) 460 = .ok (.iadd, 1) := dL_law_460
theorem I138_461 : decode (zB 138) 461 = .ok (.iaload, 1) := dL_law_461
theorem I138_462 : decode (zB 138) 462 = .ok (.aload_n 0, 1) := dL_law_462
theorem I138_463 : decode (zB 138) 463 = .ok (.iload_n 3, 1) := dL_law_463
theorem I138_464 : decode (zB 138) 464 = .ok (.iconst 2, 1) := dL_law_464
theorem I138_465 : decode (zB 138) 465 = .ok (.iadd, 1) := dL_law_465
theorem I138_466 : decode (zB 138) 466 = .ok (.iaload, 1) := dL_law_466
theorem I138_467 : decode (zB 138) 467 = .ok (.invokevirtual 50, 3) := dL_law_467
theorem I138_470 : decode (zB 138) 470 = .ok (.aload_n 2, 1) := dL_law_470
theorem I138_471 : decode (zB 138) 471 = .ok (.aload_n 0, 1) := dL_law_471
theorem I138_472 : decode (zB 138) 472 = .ok (.iload_n 3, 1) := dL_law_472
theorem I138_473 : decode (zB 138) 473 = .ok (.iconst 1, 1) := dL_law_473
theorem I138_474 : decode (zB 138) 474 = .ok (.iadd, 1) := dL_law_474
theorem I138_475 : decode (zB 138) 475 = .ok (.iaload, 1) := dL_law_475
theorem I138_476 : decode (zB 138) 476 = .ok (.aload_n 0, 1) := dL_law_476
theorem I138_477 : decode (zB 138) 477 = .ok (.iload_n 3, 1) := dL_law_477
theorem I138_478 : decode (zB 138) 478 = .ok (.iconst 2, 1) := dL_law_478
theorem I138_479 : decode (zB 138) 479 = .ok (.iadd, 1) := dL_law_479
theorem I138_480 : decode (zB 138) 480 = .ok (.iaload, 1) := dL_law_480
theorem I138_481 : decode (zB 138) 481 = .ok (.invokevirtual 53, 3) := dL_law_481
theorem I138_484 : decode (zB 138) 484 = .ok (.if_icmp .eq 325, 3) := dL_law_484
theorem I138_487 : decode (zB 138) 487 = .ok (.iconst 0, 1) := dL_law_487
theorem I138_488 : decode (zB 138) 488 = .ok (.ireturn, 1) := dL_law_488
theorem I138_489 : decode (zB 138) 489 = .ok (.aload_n 1, 1) := dL_law_489
theorem I138_490 : decode (zB 138) 490 = .ok (.invokevirtual 54, 3) := dL_law_490
theorem I138_493 : decode (zB 138) 493 = .ok (.aload_n 2, 1) := dL_law_493
theorem I138_494 : decode (zB 138) 494 = .ok (.invokevirtual 58, 3) := dL_law_494
theorem I138_497 : decode (zB 138) 497 = .ok (.if_icmp .eq 312, 3) := dL_law_497
theorem I138_500 : decode (zB 138) 500 = .ok (.iconst 0, 1) := dL_law_500
theorem I138_501 : decode (zB 138) 501 = .ok (.ireturn, 1) := dL_law_501
theorem I138_502 : decode (zB 138) 502 = .ok (.aload_n 1, 1) := dL_law_502
theorem I138_503 : decode (zB 138) 503 = .ok (.aload_n 0, 1) := dL_law_503
theorem I138_504 : decode (zB 138) 504 = .ok (.iload_n 3, 1) := dL_law_504
theorem I138_505 : decode (zB 138) 505 = .ok (.iconst 1, 1) := dL_law_505
theorem I138_506 : decode (zB 138) 506 = .ok (.iadd, 1) := dL_law_506
theorem I138_507 : decode (zB 138) 507 = .ok (.iaload, 1) := dL_law_507
theorem I138_508 : decode (zB 138) 508 = .ok (.aload_n 0, 1) := dL_law_508
theorem I138_509 : decode (zB 138) 509 = .ok (.iload_n 3, 1) := dL_law_509
theorem I138_510 : decode (zB 138) 510 = .ok (.iconst 2, 1) := dL_law_510
theorem I138_511 : decode (zB 138) 511 = .ok (.iadd, 1) := dL_law_511
theorem I138_512 : decode (zB 138) 512 = .ok (.iaload, 1) := dL_law_512
theorem I138_513 : decode (zB 138) 513 = .ok (.invokevirtual 59, 3) := dL_law_513
theorem I138_516 : decode (zB 138) 516 = .ok (.aload_n 2, 1) := dL_law_516
theorem I138_517 : decode (zB 138) 517 = .ok (.aload_n 0, 1) := dL_law_517
theorem I138_518 : decode (zB 138) 518 = .ok (.iload_n 3, 1) := dL_law_518
theorem I138_519 : decode (zB 138) 519 = .ok (.iconst 1, 1) := dL_law_519
theorem I138_520 : decode (zB 138) 520 = .ok (.iadd, 1) := dL_law_520
theorem I138_521 : decode (zB 138) 521 = .ok (.iaload, 1) := dL_law_521
theorem I138_522 : decode (zB 138) 522 = .ok (.aload_n 0, 1) := dL_law_522
theorem I138_523 : decode (zB 138) 523 = .ok (.iload_n 3, 1) := dL_law_523
theorem I138_524 : decode (zB 138) 524 = .ok (.iconst 2, 1) := dL_law_524
theorem I138_525 : decode (zB 138) 525 = .ok (.iadd, 1) := dL_law_525
theorem I138_526 : decode (zB 138) 526 = .ok (.iaload, 1) := dL_law_526
theorem I138_527 : decode (zB 138) 527 = .ok (.invokevirtual 62, 3) := dL_law_527
theorem I138_530 : decode (zB 138) 530 = .ok (.if_icmp .eq 279, 3) := dL_law_530
theorem I138_533 : decode (zB 138) 533 = .ok (.iconst 0, 1) := dL_law_533
theorem I138_534 : decode (zB 138) 534 = .ok (.ireturn, 1) := dL_law_534
theorem I138_535 : decode (zB 138) 535 = .ok (.aload_n 1, 1) := dL_law_535
theorem I138_536 : decode (zB 138) 536 = .ok (.aload_n 0, 1) := dL_law_536
theorem I138_537 : decode (zB 138) 537 = .ok (.iload_n 3, 1) := dL_law_537
theorem I138_538 : decode (zB 138) 538 = .ok (.iconst 1, 1) := dL_law_538
theorem I138_539 : decode (zB 138) 539 = .ok (.iadd, 1) := dL_law_539
theorem I138_540 : decode (zB 138) 540 = .ok (.iaload, 1) := dL_law_540
theorem I138_541 : decode (zB 138) 541 = .ok (.invokevirtual 63, 3) := dL_law_541
theorem I138_544 : decode (zB 138) 544 = .ok (.aload_n 2, 1) := dL_law_544
theorem I138_545 : decode (zB 138) 545 = .ok (.aload_n 0, 1) := dL_law_545
theorem I138_546 : decode (zB 138) 546 = .ok (.iload_n 3, 1) := dL_law_546
theorem I138_547 : decode (zB 138) 547 = .ok (.iconst 1, 1) := dL_law_547
theorem I138_548 : decode (zB 138) 548 = .ok (.iadd, 1) := dL_law_548
theorem I138_549 : decode (zB 138) 549 = .ok (.iaload, 1) := dL_law_549
theorem I138_550 : decode (zB 138) 550 = .ok (.invokevirtual 66, 3) := dL_law_550
theorem I138_553 : decode (zB 138) 553 = .ok (.if_icmp .eq 256, 3) := dL_law_553
theorem I138_556 : decode (zB 138) 556 = .ok (.iconst 0, 1) := dL_law_556
theorem I138_557 : decode (zB 138) 557 = .ok (.ireturn, 1) := dL_law_557
theorem I138_558 : decode (zB 138) 558 = .ok (.aload_n 1, 1) := dL_law_558
theorem I138_559 : decode (zB 138) 559 = .ok (.aload_n 0, 1) := dL_law_559
theorem I138_560 : decode (zB 138) 560 = .ok (.iload_n 3, 1) := dL_law_560
theorem I138_561 : decode (zB 138) 561 = .ok (.iconst 1, 1) := dL_law_561
theorem I138_562 : decode (zB 138) 562 = .ok (.iadd, 1) := dL_law_562
theorem I138_563 : decode (zB 138) 563 = .ok (.iaload, 1) := dL_law_563
theorem I138_564 : decode (zB 138) 564 = .ok (.invokevirtual 67, 3) := dL_law_564
theorem I138_567 : decode (zB 138) 567 = .ok (.aload_n 2, 1) := dL_law_567
theorem I138_568 : decode (zB 138) 568 = .ok (.aload_n 0, 1) := dL_law_568
theorem I138_569 : decode (zB 138) 569 = .ok (.iload_n 3, 1) := dL_law_569
theorem I138_570 : decode (zB 138) 570 = .ok (.iconst 1, 1) := dL_law_570
theorem I138_571 : decode (zB 138) 571 = .ok (.iadd, 1) := dL_law_571
theorem I138_572 : decode (zB 138) 572 = .ok (.iaload, 1) := dL_law_572
theorem I138_573 : decode (zB 138) 573 = .ok (.invokevirtual 70, 3) := dL_law_573
theorem I138_576 : decode (zB 138) 576 = .ok (.if_icmp .eq 233, 3) := dL_law_576
theorem I138_579 : decode (zB 138) 579 = .ok (.iconst 0, 1) := dL_law_579
theorem I138_580 : decode (zB 138) 580 = .ok (.ireturn, 1) := dL_law_580
theorem I138_581 : decode (zB 138) 581 = .ok (.aload_n 1, 1) := dL_law_581
theorem I138_582 : decode (zB 138) 582 = .ok (.aload_n 0, 1) := dL_law_582
theorem I138_583 : decode (zB 138) 583 = .ok (.iload_n 3, 1) := dL_law_583
theorem I138_584 : decode (zB 138) 584 = .ok (.iconst 1, 1) := dL_law_584
theorem I138_585 : decode (zB 138) 585 = .ok (.iadd, 1) := dL_law_585
theorem I138_586 : decode (zB 138) 586 = .ok (.iaload, 1) := dL_law_586
theorem I138_587 : decode (zB 138) 587 = .ok (.aload_n 0, 1) := dL_law_587
theorem I138_588 : decode (zB 138) 588 = .ok (.iload_n 3, 1) := dL_law_588
theorem I138_589 : decode (zB 138) 589 = .ok (.iconst 2, 1) := dL_law_589
theorem I138_590 : decode (zB 138) 590 = .ok (.iadd, 1) := dL_law_590
theorem I138_591 : decode (zB 138) 591 = .ok (.iaload, 1) := dL_law_591
theorem I138_592 : decode (zB 138) 592 = .ok (.invokevirtual 71, 3) := dL_law_592
theorem I138_595 : decode (zB 138) 595 = .ok (.aload_n 2, 1) := dL_law_595
theorem I138_596 : decode (zB 138) 596 = .ok (.aload_n 0, 1) := dL_law_596
theorem I138_597 : decode (zB 138) 597 = .ok (.iload_n 3, 1) := dL_law_597
theorem I138_598 : decode (zB 138) 598 = .ok (.iconst 1, 1) := dL_law_598
theorem I138_599 : decode (zB 138) 599 = .ok (.iadd, 1) := dL_law_599
theorem I138_600 : decode (zB 138) 600 = .ok (.iaload, 1) := dL_law_600
theorem I138_601 : decode (zB 138) 601 = .ok (.aload_n 0, 1) := dL_law_601
theorem I138_602 : decode (zB 138) 602 = .ok (.iload_n 3, 1) := dL_law_602
theorem I138_603 : decode (zB 138) 603 = .ok (.iconst 2, 1) := dL_law_603
theorem I138_604 : decode (zB 138) 604 = .ok (.iadd, 1) := dL_law_604
theorem I138_605 : decode (zB 138) 605 = .ok (.iaload, 1) := dL_law_605
theorem I138_606 : decode (zB 138) 606 = .ok (.invokevirtual 74, 3) := dL_law_606
theorem I138_609 : decode (zB 138) 609 = .ok (.if_icmp .eq 200, 3) := dL_law_609
theorem I138_612 : decode (zB 138) 612 = .ok (.iconst 0, 1) := dL_law_612
theorem I138_613 : decode (zB 138) 613 = .ok (.ireturn, 1) := dL_law_613
theorem I138_614 : decode (zB 138) 614 = .ok (.aload_n 1, 1) := dL_law_614
theorem I138_615 : decode (zB 138) 615 = .ok (.aload_n 0, 1) := dL_law_615
theorem I138_616 : decode (zB 138) 616 = .ok (.iload_n 3, 1) := dL_law_616
theorem I138_617 : decode (zB 138) 617 = .ok (.iconst 1, 1) := dL_law_617
theorem I138_618 : decode (zB 138) 618 = .ok (.iadd, 1) := dL_law_618
theorem I138_619 : decode (zB 138) 619 = .ok (.iaload, 1) := dL_law_619
theorem I138_620 : decode (zB 138) 620 = .ok (.invokevirtual 75, 3) := dL_law_620
theorem I138_623 : decode (zB 138) 623 = .ok (.aload_n 2, 1) := dL_law_623
theorem I138_624 : decode (zB 138) 624 = .ok (.aload_n 0, 1) := dL_law_624
theorem I138_625 : decode (zB 138) 625 = .ok (.iload_n 3, 1) := dL_law_625
theorem I138_626 : decode (zB 138) 626 = .ok (.iconst 1, 1) := dL_law_626
theorem I138_627 : decode (zB 138) 627 = .ok (.iadd, 1) := dL_law_627
theorem I138_628 : decode (zB 138) 628 = .ok (.iaload, 1) := dL_law_628
theorem I138_629 : decode (zB 138) 629 = .ok (.invokevirtual 78, 3) := dL_law_629
theorem I138_632 : decode (zB 138) 632 = .ok (.if_icmp .eq 177, 3) := dL_law_632
theorem I138_635 : decode (zB 138) 635 = .ok (.iconst 0, 1) := dL_law_635
theorem I138_636 : decode (zB 138) 636 = .ok (.ireturn, 1) := dL_law_636
theorem I138_637 : decode (zB 138) 637 = .ok (.aload_n 1, 1) := dL_law_637
theorem I138_638 : decode (zB 138) 638 = .ok (.aload_n 0, 1) := dL_law_638
theorem I138_639 : decode (zB 138) 639 = .ok (.iload_n 3, 1) := dL_law_639
theorem I138_640 : decode (zB 138) 640 = .ok (.iconst 1, 1) := dL_law_640
theorem I138_641 : decode (zB 138) 641 = .ok (.iadd, 1) := dL_law_641
theorem I138_642 : decode (zB 138) 642 = .ok (.iaload, 1) := dL_law_642
theorem I138_643 : decode (zB 138) 643 = .ok (.aload_n 0, 1) := dL_law_643
theorem I138_644 : decode (zB 138) 644 = .ok (.iload_n 3, 1) := dL_law_644
theorem I138_645 : decode (zB 138) 645 = .ok (.iconst 2, 1) := dL_law_645
theorem I138_646 : decode (zB 138) 646 = .ok (.iadd, 1) := dL_law_646
theorem I138_647 : decode (zB 138) 647 = .ok (.iaload, 1) := dL_law_647
theorem I138_648 : decode (zB 138) 648 = .ok (.aload_n 0, 1) := dL_law_648
theorem I138_649 : decode (zB 138) 649 = .ok (.iload_n 3, 1) := dL_law_649
theorem I138_650 : decode (zB 138) 650 = .ok (.iconst 3, 1) := dL_law_650
theorem I138_651 : decode (zB 138) 651 = .ok (.iadd, 1) := dL_law_651
theorem I138_652 : decode (zB 138) 652 = .ok (.iaload, 1) := dL_law_652
theorem I138_653 : decode (zB 138) 653 = .ok (.invokevirtual 79, 3) := dL_law_653
theorem I138_656 : decode (zB 138) 656 = .ok (.aload_n 2, 1) := dL_law_656
theorem I138_657 : decode (zB 138) 657 = .ok (.aload_n 0, 1) := dL_law_657
theorem I138_658 : decode (zB 138) 658 = .ok (.iload_n 3, 1) := dL_law_658
theorem I138_659 : decode (zB 138) 659 = .ok (.iconst 1, 1) := dL_law_659
theorem I138_660 : decode (zB 138) 660 = .ok (.iadd, 1) := dL_law_660
theorem I138_661 : decode (zB 138) 661 = .ok (.iaload, 1) := dL_law_661
theorem I138_662 : decode (zB 138) 662 = .ok (.aload_n 0, 1) := dL_law_662
theorem I138_663 : decode (zB 138) 663 = .ok (.iload_n 3, 1) := dL_law_663
theorem I138_664 : decode (zB 138) 664 = .ok (.iconst 2, 1) := dL_law_664
theorem I138_665 : decode (zB 138) 665 = .ok (.iadd, 1) := dL_law_665
theorem I138_666 : decode (zB 138) 666 = .ok (.iaload, 1) := dL_law_666
theorem I138_667 : decode (zB 138) 667 = .ok (.aload_n 0, 1) := dL_law_667
theorem I138_668 : decode (zB 138) 668 = .ok (.iload_n 3, 1) := dL_law_668
theorem I138_669 : decode (zB 138) 669 = .ok (.iconst 3, 1) := dL_law_669
theorem I138_670 : decode (zB 138) 670 = .ok (.iadd, 1) := dL_law_670
theorem I138_671 : decode (zB 138) 671 = .ok (.iaload, 1) := dL_law_671
theorem I138_672 : decode (zB 138) 672 = .ok (.invokevirtual 82, 3) := dL_law_672
theorem I138_675 : decode (zB 138) 675 = .ok (.if_icmp .eq 134, 3) := dL_law_675
theorem I138_678 : decode (zB 138) 678 = .ok (.iconst 0, 1) := dL_law_678
theorem I138_679 : decode (zB 138) 679 = .ok (.ireturn, 1) := dL_law_679
theorem I138_680 : decode (zB 138) 680 = .ok (.aload_n 1, 1) := dL_law_680
theorem I138_681 : decode (zB 138) 681 = .ok (.aload_n 0, 1) := dL_law_681
theorem I138_682 : decode (zB 138) 682 = .ok (.iload_n 3, 1) := dL_law_682
theorem I138_683 : decode (zB 138) 683 = .ok (.iconst 1, 1) := dL_law_683
theorem I138_684 : decode (zB 138) 684 = .ok (.iadd, 1) := dL_law_684
theorem I138_685 : decode (zB 138) 685 = .ok (.iaload, 1) := dL_law_685
theorem I138_686 : decode (zB 138) 686 = .ok (.aload_n 0, 1) := dL_law_686
theorem I138_687 : decode (zB 138) 687 = .ok (.iload_n 3, 1) := dL_law_687
theorem I138_688 : decode (zB 138) 688 = .ok (.iconst 2, 1) := dL_law_688
theorem I138_689 : decode (zB 138) 689 = .ok (.iadd, 1) := dL_law_689
theorem I138_690 : decode (zB 138) 690 = .ok (.iaload, 1) := dL_law_690
theorem I138_691 : decode (zB 138) 691 = .ok (.invokevirtual 83, 3) := dL_law_691
theorem I138_694 : decode (zB 138) 694 = .ok (.aload_n 2, 1) := dL_law_694
theorem I138_695 : decode (zB 138) 695 = .ok (.aload_n 0, 1) := dL_law_695
theorem I138_696 : decode (zB 138) 696 = .ok (.iload_n 3, 1) := dL_law_696
theorem I138_697 : decode (zB 138) 697 = .ok (.iconst 1, 1) := dL_law_697
theorem I138_698 : decode (zB 138) 698 = .ok (.iadd, 1) := dL_law_698
theorem I138_699 : decode (zB 138) 699 = .ok (.iaload, 1) := dL_law_699
theorem I138_700 : decode (zB 138) 700 = .ok (.aload_n 0, 1) := dL_law_700
theorem I138_701 : decode (zB 138) 701 = .ok (.iload_n 3, 1) := dL_law_701
theorem I138_702 : decode (zB 138) 702 = .ok (.iconst 2, 1) := dL_law_702
theorem I138_703 : decode (zB 138) 703 = .ok (.iadd, 1) := dL_law_703
theorem I138_704 : decode (zB 138) 704 = .ok (.iaload, 1) := dL_law_704
theorem I138_705 : decode (zB 138) 705 = .ok (.invokevirtual 86, 3) := dL_law_705
theorem I138_708 : decode (zB 138) 708 = .ok (.if_icmp .eq 101, 3) := dL_law_708
theorem I138_711 : decode (zB 138) 711 = .ok (.iconst 0, 1) := dL_law_711
theorem I138_712 : decode (zB 138) 712 = .ok (.ireturn, 1) := dL_law_712
theorem I138_713 : decode (zB 138) 713 = .ok (.aload_n 1, 1) := dL_law_713
theorem I138_714 : decode (zB 138) 714 = .ok (.aload_n 0, 1) := dL_law_714
theorem I138_715 : decode (zB 138) 715 = .ok (.iload_n 3, 1) := dL_law_715
theorem I138_716 : decode (zB 138) 716 = .ok (.iconst 1, 1) := dL_law_716
theorem I138_717 : decode (zB 138) 717 = .ok (.iadd, 1) := dL_law_717
theorem I138_718 : decode (zB 138) 718 = .ok (.iaload, 1) := dL_law_718
theorem I138_719 : decode (zB 138) 719 = .ok (.invokevirtual 87, 3) := dL_law_719
theorem I138_722 : decode (zB 138) 722 = .ok (.aload_n 2, 1) := dL_law_722
theorem I138_723 : decode (zB 138) 723 = .ok (.aload_n 0, 1) := dL_law_723
theorem I138_724 : decode (zB 138) 724 = .ok (.iload_n 3, 1) := dL_law_724
theorem I138_725 : decode (zB 138) 725 = .ok (.iconst 1, 1) := dL_law_725
theorem I138_726 : decode (zB 138) 726 = .ok (.iadd, 1) := dL_law_726
theorem I138_727 : decode (zB 138) 727 = .ok (.iaload, 1) := dL_law_727
theorem I138_728 : decode (zB 138) 728 = .ok (.invokevirtual 90, 3) := dL_law_728
theorem I138_731 : decode (zB 138) 731 = .ok (.if_icmp .eq 78, 3) := dL_law_731
theorem I138_734 : decode (zB 138) 734 = .ok (.iconst 0, 1) := dL_law_734
theorem I138_735 : decode (zB 138) 735 = .ok (.ireturn, 1) := dL_law_735
theorem I138_736 : decode (zB 138) 736 = .ok (.aload_n 1, 1) := dL_law_736
theorem I138_737 : decode (zB 138) 737 = .ok (.invokevirtual 91, 3) := dL_law_737
theorem I138_740 : decode (zB 138) 740 = .ok (.aload_n 2, 1) := dL_law_740
theorem I138_741 : decode (zB 138) 741 = .ok (.invokevirtual 94, 3) := dL_law_741
theorem I138_744 : decode (zB 138) 744 = .ok (.if_icmp .eq 65, 3) := dL_law_744
theorem I138_747 : decode (zB 138) 747 = .ok (.iconst 0, 1) := dL_law_747
theorem I138_748 : decode (zB 138) 748 = .ok (.ireturn, 1) := dL_law_748
theorem I138_749 : decode (zB 138) 749 = .ok (.aload_n 1, 1) := dL_law_749
theorem I138_750 : decode (zB 138) 750 = .ok (.aload_n 0, 1) := dL_law_750
theorem I138_751 : decode (zB 138) 751 = .ok (.iload_n 3, 1) := dL_law_751
theorem I138_752 : decode (zB 138) 752 = .ok (.iconst 1, 1) := dL_law_752
theorem I138_753 : decode (zB 138) 753 = .ok (.iadd, 1) := dL_law_753
theorem I138_754 : decode (zB 138) 754 = .ok (.iaload, 1) := dL_law_754
theorem I138_755 : decode (zB 138) 755 = .ok (.aload_n 0, 1) := dL_law_755
theorem I138_756 : decode (zB 138) 756 = .ok (.iload_n 3, 1) := dL_law_756
theorem I138_757 : decode (zB 138) 757 = .ok (.iconst 2, 1) := dL_law_757
theorem I138_758 : decode (zB 138) 758 = .ok (.iadd, 1) := dL_law_758
theorem I138_759 : decode (zB 138) 759 = .ok (.iaload, 1) := dL_law_759
theorem I138_760 : decode (zB 138) 760 = .ok (.invokevirtual 95, 3) := dL_law_760
theorem I138_763 : decode (zB 138) 763 = .ok (.aload_n 2, 1) := dL_law_763
theorem I138_764 : decode (zB 138) 764 = .ok (.aload_n 0, 1) := dL_law_764
theorem I138_765 : decode (zB 138) 765 = .ok (.iload_n 3, 1) := dL_law_765
theorem I138_766 : decode (zB 138) 766 = .ok (.iconst 1, 1) := dL_law_766
theorem I138_767 : decode (zB 138) 767 = .ok (.iadd, 1) := dL_law_767
theorem I138_768 : decode (zB 138) 768 = .ok (.iaload, 1) := dL_law_768
theorem I138_769 : decode (zB 138) 769 = .ok (.aload_n 0, 1) := dL_law_769
theorem I138_770 : decode (zB 138) 770 = .ok (.iload_n 3, 1) := dL_law_770
theorem I138_771 : decode (zB 138) 771 = .ok (.iconst 2, 1) := dL_law_771
theorem I138_772 : decode (zB 138) 772 = .ok (.iadd, 1) := dL_law_772
theorem I138_773 : decode (zB 138) 773 = .ok (.iaload, 1) := dL_law_773
theorem I138_774 : decode (zB 138) 774 = .ok (.invokevirtual 98, 3) := dL_law_774
theorem I138_777 : decode (zB 138) 777 = .ok (.if_icmp .eq 32, 3) := dL_law_777
theorem I138_780 : decode (zB 138) 780 = .ok (.iconst 0, 1) := dL_law_780
theorem I138_781 : decode (zB 138) 781 = .ok (.ireturn, 1) := dL_law_781
theorem I138_782 : decode (zB 138) 782 = .ok (.aload_n 1, 1) := dL_law_782
theorem I138_783 : decode (zB 138) 783 = .ok (.invokevirtual 99, 3) := dL_law_783
theorem I138_786 : decode (zB 138) 786 = .ok (.aload_n 2, 1) := dL_law_786
theorem I138_787 : decode (zB 138) 787 = .ok (.invokevirtual 102, 3) := dL_law_787
theorem I138_790 : decode (zB 138) 790 = .ok (.if_icmp .eq 19, 3) := dL_law_790
theorem I138_793 : decode (zB 138) 793 = .ok (.iconst 0, 1) := dL_law_793
theorem I138_794 : decode (zB 138) 794 = .ok (.ireturn, 1) := dL_law_794
theorem I138_795 : decode (zB 138) 795 = .ok (.aload_n 1, 1) := dL_law_795
theorem I138_796 : decode (zB 138) 796 = .ok (.invokevirtual 103, 3) := dL_law_796
theorem I138_799 : decode (zB 138) 799 = .ok (.aload_n 2, 1) := dL_law_799
theorem I138_800 : decode (zB 138) 800 = .ok (.invokevirtual 107, 3) := dL_law_800
theorem I138_803 : decode (zB 138) 803 = .ok (.lcmp, 1) := dL_law_803
theorem I138_804 : decode (zB 138) 804 = .ok (.ifCond .eq 5, 3) := dL_law_804
theorem I138_807 : decode (zB 138) 807 = .ok (.iconst 0, 1) := dL_law_807
theorem I138_808 : decode (zB 138) 808 = .ok (.ireturn, 1) := dL_law_808
theorem I138_809 : decode (zB 138) 809 = .ok (.iinc 3 5, 3) := dL_law_809
theorem I138_812 : decode (zB 138) 812 = .ok (.goto (-794), 3) := dL_law_812
theorem I138_815 : decode (zB 138) 815 = .ok (.iconst 1, 1) := dL_law_815
theorem I138_816 : decode (zB 138) 816 = .ok (.ireturn, 1) := dL_law_816
theorem I139_0 : decode (zB 139) 0 = .ok (.aload_n 0, 1) := dJ4_init_da8c8_0
theorem I139_1 : decode (zB 139) 1 = .ok (.bipush 16, 2) := dJ4_init_da8c8_1
theorem I139_3 : decode (zB 139) 3 = .ok (.invokespecial 1, 3) := dJ4_init_da8c8_3
theorem I139_6 : decode (zB 139) 6 = .ok (.return_, 1) := dJ4_init_da8c8_6
theorem I140_0 : decode (zB 140) 0 = .ok (.aload_n 0, 1) := dJ4_append_15ec4_0
theorem I140_1 : decode (zB 140) 1 = .ok (.aload_n 1, 1) := dJ4_append_15ec4_1
theorem I140_2 : decode (zB 140) 2 = .ok (.invokespecial 29, 3) := dJ4_append_15ec4_2
theorem I140_5 : decode (zB 140) 5 = .ok (.pop, 1) := dJ4_append_15ec4_5
theorem I140_6 : decode (zB 140) 6 = .ok (.aload_n 0, 1) := dJ4_append_15ec4_6
theorem I140_7 : decode (zB 140) 7 = .ok (.areturn, 1) := dJ4_append_15ec4_7
theorem I141_0 : decode (zB 141) 0 = .ok (.aload_n 0, 1) := dJ4_append_cf468_0
theorem I141_1 : decode (zB 141) 1 = .ok (.iload_n 1, 1) := dJ4_append_cf468_1
theorem I141_2 : decode (zB 141) 2 = .ok (.invokespecial 50, 3) := dJ4_append_cf468_2
theorem I141_5 : decode (zB 141) 5 = .ok (.pop, 1) := dJ4_append_cf468_5
theorem I141_6 : decode (zB 141) 6 = .ok (.aload_n 0, 1) := dJ4_append_cf468_6
theorem I141_7 : decode (zB 141) 7 = .ok (.areturn, 1) := dJ4_append_cf468_7
theorem I142_0 : decode (zB 142) 0 = .ok (.aload_n 0, 1) := dJ4_append_bf812_0
theorem I142_1 : decode (zB 142) 1 = .ok (.iload_n 1, 1) := dJ4_append_bf812_1
theorem I142_2 : decode (zB 142) 2 = .ok (.invokespecial 53, 3) := dJ4_append_bf812_2
theorem I142_5 : decode (zB 142) 5 = .ok (.pop, 1) := dJ4_append_bf812_5
theorem I142_6 : decode (zB 142) 6 = .ok (.aload_n 0, 1) := dJ4_append_bf812_6
theorem I142_7 : decode (zB 142) 7 = .ok (.areturn, 1) := dJ4_append_bf812_7
theorem I143_0 : decode (zB 143) 0 = .ok (.aload_n 0, 1) := dJ4_charAt_5068e_0
theorem I143_1 : decode (zB 143) 1 = .ok (.iload_n 1, 1) := dJ4_charAt_5068e_1
theorem I143_2 : decode (zB 143) 2 = .ok (.invokespecial 329, 3) := dJ4_charAt_5068e_2
theorem I143_5 : decode (zB 143) 5 = .ok (.ireturn, 1) := dJ4_charAt_5068e_5
theorem I144_0 : decode (zB 144) 0 = .ok (.aload_n 0, 1) := dJ4_setLength_d00df_0
theorem I144_1 : decode (zB 144) 1 = .ok (.iload_n 1, 1) := dJ4_setLength_d00df_1
theorem I144_2 : decode (zB 144) 2 = .ok (.invokespecial 333, 3) := dJ4_setLength_d00df_2
theorem I144_5 : decode (zB 144) 5 = .ok (.return_, 1) := dJ4_setLength_d00df_5
theorem I145_0 : decode (zB 145) 0 = .ok (.aload_n 0, 1) := dJ4_length_8abf5_0
theorem I145_1 : decode (zB 145) 1 = .ok (.invokespecial 343, 3) := dJ4_length_8abf5_1
theorem I145_4 : decode (zB 145) 4 = .ok (.ireturn, 1) := dJ4_length_8abf5_4
theorem I146_0 : decode (zB 146) 0 = .ok (.aload_n 0, 1) := dJ5_init_d00df_0
theorem I146_1 : decode (zB 146) 1 = .ok (.invokespecial 3, 3) := dJ5_init_d00df_1
theorem I146_4 : decode (zB 146) 4 = .ok (.getstatic 18, 3) := dJ5_init_d00df_4
theorem I146_7 : decode (zB 146) 7 = .ok (.ifCond .eq 18, 3) := dJ5_init_d00df_7
theorem I146_10 : decode (zB 146) 10 = .ok (.aload_n 0, 1) := dJ5_init_d00df_10
theorem I146_11 : decode (zB 146) 11 = .ok (.iload_n 1, 1) := dJ5_init_d00df_11
theorem I146_12 : decode (zB 146) 12 = .ok (.newarray .byte, 2) := dJ5_init_d00df_12
theorem I146_14 : decode (zB 146) 14 = .ok (.putfield 15, 3) := dJ5_init_d00df_14
theorem I146_17 : decode (zB 146) 17 = .ok (.aload_n 0, 1) := dJ5_init_d00df_17
theorem I146_18 : decode (zB 146) 18 = .ok (.iconst 0, 1) := dJ5_init_d00df_18
theorem I146_19 : decode (zB 146) 19 = .ok (.putfield 22, 3) := dJ5_init_d00df_19
theorem I146_22 : decode (zB 146) 22 = .ok (.goto 16, 3) := dJ5_init_d00df_22
theorem I146_25 : decode (zB 146) 25 = .ok (.aload_n 0, 1) := dJ5_init_d00df_25
theorem I146_26 : decode (zB 146) 26 = .ok (.iload_n 1, 1) := dJ5_init_d00df_26
theorem I146_27 : decode (zB 146) 27 = .ok (.invokestatic 26, 3) := dJ5_init_d00df_27
theorem I146_30 : decode (zB 146) 30 = .ok (.putfield 15, 3) := dJ5_init_d00df_30
theorem I146_33 : decode (zB 146) 33 = .ok (.aload_n 0, 1) := dJ5_init_d00df_33
theorem I146_34 : decode (zB 146) 34 = .ok (.iconst 1, 1) := dJ5_init_d00df_34
theorem I146_35 : decode (zB 146) 35 = .ok (.putfield 22, 3) := dJ5_init_d00df_35
theorem I146_38 : decode (zB 146) 38 = .ok (.return_, 1) := dJ5_init_d00df_38
theorem I147_0 : decode (zB 147) 0 = .ok (.aload_n 0, 1) := dJ5_length_8abf5_0
theorem I147_1 : decode (zB 147) 1 = .ok (.getfield 79, 3) := dJ5_length_8abf5_1
theorem I147_4 : decode (zB 147) 4 = .ok (.ireturn, 1) := dJ5_length_8abf5_4
theorem I148_0 : decode (zB 148) 0 = .ok (.aload_n 0, 1) := dJ5_ensureCapacityInternal_d00df_0
theorem I148_1 : decode (zB 148) 1 = .ok (.getfield 15, 3) := dJ5_ensureCapacityInternal_d00df_1
theorem I148_4 : decode (zB 148) 4 = .ok (.arraylength, 1) := dJ5_ensureCapacityInternal_d00df_4
theorem I148_5 : decode (zB 148) 5 = .ok (.aload_n 0, 1) := dJ5_ensureCapacityInternal_d00df_5
theorem I148_6 : decode (zB 148) 6 = .ok (.getfield 22, 3) := dJ5_ensureCapacityInternal_d00df_6
theorem I148_9 : decode (zB 148) 9 = .ok (.ishr, 1) := dJ5_ensureCapacityInternal_d00df_9
theorem I148_10 : decode (zB 148) 10 = .ok (.istore_n 2, 1) := dJ5_ensureCapacityInternal_d00df_10
theorem I148_11 : decode (zB 148) 11 = .ok (.iload_n 1, 1) := dJ5_ensureCapacityInternal_d00df_11
theorem I148_12 : decode (zB 148) 12 = .ok (.iload_n 2, 1) := dJ5_ensureCapacityInternal_d00df_12
theorem I148_13 : decode (zB 148) 13 = .ok (.isub, 1) := dJ5_ensureCapacityInternal_d00df_13
theorem I148_14 : decode (zB 148) 14 = .ok (.ifCond .le 24, 3) := dJ5_ensureCapacityInternal_d00df_14
theorem I148_17 : decode (zB 148) 17 = .ok (.aload_n 0, 1) := dJ5_ensureCapacityInternal_d00df_17
theorem I148_18 : decode (zB 148) 18 = .ok (.aload_n 0, 1) := dJ5_ensureCapacityInternal_d00df_18
theorem I148_19 : decode (zB 148) 19 = .ok (.getfield 15, 3) := dJ5_ensureCapacityInternal_d00df_19
theorem I148_22 : decode (zB 148) 22 = .ok (.aload_n 0, 1) := dJ5_ensureCapacityInternal_d00df_22
theorem I148_23 : decode (zB 148) 23 = .ok (.iload_n 1, 1) := dJ5_ensureCapacityInternal_d00df_23
theorem I148_24 : decode (zB 148) 24 = .ok (.invokevirtual 104, 3) := dJ5_ensureCapacityInternal_d00df_24
theorem I148_27 : decode (zB 148) 27 = .ok (.aload_n 0, 1) := dJ5_ensureCapacityInternal_d00df_27
theorem I148_28 : decode (zB 148) 28 = .ok (.getfield 22, 3) := dJ5_ensureCapacityInternal_d00df_28
theorem I148_31 : decode (zB 148) 31 = .ok (.ishl, 1) := dJ5_ensureCapacityInternal_d00df_31
theorem I148_32 : decode (zB 148) 32 = .ok (.invokestatic 108, 3) := dJ5_ensureCapacityInternal_d00df_32
theorem I148_35 : decode (zB 148) 35 = .ok (.putfield 15, 3) := dJ5_ensureCapacityInternal_d00df_35
theorem I148_38 : decode (zB 148) 38 = .ok (.return_, 1) := dJ5_ensureCapacityInternal_d00df_38
theorem I149_0 : decode (zB 149) 0 = .ok (.aload_n 0, 1) := dJ5_newCapacity_0f7a4_0
theorem I149_1 : decode (zB 149) 1 = .ok (.getfield 15, 3) := dJ5_newCapacity_0f7a4_1
theorem I149_4 : decode (zB 149) 4 = .ok (.arraylength, 1) := dJ5_newCapacity_0f7a4_4
theorem I149_5 : decode (zB 149) 5 = .ok (.istore_n 2, 1) := dJ5_newCapacity_0f7a4_5
theorem I149_6 : decode (zB 149) 6 = .ok (.iload_n 1, 1) := dJ5_newCapacity_0f7a4_6
theorem I149_7 : decode (zB 149) 7 = .ok (.aload_n 0, 1) := dJ5_newCapacity_0f7a4_7
theorem I149_8 : decode (zB 149) 8 = .ok (.getfield 22, 3) := dJ5_newCapacity_0f7a4_8
theorem I149_11 : decode (zB 149) 11 = .ok (.ishl, 1) := dJ5_newCapacity_0f7a4_11
theorem I149_12 : decode (zB 149) 12 = .ok (.istore_n 3, 1) := dJ5_newCapacity_0f7a4_12
theorem I149_13 : decode (zB 149) 13 = .ok (.iload_n 3, 1) := dJ5_newCapacity_0f7a4_13
theorem I149_14 : decode (zB 149) 14 = .ok (.iload_n 2, 1) := dJ5_newCapacity_0f7a4_14
theorem I149_15 : decode (zB 149) 15 = .ok (.isub, 1) := dJ5_newCapacity_0f7a4_15
theorem I149_16 : decode (zB 149) 16 = .ok (.istore 4, 2) := dJ5_newCapacity_0f7a4_16
theorem I149_18 : decode (zB 149) 18 = .ok (.iload_n 2, 1) := dJ5_newCapacity_0f7a4_18
theorem I149_19 : decode (zB 149) 19 = .ok (.iload 4, 2) := dJ5_newCapacity_0f7a4_19
theorem I149_21 : decode (zB 149) 21 = .ok (.iload_n 2, 1) := dJ5_newCapacity_0f7a4_21
theorem I149_22 : decode (zB 149) 22 = .ok (.iconst 2, 1) := dJ5_newCapacity_0f7a4_22
theorem I149_23 : decode (zB 149) 23 = .ok (.aload_n 0, 1) := dJ5_newCapacity_0f7a4_23
theorem I149_24 : decode (zB 149) 24 = .ok (.getfield 22, 3) := dJ5_newCapacity_0f7a4_24
theorem I149_27 : decode (zB 149) 27 = .ok (.ishl, 1) := dJ5_newCapacity_0f7a4_27
theorem I149_28 : decode (zB 149) 28 = .ok (.iadd, 1) := dJ5_newCapacity_0f7a4_28
theorem I149_29 : decode (zB 149) 29 = .ok (.invokestatic 114, 3) := dJ5_newCapacity_0f7a4_29
theorem I149_32 : decode (zB 149) 32 = .ok (.istore 5, 2) := dJ5_newCapacity_0f7a4_32
theorem I149_34 : decode (zB 149) 34 = .ok (.iload 5, 2) := dJ5_newCapacity_0f7a4_34
theorem I149_36 : decode (zB 149) 36 = .ok (.ldc 39, 2) := dJ5_newCapacity_0f7a4_36
theorem I149_38 : decode (zB 149) 38 = .ok (.if_icmp .ne 13, 3) := dJ5_newCapacity_0f7a4_38
theorem I149_41 : decode (zB 149) 41 = .ok (.new 120, 3) := dJ5_newCapacity_0f7a4_41
theorem I149_44 : decode (zB 149) 44 = .ok (.dup, 1) := dJ5_newCapacity_0f7a4_44
theorem I149_45 : decode (zB 149) 45 = .ok (.ldc 122, 2) := dJ5_newCapacity_0f7a4_45
theorem I149_47 : decode (zB 149) 47 = .ok (.invokespecial 124, 3) := dJ5_newCapacity_0f7a4_47
theorem I149_50 : decode (zB 149) 50 = .ok (.athrow, 1) := dJ5_newCapacity_0f7a4_50
theorem I149_51 : decode (zB 149) 51 = .ok (.iload 5, 2) := dJ5_newCapacity_0f7a4_51
theorem I149_53 : decode (zB 149) 53 = .ok (.aload_n 0, 1) := dJ5_newCapacity_0f7a4_53
theorem I149_54 : decode (zB 149) 54 = .ok (.getfield 22, 3) := dJ5_newCapacity_0f7a4_54
theorem I149_57 : decode (zB 149) 57 = .ok (.ishr, 1) := dJ5_newCapacity_0f7a4_57
theorem I149_58 : decode (zB 149) 58 = .ok (.ireturn, 1) := dJ5_newCapacity_0f7a4_58
theorem I150_0 : decode (zB 150) 0 = .ok (.iload_n 1, 1) := dJ5_setLength_d00df_0
theorem I150_1 : decode (zB 150) 1 = .ok (.ifCond .ge 12, 3) := dJ5_setLength_d00df_1
theorem I150_4 : decode (zB 150) 4 = .ok (.new 129, 3) := dJ5_setLength_d00df_4
theorem I150_7 : decode (zB 150) 7 = .ok (.dup, 1) := dJ5_setLength_d00df_7
theorem I150_8 : decode (zB 150) 8 = .ok (.iload_n 1, 1) := dJ5_setLength_d00df_8
theorem I150_9 : decode (zB 150) 9 = .ok (.invokespecial 131, 3) := dJ5_setLength_d00df_9
theorem I150_12 : decode (zB 150) 12 = .ok (.athrow, 1) := dJ5_setLength_d00df_12
theorem I150_13 : decode (zB 150) 13 = .ok (.aload_n 0, 1) := dJ5_setLength_d00df_13
theorem I150_14 : decode (zB 150) 14 = .ok (.iload_n 1, 1) := dJ5_setLength_d00df_14
theorem I150_15 : decode (zB 150) 15 = .ok (.invokevirtual 100, 3) := dJ5_setLength_d00df_15
theorem I150_18 : decode (zB 150) 18 = .ok (.aload_n 0, 1) := dJ5_setLength_d00df_18
theorem I150_19 : decode (zB 150) 19 = .ok (.getfield 79, 3) := dJ5_setLength_d00df_19
theorem I150_22 : decode (zB 150) 22 = .ok (.iload_n 1, 1) := dJ5_setLength_d00df_22
theorem I150_23 : decode (zB 150) 23 = .ok (.if_icmp .ge 40, 3) := dJ5_setLength_d00df_23
theorem I150_26 : decode (zB 150) 26 = .ok (.aload_n 0, 1) := dJ5_setLength_d00df_26
theorem I150_27 : decode (zB 150) 27 = .ok (.invokevirtual 83, 3) := dJ5_setLength_d00df_27
theorem I150_30 : decode (zB 150) 30 = .ok (.ifCond .eq 18, 3) := dJ5_setLength_d00df_30
theorem I150_33 : decode (zB 150) 33 = .ok (.aload_n 0, 1) := dJ5_setLength_d00df_33
theorem I150_34 : decode (zB 150) 34 = .ok (.getfield 15, 3) := dJ5_setLength_d00df_34
theorem I150_37 : decode (zB 150) 37 = .ok (.aload_n 0, 1) := dJ5_setLength_d00df_37
theorem I150_38 : decode (zB 150) 38 = .ok (.getfield 79, 3) := dJ5_setLength_d00df_38
theorem I150_41 : decode (zB 150) 41 = .ok (.iload_n 1, 1) := dJ5_setLength_d00df_41
theorem I150_42 : decode (zB 150) 42 = .ok (.invokestatic 133, 3) := dJ5_setLength_d00df_42
theorem I150_45 : decode (zB 150) 45 = .ok (.goto 31, 3) := dJ5_setLength_d00df_45
theorem I150_48 : decode (zB 150) 48 = .ok (.aload_n 0, 1) := dJ5_setLength_d00df_48
theorem I150_49 : decode (zB 150) 49 = .ok (.getfield 15, 3) := dJ5_setLength_d00df_49
theorem I150_52 : decode (zB 150) 52 = .ok (.aload_n 0, 1) := dJ5_setLength_d00df_52
theorem I150_53 : decode (zB 150) 53 = .ok (.getfield 79, 3) := dJ5_setLength_d00df_53
theorem I150_56 : decode (zB 150) 56 = .ok (.iload_n 1, 1) := dJ5_setLength_d00df_56
theorem I150_57 : decode (zB 150) 57 = .ok (.invokestatic 137, 3) := dJ5_setLength_d00df_57
theorem I150_60 : decode (zB 150) 60 = .ok (.goto 16, 3) := dJ5_setLength_d00df_60
theorem I150_63 : decode (zB 150) 63 = .ok (.aload_n 0, 1) := dJ5_setLength_d00df_63
theorem I150_64 : decode (zB 150) 64 = .ok (.getfield 79, 3) := dJ5_setLength_d00df_64
theorem I150_67 : decode (zB 150) 67 = .ok (.iload_n 1, 1) := dJ5_setLength_d00df_67
theorem I150_68 : decode (zB 150) 68 = .ok (.if_icmp .le 8, 3) := dJ5_setLength_d00df_68
theorem I150_71 : decode (zB 150) 71 = .ok (.aload_n 0, 1) := dJ5_setLength_d00df_71
theorem I150_72 : decode (zB 150) 72 = .ok (.iconst 1, 1) := dJ5_setLength_d00df_72
theorem I150_73 : decode (zB 150) 73 = .ok (.putfield 73, 3) := dJ5_setLength_d00df_73
theorem I150_76 : decode (zB 150) 76 = .ok (.aload_n 0, 1) := dJ5_setLength_d00df_76
theorem I150_77 : decode (zB 150) 77 = .ok (.iload_n 1, 1) := dJ5_setLength_d00df_77
theorem I150_78 : decode (zB 150) 78 = .ok (.putfield 79, 3) := dJ5_setLength_d00df_78
theorem I150_81 : decode (zB 150) 81 = .ok (.return_, 1) := dJ5_setLength_d00df_81
theorem I151_0 : decode (zB 151) 0 = .ok (.aload_n 0, 1) := dJ5_charAt_5068e_0
theorem I151_1 : decode (zB 151) 1 = .ok (.getfield 22, 3) := dJ5_charAt_5068e_1
theorem I151_4 : decode (zB 151) 4 = .ok (.istore_n 2, 1) := dJ5_charAt_5068e_4
theorem I151_5 : decode (zB 151) 5 = .ok (.aload_n 0, 1) := dJ5_charAt_5068e_5
theorem I151_6 : decode (zB 151) 6 = .ok (.getfield 15, 3) := dJ5_charAt_5068e_6
theorem I151_9 : decode (zB 151) 9 = .ok (.astore_n 3, 1) := dJ5_charAt_5068e_9
theorem I151_10 : decode (zB 151) 10 = .ok (.aload_n 0, 1) := dJ5_charAt_5068e_10
theorem I151_11 : decode (zB 151) 11 = .ok (.getfield 79, 3) := dJ5_charAt_5068e_11
theorem I151_14 : decode (zB 151) 14 = .ok (.aload_n 3, 1) := dJ5_charAt_5068e_14
theorem I151_15 : decode (zB 151) 15 = .ok (.arraylength, 1) := dJ5_charAt_5068e_15
theorem I151_16 : decode (zB 151) 16 = .ok (.iload_n 2, 1) := dJ5_charAt_5068e_16
theorem I151_17 : decode (zB 151) 17 = .ok (.ishr, 1) := dJ5_charAt_5068e_17
theorem I151_18 : decode (zB 151) 18 = .ok (.invokestatic 138, 3) := dJ5_charAt_5068e_18
theorem I151_21 : decode (zB 151) 21 = .ok (.istore 4, 2) := dJ5_charAt_5068e_21
theorem I151_23 : decode (zB 151) 23 = .ok (.iload_n 1, 1) := dJ5_charAt_5068e_23
theorem I151_24 : decode (zB 151) 24 = .ok (.iload 4, 2) := dJ5_charAt_5068e_24
theorem I151_26 : decode (zB 151) 26 = .ok (.invokestatic 144, 3) := dJ5_charAt_5068e_26
theorem I151_29 : decode (zB 151) 29 = .ok (.iload_n 2, 1) := dJ5_charAt_5068e_29
theorem I151_30 : decode (zB 151) 30 = .ok (.ifCond .ne 12, 3) := dJ5_charAt_5068e_30
theorem I151_33 : decode (zB 151) 33 = .ok (.aload_n 3, 1) := dJ5_charAt_5068e_33
theorem I151_34 : decode (zB 151) 34 = .ok (.iload_n 1, 1) := dJ5_charAt_5068e_34
theorem I151_35 : decode (zB 151) 35 = .ok (.baload, 1) := dJ5_charAt_5068e_35
theorem I151_36 : decode (zB 151) 36 = .ok (.sipush 255, 3) := dJ5_charAt_5068e_36
theorem I151_39 : decode (zB 151) 39 = .ok (.iand, 1) := dJ5_charAt_5068e_39
theorem I151_40 : decode (zB 151) 40 = .ok (.i2c, 1) := dJ5_charAt_5068e_40
theorem I151_41 : decode (zB 151) 41 = .ok (.ireturn, 1) := dJ5_charAt_5068e_41
theorem I151_42 : decode (zB 151) 42 = .ok (.aload_n 3, 1) := dJ5_charAt_5068e_42
theorem I151_43 : decode (zB 151) 43 = .ok (.iload_n 1, 1) := dJ5_charAt_5068e_43
theorem I151_44 : decode (zB 151) 44 = .ok (.invokestatic 148, 3) := dJ5_charAt_5068e_44
theorem I151_47 : decode (zB 151) 47 = .ok (.ireturn, 1) := dJ5_charAt_5068e_47
theorem I152_0 : decode (zB 152) 0 = .ok (.aload_n 1, 1) := dJ5_append_cf1ce_0
theorem I152_1 : decode (zB 152) 1 = .ok (.ifnonnull 8, 3) := dJ5_append_cf1ce_1
theorem I152_4 : decode (zB 152) 4 = .ok (.aload_n 0, 1) := dJ5_append_cf1ce_4
theorem I152_5 : decode (zB 152) 5 = .ok (.invokevirtual 204, 3) := dJ5_append_cf1ce_5
theorem I152_8 : decode (zB 152) 8 = .ok (.areturn, 1) := dJ5_append_cf1ce_8
theorem I152_9 : decode (zB 152) 9 = .ok (.aload_n 1, 1) := dJ5_append_cf1ce_9
theorem I152_10 : decode (zB 152) 10 = .ok (.invokevirtual 32, 3) := dJ5_append_cf1ce_10
theorem I152_13 : decode (zB 152) 13 = .ok (.istore_n 2, 1) := dJ5_append_cf1ce_13
theorem I152_14 : decode (zB 152) 14 = .ok (.aload_n 0, 1) := dJ5_append_cf1ce_14
theorem I152_15 : decode (zB 152) 15 = .ok (.aload_n 0, 1) := dJ5_append_cf1ce_15
theorem I152_16 : decode (zB 152) 16 = .ok (.getfield 79, 3) := dJ5_append_cf1ce_16
theorem I152_19 : decode (zB 152) 19 = .ok (.iload_n 2, 1) := dJ5_append_cf1ce_19
theorem I152_20 : decode (zB 152) 20 = .ok (.iadd, 1) := dJ5_append_cf1ce_20
theorem I152_21 : decode (zB 152) 21 = .ok (.invokevirtual 100, 3) := dJ5_append_cf1ce_21
theorem I152_24 : decode (zB 152) 24 = .ok (.aload_n 0, 1) := dJ5_append_cf1ce_24
theorem I152_25 : decode (zB 152) 25 = .ok (.aload_n 0, 1) := dJ5_append_cf1ce_25
theorem I152_26 : decode (zB 152) 26 = .ok (.getfield 79, 3) := dJ5_append_cf1ce_26
theorem I152_29 : decode (zB 152) 29 = .ok (.aload_n 1, 1) := dJ5_append_cf1ce_29
theorem I152_30 : decode (zB 152) 30 = .ok (.invokevirtual 208, 3) := dJ5_append_cf1ce_30
theorem I152_33 : decode (zB 152) 33 = .ok (.aload_n 0, 1) := dJ5_append_cf1ce_33
theorem I152_34 : decode (zB 152) 34 = .ok (.dup, 1) := dJ5_append_cf1ce_34
theorem I152_35 : decode (zB 152) 35 = .ok (.getfield 79, 3) := dJ5_append_cf1ce_35
theorem I152_38 : decode (zB 152) 38 = .ok (.iload_n 2, 1) := dJ5_append_cf1ce_38
theorem I152_39 : decode (zB 152) 39 = .ok (.iadd, 1) := dJ5_append_cf1ce_39
theorem I152_40 : decode (zB 152) 40 = .ok (.putfield 79, 3) := dJ5_append_cf1ce_40
theorem I152_43 : decode (zB 152) 43 = .ok (.aload_n 0, 1) := dJ5_append_cf1ce_43
theorem I152_44 : decode (zB 152) 44 = .ok (.areturn, 1) := dJ5_append_cf1ce_44
theorem I153_0 : decode (zB 153) 0 = .ok (.aload_n 0, 1) := dJ5_append_3fe6f_0
theorem I153_1 : decode (zB 153) 1 = .ok (.aload_n 0, 1) := dJ5_append_3fe6f_1
theorem I153_2 : decode (zB 153) 2 = .ok (.getfield 79, 3) := dJ5_append_3fe6f_2
theorem I153_5 : decode (zB 153) 5 = .ok (.iconst 1, 1) := dJ5_append_3fe6f_5
theorem I153_6 : decode (zB 153) 6 = .ok (.iadd, 1) := dJ5_append_3fe6f_6
theorem I153_7 : decode (zB 153) 7 = .ok (.invokevirtual 100, 3) := dJ5_append_3fe6f_7
theorem I153_10 : decode (zB 153) 10 = .ok (.aload_n 0, 1) := dJ5_append_3fe6f_10
theorem I153_11 : decode (zB 153) 11 = .ok (.invokevirtual 83, 3) := dJ5_append_3fe6f_11
theorem I153_14 : decode (zB 153) 14 = .ok (.ifCond .eq 31, 3) := dJ5_append_3fe6f_14
theorem I153_17 : decode (zB 153) 17 = .ok (.iload_n 1, 1) := dJ5_append_3fe6f_17
theorem I153_18 : decode (zB 153) 18 = .ok (.invokestatic 191, 3) := dJ5_append_3fe6f_18
theorem I153_21 : decode (zB 153) 21 = .ok (.ifCond .eq 24, 3) := dJ5_append_3fe6f_21
theorem I153_24 : decode (zB 153) 24 = .ok (.aload_n 0, 1) := dJ5_append_3fe6f_24
theorem I153_25 : decode (zB 153) 25 = .ok (.getfield 15, 3) := dJ5_append_3fe6f_25
theorem I153_28 : decode (zB 153) 28 = .ok (.aload_n 0, 1) := dJ5_append_3fe6f_28
theorem I153_29 : decode (zB 153) 29 = .ok (.dup, 1) := dJ5_append_3fe6f_29
theorem I153_30 : decode (zB 153) 30 = .ok (.getfield 79, 3) := dJ5_append_3fe6f_30
theorem I153_33 : decode (zB 153) 33 = .ok (.dup_x1, 1) := dJ5_append_3fe6f_33
theorem I153_34 : decode (zB 153) 34 = .ok (.iconst 1, 1) := dJ5_append_3fe6f_34
theorem I153_35 : decode (zB 153) 35 = .ok (.iadd, 1) := dJ5_append_3fe6f_35
theorem I153_36 : decode (zB 153) 36 = .ok (.putfield 79, 3) := dJ5_append_3fe6f_36
theorem I153_39 : decode (zB 153) 39 = .ok (.iload_n 1, 1) := dJ5_append_3fe6f_39
theorem I153_40 : decode (zB 153) 40 = .ok (.i2b, 1) := dJ5_append_3fe6f_40
theorem I153_41 : decode (zB 153) 41 = .ok (.bastore, 1) := dJ5_append_3fe6f_41
theorem I153_42 : decode (zB 153) 42 = .ok (.goto 33, 3) := dJ5_append_3fe6f_42
theorem I153_45 : decode (zB 153) 45 = .ok (.aload_n 0, 1) := dJ5_append_3fe6f_45
theorem I153_46 : decode (zB 153) 46 = .ok (.invokevirtual 83, 3) := dJ5_append_3fe6f_46
theorem I153_49 : decode (zB 153) 49 = .ok (.ifCond .eq 7, 3) := dJ5_append_3fe6f_49
theorem I153_52 : decode (zB 153) 52 = .ok (.aload_n 0, 1) := dJ5_append_3fe6f_52
theorem I153_53 : decode (zB 153) 53 = .ok (.invokevirtual 195, 3) := dJ5_append_3fe6f_53
theorem I153_56 : decode (zB 153) 56 = .ok (.aload_n 0, 1) := dJ5_append_3fe6f_56
theorem I153_57 : decode (zB 153) 57 = .ok (.getfield 15, 3) := dJ5_append_3fe6f_57
theorem I153_60 : decode (zB 153) 60 = .ok (.aload_n 0, 1) := dJ5_append_3fe6f_60
theorem I153_61 : decode (zB 153) 61 = .ok (.dup, 1) := dJ5_append_3fe6f_61
theorem I153_62 : decode (zB 153) 62 = .ok (.getfield 79, 3) := dJ5_append_3fe6f_62
theorem I153_65 : decode (zB 153) 65 = .ok (.dup_x1, 1) := dJ5_append_3fe6f_65
theorem I153_66 : decode (zB 153) 66 = .ok (.iconst 1, 1) := dJ5_append_3fe6f_66
theorem I153_67 : decode (zB 153) 67 = .ok (.iadd, 1) := dJ5_append_3fe6f_67
theorem I153_68 : decode (zB 153) 68 = .ok (.putfield 79, 3) := dJ5_append_3fe6f_68
theorem I153_71 : decode (zB 153) 71 = .ok (.iload_n 1, 1) := dJ5_append_3fe6f_71
theorem I153_72 : decode (zB 153) 72 = .ok (.invokestatic 197, 3) := dJ5_append_3fe6f_72
theorem I153_75 : decode (zB 153) 75 = .ok (.aload_n 0, 1) := dJ5_append_3fe6f_75
theorem I153_76 : decode (zB 153) 76 = .ok (.areturn, 1) := dJ5_append_3fe6f_76
theorem I154_0 : decode (zB 154) 0 = .ok (.aload_n 0, 1) := dJ5_append_c97b9_0
theorem I154_1 : decode (zB 154) 1 = .ok (.getfield 79, 3) := dJ5_append_c97b9_1
theorem I154_4 : decode (zB 154) 4 = .ok (.istore_n 2, 1) := dJ5_append_c97b9_4
theorem I154_5 : decode (zB 154) 5 = .ok (.iload_n 2, 1) := dJ5_append_c97b9_5
theorem I154_6 : decode (zB 154) 6 = .ok (.iload_n 1, 1) := dJ5_append_c97b9_6
theorem I154_7 : decode (zB 154) 7 = .ok (.invokestatic 245, 3) := dJ5_append_c97b9_7
theorem I154_10 : decode (zB 154) 10 = .ok (.iadd, 1) := dJ5_append_c97b9_10
theorem I154_11 : decode (zB 154) 11 = .ok (.istore_n 3, 1) := dJ5_append_c97b9_11
theorem I154_12 : decode (zB 154) 12 = .ok (.aload_n 0, 1) := dJ5_append_c97b9_12
theorem I154_13 : decode (zB 154) 13 = .ok (.iload_n 3, 1) := dJ5_append_c97b9_13
theorem I154_14 : decode (zB 154) 14 = .ok (.invokevirtual 100, 3) := dJ5_append_c97b9_14
theorem I154_17 : decode (zB 154) 17 = .ok (.aload_n 0, 1) := dJ5_append_c97b9_17
theorem I154_18 : decode (zB 154) 18 = .ok (.invokevirtual 83, 3) := dJ5_append_c97b9_18
theorem I154_21 : decode (zB 154) 21 = .ok (.ifCond .eq 16, 3) := dJ5_append_c97b9_21
theorem I154_24 : decode (zB 154) 24 = .ok (.iload_n 1, 1) := dJ5_append_c97b9_24
theorem I154_25 : decode (zB 154) 25 = .ok (.iload_n 3, 1) := dJ5_append_c97b9_25
theorem I154_26 : decode (zB 154) 26 = .ok (.aload_n 0, 1) := dJ5_append_c97b9_26
theorem I154_27 : decode (zB 154) 27 = .ok (.getfield 15, 3) := dJ5_append_c97b9_27
theorem I154_30 : decode (zB 154) 30 = .ok (.invokestatic 248, 3) := dJ5_append_c97b9_30
theorem I154_33 : decode (zB 154) 33 = .ok (.pop, 1) := dJ5_append_c97b9_33
theorem I154_34 : decode (zB 154) 34 = .ok (.goto 14, 3) := dJ5_append_c97b9_34
theorem I154_37 : decode (zB 154) 37 = .ok (.iload_n 1, 1) := dJ5_append_c97b9_37
theorem I154_38 : decode (zB 154) 38 = .ok (.iload_n 2, 1) := dJ5_append_c97b9_38
theorem I154_39 : decode (zB 154) 39 = .ok (.iload_n 3, 1) := dJ5_append_c97b9_39
theorem I154_40 : decode (zB 154) 40 = .ok (.aload_n 0, 1) := dJ5_append_c97b9_40
theorem I154_41 : decode (zB 154) 41 = .ok (.getfield 15, 3) := dJ5_append_c97b9_41
theorem I154_44 : decode (zB 154) 44 = .ok (.invokestatic 251, 3) := dJ5_append_c97b9_44
theorem I154_47 : decode (zB 154) 47 = .ok (.pop, 1) := dJ5_append_c97b9_47
theorem I154_48 : decode (zB 154) 48 = .ok (.aload_n 0, 1) := dJ5_append_c97b9_48
theorem I154_49 : decode (zB 154) 49 = .ok (.iload_n 3, 1) := dJ5_append_c97b9_49
theorem I154_50 : decode (zB 154) 50 = .ok (.putfield 79, 3) := dJ5_append_c97b9_50
theorem I154_53 : decode (zB 154) 53 = .ok (.aload_n 0, 1) := dJ5_append_c97b9_53
theorem I154_54 : decode (zB 154) 54 = .ok (.areturn, 1) := dJ5_append_c97b9_54
theorem I155_0 : decode (zB 155) 0 = .ok (.getstatic 18, 3) := dJ5_isLatin1_aae02_0
theorem I155_3 : decode (zB 155) 3 = .ok (.ifCond .eq 14, 3) := dJ5_isLatin1_aae02_3
theorem I155_6 : decode (zB 155) 6 = .ok (.aload_n 0, 1) := dJ5_isLatin1_aae02_6
theorem I155_7 : decode (zB 155) 7 = .ok (.getfield 22, 3) := dJ5_isLatin1_aae02_7
theorem I155_10 : decode (zB 155) 10 = .ok (.ifCond .ne 7, 3) := dJ5_isLatin1_aae02_10
theorem I155_13 : decode (zB 155) 13 = .ok (.iconst 1, 1) := dJ5_isLatin1_aae02_13
theorem I155_14 : decode (zB 155) 14 = .ok (.goto 4, 3) := dJ5_isLatin1_aae02_14
theorem I155_17 : decode (zB 155) 17 = .ok (.iconst 0, 1) := dJ5_isLatin1_aae02_17
theorem I155_18 : decode (zB 155) 18 = .ok (.ireturn, 1) := dJ5_isLatin1_aae02_18
theorem I156_0 : decode (zB 156) 0 = .ok (.getstatic 18, 3) := dJ5_inflateIfNeededFor_a7421_0
theorem I156_3 : decode (zB 156) 3 = .ok (.ifCond .eq 18, 3) := dJ5_inflateIfNeededFor_a7421_3
theorem I156_6 : decode (zB 156) 6 = .ok (.aload_n 0, 1) := dJ5_inflateIfNeededFor_a7421_6
theorem I156_7 : decode (zB 156) 7 = .ok (.getfield 22, 3) := dJ5_inflateIfNeededFor_a7421_7
theorem I156_10 : decode (zB 156) 10 = .ok (.aload_n 1, 1) := dJ5_inflateIfNeededFor_a7421_10
theorem I156_11 : decode (zB 156) 11 = .ok (.invokevirtual 40, 3) := dJ5_inflateIfNeededFor_a7421_11
theorem I156_14 : decode (zB 156) 14 = .ok (.if_icmp .eq 7, 3) := dJ5_inflateIfNeededFor_a7421_14
theorem I156_17 : decode (zB 156) 17 = .ok (.aload_n 0, 1) := dJ5_inflateIfNeededFor_a7421_17
theorem I156_18 : decode (zB 156) 18 = .ok (.invokevirtual 195, 3) := dJ5_inflateIfNeededFor_a7421_18
theorem I156_21 : decode (zB 156) 21 = .ok (.return_, 1) := dJ5_inflateIfNeededFor_a7421_21
theorem I157_0 : decode (zB 157) 0 = .ok (.aload_n 0, 1) := dJ5_putStringAt_47b60_0
theorem I157_1 : decode (zB 157) 1 = .ok (.aload_n 2, 1) := dJ5_putStringAt_47b60_1
theorem I157_2 : decode (zB 157) 2 = .ok (.invokevirtual 397, 3) := dJ5_putStringAt_47b60_2
theorem I157_5 : decode (zB 157) 5 = .ok (.aload_n 2, 1) := dJ5_putStringAt_47b60_5
theorem I157_6 : decode (zB 157) 6 = .ok (.aload_n 0, 1) := dJ5_putStringAt_47b60_6
theorem I157_7 : decode (zB 157) 7 = .ok (.getfield 15, 3) := dJ5_putStringAt_47b60_7
theorem I157_10 : decode (zB 157) 10 = .ok (.iload_n 1, 1) := dJ5_putStringAt_47b60_10
theorem I157_11 : decode (zB 157) 11 = .ok (.aload_n 0, 1) := dJ5_putStringAt_47b60_11
theorem I157_12 : decode (zB 157) 12 = .ok (.getfield 22, 3) := dJ5_putStringAt_47b60_12
theorem I157_15 : decode (zB 157) 15 = .ok (.invokevirtual 399, 3) := dJ5_putStringAt_47b60_15
theorem I157_18 : decode (zB 157) 18 = .ok (.return_, 1) := dJ5_putStringAt_47b60_18
theorem I158_0 : decode (zB 158) 0 = .ok (.iload_n 1, 1) := dJ6_getChars_ba4f3_0
theorem I158_1 : decode (zB 158) 1 = .ok (.istore 5, 2) := dJ6_getChars_ba4f3_1
theorem I158_3 : decode (zB 158) 3 = .ok (.iload_n 0, 1) := dJ6_getChars_ba4f3_3
theorem I158_4 : decode (zB 158) 4 = .ok (.ifCond .ge 7, 3) := dJ6_getChars_ba4f3_4
theorem I158_7 : decode (zB 158) 7 = .ok (.iconst 1, 1) := dJ6_getChars_ba4f3_7
theorem I158_8 : decode (zB 158) 8 = .ok (.goto 4, 3) := dJ6_getChars_ba4f3_8
theorem I158_11 : decode (zB 158) 11 = .ok (.iconst 0, 1) := dJ6_getChars_ba4f3_11
theorem I158_12 : decode (zB 158) 12 = .ok (.istore 6, 2) := dJ6_getChars_ba4f3_12
theorem I158_14 : decode (zB 158) 14 = .ok (.iload 6, 2) := dJ6_getChars_ba4f3_14
theorem I158_16 : decode (zB 158) 16 = .ok (.ifCond .ne 6, 3) := dJ6_getChars_ba4f3_16
theorem I158_19 : decode (zB 158) 19 = .ok (.iload_n 0, 1) := dJ6_getChars_ba4f3_19
theorem I158_20 : decode (zB 158) 20 = .ok (.ineg, 1) := dJ6_getChars_ba4f3_20
theorem I158_21 : decode (zB 158) 21 = .ok (.istore_n 0, 1) := dJ6_getChars_ba4f3_21
theorem I158_22 : decode (zB 158) 22 = .ok (.iload_n 0, 1) := dJ6_getChars_ba4f3_22
theorem I158_23 : decode (zB 158) 23 = .ok (.bipush (-100), 2) := dJ6_getChars_ba4f3_23
theorem I158_25 : decode (zB 158) 25 = .ok (.if_icmp .gt 47, 3) := dJ6_getChars_ba4f3_25
theorem I158_28 : decode (zB 158) 28 = .ok (.iload_n 0, 1) := dJ6_getChars_ba4f3_28
theorem I158_29 : decode (zB 158) 29 = .ok (.bipush 100, 2) := dJ6_getChars_ba4f3_29
theorem I158_31 : decode (zB 158) 31 = .ok (.idiv, 1) := dJ6_getChars_ba4f3_31
theorem I158_32 : decode (zB 158) 32 = .ok (.istore_n 3, 1) := dJ6_getChars_ba4f3_32
theorem I158_33 : decode (zB 158) 33 = .ok (.iload_n 3, 1) := dJ6_getChars_ba4f3_33
theorem I158_34 : decode (zB 158) 34 = .ok (.bipush 100, 2) := dJ6_getChars_ba4f3_34
theorem I158_36 : decode (zB 158) 36 = .ok (.imul, 1) := dJ6_getChars_ba4f3_36
theorem I158_37 : decode (zB 158) 37 = .ok (.iload_n 0, 1) := dJ6_getChars_ba4f3_37
theorem I158_38 : decode (zB 158) 38 = .ok (.isub, 1) := dJ6_getChars_ba4f3_38
theorem I158_39 : decode (zB 158) 39 = .ok (.istore 4, 2) := dJ6_getChars_ba4f3_39
theorem I158_41 : decode (zB 158) 41 = .ok (.iload_n 3, 1) := dJ6_getChars_ba4f3_41
theorem I158_42 : decode (zB 158) 42 = .ok (.istore_n 0, 1) := dJ6_getChars_ba4f3_42
theorem I158_43 : decode (zB 158) 43 = .ok (.aload_n 2, 1) := dJ6_getChars_ba4f3_43
theorem I158_44 : decode (zB 158) 44 = .ok (.iinc 5 (-1), 3) := dJ6_getChars_ba4f3_44
theorem I158_47 : decode (zB 158) 47 = .ok (.iload 5, 2) := dJ6_getChars_ba4f3_47
theorem I158_49 : decode (zB 158) 49 = .ok (.getstatic 83, 3) := dJ6_getChars_ba4f3_49
theorem I158_52 : decode (zB 158) 52 = .ok (.iload 4, 2) := dJ6_getChars_ba4f3_52
theorem I158_54 : decode (zB 158) 54 = .ok (.baload, 1) := dJ6_getChars_ba4f3_54
theorem I158_55 : decode (zB 158) 55 = .ok (.bastore, 1) := dJ6_getChars_ba4f3_55
theorem I158_56 : decode (zB 158) 56 = .ok (.aload_n 2, 1) := dJ6_getChars_ba4f3_56
theorem I158_57 : decode (zB 158) 57 = .ok (.iinc 5 (-1), 3) := dJ6_getChars_ba4f3_57
theorem I158_60 : decode (zB 158) 60 = .ok (.iload 5, 2) := dJ6_getChars_ba4f3_60
theorem I158_62 : decode (zB 158) 62 = .ok (.getstatic 87, 3) := dJ6_getChars_ba4f3_62
theorem I158_65 : decode (zB 158) 65 = .ok (.iload 4, 2) := dJ6_getChars_ba4f3_65
theorem I158_67 : decode (zB 158) 67 = .ok (.baload, 1) := dJ6_getChars_ba4f3_67
theorem I158_68 : decode (zB 158) 68 = .ok (.bastore, 1) := dJ6_getChars_ba4f3_68
theorem I158_69 : decode (zB 158) 69 = .ok (.goto (-47), 3) := dJ6_getChars_ba4f3_69
theorem I158_72 : decode (zB 158) 72 = .ok (.aload_n 2, 1) := dJ6_getChars_ba4f3_72
theorem I158_73 : decode (zB 158) 73 = .ok (.iinc 5 (-1), 3) := dJ6_getChars_ba4f3_73
theorem I158_76 : decode (zB 158) 76 = .ok (.iload 5, 2) := dJ6_getChars_ba4f3_76
theorem I158_78 : decode (zB 158) 78 = .ok (.getstatic 83, 3) := dJ6_getChars_ba4f3_78
theorem I158_81 : decode (zB 158) 81 = .ok (.iload_n 0, 1) := dJ6_getChars_ba4f3_81
theorem I158_82 : decode (zB 158) 82 = .ok (.ineg, 1) := dJ6_getChars_ba4f3_82
theorem I158_83 : decode (zB 158) 83 = .ok (.baload, 1) := dJ6_getChars_ba4f3_83
theorem I158_84 : decode (zB 158) 84 = .ok (.bastore, 1) := dJ6_getChars_ba4f3_84
theorem I158_85 : decode (zB 158) 85 = .ok (.iload_n 0, 1) := dJ6_getChars_ba4f3_85
theorem I158_86 : decode (zB 158) 86 = .ok (.bipush (-9), 2) := dJ6_getChars_ba4f3_86
theorem I158_88 : decode (zB 158) 88 = .ok (.if_icmp .ge 16, 3) := dJ6_getChars_ba4f3_88
theorem I158_91 : decode (zB 158) 91 = .ok (.aload_n 2, 1) := dJ6_getChars_ba4f3_91
theorem I158_92 : decode (zB 158) 92 = .ok (.iinc 5 (-1), 3) := dJ6_getChars_ba4f3_92
theorem I158_95 : decode (zB 158) 95 = .ok (.iload 5, 2) := dJ6_getChars_ba4f3_95
theorem I158_97 : decode (zB 158) 97 = .ok (.getstatic 87, 3) := dJ6_getChars_ba4f3_97
theorem I158_100 : decode (zB 158) 100 = .ok (.iload_n 0, 1) := dJ6_getChars_ba4f3_100
theorem I158_101 : decode (zB 158) 101 = .ok (.ineg, 1) := dJ6_getChars_ba4f3_101
theorem I158_102 : decode (zB 158) 102 = .ok (.baload, 1) := dJ6_getChars_ba4f3_102
theorem I158_103 : decode (zB 158) 103 = .ok (.bastore, 1) := dJ6_getChars_ba4f3_103
theorem I158_104 : decode (zB 158) 104 = .ok (.iload 6, 2) := dJ6_getChars_ba4f3_104
theorem I158_106 : decode (zB 158) 106 = .ok (.ifCond .eq 12, 3) := dJ6_getChars_ba4f3_106
theorem I158_109 : decode (zB 158) 109 = .ok (.aload_n 2, 1) := dJ6_getChars_ba4f3_109
theorem I158_110 : decode (zB 158) 110 = .ok (.iinc 5 (-1), 3) := dJ6_getChars_ba4f3_110
theorem I158_113 : decode (zB 158) 113 = .ok (.iload 5, 2) := dJ6_getChars_ba4f3_113
theorem I158_115 : decode (zB 158) 115 = .ok (.bipush 45, 2) := dJ6_getChars_ba4f3_115
theorem I158_117 : decode (zB 158) 117 = .ok (.bastore, 1) := dJ6_getChars_ba4f3_117
theorem I158_118 : decode (zB 158) 118 = .ok (.iload 5, 2) := dJ6_getChars_ba4f3_118
theorem I158_120 : decode (zB 158) 120 = .ok (.ireturn, 1) := dJ6_getChars_ba4f3_120
theorem I159_0 : decode (zB 159) 0 = .ok (.iconst 1, 1) := dJ6_stringSize_0f7a4_0
theorem I159_1 : decode (zB 159) 1 = .ok (.istore_n 1, 1) := dJ6_stringSize_0f7a4_1
theorem I159_2 : decode (zB 159) 2 = .ok (.iload_n 0, 1) := dJ6_stringSize_0f7a4_2
theorem I159_3 : decode (zB 159) 3 = .ok (.ifCond .lt 8, 3) := dJ6_stringSize_0f7a4_3
theorem I159_6 : decode (zB 159) 6 = .ok (.iconst 0, 1) := dJ6_stringSize_0f7a4_6
theorem I159_7 : decode (zB 159) 7 = .ok (.istore_n 1, 1) := dJ6_stringSize_0f7a4_7
theorem I159_8 : decode (zB 159) 8 = .ok (.iload_n 0, 1) := dJ6_stringSize_0f7a4_8
theorem I159_9 : decode (zB 159) 9 = .ok (.ineg, 1) := dJ6_stringSize_0f7a4_9
theorem I159_10 : decode (zB 159) 10 = .ok (.istore_n 0, 1) := dJ6_stringSize_0f7a4_10
theorem I159_11 : decode (zB 159) 11 = .ok (.bipush (-10), 2) := dJ6_stringSize_0f7a4_11
theorem I159_13 : decode (zB 159) 13 = .ok (.istore_n 2, 1) := dJ6_stringSize_0f7a4_13
theorem I159_14 : decode (zB 159) 14 = .ok (.iconst 1, 1) := dJ6_stringSize_0f7a4_14
theorem I159_15 : decode (zB 159) 15 = .ok (.istore_n 3, 1) := dJ6_stringSize_0f7a4_15
theorem I159_16 : decode (zB 159) 16 = .ok (.iload_n 3, 1) := dJ6_stringSize_0f7a4_16
theorem I159_17 : decode (zB 159) 17 = .ok (.bipush 10, 2) := dJ6_stringSize_0f7a4_17
theorem I159_19 : decode (zB 159) 19 = .ok (.if_icmp .ge 23, 3) := dJ6_stringSize_0f7a4_19
theorem I159_22 : decode (zB 159) 22 = .ok (.iload_n 0, 1) := dJ6_stringSize_0f7a4_22
theorem I159_23 : decode (zB 159) 23 = .ok (.iload_n 2, 1) := dJ6_stringSize_0f7a4_23
theorem I159_24 : decode (zB 159) 24 = .ok (.if_icmp .le 7, 3) := dJ6_stringSize_0f7a4_24
theorem I159_27 : decode (zB 159) 27 = .ok (.iload_n 3, 1) := dJ6_stringSize_0f7a4_27
theorem I159_28 : decode (zB 159) 28 = .ok (.iload_n 1, 1) := dJ6_stringSize_0f7a4_28
theorem I159_29 : decode (zB 159) 29 = .ok (.iadd, 1) := dJ6_stringSize_0f7a4_29
theorem I159_30 : decode (zB 159) 30 = .ok (.ireturn, 1) := dJ6_stringSize_0f7a4_30
theorem I159_31 : decode (zB 159) 31 = .ok (.bipush 10, 2) := dJ6_stringSize_0f7a4_31
theorem I159_33 : decode (zB 159) 33 = .ok (.iload_n 2, 1) := dJ6_stringSize_0f7a4_33
theorem I159_34 : decode (zB 159) 34 = .ok (.imul, 1) := dJ6_stringSize_0f7a4_34
theorem I159_35 : decode (zB 159) 35 = .ok (.istore_n 2, 1) := dJ6_stringSize_0f7a4_35
theorem I159_36 : decode (zB 159) 36 = .ok (.iinc 3 1, 3) := dJ6_stringSize_0f7a4_36
theorem I159_39 : decode (zB 159) 39 = .ok (.goto (-23), 3) := dJ6_stringSize_0f7a4_39
theorem I159_42 : decode (zB 159) 42 = .ok (.bipush 10, 2) := dJ6_stringSize_0f7a4_42
theorem I159_44 : decode (zB 159) 44 = .ok (.iload_n 1, 1) := dJ6_stringSize_0f7a4_44
theorem I159_45 : decode (zB 159) 45 = .ok (.iadd, 1) := dJ6_stringSize_0f7a4_45
theorem I159_46 : decode (zB 159) 46 = .ok (.ireturn, 1) := dJ6_stringSize_0f7a4_46
theorem I160_0 : decode (zB 160) 0 = .ok (.aload_n 0, 1) := dJ0_length_8abf5_0
theorem I160_1 : decode (zB 160) 1 = .ok (.getfield 9, 3) := dJ0_length_8abf5_1
theorem I160_4 : decode (zB 160) 4 = .ok (.arraylength, 1) := dJ0_length_8abf5_4
theorem I160_5 : decode (zB 160) 5 = .ok (.aload_n 0, 1) := dJ0_length_8abf5_5
theorem I160_6 : decode (zB 160) 6 = .ok (.invokevirtual 335, 3) := dJ0_length_8abf5_6
theorem I160_9 : decode (zB 160) 9 = .ok (.ishr, 1) := dJ0_length_8abf5_9
theorem I160_10 : decode (zB 160) 10 = .ok (.ireturn, 1) := dJ0_length_8abf5_10
theorem I161_0 : decode (zB 161) 0 = .ok (.aload_n 0, 1) := dJ0_getBytes_840e7_0
theorem I161_1 : decode (zB 161) 1 = .ok (.invokevirtual 335, 3) := dJ0_getBytes_840e7_1
theorem I161_4 : decode (zB 161) 4 = .ok (.iload_n 3, 1) := dJ0_getBytes_840e7_4
theorem I161_5 : decode (zB 161) 5 = .ok (.if_icmp .ne 23, 3) := dJ0_getBytes_840e7_5
theorem I161_8 : decode (zB 161) 8 = .ok (.aload_n 0, 1) := dJ0_getBytes_840e7_8
theorem I161_9 : decode (zB 161) 9 = .ok (.getfield 9, 3) := dJ0_getBytes_840e7_9
theorem I161_12 : decode (zB 161) 12 = .ok (.iconst 0, 1) := dJ0_getBytes_840e7_12
theorem I161_13 : decode (zB 161) 13 = .ok (.aload_n 1, 1) := dJ0_getBytes_840e7_13
theorem I161_14 : decode (zB 161) 14 = .ok (.iload_n 2, 1) := dJ0_getBytes_840e7_14
theorem I161_15 : decode (zB 161) 15 = .ok (.iload_n 3, 1) := dJ0_getBytes_840e7_15
theorem I161_16 : decode (zB 161) 16 = .ok (.ishl, 1) := dJ0_getBytes_840e7_16
theorem I161_17 : decode (zB 161) 17 = .ok (.aload_n 0, 1) := dJ0_getBytes_840e7_17
theorem I161_18 : decode (zB 161) 18 = .ok (.getfield 9, 3) := dJ0_getBytes_840e7_18
theorem I161_21 : decode (zB 161) 21 = .ok (.arraylength, 1) := dJ0_getBytes_840e7_21
theorem I161_22 : decode (zB 161) 22 = .ok (.invokestatic 212, 3) := dJ0_getBytes_840e7_22
theorem I161_25 : decode (zB 161) 25 = .ok (.goto 18, 3) := dJ0_getBytes_840e7_25
theorem I161_28 : decode (zB 161) 28 = .ok (.aload_n 0, 1) := dJ0_getBytes_840e7_28
theorem I161_29 : decode (zB 161) 29 = .ok (.getfield 9, 3) := dJ0_getBytes_840e7_29
theorem I161_32 : decode (zB 161) 32 = .ok (.iconst 0, 1) := dJ0_getBytes_840e7_32
theorem I161_33 : decode (zB 161) 33 = .ok (.aload_n 1, 1) := dJ0_getBytes_840e7_33
theorem I161_34 : decode (zB 161) 34 = .ok (.iload_n 2, 1) := dJ0_getBytes_840e7_34
theorem I161_35 : decode (zB 161) 35 = .ok (.aload_n 0, 1) := dJ0_getBytes_840e7_35
theorem I161_36 : decode (zB 161) 36 = .ok (.getfield 9, 3) := dJ0_getBytes_840e7_36
theorem I161_39 : decode (zB 161) 39 = .ok (.arraylength, 1) := dJ0_getBytes_840e7_39
theorem I161_40 : decode (zB 161) 40 = .ok (.invokestatic 106, 3) := dJ0_getBytes_840e7_40
theorem I161_43 : decode (zB 161) 43 = .ok (.return_, 1) := dJ0_getBytes_840e7_43
theorem I162_0 : decode (zB 162) 0 = .ok (.getstatic 38, 3) := dJ0_coder_7d493_0
theorem I162_3 : decode (zB 162) 3 = .ok (.ifCond .eq 10, 3) := dJ0_coder_7d493_3
theorem I162_6 : decode (zB 162) 6 = .ok (.aload_n 0, 1) := dJ0_coder_7d493_6
theorem I162_7 : decode (zB 162) 7 = .ok (.getfield 15, 3) := dJ0_coder_7d493_7
theorem I162_10 : decode (zB 162) 10 = .ok (.goto 4, 3) := dJ0_coder_7d493_10
theorem I162_13 : decode (zB 162) 13 = .ok (.iconst 1, 1) := dJ0_coder_7d493_13
theorem I162_14 : decode (zB 162) 14 = .ok (.ireturn, 1) := dJ0_coder_7d493_14
theorem I163_0 : decode (zB 163) 0 = .ok (.iload_n 0, 1) := dJ0_checkIndex_df160_0
theorem I163_1 : decode (zB 163) 1 = .ok (.iload_n 1, 1) := dJ0_checkIndex_df160_1
theorem I163_2 : decode (zB 163) 2 = .ok (.getstatic 1053, 3) := dJ0_checkIndex_df160_2
theorem I163_5 : decode (zB 163) 5 = .ok (.invokestatic 1059, 3) := dJ0_checkIndex_df160_5
theorem I163_8 : decode (zB 163) 8 = .ok (.pop, 1) := dJ0_checkIndex_df160_8
theorem I163_9 : decode (zB 163) 9 = .ok (.return_, 1) := dJ0_checkIndex_df160_9
theorem I164_0 : decode (zB 164) 0 = .ok (.iload_n 0, 1) := dJ1_canEncode_fc78d_0
theorem I164_1 : decode (zB 164) 1 = .ok (.sipush 255, 3) := dJ1_canEncode_fc78d_1
theorem I164_4 : decode (zB 164) 4 = .ok (.if_icmp .gt 7, 3) := dJ1_canEncode_fc78d_4
theorem I164_7 : decode (zB 164) 7 = .ok (.iconst 1, 1) := dJ1_canEncode_fc78d_7
theorem I164_8 : decode (zB 164) 8 = .ok (.goto 4, 3) := dJ1_canEncode_fc78d_8
theorem I164_11 : decode (zB 164) 11 = .ok (.iconst 0, 1) := dJ1_canEncode_fc78d_11
theorem I164_12 : decode (zB 164) 12 = .ok (.ireturn, 1) := dJ1_canEncode_fc78d_12
theorem I165_0 : decode (zB 165) 0 = .ok (.iload_n 1, 1) := dJ7_copyOf_9075b_0
theorem I165_1 : decode (zB 165) 1 = .ok (.aload_n 0, 1) := dJ7_copyOf_9075b_1
theorem I165_2 : decode (zB 165) 2 = .ok (.arraylength, 1) := dJ7_copyOf_9075b_2
theorem I165_3 : decode (zB 165) 3 = .ok (.if_icmp .ne 11, 3) := dJ7_copyOf_9075b_3
theorem I165_6 : decode (zB 165) 6 = .ok (.aload_n 0, 1) := dJ7_copyOf_9075b_6
theorem I165_7 : decode (zB 165) 7 = .ok (.invokevirtual 310, 3) := dJ7_copyOf_9075b_7
theorem I165_10 : decode (zB 165) 10 = .ok (.checkcast 311, 3) := dJ7_copyOf_9075b_10
theorem I165_13 : decode (zB 165) 13 = .ok (.areturn, 1) := dJ7_copyOf_9075b_13
theorem I165_14 : decode (zB 165) 14 = .ok (.iload_n 1, 1) := dJ7_copyOf_9075b_14
theorem I165_15 : decode (zB 165) 15 = .ok (.newarray .byte, 2) := dJ7_copyOf_9075b_15
theorem I165_17 : decode (zB 165) 17 = .ok (.astore_n 2, 1) := dJ7_copyOf_9075b_17
theorem I165_18 : decode (zB 165) 18 = .ok (.aload_n 0, 1) := dJ7_copyOf_9075b_18
theorem I165_19 : decode (zB 165) 19 = .ok (.iconst 0, 1) := dJ7_copyOf_9075b_19
theorem I165_20 : decode (zB 165) 20 = .ok (.aload_n 2, 1) := dJ7_copyOf_9075b_20
theorem I165_21 : decode (zB 165) 21 = .ok (.iconst 0, 1) := dJ7_copyOf_9075b_21
theorem I165_22 : decode (zB 165) 22 = .ok (.aload_n 0, 1) := dJ7_copyOf_9075b_22
theorem I165_23 : decode (zB 165) 23 = .ok (.arraylength, 1) := dJ7_copyOf_9075b_23
theorem I165_24 : decode (zB 165) 24 = .ok (.iload_n 1, 1) := dJ7_copyOf_9075b_24
theorem I165_25 : decode (zB 165) 25 = .ok (.invokestatic 304, 3) := dJ7_copyOf_9075b_25
theorem I165_28 : decode (zB 165) 28 = .ok (.invokestatic 150, 3) := dJ7_copyOf_9075b_28
theorem I165_31 : decode (zB 165) 31 = .ok (.aload_n 2, 1) := dJ7_copyOf_9075b_31
theorem I165_32 : decode (zB 165) 32 = .ok (.areturn, 1) := dJ7_copyOf_9075b_32
theorem I166_0 : decode (zB 166) 0 = .ok (.iload_n 0, 1) := dJ8_newLength_cabcc_0
theorem I166_1 : decode (zB 166) 1 = .ok (.iload_n 1, 1) := dJ8_newLength_cabcc_1
theorem I166_2 : decode (zB 166) 2 = .ok (.iload_n 2, 1) := dJ8_newLength_cabcc_2
theorem I166_3 : decode (zB 166) 3 = .ok (.invokestatic 194, 3) := dJ8_newLength_cabcc_3
theorem I166_6 : decode (zB 166) 6 = .ok (.iadd, 1) := dJ8_newLength_cabcc_6
theorem I166_7 : decode (zB 166) 7 = .ok (.istore_n 3, 1) := dJ8_newLength_cabcc_7
theorem I166_8 : decode (zB 166) 8 = .ok (.iconst 0, 1) := dJ8_newLength_cabcc_8
theorem I166_9 : decode (zB 166) 9 = .ok (.iload_n 3, 1) := dJ8_newLength_cabcc_9
theorem I166_10 : decode (zB 166) 10 = .ok (.if_icmp .ge 11, 3) := dJ8_newLength_cabcc_10
theorem I166_13 : decode (zB 166) 13 = .ok (.iload_n 3, 1) := dJ8_newLength_cabcc_13
theorem I166_14 : decode (zB 166) 14 = .ok (.ldc 200, 2) := dJ8_newLength_cabcc_14
theorem I166_16 : decode (zB 166) 16 = .ok (.if_icmp .gt 5, 3) := dJ8_newLength_cabcc_16
theorem I166_19 : decode (zB 166) 19 = .ok (.iload_n 3, 1) := dJ8_newLength_cabcc_19
theorem I166_20 : decode (zB 166) 20 = .ok (.ireturn, 1) := dJ8_newLength_cabcc_20
theorem I166_21 : decode (zB 166) 21 = .ok (.iload_n 0, 1) := dJ8_newLength_cabcc_21
theorem I166_22 : decode (zB 166) 22 = .ok (.iload_n 1, 1) := dJ8_newLength_cabcc_22
theorem I166_23 : decode (zB 166) 23 = .ok (.invokestatic 201, 3) := dJ8_newLength_cabcc_23
theorem I166_26 : decode (zB 166) 26 = .ok (.ireturn, 1) := dJ8_newLength_cabcc_26
theorem I167_0 : decode (zB 167) 0 = .ok (.iload_n 0, 1) := dJ3_checkIndex_8e157_0
theorem I167_1 : decode (zB 167) 1 = .ok (.ifCond .lt 8, 3) := dJ3_checkIndex_8e157_1
theorem I167_4 : decode (zB 167) 4 = .ok (.iload_n 0, 1) := dJ3_checkIndex_8e157_4
theorem I167_5 : decode (zB 167) 5 = .ok (.iload_n 1, 1) := dJ3_checkIndex_8e157_5
theorem I167_6 : decode (zB 167) 6 = .ok (.if_icmp .lt 10, 3) := dJ3_checkIndex_8e157_6
theorem I167_9 : decode (zB 167) 9 = .ok (.aload_n 2, 1) := dJ3_checkIndex_8e157_9
theorem I167_10 : decode (zB 167) 10 = .ok (.iload_n 0, 1) := dJ3_checkIndex_8e157_10
theorem I167_11 : decode (zB 167) 11 = .ok (.iload_n 1, 1) := dJ3_checkIndex_8e157_11
theorem I167_12 : decode (zB 167) 12 = .ok (.invokestatic 95, 3) := dJ3_checkIndex_8e157_12
theorem I167_15 : decode (zB 167) 15 = .ok (.athrow, 1) := dJ3_checkIndex_8e157_15
theorem I167_16 : decode (zB 167) 16 = .ok (.iload_n 0, 1) := dJ3_checkIndex_8e157_16
theorem I167_17 : decode (zB 167) 17 = .ok (.ireturn, 1) := dJ3_checkIndex_8e157_17
