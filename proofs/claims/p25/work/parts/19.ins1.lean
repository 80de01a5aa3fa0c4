theorem I71_43 : decode (zB 71) 43 = .ok (.iload 6, 2) := dX8_earliestStart_43
theorem I71_45 : decode (zB 71) 45 = .ok (.ifCond .ne 6, 3) := dX8_earliestStart_45
theorem I71_48 : decode (zB 71) 48 = .ok (.iload 4, 2) := dX8_earliestStart_48
theorem I71_50 : decode (zB 71) 50 = .ok (.ireturn, 1) := dX8_earliestStart_50
theorem I71_51 : decode (zB 71) 51 = .ok (.aload_n 0, 1) := dX8_earliestStart_51
theorem I71_52 : decode (zB 71) 52 = .ok (.iload_n 1, 1) := dX8_earliestStart_52
theorem I71_53 : decode (zB 71) 53 = .ok (.iload 4, 2) := dX8_earliestStart_53
theorem I71_55 : decode (zB 71) 55 = .ok (.iload 6, 2) := dX8_earliestStart_55
theorem I71_57 : decode (zB 71) 57 = .ok (.invokevirtual 233, 3) := dX8_earliestStart_57
theorem I71_60 : decode (zB 71) 60 = .ok (.istore 4, 2) := dX8_earliestStart_60
theorem I71_62 : decode (zB 71) 62 = .ok (.iinc 5 1, 3) := dX8_earliestStart_62
theorem I71_65 : decode (zB 71) 65 = .ok (.goto (-45), 3) := dX8_earliestStart_65
theorem I71_68 : decode (zB 71) 68 = .ok (.bipush (-9), 2) := dX8_earliestStart_68
theorem I71_70 : decode (zB 71) 70 = .ok (.ireturn, 1) := dX8_earliestStart_70
theorem I72_0 : decode (zB 72) 0 = .ok (.iload_n 2, 1) := dX8_nextToTry_0
theorem I72_1 : decode (zB 72) 1 = .ok (.aload_n 0, 1) := dX8_nextToTry_1
theorem I72_2 : decode (zB 72) 2 = .ok (.getfield 12, 3) := dX8_nextToTry_2
theorem I72_5 : decode (zB 72) 5 = .ok (.getfield 48, 3) := dX8_nextToTry_5
theorem I72_8 : decode (zB 72) 8 = .ok (.getfield 130, 3) := dX8_nextToTry_8
theorem I72_11 : decode (zB 72) 11 = .ok (.iload_n 1, 1) := dX8_nextToTry_11
theorem I72_12 : decode (zB 72) 12 = .ok (.iaload, 1) := dX8_nextToTry_12
theorem I72_13 : decode (zB 72) 13 = .ok (.iadd, 1) := dX8_nextToTry_13
theorem I72_14 : decode (zB 72) 14 = .ok (.istore 4, 2) := dX8_nextToTry_14
theorem I72_16 : decode (zB 72) 16 = .ok (.iload_n 3, 1) := dX8_nextToTry_16
theorem I72_17 : decode (zB 72) 17 = .ok (.bipush (-5), 2) := dX8_nextToTry_17
theorem I72_19 : decode (zB 72) 19 = .ok (.if_icmp .ne 10, 3) := dX8_nextToTry_19
theorem I72_22 : decode (zB 72) 22 = .ok (.aload_n 0, 1) := dX8_nextToTry_22
theorem I72_23 : decode (zB 72) 23 = .ok (.iload_n 1, 1) := dX8_nextToTry_23
theorem I72_24 : decode (zB 72) 24 = .ok (.iload_n 2, 1) := dX8_nextToTry_24
theorem I72_25 : decode (zB 72) 25 = .ok (.invokevirtual 236, 3) := dX8_nextToTry_25
theorem I72_28 : decode (zB 72) 28 = .ok (.ireturn, 1) := dX8_nextToTry_28
theorem I72_29 : decode (zB 72) 29 = .ok (.iload_n 3, 1) := dX8_nextToTry_29
theorem I72_30 : decode (zB 72) 30 = .ok (.bipush (-6), 2) := dX8_nextToTry_30
theorem I72_32 : decode (zB 72) 32 = .ok (.if_icmp .ne 29, 3) := dX8_nextToTry_32
theorem I72_35 : decode (zB 72) 35 = .ok (.aload_n 0, 1) := dX8_nextToTry_35
theorem I72_36 : decode (zB 72) 36 = .ok (.getfield 12, 3) := dX8_nextToTry_36
theorem I72_39 : decode (zB 72) 39 = .ok (.getfield 83, 3) := dX8_nextToTry_39
theorem I72_42 : decode (zB 72) 42 = .ok (.aload_n 0, 1) := dX8_nextToTry_42
theorem I72_43 : decode (zB 72) 43 = .ok (.getfield 12, 3) := dX8_nextToTry_43
theorem I72_46 : decode (zB 72) 46 = .ok (.getfield 48, 3) := dX8_nextToTry_46
theorem I72_49 : decode (zB 72) 49 = .ok (.getfield 182, 3) := dX8_nextToTry_49
theorem I72_52 : decode (zB 72) 52 = .ok (.iload_n 1, 1) := dX8_nextToTry_52
theorem I72_53 : decode (zB 72) 53 = .ok (.iaload, 1) := dX8_nextToTry_53
theorem I72_54 : decode (zB 72) 54 = .ok (.iload_n 2, 1) := dX8_nextToTry_54
theorem I72_55 : decode (zB 72) 55 = .ok (.iload 4, 2) := dX8_nextToTry_55
theorem I72_57 : decode (zB 72) 57 = .ok (.invokevirtual 185, 3) := dX8_nextToTry_57
theorem I72_60 : decode (zB 72) 60 = .ok (.ireturn, 1) := dX8_nextToTry_60
theorem I72_61 : decode (zB 72) 61 = .ok (.aload_n 0, 1) := dX8_nextToTry_61
theorem I72_62 : decode (zB 72) 62 = .ok (.getfield 12, 3) := dX8_nextToTry_62
theorem I72_65 : decode (zB 72) 65 = .ok (.getfield 102, 3) := dX8_nextToTry_65
theorem I72_68 : decode (zB 72) 68 = .ok (.iload_n 2, 1) := dX8_nextToTry_68
theorem I72_69 : decode (zB 72) 69 = .ok (.iload 4, 2) := dX8_nextToTry_69
theorem I72_71 : decode (zB 72) 71 = .ok (.invokevirtual 119, 3) := dX8_nextToTry_71
theorem I72_74 : decode (zB 72) 74 = .ok (.istore 5, 2) := dX8_nextToTry_74
theorem I72_76 : decode (zB 72) 76 = .ok (.iload_n 3, 1) := dX8_nextToTry_76
theorem I72_77 : decode (zB 72) 77 = .ok (.bipush (-3), 2) := dX8_nextToTry_77
theorem I72_79 : decode (zB 72) 79 = .ok (.if_icmp .eq 10, 3) := dX8_nextToTry_79
theorem I72_82 : decode (zB 72) 82 = .ok (.iload 5, 2) := dX8_nextToTry_82
theorem I72_84 : decode (zB 72) 84 = .ok (.bipush (-9), 2) := dX8_nextToTry_84
theorem I72_86 : decode (zB 72) 86 = .ok (.if_icmp .ne 9, 3) := dX8_nextToTry_86
theorem I72_89 : decode (zB 72) 89 = .ok (.sipush 10080, 3) := dX8_nextToTry_89
theorem I72_92 : decode (zB 72) 92 = .ok (.goto 15, 3) := dX8_nextToTry_92
theorem I72_95 : decode (zB 72) 95 = .ok (.aload_n 0, 1) := dX8_nextToTry_95
theorem I72_96 : decode (zB 72) 96 = .ok (.getfield 12, 3) := dX8_nextToTry_96
theorem I72_99 : decode (zB 72) 99 = .ok (.getfield 102, 3) := dX8_nextToTry_99
theorem I72_102 : decode (zB 72) 102 = .ok (.iload 5, 2) := dX8_nextToTry_102
theorem I72_104 : decode (zB 72) 104 = .ok (.invokevirtual 137, 3) := dX8_nextToTry_104
theorem I72_107 : decode (zB 72) 107 = .ok (.ireturn, 1) := dX8_nextToTry_107
theorem I73_0 : decode (zB 73) 0 = .ok (.sipush 10080, 3) := dX8_nextWindow_0
theorem I73_3 : decode (zB 73) 3 = .ok (.istore_n 3, 1) := dX8_nextWindow_3
theorem I73_4 : decode (zB 73) 4 = .ok (.iconst 0, 1) := dX8_nextWindow_4
theorem I73_5 : decode (zB 73) 5 = .ok (.istore 4, 2) := dX8_nextWindow_5
theorem I73_7 : decode (zB 73) 7 = .ok (.iload 4, 2) := dX8_nextWindow_7
theorem I73_9 : decode (zB 73) 9 = .ok (.aload_n 0, 1) := dX8_nextWindow_9
theorem I73_10 : decode (zB 73) 10 = .ok (.getfield 12, 3) := dX8_nextWindow_10
theorem I73_13 : decode (zB 73) 13 = .ok (.getfield 73, 3) := dX8_nextWindow_13
theorem I73_16 : decode (zB 73) 16 = .ok (.getfield 77, 3) := dX8_nextWindow_16
theorem I73_19 : decode (zB 73) 19 = .ok (.if_icmp .ge 56, 3) := dX8_nextWindow_19
theorem I73_22 : decode (zB 73) 22 = .ok (.aload_n 0, 1) := dX8_nextWindow_22
theorem I73_23 : decode (zB 73) 23 = .ok (.getfield 12, 3) := dX8_nextWindow_23
theorem I73_26 : decode (zB 73) 26 = .ok (.getfield 73, 3) := dX8_nextWindow_26
theorem I73_29 : decode (zB 73) 29 = .ok (.getfield 239, 3) := dX8_nextWindow_29
theorem I73_32 : decode (zB 73) 32 = .ok (.iload 4, 2) := dX8_nextWindow_32
theorem I73_34 : decode (zB 73) 34 = .ok (.iaload, 1) := dX8_nextWindow_34
theorem I73_35 : decode (zB 73) 35 = .ok (.istore 5, 2) := dX8_nextWindow_35
theorem I73_37 : decode (zB 73) 37 = .ok (.aload_n 0, 1) := dX8_nextWindow_37
theorem I73_38 : decode (zB 73) 38 = .ok (.getfield 12, 3) := dX8_nextWindow_38
theorem I73_41 : decode (zB 73) 41 = .ok (.getfield 73, 3) := dX8_nextWindow_41
theorem I73_44 : decode (zB 73) 44 = .ok (.getfield 242, 3) := dX8_nextWindow_44
theorem I73_47 : decode (zB 73) 47 = .ok (.iload 4, 2) := dX8_nextWindow_47
theorem I73_49 : decode (zB 73) 49 = .ok (.iaload, 1) := dX8_nextWindow_49
theorem I73_50 : decode (zB 73) 50 = .ok (.iload_n 1, 1) := dX8_nextWindow_50
theorem I73_51 : decode (zB 73) 51 = .ok (.if_icmp .ne 18, 3) := dX8_nextWindow_51
theorem I73_54 : decode (zB 73) 54 = .ok (.iload 5, 2) := dX8_nextWindow_54
theorem I73_56 : decode (zB 73) 56 = .ok (.iload_n 2, 1) := dX8_nextWindow_56
theorem I73_57 : decode (zB 73) 57 = .ok (.if_icmp .le 12, 3) := dX8_nextWindow_57
theorem I73_60 : decode (zB 73) 60 = .ok (.iload 5, 2) := dX8_nextWindow_60
theorem I73_62 : decode (zB 73) 62 = .ok (.iload_n 3, 1) := dX8_nextWindow_62
theorem I73_63 : decode (zB 73) 63 = .ok (.if_icmp .ge 6, 3) := dX8_nextWindow_63
theorem I73_66 : decode (zB 73) 66 = .ok (.iload 5, 2) := dX8_nextWindow_66
theorem I73_68 : decode (zB 73) 68 = .ok (.istore_n 3, 1) := dX8_nextWindow_68
theorem I73_69 : decode (zB 73) 69 = .ok (.iinc 4 1, 3) := dX8_nextWindow_69
theorem I73_72 : decode (zB 73) 72 = .ok (.goto (-65), 3) := dX8_nextWindow_72
theorem I73_75 : decode (zB 73) 75 = .ok (.iload_n 3, 1) := dX8_nextWindow_75
theorem I73_76 : decode (zB 73) 76 = .ok (.ireturn, 1) := dX8_nextWindow_76
theorem I74_0 : decode (zB 74) 0 = .ok (.aload_n 0, 1) := dX8_makeRoomAfter_0
theorem I74_1 : decode (zB 74) 1 = .ok (.getfield 12, 3) := dX8_makeRoomAfter_1
theorem I74_4 : decode (zB 74) 4 = .ok (.getfield 102, 3) := dX8_makeRoomAfter_4
theorem I74_7 : decode (zB 74) 7 = .ok (.getfield 112, 3) := dX8_makeRoomAfter_7
theorem I74_10 : decode (zB 74) 10 = .ok (.istore_n 2, 1) := dX8_makeRoomAfter_10
theorem I74_11 : decode (zB 74) 11 = .ok (.aload_n 0, 1) := dX8_makeRoomAfter_11
theorem I74_12 : decode (zB 74) 12 = .ok (.getfield 12, 3) := dX8_makeRoomAfter_12
theorem I74_15 : decode (zB 74) 15 = .ok (.getfield 102, 3) := dX8_makeRoomAfter_15
theorem I74_18 : decode (zB 74) 18 = .ok (.iload_n 1, 1) := dX8_makeRoomAfter_18
theorem I74_19 : decode (zB 74) 19 = .ok (.invokevirtual 137, 3) := dX8_makeRoomAfter_19
theorem I74_22 : decode (zB 74) 22 = .ok (.istore_n 3, 1) := dX8_makeRoomAfter_22
theorem I74_23 : decode (zB 74) 23 = .ok (.iload_n 1, 1) := dX8_makeRoomAfter_23
theorem I74_24 : decode (zB 74) 24 = .ok (.iconst 1, 1) := dX8_makeRoomAfter_24
theorem I74_25 : decode (zB 74) 25 = .ok (.iadd, 1) := dX8_makeRoomAfter_25
theorem I74_26 : decode (zB 74) 26 = .ok (.istore 4, 2) := dX8_makeRoomAfter_26
theorem I74_28 : decode (zB 74) 28 = .ok (.iload_n 1, 1) := dX8_makeRoomAfter_28
theorem I74_29 : decode (zB 74) 29 = .ok (.iconst 1, 1) := dX8_makeRoomAfter_29
theorem I74_30 : decode (zB 74) 30 = .ok (.iadd, 1) := dX8_makeRoomAfter_30
theorem I74_31 : decode (zB 74) 31 = .ok (.istore 5, 2) := dX8_makeRoomAfter_31
theorem I74_33 : decode (zB 74) 33 = .ok (.iload 5, 2) := dX8_makeRoomAfter_33
theorem I74_35 : decode (zB 74) 35 = .ok (.iload_n 2, 1) := dX8_makeRoomAfter_35
theorem I74_36 : decode (zB 74) 36 = .ok (.if_icmp .ge 79, 3) := dX8_makeRoomAfter_36
theorem I74_39 : decode (zB 74) 39 = .ok (.iload 4, 2) := dX8_makeRoomAfter_39
theorem I74_41 : decode (zB 74) 41 = .ok (.aload_n 0, 1) := dX8_makeRoomAfter_41
theorem I74_42 : decode (zB 74) 42 = .ok (.getfield 12, 3) := dX8_makeRoomAfter_42
theorem I74_45 : decode (zB 74) 45 = .ok (.getfield 102, 3) := dX8_makeRoomAfter_45
theorem I74_48 : decode (zB 74) 48 = .ok (.getfield 112, 3) := dX8_makeRoomAfter_48
theorem I74_51 : decode (zB 74) 51 = .ok (.if_icmp .ge 64, 3) := dX8_makeRoomAfter_51
theorem I74_54 : decode (zB 74) 54 = .ok (.aload_n 0, 1) := dX8_makeRoomAfter_54
theorem I74_55 : decode (zB 74) 55 = .ok (.getfield 12, 3) := dX8_makeRoomAfter_55
theorem I74_58 : decode (zB 74) 58 = .ok (.getfield 102, 3) := dX8_makeRoomAfter_58
theorem I74_61 : decode (zB 74) 61 = .ok (.getfield 150, 3) := dX8_makeRoomAfter_61
theorem I74_64 : decode (zB 74) 64 = .ok (.iload 4, 2) := dX8_makeRoomAfter_64
theorem I74_66 : decode (zB 74) 66 = .ok (.iaload, 1) := dX8_makeRoomAfter_66
theorem I74_67 : decode (zB 74) 67 = .ok (.iload_n 3, 1) := dX8_makeRoomAfter_67
theorem I74_68 : decode (zB 74) 68 = .ok (.if_icmp .lt 6, 3) := dX8_makeRoomAfter_68
theorem I74_71 : decode (zB 74) 71 = .ok (.goto 44, 3) := dX8_makeRoomAfter_71
theorem I74_74 : decode (zB 74) 74 = .ok (.aload_n 0, 1) := dX8_makeRoomAfter_74
theorem I74_75 : decode (zB 74) 75 = .ok (.iload 4, 2) := dX8_makeRoomAfter_75
theorem I74_77 : decode (zB 74) 77 = .ok (.iload_n 3, 1) := dX8_makeRoomAfter_77
theorem I74_78 : decode (zB 74) 78 = .ok (.invokevirtual 243, 3) := dX8_makeRoomAfter_78
theorem I74_81 : decode (zB 74) 81 = .ok (.ifCond .eq 22, 3) := dX8_makeRoomAfter_81
theorem I74_84 : decode (zB 74) 84 = .ok (.aload_n 0, 1) := dX8_makeRoomAfter_84
theorem I74_85 : decode (zB 74) 85 = .ok (.getfield 12, 3) := dX8_makeRoomAfter_85
theorem I74_88 : decode (zB 74) 88 = .ok (.getfield 102, 3) := dX8_makeRoomAfter_88
theorem I74_91 : decode (zB 74) 91 = .ok (.iload 4, 2) := dX8_makeRoomAfter_91
theorem I74_93 : decode (zB 74) 93 = .ok (.invokevirtual 137, 3) := dX8_makeRoomAfter_93
theorem I74_96 : decode (zB 74) 96 = .ok (.istore_n 3, 1) := dX8_makeRoomAfter_96
theorem I74_97 : decode (zB 74) 97 = .ok (.iinc 4 1, 3) := dX8_makeRoomAfter_97
theorem I74_100 : decode (zB 74) 100 = .ok (.goto 9, 3) := dX8_makeRoomAfter_100
theorem I74_103 : decode (zB 74) 103 = .ok (.aload_n 0, 1) := dX8_makeRoomAfter_103
theorem I74_104 : decode (zB 74) 104 = .ok (.iload 4, 2) := dX8_makeRoomAfter_104
theorem I74_106 : decode (zB 74) 106 = .ok (.invokevirtual 247, 3) := dX8_makeRoomAfter_106
theorem I74_109 : decode (zB 74) 109 = .ok (.iinc 5 1, 3) := dX8_makeRoomAfter_109
theorem I74_112 : decode (zB 74) 112 = .ok (.goto (-79), 3) := dX8_makeRoomAfter_112
theorem I74_115 : decode (zB 74) 115 = .ok (.iload_n 2, 1) := dX8_makeRoomAfter_115
theorem I74_116 : decode (zB 74) 116 = .ok (.aload_n 0, 1) := dX8_makeRoomAfter_116
theorem I74_117 : decode (zB 74) 117 = .ok (.getfield 12, 3) := dX8_makeRoomAfter_117
theorem I74_120 : decode (zB 74) 120 = .ok (.getfield 102, 3) := dX8_makeRoomAfter_120
theorem I74_123 : decode (zB 74) 123 = .ok (.getfield 112, 3) := dX8_makeRoomAfter_123
theorem I74_126 : decode (zB 74) 126 = .ok (.isub, 1) := dX8_makeRoomAfter_126
theorem I74_127 : decode (zB 74) 127 = .ok (.ireturn, 1) := dX8_makeRoomAfter_127
theorem I75_0 : decode (zB 75) 0 = .ok (.aload_n 0, 1) := dX8_giveWay_0
theorem I75_1 : decode (zB 75) 1 = .ok (.iload_n 1, 1) := dX8_giveWay_1
theorem I75_2 : decode (zB 75) 2 = .ok (.invokevirtual 133, 3) := dX8_giveWay_2
theorem I75_5 : decode (zB 75) 5 = .ok (.iconst 2, 1) := dX8_giveWay_5
theorem I75_6 : decode (zB 75) 6 = .ok (.if_icmp .ne 5, 3) := dX8_giveWay_6
theorem I75_9 : decode (zB 75) 9 = .ok (.iconst 0, 1) := dX8_giveWay_9
theorem I75_10 : decode (zB 75) 10 = .ok (.ireturn, 1) := dX8_giveWay_10
theorem I75_11 : decode (zB 75) 11 = .ok (.aload_n 0, 1) := dX8_giveWay_11
theorem I75_12 : decode (zB 75) 12 = .ok (.getfield 12, 3) := dX8_giveWay_12
theorem I75_15 : decode (zB 75) 15 = .ok (.getfield 102, 3) := dX8_giveWay_15
theorem I75_18 : decode (zB 75) 18 = .ok (.getfield 153, 3) := dX8_giveWay_18
theorem I75_21 : decode (zB 75) 21 = .ok (.iload_n 1, 1) := dX8_giveWay_21
theorem I75_22 : decode (zB 75) 22 = .ok (.iaload, 1) := dX8_giveWay_22
theorem I75_23 : decode (zB 75) 23 = .ok (.iconst 1, 1) := dX8_giveWay_23
theorem I75_24 : decode (zB 75) 24 = .ok (.if_icmp .ne 12, 3) := dX8_giveWay_24
theorem I75_27 : decode (zB 75) 27 = .ok (.aload_n 0, 1) := dX8_giveWay_27
theorem I75_28 : decode (zB 75) 28 = .ok (.iload_n 1, 1) := dX8_giveWay_28
theorem I75_29 : decode (zB 75) 29 = .ok (.iload_n 2, 1) := dX8_giveWay_29
theorem I75_30 : decode (zB 75) 30 = .ok (.invokevirtual 250, 3) := dX8_giveWay_30
theorem I75_33 : decode (zB 75) 33 = .ok (.goto 9, 3) := dX8_giveWay_33
theorem I75_36 : decode (zB 75) 36 = .ok (.aload_n 0, 1) := dX8_giveWay_36
theorem I75_37 : decode (zB 75) 37 = .ok (.iload_n 1, 1) := dX8_giveWay_37
theorem I75_38 : decode (zB 75) 38 = .ok (.iload_n 2, 1) := dX8_giveWay_38
theorem I75_39 : decode (zB 75) 39 = .ok (.invokevirtual 253, 3) := dX8_giveWay_39
theorem I75_42 : decode (zB 75) 42 = .ok (.ireturn, 1) := dX8_giveWay_42
theorem I76_0 : decode (zB 76) 0 = .ok (.aload_n 0, 1) := dX8_cut_0
theorem I76_1 : decode (zB 76) 1 = .ok (.getfield 12, 3) := dX8_cut_1
theorem I76_4 : decode (zB 76) 4 = .ok (.getfield 102, 3) := dX8_cut_4
theorem I76_7 : decode (zB 76) 7 = .ok (.iload_n 1, 1) := dX8_cut_7
theorem I76_8 : decode (zB 76) 8 = .ok (.invokevirtual 137, 3) := dX8_cut_8
theorem I76_11 : decode (zB 76) 11 = .ok (.istore_n 3, 1) := dX8_cut_11
theorem I76_12 : decode (zB 76) 12 = .ok (.iload_n 3, 1) := dX8_cut_12
theorem I76_13 : decode (zB 76) 13 = .ok (.iload_n 2, 1) := dX8_cut_13
theorem I76_14 : decode (zB 76) 14 = .ok (.if_icmp .gt 5, 3) := dX8_cut_14
theorem I76_17 : decode (zB 76) 17 = .ok (.iconst 0, 1) := dX8_cut_17
theorem I76_18 : decode (zB 76) 18 = .ok (.ireturn, 1) := dX8_cut_18
theorem I76_19 : decode (zB 76) 19 = .ok (.aload_n 0, 1) := dX8_cut_19
theorem I76_20 : decode (zB 76) 20 = .ok (.getfield 12, 3) := dX8_cut_20
theorem I76_23 : decode (zB 76) 23 = .ok (.getfield 102, 3) := dX8_cut_23
theorem I76_26 : decode (zB 76) 26 = .ok (.getfield 150, 3) := dX8_cut_26
theorem I76_29 : decode (zB 76) 29 = .ok (.iload_n 1, 1) := dX8_cut_29
theorem I76_30 : decode (zB 76) 30 = .ok (.iload_n 2, 1) := dX8_cut_30
theorem I76_31 : decode (zB 76) 31 = .ok (.iastore, 1) := dX8_cut_31
theorem I76_32 : decode (zB 76) 32 = .ok (.aload_n 0, 1) := dX8_cut_32
theorem I76_33 : decode (zB 76) 33 = .ok (.getfield 12, 3) := dX8_cut_33
theorem I76_36 : decode (zB 76) 36 = .ok (.getfield 102, 3) := dX8_cut_36
theorem I76_39 : decode (zB 76) 39 = .ok (.getfield 140, 3) := dX8_cut_39
theorem I76_42 : decode (zB 76) 42 = .ok (.iload_n 1, 1) := dX8_cut_42
theorem I76_43 : decode (zB 76) 43 = .ok (.iload_n 3, 1) := dX8_cut_43
theorem I76_44 : decode (zB 76) 44 = .ok (.iload_n 2, 1) := dX8_cut_44
theorem I76_45 : decode (zB 76) 45 = .ok (.isub, 1) := dX8_cut_45
theorem I76_46 : decode (zB 76) 46 = .ok (.iastore, 1) := dX8_cut_46
theorem I76_47 : decode (zB 76) 47 = .ok (.iconst 1, 1) := dX8_cut_47
theorem I76_48 : decode (zB 76) 48 = .ok (.ireturn, 1) := dX8_cut_48
theorem I77_0 : decode (zB 77) 0 = .ok (.aload_n 0, 1) := dX8_push_0
theorem I77_1 : decode (zB 77) 1 = .ok (.getfield 12, 3) := dX8_push_1
theorem I77_4 : decode (zB 77) 4 = .ok (.getfield 102, 3) := dX8_push_4
theorem I77_7 : decode (zB 77) 7 = .ok (.getfield 147, 3) := dX8_push_7
theorem I77_10 : decode (zB 77) 10 = .ok (.iload_n 1, 1) := dX8_push_10
theorem I77_11 : decode (zB 77) 11 = .ok (.iaload, 1) := dX8_push_11
theorem I77_12 : decode (zB 77) 12 = .ok (.istore_n 3, 1) := dX8_push_12
theorem I77_13 : decode (zB 77) 13 = .ok (.iload_n 2, 1) := dX8_push_13
theorem I77_14 : decode (zB 77) 14 = .ok (.aload_n 0, 1) := dX8_push_14
theorem I77_15 : decode (zB 77) 15 = .ok (.getfield 12, 3) := dX8_push_15
theorem I77_18 : decode (zB 77) 18 = .ok (.getfield 102, 3) := dX8_push_18
theorem I77_21 : decode (zB 77) 21 = .ok (.getfield 140, 3) := dX8_push_21
theorem I77_24 : decode (zB 77) 24 = .ok (.iload_n 1, 1) := dX8_push_24
theorem I77_25 : decode (zB 77) 25 = .ok (.iaload, 1) := dX8_push_25
theorem I77_26 : decode (zB 77) 26 = .ok (.iadd, 1) := dX8_push_26
theorem I77_27 : decode (zB 77) 27 = .ok (.istore 4, 2) := dX8_push_27
theorem I77_29 : decode (zB 77) 29 = .ok (.iload 4, 2) := dX8_push_29
theorem I77_31 : decode (zB 77) 31 = .ok (.sipush 10080, 3) := dX8_push_31
theorem I77_34 : decode (zB 77) 34 = .ok (.if_icmp .gt 33, 3) := dX8_push_34
theorem I77_37 : decode (zB 77) 37 = .ok (.aload_n 0, 1) := dX8_push_37
theorem I77_38 : decode (zB 77) 38 = .ok (.getfield 12, 3) := dX8_push_38
theorem I77_41 : decode (zB 77) 41 = .ok (.getfield 83, 3) := dX8_push_41
theorem I77_44 : decode (zB 77) 44 = .ok (.aload_n 0, 1) := dX8_push_44
theorem I77_45 : decode (zB 77) 45 = .ok (.getfield 12, 3) := dX8_push_45
theorem I77_48 : decode (zB 77) 48 = .ok (.getfield 48, 3) := dX8_push_48
theorem I77_51 : decode (zB 77) 51 = .ok (.getfield 182, 3) := dX8_push_51
theorem I77_54 : decode (zB 77) 54 = .ok (.iload_n 3, 1) := dX8_push_54
theorem I77_55 : decode (zB 77) 55 = .ok (.iaload, 1) := dX8_push_55
theorem I77_56 : decode (zB 77) 56 = .ok (.iload_n 2, 1) := dX8_push_56
theorem I77_57 : decode (zB 77) 57 = .ok (.iload 4, 2) := dX8_push_57
theorem I77_59 : decode (zB 77) 59 = .ok (.invokevirtual 185, 3) := dX8_push_59
theorem I77_62 : decode (zB 77) 62 = .ok (.bipush (-9), 2) := dX8_push_62
theorem I77_64 : decode (zB 77) 64 = .ok (.if_icmp .eq 5, 3) := dX8_push_64
theorem I77_67 : decode (zB 77) 67 = .ok (.iconst 0, 1) := dX8_push_67
theorem I77_68 : decode (zB 77) 68 = .ok (.ireturn, 1) := dX8_push_68
theorem I77_69 : decode (zB 77) 69 = .ok (.aload_n 0, 1) := dX8_push_69
theorem I77_70 : decode (zB 77) 70 = .ok (.getfield 12, 3) := dX8_push_70
theorem I77_73 : decode (zB 77) 73 = .ok (.getfield 102, 3) := dX8_push_73
theorem I77_76 : decode (zB 77) 76 = .ok (.getfield 150, 3) := dX8_push_76
theorem I77_79 : decode (zB 77) 79 = .ok (.iload_n 1, 1) := dX8_push_79
theorem I77_80 : decode (zB 77) 80 = .ok (.iload_n 2, 1) := dX8_push_80
theorem I77_81 : decode (zB 77) 81 = .ok (.iastore, 1) := dX8_push_81
theorem I77_82 : decode (zB 77) 82 = .ok (.aload_n 0, 1) := dX8_push_82
theorem I77_83 : decode (zB 77) 83 = .ok (.iload_n 3, 1) := dX8_push_83
theorem I77_84 : decode (zB 77) 84 = .ok (.invokevirtual 212, 3) := dX8_push_84
theorem I77_87 : decode (zB 77) 87 = .ok (.aload_n 0, 1) := dX8_push_87
theorem I77_88 : decode (zB 77) 88 = .ok (.getfield 26, 3) := dX8_push_88
theorem I77_91 : decode (zB 77) 91 = .ok (.aload_n 0, 1) := dX8_push_91
theorem I77_92 : decode (zB 77) 92 = .ok (.getfield 12, 3) := dX8_push_92
theorem I77_95 : decode (zB 77) 95 = .ok (.getfield 73, 3) := dX8_push_95
theorem I77_98 : decode (zB 77) 98 = .ok (.invokevirtual 219, 3) := dX8_push_98
theorem I77_101 : decode (zB 77) 101 = .ok (.ireturn, 1) := dX8_push_101
theorem I78_0 : decode (zB 78) 0 = .ok (.aload_n 0, 1) := dX8_drop_0
theorem I78_1 : decode (zB 78) 1 = .ok (.iload_n 1, 1) := dX8_drop_1
theorem I78_2 : decode (zB 78) 2 = .ok (.invokevirtual 133, 3) := dX8_drop_2
theorem I78_5 : decode (zB 78) 5 = .ok (.iconst 3, 1) := dX8_drop_5
theorem I78_6 : decode (zB 78) 6 = .ok (.if_icmp .ne 30, 3) := dX8_drop_6
theorem I78_9 : decode (zB 78) 9 = .ok (.aload_n 0, 1) := dX8_drop_9
theorem I78_10 : decode (zB 78) 10 = .ok (.getfield 12, 3) := dX8_drop_10
theorem I78_13 : decode (zB 78) 13 = .ok (.getfield 48, 3) := dX8_drop_13
theorem I78_16 : decode (zB 78) 16 = .ok (.getfield 144, 3) := dX8_drop_16
theorem I78_19 : decode (zB 78) 19 = .ok (.aload_n 0, 1) := dX8_drop_19
theorem I78_20 : decode (zB 78) 20 = .ok (.getfield 12, 3) := dX8_drop_20
theorem I78_23 : decode (zB 78) 23 = .ok (.getfield 102, 3) := dX8_drop_23
theorem I78_26 : decode (zB 78) 26 = .ok (.getfield 147, 3) := dX8_drop_26
theorem I78_29 : decode (zB 78) 29 = .ok (.iload_n 1, 1) := dX8_drop_29
theorem I78_30 : decode (zB 78) 30 = .ok (.iaload, 1) := dX8_drop_30
theorem I78_31 : decode (zB 78) 31 = .ok (.dup2, 1) := dX8_drop_31
theorem I78_32 : decode (zB 78) 32 = .ok (.iaload, 1) := dX8_drop_32
theorem I78_33 : decode (zB 78) 33 = .ok (.iconst 1, 1) := dX8_drop_33
theorem I78_34 : decode (zB 78) 34 = .ok (.iadd, 1) := dX8_drop_34
theorem I78_35 : decode (zB 78) 35 = .ok (.iastore, 1) := dX8_drop_35
theorem I78_36 : decode (zB 78) 36 = .ok (.aload_n 0, 1) := dX8_drop_36
theorem I78_37 : decode (zB 78) 37 = .ok (.getfield 12, 3) := dX8_drop_37
theorem I78_40 : decode (zB 78) 40 = .ok (.getfield 102, 3) := dX8_drop_40
theorem I78_43 : decode (zB 78) 43 = .ok (.iload_n 1, 1) := dX8_drop_43
theorem I78_44 : decode (zB 78) 44 = .ok (.invokevirtual 106, 3) := dX8_drop_44
theorem I78_47 : decode (zB 78) 47 = .ok (.return_, 1) := dX8_drop_47
theorem I79_0 : decode (zB 79) 0 = .ok (.aload_n 0, 1) := dX8_kindOf_0
theorem I79_1 : decode (zB 79) 1 = .ok (.getfield 12, 3) := dX8_kindOf_1
theorem I79_4 : decode (zB 79) 4 = .ok (.getfield 48, 3) := dX8_kindOf_4
theorem I79_7 : decode (zB 79) 7 = .ok (.getfield 209, 3) := dX8_kindOf_7
theorem I79_10 : decode (zB 79) 10 = .ok (.aload_n 0, 1) := dX8_kindOf_10
theorem I79_11 : decode (zB 79) 11 = .ok (.getfield 12, 3) := dX8_kindOf_11
theorem I79_14 : decode (zB 79) 14 = .ok (.getfield 102, 3) := dX8_kindOf_14
theorem I79_17 : decode (zB 79) 17 = .ok (.getfield 147, 3) := dX8_kindOf_17
theorem I79_20 : decode (zB 79) 20 = .ok (.iload_n 1, 1) := dX8_kindOf_20
theorem I79_21 : decode (zB 79) 21 = .ok (.iaload, 1) := dX8_kindOf_21
theorem I79_22 : decode (zB 79) 22 = .ok (.iaload, 1) := dX8_kindOf_22
theorem I79_23 : decode (zB 79) 23 = .ok (.ireturn, 1) := dX8_kindOf_23
theorem I80_0 : decode (zB 80) 0 = .ok (.aload_n 0, 1) := dX8_shareRights_0
theorem I80_1 : decode (zB 80) 1 = .ok (.getfield 26, 3) := dX8_shareRights_1
theorem I80_4 : decode (zB 80) 4 = .ok (.invokevirtual 223, 3) := dX8_shareRights_4
theorem I80_7 : decode (zB 80) 7 = .ok (.iconst 0, 1) := dX8_shareRights_7
theorem I80_8 : decode (zB 80) 8 = .ok (.istore_n 1, 1) := dX8_shareRights_8
theorem I80_9 : decode (zB 80) 9 = .ok (.iload_n 1, 1) := dX8_shareRights_9
theorem I80_10 : decode (zB 80) 10 = .ok (.aload_n 0, 1) := dX8_shareRights_10
theorem I80_11 : decode (zB 80) 11 = .ok (.getfield 12, 3) := dX8_shareRights_11
theorem I80_14 : decode (zB 80) 14 = .ok (.getfield 102, 3) := dX8_shareRights_14
theorem I80_17 : decode (zB 80) 17 = .ok (.getfield 112, 3) := dX8_shareRights_17
theorem I80_20 : decode (zB 80) 20 = .ok (.if_icmp .ge 67, 3) := dX8_shareRights_20
theorem I80_23 : decode (zB 80) 23 = .ok (.aload_n 0, 1) := dX8_shareRights_23
theorem I80_24 : decode (zB 80) 24 = .ok (.iload_n 1, 1) := dX8_shareRights_24
theorem I80_25 : decode (zB 80) 25 = .ok (.invokevirtual 133, 3) := dX8_shareRights_25
theorem I80_28 : decode (zB 80) 28 = .ok (.iconst 2, 1) := dX8_shareRights_28
theorem I80_29 : decode (zB 80) 29 = .ok (.if_icmp .ne 8, 3) := dX8_shareRights_29
theorem I80_32 : decode (zB 80) 32 = .ok (.bipush (-9), 2) := dX8_shareRights_32
theorem I80_34 : decode (zB 80) 34 = .ok (.goto 15, 3) := dX8_shareRights_34
theorem I80_37 : decode (zB 80) 37 = .ok (.aload_n 0, 1) := dX8_shareRights_37
theorem I80_38 : decode (zB 80) 38 = .ok (.getfield 12, 3) := dX8_shareRights_38
theorem I80_41 : decode (zB 80) 41 = .ok (.getfield 102, 3) := dX8_shareRights_41
theorem I80_44 : decode (zB 80) 44 = .ok (.getfield 147, 3) := dX8_shareRights_44
theorem I80_47 : decode (zB 80) 47 = .ok (.iload_n 1, 1) := dX8_shareRights_47
theorem I80_48 : decode (zB 80) 48 = .ok (.iaload, 1) := dX8_shareRights_48
theorem I80_49 : decode (zB 80) 49 = .ok (.istore_n 2, 1) := dX8_shareRights_49
theorem I80_50 : decode (zB 80) 50 = .ok (.aload_n 0, 1) := dX8_shareRights_50
theorem I80_51 : decode (zB 80) 51 = .ok (.getfield 26, 3) := dX8_shareRights_51
theorem I80_54 : decode (zB 80) 54 = .ok (.iload_n 2, 1) := dX8_shareRights_54
theorem I80_55 : decode (zB 80) 55 = .ok (.aload_n 0, 1) := dX8_shareRights_55
theorem I80_56 : decode (zB 80) 56 = .ok (.getfield 12, 3) := dX8_shareRights_56
theorem I80_59 : decode (zB 80) 59 = .ok (.getfield 102, 3) := dX8_shareRights_59
theorem I80_62 : decode (zB 80) 62 = .ok (.getfield 150, 3) := dX8_shareRights_62
theorem I80_65 : decode (zB 80) 65 = .ok (.iload_n 1, 1) := dX8_shareRights_65
theorem I80_66 : decode (zB 80) 66 = .ok (.iaload, 1) := dX8_shareRights_66
theorem I80_67 : decode (zB 80) 67 = .ok (.aload_n 0, 1) := dX8_shareRights_67
theorem I80_68 : decode (zB 80) 68 = .ok (.getfield 12, 3) := dX8_shareRights_68
theorem I80_71 : decode (zB 80) 71 = .ok (.getfield 102, 3) := dX8_shareRights_71
theorem I80_74 : decode (zB 80) 74 = .ok (.iload_n 1, 1) := dX8_shareRights_74
theorem I80_75 : decode (zB 80) 75 = .ok (.invokevirtual 137, 3) := dX8_shareRights_75
theorem I80_78 : decode (zB 80) 78 = .ok (.invokevirtual 215, 3) := dX8_shareRights_78
theorem I80_81 : decode (zB 80) 81 = .ok (.iinc 1 1, 3) := dX8_shareRights_81
theorem I80_84 : decode (zB 80) 84 = .ok (.goto (-75), 3) := dX8_shareRights_84
theorem I80_87 : decode (zB 80) 87 = .ok (.aload_n 0, 1) := dX8_shareRights_87
theorem I80_88 : decode (zB 80) 88 = .ok (.getfield 26, 3) := dX8_shareRights_88
theorem I80_91 : decode (zB 80) 91 = .ok (.aload_n 0, 1) := dX8_shareRights_91
theorem I80_92 : decode (zB 80) 92 = .ok (.getfield 12, 3) := dX8_shareRights_92
theorem I80_95 : decode (zB 80) 95 = .ok (.getfield 73, 3) := dX8_shareRights_95
theorem I80_98 : decode (zB 80) 98 = .ok (.invokevirtual 219, 3) := dX8_shareRights_98
theorem I80_101 : decode (zB 80) 101 = .ok (.pop, 1) := dX8_shareRights_101
theorem I80_102 : decode (zB 80) 102 = .ok (.return_, 1) := dX8_shareRights_102
theorem I81_0 : decode (zB 81) 0 = .ok (.aload_n 0, 1) := dX8_programmesAhead_0
theorem I81_1 : decode (zB 81) 1 = .ok (.getfield 12, 3) := dX8_programmesAhead_1
theorem I81_4 : decode (zB 81) 4 = .ok (.getfield 102, 3) := dX8_programmesAhead_4
theorem I81_7 : decode (zB 81) 7 = .ok (.iload_n 1, 1) := dX8_programmesAhead_7
theorem I81_8 : decode (zB 81) 8 = .ok (.invokevirtual 256, 3) := dX8_programmesAhead_8
theorem I81_11 : decode (zB 81) 11 = .ok (.istore_n 2, 1) := dX8_programmesAhead_11
theorem I81_12 : decode (zB 81) 12 = .ok (.iconst 0, 1) := dX8_programmesAhead_12
theorem I81_13 : decode (zB 81) 13 = .ok (.istore_n 3, 1) := dX8_programmesAhead_13
theorem I81_14 : decode (zB 81) 14 = .ok (.iconst 0, 1) := dX8_programmesAhead_14
theorem I81_15 : decode (zB 81) 15 = .ok (.istore 4, 2) := dX8_programmesAhead_15
theorem I81_17 : decode (zB 81) 17 = .ok (.iload 4, 2) := dX8_programmesAhead_17
theorem I81_19 : decode (zB 81) 19 = .ok (.aload_n 0, 1) := dX8_programmesAhead_19
theorem I81_20 : decode (zB 81) 20 = .ok (.getfield 12, 3) := dX8_programmesAhead_20
theorem I81_23 : decode (zB 81) 23 = .ok (.getfield 48, 3) := dX8_programmesAhead_23
theorem I81_26 : decode (zB 81) 26 = .ok (.getfield 52, 3) := dX8_programmesAhead_26
theorem I81_29 : decode (zB 81) 29 = .ok (.if_icmp .ge 44, 3) := dX8_programmesAhead_29
theorem I81_32 : decode (zB 81) 32 = .ok (.aload_n 0, 1) := dX8_programmesAhead_32
theorem I81_33 : decode (zB 81) 33 = .ok (.getfield 12, 3) := dX8_programmesAhead_33
theorem I81_36 : decode (zB 81) 36 = .ok (.getfield 102, 3) := dX8_programmesAhead_36
theorem I81_39 : decode (zB 81) 39 = .ok (.iload 4, 2) := dX8_programmesAhead_39
theorem I81_41 : decode (zB 81) 41 = .ok (.invokevirtual 256, 3) := dX8_programmesAhead_41
theorem I81_44 : decode (zB 81) 44 = .ok (.istore 5, 2) := dX8_programmesAhead_44
theorem I81_46 : decode (zB 81) 46 = .ok (.iload 5, 2) := dX8_programmesAhead_46
theorem I81_48 : decode (zB 81) 48 = .ok (.iload_n 2, 1) := dX8_programmesAhead_48
theorem I81_49 : decode (zB 81) 49 = .ok (.if_icmp .gt 15, 3) := dX8_programmesAhead_49
theorem I81_52 : decode (zB 81) 52 = .ok (.iload 5, 2) := dX8_programmesAhead_52
theorem I81_54 : decode (zB 81) 54 = .ok (.iload_n 2, 1) := dX8_programmesAhead_54
theorem I81_55 : decode (zB 81) 55 = .ok (.if_icmp .ne 12, 3) := dX8_programmesAhead_55
theorem I81_58 : decode (zB 81) 58 = .ok (.iload 4, 2) := dX8_programmesAhead_58
theorem I81_60 : decode (zB 81) 60 = .ok (.iload_n 1, 1) := dX8_programmesAhead_60
theorem I81_61 : decode (zB 81) 61 = .ok (.if_icmp .ge 6, 3) := dX8_programmesAhead_61
theorem I81_64 : decode (zB 81) 64 = .ok (.iinc 3 1, 3) := dX8_programmesAhead_64
theorem I81_67 : decode (zB 81) 67 = .ok (.iinc 4 1, 3) := dX8_programmesAhead_67
theorem I81_70 : decode (zB 81) 70 = .ok (.goto (-53), 3) := dX8_programmesAhead_70
theorem I81_73 : decode (zB 81) 73 = .ok (.iload_n 3, 1) := dX8_programmesAhead_73
theorem I81_74 : decode (zB 81) 74 = .ok (.ireturn, 1) := dX8_programmesAhead_74
theorem I82_0 : decode (zB 82) 0 = .ok (.aload_n 0, 1) := dX8_writeLine_0
theorem I82_1 : decode (zB 82) 1 = .ok (.getfield 12, 3) := dX8_writeLine_1
theorem I82_4 : decode (zB 82) 4 = .ok (.getfield 102, 3) := dX8_writeLine_4
theorem I82_7 : decode (zB 82) 7 = .ok (.getfield 150, 3) := dX8_writeLine_7
theorem I82_10 : decode (zB 82) 10 = .ok (.iload_n 1, 1) := dX8_writeLine_10
theorem I82_11 : decode (zB 82) 11 = .ok (.iaload, 1) := dX8_writeLine_11
theorem I82_12 : decode (zB 82) 12 = .ok (.sipush 1440, 3) := dX8_writeLine_12
theorem I82_15 : decode (zB 82) 15 = .ok (.irem, 1) := dX8_writeLine_15
theorem I82_16 : decode (zB 82) 16 = .ok (.istore_n 2, 1) := dX8_writeLine_16
theorem I82_17 : decode (zB 82) 17 = .ok (.aload_n 0, 1) := dX8_writeLine_17
theorem I82_18 : decode (zB 82) 18 = .ok (.getfield 40, 3) := dX8_writeLine_18
theorem I82_21 : decode (zB 82) 21 = .ok (.iconst 0, 1) := dX8_writeLine_21
theorem I82_22 : decode (zB 82) 22 = .ok (.invokevirtual 259, 3) := dX8_writeLine_22
theorem I82_25 : decode (zB 82) 25 = .ok (.aload_n 0, 1) := dX8_writeLine_25
theorem I82_26 : decode (zB 82) 26 = .ok (.getfield 40, 3) := dX8_writeLine_26
theorem I82_29 : decode (zB 82) 29 = .ok (.aload_n 0, 1) := dX8_writeLine_29
theorem I82_30 : decode (zB 82) 30 = .ok (.getfield 12, 3) := dX8_writeLine_30
theorem I82_33 : decode (zB 82) 33 = .ok (.getfield 102, 3) := dX8_writeLine_33
theorem I82_36 : decode (zB 82) 36 = .ok (.getfield 150, 3) := dX8_writeLine_36
theorem I82_39 : decode (zB 82) 39 = .ok (.iload_n 1, 1) := dX8_writeLine_39
theorem I82_40 : decode (zB 82) 40 = .ok (.iaload, 1) := dX8_writeLine_40
theorem I82_41 : decode (zB 82) 41 = .ok (.sipush 1440, 3) := dX8_writeLine_41
theorem I82_44 : decode (zB 82) 44 = .ok (.idiv, 1) := dX8_writeLine_44
theorem I82_45 : decode (zB 82) 45 = .ok (.invokevirtual 262, 3) := dX8_writeLine_45
theorem I82_48 : decode (zB 82) 48 = .ok (.bipush 32, 2) := dX8_writeLine_48
theorem I82_50 : decode (zB 82) 50 = .ok (.invokevirtual 265, 3) := dX8_writeLine_50
theorem I82_53 : decode (zB 82) 53 = .ok (.pop, 1) := dX8_writeLine_53
theorem I82_54 : decode (zB 82) 54 = .ok (.aload_n 0, 1) := dX8_writeLine_54
theorem I82_55 : decode (zB 82) 55 = .ok (.iload_n 2, 1) := dX8_writeLine_55
theorem I82_56 : decode (zB 82) 56 = .ok (.bipush 60, 2) := dX8_writeLine_56
theorem I82_58 : decode (zB 82) 58 = .ok (.idiv, 1) := dX8_writeLine_58
theorem I82_59 : decode (zB 82) 59 = .ok (.invokevirtual 268, 3) := dX8_writeLine_59
theorem I82_62 : decode (zB 82) 62 = .ok (.aload_n 0, 1) := dX8_writeLine_62
theorem I82_63 : decode (zB 82) 63 = .ok (.getfield 40, 3) := dX8_writeLine_63
theorem I82_66 : decode (zB 82) 66 = .ok (.bipush 58, 2) := dX8_writeLine_66
theorem I82_68 : decode (zB 82) 68 = .ok (.invokevirtual 265, 3) := dX8_writeLine_68
theorem I82_71 : decode (zB 82) 71 = .ok (.pop, 1) := dX8_writeLine_71
theorem I82_72 : decode (zB 82) 72 = .ok (.aload_n 0, 1) := dX8_writeLine_72
theorem I82_73 : decode (zB 82) 73 = .ok (.iload_n 2, 1) := dX8_writeLine_73
theorem I82_74 : decode (zB 82) 74 = .ok (.bipush 60, 2) := dX8_writeLine_74
theorem I82_76 : decode (zB 82) 76 = .ok (.irem, 1) := dX8_writeLine_76
theorem I82_77 : decode (zB 82) 77 = .ok (.invokevirtual 268, 3) := dX8_writeLine_77
theorem I82_80 : decode (zB 82) 80 = .ok (.aload_n 0, 1) := dX8_writeLine_80
theorem I82_81 : decode (zB 82) 81 = .ok (.getfield 40, 3) := dX8_writeLine_81
theorem I82_84 : decode (zB 82) 84 = .ok (.ldc_w 271, 3) := dX8_writeLine_84
theorem I82_87 : decode (zB 82) 87 = .ok (.invokevirtual 273, 3) := dX8_writeLine_87
theorem I82_90 : decode (zB 82) 90 = .ok (.aload_n 0, 1) := dX8_writeLine_90
theorem I82_91 : decode (zB 82) 91 = .ok (.getfield 12, 3) := dX8_writeLine_91
theorem I82_94 : decode (zB 82) 94 = .ok (.getfield 102, 3) := dX8_writeLine_94
theorem I82_97 : decode (zB 82) 97 = .ok (.getfield 140, 3) := dX8_writeLine_97
theorem I82_100 : decode (zB 82) 100 = .ok (.iload_n 1, 1) := dX8_writeLine_100
theorem I82_101 : decode (zB 82) 101 = .ok (.iaload, 1) := dX8_writeLine_101
theorem I82_102 : decode (zB 82) 102 = .ok (.invokevirtual 262, 3) := dX8_writeLine_102
theorem I82_105 : decode (zB 82) 105 = .ok (.pop, 1) := dX8_writeLine_105
theorem I82_106 : decode (zB 82) 106 = .ok (.aload_n 0, 1) := dX8_writeLine_106
theorem I82_107 : decode (zB 82) 107 = .ok (.getfield 40, 3) := dX8_writeLine_107
theorem I82_110 : decode (zB 82) 110 = .ok (.ldc_w 276, 3) := dX8_writeLine_110
theorem I82_113 : decode (zB 82) 113 = .ok (.invokevirtual 273, 3) := dX8_writeLine_113
theorem I82_116 : decode (zB 82) 116 = .ok (.aload_n 0, 1) := dX8_writeLine_116
theorem I82_117 : decode (zB 82) 117 = .ok (.getfield 12, 3) := dX8_writeLine_117
theorem I82_120 : decode (zB 82) 120 = .ok (.getfield 102, 3) := dX8_writeLine_120
theorem I82_123 : decode (zB 82) 123 = .ok (.getfield 147, 3) := dX8_writeLine_123
theorem I82_126 : decode (zB 82) 126 = .ok (.iload_n 1, 1) := dX8_writeLine_126
theorem I82_127 : decode (zB 82) 127 = .ok (.iaload, 1) := dX8_writeLine_127
theorem I82_128 : decode (zB 82) 128 = .ok (.invokevirtual 262, 3) := dX8_writeLine_128
theorem I82_131 : decode (zB 82) 131 = .ok (.pop, 1) := dX8_writeLine_131
theorem I82_132 : decode (zB 82) 132 = .ok (.aload_n 0, 1) := dX8_writeLine_132
theorem I82_133 : decode (zB 82) 133 = .ok (.getfield 12, 3) := dX8_writeLine_133
theorem I82_136 : decode (zB 82) 136 = .ok (.getfield 102, 3) := dX8_writeLine_136
theorem I82_139 : decode (zB 82) 139 = .ok (.getfield 153, 3) := dX8_writeLine_139
theorem I82_142 : decode (zB 82) 142 = .ok (.iload_n 1, 1) := dX8_writeLine_142
theorem I82_143 : decode (zB 82) 143 = .ok (.iaload, 1) := dX8_writeLine_143
theorem I82_144 : decode (zB 82) 144 = .ok (.iconst 1, 1) := dX8_writeLine_144
theorem I82_145 : decode (zB 82) 145 = .ok (.if_icmp .ne 13, 3) := dX8_writeLine_145
theorem I82_148 : decode (zB 82) 148 = .ok (.aload_n 0, 1) := dX8_writeLine_148
theorem I82_149 : decode (zB 82) 149 = .ok (.getfield 40, 3) := dX8_writeLine_149
theorem I82_152 : decode (zB 82) 152 = .ok (.bipush 33, 2) := dX8_writeLine_152
theorem I82_154 : decode (zB 82) 154 = .ok (.invokevirtual 265, 3) := dX8_writeLine_154
theorem I82_157 : decode (zB 82) 157 = .ok (.pop, 1) := dX8_writeLine_157
theorem I82_158 : decode (zB 82) 158 = .ok (.return_, 1) := dX8_writeLine_158
theorem I83_0 : decode (zB 83) 0 = .ok (.aload_n 0, 1) := dX8_writeTwoDigits_0
theorem I83_1 : decode (zB 83) 1 = .ok (.getfield 40, 3) := dX8_writeTwoDigits_1
theorem I83_4 : decode (zB 83) 4 = .ok (.iload_n 1, 1) := dX8_writeTwoDigits_4
theorem I83_5 : decode (zB 83) 5 = .ok (.bipush 10, 2) := dX8_writeTwoDigits_5
theorem I83_7 : decode (zB 83) 7 = .ok (.idiv, 1) := dX8_writeTwoDigits_7
theorem I83_8 : decode (zB 83) 8 = .ok (.invokevirtual 262, 3) := dX8_writeTwoDigits_8
theorem I83_11 : decode (zB 83) 11 = .ok (.iload_n 1, 1) := dX8_writeTwoDigits_11
theorem I83_12 : decode (zB 83) 12 = .ok (.bipush 10, 2) := dX8_writeTwoDigits_12
theorem I83_14 : decode (zB 83) 14 = .ok (.irem, 1) := dX8_writeTwoDigits_14
theorem I83_15 : decode (zB 83) 15 = .ok (.invokevirtual 262, 3) := dX8_writeTwoDigits_15
theorem I83_18 : decode (zB 83) 18 = .ok (.pop, 1) := dX8_writeTwoDigits_18
theorem I83_19 : decode (zB 83) 19 = .ok (.return_, 1) := dX8_writeTwoDigits_19
theorem I84_0 : decode (zB 84) 0 = .ok (.iload_n 1, 1) := dL_cell_0
theorem I84_1 : decode (zB 84) 1 = .ok (.aload_n 0, 1) := dL_cell_1
theorem I84_2 : decode (zB 84) 2 = .ok (.arraylength, 1) := dL_cell_2
theorem I84_3 : decode (zB 84) 3 = .ok (.if_icmp .ge 9, 3) := dL_cell_3
theorem I84_6 : decode (zB 84) 6 = .ok (.aload_n 0, 1) := dL_cell_6
theorem I84_7 : decode (zB 84) 7 = .ok (.iload_n 1, 1) := dL_cell_7
theorem I84_8 : decode (zB 84) 8 = .ok (.iaload, 1) := dL_cell_8
theorem I84_9 : decode (zB 84) 9 = .ok (.goto 9, 3) := dL_cell_9
theorem I84_12 : decode (zB 84) 12 = .ok (.ldc 7, 2) := dL_cell_12
theorem I84_14 : decode (zB 84) 14 = .ok (.iload_n 1, 1) := dL_cell_14
theorem I84_15 : decode (zB 84) 15 = .ok (.iconst 3, 1) := dL_cell_15
theorem I84_16 : decode (zB 84) 16 = .ok (.iadd, 1) := dL_cell_16
theorem I84_17 : decode (zB 84) 17 = .ok (.imul, 1) := dL_cell_17
theorem I84_18 : decode (zB 84) 18 = .ok (.ireturn, 1) := dL_cell_18
theorem I85_0 : decode (zB 85) 0 = .ok (.iload_n 0, 1) := dL_up_0
theorem I85_1 : decode (zB 85) 1 = .ok (.ldc 8, 2) := dL_up_1
theorem I85_3 : decode (zB 85) 3 = .ok (.iand, 1) := dL_up_3
theorem I85_4 : decode (zB 85) 4 = .ok (.iload_n 1, 1) := dL_up_4
theorem I85_5 : decode (zB 85) 5 = .ok (.irem, 1) := dL_up_5
theorem I85_6 : decode (zB 85) 6 = .ok (.ireturn, 1) := dL_up_6
theorem I86_0 : decode (zB 86) 0 = .ok (.aload_n 0, 1) := dL_fails_0
theorem I86_1 : decode (zB 86) 1 = .ok (.invokevirtual 9, 3) := dL_fails_1
theorem I86_4 : decode (zB 86) 4 = .ok (.lstore_n 3, 1) := dL_fails_4
theorem I86_5 : decode (zB 86) 5 = .ok (.aload_n 0, 1) := dL_fails_5
theorem I86_6 : decode (zB 86) 6 = .ok (.invokevirtual 15, 3) := dL_fails_6
theorem I86_9 : decode (zB 86) 9 = .ok (.istore 5, 2) := dL_fails_9
theorem I86_11 : decode (zB 86) 11 = .ok (.aload_n 0, 1) := dL_fails_11
theorem I86_12 : decode (zB 86) 12 = .ok (.iconst 4, 1) := dL_fails_12
theorem I86_13 : decode (zB 86) 13 = .ok (.iconst 1, 1) := dL_fails_13
theorem I86_14 : decode (zB 86) 14 = .ok (.iconst 0, 1) := dL_fails_14
theorem I86_15 : decode (zB 86) 15 = .ok (.invokevirtual 19, 3) := dL_fails_15
theorem I86_18 : decode (zB 86) 18 = .ok (.iconst (-1), 1) := dL_fails_18
theorem I86_19 : decode (zB 86) 19 = .ok (.if_icmp .ne 85, 3) := dL_fails_19
theorem I86_22 : decode (zB 86) 22 = .ok (.aload_n 0, 1) := dL_fails_22
theorem I86_23 : decode (zB 86) 23 = .ok (.iconst 0, 1) := dL_fails_23
theorem I86_24 : decode (zB 86) 24 = .ok (.sipush 241, 3) := dL_fails_24
theorem I86_27 : decode (zB 86) 27 = .ok (.iconst 0, 1) := dL_fails_27
theorem I86_28 : decode (zB 86) 28 = .ok (.invokevirtual 19, 3) := dL_fails_28
theorem I86_31 : decode (zB 86) 31 = .ok (.iconst (-1), 1) := dL_fails_31
theorem I86_32 : decode (zB 86) 32 = .ok (.if_icmp .ne 72, 3) := dL_fails_32
theorem I86_35 : decode (zB 86) 35 = .ok (.aload_n 0, 1) := dL_fails_35
theorem I86_36 : decode (zB 86) 36 = .ok (.iload_n 1, 1) := dL_fails_36
theorem I86_37 : decode (zB 86) 37 = .ok (.iconst 0, 1) := dL_fails_37
theorem I86_38 : decode (zB 86) 38 = .ok (.iconst 1, 1) := dL_fails_38
theorem I86_39 : decode (zB 86) 39 = .ok (.iconst 1, 1) := dL_fails_39
theorem I86_40 : decode (zB 86) 40 = .ok (.invokevirtual 23, 3) := dL_fails_40
theorem I86_43 : decode (zB 86) 43 = .ok (.iconst (-1), 1) := dL_fails_43
theorem I86_44 : decode (zB 86) 44 = .ok (.if_icmp .ne 60, 3) := dL_fails_44
theorem I86_47 : decode (zB 86) 47 = .ok (.aload_n 0, 1) := dL_fails_47
theorem I86_48 : decode (zB 86) 48 = .ok (.iconst 5, 1) := dL_fails_48
theorem I86_49 : decode (zB 86) 49 = .ok (.iconst 5, 1) := dL_fails_49
theorem I86_50 : decode (zB 86) 50 = .ok (.iconst 0, 1) := dL_fails_50
theorem I86_51 : decode (zB 86) 51 = .ok (.invokevirtual 27, 3) := dL_fails_51
theorem I86_54 : decode (zB 86) 54 = .ok (.iconst (-1), 1) := dL_fails_54
theorem I86_55 : decode (zB 86) 55 = .ok (.if_icmp .ne 49, 3) := dL_fails_55
theorem I86_58 : decode (zB 86) 58 = .ok (.aload_n 0, 1) := dL_fails_58
theorem I86_59 : decode (zB 86) 59 = .ok (.iload_n 1, 1) := dL_fails_59
theorem I86_60 : decode (zB 86) 60 = .ok (.iconst 0, 1) := dL_fails_60
theorem I86_61 : decode (zB 86) 61 = .ok (.iconst 0, 1) := dL_fails_61
theorem I86_62 : decode (zB 86) 62 = .ok (.invokevirtual 30, 3) := dL_fails_62
theorem I86_65 : decode (zB 86) 65 = .ok (.iconst (-1), 1) := dL_fails_65
theorem I86_66 : decode (zB 86) 66 = .ok (.if_icmp .ne 38, 3) := dL_fails_66
theorem I86_69 : decode (zB 86) 69 = .ok (.aload_n 0, 1) := dL_fails_69
theorem I86_70 : decode (zB 86) 70 = .ok (.iconst (-1), 1) := dL_fails_70
theorem I86_71 : decode (zB 86) 71 = .ok (.iconst 0, 1) := dL_fails_71
theorem I86_72 : decode (zB 86) 72 = .ok (.iconst 1, 1) := dL_fails_72
theorem I86_73 : decode (zB 86) 73 = .ok (.invokevirtual 30, 3) := dL_fails_73
theorem I86_76 : decode (zB 86) 76 = .ok (.iconst (-1), 1) := dL_fails_76
theorem I86_77 : decode (zB 86) 77 = .ok (.if_icmp .ne 27, 3) := dL_fails_77
theorem I86_80 : decode (zB 86) 80 = .ok (.aload_n 0, 1) := dL_fails_80
theorem I86_81 : decode (zB 86) 81 = .ok (.iload 5, 2) := dL_fails_81
theorem I86_83 : decode (zB 86) 83 = .ok (.invokevirtual 34, 3) := dL_fails_83
theorem I86_86 : decode (zB 86) 86 = .ok (.iconst (-1), 1) := dL_fails_86
theorem I86_87 : decode (zB 86) 87 = .ok (.if_icmp .ne 17, 3) := dL_fails_87
theorem I86_90 : decode (zB 86) 90 = .ok (.aload_n 0, 1) := dL_fails_90
theorem I86_91 : decode (zB 86) 91 = .ok (.iload_n 1, 1) := dL_fails_91
theorem I86_92 : decode (zB 86) 92 = .ok (.iconst 0, 1) := dL_fails_92
theorem I86_93 : decode (zB 86) 93 = .ok (.invokevirtual 38, 3) := dL_fails_93
theorem I86_96 : decode (zB 86) 96 = .ok (.iconst (-1), 1) := dL_fails_96
theorem I86_97 : decode (zB 86) 97 = .ok (.if_icmp .ne 7, 3) := dL_fails_97
theorem I86_100 : decode (zB 86) 100 = .ok (.iconst 1, 1) := dL_fails_100
theorem I86_101 : decode (zB 86) 101 = .ok (.goto 4, 3) := dL_fails_101
theorem I86_104 : decode (zB 86) 104 = .ok (.iconst 0, 1) := dL_fails_104
theorem I86_105 : decode (zB 86) 105 = .ok (.istore 6, 2) := dL_fails_105
theorem I86_107 : decode (zB 86) 107 = .ok (.iload 6, 2) := dL_fails_107
theorem I86_109 : decode (zB 86) 109 = .ok (.ifCond .eq 116, 3) := dL_fails_109
theorem I86_112 : decode (zB 86) 112 = .ok (.aload_n 0, 1) := dL_fails_112
theorem I86_113 : decode (zB 86) 113 = .ok (.bipush 10, 2) := dL_fails_113
theorem I86_115 : decode (zB 86) 115 = .ok (.bipush 10, 2) := dL_fails_115
theorem I86_117 : decode (zB 86) 117 = .ok (.invokevirtual 42, 3) := dL_fails_117
theorem I86_120 : decode (zB 86) 120 = .ok (.iconst (-1), 1) := dL_fails_120
theorem I86_121 : decode (zB 86) 121 = .ok (.if_icmp .ne 104, 3) := dL_fails_121
theorem I86_124 : decode (zB 86) 124 = .ok (.aload_n 0, 1) := dL_fails_124
theorem I86_125 : decode (zB 86) 125 = .ok (.iconst 0, 1) := dL_fails_125
theorem I86_126 : decode (zB 86) 126 = .ok (.sipush 241, 3) := dL_fails_126
theorem I86_129 : decode (zB 86) 129 = .ok (.invokevirtual 42, 3) := dL_fails_129
theorem I86_132 : decode (zB 86) 132 = .ok (.iconst (-1), 1) := dL_fails_132
theorem I86_133 : decode (zB 86) 133 = .ok (.if_icmp .ne 92, 3) := dL_fails_133
theorem I86_136 : decode (zB 86) 136 = .ok (.aload_n 0, 1) := dL_fails_136
theorem I86_137 : decode (zB 86) 137 = .ok (.sipush 10000, 3) := dL_fails_137
theorem I86_140 : decode (zB 86) 140 = .ok (.sipush 10081, 3) := dL_fails_140
theorem I86_143 : decode (zB 86) 143 = .ok (.invokevirtual 42, 3) := dL_fails_143
theorem I86_146 : decode (zB 86) 146 = .ok (.iconst (-1), 1) := dL_fails_146
theorem I86_147 : decode (zB 86) 147 = .ok (.if_icmp .ne 78, 3) := dL_fails_147
theorem I86_150 : decode (zB 86) 150 = .ok (.aload_n 0, 1) := dL_fails_150
theorem I86_151 : decode (zB 86) 151 = .ok (.iload 5, 2) := dL_fails_151
theorem I86_153 : decode (zB 86) 153 = .ok (.iconst 1, 1) := dL_fails_153
theorem I86_154 : decode (zB 86) 154 = .ok (.invokevirtual 45, 3) := dL_fails_154
theorem I86_157 : decode (zB 86) 157 = .ok (.iconst (-1), 1) := dL_fails_157
theorem I86_158 : decode (zB 86) 158 = .ok (.if_icmp .ne 67, 3) := dL_fails_158
theorem I86_161 : decode (zB 86) 161 = .ok (.aload_n 0, 1) := dL_fails_161
theorem I86_162 : decode (zB 86) 162 = .ok (.iload_n 1, 1) := dL_fails_162
theorem I86_163 : decode (zB 86) 163 = .ok (.iconst 0, 1) := dL_fails_163
theorem I86_164 : decode (zB 86) 164 = .ok (.invokevirtual 48, 3) := dL_fails_164
theorem I86_167 : decode (zB 86) 167 = .ok (.iconst (-1), 1) := dL_fails_167
theorem I86_168 : decode (zB 86) 168 = .ok (.if_icmp .ne 57, 3) := dL_fails_168
theorem I86_171 : decode (zB 86) 171 = .ok (.aload_n 0, 1) := dL_fails_171
theorem I86_172 : decode (zB 86) 172 = .ok (.iload 5, 2) := dL_fails_172
theorem I86_174 : decode (zB 86) 174 = .ok (.iconst 0, 1) := dL_fails_174
theorem I86_175 : decode (zB 86) 175 = .ok (.invokevirtual 51, 3) := dL_fails_175
theorem I86_178 : decode (zB 86) 178 = .ok (.iconst (-1), 1) := dL_fails_178
theorem I86_179 : decode (zB 86) 179 = .ok (.if_icmp .ne 46, 3) := dL_fails_179
theorem I86_182 : decode (zB 86) 182 = .ok (.aload_n 0, 1) := dL_fails_182
theorem I86_183 : decode (zB 86) 183 = .ok (.sipush 10080, 3) := dL_fails_183
theorem I86_186 : decode (zB 86) 186 = .ok (.invokevirtual 54, 3) := dL_fails_186
theorem I86_189 : decode (zB 86) 189 = .ok (.iconst (-1), 1) := dL_fails_189
theorem I86_190 : decode (zB 86) 190 = .ok (.if_icmp .ne 35, 3) := dL_fails_190
theorem I86_193 : decode (zB 86) 193 = .ok (.aload_n 0, 1) := dL_fails_193
theorem I86_194 : decode (zB 86) 194 = .ok (.iload_n 2, 1) := dL_fails_194
theorem I86_195 : decode (zB 86) 195 = .ok (.invokevirtual 57, 3) := dL_fails_195
theorem I86_198 : decode (zB 86) 198 = .ok (.iconst (-1), 1) := dL_fails_198
theorem I86_199 : decode (zB 86) 199 = .ok (.if_icmp .ne 26, 3) := dL_fails_199
theorem I86_202 : decode (zB 86) 202 = .ok (.aload_n 0, 1) := dL_fails_202
theorem I86_203 : decode (zB 86) 203 = .ok (.iload_n 1, 1) := dL_fails_203
theorem I86_204 : decode (zB 86) 204 = .ok (.iconst 0, 1) := dL_fails_204
theorem I86_205 : decode (zB 86) 205 = .ok (.invokevirtual 60, 3) := dL_fails_205
theorem I86_208 : decode (zB 86) 208 = .ok (.iconst (-1), 1) := dL_fails_208
theorem I86_209 : decode (zB 86) 209 = .ok (.if_icmp .ne 16, 3) := dL_fails_209
theorem I86_212 : decode (zB 86) 212 = .ok (.aload_n 0, 1) := dL_fails_212
theorem I86_213 : decode (zB 86) 213 = .ok (.iconst (-1), 1) := dL_fails_213
theorem I86_214 : decode (zB 86) 214 = .ok (.invokevirtual 63, 3) := dL_fails_214
theorem I86_217 : decode (zB 86) 217 = .ok (.iconst (-1), 1) := dL_fails_217
theorem I86_218 : decode (zB 86) 218 = .ok (.if_icmp .ne 7, 3) := dL_fails_218
theorem I86_221 : decode (zB 86) 221 = .ok (.iconst 1, 1) := dL_fails_221
theorem I86_222 : decode (zB 86) 222 = .ok (.goto 4, 3) := dL_fails_222
theorem I86_225 : decode (zB 86) 225 = .ok (.iconst 0, 1) := dL_fails_225
theorem I86_226 : decode (zB 86) 226 = .ok (.istore 6, 2) := dL_fails_226
theorem I86_228 : decode (zB 86) 228 = .ok (.iload 6, 2) := dL_fails_228
theorem I86_230 : decode (zB 86) 230 = .ok (.ifCond .eq 59, 3) := dL_fails_230
theorem I86_233 : decode (zB 86) 233 = .ok (.aload_n 0, 1) := dL_fails_233
theorem I86_234 : decode (zB 86) 234 = .ok (.iconst 5, 1) := dL_fails_234
theorem I86_235 : decode (zB 86) 235 = .ok (.iconst 0, 1) := dL_fails_235
theorem I86_236 : decode (zB 86) 236 = .ok (.iconst 1, 1) := dL_fails_236
theorem I86_237 : decode (zB 86) 237 = .ok (.invokevirtual 66, 3) := dL_fails_237
theorem I86_240 : decode (zB 86) 240 = .ok (.iconst (-1), 1) := dL_fails_240
theorem I86_241 : decode (zB 86) 241 = .ok (.if_icmp .ne 48, 3) := dL_fails_241
theorem I86_244 : decode (zB 86) 244 = .ok (.aload_n 0, 1) := dL_fails_244
theorem I86_245 : decode (zB 86) 245 = .ok (.iconst 0, 1) := dL_fails_245
theorem I86_246 : decode (zB 86) 246 = .ok (.iconst 1, 1) := dL_fails_246
theorem I86_247 : decode (zB 86) 247 = .ok (.iconst 1, 1) := dL_fails_247
theorem I86_248 : decode (zB 86) 248 = .ok (.invokevirtual 66, 3) := dL_fails_248
theorem I86_251 : decode (zB 86) 251 = .ok (.iconst (-1), 1) := dL_fails_251
theorem I86_252 : decode (zB 86) 252 = .ok (.if_icmp .ne 37, 3) := dL_fails_252
theorem I86_255 : decode (zB 86) 255 = .ok (.aload_n 0, 1) := dL_fails_255
theorem I86_256 : decode (zB 86) 256 = .ok (.iconst (-1), 1) := dL_fails_256
theorem I86_257 : decode (zB 86) 257 = .ok (.iconst 1, 1) := dL_fails_257
theorem I86_258 : decode (zB 86) 258 = .ok (.invokevirtual 69, 3) := dL_fails_258
theorem I86_261 : decode (zB 86) 261 = .ok (.iconst (-1), 1) := dL_fails_261
theorem I86_262 : decode (zB 86) 262 = .ok (.if_icmp .ne 27, 3) := dL_fails_262
theorem I86_265 : decode (zB 86) 265 = .ok (.aload_n 0, 1) := dL_fails_265
theorem I86_266 : decode (zB 86) 266 = .ok (.iload_n 1, 1) := dL_fails_266
theorem I86_267 : decode (zB 86) 267 = .ok (.invokevirtual 72, 3) := dL_fails_267
theorem I86_270 : decode (zB 86) 270 = .ok (.iconst (-1), 1) := dL_fails_270
theorem I86_271 : decode (zB 86) 271 = .ok (.if_icmp .ne 18, 3) := dL_fails_271
theorem I86_274 : decode (zB 86) 274 = .ok (.aload_n 0, 1) := dL_fails_274
theorem I86_275 : decode (zB 86) 275 = .ok (.iload 5, 2) := dL_fails_275
theorem I86_277 : decode (zB 86) 277 = .ok (.iconst 0, 1) := dL_fails_277
theorem I86_278 : decode (zB 86) 278 = .ok (.invokevirtual 75, 3) := dL_fails_278
theorem I86_281 : decode (zB 86) 281 = .ok (.iconst (-1), 1) := dL_fails_281
theorem I86_282 : decode (zB 86) 282 = .ok (.if_icmp .ne 7, 3) := dL_fails_282
theorem I86_285 : decode (zB 86) 285 = .ok (.iconst 1, 1) := dL_fails_285
theorem I86_286 : decode (zB 86) 286 = .ok (.goto 4, 3) := dL_fails_286
theorem I86_289 : decode (zB 86) 289 = .ok (.iconst 0, 1) := dL_fails_289
theorem I86_290 : decode (zB 86) 290 = .ok (.istore 6, 2) := dL_fails_290
theorem I86_292 : decode (zB 86) 292 = .ok (.iload 6, 2) := dL_fails_292
theorem I86_294 : decode (zB 86) 294 = .ok (.ifCond .eq 16, 3) := dL_fails_294
theorem I86_297 : decode (zB 86) 297 = .ok (.aload_n 0, 1) := dL_fails_297
theorem I86_298 : decode (zB 86) 298 = .ok (.invokevirtual 9, 3) := dL_fails_298
theorem I86_301 : decode (zB 86) 301 = .ok (.lload_n 3, 1) := dL_fails_301
theorem I86_302 : decode (zB 86) 302 = .ok (.lcmp, 1) := dL_fails_302
theorem I86_303 : decode (zB 86) 303 = .ok (.ifCond .ne 7, 3) := dL_fails_303
theorem I86_306 : decode (zB 86) 306 = .ok (.iconst 1, 1) := dL_fails_306
theorem I86_307 : decode (zB 86) 307 = .ok (.goto 4, 3) := dL_fails_307
theorem I86_310 : decode (zB 86) 310 = .ok (.iconst 0, 1) := dL_fails_310
theorem I86_311 : decode (zB 86) 311 = .ok (.ireturn, 1) := dL_fails_311
theorem I87_0 : decode (zB 87) 0 = .ok (.aload_n 0, 1) := dL_agrees_0
theorem I87_1 : decode (zB 87) 1 = .ok (.invokevirtual 15, 3) := dL_agrees_1
theorem I87_4 : decode (zB 87) 4 = .ok (.istore 5, 2) := dL_agrees_4
theorem I87_6 : decode (zB 87) 6 = .ok (.iconst 0, 1) := dL_agrees_6
theorem I87_7 : decode (zB 87) 7 = .ok (.istore 6, 2) := dL_agrees_7
theorem I87_9 : decode (zB 87) 9 = .ok (.iconst 0, 1) := dL_agrees_9
theorem I87_10 : decode (zB 87) 10 = .ok (.istore 7, 2) := dL_agrees_10
theorem I87_12 : decode (zB 87) 12 = .ok (.iconst 0, 1) := dL_agrees_12
theorem I87_13 : decode (zB 87) 13 = .ok (.istore 8, 2) := dL_agrees_13
theorem I87_15 : decode (zB 87) 15 = .ok (.bipush 30, 2) := dL_agrees_15
theorem I87_17 : decode (zB 87) 17 = .ok (.newarray .int, 2) := dL_agrees_17
theorem I87_19 : decode (zB 87) 19 = .ok (.astore 9, 2) := dL_agrees_19
theorem I87_21 : decode (zB 87) 21 = .ok (.iconst 0, 1) := dL_agrees_21
theorem I87_22 : decode (zB 87) 22 = .ok (.istore 10, 2) := dL_agrees_22
theorem I87_24 : decode (zB 87) 24 = .ok (.iload 10, 2) := dL_agrees_24
theorem I87_26 : decode (zB 87) 26 = .ok (.iload 5, 2) := dL_agrees_26
theorem I87_28 : decode (zB 87) 28 = .ok (.if_icmp .ge 130, 3) := dL_agrees_28
theorem I87_31 : decode (zB 87) 31 = .ok (.aload_n 0, 1) := dL_agrees_31
theorem I87_32 : decode (zB 87) 32 = .ok (.iload 10, 2) := dL_agrees_32
theorem I87_34 : decode (zB 87) 34 = .ok (.iconst 1, 1) := dL_agrees_34
theorem I87_35 : decode (zB 87) 35 = .ok (.invokevirtual 51, 3) := dL_agrees_35
theorem I87_38 : decode (zB 87) 38 = .ok (.istore 11, 2) := dL_agrees_38
theorem I87_40 : decode (zB 87) 40 = .ok (.aload_n 0, 1) := dL_agrees_40
theorem I87_41 : decode (zB 87) 41 = .ok (.iload 10, 2) := dL_agrees_41
theorem I87_43 : decode (zB 87) 43 = .ok (.iconst 2, 1) := dL_agrees_43
theorem I87_44 : decode (zB 87) 44 = .ok (.invokevirtual 51, 3) := dL_agrees_44
theorem I87_47 : decode (zB 87) 47 = .ok (.istore 12, 2) := dL_agrees_47
theorem I87_49 : decode (zB 87) 49 = .ok (.aload_n 0, 1) := dL_agrees_49
theorem I87_50 : decode (zB 87) 50 = .ok (.iload 10, 2) := dL_agrees_50
theorem I87_52 : decode (zB 87) 52 = .ok (.iconst 4, 1) := dL_agrees_52
theorem I87_53 : decode (zB 87) 53 = .ok (.invokevirtual 51, 3) := dL_agrees_53
theorem I87_56 : decode (zB 87) 56 = .ok (.istore 13, 2) := dL_agrees_56
theorem I87_58 : decode (zB 87) 58 = .ok (.iload 11, 2) := dL_agrees_58
theorem I87_60 : decode (zB 87) 60 = .ok (.iload 6, 2) := dL_agrees_60
theorem I87_62 : decode (zB 87) 62 = .ok (.if_icmp .lt 60, 3) := dL_agrees_62
theorem I87_65 : decode (zB 87) 65 = .ok (.iload 12, 2) := dL_agrees_65
theorem I87_67 : decode (zB 87) 67 = .ok (.iconst 1, 1) := dL_agrees_67
theorem I87_68 : decode (zB 87) 68 = .ok (.if_icmp .lt 54, 3) := dL_agrees_68
theorem I87_71 : decode (zB 87) 71 = .ok (.iload 11, 2) := dL_agrees_71
theorem I87_73 : decode (zB 87) 73 = .ok (.iload 12, 2) := dL_agrees_73
theorem I87_75 : decode (zB 87) 75 = .ok (.iadd, 1) := dL_agrees_75
theorem I87_76 : decode (zB 87) 76 = .ok (.sipush 10080, 3) := dL_agrees_76
theorem I87_79 : decode (zB 87) 79 = .ok (.if_icmp .gt 43, 3) := dL_agrees_79
theorem I87_82 : decode (zB 87) 82 = .ok (.aload_n 0, 1) := dL_agrees_82
theorem I87_83 : decode (zB 87) 83 = .ok (.iload 11, 2) := dL_agrees_83
theorem I87_85 : decode (zB 87) 85 = .ok (.invokevirtual 54, 3) := dL_agrees_85
theorem I87_88 : decode (zB 87) 88 = .ok (.iload 10, 2) := dL_agrees_88
theorem I87_90 : decode (zB 87) 90 = .ok (.if_icmp .ne 32, 3) := dL_agrees_90
theorem I87_93 : decode (zB 87) 93 = .ok (.aload_n 0, 1) := dL_agrees_93
theorem I87_94 : decode (zB 87) 94 = .ok (.iload 11, 2) := dL_agrees_94
theorem I87_96 : decode (zB 87) 96 = .ok (.iload 12, 2) := dL_agrees_96
theorem I87_98 : decode (zB 87) 98 = .ok (.iadd, 1) := dL_agrees_98
theorem I87_99 : decode (zB 87) 99 = .ok (.iconst 1, 1) := dL_agrees_99
theorem I87_100 : decode (zB 87) 100 = .ok (.isub, 1) := dL_agrees_100
theorem I87_101 : decode (zB 87) 101 = .ok (.invokevirtual 54, 3) := dL_agrees_101
theorem I87_104 : decode (zB 87) 104 = .ok (.iload 10, 2) := dL_agrees_104
theorem I87_106 : decode (zB 87) 106 = .ok (.if_icmp .ne 16, 3) := dL_agrees_106
theorem I87_109 : decode (zB 87) 109 = .ok (.iload 13, 2) := dL_agrees_109
theorem I87_111 : decode (zB 87) 111 = .ok (.bipush (-9), 2) := dL_agrees_111
theorem I87_113 : decode (zB 87) 113 = .ok (.if_icmp .lt 9, 3) := dL_agrees_113
theorem I87_116 : decode (zB 87) 116 = .ok (.iload 13, 2) := dL_agrees_116
theorem I87_118 : decode (zB 87) 118 = .ok (.iload_n 2, 1) := dL_agrees_118
theorem I87_119 : decode (zB 87) 119 = .ok (.if_icmp .lt 5, 3) := dL_agrees_119
theorem I87_122 : decode (zB 87) 122 = .ok (.iconst 0, 1) := dL_agrees_122
theorem I87_123 : decode (zB 87) 123 = .ok (.ireturn, 1) := dL_agrees_123
theorem I87_124 : decode (zB 87) 124 = .ok (.iload 13, 2) := dL_agrees_124
theorem I87_126 : decode (zB 87) 126 = .ok (.ifCond .lt 12, 3) := dL_agrees_126
theorem I87_129 : decode (zB 87) 129 = .ok (.aload 9, 2) := dL_agrees_129
theorem I87_131 : decode (zB 87) 131 = .ok (.iload 13, 2) := dL_agrees_131
theorem I87_133 : decode (zB 87) 133 = .ok (.dup2, 1) := dL_agrees_133
theorem I87_134 : decode (zB 87) 134 = .ok (.iaload, 1) := dL_agrees_134
theorem I87_135 : decode (zB 87) 135 = .ok (.iconst 1, 1) := dL_agrees_135
theorem I87_136 : decode (zB 87) 136 = .ok (.iadd, 1) := dL_agrees_136
theorem I87_137 : decode (zB 87) 137 = .ok (.iastore, 1) := dL_agrees_137
theorem I87_138 : decode (zB 87) 138 = .ok (.iload 11, 2) := dL_agrees_138
theorem I87_140 : decode (zB 87) 140 = .ok (.iload 12, 2) := dL_agrees_140
theorem I87_142 : decode (zB 87) 142 = .ok (.iadd, 1) := dL_agrees_142
theorem I87_143 : decode (zB 87) 143 = .ok (.istore 6, 2) := dL_agrees_143
theorem I87_145 : decode (zB 87) 145 = .ok (.iload 7, 2) := dL_agrees_145
theorem I87_147 : decode (zB 87) 147 = .ok (.iload 12, 2) := dL_agrees_147
theorem I87_149 : decode (zB 87) 149 = .ok (.iadd, 1) := dL_agrees_149
theorem I87_150 : decode (zB 87) 150 = .ok (.istore 7, 2) := dL_agrees_150
theorem I87_152 : decode (zB 87) 152 = .ok (.iinc 10 1, 3) := dL_agrees_152
theorem I87_155 : decode (zB 87) 155 = .ok (.goto (-131), 3) := dL_agrees_155
theorem I87_158 : decode (zB 87) 158 = .ok (.iconst 0, 1) := dL_agrees_158
theorem I87_159 : decode (zB 87) 159 = .ok (.istore 10, 2) := dL_agrees_159
theorem I87_161 : decode (zB 87) 161 = .ok (.iload 10, 2) := dL_agrees_161
theorem I87_163 : decode (zB 87) 163 = .ok (.iload_n 2, 1) := dL_agrees_163
theorem I87_164 : decode (zB 87) 164 = .ok (.if_icmp .ge 39, 3) := dL_agrees_164
theorem I87_167 : decode (zB 87) 167 = .ok (.aload_n 0, 1) := dL_agrees_167
theorem I87_168 : decode (zB 87) 168 = .ok (.iload 10, 2) := dL_agrees_168
theorem I87_170 : decode (zB 87) 170 = .ok (.invokevirtual 57, 3) := dL_agrees_170
theorem I87_173 : decode (zB 87) 173 = .ok (.aload_n 3, 1) := dL_agrees_173
theorem I87_174 : decode (zB 87) 174 = .ok (.iload 10, 2) := dL_agrees_174
theorem I87_176 : decode (zB 87) 176 = .ok (.iaload, 1) := dL_agrees_176
theorem I87_177 : decode (zB 87) 177 = .ok (.aload 9, 2) := dL_agrees_177
theorem I87_179 : decode (zB 87) 179 = .ok (.iload 10, 2) := dL_agrees_179
theorem I87_181 : decode (zB 87) 181 = .ok (.iaload, 1) := dL_agrees_181
theorem I87_182 : decode (zB 87) 182 = .ok (.isub, 1) := dL_agrees_182
theorem I87_183 : decode (zB 87) 183 = .ok (.if_icmp .ne 12, 3) := dL_agrees_183
theorem I87_186 : decode (zB 87) 186 = .ok (.aload_n 0, 1) := dL_agrees_186
theorem I87_187 : decode (zB 87) 187 = .ok (.iload 10, 2) := dL_agrees_187
theorem I87_189 : decode (zB 87) 189 = .ok (.invokevirtual 57, 3) := dL_agrees_189
theorem I87_192 : decode (zB 87) 192 = .ok (.ifCond .ge 5, 3) := dL_agrees_192
theorem I87_195 : decode (zB 87) 195 = .ok (.iconst 0, 1) := dL_agrees_195
theorem I87_196 : decode (zB 87) 196 = .ok (.ireturn, 1) := dL_agrees_196
theorem I87_197 : decode (zB 87) 197 = .ok (.iinc 10 1, 3) := dL_agrees_197
theorem I87_200 : decode (zB 87) 200 = .ok (.goto (-39), 3) := dL_agrees_200
theorem I87_203 : decode (zB 87) 203 = .ok (.iconst 0, 1) := dL_agrees_203
theorem I87_204 : decode (zB 87) 204 = .ok (.istore 10, 2) := dL_agrees_204
theorem I87_206 : decode (zB 87) 206 = .ok (.iconst 0, 1) := dL_agrees_206
theorem I87_207 : decode (zB 87) 207 = .ok (.istore 11, 2) := dL_agrees_207
theorem I87_209 : decode (zB 87) 209 = .ok (.iload 11, 2) := dL_agrees_209
theorem I87_211 : decode (zB 87) 211 = .ok (.iconst 4, 1) := dL_agrees_211
theorem I87_212 : decode (zB 87) 212 = .ok (.if_icmp .ge 24, 3) := dL_agrees_212
theorem I87_215 : decode (zB 87) 215 = .ok (.iload 10, 2) := dL_agrees_215
theorem I87_217 : decode (zB 87) 217 = .ok (.aload_n 0, 1) := dL_agrees_217
theorem I87_218 : decode (zB 87) 218 = .ok (.iload 11, 2) := dL_agrees_218
theorem I87_220 : decode (zB 87) 220 = .ok (.iconst 0, 1) := dL_agrees_220
theorem I87_221 : decode (zB 87) 221 = .ok (.sipush 10080, 3) := dL_agrees_221
theorem I87_224 : decode (zB 87) 224 = .ok (.invokevirtual 66, 3) := dL_agrees_224
theorem I87_227 : decode (zB 87) 227 = .ok (.iadd, 1) := dL_agrees_227
theorem I87_228 : decode (zB 87) 228 = .ok (.istore 10, 2) := dL_agrees_228
theorem I87_230 : decode (zB 87) 230 = .ok (.iinc 11 1, 3) := dL_agrees_230
theorem I87_233 : decode (zB 87) 233 = .ok (.goto (-24), 3) := dL_agrees_233
theorem I87_236 : decode (zB 87) 236 = .ok (.iload 4, 2) := dL_agrees_236
theorem I87_238 : decode (zB 87) 238 = .ok (.sipush 9000, 3) := dL_agrees_238
theorem I87_241 : decode (zB 87) 241 = .ok (.invokestatic 78, 3) := dL_agrees_241
theorem I87_244 : decode (zB 87) 244 = .ok (.istore 11, 2) := dL_agrees_244
theorem I87_246 : decode (zB 87) 246 = .ok (.iload 11, 2) := dL_agrees_246
theorem I87_248 : decode (zB 87) 248 = .ok (.iconst 1, 1) := dL_agrees_248
theorem I87_249 : decode (zB 87) 249 = .ok (.iadd, 1) := dL_agrees_249
theorem I87_250 : decode (zB 87) 250 = .ok (.iload 4, 2) := dL_agrees_250
theorem I87_252 : decode (zB 87) 252 = .ok (.bipush 13, 2) := dL_agrees_252
theorem I87_254 : decode (zB 87) 254 = .ok (.ishr, 1) := dL_agrees_254
theorem I87_255 : decode (zB 87) 255 = .ok (.sipush 1000, 3) := dL_agrees_255
theorem I87_258 : decode (zB 87) 258 = .ok (.invokestatic 78, 3) := dL_agrees_258
theorem I87_261 : decode (zB 87) 261 = .ok (.iadd, 1) := dL_agrees_261
theorem I87_262 : decode (zB 87) 262 = .ok (.istore 12, 2) := dL_agrees_262
theorem I87_264 : decode (zB 87) 264 = .ok (.iconst 0, 1) := dL_agrees_264
theorem I87_265 : decode (zB 87) 265 = .ok (.istore 13, 2) := dL_agrees_265
theorem I87_267 : decode (zB 87) 267 = .ok (.iconst 0, 1) := dL_agrees_267
theorem I87_268 : decode (zB 87) 268 = .ok (.istore 14, 2) := dL_agrees_268
theorem I87_270 : decode (zB 87) 270 = .ok (.iload 14, 2) := dL_agrees_270
theorem I87_272 : decode (zB 87) 272 = .ok (.iconst 5, 1) := dL_agrees_272
theorem I87_273 : decode (zB 87) 273 = .ok (.if_icmp .ge 24, 3) := dL_agrees_273
theorem I87_276 : decode (zB 87) 276 = .ok (.iload 13, 2) := dL_agrees_276
theorem I87_278 : decode (zB 87) 278 = .ok (.aload_n 0, 1) := dL_agrees_278
theorem I87_279 : decode (zB 87) 279 = .ok (.iload 14, 2) := dL_agrees_279
theorem I87_281 : decode (zB 87) 281 = .ok (.iload 11, 2) := dL_agrees_281
theorem I87_283 : decode (zB 87) 283 = .ok (.iload 12, 2) := dL_agrees_283
theorem I87_285 : decode (zB 87) 285 = .ok (.invokevirtual 66, 3) := dL_agrees_285
theorem I87_288 : decode (zB 87) 288 = .ok (.iadd, 1) := dL_agrees_288
theorem I87_289 : decode (zB 87) 289 = .ok (.istore 13, 2) := dL_agrees_289
theorem I87_291 : decode (zB 87) 291 = .ok (.iinc 14 1, 3) := dL_agrees_291
theorem I87_294 : decode (zB 87) 294 = .ok (.goto (-24), 3) := dL_agrees_294
theorem I87_297 : decode (zB 87) 297 = .ok (.aload_n 0, 1) := dL_agrees_297
theorem I87_298 : decode (zB 87) 298 = .ok (.iload 11, 2) := dL_agrees_298
theorem I87_300 : decode (zB 87) 300 = .ok (.iload 12, 2) := dL_agrees_300
theorem I87_302 : decode (zB 87) 302 = .ok (.invokevirtual 69, 3) := dL_agrees_302
theorem I87_305 : decode (zB 87) 305 = .ok (.istore 14, 2) := dL_agrees_305
theorem I87_307 : decode (zB 87) 307 = .ok (.aload_n 0, 1) := dL_agrees_307
theorem I87_308 : decode (zB 87) 308 = .ok (.iconst 4, 1) := dL_agrees_308
theorem I87_309 : decode (zB 87) 309 = .ok (.iload 11, 2) := dL_agrees_309
theorem I87_311 : decode (zB 87) 311 = .ok (.iload 12, 2) := dL_agrees_311
theorem I87_313 : decode (zB 87) 313 = .ok (.invokevirtual 66, 3) := dL_agrees_313
theorem I87_316 : decode (zB 87) 316 = .ok (.istore 15, 2) := dL_agrees_316
theorem I87_318 : decode (zB 87) 318 = .ok (.iload 14, 2) := dL_agrees_318
theorem I87_320 : decode (zB 87) 320 = .ok (.ifCond .ge 23, 3) := dL_agrees_320
theorem I87_323 : decode (zB 87) 323 = .ok (.iload 14, 2) := dL_agrees_323
theorem I87_325 : decode (zB 87) 325 = .ok (.bipush (-9), 2) := dL_agrees_325
theorem I87_327 : decode (zB 87) 327 = .ok (.if_icmp .ne 12, 3) := dL_agrees_327
theorem I87_330 : decode (zB 87) 330 = .ok (.iload 15, 2) := dL_agrees_330
theorem I87_332 : decode (zB 87) 332 = .ok (.ifCond .ne 7, 3) := dL_agrees_332
theorem I87_335 : decode (zB 87) 335 = .ok (.iconst 1, 1) := dL_agrees_335
theorem I87_336 : decode (zB 87) 336 = .ok (.goto 92, 3) := dL_agrees_336
theorem I87_339 : decode (zB 87) 339 = .ok (.iconst 0, 1) := dL_agrees_339
theorem I87_340 : decode (zB 87) 340 = .ok (.goto 88, 3) := dL_agrees_340
theorem I87_343 : decode (zB 87) 343 = .ok (.iload 14, 2) := dL_agrees_343
theorem I87_345 : decode (zB 87) 345 = .ok (.sipush 10081, 3) := dL_agrees_345
theorem I87_348 : decode (zB 87) 348 = .ok (.idiv, 1) := dL_agrees_348
theorem I87_349 : decode (zB 87) 349 = .ok (.iload 15, 2) := dL_agrees_349
theorem I87_351 : decode (zB 87) 351 = .ok (.if_icmp .gt 76, 3) := dL_agrees_351
theorem I87_354 : decode (zB 87) 354 = .ok (.iload 14, 2) := dL_agrees_354
theorem I87_356 : decode (zB 87) 356 = .ok (.sipush 10081, 3) := dL_agrees_356
theorem I87_359 : decode (zB 87) 359 = .ok (.idiv, 1) := dL_agrees_359
theorem I87_360 : decode (zB 87) 360 = .ok (.iconst 1, 1) := dL_agrees_360
theorem I87_361 : decode (zB 87) 361 = .ok (.if_icmp .lt 66, 3) := dL_agrees_361
theorem I87_364 : decode (zB 87) 364 = .ok (.iload 14, 2) := dL_agrees_364
theorem I87_366 : decode (zB 87) 366 = .ok (.sipush 10081, 3) := dL_agrees_366
theorem I87_369 : decode (zB 87) 369 = .ok (.irem, 1) := dL_agrees_369
theorem I87_370 : decode (zB 87) 370 = .ok (.iload 11, 2) := dL_agrees_370
theorem I87_372 : decode (zB 87) 372 = .ok (.if_icmp .lt 55, 3) := dL_agrees_372
theorem I87_375 : decode (zB 87) 375 = .ok (.aload_n 0, 1) := dL_agrees_375
theorem I87_376 : decode (zB 87) 376 = .ok (.iload 14, 2) := dL_agrees_376
theorem I87_378 : decode (zB 87) 378 = .ok (.sipush 10081, 3) := dL_agrees_378
theorem I87_381 : decode (zB 87) 381 = .ok (.irem, 1) := dL_agrees_381
theorem I87_382 : decode (zB 87) 382 = .ok (.invokevirtual 54, 3) := dL_agrees_382
theorem I87_385 : decode (zB 87) 385 = .ok (.bipush (-9), 2) := dL_agrees_385
theorem I87_387 : decode (zB 87) 387 = .ok (.if_icmp .ne 40, 3) := dL_agrees_387
theorem I87_390 : decode (zB 87) 390 = .ok (.aload_n 0, 1) := dL_agrees_390
theorem I87_391 : decode (zB 87) 391 = .ok (.iconst 4, 1) := dL_agrees_391
theorem I87_392 : decode (zB 87) 392 = .ok (.iload 14, 2) := dL_agrees_392
theorem I87_394 : decode (zB 87) 394 = .ok (.sipush 10081, 3) := dL_agrees_394
theorem I87_397 : decode (zB 87) 397 = .ok (.irem, 1) := dL_agrees_397
theorem I87_398 : decode (zB 87) 398 = .ok (.iload 14, 2) := dL_agrees_398
theorem I87_400 : decode (zB 87) 400 = .ok (.sipush 10081, 3) := dL_agrees_400
theorem I87_403 : decode (zB 87) 403 = .ok (.irem, 1) := dL_agrees_403
theorem I87_404 : decode (zB 87) 404 = .ok (.iload 14, 2) := dL_agrees_404
theorem I87_406 : decode (zB 87) 406 = .ok (.sipush 10081, 3) := dL_agrees_406
theorem I87_409 : decode (zB 87) 409 = .ok (.idiv, 1) := dL_agrees_409
theorem I87_410 : decode (zB 87) 410 = .ok (.iadd, 1) := dL_agrees_410
theorem I87_411 : decode (zB 87) 411 = .ok (.invokevirtual 66, 3) := dL_agrees_411
theorem I87_414 : decode (zB 87) 414 = .ok (.iload 14, 2) := dL_agrees_414
theorem I87_416 : decode (zB 87) 416 = .ok (.sipush 10081, 3) := dL_agrees_416
theorem I87_419 : decode (zB 87) 419 = .ok (.idiv, 1) := dL_agrees_419
theorem I87_420 : decode (zB 87) 420 = .ok (.if_icmp .ne 7, 3) := dL_agrees_420
theorem I87_423 : decode (zB 87) 423 = .ok (.iconst 1, 1) := dL_agrees_423
theorem I87_424 : decode (zB 87) 424 = .ok (.goto 4, 3) := dL_agrees_424
theorem I87_427 : decode (zB 87) 427 = .ok (.iconst 0, 1) := dL_agrees_427
theorem I87_428 : decode (zB 87) 428 = .ok (.istore 16, 2) := dL_agrees_428
theorem I87_430 : decode (zB 87) 430 = .ok (.iload 16, 2) := dL_agrees_430
theorem I87_432 : decode (zB 87) 432 = .ok (.ifCond .eq 67, 3) := dL_agrees_432
theorem I87_435 : decode (zB 87) 435 = .ok (.iload 10, 2) := dL_agrees_435
theorem I87_437 : decode (zB 87) 437 = .ok (.iload 7, 2) := dL_agrees_437
theorem I87_439 : decode (zB 87) 439 = .ok (.if_icmp .ne 60, 3) := dL_agrees_439
theorem I87_442 : decode (zB 87) 442 = .ok (.aload_n 0, 1) := dL_agrees_442
theorem I87_443 : decode (zB 87) 443 = .ok (.iconst 4, 1) := dL_agrees_443
theorem I87_444 : decode (zB 87) 444 = .ok (.iconst 0, 1) := dL_agrees_444
theorem I87_445 : decode (zB 87) 445 = .ok (.sipush 10080, 3) := dL_agrees_445
theorem I87_448 : decode (zB 87) 448 = .ok (.invokevirtual 66, 3) := dL_agrees_448
theorem I87_451 : decode (zB 87) 451 = .ok (.sipush 10080, 3) := dL_agrees_451
theorem I87_454 : decode (zB 87) 454 = .ok (.iload 7, 2) := dL_agrees_454
theorem I87_456 : decode (zB 87) 456 = .ok (.isub, 1) := dL_agrees_456
theorem I87_457 : decode (zB 87) 457 = .ok (.if_icmp .ne 42, 3) := dL_agrees_457
theorem I87_460 : decode (zB 87) 460 = .ok (.iload 13, 2) := dL_agrees_460
theorem I87_462 : decode (zB 87) 462 = .ok (.iload 12, 2) := dL_agrees_462
theorem I87_464 : decode (zB 87) 464 = .ok (.iload 11, 2) := dL_agrees_464
theorem I87_466 : decode (zB 87) 466 = .ok (.isub, 1) := dL_agrees_466
theorem I87_467 : decode (zB 87) 467 = .ok (.if_icmp .ne 32, 3) := dL_agrees_467
theorem I87_470 : decode (zB 87) 470 = .ok (.iload 5, 2) := dL_agrees_470
theorem I87_472 : decode (zB 87) 472 = .ok (.bipush 60, 2) := dL_agrees_472
theorem I87_474 : decode (zB 87) 474 = .ok (.if_icmp .gt 25, 3) := dL_agrees_474
theorem I87_477 : decode (zB 87) 477 = .ok (.aload_n 0, 1) := dL_agrees_477
theorem I87_478 : decode (zB 87) 478 = .ok (.invokevirtual 83, 3) := dL_agrees_478
theorem I87_481 : decode (zB 87) 481 = .ok (.iload 8, 2) := dL_agrees_481
theorem I87_483 : decode (zB 87) 483 = .ok (.if_icmp .lt 16, 3) := dL_agrees_483
theorem I87_486 : decode (zB 87) 486 = .ok (.aload_n 0, 1) := dL_agrees_486
theorem I87_487 : decode (zB 87) 487 = .ok (.invokevirtual 83, 3) := dL_agrees_487
theorem I87_490 : decode (zB 87) 490 = .ok (.iload 5, 2) := dL_agrees_490
theorem I87_492 : decode (zB 87) 492 = .ok (.if_icmp .gt 7, 3) := dL_agrees_492
theorem I87_495 : decode (zB 87) 495 = .ok (.iconst 1, 1) := dL_agrees_495
theorem I87_496 : decode (zB 87) 496 = .ok (.goto 4, 3) := dL_agrees_496
theorem I87_499 : decode (zB 87) 499 = .ok (.iconst 0, 1) := dL_agrees_499
theorem I87_500 : decode (zB 87) 500 = .ok (.ireturn, 1) := dL_agrees_500
theorem I88_0 : decode (zB 88) 0 = .ok (.aload_n 0, 1) := dL_places_0
theorem I88_1 : decode (zB 88) 1 = .ok (.iload_n 1, 1) := dL_places_1
theorem I88_2 : decode (zB 88) 2 = .ok (.iload_n 2, 1) := dL_places_2
theorem I88_3 : decode (zB 88) 3 = .ok (.invokevirtual 60, 3) := dL_places_3
theorem I88_6 : decode (zB 88) 6 = .ok (.istore 4, 2) := dL_places_6
theorem I88_8 : decode (zB 88) 8 = .ok (.aload_n 0, 1) := dL_places_8
theorem I88_9 : decode (zB 88) 9 = .ok (.invokevirtual 15, 3) := dL_places_9
theorem I88_12 : decode (zB 88) 12 = .ok (.istore 5, 2) := dL_places_12
theorem I88_14 : decode (zB 88) 14 = .ok (.aload_n 0, 1) := dL_places_14
theorem I88_15 : decode (zB 88) 15 = .ok (.invokevirtual 9, 3) := dL_places_15
theorem I88_18 : decode (zB 88) 18 = .ok (.lstore 6, 2) := dL_places_18
theorem I88_20 : decode (zB 88) 20 = .ok (.aload_n 0, 1) := dL_places_20
theorem I88_21 : decode (zB 88) 21 = .ok (.iload_n 1, 1) := dL_places_21
theorem I88_22 : decode (zB 88) 22 = .ok (.iload_n 2, 1) := dL_places_22
theorem I88_23 : decode (zB 88) 23 = .ok (.iload_n 3, 1) := dL_places_23
theorem I88_24 : decode (zB 88) 24 = .ok (.invokevirtual 30, 3) := dL_places_24
theorem I88_27 : decode (zB 88) 27 = .ok (.istore 8, 2) := dL_places_27
theorem I88_29 : decode (zB 88) 29 = .ok (.iload 4, 2) := dL_places_29
theorem I88_31 : decode (zB 88) 31 = .ok (.ifCond .eq 40, 3) := dL_places_31
theorem I88_34 : decode (zB 88) 34 = .ok (.iload 8, 2) := dL_places_34
theorem I88_36 : decode (zB 88) 36 = .ok (.iload 4, 2) := dL_places_36
theorem I88_38 : decode (zB 88) 38 = .ok (.if_icmp .ne 31, 3) := dL_places_38
theorem I88_41 : decode (zB 88) 41 = .ok (.iload 8, 2) := dL_places_41
theorem I88_43 : decode (zB 88) 43 = .ok (.bipush (-3), 2) := dL_places_43
theorem I88_45 : decode (zB 88) 45 = .ok (.if_icmp .gt 24, 3) := dL_places_45
theorem I88_48 : decode (zB 88) 48 = .ok (.iload 8, 2) := dL_places_48
theorem I88_50 : decode (zB 88) 50 = .ok (.bipush (-6), 2) := dL_places_50
theorem I88_52 : decode (zB 88) 52 = .ok (.if_icmp .lt 17, 3) := dL_places_52
theorem I88_55 : decode (zB 88) 55 = .ok (.aload_n 0, 1) := dL_places_55
theorem I88_56 : decode (zB 88) 56 = .ok (.invokevirtual 9, 3) := dL_places_56
theorem I88_59 : decode (zB 88) 59 = .ok (.lload 6, 2) := dL_places_59
theorem I88_61 : decode (zB 88) 61 = .ok (.lcmp, 1) := dL_places_61
theorem I88_62 : decode (zB 88) 62 = .ok (.ifCond .ne 7, 3) := dL_places_62
theorem I88_65 : decode (zB 88) 65 = .ok (.iconst 1, 1) := dL_places_65
theorem I88_66 : decode (zB 88) 66 = .ok (.goto 4, 3) := dL_places_66
theorem I88_69 : decode (zB 88) 69 = .ok (.iconst 0, 1) := dL_places_69
theorem I88_70 : decode (zB 88) 70 = .ok (.ireturn, 1) := dL_places_70
theorem I88_71 : decode (zB 88) 71 = .ok (.iload 8, 2) := dL_places_71
theorem I88_73 : decode (zB 88) 73 = .ok (.ifCond .lt 76, 3) := dL_places_73
theorem I88_76 : decode (zB 88) 76 = .ok (.iload 8, 2) := dL_places_76
theorem I88_78 : decode (zB 88) 78 = .ok (.iload 5, 2) := dL_places_78
theorem I88_80 : decode (zB 88) 80 = .ok (.if_icmp .gt 69, 3) := dL_places_80
theorem I88_83 : decode (zB 88) 83 = .ok (.aload_n 0, 1) := dL_places_83
theorem I88_84 : decode (zB 88) 84 = .ok (.invokevirtual 15, 3) := dL_places_84
theorem I88_87 : decode (zB 88) 87 = .ok (.iload 5, 2) := dL_places_87
theorem I88_89 : decode (zB 88) 89 = .ok (.iconst 1, 1) := dL_places_89
theorem I88_90 : decode (zB 88) 90 = .ok (.iadd, 1) := dL_places_90
theorem I88_91 : decode (zB 88) 91 = .ok (.if_icmp .ne 58, 3) := dL_places_91
theorem I88_94 : decode (zB 88) 94 = .ok (.aload_n 0, 1) := dL_places_94
theorem I88_95 : decode (zB 88) 95 = .ok (.iload 8, 2) := dL_places_95
theorem I88_97 : decode (zB 88) 97 = .ok (.iconst 0, 1) := dL_places_97
theorem I88_98 : decode (zB 88) 98 = .ok (.invokevirtual 51, 3) := dL_places_98
theorem I88_101 : decode (zB 88) 101 = .ok (.iload_n 1, 1) := dL_places_101
theorem I88_102 : decode (zB 88) 102 = .ok (.if_icmp .ne 47, 3) := dL_places_102
theorem I88_105 : decode (zB 88) 105 = .ok (.aload_n 0, 1) := dL_places_105
theorem I88_106 : decode (zB 88) 106 = .ok (.iload 8, 2) := dL_places_106
theorem I88_108 : decode (zB 88) 108 = .ok (.iconst 1, 1) := dL_places_108
theorem I88_109 : decode (zB 88) 109 = .ok (.invokevirtual 51, 3) := dL_places_109
theorem I88_112 : decode (zB 88) 112 = .ok (.iload_n 2, 1) := dL_places_112
theorem I88_113 : decode (zB 88) 113 = .ok (.if_icmp .ne 36, 3) := dL_places_113
theorem I88_116 : decode (zB 88) 116 = .ok (.aload_n 0, 1) := dL_places_116
theorem I88_117 : decode (zB 88) 117 = .ok (.iload 8, 2) := dL_places_117
theorem I88_119 : decode (zB 88) 119 = .ok (.iconst 3, 1) := dL_places_119
theorem I88_120 : decode (zB 88) 120 = .ok (.invokevirtual 51, 3) := dL_places_120
theorem I88_123 : decode (zB 88) 123 = .ok (.iload_n 3, 1) := dL_places_123
theorem I88_124 : decode (zB 88) 124 = .ok (.ifCond .eq 7, 3) := dL_places_124
theorem I88_127 : decode (zB 88) 127 = .ok (.iconst 1, 1) := dL_places_127
theorem I88_128 : decode (zB 88) 128 = .ok (.goto 4, 3) := dL_places_128
theorem I88_131 : decode (zB 88) 131 = .ok (.iconst 0, 1) := dL_places_131
theorem I88_132 : decode (zB 88) 132 = .ok (.if_icmp .ne 17, 3) := dL_places_132
theorem I88_135 : decode (zB 88) 135 = .ok (.aload_n 0, 1) := dL_places_135
theorem I88_136 : decode (zB 88) 136 = .ok (.iload_n 2, 1) := dL_places_136
theorem I88_137 : decode (zB 88) 137 = .ok (.invokevirtual 54, 3) := dL_places_137
theorem I88_140 : decode (zB 88) 140 = .ok (.iload 8, 2) := dL_places_140
theorem I88_142 : decode (zB 88) 142 = .ok (.if_icmp .ne 7, 3) := dL_places_142
theorem I88_145 : decode (zB 88) 145 = .ok (.iconst 1, 1) := dL_places_145
theorem I88_146 : decode (zB 88) 146 = .ok (.goto 4, 3) := dL_places_146
theorem I88_149 : decode (zB 88) 149 = .ok (.iconst 0, 1) := dL_places_149
theorem I88_150 : decode (zB 88) 150 = .ok (.ireturn, 1) := dL_places_150
theorem I89_0 : decode (zB 89) 0 = .ok (.aload_n 0, 1) := dL_finds_0
theorem I89_1 : decode (zB 89) 1 = .ok (.iload_n 1, 1) := dL_finds_1
theorem I89_2 : decode (zB 89) 2 = .ok (.iload_n 2, 1) := dL_finds_2
theorem I89_3 : decode (zB 89) 3 = .ok (.invokevirtual 38, 3) := dL_finds_3
theorem I89_6 : decode (zB 89) 6 = .ok (.istore_n 3, 1) := dL_finds_6
theorem I89_7 : decode (zB 89) 7 = .ok (.iload_n 3, 1) := dL_finds_7
theorem I89_8 : decode (zB 89) 8 = .ok (.ifCond .ge 24, 3) := dL_finds_8
theorem I89_11 : decode (zB 89) 11 = .ok (.iload_n 3, 1) := dL_finds_11
theorem I89_12 : decode (zB 89) 12 = .ok (.bipush (-9), 2) := dL_finds_12
theorem I89_14 : decode (zB 89) 14 = .ok (.if_icmp .ne 16, 3) := dL_finds_14
theorem I89_17 : decode (zB 89) 17 = .ok (.aload_n 0, 1) := dL_finds_17
theorem I89_18 : decode (zB 89) 18 = .ok (.iload_n 1, 1) := dL_finds_18
theorem I89_19 : decode (zB 89) 19 = .ok (.iload_n 2, 1) := dL_finds_19
theorem I89_20 : decode (zB 89) 20 = .ok (.invokevirtual 60, 3) := dL_finds_20
theorem I89_23 : decode (zB 89) 23 = .ok (.ifCond .eq 7, 3) := dL_finds_23
theorem I89_26 : decode (zB 89) 26 = .ok (.iconst 1, 1) := dL_finds_26
theorem I89_27 : decode (zB 89) 27 = .ok (.goto 4, 3) := dL_finds_27
theorem I89_30 : decode (zB 89) 30 = .ok (.iconst 0, 1) := dL_finds_30
theorem I89_31 : decode (zB 89) 31 = .ok (.ireturn, 1) := dL_finds_31
theorem I89_32 : decode (zB 89) 32 = .ok (.iload_n 3, 1) := dL_finds_32
theorem I89_33 : decode (zB 89) 33 = .ok (.iload_n 2, 1) := dL_finds_33
theorem I89_34 : decode (zB 89) 34 = .ok (.if_icmp .lt 50, 3) := dL_finds_34
theorem I89_37 : decode (zB 89) 37 = .ok (.iload_n 3, 1) := dL_finds_37
theorem I89_38 : decode (zB 89) 38 = .ok (.iload_n 2, 1) := dL_finds_38
theorem I89_39 : decode (zB 89) 39 = .ok (.sipush 1440, 3) := dL_finds_39
theorem I89_42 : decode (zB 89) 42 = .ok (.iadd, 1) := dL_finds_42
theorem I89_43 : decode (zB 89) 43 = .ok (.if_icmp .ge 41, 3) := dL_finds_43
theorem I89_46 : decode (zB 89) 46 = .ok (.aload_n 0, 1) := dL_finds_46
theorem I89_47 : decode (zB 89) 47 = .ok (.iload_n 1, 1) := dL_finds_47
theorem I89_48 : decode (zB 89) 48 = .ok (.iload_n 3, 1) := dL_finds_48
theorem I89_49 : decode (zB 89) 49 = .ok (.invokevirtual 60, 3) := dL_finds_49
theorem I89_52 : decode (zB 89) 52 = .ok (.ifCond .ne 32, 3) := dL_finds_52
theorem I89_55 : decode (zB 89) 55 = .ok (.iload_n 3, 1) := dL_finds_55
theorem I89_56 : decode (zB 89) 56 = .ok (.iload_n 2, 1) := dL_finds_56
theorem I89_57 : decode (zB 89) 57 = .ok (.if_icmp .eq 23, 3) := dL_finds_57
theorem I89_60 : decode (zB 89) 60 = .ok (.aload_n 0, 1) := dL_finds_60
theorem I89_61 : decode (zB 89) 61 = .ok (.iload_n 1, 1) := dL_finds_61
theorem I89_62 : decode (zB 89) 62 = .ok (.iload_n 2, 1) := dL_finds_62
theorem I89_63 : decode (zB 89) 63 = .ok (.invokevirtual 60, 3) := dL_finds_63
theorem I89_66 : decode (zB 89) 66 = .ok (.ifCond .eq 18, 3) := dL_finds_66
theorem I89_69 : decode (zB 89) 69 = .ok (.aload_n 0, 1) := dL_finds_69
theorem I89_70 : decode (zB 89) 70 = .ok (.iload_n 1, 1) := dL_finds_70
theorem I89_71 : decode (zB 89) 71 = .ok (.iload_n 3, 1) := dL_finds_71
theorem I89_72 : decode (zB 89) 72 = .ok (.iconst 1, 1) := dL_finds_72
theorem I89_73 : decode (zB 89) 73 = .ok (.isub, 1) := dL_finds_73
theorem I89_74 : decode (zB 89) 74 = .ok (.invokevirtual 60, 3) := dL_finds_74
theorem I89_77 : decode (zB 89) 77 = .ok (.ifCond .eq 7, 3) := dL_finds_77
theorem I89_80 : decode (zB 89) 80 = .ok (.iconst 1, 1) := dL_finds_80
theorem I89_81 : decode (zB 89) 81 = .ok (.goto 4, 3) := dL_finds_81
theorem I89_84 : decode (zB 89) 84 = .ok (.iconst 0, 1) := dL_finds_84
theorem I89_85 : decode (zB 89) 85 = .ok (.ireturn, 1) := dL_finds_85
theorem I90_0 : decode (zB 90) 0 = .ok (.aload_n 0, 1) := dL_fills_0
theorem I90_1 : decode (zB 90) 1 = .ok (.invokevirtual 15, 3) := dL_fills_1
theorem I90_4 : decode (zB 90) 4 = .ok (.istore 4, 2) := dL_fills_4
theorem I90_6 : decode (zB 90) 6 = .ok (.aload_n 0, 1) := dL_fills_6
theorem I90_7 : decode (zB 90) 7 = .ok (.iconst 4, 1) := dL_fills_7
theorem I90_8 : decode (zB 90) 8 = .ok (.iload_n 2, 1) := dL_fills_8
theorem I90_9 : decode (zB 90) 9 = .ok (.iload_n 3, 1) := dL_fills_9
theorem I90_10 : decode (zB 90) 10 = .ok (.invokevirtual 66, 3) := dL_fills_10
theorem I90_13 : decode (zB 90) 13 = .ok (.istore 5, 2) := dL_fills_13
theorem I90_15 : decode (zB 90) 15 = .ok (.aload_n 0, 1) := dL_fills_15
theorem I90_16 : decode (zB 90) 16 = .ok (.invokevirtual 9, 3) := dL_fills_16
theorem I90_19 : decode (zB 90) 19 = .ok (.lstore 6, 2) := dL_fills_19
theorem I90_21 : decode (zB 90) 21 = .ok (.aload_n 0, 1) := dL_fills_21
theorem I90_22 : decode (zB 90) 22 = .ok (.iload_n 2, 1) := dL_fills_22
theorem I90_23 : decode (zB 90) 23 = .ok (.iload_n 3, 1) := dL_fills_23
theorem I90_24 : decode (zB 90) 24 = .ok (.invokevirtual 42, 3) := dL_fills_24
theorem I90_27 : decode (zB 90) 27 = .ok (.istore 8, 2) := dL_fills_27
theorem I90_29 : decode (zB 90) 29 = .ok (.iload 8, 2) := dL_fills_29
theorem I90_31 : decode (zB 90) 31 = .ok (.ifCond .ge 51, 3) := dL_fills_31
theorem I90_34 : decode (zB 90) 34 = .ok (.aload_n 0, 1) := dL_fills_34
theorem I90_35 : decode (zB 90) 35 = .ok (.invokevirtual 9, 3) := dL_fills_35
theorem I90_38 : decode (zB 90) 38 = .ok (.lload 6, 2) := dL_fills_38
theorem I90_40 : decode (zB 90) 40 = .ok (.lcmp, 1) := dL_fills_40
theorem I90_41 : decode (zB 90) 41 = .ok (.ifCond .ne 39, 3) := dL_fills_41
theorem I90_44 : decode (zB 90) 44 = .ok (.iload 5, 2) := dL_fills_44
theorem I90_46 : decode (zB 90) 46 = .ok (.iload_n 3, 1) := dL_fills_46
theorem I90_47 : decode (zB 90) 47 = .ok (.iload_n 2, 1) := dL_fills_47
theorem I90_48 : decode (zB 90) 48 = .ok (.isub, 1) := dL_fills_48
theorem I90_49 : decode (zB 90) 49 = .ok (.if_icmp .ge 13, 3) := dL_fills_49
theorem I90_52 : decode (zB 90) 52 = .ok (.iload 8, 2) := dL_fills_52
theorem I90_54 : decode (zB 90) 54 = .ok (.bipush (-4), 2) := dL_fills_54
theorem I90_56 : decode (zB 90) 56 = .ok (.if_icmp .ne 24, 3) := dL_fills_56
theorem I90_59 : decode (zB 90) 59 = .ok (.goto 17, 3) := dL_fills_59
theorem I90_62 : decode (zB 90) 62 = .ok (.iload 8, 2) := dL_fills_62
theorem I90_64 : decode (zB 90) 64 = .ok (.bipush (-9), 2) := dL_fills_64
theorem I90_66 : decode (zB 90) 66 = .ok (.if_icmp .eq 10, 3) := dL_fills_66
theorem I90_69 : decode (zB 90) 69 = .ok (.iload 8, 2) := dL_fills_69
theorem I90_71 : decode (zB 90) 71 = .ok (.bipush (-3), 2) := dL_fills_71
theorem I90_73 : decode (zB 90) 73 = .ok (.if_icmp .ne 7, 3) := dL_fills_73
theorem I90_76 : decode (zB 90) 76 = .ok (.iconst 1, 1) := dL_fills_76
theorem I90_77 : decode (zB 90) 77 = .ok (.goto 4, 3) := dL_fills_77
theorem I90_80 : decode (zB 90) 80 = .ok (.iconst 0, 1) := dL_fills_80
theorem I90_81 : decode (zB 90) 81 = .ok (.ireturn, 1) := dL_fills_81
theorem I90_82 : decode (zB 90) 82 = .ok (.iload 5, 2) := dL_fills_82
theorem I90_84 : decode (zB 90) 84 = .ok (.iload_n 3, 1) := dL_fills_84
theorem I90_85 : decode (zB 90) 85 = .ok (.iload_n 2, 1) := dL_fills_85
theorem I90_86 : decode (zB 90) 86 = .ok (.isub, 1) := dL_fills_86
theorem I90_87 : decode (zB 90) 87 = .ok (.if_icmp .ne 70, 3) := dL_fills_87
theorem I90_90 : decode (zB 90) 90 = .ok (.iload 8, 2) := dL_fills_90
theorem I90_92 : decode (zB 90) 92 = .ok (.iconst 1, 1) := dL_fills_92
theorem I90_93 : decode (zB 90) 93 = .ok (.if_icmp .lt 64, 3) := dL_fills_93
theorem I90_96 : decode (zB 90) 96 = .ok (.aload_n 0, 1) := dL_fills_96
theorem I90_97 : decode (zB 90) 97 = .ok (.invokevirtual 15, 3) := dL_fills_97
theorem I90_100 : decode (zB 90) 100 = .ok (.iload 4, 2) := dL_fills_100
theorem I90_102 : decode (zB 90) 102 = .ok (.iload 8, 2) := dL_fills_102
theorem I90_104 : decode (zB 90) 104 = .ok (.iadd, 1) := dL_fills_104
theorem I90_105 : decode (zB 90) 105 = .ok (.if_icmp .ne 52, 3) := dL_fills_105
theorem I90_108 : decode (zB 90) 108 = .ok (.aload_n 0, 1) := dL_fills_108
theorem I90_109 : decode (zB 90) 109 = .ok (.iconst 4, 1) := dL_fills_109
theorem I90_110 : decode (zB 90) 110 = .ok (.iload_n 2, 1) := dL_fills_110
theorem I90_111 : decode (zB 90) 111 = .ok (.iload_n 3, 1) := dL_fills_111
theorem I90_112 : decode (zB 90) 112 = .ok (.invokevirtual 66, 3) := dL_fills_112
theorem I90_115 : decode (zB 90) 115 = .ok (.ifCond .ne 42, 3) := dL_fills_115
theorem I90_118 : decode (zB 90) 118 = .ok (.aload_n 0, 1) := dL_fills_118
theorem I90_119 : decode (zB 90) 119 = .ok (.iload_n 2, 1) := dL_fills_119
theorem I90_120 : decode (zB 90) 120 = .ok (.invokevirtual 54, 3) := dL_fills_120
theorem I90_123 : decode (zB 90) 123 = .ok (.ifCond .lt 34, 3) := dL_fills_123
theorem I90_126 : decode (zB 90) 126 = .ok (.aload_n 0, 1) := dL_fills_126
theorem I90_127 : decode (zB 90) 127 = .ok (.aload_n 0, 1) := dL_fills_127
theorem I90_128 : decode (zB 90) 128 = .ok (.iload_n 2, 1) := dL_fills_128
theorem I90_129 : decode (zB 90) 129 = .ok (.invokevirtual 54, 3) := dL_fills_129
theorem I90_132 : decode (zB 90) 132 = .ok (.iconst 1, 1) := dL_fills_132
theorem I90_133 : decode (zB 90) 133 = .ok (.invokevirtual 51, 3) := dL_fills_133
theorem I90_136 : decode (zB 90) 136 = .ok (.iload_n 2, 1) := dL_fills_136
theorem I90_137 : decode (zB 90) 137 = .ok (.if_icmp .ne 20, 3) := dL_fills_137
theorem I90_140 : decode (zB 90) 140 = .ok (.aload_n 0, 1) := dL_fills_140
theorem I90_141 : decode (zB 90) 141 = .ok (.iconst 2, 1) := dL_fills_141
theorem I90_142 : decode (zB 90) 142 = .ok (.iload_n 2, 1) := dL_fills_142
theorem I90_143 : decode (zB 90) 143 = .ok (.iload_n 3, 1) := dL_fills_143
theorem I90_144 : decode (zB 90) 144 = .ok (.invokevirtual 66, 3) := dL_fills_144
theorem I90_147 : decode (zB 90) 147 = .ok (.iload_n 3, 1) := dL_fills_147
theorem I90_148 : decode (zB 90) 148 = .ok (.iload_n 2, 1) := dL_fills_148
theorem I90_149 : decode (zB 90) 149 = .ok (.isub, 1) := dL_fills_149
theorem I90_150 : decode (zB 90) 150 = .ok (.if_icmp .ne 7, 3) := dL_fills_150
theorem I90_153 : decode (zB 90) 153 = .ok (.iconst 1, 1) := dL_fills_153
theorem I90_154 : decode (zB 90) 154 = .ok (.goto 4, 3) := dL_fills_154
theorem I90_157 : decode (zB 90) 157 = .ok (.iconst 0, 1) := dL_fills_157
theorem I90_158 : decode (zB 90) 158 = .ok (.istore 9, 2) := dL_fills_158
theorem I90_160 : decode (zB 90) 160 = .ok (.iload 9, 2) := dL_fills_160
theorem I90_162 : decode (zB 90) 162 = .ok (.ifCond .eq 11, 3) := dL_fills_162
theorem I90_165 : decode (zB 90) 165 = .ok (.aload_n 0, 1) := dL_fills_165
theorem I90_166 : decode (zB 90) 166 = .ok (.iload_n 2, 1) := dL_fills_166
theorem I90_167 : decode (zB 90) 167 = .ok (.invokevirtual 54, 3) := dL_fills_167
theorem I90_170 : decode (zB 90) 170 = .ok (.goto 4, 3) := dL_fills_170
theorem I90_173 : decode (zB 90) 173 = .ok (.iconst 0, 1) := dL_fills_173
theorem I90_174 : decode (zB 90) 174 = .ok (.istore 10, 2) := dL_fills_174
theorem I90_176 : decode (zB 90) 176 = .ok (.iconst 0, 1) := dL_fills_176
theorem I90_177 : decode (zB 90) 177 = .ok (.istore 11, 2) := dL_fills_177
theorem I90_179 : decode (zB 90) 179 = .ok (.iload 11, 2) := dL_fills_179
theorem I90_181 : decode (zB 90) 181 = .ok (.iload 8, 2) := dL_fills_181
theorem I90_183 : decode (zB 90) 183 = .ok (.if_icmp .ge 121, 3) := dL_fills_183
theorem I90_186 : decode (zB 90) 186 = .ok (.iload 9, 2) := dL_fills_186
theorem I90_188 : decode (zB 90) 188 = .ok (.ifCond .eq 116, 3) := dL_fills_188
theorem I90_191 : decode (zB 90) 191 = .ok (.aload_n 1, 1) := dL_fills_191
theorem I90_192 : decode (zB 90) 192 = .ok (.aload_n 0, 1) := dL_fills_192
theorem I90_193 : decode (zB 90) 193 = .ok (.iload 10, 2) := dL_fills_193
theorem I90_195 : decode (zB 90) 195 = .ok (.iload 11, 2) := dL_fills_195
theorem I90_197 : decode (zB 90) 197 = .ok (.iadd, 1) := dL_fills_197
theorem I90_198 : decode (zB 90) 198 = .ok (.iconst 0, 1) := dL_fills_198
theorem I90_199 : decode (zB 90) 199 = .ok (.invokevirtual 51, 3) := dL_fills_199
theorem I90_202 : decode (zB 90) 202 = .ok (.iaload, 1) := dL_fills_202
theorem I90_203 : decode (zB 90) 203 = .ok (.iconst 2, 1) := dL_fills_203
theorem I90_204 : decode (zB 90) 204 = .ok (.if_icmp .ne 91, 3) := dL_fills_204
theorem I90_207 : decode (zB 90) 207 = .ok (.iload 10, 2) := dL_fills_207
theorem I90_209 : decode (zB 90) 209 = .ok (.iload 11, 2) := dL_fills_209
theorem I90_211 : decode (zB 90) 211 = .ok (.iadd, 1) := dL_fills_211
theorem I90_212 : decode (zB 90) 212 = .ok (.ifCond .eq 66, 3) := dL_fills_212
theorem I90_215 : decode (zB 90) 215 = .ok (.aload_n 0, 1) := dL_fills_215
theorem I90_216 : decode (zB 90) 216 = .ok (.iload 10, 2) := dL_fills_216
theorem I90_218 : decode (zB 90) 218 = .ok (.iload 11, 2) := dL_fills_218
theorem I90_220 : decode (zB 90) 220 = .ok (.iadd, 1) := dL_fills_220
theorem I90_221 : decode (zB 90) 221 = .ok (.iconst 1, 1) := dL_fills_221
theorem I90_222 : decode (zB 90) 222 = .ok (.isub, 1) := dL_fills_222
theorem I90_223 : decode (zB 90) 223 = .ok (.iconst 1, 1) := dL_fills_223
theorem I90_224 : decode (zB 90) 224 = .ok (.invokevirtual 51, 3) := dL_fills_224
theorem I90_227 : decode (zB 90) 227 = .ok (.aload_n 0, 1) := dL_fills_227
theorem I90_228 : decode (zB 90) 228 = .ok (.iload 10, 2) := dL_fills_228
theorem I90_230 : decode (zB 90) 230 = .ok (.iload 11, 2) := dL_fills_230
theorem I90_232 : decode (zB 90) 232 = .ok (.iadd, 1) := dL_fills_232
theorem I90_233 : decode (zB 90) 233 = .ok (.iconst 1, 1) := dL_fills_233
theorem I90_234 : decode (zB 90) 234 = .ok (.isub, 1) := dL_fills_234
theorem I90_235 : decode (zB 90) 235 = .ok (.iconst 2, 1) := dL_fills_235
theorem I90_236 : decode (zB 90) 236 = .ok (.invokevirtual 51, 3) := dL_fills_236
theorem I90_239 : decode (zB 90) 239 = .ok (.iadd, 1) := dL_fills_239
theorem I90_240 : decode (zB 90) 240 = .ok (.aload_n 0, 1) := dL_fills_240
theorem I90_241 : decode (zB 90) 241 = .ok (.iload 10, 2) := dL_fills_241
theorem I90_243 : decode (zB 90) 243 = .ok (.iload 11, 2) := dL_fills_243
theorem I90_245 : decode (zB 90) 245 = .ok (.iadd, 1) := dL_fills_245
theorem I90_246 : decode (zB 90) 246 = .ok (.iconst 1, 1) := dL_fills_246
theorem I90_247 : decode (zB 90) 247 = .ok (.invokevirtual 51, 3) := dL_fills_247
theorem I90_250 : decode (zB 90) 250 = .ok (.if_icmp .lt 28, 3) := dL_fills_250
theorem I90_253 : decode (zB 90) 253 = .ok (.aload_n 0, 1) := dL_fills_253
theorem I90_254 : decode (zB 90) 254 = .ok (.iload 10, 2) := dL_fills_254
theorem I90_256 : decode (zB 90) 256 = .ok (.iload 11, 2) := dL_fills_256
theorem I90_258 : decode (zB 90) 258 = .ok (.iadd, 1) := dL_fills_258
theorem I90_259 : decode (zB 90) 259 = .ok (.iconst 1, 1) := dL_fills_259
theorem I90_260 : decode (zB 90) 260 = .ok (.isub, 1) := dL_fills_260
theorem I90_261 : decode (zB 90) 261 = .ok (.iconst 0, 1) := dL_fills_261
theorem I90_262 : decode (zB 90) 262 = .ok (.invokevirtual 51, 3) := dL_fills_262
theorem I90_265 : decode (zB 90) 265 = .ok (.aload_n 0, 1) := dL_fills_265
theorem I90_266 : decode (zB 90) 266 = .ok (.iload 10, 2) := dL_fills_266
theorem I90_268 : decode (zB 90) 268 = .ok (.iload 11, 2) := dL_fills_268
theorem I90_270 : decode (zB 90) 270 = .ok (.iadd, 1) := dL_fills_270
theorem I90_271 : decode (zB 90) 271 = .ok (.iconst 0, 1) := dL_fills_271
theorem I90_272 : decode (zB 90) 272 = .ok (.invokevirtual 51, 3) := dL_fills_272
theorem I90_275 : decode (zB 90) 275 = .ok (.if_icmp .eq 20, 3) := dL_fills_275
theorem I90_278 : decode (zB 90) 278 = .ok (.aload_n 0, 1) := dL_fills_278
theorem I90_279 : decode (zB 90) 279 = .ok (.iload 10, 2) := dL_fills_279
theorem I90_281 : decode (zB 90) 281 = .ok (.iload 11, 2) := dL_fills_281
theorem I90_283 : decode (zB 90) 283 = .ok (.iadd, 1) := dL_fills_283
theorem I90_284 : decode (zB 90) 284 = .ok (.iconst 3, 1) := dL_fills_284
theorem I90_285 : decode (zB 90) 285 = .ok (.invokevirtual 51, 3) := dL_fills_285
theorem I90_288 : decode (zB 90) 288 = .ok (.ifCond .ne 7, 3) := dL_fills_288
theorem I90_291 : decode (zB 90) 291 = .ok (.iconst 1, 1) := dL_fills_291
theorem I90_292 : decode (zB 90) 292 = .ok (.goto 4, 3) := dL_fills_292
theorem I90_295 : decode (zB 90) 295 = .ok (.iconst 0, 1) := dL_fills_295
theorem I90_296 : decode (zB 90) 296 = .ok (.istore 9, 2) := dL_fills_296
theorem I90_298 : decode (zB 90) 298 = .ok (.iinc 11 1, 3) := dL_fills_298
theorem I90_301 : decode (zB 90) 301 = .ok (.goto (-122), 3) := dL_fills_301
theorem I90_304 : decode (zB 90) 304 = .ok (.iload 9, 2) := dL_fills_304
theorem I90_306 : decode (zB 90) 306 = .ok (.ireturn, 1) := dL_fills_306
theorem I91_0 : decode (zB 91) 0 = .ok (.aload_n 0, 1) := dL_runs_0
theorem I91_1 : decode (zB 91) 1 = .ok (.iload_n 3, 1) := dL_runs_1
theorem I91_2 : decode (zB 91) 2 = .ok (.iconst 0, 1) := dL_runs_2
theorem I91_3 : decode (zB 91) 3 = .ok (.invokevirtual 51, 3) := dL_runs_3
theorem I91_6 : decode (zB 91) 6 = .ok (.istore 5, 2) := dL_runs_6
theorem I91_8 : decode (zB 91) 8 = .ok (.aload_n 0, 1) := dL_runs_8
theorem I91_9 : decode (zB 91) 9 = .ok (.iload_n 3, 1) := dL_runs_9
theorem I91_10 : decode (zB 91) 10 = .ok (.iconst 1, 1) := dL_runs_10
theorem I91_11 : decode (zB 91) 11 = .ok (.invokevirtual 51, 3) := dL_runs_11
theorem I91_14 : decode (zB 91) 14 = .ok (.aload_n 0, 1) := dL_runs_14
theorem I91_15 : decode (zB 91) 15 = .ok (.iload_n 3, 1) := dL_runs_15
theorem I91_16 : decode (zB 91) 16 = .ok (.iconst 2, 1) := dL_runs_16
theorem I91_17 : decode (zB 91) 17 = .ok (.invokevirtual 51, 3) := dL_runs_17
theorem I91_20 : decode (zB 91) 20 = .ok (.iadd, 1) := dL_runs_20
theorem I91_21 : decode (zB 91) 21 = .ok (.istore 6, 2) := dL_runs_21
theorem I91_23 : decode (zB 91) 23 = .ok (.aload_n 0, 1) := dL_runs_23
theorem I91_24 : decode (zB 91) 24 = .ok (.invokevirtual 15, 3) := dL_runs_24
theorem I91_27 : decode (zB 91) 27 = .ok (.istore 7, 2) := dL_runs_27
theorem I91_29 : decode (zB 91) 29 = .ok (.iconst 0, 1) := dL_runs_29
theorem I91_30 : decode (zB 91) 30 = .ok (.istore 8, 2) := dL_runs_30
theorem I91_32 : decode (zB 91) 32 = .ok (.iconst 0, 1) := dL_runs_32
theorem I91_33 : decode (zB 91) 33 = .ok (.istore 9, 2) := dL_runs_33
theorem I91_35 : decode (zB 91) 35 = .ok (.iload 9, 2) := dL_runs_35
theorem I91_37 : decode (zB 91) 37 = .ok (.iload_n 2, 1) := dL_runs_37
theorem I91_38 : decode (zB 91) 38 = .ok (.if_icmp .ge 20, 3) := dL_runs_38
theorem I91_41 : decode (zB 91) 41 = .ok (.iload 8, 2) := dL_runs_41
theorem I91_43 : decode (zB 91) 43 = .ok (.aload_n 0, 1) := dL_runs_43
theorem I91_44 : decode (zB 91) 44 = .ok (.iload 9, 2) := dL_runs_44
theorem I91_46 : decode (zB 91) 46 = .ok (.invokevirtual 63, 3) := dL_runs_46
theorem I91_49 : decode (zB 91) 49 = .ok (.iadd, 1) := dL_runs_49
theorem I91_50 : decode (zB 91) 50 = .ok (.istore 8, 2) := dL_runs_50
theorem I91_52 : decode (zB 91) 52 = .ok (.iinc 9 1, 3) := dL_runs_52
theorem I91_55 : decode (zB 91) 55 = .ok (.goto (-20), 3) := dL_runs_55
theorem I91_58 : decode (zB 91) 58 = .ok (.aload_n 0, 1) := dL_runs_58
theorem I91_59 : decode (zB 91) 59 = .ok (.invokevirtual 9, 3) := dL_runs_59
theorem I91_62 : decode (zB 91) 62 = .ok (.lstore 9, 2) := dL_runs_62
theorem I91_64 : decode (zB 91) 64 = .ok (.aload_n 0, 1) := dL_runs_64
theorem I91_65 : decode (zB 91) 65 = .ok (.iload_n 3, 1) := dL_runs_65
theorem I91_66 : decode (zB 91) 66 = .ok (.iload 4, 2) := dL_runs_66
theorem I91_68 : decode (zB 91) 68 = .ok (.invokevirtual 45, 3) := dL_runs_68
theorem I91_71 : decode (zB 91) 71 = .ok (.istore 11, 2) := dL_runs_71
theorem I91_73 : decode (zB 91) 73 = .ok (.iload 11, 2) := dL_runs_73
theorem I91_75 : decode (zB 91) 75 = .ok (.ifCond .ge 55, 3) := dL_runs_75
theorem I91_78 : decode (zB 91) 78 = .ok (.aload_n 0, 1) := dL_runs_78
theorem I91_79 : decode (zB 91) 79 = .ok (.invokevirtual 9, 3) := dL_runs_79
theorem I91_82 : decode (zB 91) 82 = .ok (.lload 9, 2) := dL_runs_82
theorem I91_84 : decode (zB 91) 84 = .ok (.lcmp, 1) := dL_runs_84
theorem I91_85 : decode (zB 91) 85 = .ok (.ifCond .ne 43, 3) := dL_runs_85
theorem I91_88 : decode (zB 91) 88 = .ok (.aload_n 1, 1) := dL_runs_88
theorem I91_89 : decode (zB 91) 89 = .ok (.iload 5, 2) := dL_runs_89
theorem I91_91 : decode (zB 91) 91 = .ok (.iaload, 1) := dL_runs_91
theorem I91_92 : decode (zB 91) 92 = .ok (.iconst 1, 1) := dL_runs_92
theorem I91_93 : decode (zB 91) 93 = .ok (.if_icmp .eq 13, 3) := dL_runs_93
theorem I91_96 : decode (zB 91) 96 = .ok (.iload 11, 2) := dL_runs_96
theorem I91_98 : decode (zB 91) 98 = .ok (.bipush (-2), 2) := dL_runs_98
theorem I91_100 : decode (zB 91) 100 = .ok (.if_icmp .ne 28, 3) := dL_runs_100
theorem I91_103 : decode (zB 91) 103 = .ok (.goto 21, 3) := dL_runs_103
theorem I91_106 : decode (zB 91) 106 = .ok (.iload 6, 2) := dL_runs_106
theorem I91_108 : decode (zB 91) 108 = .ok (.iload 4, 2) := dL_runs_108
theorem I91_110 : decode (zB 91) 110 = .ok (.iadd, 1) := dL_runs_110
theorem I91_111 : decode (zB 91) 111 = .ok (.sipush 10080, 3) := dL_runs_111
theorem I91_114 : decode (zB 91) 114 = .ok (.if_icmp .le 14, 3) := dL_runs_114
theorem I91_117 : decode (zB 91) 117 = .ok (.iload 11, 2) := dL_runs_117
theorem I91_119 : decode (zB 91) 119 = .ok (.bipush (-4), 2) := dL_runs_119
theorem I91_121 : decode (zB 91) 121 = .ok (.if_icmp .ne 7, 3) := dL_runs_121
theorem I91_124 : decode (zB 91) 124 = .ok (.iconst 1, 1) := dL_runs_124
theorem I91_125 : decode (zB 91) 125 = .ok (.goto 4, 3) := dL_runs_125
theorem I91_128 : decode (zB 91) 128 = .ok (.iconst 0, 1) := dL_runs_128
theorem I91_129 : decode (zB 91) 129 = .ok (.ireturn, 1) := dL_runs_129
theorem I91_130 : decode (zB 91) 130 = .ok (.iconst 0, 1) := dL_runs_130
theorem I91_131 : decode (zB 91) 131 = .ok (.istore 12, 2) := dL_runs_131
theorem I91_133 : decode (zB 91) 133 = .ok (.iconst 0, 1) := dL_runs_133
theorem I91_134 : decode (zB 91) 134 = .ok (.istore 13, 2) := dL_runs_134
theorem I91_136 : decode (zB 91) 136 = .ok (.iload 13, 2) := dL_runs_136
theorem I91_138 : decode (zB 91) 138 = .ok (.iload_n 2, 1) := dL_runs_138
theorem I91_139 : decode (zB 91) 139 = .ok (.if_icmp .ge 20, 3) := dL_runs_139
theorem I91_142 : decode (zB 91) 142 = .ok (.iload 12, 2) := dL_runs_142
theorem I91_144 : decode (zB 91) 144 = .ok (.aload_n 0, 1) := dL_runs_144
theorem I91_145 : decode (zB 91) 145 = .ok (.iload 13, 2) := dL_runs_145
theorem I91_147 : decode (zB 91) 147 = .ok (.invokevirtual 63, 3) := dL_runs_147
theorem I91_150 : decode (zB 91) 150 = .ok (.iadd, 1) := dL_runs_150
theorem I91_151 : decode (zB 91) 151 = .ok (.istore 12, 2) := dL_runs_151
theorem I91_153 : decode (zB 91) 153 = .ok (.iinc 13 1, 3) := dL_runs_153
theorem I91_156 : decode (zB 91) 156 = .ok (.goto (-20), 3) := dL_runs_156
theorem I91_159 : decode (zB 91) 159 = .ok (.aload_n 1, 1) := dL_runs_159
theorem I91_160 : decode (zB 91) 160 = .ok (.iload 5, 2) := dL_runs_160
theorem I91_162 : decode (zB 91) 162 = .ok (.iaload, 1) := dL_runs_162
theorem I91_163 : decode (zB 91) 163 = .ok (.iconst 1, 1) := dL_runs_163
theorem I91_164 : decode (zB 91) 164 = .ok (.if_icmp .ne 57, 3) := dL_runs_164
theorem I91_167 : decode (zB 91) 167 = .ok (.aload_n 0, 1) := dL_runs_167
theorem I91_168 : decode (zB 91) 168 = .ok (.invokevirtual 15, 3) := dL_runs_168
theorem I91_171 : decode (zB 91) 171 = .ok (.iload 7, 2) := dL_runs_171
theorem I91_173 : decode (zB 91) 173 = .ok (.iload 11, 2) := dL_runs_173
theorem I91_175 : decode (zB 91) 175 = .ok (.isub, 1) := dL_runs_175
theorem I91_176 : decode (zB 91) 176 = .ok (.if_icmp .ne 45, 3) := dL_runs_176
theorem I91_179 : decode (zB 91) 179 = .ok (.aload_n 0, 1) := dL_runs_179
theorem I91_180 : decode (zB 91) 180 = .ok (.iload_n 3, 1) := dL_runs_180
theorem I91_181 : decode (zB 91) 181 = .ok (.iconst 1, 1) := dL_runs_181
theorem I91_182 : decode (zB 91) 182 = .ok (.invokevirtual 51, 3) := dL_runs_182
theorem I91_185 : decode (zB 91) 185 = .ok (.aload_n 0, 1) := dL_runs_185
theorem I91_186 : decode (zB 91) 186 = .ok (.iload_n 3, 1) := dL_runs_186
theorem I91_187 : decode (zB 91) 187 = .ok (.iconst 2, 1) := dL_runs_187
theorem I91_188 : decode (zB 91) 188 = .ok (.invokevirtual 51, 3) := dL_runs_188
theorem I91_191 : decode (zB 91) 191 = .ok (.iadd, 1) := dL_runs_191
theorem I91_192 : decode (zB 91) 192 = .ok (.iload 6, 2) := dL_runs_192
theorem I91_194 : decode (zB 91) 194 = .ok (.iload 4, 2) := dL_runs_194
theorem I91_196 : decode (zB 91) 196 = .ok (.iadd, 1) := dL_runs_196
theorem I91_197 : decode (zB 91) 197 = .ok (.if_icmp .ne 24, 3) := dL_runs_197
theorem I91_200 : decode (zB 91) 200 = .ok (.iload 12, 2) := dL_runs_200
theorem I91_202 : decode (zB 91) 202 = .ok (.iload 8, 2) := dL_runs_202
theorem I91_204 : decode (zB 91) 204 = .ok (.if_icmp .lt 17, 3) := dL_runs_204
theorem I91_207 : decode (zB 91) 207 = .ok (.iload 12, 2) := dL_runs_207
theorem I91_209 : decode (zB 91) 209 = .ok (.iload 8, 2) := dL_runs_209
theorem I91_211 : decode (zB 91) 211 = .ok (.iload 11, 2) := dL_runs_211
theorem I91_213 : decode (zB 91) 213 = .ok (.iadd, 1) := dL_runs_213
theorem I91_214 : decode (zB 91) 214 = .ok (.if_icmp .gt 7, 3) := dL_runs_214
theorem I91_217 : decode (zB 91) 217 = .ok (.iconst 1, 1) := dL_runs_217
theorem I91_218 : decode (zB 91) 218 = .ok (.goto 4, 3) := dL_runs_218
theorem I91_221 : decode (zB 91) 221 = .ok (.iconst 0, 1) := dL_runs_221
theorem I91_222 : decode (zB 91) 222 = .ok (.ireturn, 1) := dL_runs_222
theorem I138_0 : decode (zB 138) 0 = .ok (.new 10, 3) := dL_law_0
theorem I138_3 : decode (zB 138) 3 = .ok (.dup, 1) := dL_law_3
theorem I138_4 : decode (zB 138) 4 = .ok (.invokespecial 86, 3) := dL_law_4
theorem I138_7 : decode (zB 138) 7 = .ok (.astore_n 1, 1) := dL_law_7
theorem I138_8 : decode (zB 138) 8 = .ok (.bipush 16, 2) := dL_law_8
theorem I138_10 : decode (zB 138) 10 = .ok (.newarray .int, 2) := dL_law_10
theorem I138_12 : decode (zB 138) 12 = .ok (.astore_n 2, 1) := dL_law_12
theorem I138_13 : decode (zB 138) 13 = .ok (.bipush 30, 2) := dL_law_13
theorem I138_15 : decode (zB 138) 15 = .ok (.newarray .int, 2) := dL_law_15
theorem I138_17 : decode (zB 138) 17 = .ok (.astore_n 3, 1) := dL_law_17
theorem I138_18 : decode (zB 138) 18 = .ok (.aload_n 1, 1) := dL_law_18
theorem I138_19 : decode (zB 138) 19 = .ok (.invokevirtual 87, 3) := dL_law_19
theorem I138_22 : decode (zB 138) 22 = .ok (.bipush (-9), 2) := dL_law_22
theorem I138_24 : decode (zB 138) 24 = .ok (.if_icmp .ne 25, 3) := dL_law_24
theorem I138_27 : decode (zB 138) 27 = .ok (.aload_n 1, 1) := dL_law_27
theorem I138_28 : decode (zB 138) 28 = .ok (.iconst 0, 1) := dL_law_28
theorem I138_29 : decode (zB 138) 29 = .ok (.sipush 10080, 3) := dL_law_29
theorem I138_32 : decode (zB 138) 32 = .ok (.invokevirtual 69, 3) := dL_law_32
theorem I138_35 : decode (zB 138) 35 = .ok (.ldc 90, 2) := dL_law_35
theorem I138_37 : decode (zB 138) 37 = .ok (.if_icmp .ne 12, 3) := dL_law_37
theorem I138_40 : decode (zB 138) 40 = .ok (.aload_n 1, 1) := dL_law_40
theorem I138_41 : decode (zB 138) 41 = .ok (.iconst 0, 1) := dL_law_41
theorem I138_42 : decode (zB 138) 42 = .ok (.iconst 0, 1) := dL_law_42
theorem I138_43 : decode (zB 138) 43 = .ok (.invokestatic 91, 3) := dL_law_43
theorem I138_46 : decode (zB 138) 46 = .ok (.ifCond .ne 5, 3) := dL_law_46
theorem I138_49 : decode (zB 138) 49 = .ok (.iconst 0, 1) := dL_law_49
theorem I138_50 : decode (zB 138) 50 = .ok (.ireturn, 1) := dL_law_50
theorem I138_51 : decode (zB 138) 51 = .ok (.iconst 3, 1) := dL_law_51
theorem I138_52 : decode (zB 138) 52 = .ok (.aload_n 0, 1) := dL_law_52
theorem I138_53 : decode (zB 138) 53 = .ok (.iconst 0, 1) := dL_law_53
theorem I138_54 : decode (zB 138) 54 = .ok (.invokestatic 95, 3) := dL_law_54
theorem I138_57 : decode (zB 138) 57 = .ok (.bipush 7, 2) := dL_law_57
theorem I138_59 : decode (zB 138) 59 = .ok (.invokestatic 78, 3) := dL_law_59
theorem I138_62 : decode (zB 138) 62 = .ok (.iadd, 1) := dL_law_62
theorem I138_63 : decode (zB 138) 63 = .ok (.istore 4, 2) := dL_law_63
theorem I138_65 : decode (zB 138) 65 = .ok (.iconst 0, 1) := dL_law_65
theorem I138_66 : decode (zB 138) 66 = .ok (.istore 5, 2) := dL_law_66
theorem I138_68 : decode (zB 138) 68 = .ok (.iload 5, 2) := dL_law_68
theorem I138_70 : decode (zB 138) 70 = .ok (.iload 4, 2) := dL_law_70
theorem I138_72 : decode (zB 138) 72 = .ok (.if_icmp .ge 87, 3) := dL_law_72
theorem I138_75 : decode (zB 138) 75 = .ok (.aload_n 0, 1) := dL_law_75
theorem I138_76 : decode (zB 138) 76 = .ok (.iconst 1, 1) := dL_law_76
theorem I138_77 : decode (zB 138) 77 = .ok (.iload 5, 2) := dL_law_77
theorem I138_79 : decode (zB 138) 79 = .ok (.iadd, 1) := dL_law_79
theorem I138_80 : decode (zB 138) 80 = .ok (.invokestatic 95, 3) := dL_law_80
theorem I138_83 : decode (zB 138) 83 = .ok (.istore 6, 2) := dL_law_83
theorem I138_85 : decode (zB 138) 85 = .ok (.aload_n 2, 1) := dL_law_85
theorem I138_86 : decode (zB 138) 86 = .ok (.iload 5, 2) := dL_law_86
theorem I138_88 : decode (zB 138) 88 = .ok (.iload 5, 2) := dL_law_88
theorem I138_90 : decode (zB 138) 90 = .ok (.iconst 2, 1) := dL_law_90
theorem I138_91 : decode (zB 138) 91 = .ok (.if_icmp .ge 7, 3) := dL_law_91
theorem I138_94 : decode (zB 138) 94 = .ok (.iconst 2, 1) := dL_law_94
theorem I138_95 : decode (zB 138) 95 = .ok (.goto 9, 3) := dL_law_95
theorem I138_98 : decode (zB 138) 98 = .ok (.iload 6, 2) := dL_law_98
theorem I138_100 : decode (zB 138) 100 = .ok (.iconst 4, 1) := dL_law_100
theorem I138_101 : decode (zB 138) 101 = .ok (.invokestatic 78, 3) := dL_law_101
theorem I138_104 : decode (zB 138) 104 = .ok (.iastore, 1) := dL_law_104
theorem I138_105 : decode (zB 138) 105 = .ok (.aload_n 1, 1) := dL_law_105
theorem I138_106 : decode (zB 138) 106 = .ok (.aload_n 2, 1) := dL_law_106
theorem I138_107 : decode (zB 138) 107 = .ok (.iload 5, 2) := dL_law_107
theorem I138_109 : decode (zB 138) 109 = .ok (.iaload, 1) := dL_law_109
theorem I138_110 : decode (zB 138) 110 = .ok (.iconst 1, 1) := dL_law_110
theorem I138_111 : decode (zB 138) 111 = .ok (.iload 6, 2) := dL_law_111
theorem I138_113 : decode (zB 138) 113 = .ok (.iconst 2, 1) := dL_law_113
theorem I138_114 : decode (zB 138) 114 = .ok (.ishr, 1) := dL_law_114
theorem I138_115 : decode (zB 138) 115 = .ok (.aload_n 2, 1) := dL_law_115
theorem I138_116 : decode (zB 138) 116 = .ok (.iload 5, 2) := dL_law_116
theorem I138_118 : decode (zB 138) 118 = .ok (.iaload, 1) := dL_law_118
theorem I138_119 : decode (zB 138) 119 = .ok (.iconst 2, 1) := dL_law_119
theorem I138_120 : decode (zB 138) 120 = .ok (.if_icmp .ne 8, 3) := dL_law_120
theorem I138_123 : decode (zB 138) 123 = .ok (.bipush 15, 2) := dL_law_123
theorem I138_125 : decode (zB 138) 125 = .ok (.goto 5, 3) := dL_law_125
theorem I138_128 : decode (zB 138) 128 = .ok (.bipush 90, 2) := dL_law_128
theorem I138_130 : decode (zB 138) 130 = .ok (.invokestatic 78, 3) := dL_law_130
theorem I138_133 : decode (zB 138) 133 = .ok (.iadd, 1) := dL_law_133
theorem I138_134 : decode (zB 138) 134 = .ok (.iload 6, 2) := dL_law_134
theorem I138_136 : decode (zB 138) 136 = .ok (.bipush 9, 2) := dL_law_136
theorem I138_138 : decode (zB 138) 138 = .ok (.ishr, 1) := dL_law_138
theorem I138_139 : decode (zB 138) 139 = .ok (.iconst 4, 1) := dL_law_139
theorem I138_140 : decode (zB 138) 140 = .ok (.invokestatic 78, 3) := dL_law_140
theorem I138_143 : decode (zB 138) 143 = .ok (.invokevirtual 19, 3) := dL_law_143
theorem I138_146 : decode (zB 138) 146 = .ok (.iload 5, 2) := dL_law_146
theorem I138_148 : decode (zB 138) 148 = .ok (.if_icmp .eq 5, 3) := dL_law_148
theorem I138_151 : decode (zB 138) 151 = .ok (.iconst 0, 1) := dL_law_151
theorem I138_152 : decode (zB 138) 152 = .ok (.ireturn, 1) := dL_law_152
theorem I138_153 : decode (zB 138) 153 = .ok (.iinc 5 1, 3) := dL_law_153
theorem I138_156 : decode (zB 138) 156 = .ok (.goto (-88), 3) := dL_law_156
theorem I138_159 : decode (zB 138) 159 = .ok (.iconst 2, 1) := dL_law_159
theorem I138_160 : decode (zB 138) 160 = .ok (.aload_n 0, 1) := dL_law_160
theorem I138_161 : decode (zB 138) 161 = .ok (.iconst 0, 1) := dL_law_161
theorem I138_162 : decode (zB 138) 162 = .ok (.invokestatic 95, 3) := dL_law_162
theorem I138_165 : decode (zB 138) 165 = .ok (.iconst 3, 1) := dL_law_165
theorem I138_166 : decode (zB 138) 166 = .ok (.ishr, 1) := dL_law_166
theorem I138_167 : decode (zB 138) 167 = .ok (.bipush 8, 2) := dL_law_167
theorem I138_169 : decode (zB 138) 169 = .ok (.invokestatic 78, 3) := dL_law_169
theorem I138_172 : decode (zB 138) 172 = .ok (.iadd, 1) := dL_law_172
theorem I138_173 : decode (zB 138) 173 = .ok (.istore 5, 2) := dL_law_173
theorem I138_175 : decode (zB 138) 175 = .ok (.iconst 0, 1) := dL_law_175
theorem I138_176 : decode (zB 138) 176 = .ok (.istore 6, 2) := dL_law_176
theorem I138_178 : decode (zB 138) 178 = .ok (.iload 6, 2) := dL_law_178
theorem I138_180 : decode (zB 138) 180 = .ok (.iload 5, 2) := dL_law_180
theorem I138_182 : decode (zB 138) 182 = .ok (.if_icmp .ge 105, 3) := dL_law_182
theorem I138_185 : decode (zB 138) 185 = .ok (.aload_n 0, 1) := dL_law_185
theorem I138_186 : decode (zB 138) 186 = .ok (.bipush 10, 2) := dL_law_186
theorem I138_188 : decode (zB 138) 188 = .ok (.iload 6, 2) := dL_law_188
theorem I138_190 : decode (zB 138) 190 = .ok (.iadd, 1) := dL_law_190
theorem I138_191 : decode (zB 138) 191 = .ok (.invokestatic 95, 3) := dL_law_191
theorem I138_194 : decode (zB 138) 194 = .ok (.istore 7, 2) := dL_law_194
theorem I138_196 : decode (zB 138) 196 = .ok (.iload 7, 2) := dL_law_196
theorem I138_198 : decode (zB 138) 198 = .ok (.iconst 4, 1) := dL_law_198
theorem I138_199 : decode (zB 138) 199 = .ok (.invokestatic 78, 3) := dL_law_199
theorem I138_202 : decode (zB 138) 202 = .ok (.ifCond .ne 16, 3) := dL_law_202
theorem I138_205 : decode (zB 138) 205 = .ok (.iload 7, 2) := dL_law_205
theorem I138_207 : decode (zB 138) 207 = .ok (.iconst 2, 1) := dL_law_207
theorem I138_208 : decode (zB 138) 208 = .ok (.ishr, 1) := dL_law_208
theorem I138_209 : decode (zB 138) 209 = .ok (.sipush 2000, 3) := dL_law_209
theorem I138_212 : decode (zB 138) 212 = .ok (.invokestatic 78, 3) := dL_law_212
theorem I138_215 : decode (zB 138) 215 = .ok (.goto 4, 3) := dL_law_215
theorem I138_218 : decode (zB 138) 218 = .ok (.iconst 0, 1) := dL_law_218
theorem I138_219 : decode (zB 138) 219 = .ok (.istore 8, 2) := dL_law_219
theorem I138_221 : decode (zB 138) 221 = .ok (.aload_n 3, 1) := dL_law_221
theorem I138_222 : decode (zB 138) 222 = .ok (.iload 6, 2) := dL_law_222
theorem I138_224 : decode (zB 138) 224 = .ok (.iconst 1, 1) := dL_law_224
theorem I138_225 : decode (zB 138) 225 = .ok (.iload 7, 2) := dL_law_225
theorem I138_227 : decode (zB 138) 227 = .ok (.bipush 13, 2) := dL_law_227
theorem I138_229 : decode (zB 138) 229 = .ok (.ishr, 1) := dL_law_229
theorem I138_230 : decode (zB 138) 230 = .ok (.bipush 6, 2) := dL_law_230
theorem I138_232 : decode (zB 138) 232 = .ok (.invokestatic 78, 3) := dL_law_232
theorem I138_235 : decode (zB 138) 235 = .ok (.iadd, 1) := dL_law_235
theorem I138_236 : decode (zB 138) 236 = .ok (.iastore, 1) := dL_law_236
theorem I138_237 : decode (zB 138) 237 = .ok (.aload_n 1, 1) := dL_law_237
theorem I138_238 : decode (zB 138) 238 = .ok (.iload 7, 2) := dL_law_238
theorem I138_240 : decode (zB 138) 240 = .ok (.bipush 18, 2) := dL_law_240
theorem I138_242 : decode (zB 138) 242 = .ok (.ishr, 1) := dL_law_242
theorem I138_243 : decode (zB 138) 243 = .ok (.iload 4, 2) := dL_law_243
theorem I138_245 : decode (zB 138) 245 = .ok (.invokestatic 78, 3) := dL_law_245
theorem I138_248 : decode (zB 138) 248 = .ok (.iload 8, 2) := dL_law_248
theorem I138_250 : decode (zB 138) 250 = .ok (.iload 8, 2) := dL_law_250
theorem I138_252 : decode (zB 138) 252 = .ok (.sipush 200, 3) := dL_law_252
theorem I138_255 : decode (zB 138) 255 = .ok (.iadd, 1) := dL_law_255
theorem I138_256 : decode (zB 138) 256 = .ok (.iload 7, 2) := dL_law_256
theorem I138_258 : decode (zB 138) 258 = .ok (.iconst 5, 1) := dL_law_258
theorem I138_259 : decode (zB 138) 259 = .ok (.ishr, 1) := dL_law_259
theorem I138_260 : decode (zB 138) 260 = .ok (.sipush 6000, 3) := dL_law_260
theorem I138_263 : decode (zB 138) 263 = .ok (.invokestatic 78, 3) := dL_law_263
theorem I138_266 : decode (zB 138) 266 = .ok (.iadd, 1) := dL_law_266
theorem I138_267 : decode (zB 138) 267 = .ok (.aload_n 3, 1) := dL_law_267
theorem I138_268 : decode (zB 138) 268 = .ok (.iload 6, 2) := dL_law_268
theorem I138_270 : decode (zB 138) 270 = .ok (.iaload, 1) := dL_law_270
theorem I138_271 : decode (zB 138) 271 = .ok (.invokevirtual 23, 3) := dL_law_271
theorem I138_274 : decode (zB 138) 274 = .ok (.iload 6, 2) := dL_law_274
theorem I138_276 : decode (zB 138) 276 = .ok (.if_icmp .eq 5, 3) := dL_law_276
theorem I138_279 : decode (zB 138) 279 = .ok (.iconst 0, 1) := dL_law_279
theorem I138_280 : decode (zB 138) 280 = .ok (.ireturn, 1) := dL_law_280
theorem I138_281 : decode (zB 138) 281 = .ok (.iinc 6 1, 3) := dL_law_281
theorem I138_284 : decode (zB 138) 284 = .ok (.goto (-106), 3) := dL_law_284
theorem I138_287 : decode (zB 138) 287 = .ok (.aload_n 0, 1) := dL_law_287
theorem I138_288 : decode (zB 138) 288 = .ok (.iconst 0, 1) := dL_law_288
theorem I138_289 : decode (zB 138) 289 = .ok (.invokestatic 95, 3) := dL_law_289
theorem I138_292 : decode (zB 138) 292 = .ok (.sipush 256, 3) := dL_law_292
theorem I138_295 : decode (zB 138) 295 = .ok (.iand, 1) := dL_law_295
theorem I138_296 : decode (zB 138) 296 = .ok (.ifCond .eq 43, 3) := dL_law_296
theorem I138_299 : decode (zB 138) 299 = .ok (.aload_n 1, 1) := dL_law_299
theorem I138_300 : decode (zB 138) 300 = .ok (.aload_n 0, 1) := dL_law_300
theorem I138_301 : decode (zB 138) 301 = .ok (.iconst 0, 1) := dL_law_301
theorem I138_302 : decode (zB 138) 302 = .ok (.invokestatic 95, 3) := dL_law_302
theorem I138_305 : decode (zB 138) 305 = .ok (.bipush 9, 2) := dL_law_305
theorem I138_307 : decode (zB 138) 307 = .ok (.ishr, 1) := dL_law_307
theorem I138_308 : decode (zB 138) 308 = .ok (.sipush 1000, 3) := dL_law_308
theorem I138_311 : decode (zB 138) 311 = .ok (.invokestatic 78, 3) := dL_law_311
theorem I138_314 : decode (zB 138) 314 = .ok (.sipush 1100, 3) := dL_law_314
theorem I138_317 : decode (zB 138) 317 = .ok (.iconst 1, 1) := dL_law_317
theorem I138_318 : decode (zB 138) 318 = .ok (.aload_n 0, 1) := dL_law_318
theorem I138_319 : decode (zB 138) 319 = .ok (.iconst 0, 1) := dL_law_319
theorem I138_320 : decode (zB 138) 320 = .ok (.invokestatic 95, 3) := dL_law_320
theorem I138_323 : decode (zB 138) 323 = .ok (.bipush 20, 2) := dL_law_323
theorem I138_325 : decode (zB 138) 325 = .ok (.ishr, 1) := dL_law_325
theorem I138_326 : decode (zB 138) 326 = .ok (.iconst 3, 1) := dL_law_326
theorem I138_327 : decode (zB 138) 327 = .ok (.invokestatic 78, 3) := dL_law_327
theorem I138_330 : decode (zB 138) 330 = .ok (.iadd, 1) := dL_law_330
theorem I138_331 : decode (zB 138) 331 = .ok (.invokevirtual 27, 3) := dL_law_331
theorem I138_334 : decode (zB 138) 334 = .ok (.ifCond .eq 5, 3) := dL_law_334
theorem I138_337 : decode (zB 138) 337 = .ok (.iconst 0, 1) := dL_law_337
theorem I138_338 : decode (zB 138) 338 = .ok (.ireturn, 1) := dL_law_338
theorem I138_339 : decode (zB 138) 339 = .ok (.iconst 0, 1) := dL_law_339
theorem I138_340 : decode (zB 138) 340 = .ok (.istore 6, 2) := dL_law_340
theorem I138_342 : decode (zB 138) 342 = .ok (.iload 6, 2) := dL_law_342
theorem I138_344 : decode (zB 138) 344 = .ok (.bipush 20, 2) := dL_law_344
theorem I138_346 : decode (zB 138) 346 = .ok (.if_icmp .ge 382, 3) := dL_law_346
theorem I138_349 : decode (zB 138) 349 = .ok (.aload_n 0, 1) := dL_law_349
theorem I138_350 : decode (zB 138) 350 = .ok (.bipush 20, 2) := dL_law_350
theorem I138_352 : decode (zB 138) 352 = .ok (.iload 6, 2) := dL_law_352
theorem I138_354 : decode (zB 138) 354 = .ok (.iadd, 1) := dL_law_354
theorem I138_355 : decode (zB 138) 355 = .ok (.invokestatic 95, 3) := dL_law_355
theorem I138_358 : decode (zB 138) 358 = .ok (.istore 7, 2) := dL_law_358
theorem I138_360 : decode (zB 138) 360 = .ok (.iload 7, 2) := dL_law_360
theorem I138_362 : decode (zB 138) 362 = .ok (.iconst 3, 1) := dL_law_362
theorem I138_363 : decode (zB 138) 363 = .ok (.ishr, 1) := dL_law_363
theorem I138_364 : decode (zB 138) 364 = .ok (.iload 4, 2) := dL_law_364
theorem I138_366 : decode (zB 138) 366 = .ok (.invokestatic 78, 3) := dL_law_366
theorem I138_369 : decode (zB 138) 369 = .ok (.istore 8, 2) := dL_law_369
theorem I138_371 : decode (zB 138) 371 = .ok (.aload_n 1, 1) := dL_law_371
theorem I138_372 : decode (zB 138) 372 = .ok (.invokevirtual 15, 3) := dL_law_372
theorem I138_375 : decode (zB 138) 375 = .ok (.istore 9, 2) := dL_law_375
theorem I138_377 : decode (zB 138) 377 = .ok (.iconst 1, 1) := dL_law_377
theorem I138_378 : decode (zB 138) 378 = .ok (.istore 10, 2) := dL_law_378
theorem I138_380 : decode (zB 138) 380 = .ok (.aload_n 1, 1) := dL_law_380
theorem I138_381 : decode (zB 138) 381 = .ok (.invokevirtual 9, 3) := dL_law_381
theorem I138_384 : decode (zB 138) 384 = .ok (.lstore 11, 2) := dL_law_384
theorem I138_386 : decode (zB 138) 386 = .ok (.iload 7, 2) := dL_law_386
theorem I138_388 : decode (zB 138) 388 = .ok (.bipush 8, 2) := dL_law_388
theorem I138_390 : decode (zB 138) 390 = .ok (.invokestatic 78, 3) := dL_law_390
theorem I138_393 : decode (zB 138) 393 = .ok (.istore 13, 2) := dL_law_393
theorem I138_395 : decode (zB 138) 395 = .ok (.iload 13, 2) := dL_law_395
theorem I138_397 : decode (zB 138) 397 = .ok (.iconst 3, 1) := dL_law_397
theorem I138_398 : decode (zB 138) 398 = .ok (.if_icmp .ge 40, 3) := dL_law_398
theorem I138_401 : decode (zB 138) 401 = .ok (.aload_n 1, 1) := dL_law_401
theorem I138_402 : decode (zB 138) 402 = .ok (.iload 8, 2) := dL_law_402
theorem I138_404 : decode (zB 138) 404 = .ok (.iload 7, 2) := dL_law_404
theorem I138_406 : decode (zB 138) 406 = .ok (.bipush 7, 2) := dL_law_406
theorem I138_408 : decode (zB 138) 408 = .ok (.ishr, 1) := dL_law_408
theorem I138_409 : decode (zB 138) 409 = .ok (.sipush 900, 3) := dL_law_409
theorem I138_412 : decode (zB 138) 412 = .ok (.invokestatic 78, 3) := dL_law_412
theorem I138_415 : decode (zB 138) 415 = .ok (.iload 7, 2) := dL_law_415
theorem I138_417 : decode (zB 138) 417 = .ok (.bipush 17, 2) := dL_law_417
theorem I138_419 : decode (zB 138) 419 = .ok (.ishr, 1) := dL_law_419
theorem I138_420 : decode (zB 138) 420 = .ok (.iconst 3, 1) := dL_law_420
theorem I138_421 : decode (zB 138) 421 = .ok (.iand, 1) := dL_law_421
theorem I138_422 : decode (zB 138) 422 = .ok (.ifCond .ne 7, 3) := dL_law_422
theorem I138_425 : decode (zB 138) 425 = .ok (.iconst 1, 1) := dL_law_425
theorem I138_426 : decode (zB 138) 426 = .ok (.goto 4, 3) := dL_law_426
theorem I138_429 : decode (zB 138) 429 = .ok (.iconst 0, 1) := dL_law_429
theorem I138_430 : decode (zB 138) 430 = .ok (.invokestatic 99, 3) := dL_law_430
theorem I138_433 : decode (zB 138) 433 = .ok (.istore 10, 2) := dL_law_433
theorem I138_435 : decode (zB 138) 435 = .ok (.goto 219, 3) := dL_law_435
theorem I138_438 : decode (zB 138) 438 = .ok (.iload 13, 2) := dL_law_438
theorem I138_440 : decode (zB 138) 440 = .ok (.iconst 3, 1) := dL_law_440
theorem I138_441 : decode (zB 138) 441 = .ok (.if_icmp .ne 25, 3) := dL_law_441
theorem I138_444 : decode (zB 138) 444 = .ok (.aload_n 1, 1) := dL_law_444
theorem I138_445 : decode (zB 138) 445 = .ok (.iload 8, 2) := dL_law_445
theorem I138_447 : decode (zB 138) 447 = .ok (.iload 7, 2) := dL_law_447
theorem I138_449 : decode (zB 138) 449 = .ok (.bipush 7, 2) := dL_law_449
theorem I138_451 : decode (zB 138) 451 = .ok (.ishr, 1) := dL_law_451
theorem I138_452 : decode (zB 138) 452 = .ok (.sipush 1500, 3) := dL_law_452
theorem I138_455 : decode (zB 138) 455 = .ok (.invokestatic 78, 3) := dL_law_455
theorem I138_458 : decode (zB 138) 458 = .ok (.invokestatic 103, 3) := dL_law_458
theorem I138_461 : decode (zB 138) 461 = .ok (.istore 10, 2) := dL_law_461
theorem I138_463 : decode (zB 138) 463 = .ok (.goto 191, 3) := dL_law_463
theorem I138_466 : decode (zB 138) 466 = .ok (.iload 13, 2) := dL_law_466
theorem I138_468 : decode (zB 138) 468 = .ok (.iconst 4, 1) := dL_law_468
theorem I138_469 : decode (zB 138) 469 = .ok (.if_icmp .ne 106, 3) := dL_law_469
theorem I138_472 : decode (zB 138) 472 = .ok (.iload 9, 2) := dL_law_472
theorem I138_474 : decode (zB 138) 474 = .ok (.ifCond .le 45, 3) := dL_law_474
theorem I138_477 : decode (zB 138) 477 = .ok (.iload 7, 2) := dL_law_477
theorem I138_479 : decode (zB 138) 479 = .ok (.bipush 16, 2) := dL_law_479
theorem I138_481 : decode (zB 138) 481 = .ok (.iand, 1) := dL_law_481
theorem I138_482 : decode (zB 138) 482 = .ok (.ifCond .eq 37, 3) := dL_law_482
theorem I138_485 : decode (zB 138) 485 = .ok (.aload_n 1, 1) := dL_law_485
theorem I138_486 : decode (zB 138) 486 = .ok (.iload 7, 2) := dL_law_486
theorem I138_488 : decode (zB 138) 488 = .ok (.bipush 7, 2) := dL_law_488
theorem I138_490 : decode (zB 138) 490 = .ok (.ishr, 1) := dL_law_490
theorem I138_491 : decode (zB 138) 491 = .ok (.iload 9, 2) := dL_law_491
theorem I138_493 : decode (zB 138) 493 = .ok (.invokestatic 78, 3) := dL_law_493
theorem I138_496 : decode (zB 138) 496 = .ok (.iconst 1, 1) := dL_law_496
theorem I138_497 : decode (zB 138) 497 = .ok (.invokevirtual 51, 3) := dL_law_497
theorem I138_500 : decode (zB 138) 500 = .ok (.aload_n 1, 1) := dL_law_500
theorem I138_501 : decode (zB 138) 501 = .ok (.iload 7, 2) := dL_law_501
theorem I138_503 : decode (zB 138) 503 = .ok (.bipush 7, 2) := dL_law_503
theorem I138_505 : decode (zB 138) 505 = .ok (.ishr, 1) := dL_law_505
theorem I138_506 : decode (zB 138) 506 = .ok (.iload 9, 2) := dL_law_506
theorem I138_508 : decode (zB 138) 508 = .ok (.invokestatic 78, 3) := dL_law_508
theorem I138_511 : decode (zB 138) 511 = .ok (.iconst 2, 1) := dL_law_511
theorem I138_512 : decode (zB 138) 512 = .ok (.invokevirtual 51, 3) := dL_law_512
theorem I138_515 : decode (zB 138) 515 = .ok (.iadd, 1) := dL_law_515
theorem I138_516 : decode (zB 138) 516 = .ok (.goto 14, 3) := dL_law_516
theorem I138_519 : decode (zB 138) 519 = .ok (.iload 7, 2) := dL_law_519
theorem I138_521 : decode (zB 138) 521 = .ok (.bipush 7, 2) := dL_law_521
theorem I138_523 : decode (zB 138) 523 = .ok (.ishr, 1) := dL_law_523
theorem I138_524 : decode (zB 138) 524 = .ok (.sipush 900, 3) := dL_law_524
theorem I138_527 : decode (zB 138) 527 = .ok (.invokestatic 78, 3) := dL_law_527
theorem I138_530 : decode (zB 138) 530 = .ok (.istore 14, 2) := dL_law_530
theorem I138_532 : decode (zB 138) 532 = .ok (.iload 14, 2) := dL_law_532
theorem I138_534 : decode (zB 138) 534 = .ok (.sipush 10000, 3) := dL_law_534
theorem I138_537 : decode (zB 138) 537 = .ok (.if_icmp .ge 28, 3) := dL_law_537
theorem I138_540 : decode (zB 138) 540 = .ok (.aload_n 1, 1) := dL_law_540
theorem I138_541 : decode (zB 138) 541 = .ok (.aload_n 2, 1) := dL_law_541
theorem I138_542 : decode (zB 138) 542 = .ok (.iload 14, 2) := dL_law_542
theorem I138_544 : decode (zB 138) 544 = .ok (.iload 14, 2) := dL_law_544
theorem I138_546 : decode (zB 138) 546 = .ok (.iconst 1, 1) := dL_law_546
theorem I138_547 : decode (zB 138) 547 = .ok (.iadd, 1) := dL_law_547
theorem I138_548 : decode (zB 138) 548 = .ok (.iload 7, 2) := dL_law_548
theorem I138_550 : decode (zB 138) 550 = .ok (.bipush 17, 2) := dL_law_550
theorem I138_552 : decode (zB 138) 552 = .ok (.ishr, 1) := dL_law_552
theorem I138_553 : decode (zB 138) 553 = .ok (.bipush 40, 2) := dL_law_553
theorem I138_555 : decode (zB 138) 555 = .ok (.invokestatic 78, 3) := dL_law_555
theorem I138_558 : decode (zB 138) 558 = .ok (.iadd, 1) := dL_law_558
theorem I138_559 : decode (zB 138) 559 = .ok (.invokestatic 106, 3) := dL_law_559
theorem I138_562 : decode (zB 138) 562 = .ok (.ifCond .eq 7, 3) := dL_law_562
theorem I138_565 : decode (zB 138) 565 = .ok (.iconst 1, 1) := dL_law_565
theorem I138_566 : decode (zB 138) 566 = .ok (.goto 4, 3) := dL_law_566
theorem I138_569 : decode (zB 138) 569 = .ok (.iconst 0, 1) := dL_law_569
theorem I138_570 : decode (zB 138) 570 = .ok (.istore 10, 2) := dL_law_570
theorem I138_572 : decode (zB 138) 572 = .ok (.goto 82, 3) := dL_law_572
theorem I138_575 : decode (zB 138) 575 = .ok (.iload 13, 2) := dL_law_575
theorem I138_577 : decode (zB 138) 577 = .ok (.bipush 7, 2) := dL_law_577
theorem I138_579 : decode (zB 138) 579 = .ok (.if_icmp .ge 42, 3) := dL_law_579
theorem I138_582 : decode (zB 138) 582 = .ok (.iload 9, 2) := dL_law_582
theorem I138_584 : decode (zB 138) 584 = .ok (.ifCond .le 37, 3) := dL_law_584
theorem I138_587 : decode (zB 138) 587 = .ok (.aload_n 1, 1) := dL_law_587
theorem I138_588 : decode (zB 138) 588 = .ok (.aload_n 2, 1) := dL_law_588
theorem I138_589 : decode (zB 138) 589 = .ok (.iload 4, 2) := dL_law_589
theorem I138_591 : decode (zB 138) 591 = .ok (.iload 7, 2) := dL_law_591
theorem I138_593 : decode (zB 138) 593 = .ok (.bipush 7, 2) := dL_law_593
theorem I138_595 : decode (zB 138) 595 = .ok (.ishr, 1) := dL_law_595
theorem I138_596 : decode (zB 138) 596 = .ok (.iload 9, 2) := dL_law_596
theorem I138_598 : decode (zB 138) 598 = .ok (.invokestatic 78, 3) := dL_law_598
theorem I138_601 : decode (zB 138) 601 = .ok (.iconst 1, 1) := dL_law_601
theorem I138_602 : decode (zB 138) 602 = .ok (.iload 7, 2) := dL_law_602
theorem I138_604 : decode (zB 138) 604 = .ok (.bipush 13, 2) := dL_law_604
theorem I138_606 : decode (zB 138) 606 = .ok (.ishr, 1) := dL_law_606
theorem I138_607 : decode (zB 138) 607 = .ok (.bipush 120, 2) := dL_law_607
theorem I138_609 : decode (zB 138) 609 = .ok (.invokestatic 78, 3) := dL_law_609
theorem I138_612 : decode (zB 138) 612 = .ok (.iadd, 1) := dL_law_612
theorem I138_613 : decode (zB 138) 613 = .ok (.invokestatic 110, 3) := dL_law_613
theorem I138_616 : decode (zB 138) 616 = .ok (.istore 10, 2) := dL_law_616
theorem I138_618 : decode (zB 138) 618 = .ok (.goto 36, 3) := dL_law_618
theorem I138_621 : decode (zB 138) 621 = .ok (.iload 9, 2) := dL_law_621
theorem I138_623 : decode (zB 138) 623 = .ok (.ifCond .le 31, 3) := dL_law_623
theorem I138_626 : decode (zB 138) 626 = .ok (.aload_n 1, 1) := dL_law_626
theorem I138_627 : decode (zB 138) 627 = .ok (.iload 7, 2) := dL_law_627
theorem I138_629 : decode (zB 138) 629 = .ok (.bipush 7, 2) := dL_law_629
theorem I138_631 : decode (zB 138) 631 = .ok (.ishr, 1) := dL_law_631
theorem I138_632 : decode (zB 138) 632 = .ok (.iload 9, 2) := dL_law_632
theorem I138_634 : decode (zB 138) 634 = .ok (.invokestatic 78, 3) := dL_law_634
theorem I138_637 : decode (zB 138) 637 = .ok (.invokevirtual 34, 3) := dL_law_637
theorem I138_640 : decode (zB 138) 640 = .ok (.iload 9, 2) := dL_law_640
theorem I138_642 : decode (zB 138) 642 = .ok (.iconst 1, 1) := dL_law_642
theorem I138_643 : decode (zB 138) 643 = .ok (.isub, 1) := dL_law_643
theorem I138_644 : decode (zB 138) 644 = .ok (.if_icmp .ne 7, 3) := dL_law_644
theorem I138_647 : decode (zB 138) 647 = .ok (.iconst 1, 1) := dL_law_647
theorem I138_648 : decode (zB 138) 648 = .ok (.goto 4, 3) := dL_law_648
theorem I138_651 : decode (zB 138) 651 = .ok (.iconst 0, 1) := dL_law_651
theorem I138_652 : decode (zB 138) 652 = .ok (.istore 10, 2) := dL_law_652
theorem I138_654 : decode (zB 138) 654 = .ok (.iload 10, 2) := dL_law_654
theorem I138_656 : decode (zB 138) 656 = .ok (.ifCond .eq 24, 3) := dL_law_656
theorem I138_659 : decode (zB 138) 659 = .ok (.aload_n 1, 1) := dL_law_659
theorem I138_660 : decode (zB 138) 660 = .ok (.iload 4, 2) := dL_law_660
theorem I138_662 : decode (zB 138) 662 = .ok (.iload 5, 2) := dL_law_662
theorem I138_664 : decode (zB 138) 664 = .ok (.aload_n 3, 1) := dL_law_664
theorem I138_665 : decode (zB 138) 665 = .ok (.aload_n 0, 1) := dL_law_665
theorem I138_666 : decode (zB 138) 666 = .ok (.bipush 40, 2) := dL_law_666
theorem I138_668 : decode (zB 138) 668 = .ok (.iload 6, 2) := dL_law_668
theorem I138_670 : decode (zB 138) 670 = .ok (.iadd, 1) := dL_law_670
theorem I138_671 : decode (zB 138) 671 = .ok (.invokestatic 95, 3) := dL_law_671
theorem I138_674 : decode (zB 138) 674 = .ok (.invokestatic 114, 3) := dL_law_674
theorem I138_677 : decode (zB 138) 677 = .ok (.ifCond .ne 5, 3) := dL_law_677
theorem I138_680 : decode (zB 138) 680 = .ok (.iconst 0, 1) := dL_law_680
theorem I138_681 : decode (zB 138) 681 = .ok (.ireturn, 1) := dL_law_681
theorem I138_682 : decode (zB 138) 682 = .ok (.iload 7, 2) := dL_law_682
theorem I138_684 : decode (zB 138) 684 = .ok (.bipush 27, 2) := dL_law_684
theorem I138_686 : decode (zB 138) 686 = .ok (.ishr, 1) := dL_law_686
theorem I138_687 : decode (zB 138) 687 = .ok (.bipush 7, 2) := dL_law_687
theorem I138_689 : decode (zB 138) 689 = .ok (.iand, 1) := dL_law_689
theorem I138_690 : decode (zB 138) 690 = .ok (.ifCond .ne 32, 3) := dL_law_690
theorem I138_693 : decode (zB 138) 693 = .ok (.aload_n 1, 1) := dL_law_693
theorem I138_694 : decode (zB 138) 694 = .ok (.invokevirtual 9, 3) := dL_law_694
theorem I138_697 : decode (zB 138) 697 = .ok (.lload 11, 2) := dL_law_697
theorem I138_699 : decode (zB 138) 699 = .ok (.lcmp, 1) := dL_law_699
theorem I138_700 : decode (zB 138) 700 = .ok (.ifCond .eq 22, 3) := dL_law_700
theorem I138_703 : decode (zB 138) 703 = .ok (.aload_n 1, 1) := dL_law_703
theorem I138_704 : decode (zB 138) 704 = .ok (.invokevirtual 87, 3) := dL_law_704
theorem I138_707 : decode (zB 138) 707 = .ok (.ifCond .lt 13, 3) := dL_law_707
theorem I138_710 : decode (zB 138) 710 = .ok (.aload_n 1, 1) := dL_law_710
theorem I138_711 : decode (zB 138) 711 = .ok (.invokevirtual 9, 3) := dL_law_711
theorem I138_714 : decode (zB 138) 714 = .ok (.lload 11, 2) := dL_law_714
theorem I138_716 : decode (zB 138) 716 = .ok (.lcmp, 1) := dL_law_716
theorem I138_717 : decode (zB 138) 717 = .ok (.ifCond .eq 5, 3) := dL_law_717
theorem I138_720 : decode (zB 138) 720 = .ok (.iconst 0, 1) := dL_law_720
theorem I138_721 : decode (zB 138) 721 = .ok (.ireturn, 1) := dL_law_721
theorem I138_722 : decode (zB 138) 722 = .ok (.iinc 6 1, 3) := dL_law_722
theorem I138_725 : decode (zB 138) 725 = .ok (.goto (-383), 3) := dL_law_725
theorem I138_728 : decode (zB 138) 728 = .ok (.iconst 0, 1) := dL_law_728
theorem I138_729 : decode (zB 138) 729 = .ok (.istore 6, 2) := dL_law_729
theorem I138_731 : decode (zB 138) 731 = .ok (.iload 6, 2) := dL_law_731
theorem I138_733 : decode (zB 138) 733 = .ok (.iload 4, 2) := dL_law_733
theorem I138_735 : decode (zB 138) 735 = .ok (.if_icmp .ge 111, 3) := dL_law_735
theorem I138_738 : decode (zB 138) 738 = .ok (.aload_n 1, 1) := dL_law_738
theorem I138_739 : decode (zB 138) 739 = .ok (.invokevirtual 9, 3) := dL_law_739
theorem I138_742 : decode (zB 138) 742 = .ok (.lstore 7, 2) := dL_law_742
theorem I138_744 : decode (zB 138) 744 = .ok (.aload_n 1, 1) := dL_law_744
theorem I138_745 : decode (zB 138) 745 = .ok (.iload 6, 2) := dL_law_745
theorem I138_747 : decode (zB 138) 747 = .ok (.invokevirtual 63, 3) := dL_law_747
theorem I138_750 : decode (zB 138) 750 = .ok (.istore 9, 2) := dL_law_750
theorem I138_752 : decode (zB 138) 752 = .ok (.aload_n 1, 1) := dL_law_752
theorem I138_753 : decode (zB 138) 753 = .ok (.iload 6, 2) := dL_law_753
theorem I138_755 : decode (zB 138) 755 = .ok (.bipush 100, 2) := dL_law_755
theorem I138_757 : decode (zB 138) 757 = .ok (.invokevirtual 38, 3) := dL_law_757
theorem I138_760 : decode (zB 138) 760 = .ok (.istore 10, 2) := dL_law_760
theorem I138_762 : decode (zB 138) 762 = .ok (.aload_n 1, 1) := dL_law_762
theorem I138_763 : decode (zB 138) 763 = .ok (.iload 6, 2) := dL_law_763
theorem I138_765 : decode (zB 138) 765 = .ok (.bipush 100, 2) := dL_law_765
theorem I138_767 : decode (zB 138) 767 = .ok (.invokevirtual 48, 3) := dL_law_767
theorem I138_770 : decode (zB 138) 770 = .ok (.istore 11, 2) := dL_law_770
theorem I138_772 : decode (zB 138) 772 = .ok (.iload 9, 2) := dL_law_772
theorem I138_774 : decode (zB 138) 774 = .ok (.ifCond .ne 13, 3) := dL_law_774
theorem I138_777 : decode (zB 138) 777 = .ok (.iload 11, 2) := dL_law_777
theorem I138_779 : decode (zB 138) 779 = .ok (.bipush (-2), 2) := dL_law_779
theorem I138_781 : decode (zB 138) 781 = .ok (.if_icmp .eq 59, 3) := dL_law_781
theorem I138_784 : decode (zB 138) 784 = .ok (.goto 54, 3) := dL_law_784
theorem I138_787 : decode (zB 138) 787 = .ok (.iload 11, 2) := dL_law_787
theorem I138_789 : decode (zB 138) 789 = .ok (.iload 10, 2) := dL_law_789
theorem I138_791 : decode (zB 138) 791 = .ok (.if_icmp .ne 47, 3) := dL_law_791
theorem I138_794 : decode (zB 138) 794 = .ok (.iload 10, 2) := dL_law_794
theorem I138_796 : decode (zB 138) 796 = .ok (.ifCond .lt 44, 3) := dL_law_796
theorem I138_799 : decode (zB 138) 799 = .ok (.aload_n 1, 1) := dL_law_799
theorem I138_800 : decode (zB 138) 800 = .ok (.iload 6, 2) := dL_law_800
theorem I138_802 : decode (zB 138) 802 = .ok (.invokevirtual 63, 3) := dL_law_802
theorem I138_805 : decode (zB 138) 805 = .ok (.iload 9, 2) := dL_law_805
theorem I138_807 : decode (zB 138) 807 = .ok (.iconst 1, 1) := dL_law_807
theorem I138_808 : decode (zB 138) 808 = .ok (.isub, 1) := dL_law_808
theorem I138_809 : decode (zB 138) 809 = .ok (.if_icmp .ne 29, 3) := dL_law_809
theorem I138_812 : decode (zB 138) 812 = .ok (.aload_n 1, 1) := dL_law_812
theorem I138_813 : decode (zB 138) 813 = .ok (.iload 10, 2) := dL_law_813
theorem I138_815 : decode (zB 138) 815 = .ok (.invokevirtual 54, 3) := dL_law_815
theorem I138_818 : decode (zB 138) 818 = .ok (.ifCond .lt 20, 3) := dL_law_818
theorem I138_821 : decode (zB 138) 821 = .ok (.aload_n 1, 1) := dL_law_821
theorem I138_822 : decode (zB 138) 822 = .ok (.invokevirtual 87, 3) := dL_law_822
theorem I138_825 : decode (zB 138) 825 = .ok (.ifCond .lt 13, 3) := dL_law_825
theorem I138_828 : decode (zB 138) 828 = .ok (.aload_n 1, 1) := dL_law_828
theorem I138_829 : decode (zB 138) 829 = .ok (.invokevirtual 9, 3) := dL_law_829
theorem I138_832 : decode (zB 138) 832 = .ok (.lload 7, 2) := dL_law_832
theorem I138_834 : decode (zB 138) 834 = .ok (.lcmp, 1) := dL_law_834
theorem I138_835 : decode (zB 138) 835 = .ok (.ifCond .eq 5, 3) := dL_law_835
theorem I138_838 : decode (zB 138) 838 = .ok (.iconst 0, 1) := dL_law_838
theorem I138_839 : decode (zB 138) 839 = .ok (.ireturn, 1) := dL_law_839
theorem I138_840 : decode (zB 138) 840 = .ok (.iinc 6 1, 3) := dL_law_840
theorem I138_843 : decode (zB 138) 843 = .ok (.goto (-112), 3) := dL_law_843
theorem I138_846 : decode (zB 138) 846 = .ok (.aload_n 1, 1) := dL_law_846
theorem I138_847 : decode (zB 138) 847 = .ok (.iload 4, 2) := dL_law_847
theorem I138_849 : decode (zB 138) 849 = .ok (.iload 5, 2) := dL_law_849
theorem I138_851 : decode (zB 138) 851 = .ok (.invokestatic 91, 3) := dL_law_851
theorem I138_854 : decode (zB 138) 854 = .ok (.ireturn, 1) := dL_law_854
theorem I139_0 : decode (zB 139) 0 = .ok (.aload_n 0, 1) := dJ4_init_da8c8_0
theorem I139_1 : decode (zB 139) 1 = .ok (.bipush 16, 2) := dJ4_init_da8c8_1
theorem I139_3 : decode (zB 139) 3 = .ok (.invokespecial 1, 3) := dJ4_init_da8c8_3
theorem I139_6 : decode (zB 139) 6 = .ok (.return_, 1) := dJ4_init_da8c8_6
theorem I140_0 : decode (zB 140) 0 = .ok (.aload_n 0, 1) := dJ4_append_15ec4_0
theorem I140_1 : decode (zB 140) 1 = .ok (.aload_n 1, 1) := dJ4_append_15ec4_1
theorem I140_2 : decode (zB 140) 2 = .ok (.invokespecial 29, 3) := dJ4_append_15ec4_2
theorem I140_5 : decode (zB 140) 5 = .ok (.pop, 1) := dJ4_append_15ec4_5
theorem I140_6 : decode (zB 140) 6 = .ok (.aload_n 0, 1) := dJ4_append_15ec4_6
theorem I140_7 : decode (zB 140) 7 = .ok (.areturn, 1) := dJ4_append_15ec4_7
theorem I141_0 : decode (zB 141) 0 = .ok (.aload_n 0, 1) := dJ4_append_cf468_0
theorem I141_1 : decode (zB 141) 1 = .ok (.iload_n 1, 1) := dJ4_append_cf468_1
theorem I141_2 : decode (zB 141) 2 = .ok (.invokespecial 50, 3) := dJ4_append_cf468_2
theorem I141_5 : decode (zB 141) 5 = .ok (.pop, 1) := dJ4_append_cf468_5
theorem I141_6 : decode (zB 141) 6 = .ok (.aload_n 0, 1) := dJ4_append_cf468_6
theorem I141_7 : decode (zB 141) 7 = .ok (.areturn, 1) := dJ4_append_cf468_7
theorem I142_0 : decode (zB 142) 0 = .ok (.aload_n 0, 1) := dJ4_append_bf812_0
theorem I142_1 : decode (zB 142) 1 = .ok (.iload_n 1, 1) := dJ4_append_bf812_1
theorem I142_2 : decode (zB 142) 2 = .ok (.invokespecial 53, 3) := dJ4_append_bf812_2
theorem I142_5 : decode (zB 142) 5 = .ok (.pop, 1) := dJ4_append_bf812_5
theorem I142_6 : decode (zB 142) 6 = .ok (.aload_n 0, 1) := dJ4_append_bf812_6
theorem I142_7 : decode (zB 142) 7 = .ok (.areturn, 1) := dJ4_append_bf812_7
theorem I143_0 : decode (zB 143) 0 = .ok (.aload_n 0, 1) := dJ4_charAt_5068e_0
theorem I143_1 : decode (zB 143) 1 = .ok (.iload_n 1, 1) := dJ4_charAt_5068e_1
theorem I143_2 : decode (zB 143) 2 = .ok (.invokespecial 329, 3) := dJ4_charAt_5068e_2
theorem I143_5 : decode (zB 143) 5 = .ok (.ireturn, 1) := dJ4_charAt_5068e_5
theorem I144_0 : decode (zB 144) 0 = .ok (.aload_n 0, 1) := dJ4_setLength_d00df_0
theorem I144_1 : decode (zB 144) 1 = .ok (.iload_n 1, 1) := dJ4_setLength_d00df_1
theorem I144_2 : decode (zB 144) 2 = .ok (.invokespecial 333, 3) := dJ4_setLength_d00df_2
theorem I144_5 : decode (zB 144) 5 = .ok (.return_, 1) := dJ4_setLength_d00df_5
theorem I145_0 : decode (zB 145) 0 = .ok (.aload_n 0, 1) := dJ4_length_8abf5_0
theorem I145_1 : decode (zB 145) 1 = .ok (.invokespecial 343, 3) := dJ4_length_8abf5_1
theorem I145_4 : decode (zB 145) 4 = .ok (.ireturn, 1) := dJ4_length_8abf5_4
theorem I146_0 : decode (zB 146) 0 = .ok (.aload_n 0, 1) := dJ5_init_d00df_0
theorem I146_1 : decode (zB 146) 1 = .ok (.invokespecial 3, 3) := dJ5_init_d00df_1
theorem I146_4 : decode (zB 146) 4 = .ok (.getstatic 18, 3) := dJ5_init_d00df_4
theorem I146_7 : decode (zB 146) 7 = .ok (.ifCond .eq 18, 3) := dJ5_init_d00df_7
theorem I146_10 : decode (zB 146) 10 = .ok (.aload_n 0, 1) := dJ5_init_d00df_10
theorem I146_11 : decode (zB 146) 11 = .ok (.iload_n 1, 1) := dJ5_init_d00df_11
theorem I146_12 : decode (zB 146) 12 = .ok (.newarray .byte, 2) := dJ5_init_d00df_12
theorem I146_14 : decode (zB 146) 14 = .ok (.putfield 15, 3) := dJ5_init_d00df_14
theorem I146_17 : decode (zB 146) 17 = .ok (.aload_n 0, 1) := dJ5_init_d00df_17
theorem I146_18 : decode (zB 146) 18 = .ok (.iconst 0, 1) := dJ5_init_d00df_18
theorem I146_19 : decode (zB 146) 19 = .ok (.putfield 22, 3) := dJ5_init_d00df_19
theorem I146_22 : decode (zB 146) 22 = .ok (.goto 16, 3) := dJ5_init_d00df_22
theorem I146_25 : decode (zB 146) 25 = .ok (.aload_n 0, 1) := dJ5_init_d00df_25
theorem I146_26 : decode (zB 146) 26 = .ok (.iload_n 1, 1) := dJ5_init_d00df_26
theorem I146_27 : decode (zB 146) 27 = .ok (.invokestatic 26, 3) := dJ5_init_d00df_27
theorem I146_30 : decode (zB 146) 30 = .ok (.putfield 15, 3) := dJ5_init_d00df_30
theorem I146_33 : decode (zB 146) 33 = .ok (.aload_n 0, 1) := dJ5_init_d00df_33
theorem I146_34 : decode (zB 146) 34 = .ok (.iconst 1, 1) := dJ5_init_d00df_34
theorem I146_35 : decode (zB 146) 35 = .ok (.putfield 22, 3) := dJ5_init_d00df_35
theorem I146_38 : decode (zB 146) 38 = .ok (.return_, 1) := dJ5_init_d00df_38
theorem I147_0 : decode (zB 147) 0 = .ok (.aload_n 0, 1) := dJ5_length_8abf5_0
theorem I147_1 : decode (zB 147) 1 = .ok (.getfield 79, 3) := dJ5_length_8abf5_1
theorem I147_4 : decode (zB 147) 4 = .ok (.ireturn, 1) := dJ5_length_8abf5_4
theorem I148_0 : decode (zB 148) 0 = .ok (.aload_n 0, 1) := dJ5_ensureCapacityInternal_d00df_0
theorem I148_1 : decode (zB 148) 1 = .ok (.getfield 15, 3) := dJ5_ensureCapacityInternal_d00df_1
theorem I148_4 : decode (zB 148) 4 = .ok (.arraylength, 1) := dJ5_ensureCapacityInternal_d00df_4
theorem I148_5 : decode (zB 148) 5 = .ok (.aload_n 0, 1) := dJ5_ensureCapacityInternal_d00df_5
theorem I148_6 : decode (zB 148) 6 = .ok (.getfield 22, 3) := dJ5_ensureCapacityInternal_d00df_6
theorem I148_9 : decode (zB 148) 9 = .ok (.ishr, 1) := dJ5_ensureCapacityInternal_d00df_9
theorem I148_10 : decode (zB 148) 10 = .ok (.istore_n 2, 1) := dJ5_ensureCapacityInternal_d00df_10
theorem I148_11 : decode (zB 148) 11 = .ok (.iload_n 1, 1) := dJ5_ensureCapacityInternal_d00df_11
theorem I148_12 : decode (zB 148) 12 = .ok (.iload_n 2, 1) := dJ5_ensureCapacityInternal_d00df_12
theorem I148_13 : decode (zB 148) 13 = .ok (.isub, 1) := dJ5_ensureCapacityInternal_d00df_13
theorem I148_14 : decode (zB 148) 14 = .ok (.ifCond .le 24, 3) := dJ5_ensureCapacityInternal_d00df_14
theorem I148_17 : decode (zB 148) 17 = .ok (.aload_n 0, 1) := dJ5_ensureCapacityInternal_d00df_17
theorem I148_18 : decode (zB 148) 18 = .ok (.aload_n 0, 1) := dJ5_ensureCapacityInternal_d00df_18
theorem I148_19 : decode (zB 148) 19 = .ok (.getfield 15, 3) := dJ5_ensureCapacityInternal_d00df_19
theorem I148_22 : decode (zB 148) 22 = .ok (.aload_n 0, 1) := dJ5_ensureCapacityInternal_d00df_22
theorem I148_23 : decode (zB 148) 23 = .ok (.iload_n 1, 1) := dJ5_ensureCapacityInternal_d00df_23
theorem I148_24 : decode (zB 148) 24 = .ok (.invokevirtual 104, 3) := dJ5_ensureCapacityInternal_d00df_24
theorem I148_27 : decode (zB 148) 27 = .ok (.aload_n 0, 1) := dJ5_ensureCapacityInternal_d00df_27
theorem I148_28 : decode (zB 148) 28 = .ok (.getfield 22, 3) := dJ5_ensureCapacityInternal_d00df_28
theorem I148_31 : decode (zB 148) 31 = .ok (.ishl, 1) := dJ5_ensureCapacityInternal_d00df_31
theorem I148_32 : decode (zB 148) 32 = .ok (.invokestatic 108, 3) := dJ5_ensureCapacityInternal_d00df_32
theorem I148_35 : decode (zB 148) 35 = .ok (.putfield 15, 3) := dJ5_ensureCapacityInternal_d00df_35
theorem I148_38 : decode (zB 148) 38 = .ok (.return_, 1) := dJ5_ensureCapacityInternal_d00df_38
theorem I149_0 : decode (zB 149) 0 = .ok (.aload_n 0, 1) := dJ5_newCapacity_0f7a4_0
theorem I149_1 : decode (zB 149) 1 = .ok (.getfield 15, 3) := dJ5_newCapacity_0f7a4_1
theorem I149_4 : decode (zB 149) 4 = .ok (.arraylength, 1) := dJ5_newCapacity_0f7a4_4
theorem I149_5 : decode (zB 149) 5 = .ok (.istore_n 2, 1) := dJ5_newCapacity_0f7a4_5
theorem I149_6 : decode (zB 149) 6 = .ok (.iload_n 1, 1) := dJ5_newCapacity_0f7a4_6
theorem I149_7 : decode (zB 149) 7 = .ok (.aload_n 0, 1) := dJ5_newCapacity_0f7a4_7
theorem I149_8 : decode (zB 149) 8 = .ok (.getfield 22, 3) := dJ5_newCapacity_0f7a4_8
theorem I149_11 : decode (zB 149) 11 = .ok (.ishl, 1) := dJ5_newCapacity_0f7a4_11
theorem I149_12 : decode (zB 149) 12 = .ok (.istore_n 3, 1) := dJ5_newCapacity_0f7a4_12
theorem I149_13 : decode (zB 149) 13 = .ok (.iload_n 3, 1) := dJ5_newCapacity_0f7a4_13
theorem I149_14 : decode (zB 149) 14 = .ok (.iload_n 2, 1) := dJ5_newCapacity_0f7a4_14
theorem I149_15 : decode (zB 149) 15 = .ok (.isub, 1) := dJ5_newCapacity_0f7a4_15
theorem I149_16 : decode (zB 149) 16 = .ok (.istore 4, 2) := dJ5_newCapacity_0f7a4_16
theorem I149_18 : decode (zB 149) 18 = .ok (.iload_n 2, 1) := dJ5_newCapacity_0f7a4_18
theorem I149_19 : decode (zB 149) 19 = .ok (.iload 4, 2) := dJ5_newCapacity_0f7a4_19
theorem I149_21 : decode (zB 149) 21 = .ok (.iload_n 2, 1) := dJ5_newCapacity_0f7a4_21
theorem I149_22 : decode (zB 149) 22 = .ok (.iconst 2, 1) := dJ5_newCapacity_0f7a4_22
theorem I149_23 : decode (zB 149) 23 = .ok (.aload_n 0, 1) := dJ5_newCapacity_0f7a4_23
theorem I149_24 : decode (zB 149) 24 = .ok (.getfield 22, 3) := dJ5_newCapacity_0f7a4_24
theorem I149_27 : decode (zB 149) 27 = .ok (.ishl, 1) := dJ5_newCapacity_0f7a4_27
theorem I149_28 : decode (zB 149) 28 = .ok (.iadd, 1) := dJ5_newCapacity_0f7a4_28
theorem I149_29 : decode (zB 149) 29 = .ok (.invokestatic 114, 3) := dJ5_newCapacity_0f7a4_29
theorem I149_32 : decode (zB 149) 32 = .ok (.istore 5, 2) := dJ5_newCapacity_0f7a4_32
theorem I149_34 : decode (zB 149) 34 = .ok (.iload 5, 2) := dJ5_newCapacity_0f7a4_34
theorem I149_36 : decode (zB 149) 36 = .ok (.ldc 39, 2) := dJ5_newCapacity_0f7a4_36
theorem I149_38 : decode (zB 149) 38 = .ok (.if_icmp .ne 13, 3) := dJ5_newCapacity_0f7a4_38
theorem I149_41 : decode (zB 149) 41 = .ok (.new 120, 3) := dJ5_newCapacity_0f7a4_41
theorem I149_44 : decode (zB 149) 44 = .ok (.dup, 1) := dJ5_newCapacity_0f7a4_44
theorem I149_45 : decode (zB 149) 45 = .ok (.ldc 122, 2) := dJ5_newCapacity_0f7a4_45
theorem I149_47 : decode (zB 149) 47 = .ok (.invokespecial 124, 3) := dJ5_newCapacity_0f7a4_47
theorem I149_50 : decode (zB 149) 50 = .ok (.athrow, 1) := dJ5_newCapacity_0f7a4_50
theorem I149_51 : decode (zB 149) 51 = .ok (.iload 5, 2) := dJ5_newCapacity_0f7a4_51
theorem I149_53 : decode (zB 149) 53 = .ok (.aload_n 0, 1) := dJ5_newCapacity_0f7a4_53
theorem I149_54 : decode (zB 149) 54 = .ok (.getfield 22, 3) := dJ5_newCapacity_0f7a4_54
theorem I149_57 : decode (zB 149) 57 = .ok (.ishr, 1) := dJ5_newCapacity_0f7a4_57
theorem I149_58 : decode (zB 149) 58 = .ok (.ireturn, 1) := dJ5_newCapacity_0f7a4_58
theorem I150_0 : decode (zB 150) 0 = .ok (.iload_n 1, 1) := dJ5_setLength_d00df_0
theorem I150_1 : decode (zB 150) 1 = .ok (.ifCond .ge 12, 3) := dJ5_setLength_d00df_1
theorem I150_4 : decode (zB 150) 4 = .ok (.new 129, 3) := dJ5_setLength_d00df_4
theorem I150_7 : decode (zB 150) 7 = .ok (.dup, 1) := dJ5_setLength_d00df_7
theorem I150_8 : decode (zB 150) 8 = .ok (.iload_n 1, 1) := dJ5_setLength_d00df_8
theorem I150_9 : decode (zB 150) 9 = .ok (.invokespecial 131, 3) := dJ5_setLength_d00df_9
theorem I150_12 : decode (zB 150) 12 = .ok (.athrow, 1) := dJ5_setLength_d00df_12
theorem I150_13 : decode (zB 150) 13 = .ok (.aload_n 0, 1) := dJ5_setLength_d00df_13
theorem I150_14 : decode (zB 150) 14 = .ok (.iload_n 1, 1) := dJ5_setLength_d00df_14
theorem I150_15 : decode (zB 150) 15 = .ok (.invokevirtual 100, 3) := dJ5_setLength_d00df_15
theorem I150_18 : decode (zB 150) 18 = .ok (.aload_n 0, 1) := dJ5_setLength_d00df_18
theorem I150_19 : decode (zB 150) 19 = .ok (.getfield 79, 3) := dJ5_setLength_d00df_19
theorem I150_22 : decode (zB 150) 22 = .ok (.iload_n 1, 1) := dJ5_setLength_d00df_22
theorem I150_23 : decode (zB 150) 23 = .ok (.if_icmp .ge 40, 3) := dJ5_setLength_d00df_23
theorem I150_26 : decode (zB 150) 26 = .ok (.aload_n 0, 1) := dJ5_setLength_d00df_26
theorem I150_27 : decode (zB 150) 27 = .ok (.invokevirtual 83, 3) := dJ5_setLength_d00df_27
theorem I150_30 : decode (zB 150) 30 = .ok (.ifCond .eq 18, 3) := dJ5_setLength_d00df_30
theorem I150_33 : decode (zB 150) 33 = .ok (.aload_n 0, 1) := dJ5_setLength_d00df_33
theorem I150_34 : decode (zB 150) 34 = .ok (.getfield 15, 3) := dJ5_setLength_d00df_34
theorem I150_37 : decode (zB 150) 37 = .ok (.aload_n 0, 1) := dJ5_setLength_d00df_37
theorem I150_38 : decode (zB 150) 38 = .ok (.getfield 79, 3) := dJ5_setLength_d00df_38
theorem I150_41 : decode (zB 150) 41 = .ok (.iload_n 1, 1) := dJ5_setLength_d00df_41
theorem I150_42 : decode (zB 150) 42 = .ok (.invokestatic 133, 3) := dJ5_setLength_d00df_42
theorem I150_45 : decode (zB 150) 45 = .ok (.goto 31, 3) := dJ5_setLength_d00df_45
theorem I150_48 : decode (zB 150) 48 = .ok (.aload_n 0, 1) := dJ5_setLength_d00df_48
theorem I150_49 : decode (zB 150) 49 = .ok (.getfield 15, 3) := dJ5_setLength_d00df_49
theorem I150_52 : decode (zB 150) 52 = .ok (.aload_n 0, 1) := dJ5_setLength_d00df_52
theorem I150_53 : decode (zB 150) 53 = .ok (.getfield 79, 3) := dJ5_setLength_d00df_53
theorem I150_56 : decode (zB 150) 56 = .ok (.iload_n 1, 1) := dJ5_setLength_d00df_56
theorem I150_57 : decode (zB 150) 57 = .ok (.invokestatic 137, 3) := dJ5_setLength_d00df_57
theorem I150_60 : decode (zB 150) 60 = .ok (.goto 16, 3) := dJ5_setLength_d00df_60
theorem I150_63 : decode (zB 150) 63 = .ok (.aload_n 0, 1) := dJ5_setLength_d00df_63
theorem I150_64 : decode (zB 150) 64 = .ok (.getfield 79, 3) := dJ5_setLength_d00df_64
theorem I150_67 : decode (zB 150) 67 = .ok (.iload_n 1, 1) := dJ5_setLength_d00df_67
theorem I150_68 : decode (zB 150) 68 = .ok (.if_icmp .le 8, 3) := dJ5_setLength_d00df_68
theorem I150_71 : decode (zB 150) 71 = .ok (.aload_n 0, 1) := dJ5_setLength_d00df_71
theorem I150_72 : decode (zB 150) 72 = .ok (.iconst 1, 1) := dJ5_setLength_d00df_72
theorem I150_73 : decode (zB 150) 73 = .ok (.putfield 73, 3) := dJ5_setLength_d00df_73
theorem I150_76 : decode (zB 150) 76 = .ok (.aload_n 0, 1) := dJ5_setLength_d00df_76
theorem I150_77 : decode (zB 150) 77 = .ok (.iload_n 1, 1) := dJ5_setLength_d00df_77
theorem I150_78 : decode (zB 150) 78 = .ok (.putfield 79, 3) := dJ5_setLength_d00df_78
theorem I150_81 : decode (zB 150) 81 = .ok (.return_, 1) := dJ5_setLength_d00df_81
theorem I151_0 : decode (zB 151) 0 = .ok (.aload_n 0, 1) := dJ5_charAt_5068e_0
theorem I151_1 : decode (zB 151) 1 = .ok (.getfield 22, 3) := dJ5_charAt_5068e_1
theorem I151_4 : decode (zB 151) 4 = .ok (.istore_n 2, 1) := dJ5_charAt_5068e_4
theorem I151_5 : decode (zB 151) 5 = .ok (.aload_n 0, 1) := dJ5_charAt_5068e_5
theorem I151_6 : decode (zB 151) 6 = .ok (.getfield 15, 3) := dJ5_charAt_5068e_6
theorem I151_9 : decode (zB 151) 9 = .ok (.astore_n 3, 1) := dJ5_charAt_5068e_9
theorem I151_10 : decode (zB 151) 10 = .ok (.aload_n 0, 1) := dJ5_charAt_5068e_10
theorem I151_11 : decode (zB 151) 11 = .ok (.getfield 79, 3) := dJ5_charAt_5068e_11
theorem I151_14 : decode (zB 151) 14 = .ok (.aload_n 3, 1) := dJ5_charAt_5068e_14
theorem I151_15 : decode (zB 151) 15 = .ok (.arraylength, 1) := dJ5_charAt_5068e_15
theorem I151_16 : decode (zB 151) 16 = .ok (.iload_n 2, 1) := dJ5_charAt_5068e_16
theorem I151_17 : decode (zB 151) 17 = .ok (.ishr, 1) := dJ5_charAt_5068e_17
theorem I151_18 : decode (zB 151) 18 = .ok (.invokestatic 138, 3) := dJ5_charAt_5068e_18
theorem I151_21 : decode (zB 151) 21 = .ok (.istore 4, 2) := dJ5_charAt_5068e_21
theorem I151_23 : decode (zB 151) 23 = .ok (.iload_n 1, 1) := dJ5_charAt_5068e_23
theorem I151_24 : decode (zB 151) 24 = .ok (.iload 4, 2) := dJ5_charAt_5068e_24
theorem I151_26 : decode (zB 151) 26 = .ok (.invokestatic 144, 3) := dJ5_charAt_5068e_26
theorem I151_29 : decode (zB 151) 29 = .ok (.iload_n 2, 1) := dJ5_charAt_5068e_29
theorem I151_30 : decode (zB 151) 30 = .ok (.ifCond .ne 12, 3) := dJ5_charAt_5068e_30
theorem I151_33 : decode (zB 151) 33 = .ok (.aload_n 3, 1) := dJ5_charAt_5068e_33
theorem I151_34 : decode (zB 151) 34 = .ok (.iload_n 1, 1) := dJ5_charAt_5068e_34
theorem I151_35 : decode (zB 151) 35 = .ok (.baload, 1) := dJ5_charAt_5068e_35
theorem I151_36 : decode (zB 151) 36 = .ok (.sipush 255, 3) := dJ5_charAt_5068e_36
theorem I151_39 : decode (zB 151) 39 = .ok (.iand, 1) := dJ5_charAt_5068e_39
theorem I151_40 : decode (zB 151) 40 = .ok (.i2c, 1) := dJ5_charAt_5068e_40
theorem I151_41 : decode (zB 151) 41 = .ok (.ireturn, 1) := dJ5_charAt_5068e_41
theorem I151_42 : decode (zB 151) 42 = .ok (.aload_n 3, 1) := dJ5_charAt_5068e_42
theorem I151_43 : decode (zB 151) 43 = .ok (.iload_n 1, 1) := dJ5_charAt_5068e_43
theorem I151_44 : decode (zB 151) 44 = .ok (.invokestatic 148, 3) := dJ5_charAt_5068e_44
theorem I151_47 : decode (zB 151) 47 = .ok (.ireturn, 1) := dJ5_charAt_5068e_47
theorem I152_0 : decode (zB 152) 0 = .ok (.aload_n 1, 1) := dJ5_append_cf1ce_0
theorem I152_1 : decode (zB 152) 1 = .ok (.ifnonnull 8, 3) := dJ5_append_cf1ce_1
theorem I152_4 : decode (zB 152) 4 = .ok (.aload_n 0, 1) := dJ5_append_cf1ce_4
theorem I152_5 : decode (zB 152) 5 = .ok (.invokevirtual 204, 3) := dJ5_append_cf1ce_5
theorem I152_8 : decode (zB 152) 8 = .ok (.areturn, 1) := dJ5_append_cf1ce_8
theorem I152_9 : decode (zB 152) 9 = .ok (.aload_n 1, 1) := dJ5_append_cf1ce_9
theorem I152_10 : decode (zB 152) 10 = .ok (.invokevirtual 32, 3) := dJ5_append_cf1ce_10
theorem I152_13 : decode (zB 152) 13 = .ok (.istore_n 2, 1) := dJ5_append_cf1ce_13
theorem I152_14 : decode (zB 152) 14 = .ok (.aload_n 0, 1) := dJ5_append_cf1ce_14
theorem I152_15 : decode (zB 152) 15 = .ok (.aload_n 0, 1) := dJ5_append_cf1ce_15
theorem I152_16 : decode (zB 152) 16 = .ok (.getfield 79, 3) := dJ5_append_cf1ce_16
theorem I152_19 : decode (zB 152) 19 = .ok (.iload_n 2, 1) := dJ5_append_cf1ce_19
theorem I152_20 : decode (zB 152) 20 = .ok (.iadd, 1) := dJ5_append_cf1ce_20
theorem I152_21 : decode (zB 152) 21 = .ok (.invokevirtual 100, 3) := dJ5_append_cf1ce_21
theorem I152_24 : decode (zB 152) 24 = .ok (.aload_n 0, 1) := dJ5_append_cf1ce_24
theorem I152_25 : decode (zB 152) 25 = .ok (.aload_n 0, 1) := dJ5_append_cf1ce_25
theorem I152_26 : decode (zB 152) 26 = .ok (.getfield 79, 3) := dJ5_append_cf1ce_26
theorem I152_29 : decode (zB 152) 29 = .ok (.aload_n 1, 1) := dJ5_append_cf1ce_29
theorem I152_30 : decode (zB 152) 30 = .ok (.invokevirtual 208, 3) := dJ5_append_cf1ce_30
theorem I152_33 : decode (zB 152) 33 = .ok (.aload_n 0, 1) := dJ5_append_cf1ce_33
theorem I152_34 : decode (zB 152) 34 = .ok (.dup, 1) := dJ5_append_cf1ce_34
theorem I152_35 : decode (zB 152) 35 = .ok (.getfield 79, 3) := dJ5_append_cf1ce_35
theorem I152_38 : decode (zB 152) 38 = .ok (.iload_n 2, 1) := dJ5_append_cf1ce_38
theorem I152_39 : decode (zB 152) 39 = .ok (.iadd, 1) := dJ5_append_cf1ce_39
theorem I152_40 : decode (zB 152) 40 = .ok (.putfield 79, 3) := dJ5_append_cf1ce_40
theorem I152_43 : decode (zB 152) 43 = .ok (.aload_n 0, 1) := dJ5_append_cf1ce_43
theorem I152_44 : decode (zB 152) 44 = .ok (.areturn, 1) := dJ5_append_cf1ce_44
theorem I153_0 : decode (zB 153) 0 = .ok (.aload_n 0, 1) := dJ5_append_3fe6f_0
theorem I153_1 : decode (zB 153) 1 = .ok (.aload_n 0, 1) := dJ5_append_3fe6f_1
theorem I153_2 : decode (zB 153) 2 = .ok (.getfield 79, 3) := dJ5_append_3fe6f_2
theorem I153_5 : decode (zB 153) 5 = .ok (.iconst 1, 1) := dJ5_append_3fe6f_5
theorem I153_6 : decode (zB 153) 6 = .ok (.iadd, 1) := dJ5_append_3fe6f_6
theorem I153_7 : decode (zB 153) 7 = .ok (.invokevirtual 100, 3) := dJ5_append_3fe6f_7
theorem I153_10 : decode (zB 153) 10 = .ok (.aload_n 0, 1) := dJ5_append_3fe6f_10
theorem I153_11 : decode (zB 153) 11 = .ok (.invokevirtual 83, 3) := dJ5_append_3fe6f_11
theorem I153_14 : decode (zB 153) 14 = .ok (.ifCond .eq 31, 3) := dJ5_append_3fe6f_14
theorem I153_17 : decode (zB 153) 17 = .ok (.iload_n 1, 1) := dJ5_append_3fe6f_17
theorem I153_18 : decode (zB 153) 18 = .ok (.invokestatic 191, 3) := dJ5_append_3fe6f_18
theorem I153_21 : decode (zB 153) 21 = .ok (.ifCond .eq 24, 3) := dJ5_append_3fe6f_21
theorem I153_24 : decode (zB 153) 24 = .ok (.aload_n 0, 1) := dJ5_append_3fe6f_24
theorem I153_25 : decode (zB 153) 25 = .ok (.getfield 15, 3) := dJ5_append_3fe6f_25
theorem I153_28 : decode (zB 153) 28 = .ok (.aload_n 0, 1) := dJ5_append_3fe6f_28
theorem I153_29 : decode (zB 153) 29 = .ok (.dup, 1) := dJ5_append_3fe6f_29
theorem I153_30 : decode (zB 153) 30 = .ok (.getfield 79, 3) := dJ5_append_3fe6f_30
theorem I153_33 : decode (zB 153) 33 = .ok (.dup_x1, 1) := dJ5_append_3fe6f_33
theorem I153_34 : decode (zB 153) 34 = .ok (.iconst 1, 1) := dJ5_append_3fe6f_34
theorem I153_35 : decode (zB 153) 35 = .ok (.iadd, 1) := dJ5_append_3fe6f_35
theorem I153_36 : decode (zB 153) 36 = .ok (.putfield 79, 3) := dJ5_append_3fe6f_36
theorem I153_39 : decode (zB 153) 39 = .ok (.iload_n 1, 1) := dJ5_append_3fe6f_39
theorem I153_40 : decode (zB 153) 40 = .ok (.i2b, 1) := dJ5_append_3fe6f_40
theorem I153_41 : decode (zB 153) 41 = .ok (.bastore, 1) := dJ5_append_3fe6f_41
theorem I153_42 : decode (zB 153) 42 = .ok (.goto 33, 3) := dJ5_append_3fe6f_42
theorem I153_45 : decode (zB 153) 45 = .ok (.aload_n 0, 1) := dJ5_append_3fe6f_45
theorem I153_46 : decode (zB 153) 46 = .ok (.invokevirtual 83, 3) := dJ5_append_3fe6f_46
theorem I153_49 : decode (zB 153) 49 = .ok (.ifCond .eq 7, 3) := dJ5_append_3fe6f_49
theorem I153_52 : decode (zB 153) 52 = .ok (.aload_n 0, 1) := dJ5_append_3fe6f_52
theorem I153_53 : decode (zB 153) 53 = .ok (.invokevirtual 195, 3) := dJ5_append_3fe6f_53
theorem I153_56 : decode (zB 153) 56 = .ok (.aload_n 0, 1) := dJ5_append_3fe6f_56
theorem I153_57 : decode (zB 153) 57 = .ok (.getfield 15, 3) := dJ5_append_3fe6f_57
theorem I153_60 : decode (zB 153) 60 = .ok (.aload_n 0, 1) := dJ5_append_3fe6f_60
theorem I153_61 : decode (zB 153) 61 = .ok (.dup, 1) := dJ5_append_3fe6f_61
theorem I153_62 : decode (zB 153) 62 = .ok (.getfield 79, 3) := dJ5_append_3fe6f_62
theorem I153_65 : decode (zB 153) 65 = .ok (.dup_x1, 1) := dJ5_append_3fe6f_65
theorem I153_66 : decode (zB 153) 66 = .ok (.iconst 1, 1) := dJ5_append_3fe6f_66
theorem I153_67 : decode (zB 153) 67 = .ok (.iadd, 1) := dJ5_append_3fe6f_67
theorem I153_68 : decode (zB 153) 68 = .ok (.putfield 79, 3) := dJ5_append_3fe6f_68
theorem I153_71 : decode (zB 153) 71 = .ok (.iload_n 1, 1) := dJ5_append_3fe6f_71
theorem I153_72 : decode (zB 153) 72 = .ok (.invokestatic 197, 3) := dJ5_append_3fe6f_72
theorem I153_75 : decode (zB 153) 75 = .ok (.aload_n 0, 1) := dJ5_append_3fe6f_75
theorem I153_76 : decode (zB 153) 76 = .ok (.areturn, 1) := dJ5_append_3fe6f_76
theorem I154_0 : decode (zB 154) 0 = .ok (.aload_n 0, 1) := dJ5_append_c97b9_0
theorem I154_1 : decode (zB 154) 1 = .ok (.getfield 79, 3) := dJ5_append_c97b9_1
theorem I154_4 : decode (zB 154) 4 = .ok (.istore_n 2, 1) := dJ5_append_c97b9_4
theorem I154_5 : decode (zB 154) 5 = .ok (.iload_n 2, 1) := dJ5_append_c97b9_5
theorem I154_6 : decode (zB 154) 6 = .ok (.iload_n 1, 1) := dJ5_append_c97b9_6
theorem I154_7 : decode (zB 154) 7 = .ok (.invokestatic 245, 3) := dJ5_append_c97b9_7
theorem I154_10 : decode (zB 154) 10 = .ok (.iadd, 1) := dJ5_append_c97b9_10
theorem I154_11 : decode (zB 154) 11 = .ok (.istore_n 3, 1) := dJ5_append_c97b9_11
theorem I154_12 : decode (zB 154) 12 = .ok (.aload_n 0, 1) := dJ5_append_c97b9_12
theorem I154_13 : decode (zB 154) 13 = .ok (.iload_n 3, 1) := dJ5_append_c97b9_13
theorem I154_14 : decode (zB 154) 14 = .ok (.invokevirtual 100, 3) := dJ5_append_c97b9_14
theorem I154_17 : decode (zB 154) 17 = .ok (.aload_n 0, 1) := dJ5_append_c97b9_17
theorem I154_18 : decode (zB 154) 18 = .ok (.invokevirtual 83, 3) := dJ5_append_c97b9_18
theorem I154_21 : decode (zB 154) 21 = .ok (.ifCond .eq 16, 3) := dJ5_append_c97b9_21
theorem I154_24 : decode (zB 154) 24 = .ok (.iload_n 1, 1) := dJ5_append_c97b9_24
theorem I154_25 : decode (zB 154) 25 = .ok (.iload_n 3, 1) := dJ5_append_c97b9_25
theorem I154_26 : decode (zB 154) 26 = .ok (.aload_n 0, 1) := dJ5_append_c97b9_26
theorem I154_27 : decode (zB 154) 27 = .ok (.getfield 15, 3) := dJ5_append_c97b9_27
theorem I154_30 : decode (zB 154) 30 = .ok (.invokestatic 248, 3) := dJ5_append_c97b9_30
theorem I154_33 : decode (zB 154) 33 = .ok (.pop, 1) := dJ5_append_c97b9_33
theorem I154_34 : decode (zB 154) 34 = .ok (.goto 14, 3) := dJ5_append_c97b9_34
theorem I154_37 : decode (zB 154) 37 = .ok (.iload_n 1, 1) := dJ5_append_c97b9_37
theorem I154_38 : decode (zB 154) 38 = .ok (.iload_n 2, 1) := dJ5_append_c97b9_38
theorem I154_39 : decode (zB 154) 39 = .ok (.iload_n 3, 1) := dJ5_append_c97b9_39
theorem I154_40 : decode (zB 154) 40 = .ok (.aload_n 0, 1) := dJ5_append_c97b9_40
theorem I154_41 : decode (zB 154) 41 = .ok (.getfield 15, 3) := dJ5_append_c97b9_41
theorem I154_44 : decode (zB 154) 44 = .ok (.invokestatic 251, 3) := dJ5_append_c97b9_44
theorem I154_47 : decode (zB 154) 47 = .ok (.pop, 1) := dJ5_append_c97b9_47
theorem I154_48 : decode (zB 154) 48 = .ok (.aload_n 0, 1) := dJ5_append_c97b9_48
theorem I154_49 : decode (zB 154) 49 = .ok (.iload_n 3, 1) := dJ5_append_c97b9_49
theorem I154_50 : decode (zB 154) 50 = .ok (.putfield 79, 3) := dJ5_append_c97b9_50
theorem I154_53 : decode (zB 154) 53 = .ok (.aload_n 0, 1) := dJ5_append_c97b9_53
theorem I154_54 : decode (zB 154) 54 = .ok (.areturn, 1) := dJ5_append_c97b9_54
theorem I155_0 : decode (zB 155) 0 = .ok (.getstatic 18, 3) := dJ5_isLatin1_aae02_0
theorem I155_3 : decode (zB 155) 3 = .ok (.ifCond .eq 14, 3) := dJ5_isLatin1_aae02_3
theorem I155_6 : decode (zB 155) 6 = .ok (.aload_n 0, 1) := dJ5_isLatin1_aae02_6
theorem I155_7 : decode (zB 155) 7 = .ok (.getfield 22, 3) := dJ5_isLatin1_aae02_7
theorem I155_10 : decode (zB 155) 10 = .ok (.ifCond .ne 7, 3) := dJ5_isLatin1_aae02_10
theorem I155_13 : decode (zB 155) 13 = .ok (.iconst 1, 1) := dJ5_isLatin1_aae02_13
theorem I155_14 : decode (zB 155) 14 = .ok (.goto 4, 3) := dJ5_isLatin1_aae02_14
theorem I155_17 : decode (zB 155) 17 = .ok (.iconst 0, 1) := dJ5_isLatin1_aae02_17
theorem I155_18 : decode (zB 155) 18 = .ok (.ireturn, 1) := dJ5_isLatin1_aae02_18
theorem I156_0 : decode (zB 156) 0 = .ok (.getstatic 18, 3) := dJ5_inflateIfNeededFor_a7421_0
theorem I156_3 : decode (zB 156) 3 = .ok (.ifCond .eq 18, 3) := dJ5_inflateIfNeededFor_a7421_3
theorem I156_6 : decode (zB 156) 6 = .ok (.aload_n 0, 1) := dJ5_inflateIfNeededFor_a7421_6
theorem I156_7 : decode (zB 156) 7 = .ok (.getfield 22, 3) := dJ5_inflateIfNeededFor_a7421_7
theorem I156_10 : decode (zB 156) 10 = .ok (.aload_n 1, 1) := dJ5_inflateIfNeededFor_a7421_10
theorem I156_11 : decode (zB 156) 11 = .ok (.invokevirtual 40, 3) := dJ5_inflateIfNeededFor_a7421_11
theorem I156_14 : decode (zB 156) 14 = .ok (.if_icmp .eq 7, 3) := dJ5_inflateIfNeededFor_a7421_14
theorem I156_17 : decode (zB 156) 17 = .ok (.aload_n 0, 1) := dJ5_inflateIfNeededFor_a7421_17
theorem I156_18 : decode (zB 156) 18 = .ok (.invokevirtual 195, 3) := dJ5_inflateIfNeededFor_a7421_18
theorem I156_21 : decode (zB 156) 21 = .ok (.return_, 1) := dJ5_inflateIfNeededFor_a7421_21
theorem I157_0 : decode (zB 157) 0 = .ok (.aload_n 0, 1) := dJ5_putStringAt_47b60_0
theorem I157_1 : decode (zB 157) 1 = .ok (.aload_n 2, 1) := dJ5_putStringAt_47b60_1
theorem I157_2 : decode (zB 157) 2 = .ok (.invokevirtual 397, 3) := dJ5_putStringAt_47b60_2
theorem I157_5 : decode (zB 157) 5 = .ok (.aload_n 2, 1) := dJ5_putStringAt_47b60_5
theorem I157_6 : decode (zB 157) 6 = .ok (.aload_n 0, 1) := dJ5_putStringAt_47b60_6
theorem I157_7 : decode (zB 157) 7 = .ok (.getfield 15, 3) := dJ5_putStringAt_47b60_7
theorem I157_10 : decode (zB 157) 10 = .ok (.iload_n 1, 1) := dJ5_putStringAt_47b60_10
theorem I157_11 : decode (zB 157) 11 = .ok (.aload_n 0, 1) := dJ5_putStringAt_47b60_11
theorem I157_12 : decode (zB 157) 12 = .ok (.getfield 22, 3) := dJ5_putStringAt_47b60_12
theorem I157_15 : decode (zB 157) 15 = .ok (.invokevirtual 399, 3) := dJ5_putStringAt_47b60_15
theorem I157_18 : decode (zB 157) 18 = .ok (.return_, 1) := dJ5_putStringAt_47b60_18
theorem I158_0 : decode (zB 158) 0 = .ok (.iload_n 1, 1) := dJ6_getChars_ba4f3_0
theorem I158_1 : decode (zB 158) 1 = .ok (.istore 5, 2) := dJ6_getChars_ba4f3_1
theorem I158_3 : decode (zB 158) 3 = .ok (.iload_n 0, 1) := dJ6_getChars_ba4f3_3
theorem I158_4 : decode (zB 158) 4 = .ok (.ifCond .ge 7, 3) := dJ6_getChars_ba4f3_4
theorem I158_7 : decode (zB 158) 7 = .ok (.iconst 1, 1) := dJ6_getChars_ba4f3_7
theorem I158_8 : decode (zB 158) 8 = .ok (.goto 4, 3) := dJ6_getChars_ba4f3_8
theorem I158_11 : decode (zB 158) 11 = .ok (.iconst 0, 1) := dJ6_getChars_ba4f3_11
theorem I158_12 : decode (zB 158) 12 = .ok (.istore 6, 2) := dJ6_getChars_ba4f3_12
theorem I158_14 : decode (zB 158) 14 = .ok (.iload 6, 2) := dJ6_getChars_ba4f3_14
theorem I158_16 : decode (zB 158) 16 = .ok (.ifCond .ne 6, 3) := dJ6_getChars_ba4f3_16
theorem I158_19 : decode (zB 158) 19 = .ok (.iload_n 0, 1) := dJ6_getChars_ba4f3_19
theorem I158_20 : decode (zB 158) 20 = .ok (.ineg, 1) := dJ6_getChars_ba4f3_20
theorem I158_21 : decode (zB 158) 21 = .ok (.istore_n 0, 1) := dJ6_getChars_ba4f3_21
theorem I158_22 : decode (zB 158) 22 = .ok (.iload_n 0, 1) := dJ6_getChars_ba4f3_22
theorem I158_23 : decode (zB 158) 23 = .ok (.bipush (-100), 2) := dJ6_getChars_ba4f3_23
theorem I158_25 : decode (zB 158) 25 = .ok (.if_icmp .gt 47, 3) := dJ6_getChars_ba4f3_25
theorem I158_28 : decode (zB 158) 28 = .ok (.iload_n 0, 1) := dJ6_getChars_ba4f3_28
theorem I158_29 : decode (zB 158) 29 = .ok (.bipush 100, 2) := dJ6_getChars_ba4f3_29
theorem I158_31 : decode (zB 158) 31 = .ok (.idiv, 1) := dJ6_getChars_ba4f3_31
theorem I158_32 : decode (zB 158) 32 = .ok (.istore_n 3, 1) := dJ6_getChars_ba4f3_32
theorem I158_33 : decode (zB 158) 33 = .ok (.iload_n 3, 1) := dJ6_getChars_ba4f3_33
theorem I158_34 : decode (zB 158) 34 = .ok (.bipush 100, 2) := dJ6_getChars_ba4f3_34
theorem I158_36 : decode (zB 158) 36 = .ok (.imul, 1) := dJ6_getChars_ba4f3_36
theorem I158_37 : decode (zB 158) 37 = .ok (.iload_n 0, 1) := dJ6_getChars_ba4f3_37
theorem I158_38 : decode (zB 158) 38 = .ok (.isub, 1) := dJ6_getChars_ba4f3_38
theorem I158_39 : decode (zB 158) 39 = .ok (.istore 4, 2) := dJ6_getChars_ba4f3_39
theorem I158_41 : decode (zB 158) 41 = .ok (.iload_n 3, 1) := dJ6_getChars_ba4f3_41
theorem I158_42 : decode (zB 158) 42 = .ok (.istore_n 0, 1) := dJ6_getChars_ba4f3_42
theorem I158_43 : decode (zB 158) 43 = .ok (.aload_n 2, 1) := dJ6_getChars_ba4f3_43
theorem I158_44 : decode (zB 158) 44 = .ok (.iinc 5 (-1), 3) := dJ6_getChars_ba4f3_44
theorem I158_47 : decode (zB 158) 47 = .ok (.iload 5, 2) := dJ6_getChars_ba4f3_47
theorem I158_49 : decode (zB 158) 49 = .ok (.getstatic 83, 3) := dJ6_getChars_ba4f3_49
theorem I158_52 : decode (zB 158) 52 = .ok (.iload 4, 2) := dJ6_getChars_ba4f3_52
theorem I158_54 : decode (zB 158) 54 = .ok (.baload, 1) := dJ6_getChars_ba4f3_54
theorem I158_55 : decode (zB 158) 55 = .ok (.bastore, 1) := dJ6_getChars_ba4f3_55
theorem I158_56 : decode (zB 158) 56 = .ok (.aload_n 2, 1) := dJ6_getChars_ba4f3_56
theorem I158_57 : decode (zB 158) 57 = .ok (.iinc 5 (-1), 3) := dJ6_getChars_ba4f3_57
theorem I158_60 : decode (zB 158) 60 = .ok (.iload 5, 2) := dJ6_getChars_ba4f3_60
theorem I158_62 : decode (zB 158) 62 = .ok (.getstatic 87, 3) := dJ6_getChars_ba4f3_62
theorem I158_65 : decode (zB 158) 65 = .ok (.iload 4, 2) := dJ6_getChars_ba4f3_65
theorem I158_67 : decode (zB 158) 67 = .ok (.baload, 1) := dJ6_getChars_ba4f3_67
theorem I158_68 : decode (zB 158) 68 = .ok (.bastore, 1) := dJ6_getChars_ba4f3_68
theorem I158_69 : decode (zB 158) 69 = .ok (.goto (-47), 3) := dJ6_getChars_ba4f3_69
theorem I158_72 : decode (zB 158) 72 = .ok (.aload_n 2, 1) := dJ6_getChars_ba4f3_72
theorem I158_73 : decode (zB 158) 73 = .ok (.iinc 5 (-1), 3) := dJ6_getChars_ba4f3_73
theorem I158_76 : decode (zB 158) 76 = .ok (.iload 5, 2) := dJ6_getChars_ba4f3_76
theorem I158_78 : decode (zB 158) 78 = .ok (.getstatic 83, 3) := dJ6_getChars_ba4f3_78
theorem I158_81 : decode (zB 158) 81 = .ok (.iload_n 0, 1) := dJ6_getChars_ba4f3_81
theorem I158_82 : decode (zB 158) 82 = .ok (.ineg, 1) := dJ6_getChars_ba4f3_82
theorem I158_83 : decode (zB 158) 83 = .ok (.baload, 1) := dJ6_getChars_ba4f3_83
theorem I158_84 : decode (zB 158) 84 = .ok (.bastore, 1) := dJ6_getChars_ba4f3_84
theorem I158_85 : decode (zB 158) 85 = .ok (.iload_n 0, 1) := dJ6_getChars_ba4f3_85
theorem I158_86 : decode (zB 158) 86 = .ok (.bipush (-9), 2) := dJ6_getChars_ba4f3_86
theorem I158_88 : decode (zB 158) 88 = .ok (.if_icmp .ge 16, 3) := dJ6_getChars_ba4f3_88
theorem I158_91 : decode (zB 158) 91 = .ok (.aload_n 2, 1) := dJ6_getChars_ba4f3_91
theorem I158_92 : decode (zB 158) 92 = .ok (.iinc 5 (-1), 3) := dJ6_getChars_ba4f3_92
theorem I158_95 : decode (zB 158) 95 = .ok (.iload 5, 2) := dJ6_getChars_ba4f3_95
theorem I158_97 : decode (zB 158) 97 = .ok (.getstatic 87, 3) := dJ6_getChars_ba4f3_97
theorem I158_100 : decode (zB 158) 100 = .ok (.iload_n 0, 1) := dJ6_getChars_ba4f3_100
theorem I158_101 : decode (zB 158) 101 = .ok (.ineg, 1) := dJ6_getChars_ba4f3_101
theorem I158_102 : decode (zB 158) 102 = .ok (.baload, 1) := dJ6_getChars_ba4f3_102
theorem I158_103 : decode (zB 158) 103 = .ok (.bastore, 1) := dJ6_getChars_ba4f3_103
theorem I158_104 : decode (zB 158) 104 = .ok (.iload 6, 2) := dJ6_getChars_ba4f3_104
theorem I158_106 : decode (zB 158) 106 = .ok (.ifCond .eq 12, 3) := dJ6_getChars_ba4f3_106
theorem I158_109 : decode (zB 158) 109 = .ok (.aload_n 2, 1) := dJ6_getChars_ba4f3_109
theorem I158_110 : decode (zB 158) 110 = .ok (.iinc 5 (-1), 3) := dJ6_getChars_ba4f3_110
theorem I158_113 : decode (zB 158) 113 = .ok (.iload 5, 2) := dJ6_getChars_ba4f3_113
theorem I158_115 : decode (zB 158) 115 = .ok (.bipush 45, 2) := dJ6_getChars_ba4f3_115
theorem I158_117 : decode (zB 158) 117 = .ok (.bastore, 1) := dJ6_getChars_ba4f3_117
theorem I158_118 : decode (zB 158) 118 = .ok (.iload 5, 2) := dJ6_getChars_ba4f3_118
theorem I158_120 : decode (zB 158) 120 = .ok (.ireturn, 1) := dJ6_getChars_ba4f3_120
theorem I159_0 : decode (zB 159) 0 = .ok (.iconst 1, 1) := dJ6_stringSize_0f7a4_0
theorem I159_1 : decode (zB 159) 1 = .ok (.istore_n 1, 1) := dJ6_stringSize_0f7a4_1
theorem I159_2 : decode (zB 159) 2 = .ok (.iload_n 0, 1) := dJ6_stringSize_0f7a4_2
theorem I159_3 : decode (zB 159) 3 = .ok (.ifCond .lt 8, 3) := dJ6_stringSize_0f7a4_3
theorem I159_6 : decode (zB 159) 6 = .ok (.iconst 0, 1) := dJ6_stringSize_0f7a4_6
theorem I159_7 : decode (zB 159) 7 = .ok (.istore_n 1, 1) := dJ6_stringSize_0f7a4_7
theorem I159_8 : decode (zB 159) 8 = .ok (.iload_n 0, 1) := dJ6_stringSize_0f7a4_8
theorem I159_9 : decode (zB 159) 9 = .ok (.ineg, 1) := dJ6_stringSize_0f7a4_9
theorem I159_10 : decode (zB 159) 10 = .ok (.istore_n 0, 1) := dJ6_stringSize_0f7a4_10
theorem I159_11 : decode (zB 159) 11 = .ok (.bipush (-10), 2) := dJ6_stringSize_0f7a4_11
theorem I159_13 : decode (zB 159) 13 = .ok (.istore_n 2, 1) := dJ6_stringSize_0f7a4_13
theorem I159_14 : decode (zB 159) 14 = .ok (.iconst 1, 1) := dJ6_stringSize_0f7a4_14
theorem I159_15 : decode (zB 159) 15 = .ok (.istore_n 3, 1) := dJ6_stringSize_0f7a4_15
theorem I159_16 : decode (zB 159) 16 = .ok (.iload_n 3, 1) := dJ6_stringSize_0f7a4_16
theorem I159_17 : decode (zB 159) 17 = .ok (.bipush 10, 2) := dJ6_stringSize_0f7a4_17
theorem I159_19 : decode (zB 159) 19 = .ok (.if_icmp .ge 23, 3) := dJ6_stringSize_0f7a4_19
theorem I159_22 : decode (zB 159) 22 = .ok (.iload_n 0, 1) := dJ6_stringSize_0f7a4_22
theorem I159_23 : decode (zB 159) 23 = .ok (.iload_n 2, 1) := dJ6_stringSize_0f7a4_23
theorem I159_24 : decode (zB 159) 24 = .ok (.if_icmp .le 7, 3) := dJ6_stringSize_0f7a4_24
theorem I159_27 : decode (zB 159) 27 = .ok (.iload_n 3, 1) := dJ6_stringSize_0f7a4_27
theorem I159_28 : decode (zB 159) 28 = .ok (.iload_n 1, 1) := dJ6_stringSize_0f7a4_28
theorem I159_29 : decode (zB 159) 29 = .ok (.iadd, 1) := dJ6_stringSize_0f7a4_29
theorem I159_30 : decode (zB 159) 30 = .ok (.ireturn, 1) := dJ6_stringSize_0f7a4_30
theorem I159_31 : decode (zB 159) 31 = .ok (.bipush 10, 2) := dJ6_stringSize_0f7a4_31
theorem I159_33 : decode (zB 159) 33 = .ok (.iload_n 2, 1) := dJ6_stringSize_0f7a4_33
theorem I159_34 : decode (zB 159) 34 = .ok (.imul, 1) := dJ6_stringSize_0f7a4_34
theorem I159_35 : decode (zB 159) 35 = .ok (.istore_n 2, 1) := dJ6_stringSize_0f7a4_35
theorem I159_36 : decode (zB 159) 36 = .ok (.iinc 3 1, 3) := dJ6_stringSize_0f7a4_36
theorem I159_39 : decode (zB 159) 39 = .ok (.goto (-23), 3) := dJ6_stringSize_0f7a4_39
theorem I159_42 : decode (zB 159) 42 = .ok (.bipush 10, 2) := dJ6_stringSize_0f7a4_42
theorem I159_44 : decode (zB 159) 44 = .ok (.iload_n 1, 1) := dJ6_stringSize_0f7a4_44
theorem I159_45 : decode (zB 159) 45 = .ok (.iadd, 1) := dJ6_stringSize_0f7a4_45
theorem I159_46 : decode (zB 159) 46 = .ok (.ireturn, 1) := dJ6_stringSize_0f7a4_46
theorem I160_0 : decode (zB 160) 0 = .ok (.aload_n 0, 1) := dJ0_length_8abf5_0
theorem I160_1 : decode (zB 160) 1 = .ok (.getfield 9, 3) := dJ0_length_8abf5_1
theorem I160_4 : decode (zB 160) 4 = .ok (.arraylength, 1) := dJ0_length_8abf5_4
theorem I160_5 : decode (zB 160) 5 = .ok (.aload_n 0, 1) := dJ0_length_8abf5_5
theorem I160_6 : decode (zB 160) 6 = .ok (.invokevirtual 335, 3) := dJ0_length_8abf5_6
theorem I160_9 : decode (zB 160) 9 = .ok (.ishr, 1) := dJ0_length_8abf5_9
theorem I160_10 : decode (zB 160) 10 = .ok (.ireturn, 1) := dJ0_length_8abf5_10
theorem I161_0 : decode (zB 161) 0 = .ok (.aload_n 0, 1) := dJ0_getBytes_840e7_0
theorem I161_1 : decode (zB 161) 1 = .ok (.invokevirtual 335, 3) := dJ0_getBytes_840e7_1
theorem I161_4 : decode (zB 161) 4 = .ok (.iload_n 3, 1) := dJ0_getBytes_840e7_4
theorem I161_5 : decode (zB 161) 5 = .ok (.if_icmp .ne 23, 3) := dJ0_getBytes_840e7_5
theorem I161_8 : decode (zB 161) 8 = .ok (.aload_n 0, 1) := dJ0_getBytes_840e7_8
theorem I161_9 : decode (zB 161) 9 = .ok (.getfield 9, 3) := dJ0_getBytes_840e7_9
theorem I161_12 : decode (zB 161) 12 = .ok (.iconst 0, 1) := dJ0_getBytes_840e7_12
theorem I161_13 : decode (zB 161) 13 = .ok (.aload_n 1, 1) := dJ0_getBytes_840e7_13
theorem I161_14 : decode (zB 161) 14 = .ok (.iload_n 2, 1) := dJ0_getBytes_840e7_14
theorem I161_15 : decode (zB 161) 15 = .ok (.iload_n 3, 1) := dJ0_getBytes_840e7_15
theorem I161_16 : decode (zB 161) 16 = .ok (.ishl, 1) := dJ0_getBytes_840e7_16
theorem I161_17 : decode (zB 161) 17 = .ok (.aload_n 0, 1) := dJ0_getBytes_840e7_17
theorem I161_18 : decode (zB 161) 18 = .ok (.getfield 9, 3) := dJ0_getBytes_840e7_18
theorem I161_21 : decode (zB 161) 21 = .ok (.arraylength, 1) := dJ0_getBytes_840e7_21
theorem I161_22 : decode (zB 161) 22 = .ok (.invokestatic 212, 3) := dJ0_getBytes_840e7_22
theorem I161_25 : decode (zB 161) 25 = .ok (.goto 18, 3) := dJ0_getBytes_840e7_25
theorem I161_28 : decode (zB 161) 28 = .ok (.aload_n 0, 1) := dJ0_getBytes_840e7_28
theorem I161_29 : decode (zB 161) 29 = .ok (.getfield 9, 3) := dJ0_getBytes_840e7_29
theorem I161_32 : decode (zB 161) 32 = .ok (.iconst 0, 1) := dJ0_getBytes_840e7_32
theorem I161_33 : decode (zB 161) 33 = .ok (.aload_n 1, 1) := dJ0_getBytes_840e7_33
theorem I161_34 : decode (zB 161) 34 = .ok (.iload_n 2, 1) := dJ0_getBytes_840e7_34
theorem I161_35 : decode (zB 161) 35 = .ok (.aload_n 0, 1) := dJ0_getBytes_840e7_35
theorem I161_36 : decode (zB 161) 36 = .ok (.getfield 9, 3) := dJ0_getBytes_840e7_36
theorem I161_39 : decode (zB 161) 39 = .ok (.arraylength, 1) := dJ0_getBytes_840e7_39
theorem I161_40 : decode (zB 161) 40 = .ok (.invokestatic 106, 3) := dJ0_getBytes_840e7_40
theorem I161_43 : decode (zB 161) 43 = .ok (.return_, 1) := dJ0_getBytes_840e7_43
theorem I162_0 : decode (zB 162) 0 = .ok (.getstatic 38, 3) := dJ0_coder_7d493_0
theorem I162_3 : decode (zB 162) 3 = .ok (.ifCond .eq 10, 3) := dJ0_coder_7d493_3
theorem I162_6 : decode (zB 162) 6 = .ok (.aload_n 0, 1) := dJ0_coder_7d493_6
theorem I162_7 : decode (zB 162) 7 = .ok (.getfield 15, 3) := dJ0_coder_7d493_7
theorem I162_10 : decode (zB 162) 10 = .ok (.goto 4, 3) := dJ0_coder_7d493_10
theorem I162_13 : decode (zB 162) 13 = .ok (.iconst 1, 1) := dJ0_coder_7d493_13
theorem I162_14 : decode (zB 162) 14 = .ok (.ireturn, 1) := dJ0_coder_7d493_14
theorem I163_0 : decode (zB 163) 0 = .ok (.iload_n 0, 1) := dJ0_checkIndex_df160_0
theorem I163_1 : decode (zB 163) 1 = .ok (.iload_n 1, 1) := dJ0_checkIndex_df160_1
theorem I163_2 : decode (zB 163) 2 = .ok (.getstatic 1053, 3) := dJ0_checkIndex_df160_2
theorem I163_5 : decode (zB 163) 5 = .ok (.invokestatic 1059, 3) := dJ0_checkIndex_df160_5
theorem I163_8 : decode (zB 163) 8 = .ok (.pop, 1) := dJ0_checkIndex_df160_8
theorem I163_9 : decode (zB 163) 9 = .ok (.return_, 1) := dJ0_checkIndex_df160_9
theorem I164_0 : decode (zB 164) 0 = .ok (.iload_n 0, 1) := dJ1_canEncode_fc78d_0
theorem I164_1 : decode (zB 164) 1 = .ok (.sipush 255, 3) := dJ1_canEncode_fc78d_1
theorem I164_4 : decode (zB 164) 4 = .ok (.if_icmp .gt 7, 3) := dJ1_canEncode_fc78d_4
theorem I164_7 : decode (zB 164) 7 = .ok (.iconst 1, 1) := dJ1_canEncode_fc78d_7
theorem I164_8 : decode (zB 164) 8 = .ok (.goto 4, 3) := dJ1_canEncode_fc78d_8
theorem I164_11 : decode (zB 164) 11 = .ok (.iconst 0, 1) := dJ1_canEncode_fc78d_11
theorem I164_12 : decode (zB 164) 12 = .ok (.ireturn, 1) := dJ1_canEncode_fc78d_12
theorem I165_0 : decode (zB 165) 0 = .ok (.iload_n 1, 1) := dJ7_copyOf_9075b_0
theorem I165_1 : decode (zB 165) 1 = .ok (.aload_n 0, 1) := dJ7_copyOf_9075b_1
theorem I165_2 : decode (zB 165) 2 = .ok (.arraylength, 1) := dJ7_copyOf_9075b_2
theorem I165_3 : decode (zB 165) 3 = .ok (.if_icmp .ne 11, 3) := dJ7_copyOf_9075b_3
theorem I165_6 : decode (zB 165) 6 = .ok (.aload_n 0, 1) := dJ7_copyOf_9075b_6
theorem I165_7 : decode (zB 165) 7 = .ok (.invokevirtual 310, 3) := dJ7_copyOf_9075b_7
theorem I165_10 : decode (zB 165) 10 = .ok (.checkcast 311, 3) := dJ7_copyOf_9075b_10
theorem I165_13 : decode (zB 165) 13 = .ok (.areturn, 1) := dJ7_copyOf_9075b_13
theorem I165_14 : decode (zB 165) 14 = .ok (.iload_n 1, 1) := dJ7_copyOf_9075b_14
theorem I165_15 : decode (zB 165) 15 = .ok (.newarray .byte, 2) := dJ7_copyOf_9075b_15
theorem I165_17 : decode (zB 165) 17 = .ok (.astore_n 2, 1) := dJ7_copyOf_9075b_17
theorem I165_18 : decode (zB 165) 18 = .ok (.aload_n 0, 1) := dJ7_copyOf_9075b_18
theorem I165_19 : decode (zB 165) 19 = .ok (.iconst 0, 1) := dJ7_copyOf_9075b_19
theorem I165_20 : decode (zB 165) 20 = .ok (.aload_n 2, 1) := dJ7_copyOf_9075b_20
theorem I165_21 : decode (zB 165) 21 = .ok (.iconst 0, 1) := dJ7_copyOf_9075b_21
theorem I165_22 : decode (zB 165) 22 = .ok (.aload_n 0, 1) := dJ7_copyOf_9075b_22
theorem I165_23 : decode (zB 165) 23 = .ok (.arraylength, 1) := dJ7_copyOf_9075b_23
theorem I165_24 : decode (zB 165) 24 = .ok (.iload_n 1, 1) := dJ7_copyOf_9075b_24
theorem I165_25 : decode (zB 165) 25 = .ok (.invokestatic 304, 3) := dJ7_copyOf_9075b_25
theorem I165_28 : decode (zB 165) 28 = .ok (.invokestatic 150, 3) := dJ7_copyOf_9075b_28
theorem I165_31 : decode (zB 165) 31 = .ok (.aload_n 2, 1) := dJ7_copyOf_9075b_31
theorem I165_32 : decode (zB 165) 32 = .ok (.areturn, 1) := dJ7_copyOf_9075b_32
theorem I166_0 : decode (zB 166) 0 = .ok (.iload_n 0, 1) := dJ8_newLength_cabcc_0
theorem I166_1 : decode (zB 166) 1 = .ok (.iload_n 1, 1) := dJ8_newLength_cabcc_1
theorem I166_2 : decode (zB 166) 2 = .ok (.iload_n 2, 1) := dJ8_newLength_cabcc_2
theorem I166_3 : decode (zB 166) 3 = .ok (.invokestatic 194, 3) := dJ8_newLength_cabcc_3
theorem I166_6 : decode (zB 166) 6 = .ok (.iadd, 1) := dJ8_newLength_cabcc_6
theorem I166_7 : decode (zB 166) 7 = .ok (.istore_n 3, 1) := dJ8_newLength_cabcc_7
theorem I166_8 : decode (zB 166) 8 = .ok (.iconst 0, 1) := dJ8_newLength_cabcc_8
theorem I166_9 : decode (zB 166) 9 = .ok (.iload_n 3, 1) := dJ8_newLength_cabcc_9
theorem I166_10 : decode (zB 166) 10 = .ok (.if_icmp .ge 11, 3) := dJ8_newLength_cabcc_10
theorem I166_13 : decode (zB 166) 13 = .ok (.iload_n 3, 1) := dJ8_newLength_cabcc_13
theorem I166_14 : decode (zB 166) 14 = .ok (.ldc 200, 2) := dJ8_newLength_cabcc_14
theorem I166_16 : decode (zB 166) 16 = .ok (.if_icmp .gt 5, 3) := dJ8_newLength_cabcc_16
theorem I166_19 : decode (zB 166) 19 = .ok (.iload_n 3, 1) := dJ8_newLength_cabcc_19
theorem I166_20 : decode (zB 166) 20 = .ok (.ireturn, 1) := dJ8_newLength_cabcc_20
theorem I166_21 : decode (zB 166) 21 = .ok (.iload_n 0, 1) := dJ8_newLength_cabcc_21
theorem I166_22 : decode (zB 166) 22 = .ok (.iload_n 1, 1) := dJ8_newLength_cabcc_22
theorem I166_23 : decode (zB 166) 23 = .ok (.invokestatic 201, 3) := dJ8_newLength_cabcc_23
theorem I166_26 : decode (zB 166) 26 = .ok (.ireturn, 1) := dJ8_newLength_cabcc_26
theorem I167_0 : decode (zB 167) 0 = .ok (.iload_n 0, 1) := dJ3_checkIndex_8e157_0
theorem I167_1 : decode (zB 167) 1 = .ok (.ifCond .lt 8, 3) := dJ3_checkIndex_8e157_1
theorem I167_4 : decode (zB 167) 4 = .ok (.iload_n 0, 1) := dJ3_checkIndex_8e157_4
theorem I167_5 : decode (zB 167) 5 = .ok (.iload_n 1, 1) := dJ3_checkIndex_8e157_5
theorem I167_6 : decode (zB 167) 6 = .ok (.if_icmp .lt 10, 3) := dJ3_checkIndex_8e157_6
theorem I167_9 : decode (zB 167) 9 = .ok (.aload_n 2, 1) := dJ3_checkIndex_8e157_9
theorem I167_10 : decode (zB 167) 10 = .ok (.iload_n 0, 1) := dJ3_checkIndex_8e157_10
theorem I167_11 : decode (zB 167) 11 = .ok (.iload_n 1, 1) := dJ3_checkIndex_8e157_11
theorem I167_12 : decode (zB 167) 12 = .ok (.invokestatic 95, 3) := dJ3_checkIndex_8e157_12
theorem I167_15 : decode (zB 167) 15 = .ok (.athrow, 1) := dJ3_checkIndex_8e157_15
theorem I167_16 : decode (zB 167) 16 = .ok (.iload_n 0, 1) := dJ3_checkIndex_8e157_16
theorem I167_17 : decode (zB 167) 17 = .ok (.ireturn, 1) := dJ3_checkIndex_8e157_17
