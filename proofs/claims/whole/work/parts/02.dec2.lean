theorem dX9_mayPush_112 : decode cX9_mayPush 112 = .ok (.iconst 1, 1) := by decide +kernel
theorem dX9_mayPush_113 : decode cX9_mayPush 113 = .ok (.invokevirtual 45, 3) := by decide +kernel
theorem dX9_mayPush_116 : decode cX9_mayPush 116 = .ok (.aload_n 0, 1) := by decide +kernel
theorem dX9_mayPush_117 : decode cX9_mayPush 117 = .ok (.iload 5, 2) := by decide +kernel
theorem dX9_mayPush_119 : decode cX9_mayPush 119 = .ok (.iconst 2, 1) := by decide +kernel
theorem dX9_mayPush_120 : decode cX9_mayPush 120 = .ok (.invokevirtual 45, 3) := by decide +kernel
theorem dX9_mayPush_123 : decode cX9_mayPush 123 = .ok (.invokevirtual 83, 3) := by decide +kernel
theorem dX9_mayPush_126 : decode cX9_mayPush 126 = .ok (.iinc 5 1, 3) := by decide +kernel
theorem dX9_mayPush_129 : decode cX9_mayPush 129 = .ok (.goto (-34), 3) := by decide +kernel
theorem dX9_mayPush_132 : decode cX9_mayPush 132 = .ok (.aload_n 0, 1) := by decide +kernel
theorem dX9_mayPush_133 : decode cX9_mayPush 133 = .ok (.iload_n 3, 1) := by decide +kernel
theorem dX9_mayPush_134 : decode cX9_mayPush 134 = .ok (.iload_n 2, 1) := by decide +kernel
theorem dX9_mayPush_135 : decode cX9_mayPush 135 = .ok (.iload 4, 2) := by decide +kernel
theorem dX9_mayPush_137 : decode cX9_mayPush 137 = .ok (.invokevirtual 83, 3) := by decide +kernel
theorem dX9_mayPush_140 : decode cX9_mayPush 140 = .ok (.aload_n 0, 1) := by decide +kernel
theorem dX9_mayPush_141 : decode cX9_mayPush 141 = .ok (.iload_n 3, 1) := by decide +kernel
theorem dX9_mayPush_142 : decode cX9_mayPush 142 = .ok (.invokevirtual 87, 3) := by decide +kernel
theorem dX9_mayPush_145 : decode cX9_mayPush 145 = .ok (.ifCond .ne 7, 3) := by decide +kernel
theorem dX9_mayPush_148 : decode cX9_mayPush 148 = .ok (.iconst 1, 1) := by decide +kernel
theorem dX9_mayPush_149 : decode cX9_mayPush 149 = .ok (.goto 4, 3) := by decide +kernel
theorem dX9_mayPush_152 : decode cX9_mayPush 152 = .ok (.iconst 0, 1) := by decide +kernel
theorem dX9_mayPush_153 : decode cX9_mayPush 153 = .ok (.ireturn, 1) := by decide +kernel
theorem dX9_treats_0 : decode cX9_treats 0 = .ok (.aload_n 0, 1) := by decide +kernel
theorem dX9_treats_1 : decode cX9_treats 1 = .ok (.iload_n 1, 1) := by decide +kernel
theorem dX9_treats_2 : decode cX9_treats 2 = .ok (.iconst 0, 1) := by decide +kernel
theorem dX9_treats_3 : decode cX9_treats 3 = .ok (.invokevirtual 45, 3) := by decide +kernel
theorem dX9_treats_6 : decode cX9_treats 6 = .ok (.istore_n 3, 1) := by decide +kernel
theorem dX9_treats_7 : decode cX9_treats 7 = .ok (.aload_n 0, 1) := by decide +kernel
theorem dX9_treats_8 : decode cX9_treats 8 = .ok (.iload_n 1, 1) := by decide +kernel
theorem dX9_treats_9 : decode cX9_treats 9 = .ok (.iconst 3, 1) := by decide +kernel
theorem dX9_treats_10 : decode cX9_treats 10 = .ok (.invokevirtual 45, 3) := by decide +kernel
theorem dX9_treats_13 : decode cX9_treats 13 = .ok (.iconst 1, 1) := by decide +kernel
theorem dX9_treats_14 : decode cX9_treats 14 = .ok (.if_icmp .ne 7, 3) := by decide +kernel
theorem dX9_treats_17 : decode cX9_treats 17 = .ok (.iconst 1, 1) := by decide +kernel
theorem dX9_treats_18 : decode cX9_treats 18 = .ok (.goto 4, 3) := by decide +kernel
theorem dX9_treats_21 : decode cX9_treats 21 = .ok (.iconst 0, 1) := by decide +kernel
theorem dX9_treats_22 : decode cX9_treats 22 = .ok (.istore 4, 2) := by decide +kernel
theorem dX9_treats_24 : decode cX9_treats 24 = .ok (.aload_n 0, 1) := by decide +kernel
theorem dX9_treats_25 : decode cX9_treats 25 = .ok (.iload_n 3, 1) := by decide +kernel
theorem dX9_treats_26 : decode cX9_treats 26 = .ok (.invokevirtual 59, 3) := by decide +kernel
theorem dX9_treats_29 : decode cX9_treats 29 = .ok (.iconst 2, 1) := by decide +kernel
theorem dX9_treats_30 : decode cX9_treats 30 = .ok (.if_icmp .eq 29, 3) := by decide +kernel
theorem dX9_treats_33 : decode cX9_treats 33 = .ok (.iload 4, 2) := by decide +kernel
theorem dX9_treats_35 : decode cX9_treats 35 = .ok (.ifCond .eq 15, 3) := by decide +kernel
theorem dX9_treats_38 : decode cX9_treats 38 = .ok (.aload_n 0, 1) := by decide +kernel
theorem dX9_treats_39 : decode cX9_treats 39 = .ok (.iload_n 1, 1) := by decide +kernel
theorem dX9_treats_40 : decode cX9_treats 40 = .ok (.invokevirtual 70, 3) := by decide +kernel
theorem dX9_treats_43 : decode cX9_treats 43 = .ok (.iload_n 2, 1) := by decide +kernel
theorem dX9_treats_44 : decode cX9_treats 44 = .ok (.if_icmp .gt 17, 3) := by decide +kernel
theorem dX9_treats_47 : decode cX9_treats 47 = .ok (.goto 12, 3) := by decide +kernel
theorem dX9_treats_50 : decode cX9_treats 50 = .ok (.aload_n 0, 1) := by decide +kernel
theorem dX9_treats_51 : decode cX9_treats 51 = .ok (.iload_n 1, 1) := by decide +kernel
theorem dX9_treats_52 : decode cX9_treats 52 = .ok (.iload_n 2, 1) := by decide +kernel
theorem dX9_treats_53 : decode cX9_treats 53 = .ok (.invokevirtual 117, 3) := by decide +kernel
theorem dX9_treats_56 : decode cX9_treats 56 = .ok (.ifCond .ne 5, 3) := by decide +kernel
theorem dX9_treats_59 : decode cX9_treats 59 = .ok (.iconst (-1), 1) := by decide +kernel
theorem dX9_treats_60 : decode cX9_treats 60 = .ok (.ireturn, 1) := by decide +kernel
theorem dX9_treats_61 : decode cX9_treats 61 = .ok (.iload 4, 2) := by decide +kernel
theorem dX9_treats_63 : decode cX9_treats 63 = .ok (.ifCond .eq 24, 3) := by decide +kernel
theorem dX9_treats_66 : decode cX9_treats 66 = .ok (.aload_n 0, 1) := by decide +kernel
theorem dX9_treats_67 : decode cX9_treats 67 = .ok (.getfield 7, 3) := by decide +kernel
theorem dX9_treats_70 : decode cX9_treats 70 = .ok (.sipush 230, 3) := by decide +kernel
theorem dX9_treats_73 : decode cX9_treats 73 = .ok (.iconst 4, 1) := by decide +kernel
theorem dX9_treats_74 : decode cX9_treats 74 = .ok (.iload_n 1, 1) := by decide +kernel
theorem dX9_treats_75 : decode cX9_treats 75 = .ok (.imul, 1) := by decide +kernel
theorem dX9_treats_76 : decode cX9_treats 76 = .ok (.iadd, 1) := by decide +kernel
theorem dX9_treats_77 : decode cX9_treats 77 = .ok (.iconst 2, 1) := by decide +kernel
theorem dX9_treats_78 : decode cX9_treats 78 = .ok (.iadd, 1) := by decide +kernel
theorem dX9_treats_79 : decode cX9_treats 79 = .ok (.aload_n 0, 1) := by decide +kernel
theorem dX9_treats_80 : decode cX9_treats 80 = .ok (.iload_n 1, 1) := by decide +kernel
theorem dX9_treats_81 : decode cX9_treats 81 = .ok (.invokevirtual 70, 3) := by decide +kernel
theorem dX9_treats_84 : decode cX9_treats 84 = .ok (.iload_n 2, 1) := by decide +kernel
theorem dX9_treats_85 : decode cX9_treats 85 = .ok (.isub, 1) := by decide +kernel
theorem dX9_treats_86 : decode cX9_treats 86 = .ok (.iastore, 1) := by decide +kernel
theorem dX9_treats_87 : decode cX9_treats 87 = .ok (.aload_n 0, 1) := by decide +kernel
theorem dX9_treats_88 : decode cX9_treats 88 = .ok (.getfield 7, 3) := by decide +kernel
theorem dX9_treats_91 : decode cX9_treats 91 = .ok (.sipush 230, 3) := by decide +kernel
theorem dX9_treats_94 : decode cX9_treats 94 = .ok (.iconst 4, 1) := by decide +kernel
theorem dX9_treats_95 : decode cX9_treats 95 = .ok (.iload_n 1, 1) := by decide +kernel
theorem dX9_treats_96 : decode cX9_treats 96 = .ok (.imul, 1) := by decide +kernel
theorem dX9_treats_97 : decode cX9_treats 97 = .ok (.iadd, 1) := by decide +kernel
theorem dX9_treats_98 : decode cX9_treats 98 = .ok (.iconst 1, 1) := by decide +kernel
theorem dX9_treats_99 : decode cX9_treats 99 = .ok (.iadd, 1) := by decide +kernel
theorem dX9_treats_100 : decode cX9_treats 100 = .ok (.iload_n 2, 1) := by decide +kernel
theorem dX9_treats_101 : decode cX9_treats 101 = .ok (.iastore, 1) := by decide +kernel
theorem dX9_treats_102 : decode cX9_treats 102 = .ok (.aload_n 0, 1) := by decide +kernel
theorem dX9_treats_103 : decode cX9_treats 103 = .ok (.iload_n 1, 1) := by decide +kernel
theorem dX9_treats_104 : decode cX9_treats 104 = .ok (.invokevirtual 70, 3) := by decide +kernel
theorem dX9_treats_107 : decode cX9_treats 107 = .ok (.ireturn, 1) := by decide +kernel
theorem dX9_runOver_0 : decode cX9_runOver 0 = .ok (.aload_n 0, 1) := by decide +kernel
theorem dX9_runOver_1 : decode cX9_runOver 1 = .ok (.iload_n 1, 1) := by decide +kernel
theorem dX9_runOver_2 : decode cX9_runOver 2 = .ok (.invokevirtual 100, 3) := by decide +kernel
theorem dX9_runOver_5 : decode cX9_runOver 5 = .ok (.ifCond .eq 13, 3) := by decide +kernel
theorem dX9_runOver_8 : decode cX9_runOver 8 = .ok (.iload_n 2, 1) := by decide +kernel
theorem dX9_runOver_9 : decode cX9_runOver 9 = .ok (.iconst 1, 1) := by decide +kernel
theorem dX9_runOver_10 : decode cX9_runOver 10 = .ok (.bipush 120, 2) := by decide +kernel
theorem dX9_runOver_12 : decode cX9_runOver 12 = .ok (.invokestatic 41, 3) := by decide +kernel
theorem dX9_runOver_15 : decode cX9_runOver 15 = .ok (.ifCond .ne 5, 3) := by decide +kernel
theorem dX9_runOver_18 : decode cX9_runOver 18 = .ok (.iconst (-1), 1) := by decide +kernel
theorem dX9_runOver_19 : decode cX9_runOver 19 = .ok (.ireturn, 1) := by decide +kernel
theorem dX9_runOver_20 : decode cX9_runOver 20 = .ok (.aload_n 0, 1) := by decide +kernel
theorem dX9_runOver_21 : decode cX9_runOver 21 = .ok (.aload_n 0, 1) := by decide +kernel
theorem dX9_runOver_22 : decode cX9_runOver 22 = .ok (.iload_n 1, 1) := by decide +kernel
theorem dX9_runOver_23 : decode cX9_runOver 23 = .ok (.iconst 0, 1) := by decide +kernel
theorem dX9_runOver_24 : decode cX9_runOver 24 = .ok (.invokevirtual 45, 3) := by decide +kernel
theorem dX9_runOver_27 : decode cX9_runOver 27 = .ok (.invokevirtual 59, 3) := by decide +kernel
theorem dX9_runOver_30 : decode cX9_runOver 30 = .ok (.iconst 1, 1) := by decide +kernel
theorem dX9_runOver_31 : decode cX9_runOver 31 = .ok (.if_icmp .eq 6, 3) := by decide +kernel
theorem dX9_runOver_34 : decode cX9_runOver 34 = .ok (.bipush (-2), 2) := by decide +kernel
theorem dX9_runOver_36 : decode cX9_runOver 36 = .ok (.ireturn, 1) := by decide +kernel
theorem dX9_runOver_37 : decode cX9_runOver 37 = .ok (.aload_n 0, 1) := by decide +kernel
theorem dX9_runOver_38 : decode cX9_runOver 38 = .ok (.iload_n 1, 1) := by decide +kernel
theorem dX9_runOver_39 : decode cX9_runOver 39 = .ok (.invokevirtual 70, 3) := by decide +kernel
theorem dX9_runOver_42 : decode cX9_runOver 42 = .ok (.iload_n 2, 1) := by decide +kernel
theorem dX9_runOver_43 : decode cX9_runOver 43 = .ok (.iadd, 1) := by decide +kernel
theorem dX9_runOver_44 : decode cX9_runOver 44 = .ok (.sipush 10080, 3) := by decide +kernel
theorem dX9_runOver_47 : decode cX9_runOver 47 = .ok (.if_icmp .le 6, 3) := by decide +kernel
theorem dX9_runOver_50 : decode cX9_runOver 50 = .ok (.bipush (-4), 2) := by decide +kernel
theorem dX9_runOver_52 : decode cX9_runOver 52 = .ok (.ireturn, 1) := by decide +kernel
theorem dX9_runOver_53 : decode cX9_runOver 53 = .ok (.aload_n 0, 1) := by decide +kernel
theorem dX9_runOver_54 : decode cX9_runOver 54 = .ok (.invokevirtual 49, 3) := by decide +kernel
theorem dX9_runOver_57 : decode cX9_runOver 57 = .ok (.aload_n 0, 1) := by decide +kernel
theorem dX9_runOver_58 : decode cX9_runOver 58 = .ok (.getfield 7, 3) := by decide +kernel
theorem dX9_runOver_61 : decode cX9_runOver 61 = .ok (.sipush 230, 3) := by decide +kernel
theorem dX9_runOver_64 : decode cX9_runOver 64 = .ok (.iconst 4, 1) := by decide +kernel
theorem dX9_runOver_65 : decode cX9_runOver 65 = .ok (.iload_n 1, 1) := by decide +kernel
theorem dX9_runOver_66 : decode cX9_runOver 66 = .ok (.imul, 1) := by decide +kernel
theorem dX9_runOver_67 : decode cX9_runOver 67 = .ok (.iadd, 1) := by decide +kernel
theorem dX9_runOver_68 : decode cX9_runOver 68 = .ok (.iconst 2, 1) := by decide +kernel
theorem dX9_runOver_69 : decode cX9_runOver 69 = .ok (.iadd, 1) := by decide +kernel
theorem dX9_runOver_70 : decode cX9_runOver 70 = .ok (.dup2, 1) := by decide +kernel
theorem dX9_runOver_71 : decode cX9_runOver 71 = .ok (.iaload, 1) := by decide +kernel
theorem dX9_runOver_72 : decode cX9_runOver 72 = .ok (.iload_n 2, 1) := by decide +kernel
theorem dX9_runOver_73 : decode cX9_runOver 73 = .ok (.iadd, 1) := by decide +kernel
theorem dX9_runOver_74 : decode cX9_runOver 74 = .ok (.iastore, 1) := by decide +kernel
theorem dX9_runOver_75 : decode cX9_runOver 75 = .ok (.aload_n 0, 1) := by decide +kernel
theorem dX9_runOver_76 : decode cX9_runOver 76 = .ok (.iload_n 1, 1) := by decide +kernel
theorem dX9_runOver_77 : decode cX9_runOver 77 = .ok (.invokevirtual 70, 3) := by decide +kernel
theorem dX9_runOver_80 : decode cX9_runOver 80 = .ok (.istore_n 3, 1) := by decide +kernel
theorem dX9_runOver_81 : decode cX9_runOver 81 = .ok (.iconst 0, 1) := by decide +kernel
theorem dX9_runOver_82 : decode cX9_runOver 82 = .ok (.istore 4, 2) := by decide +kernel
theorem dX9_runOver_84 : decode cX9_runOver 84 = .ok (.iload_n 1, 1) := by decide +kernel
theorem dX9_runOver_85 : decode cX9_runOver 85 = .ok (.iconst 1, 1) := by decide +kernel
theorem dX9_runOver_86 : decode cX9_runOver 86 = .ok (.iadd, 1) := by decide +kernel
theorem dX9_runOver_87 : decode cX9_runOver 87 = .ok (.istore 5, 2) := by decide +kernel
theorem dX9_runOver_89 : decode cX9_runOver 89 = .ok (.iload 5, 2) := by decide +kernel
theorem dX9_runOver_91 : decode cX9_runOver 91 = .ok (.aload_n 0, 1) := by decide +kernel
theorem dX9_runOver_92 : decode cX9_runOver 92 = .ok (.getfield 7, 3) := by decide +kernel
theorem dX9_runOver_95 : decode cX9_runOver 95 = .ok (.iconst 3, 1) := by decide +kernel
theorem dX9_runOver_96 : decode cX9_runOver 96 = .ok (.iaload, 1) := by decide +kernel
theorem dX9_runOver_97 : decode cX9_runOver 97 = .ok (.if_icmp .ge 90, 3) := by decide +kernel
theorem dX9_runOver_100 : decode cX9_runOver 100 = .ok (.aload_n 0, 1) := by decide +kernel
theorem dX9_runOver_101 : decode cX9_runOver 101 = .ok (.iload 5, 2) := by decide +kernel
theorem dX9_runOver_103 : decode cX9_runOver 103 = .ok (.iconst 1, 1) := by decide +kernel
theorem dX9_runOver_104 : decode cX9_runOver 104 = .ok (.invokevirtual 45, 3) := by decide +kernel
theorem dX9_runOver_107 : decode cX9_runOver 107 = .ok (.iload_n 3, 1) := by decide +kernel
theorem dX9_runOver_108 : decode cX9_runOver 108 = .ok (.if_icmp .ge 79, 3) := by decide +kernel
theorem dX9_runOver_111 : decode cX9_runOver 111 = .ok (.aload_n 0, 1) := by decide +kernel
theorem dX9_runOver_112 : decode cX9_runOver 112 = .ok (.iload 5, 2) := by decide +kernel
theorem dX9_runOver_114 : decode cX9_runOver 114 = .ok (.iconst 0, 1) := by decide +kernel
theorem dX9_runOver_115 : decode cX9_runOver 115 = .ok (.invokevirtual 45, 3) := by decide +kernel
theorem dX9_runOver_118 : decode cX9_runOver 118 = .ok (.istore 6, 2) := by decide +kernel
theorem dX9_runOver_120 : decode cX9_runOver 120 = .ok (.aload_n 0, 1) := by decide +kernel
theorem dX9_runOver_121 : decode cX9_runOver 121 = .ok (.iload 5, 2) := by decide +kernel
theorem dX9_runOver_123 : decode cX9_runOver 123 = .ok (.iload_n 3, 1) := by decide +kernel
theorem dX9_runOver_124 : decode cX9_runOver 124 = .ok (.invokevirtual 120, 3) := by decide +kernel
theorem dX9_runOver_127 : decode cX9_runOver 127 = .ok (.istore 7, 2) := by decide +kernel
theorem dX9_runOver_129 : decode cX9_runOver 129 = .ok (.iload 7, 2) := by decide +kernel
theorem dX9_runOver_131 : decode cX9_runOver 131 = .ok (.ifCond .ge 47, 3) := by decide +kernel
theorem dX9_runOver_134 : decode cX9_runOver 134 = .ok (.aload_n 0, 1) := by decide +kernel
theorem dX9_runOver_135 : decode cX9_runOver 135 = .ok (.getfield 7, 3) := by decide +kernel
theorem dX9_runOver_138 : decode cX9_runOver 138 = .ok (.bipush 10, 2) := by decide +kernel
theorem dX9_runOver_140 : decode cX9_runOver 140 = .ok (.iconst 4, 1) := by decide +kernel
theorem dX9_runOver_141 : decode cX9_runOver 141 = .ok (.iload 6, 2) := by decide +kernel
theorem dX9_runOver_143 : decode cX9_runOver 143 = .ok (.imul, 1) := by decide +kernel
theorem dX9_runOver_144 : decode cX9_runOver 144 = .ok (.iadd, 1) := by decide +kernel
theorem dX9_runOver_145 : decode cX9_runOver 145 = .ok (.iconst 3, 1) := by decide +kernel
theorem dX9_runOver_146 : decode cX9_runOver 146 = .ok (.iadd, 1) := by decide +kernel
theorem dX9_runOver_147 : decode cX9_runOver 147 = .ok (.dup2, 1) := by decide +kernel
theorem dX9_runOver_148 : decode cX9_runOver 148 = .ok (.iaload, 1) := by decide +kernel
theorem dX9_runOver_149 : decode cX9_runOver 149 = .ok (.aload_n 0, 1) := by decide +kernel
theorem dX9_runOver_150 : decode cX9_runOver 150 = .ok (.iload 6, 2) := by decide +kernel
theorem dX9_runOver_152 : decode cX9_runOver 152 = .ok (.invokevirtual 59, 3) := by decide +kernel
theorem dX9_runOver_155 : decode cX9_runOver 155 = .ok (.iconst 3, 1) := by decide +kernel
theorem dX9_runOver_156 : decode cX9_runOver 156 = .ok (.if_icmp .ne 7, 3) := by decide +kernel
theorem dX9_runOver_159 : decode cX9_runOver 159 = .ok (.iconst 1, 1) := by decide +kernel
theorem dX9_runOver_160 : decode cX9_runOver 160 = .ok (.goto 4, 3) := by decide +kernel
theorem dX9_runOver_163 : decode cX9_runOver 163 = .ok (.iconst 0, 1) := by decide +kernel
theorem dX9_runOver_164 : decode cX9_runOver 164 = .ok (.iadd, 1) := by decide +kernel
theorem dX9_runOver_165 : decode cX9_runOver 165 = .ok (.iastore, 1) := by decide +kernel
theorem dX9_runOver_166 : decode cX9_runOver 166 = .ok (.aload_n 0, 1) := by decide +kernel
theorem dX9_runOver_167 : decode cX9_runOver 167 = .ok (.iload 5, 2) := by decide +kernel
theorem dX9_runOver_169 : decode cX9_runOver 169 = .ok (.invokevirtual 103, 3) := by decide +kernel
theorem dX9_runOver_172 : decode cX9_runOver 172 = .ok (.iinc 4 1, 3) := by decide +kernel
theorem dX9_runOver_175 : decode cX9_runOver 175 = .ok (.goto 9, 3) := by decide +kernel
theorem dX9_runOver_178 : decode cX9_runOver 178 = .ok (.iload 7, 2) := by decide +kernel
theorem dX9_runOver_180 : decode cX9_runOver 180 = .ok (.istore_n 3, 1) := by decide +kernel
theorem dX9_runOver_181 : decode cX9_runOver 181 = .ok (.iinc 5 1, 3) := by decide +kernel
theorem dX9_runOver_184 : decode cX9_runOver 184 = .ok (.goto (-95), 3) := by decide +kernel
theorem dX9_runOver_187 : decode cX9_runOver 187 = .ok (.iload 4, 2) := by decide +kernel
theorem dX9_runOver_189 : decode cX9_runOver 189 = .ok (.ireturn, 1) := by decide +kernel
theorem dX9_makeGood_0 : decode cX9_makeGood 0 = .ok (.aload_n 0, 1) := by decide +kernel
theorem dX9_makeGood_1 : decode cX9_makeGood 1 = .ok (.iload_n 1, 1) := by decide +kernel
theorem dX9_makeGood_2 : decode cX9_makeGood 2 = .ok (.invokevirtual 52, 3) := by decide +kernel
theorem dX9_makeGood_5 : decode cX9_makeGood 5 = .ok (.ifCond .eq 14, 3) := by decide +kernel
theorem dX9_makeGood_8 : decode cX9_makeGood 8 = .ok (.iload_n 2, 1) := by decide +kernel
theorem dX9_makeGood_9 : decode cX9_makeGood 9 = .ok (.iconst 0, 1) := by decide +kernel
theorem dX9_makeGood_10 : decode cX9_makeGood 10 = .ok (.sipush 10079, 3) := by decide +kernel
theorem dX9_makeGood_13 : decode cX9_makeGood 13 = .ok (.invokestatic 41, 3) := by decide +kernel
theorem dX9_makeGood_16 : decode cX9_makeGood 16 = .ok (.ifCond .ne 5, 3) := by decide +kernel
theorem dX9_makeGood_19 : decode cX9_makeGood 19 = .ok (.iconst (-1), 1) := by decide +kernel
theorem dX9_makeGood_20 : decode cX9_makeGood 20 = .ok (.ireturn, 1) := by decide +kernel
theorem dX9_makeGood_21 : decode cX9_makeGood 21 = .ok (.aload_n 0, 1) := by decide +kernel
theorem dX9_makeGood_22 : decode cX9_makeGood 22 = .ok (.getfield 7, 3) := by decide +kernel
theorem dX9_makeGood_25 : decode cX9_makeGood 25 = .ok (.bipush 10, 2) := by decide +kernel
theorem dX9_makeGood_27 : decode cX9_makeGood 27 = .ok (.iconst 4, 1) := by decide +kernel
theorem dX9_makeGood_28 : decode cX9_makeGood 28 = .ok (.iload_n 1, 1) := by decide +kernel
theorem dX9_makeGood_29 : decode cX9_makeGood 29 = .ok (.imul, 1) := by decide +kernel
theorem dX9_makeGood_30 : decode cX9_makeGood 30 = .ok (.iadd, 1) := by decide +kernel
theorem dX9_makeGood_31 : decode cX9_makeGood 31 = .ok (.iconst 3, 1) := by decide +kernel
theorem dX9_makeGood_32 : decode cX9_makeGood 32 = .ok (.iadd, 1) := by decide +kernel
theorem dX9_makeGood_33 : decode cX9_makeGood 33 = .ok (.iaload, 1) := by decide +kernel
theorem dX9_makeGood_34 : decode cX9_makeGood 34 = .ok (.ifCond .ne 6, 3) := by decide +kernel
theorem dX9_makeGood_37 : decode cX9_makeGood 37 = .ok (.bipush (-2), 2) := by decide +kernel
theorem dX9_makeGood_39 : decode cX9_makeGood 39 = .ok (.ireturn, 1) := by decide +kernel
theorem dX9_makeGood_40 : decode cX9_makeGood 40 = .ok (.aload_n 0, 1) := by decide +kernel
theorem dX9_makeGood_41 : decode cX9_makeGood 41 = .ok (.iload_n 1, 1) := by decide +kernel
theorem dX9_makeGood_42 : decode cX9_makeGood 42 = .ok (.iload_n 2, 1) := by decide +kernel
theorem dX9_makeGood_43 : decode cX9_makeGood 43 = .ok (.invokevirtual 107, 3) := by decide +kernel
theorem dX9_makeGood_46 : decode cX9_makeGood 46 = .ok (.istore_n 3, 1) := by decide +kernel
theorem dX9_makeGood_47 : decode cX9_makeGood 47 = .ok (.iload_n 3, 1) := by decide +kernel
theorem dX9_makeGood_48 : decode cX9_makeGood 48 = .ok (.ifCond .ge 6, 3) := by decide +kernel
theorem dX9_makeGood_51 : decode cX9_makeGood 51 = .ok (.bipush (-9), 2) := by decide +kernel
theorem dX9_makeGood_53 : decode cX9_makeGood 53 = .ok (.ireturn, 1) := by decide +kernel
theorem dX9_makeGood_54 : decode cX9_makeGood 54 = .ok (.aload_n 0, 1) := by decide +kernel
theorem dX9_makeGood_55 : decode cX9_makeGood 55 = .ok (.invokevirtual 49, 3) := by decide +kernel
theorem dX9_makeGood_58 : decode cX9_makeGood 58 = .ok (.aload_n 0, 1) := by decide +kernel
theorem dX9_makeGood_59 : decode cX9_makeGood 59 = .ok (.iload_n 1, 1) := by decide +kernel
theorem dX9_makeGood_60 : decode cX9_makeGood 60 = .ok (.iload_n 3, 1) := by decide +kernel
theorem dX9_makeGood_61 : decode cX9_makeGood 61 = .ok (.aload_n 0, 1) := by decide +kernel
theorem dX9_makeGood_62 : decode cX9_makeGood 62 = .ok (.iload_n 1, 1) := by decide +kernel
theorem dX9_makeGood_63 : decode cX9_makeGood 63 = .ok (.invokevirtual 73, 3) := by decide +kernel
theorem dX9_makeGood_66 : decode cX9_makeGood 66 = .ok (.iconst 0, 1) := by decide +kernel
theorem dX9_makeGood_67 : decode cX9_makeGood 67 = .ok (.invokevirtual 96, 3) := by decide +kernel
theorem dX9_makeGood_70 : decode cX9_makeGood 70 = .ok (.istore 4, 2) := by decide +kernel
theorem dX9_makeGood_72 : decode cX9_makeGood 72 = .ok (.aload_n 0, 1) := by decide +kernel
theorem dX9_makeGood_73 : decode cX9_makeGood 73 = .ok (.getfield 7, 3) := by decide +kernel
theorem dX9_makeGood_76 : decode cX9_makeGood 76 = .ok (.bipush 10, 2) := by decide +kernel
theorem dX9_makeGood_78 : decode cX9_makeGood 78 = .ok (.iconst 4, 1) := by decide +kernel
theorem dX9_makeGood_79 : decode cX9_makeGood 79 = .ok (.iload_n 1, 1) := by decide +kernel
theorem dX9_makeGood_80 : decode cX9_makeGood 80 = .ok (.imul, 1) := by decide +kernel
theorem dX9_makeGood_81 : decode cX9_makeGood 81 = .ok (.iadd, 1) := by decide +kernel
theorem dX9_makeGood_82 : decode cX9_makeGood 82 = .ok (.iconst 3, 1) := by decide +kernel
theorem dX9_makeGood_83 : decode cX9_makeGood 83 = .ok (.iadd, 1) := by decide +kernel
theorem dX9_makeGood_84 : decode cX9_makeGood 84 = .ok (.dup2, 1) := by decide +kernel
theorem dX9_makeGood_85 : decode cX9_makeGood 85 = .ok (.iaload, 1) := by decide +kernel
theorem dX9_makeGood_86 : decode cX9_makeGood 86 = .ok (.iconst 1, 1) := by decide +kernel
theorem dX9_makeGood_87 : decode cX9_makeGood 87 = .ok (.isub, 1) := by decide +kernel
theorem dX9_makeGood_88 : decode cX9_makeGood 88 = .ok (.iastore, 1) := by decide +kernel
theorem dX9_makeGood_89 : decode cX9_makeGood 89 = .ok (.iload_n 3, 1) := by decide +kernel
theorem dX9_makeGood_90 : decode cX9_makeGood 90 = .ok (.ireturn, 1) := by decide +kernel
theorem dX9_items_0 : decode cX9_items 0 = .ok (.aload_n 0, 1) := by decide +kernel
theorem dX9_items_1 : decode cX9_items 1 = .ok (.getfield 7, 3) := by decide +kernel
theorem dX9_items_4 : decode cX9_items 4 = .ok (.iconst 3, 1) := by decide +kernel
theorem dX9_items_5 : decode cX9_items 5 = .ok (.iaload, 1) := by decide +kernel
theorem dX9_items_6 : decode cX9_items 6 = .ok (.ireturn, 1) := by decide +kernel
theorem dX9_told_0 : decode cX9_told 0 = .ok (.iload_n 2, 1) := by decide +kernel
theorem dX9_told_1 : decode cX9_told 1 = .ok (.iconst 4, 1) := by decide +kernel
theorem dX9_told_2 : decode cX9_told 2 = .ok (.if_icmp .ge 10, 3) := by decide +kernel
theorem dX9_told_5 : decode cX9_told 5 = .ok (.aload_n 0, 1) := by decide +kernel
theorem dX9_told_6 : decode cX9_told 6 = .ok (.iload_n 1, 1) := by decide +kernel
theorem dX9_told_7 : decode cX9_told 7 = .ok (.iload_n 2, 1) := by decide +kernel
theorem dX9_told_8 : decode cX9_told 8 = .ok (.invokevirtual 45, 3) := by decide +kernel
theorem dX9_told_11 : decode cX9_told 11 = .ok (.ireturn, 1) := by decide +kernel
theorem dX9_told_12 : decode cX9_told 12 = .ok (.aload_n 0, 1) := by decide +kernel
theorem dX9_told_13 : decode cX9_told 13 = .ok (.invokevirtual 80, 3) := by decide +kernel
theorem dX9_told_16 : decode cX9_told 16 = .ok (.aload_n 0, 1) := by decide +kernel
theorem dX9_told_17 : decode cX9_told 17 = .ok (.invokevirtual 67, 3) := by decide +kernel
theorem dX9_told_20 : decode cX9_told 20 = .ok (.aload_n 0, 1) := by decide +kernel
theorem dX9_told_21 : decode cX9_told 21 = .ok (.getfield 25, 3) := by decide +kernel
theorem dX9_told_24 : decode cX9_told 24 = .ok (.iload_n 1, 1) := by decide +kernel
theorem dX9_told_25 : decode cX9_told 25 = .ok (.iaload, 1) := by decide +kernel
theorem dX9_told_26 : decode cX9_told 26 = .ok (.ireturn, 1) := by decide +kernel
theorem dX9_item_0 : decode cX9_item 0 = .ok (.aload_n 0, 1) := by decide +kernel
theorem dX9_item_1 : decode cX9_item 1 = .ok (.iload_n 1, 1) := by decide +kernel
theorem dX9_item_2 : decode cX9_item 2 = .ok (.invokevirtual 100, 3) := by decide +kernel
theorem dX9_item_5 : decode cX9_item 5 = .ok (.ifCond .eq 21, 3) := by decide +kernel
theorem dX9_item_8 : decode cX9_item 8 = .ok (.iload_n 2, 1) := by decide +kernel
theorem dX9_item_9 : decode cX9_item 9 = .ok (.iconst 0, 1) := by decide +kernel
theorem dX9_item_10 : decode cX9_item 10 = .ok (.iconst 4, 1) := by decide +kernel
theorem dX9_item_11 : decode cX9_item 11 = .ok (.invokestatic 41, 3) := by decide +kernel
theorem dX9_item_14 : decode cX9_item 14 = .ok (.ifCond .eq 12, 3) := by decide +kernel
theorem dX9_item_17 : decode cX9_item 17 = .ok (.aload_n 0, 1) := by decide +kernel
theorem dX9_item_18 : decode cX9_item 18 = .ok (.iload_n 1, 1) := by decide +kernel
theorem dX9_item_19 : decode cX9_item 19 = .ok (.iload_n 2, 1) := by decide +kernel
theorem dX9_item_20 : decode cX9_item 20 = .ok (.invokevirtual 123, 3) := by decide +kernel
theorem dX9_item_23 : decode cX9_item 23 = .ok (.goto 4, 3) := by decide +kernel
theorem dX9_item_26 : decode cX9_item 26 = .ok (.iconst (-1), 1) := by decide +kernel
theorem dX9_item_27 : decode cX9_item 27 = .ok (.ireturn, 1) := by decide +kernel
theorem dX9_itemAt_0 : decode cX9_itemAt 0 = .ok (.iconst 0, 1) := by decide +kernel
theorem dX9_itemAt_1 : decode cX9_itemAt 1 = .ok (.istore_n 2, 1) := by decide +kernel
theorem dX9_itemAt_2 : decode cX9_itemAt 2 = .ok (.iload_n 2, 1) := by decide +kernel
theorem dX9_itemAt_3 : decode cX9_itemAt 3 = .ok (.aload_n 0, 1) := by decide +kernel
theorem dX9_itemAt_4 : decode cX9_itemAt 4 = .ok (.getfield 7, 3) := by decide +kernel
theorem dX9_itemAt_7 : decode cX9_itemAt 7 = .ok (.iconst 3, 1) := by decide +kernel
theorem dX9_itemAt_8 : decode cX9_itemAt 8 = .ok (.iaload, 1) := by decide +kernel
theorem dX9_itemAt_9 : decode cX9_itemAt 9 = .ok (.if_icmp .ge 31, 3) := by decide +kernel
theorem dX9_itemAt_12 : decode cX9_itemAt 12 = .ok (.iload_n 1, 1) := by decide +kernel
theorem dX9_itemAt_13 : decode cX9_itemAt 13 = .ok (.aload_n 0, 1) := by decide +kernel
theorem dX9_itemAt_14 : decode cX9_itemAt 14 = .ok (.iload_n 2, 1) := by decide +kernel
theorem dX9_itemAt_15 : decode cX9_itemAt 15 = .ok (.iconst 1, 1) := by decide +kernel
theorem dX9_itemAt_16 : decode cX9_itemAt 16 = .ok (.invokevirtual 45, 3) := by decide +kernel
theorem dX9_itemAt_19 : decode cX9_itemAt 19 = .ok (.aload_n 0, 1) := by decide +kernel
theorem dX9_itemAt_20 : decode cX9_itemAt 20 = .ok (.iload_n 2, 1) := by decide +kernel
theorem dX9_itemAt_21 : decode cX9_itemAt 21 = .ok (.invokevirtual 70, 3) := by decide +kernel
theorem dX9_itemAt_24 : decode cX9_itemAt 24 = .ok (.iconst 1, 1) := by decide +kernel
theorem dX9_itemAt_25 : decode cX9_itemAt 25 = .ok (.isub, 1) := by decide +kernel
theorem dX9_itemAt_26 : decode cX9_itemAt 26 = .ok (.invokestatic 41, 3) := by decide +kernel
theorem dX9_itemAt_29 : decode cX9_itemAt 29 = .ok (.ifCond .eq 5, 3) := by decide +kernel
theorem dX9_itemAt_32 : decode cX9_itemAt 32 = .ok (.iload_n 2, 1) := by decide +kernel
theorem dX9_itemAt_33 : decode cX9_itemAt 33 = .ok (.ireturn, 1) := by decide +kernel
theorem dX9_itemAt_34 : decode cX9_itemAt 34 = .ok (.iinc 2 1, 3) := by decide +kernel
theorem dX9_itemAt_37 : decode cX9_itemAt 37 = .ok (.goto (-35), 3) := by decide +kernel
theorem dX9_itemAt_40 : decode cX9_itemAt 40 = .ok (.bipush (-9), 2) := by decide +kernel
theorem dX9_itemAt_42 : decode cX9_itemAt 42 = .ok (.ireturn, 1) := by decide +kernel
theorem dX9_onAir_0 : decode cX9_onAir 0 = .ok (.iload_n 1, 1) := by decide +kernel
theorem dX9_onAir_1 : decode cX9_onAir 1 = .ok (.iconst 0, 1) := by decide +kernel
theorem dX9_onAir_2 : decode cX9_onAir 2 = .ok (.sipush 10079, 3) := by decide +kernel
theorem dX9_onAir_5 : decode cX9_onAir 5 = .ok (.invokestatic 41, 3) := by decide +kernel
theorem dX9_onAir_8 : decode cX9_onAir 8 = .ok (.ifCond .eq 11, 3) := by decide +kernel
theorem dX9_onAir_11 : decode cX9_onAir 11 = .ok (.aload_n 0, 1) := by decide +kernel
theorem dX9_onAir_12 : decode cX9_onAir 12 = .ok (.iload_n 1, 1) := by decide +kernel
theorem dX9_onAir_13 : decode cX9_onAir 13 = .ok (.invokevirtual 126, 3) := by decide +kernel
theorem dX9_onAir_16 : decode cX9_onAir 16 = .ok (.goto 4, 3) := by decide +kernel
theorem dX9_onAir_19 : decode cX9_onAir 19 = .ok (.iconst (-1), 1) := by decide +kernel
theorem dX9_onAir_20 : decode cX9_onAir 20 = .ok (.ireturn, 1) := by decide +kernel
theorem dX9_leftOf_0 : decode cX9_leftOf 0 = .ok (.aload_n 0, 1) := by decide +kernel
theorem dX9_leftOf_1 : decode cX9_leftOf 1 = .ok (.invokevirtual 80, 3) := by decide +kernel
theorem dX9_leftOf_4 : decode cX9_leftOf 4 = .ok (.aload_n 0, 1) := by decide +kernel
theorem dX9_leftOf_5 : decode cX9_leftOf 5 = .ok (.invokevirtual 67, 3) := by decide +kernel
theorem dX9_leftOf_8 : decode cX9_leftOf 8 = .ok (.aload_n 0, 1) := by decide +kernel
theorem dX9_leftOf_9 : decode cX9_leftOf 9 = .ok (.getfield 28, 3) := by decide +kernel
theorem dX9_leftOf_12 : decode cX9_leftOf 12 = .ok (.iload_n 1, 1) := by decide +kernel
theorem dX9_leftOf_13 : decode cX9_leftOf 13 = .ok (.iaload, 1) := by decide +kernel
theorem dX9_leftOf_14 : decode cX9_leftOf 14 = .ok (.ireturn, 1) := by decide +kernel
theorem dX9_left_0 : decode cX9_left 0 = .ok (.iload_n 1, 1) := by decide +kernel
theorem dX9_left_1 : decode cX9_left 1 = .ok (.iconst 0, 1) := by decide +kernel
theorem dX9_left_2 : decode cX9_left 2 = .ok (.aload_n 0, 1) := by decide +kernel
theorem dX9_left_3 : decode cX9_left 3 = .ok (.getfield 7, 3) := by decide +kernel
theorem dX9_left_6 : decode cX9_left 6 = .ok (.iconst 2, 1) := by decide +kernel
theorem dX9_left_7 : decode cX9_left 7 = .ok (.iaload, 1) := by decide +kernel
theorem dX9_left_8 : decode cX9_left 8 = .ok (.iconst 1, 1) := by decide +kernel
theorem dX9_left_9 : decode cX9_left 9 = .ok (.isub, 1) := by decide +kernel
theorem dX9_left_10 : decode cX9_left 10 = .ok (.invokestatic 41, 3) := by decide +kernel
theorem dX9_left_13 : decode cX9_left 13 = .ok (.ifCond .eq 11, 3) := by decide +kernel
theorem dX9_left_16 : decode cX9_left 16 = .ok (.aload_n 0, 1) := by decide +kernel
theorem dX9_left_17 : decode cX9_left 17 = .ok (.iload_n 1, 1) := by decide +kernel
theorem dX9_left_18 : decode cX9_left 18 = .ok (.invokevirtual 129, 3) := by decide +kernel
theorem dX9_left_21 : decode cX9_left 21 = .ok (.goto 4, 3) := by decide +kernel
theorem dX9_left_24 : decode cX9_left 24 = .ok (.iconst (-1), 1) := by decide +kernel
theorem dX9_left_25 : decode cX9_left 25 = .ok (.ireturn, 1) := by decide +kernel
theorem dX9_mayPlace_0 : decode cX9_mayPlace 0 = .ok (.aload_n 0, 1) := by decide +kernel
theorem dX9_mayPlace_1 : decode cX9_mayPlace 1 = .ok (.iload_n 1, 1) := by decide +kernel
theorem dX9_mayPlace_2 : decode cX9_mayPlace 2 = .ok (.invokevirtual 52, 3) := by decide +kernel
theorem dX9_mayPlace_5 : decode cX9_mayPlace 5 = .ok (.ifCond .eq 23, 3) := by decide +kernel
theorem dX9_mayPlace_8 : decode cX9_mayPlace 8 = .ok (.iload_n 2, 1) := by decide +kernel
theorem dX9_mayPlace_9 : decode cX9_mayPlace 9 = .ok (.iconst 0, 1) := by decide +kernel
theorem dX9_mayPlace_10 : decode cX9_mayPlace 10 = .ok (.sipush 10079, 3) := by decide +kernel
theorem dX9_mayPlace_13 : decode cX9_mayPlace 13 = .ok (.invokestatic 41, 3) := by decide +kernel
theorem dX9_mayPlace_16 : decode cX9_mayPlace 16 = .ok (.ifCond .eq 12, 3) := by decide +kernel
theorem dX9_mayPlace_19 : decode cX9_mayPlace 19 = .ok (.aload_n 0, 1) := by decide +kernel
theorem dX9_mayPlace_20 : decode cX9_mayPlace 20 = .ok (.iload_n 1, 1) := by decide +kernel
theorem dX9_mayPlace_21 : decode cX9_mayPlace 21 = .ok (.iload_n 2, 1) := by decide +kernel
theorem dX9_mayPlace_22 : decode cX9_mayPlace 22 = .ok (.invokevirtual 93, 3) := by decide +kernel
theorem dX9_mayPlace_25 : decode cX9_mayPlace 25 = .ok (.goto 4, 3) := by decide +kernel
theorem dX9_mayPlace_28 : decode cX9_mayPlace 28 = .ok (.iconst (-1), 1) := by decide +kernel
theorem dX9_mayPlace_29 : decode cX9_mayPlace 29 = .ok (.ireturn, 1) := by decide +kernel
theorem dX9_owed_0 : decode cX9_owed 0 = .ok (.aload_n 0, 1) := by decide +kernel
theorem dX9_owed_1 : decode cX9_owed 1 = .ok (.iload_n 1, 1) := by decide +kernel
theorem dX9_owed_2 : decode cX9_owed 2 = .ok (.invokevirtual 52, 3) := by decide +kernel
theorem dX9_owed_5 : decode cX9_owed 5 = .ok (.ifCond .eq 19, 3) := by decide +kernel
theorem dX9_owed_8 : decode cX9_owed 8 = .ok (.aload_n 0, 1) := by decide +kernel
theorem dX9_owed_9 : decode cX9_owed 9 = .ok (.getfield 7, 3) := by decide +kernel
theorem dX9_owed_12 : decode cX9_owed 12 = .ok (.bipush 10, 2) := by decide +kernel
theorem dX9_owed_14 : decode cX9_owed 14 = .ok (.iconst 4, 1) := by decide +kernel
theorem dX9_owed_15 : decode cX9_owed 15 = .ok (.iload_n 1, 1) := by decide +kernel
theorem dX9_owed_16 : decode cX9_owed 16 = .ok (.imul, 1) := by decide +kernel
theorem dX9_owed_17 : decode cX9_owed 17 = .ok (.iadd, 1) := by decide +kernel
theorem dX9_owed_18 : decode cX9_owed 18 = .ok (.iconst 3, 1) := by decide +kernel
theorem dX9_owed_19 : decode cX9_owed 19 = .ok (.iadd, 1) := by decide +kernel
theorem dX9_owed_20 : decode cX9_owed 20 = .ok (.iaload, 1) := by decide +kernel
theorem dX9_owed_21 : decode cX9_owed 21 = .ok (.goto 4, 3) := by decide +kernel
theorem dX9_owed_24 : decode cX9_owed 24 = .ok (.iconst (-1), 1) := by decide +kernel
theorem dX9_owed_25 : decode cX9_owed 25 = .ok (.ireturn, 1) := by decide +kernel
theorem dX9_isSpan_0 : decode cX9_isSpan 0 = .ok (.iload_n 0, 1) := by decide +kernel
theorem dX9_isSpan_1 : decode cX9_isSpan 1 = .ok (.iconst 0, 1) := by decide +kernel
theorem dX9_isSpan_2 : decode cX9_isSpan 2 = .ok (.sipush 10079, 3) := by decide +kernel
theorem dX9_isSpan_5 : decode cX9_isSpan 5 = .ok (.invokestatic 41, 3) := by decide +kernel
theorem dX9_isSpan_8 : decode cX9_isSpan 8 = .ok (.ifCond .eq 20, 3) := by decide +kernel
theorem dX9_isSpan_11 : decode cX9_isSpan 11 = .ok (.iload_n 1, 1) := by decide +kernel
theorem dX9_isSpan_12 : decode cX9_isSpan 12 = .ok (.iload_n 0, 1) := by decide +kernel
theorem dX9_isSpan_13 : decode cX9_isSpan 13 = .ok (.iconst 1, 1) := by decide +kernel
theorem dX9_isSpan_14 : decode cX9_isSpan 14 = .ok (.iadd, 1) := by decide +kernel
theorem dX9_isSpan_15 : decode cX9_isSpan 15 = .ok (.sipush 10080, 3) := by decide +kernel
theorem dX9_isSpan_18 : decode cX9_isSpan 18 = .ok (.invokestatic 41, 3) := by decide +kernel
theorem dX9_isSpan_21 : decode cX9_isSpan 21 = .ok (.ifCond .eq 7, 3) := by decide +kernel
theorem dX9_isSpan_24 : decode cX9_isSpan 24 = .ok (.iconst 1, 1) := by decide +kernel
theorem dX9_isSpan_25 : decode cX9_isSpan 25 = .ok (.goto 4, 3) := by decide +kernel
theorem dX9_isSpan_28 : decode cX9_isSpan 28 = .ok (.iconst 0, 1) := by decide +kernel
theorem dX9_isSpan_29 : decode cX9_isSpan 29 = .ok (.ireturn, 1) := by decide +kernel
theorem dX9_minutes_0 : decode cX9_minutes 0 = .ok (.iload_n 1, 1) := by decide +kernel
theorem dX9_minutes_1 : decode cX9_minutes 1 = .ok (.iconst 0, 1) := by decide +kernel
theorem dX9_minutes_2 : decode cX9_minutes 2 = .ok (.iconst 4, 1) := by decide +kernel
theorem dX9_minutes_3 : decode cX9_minutes 3 = .ok (.invokestatic 41, 3) := by decide +kernel
theorem dX9_minutes_6 : decode cX9_minutes 6 = .ok (.ifCond .eq 11, 3) := by decide +kernel
theorem dX9_minutes_9 : decode cX9_minutes 9 = .ok (.iload_n 2, 1) := by decide +kernel
theorem dX9_minutes_10 : decode cX9_minutes 10 = .ok (.iload_n 3, 1) := by decide +kernel
theorem dX9_minutes_11 : decode cX9_minutes 11 = .ok (.invokestatic 132, 3) := by decide +kernel
theorem dX9_minutes_14 : decode cX9_minutes 14 = .ok (.ifCond .ne 5, 3) := by decide +kernel
theorem dX9_minutes_17 : decode cX9_minutes 17 = .ok (.iconst (-1), 1) := by decide +kernel
theorem dX9_minutes_18 : decode cX9_minutes 18 = .ok (.ireturn, 1) := by decide +kernel
theorem dX9_minutes_19 : decode cX9_minutes 19 = .ok (.iload_n 1, 1) := by decide +kernel
theorem dX9_minutes_20 : decode cX9_minutes 20 = .ok (.iconst 4, 1) := by decide +kernel
theorem dX9_minutes_21 : decode cX9_minutes 21 = .ok (.if_icmp .ne 9, 3) := by decide +kernel
theorem dX9_minutes_24 : decode cX9_minutes 24 = .ok (.iload_n 3, 1) := by decide +kernel
theorem dX9_minutes_25 : decode cX9_minutes 25 = .ok (.iload_n 2, 1) := by decide +kernel
theorem dX9_minutes_26 : decode cX9_minutes 26 = .ok (.isub, 1) := by decide +kernel
theorem dX9_minutes_27 : decode cX9_minutes 27 = .ok (.goto 4, 3) := by decide +kernel
theorem dX9_minutes_30 : decode cX9_minutes 30 = .ok (.iconst 0, 1) := by decide +kernel
theorem dX9_minutes_31 : decode cX9_minutes 31 = .ok (.istore 4, 2) := by decide +kernel
theorem dX9_minutes_33 : decode cX9_minutes 33 = .ok (.iconst 0, 1) := by decide +kernel
theorem dX9_minutes_34 : decode cX9_minutes 34 = .ok (.istore 5, 2) := by decide +kernel
theorem dX9_minutes_36 : decode cX9_minutes 36 = .ok (.iload 5, 2) := by decide +kernel
theorem dX9_minutes_38 : decode cX9_minutes 38 = .ok (.aload_n 0, 1) := by decide +kernel
theorem dX9_minutes_39 : decode cX9_minutes 39 = .ok (.getfield 7, 3) := by decide +kernel
theorem dX9_minutes_42 : decode cX9_minutes 42 = .ok (.iconst 3, 1) := by decide +kernel
theorem dX9_minutes_43 : decode cX9_minutes 43 = .ok (.iaload, 1) := by decide +kernel
theorem dX9_minutes_44 : decode cX9_minutes 44 = .ok (.if_icmp .ge 110, 3) := by decide +kernel
theorem dX9_minutes_47 : decode cX9_minutes 47 = .ok (.aload_n 0, 1) := by decide +kernel
theorem dX9_minutes_48 : decode cX9_minutes 48 = .ok (.iload 5, 2) := by decide +kernel
theorem dX9_minutes_50 : decode cX9_minutes 50 = .ok (.iconst 1, 1) := by decide +kernel
theorem dX9_minutes_51 : decode cX9_minutes 51 = .ok (.invokevirtual 45, 3) := by decide +kernel
theorem dX9_minutes_54 : decode cX9_minutes 54 = .ok (.iload_n 2, 1) := by decide +kernel
theorem dX9_minutes_55 : decode cX9_minutes 55 = .ok (.if_icmp .le 13, 3) := by decide +kernel
theorem dX9_minutes_58 : decode cX9_minutes 58 = .ok (.aload_n 0, 1) := by decide +kernel
theorem dX9_minutes_59 : decode cX9_minutes 59 = .ok (.iload 5, 2) := by decide +kernel
theorem dX9_minutes_61 : decode cX9_minutes 61 = .ok (.iconst 1, 1) := by decide +kernel
theorem dX9_minutes_62 : decode cX9_minutes 62 = .ok (.invokevirtual 45, 3) := by decide +kernel
theorem dX9_minutes_65 : decode cX9_minutes 65 = .ok (.goto 4, 3) := by decide +kernel
theorem dX9_minutes_68 : decode cX9_minutes 68 = .ok (.iload_n 2, 1) := by decide +kernel
theorem dX9_minutes_69 : decode cX9_minutes 69 = .ok (.istore 6, 2) := by decide +kernel
theorem dX9_minutes_71 : decode cX9_minutes 71 = .ok (.aload_n 0, 1) := by decide +kernel
theorem dX9_minutes_72 : decode cX9_minutes 72 = .ok (.iload 5, 2) := by decide +kernel
theorem dX9_minutes_74 : decode cX9_minutes 74 = .ok (.invokevirtual 70, 3) := by decide +kernel
theorem dX9_minutes_77 : decode cX9_minutes 77 = .ok (.iload_n 3, 1) := by decide +kernel
theorem dX9_minutes_78 : decode cX9_minutes 78 = .ok (.if_icmp .ge 12, 3) := by decide +kernel
theorem dX9_minutes_81 : decode cX9_minutes 81 = .ok (.aload_n 0, 1) := by decide +kernel
theorem dX9_minutes_82 : decode cX9_minutes 82 = .ok (.iload 5, 2) := by decide +kernel
theorem dX9_minutes_84 : decode cX9_minutes 84 = .ok (.invokevirtual 70, 3) := by decide +kernel
theorem dX9_minutes_87 : decode cX9_minutes 87 = .ok (.goto 4, 3) := by decide +kernel
theorem dX9_minutes_90 : decode cX9_minutes 90 = .ok (.iload_n 3, 1) := by decide +kernel
theorem dX9_minutes_91 : decode cX9_minutes 91 = .ok (.istore 7, 2) := by decide +kernel
theorem dX9_minutes_93 : decode cX9_minutes 93 = .ok (.iload 7, 2) := by decide +kernel
theorem dX9_minutes_95 : decode cX9_minutes 95 = .ok (.iload 6, 2) := by decide +kernel
theorem dX9_minutes_97 : decode cX9_minutes 97 = .ok (.if_icmp .le 11, 3) := by decide +kernel
theorem dX9_minutes_100 : decode cX9_minutes 100 = .ok (.iload 7, 2) := by decide +kernel
theorem dX9_minutes_102 : decode cX9_minutes 102 = .ok (.iload 6, 2) := by decide +kernel
theorem dX9_minutes_104 : decode cX9_minutes 104 = .ok (.isub, 1) := by decide +kernel
theorem dX9_minutes_105 : decode cX9_minutes 105 = .ok (.goto 4, 3) := by decide +kernel
theorem dX9_minutes_108 : decode cX9_minutes 108 = .ok (.iconst 0, 1) := by decide +kernel
theorem dX9_minutes_109 : decode cX9_minutes 109 = .ok (.istore 8, 2) := by decide +kernel
theorem dX9_minutes_111 : decode cX9_minutes 111 = .ok (.iload 4, 2) := by decide +kernel
theorem dX9_minutes_113 : decode cX9_minutes 113 = .ok (.iload_n 1, 1) := by decide +kernel
theorem dX9_minutes_114 : decode cX9_minutes 114 = .ok (.iconst 4, 1) := by decide +kernel
theorem dX9_minutes_115 : decode cX9_minutes 115 = .ok (.if_icmp .ne 9, 3) := by decide +kernel
theorem dX9_minutes_118 : decode cX9_minutes 118 = .ok (.iload 8, 2) := by decide +kernel
theorem dX9_minutes_120 : decode cX9_minutes 120 = .ok (.ineg, 1) := by decide +kernel
theorem dX9_minutes_121 : decode cX9_minutes 121 = .ok (.goto 24, 3) := by decide +kernel
theorem dX9_minutes_124 : decode cX9_minutes 124 = .ok (.aload_n 0, 1) := by decide +kernel
theorem dX9_minutes_125 : decode cX9_minutes 125 = .ok (.aload_n 0, 1) := by decide +kernel
theorem dX9_minutes_126 : decode cX9_minutes 126 = .ok (.iload 5, 2) := by decide +kernel
theorem dX9_minutes_128 : decode cX9_minutes 128 = .ok (.iconst 0, 1) := by decide +kernel
theorem dX9_minutes_129 : decode cX9_minutes 129 = .ok (.invokevirtual 45, 3) := by decide +kernel
theorem dX9_minutes_132 : decode cX9_minutes 132 = .ok (.invokevirtual 59, 3) := by decide +kernel
theorem dX9_minutes_135 : decode cX9_minutes 135 = .ok (.iload_n 1, 1) := by decide +kernel
theorem dX9_minutes_136 : decode cX9_minutes 136 = .ok (.if_icmp .ne 8, 3) := by decide +kernel
theorem dX9_minutes_139 : decode cX9_minutes 139 = .ok (.iload 8, 2) := by decide +kernel
theorem dX9_minutes_141 : decode cX9_minutes 141 = .ok (.goto 4, 3) := by decide +kernel
theorem dX9_minutes_144 : decode cX9_minutes 144 = .ok (.iconst 0, 1) := by decide +kernel
theorem dX9_minutes_145 : decode cX9_minutes 145 = .ok (.iadd, 1) := by decide +kernel
theorem dX9_minutes_146 : decode cX9_minutes 146 = .ok (.istore 4, 2) := by decide +kernel
theorem dX9_minutes_148 : decode cX9_minutes 148 = .ok (.iinc 5 1, 3) := by decide +kernel
theorem dX9_minutes_151 : decode cX9_minutes 151 = .ok (.goto (-115), 3) := by decide +kernel
theorem dX9_minutes_154 : decode cX9_minutes 154 = .ok (.iload 4, 2) := by decide +kernel
theorem dX9_minutes_156 : decode cX9_minutes 156 = .ok (.ireturn, 1) := by decide +kernel
theorem dX9_silence_0 : decode cX9_silence 0 = .ok (.iload_n 1, 1) := by decide +kernel
theorem dX9_silence_1 : decode cX9_silence 1 = .ok (.iload_n 2, 1) := by decide +kernel
theorem dX9_silence_2 : decode cX9_silence 2 = .ok (.invokestatic 132, 3) := by decide +kernel
theorem dX9_silence_5 : decode cX9_silence 5 = .ok (.ifCond .ne 5, 3) := by decide +kernel
theorem dX9_silence_8 : decode cX9_silence 8 = .ok (.iconst (-1), 1) := by decide +kernel
theorem dX9_silence_9 : decode cX9_silence 9 = .ok (.ireturn, 1) := by decide +kernel
theorem dX9_silence_10 : decode cX9_silence 10 = .ok (.iconst 0, 1) := by decide +kernel
theorem dX9_silence_11 : decode cX9_silence 11 = .ok (.istore_n 3, 1) := by decide +kernel
theorem dX9_silence_12 : decode cX9_silence 12 = .ok (.iload_n 1, 1) := by decide +kernel
theorem dX9_silence_13 : decode cX9_silence 13 = .ok (.istore 4, 2) := by decide +kernel
theorem dX9_silence_15 : decode cX9_silence 15 = .ok (.iload_n 1, 1) := by decide +kernel
theorem dX9_silence_16 : decode cX9_silence 16 = .ok (.istore 5, 2) := by decide +kernel
theorem dX9_silence_18 : decode cX9_silence 18 = .ok (.iconst 0, 1) := by decide +kernel
theorem dX9_silence_19 : decode cX9_silence 19 = .ok (.istore 6, 2) := by decide +kernel
theorem dX9_silence_21 : decode cX9_silence 21 = .ok (.iload 6, 2) := by decide +kernel
theorem dX9_silence_23 : decode cX9_silence 23 = .ok (.aload_n 0, 1) := by decide +kernel
theorem dX9_silence_24 : decode cX9_silence 24 = .ok (.getfield 7, 3) := by decide +kernel
theorem dX9_silence_27 : decode cX9_silence 27 = .ok (.iconst 3, 1) := by decide +kernel
theorem dX9_silence_28 : decode cX9_silence 28 = .ok (.iaload, 1) := by decide +kernel
theorem dX9_silence_29 : decode cX9_silence 29 = .ok (.if_icmp .gt 98, 3) := by decide +kernel
theorem dX9_silence_32 : decode cX9_silence 32 = .ok (.iload 6, 2) := by decide +kernel
theorem dX9_silence_34 : decode cX9_silence 34 = .ok (.aload_n 0, 1) := by decide +kernel
theorem dX9_silence_35 : decode cX9_silence 35 = .ok (.getfield 7, 3) := by decide +kernel
theorem dX9_silence_38 : decode cX9_silence 38 = .ok (.iconst 3, 1) := by decide +kernel
theorem dX9_silence_39 : decode cX9_silence 39 = .ok (.iaload, 1) := by decide +kernel
theorem dX9_silence_40 : decode cX9_silence 40 = .ok (.if_icmp .ge 24, 3) := by decide +kernel
theorem dX9_silence_43 : decode cX9_silence 43 = .ok (.aload_n 0, 1) := by decide +kernel
theorem dX9_silence_44 : decode cX9_silence 44 = .ok (.iload 6, 2) := by decide +kernel
theorem dX9_silence_46 : decode cX9_silence 46 = .ok (.iconst 1, 1) := by decide +kernel
theorem dX9_silence_47 : decode cX9_silence 47 = .ok (.invokevirtual 45, 3) := by decide +kernel
theorem dX9_silence_50 : decode cX9_silence 50 = .ok (.iload_n 2, 1) := by decide +kernel
theorem dX9_silence_51 : decode cX9_silence 51 = .ok (.if_icmp .ge 13, 3) := by decide +kernel
theorem dX9_silence_54 : decode cX9_silence 54 = .ok (.aload_n 0, 1) := by decide +kernel
theorem dX9_silence_55 : decode cX9_silence 55 = .ok (.iload 6, 2) := by decide +kernel
theorem dX9_silence_57 : decode cX9_silence 57 = .ok (.iconst 1, 1) := by decide +kernel
theorem dX9_silence_58 : decode cX9_silence 58 = .ok (.invokevirtual 45, 3) := by decide +kernel
theorem dX9_silence_61 : decode cX9_silence 61 = .ok (.goto 4, 3) := by decide +kernel
theorem dX9_silence_64 : decode cX9_silence 64 = .ok (.iload_n 2, 1) := by decide +kernel
theorem dX9_silence_65 : decode cX9_silence 65 = .ok (.istore 7, 2) := by decide +kernel
theorem dX9_silence_67 : decode cX9_silence 67 = .ok (.iload 7, 2) := by decide +kernel
theorem dX9_silence_69 : decode cX9_silence 69 = .ok (.iload 5, 2) := by decide +kernel
theorem dX9_silence_71 : decode cX9_silence 71 = .ok (.isub, 1) := by decide +kernel
theorem dX9_silence_72 : decode cX9_silence 72 = .ok (.iload_n 3, 1) := by decide +kernel
theorem dX9_silence_73 : decode cX9_silence 73 = .ok (.if_icmp .le 13, 3) := by decide +kernel
theorem dX9_silence_76 : decode cX9_silence 76 = .ok (.iload 7, 2) := by decide +kernel
theorem dX9_silence_78 : decode cX9_silence 78 = .ok (.iload 5, 2) := by decide +kernel
theorem dX9_silence_80 : decode cX9_silence 80 = .ok (.isub, 1) := by decide +kernel
theorem dX9_silence_81 : decode cX9_silence 81 = .ok (.istore_n 3, 1) := by decide +kernel
theorem dX9_silence_82 : decode cX9_silence 82 = .ok (.iload 5, 2) := by decide +kernel
theorem dX9_silence_84 : decode cX9_silence 84 = .ok (.istore 4, 2) := by decide +kernel
theorem dX9_silence_86 : decode cX9_silence 86 = .ok (.iload 6, 2) := by decide +kernel
theorem dX9_silence_88 : decode cX9_silence 88 = .ok (.aload_n 0, 1) := by decide +kernel
theorem dX9_silence_89 : decode cX9_silence 89 = .ok (.getfield 7, 3) := by decide +kernel
theorem dX9_silence_92 : decode cX9_silence 92 = .ok (.iconst 3, 1) := by decide +kernel
theorem dX9_silence_93 : decode cX9_silence 93 = .ok (.iaload, 1) := by decide +kernel
theorem dX9_silence_94 : decode cX9_silence 94 = .ok (.if_icmp .ge 23, 3) := by decide +kernel
theorem dX9_silence_97 : decode cX9_silence 97 = .ok (.aload_n 0, 1) := by decide +kernel
theorem dX9_silence_98 : decode cX9_silence 98 = .ok (.iload 6, 2) := by decide +kernel
theorem dX9_silence_100 : decode cX9_silence 100 = .ok (.invokevirtual 70, 3) := by decide +kernel
theorem dX9_silence_103 : decode cX9_silence 103 = .ok (.iload 5, 2) := by decide +kernel
theorem dX9_silence_105 : decode cX9_silence 105 = .ok (.if_icmp .le 12, 3) := by decide +kernel
theorem dX9_silence_108 : decode cX9_silence 108 = .ok (.aload_n 0, 1) := by decide +kernel
theorem dX9_silence_109 : decode cX9_silence 109 = .ok (.iload 6, 2) := by decide +kernel
theorem dX9_silence_111 : decode cX9_silence 111 = .ok (.invokevirtual 70, 3) := by decide +kernel
theorem dX9_silence_114 : decode cX9_silence 114 = .ok (.goto 5, 3) := by decide +kernel
theorem dX9_silence_117 : decode cX9_silence 117 = .ok (.iload 5, 2) := by decide +kernel
theorem dX9_silence_119 : decode cX9_silence 119 = .ok (.istore 5, 2) := by decide +kernel
theorem dX9_silence_121 : decode cX9_silence 121 = .ok (.iinc 6 1, 3) := by decide +kernel
theorem dX9_silence_124 : decode cX9_silence 124 = .ok (.goto (-103), 3) := by decide +kernel
theorem dX9_silence_127 : decode cX9_silence 127 = .ok (.iload_n 3, 1) := by decide +kernel
theorem dX9_silence_128 : decode cX9_silence 128 = .ok (.ifCond .le 14, 3) := by decide +kernel
theorem dX9_silence_131 : decode cX9_silence 131 = .ok (.sipush 10081, 3) := by decide +kernel
theorem dX9_silence_134 : decode cX9_silence 134 = .ok (.iload_n 3, 1) := by decide +kernel
theorem dX9_silence_135 : decode cX9_silence 135 = .ok (.imul, 1) := by decide +kernel
theorem dX9_silence_136 : decode cX9_silence 136 = .ok (.iload 4, 2) := by decide +kernel
theorem dX9_silence_138 : decode cX9_silence 138 = .ok (.iadd, 1) := by decide +kernel
theorem dX9_silence_139 : decode cX9_silence 139 = .ok (.goto 5, 3) := by decide +kernel
theorem dX9_silence_142 : decode cX9_silence 142 = .ok (.bipush (-9), 2) := by decide +kernel
theorem dX9_silence_144 : decode cX9_silence 144 = .ok (.ireturn, 1) := by decide +kernel
theorem dX9_airTime_0 : decode cX9_airTime 0 = .ok (.iconst 0, 1) := by decide +kernel
theorem dX9_airTime_1 : decode cX9_airTime 1 = .ok (.istore_n 2, 1) := by decide +kernel
theorem dX9_airTime_2 : decode cX9_airTime 2 = .ok (.iconst 0, 1) := by decide +kernel
theorem dX9_airTime_3 : decode cX9_airTime 3 = .ok (.istore_n 3, 1) := by decide +kernel
theorem dX9_airTime_4 : decode cX9_airTime 4 = .ok (.iload_n 3, 1) := by decide +kernel
theorem dX9_airTime_5 : decode cX9_airTime 5 = .ok (.aload_n 0, 1) := by decide +kernel
theorem dX9_airTime_6 : decode cX9_airTime 6 = .ok (.getfield 7, 3) := by decide +kernel
theorem dX9_airTime_9 : decode cX9_airTime 9 = .ok (.iconst 3, 1) := by decide +kernel
theorem dX9_airTime_10 : decode cX9_airTime 10 = .ok (.iaload, 1) := by decide +kernel
theorem dX9_airTime_11 : decode cX9_airTime 11 = .ok (.if_icmp .ge 32, 3) := by decide +kernel
theorem dX9_airTime_14 : decode cX9_airTime 14 = .ok (.iload_n 2, 1) := by decide +kernel
theorem dX9_airTime_15 : decode cX9_airTime 15 = .ok (.aload_n 0, 1) := by decide +kernel
theorem dX9_airTime_16 : decode cX9_airTime 16 = .ok (.iload_n 3, 1) := by decide +kernel
theorem dX9_airTime_17 : decode cX9_airTime 17 = .ok (.iconst 0, 1) := by decide +kernel
theorem dX9_airTime_18 : decode cX9_airTime 18 = .ok (.invokevirtual 45, 3) := by decide +kernel
theorem dX9_airTime_21 : decode cX9_airTime 21 = .ok (.iload_n 1, 1) := by decide +kernel
theorem dX9_airTime_22 : decode cX9_airTime 22 = .ok (.if_icmp .ne 12, 3) := by decide +kernel
theorem dX9_airTime_25 : decode cX9_airTime 25 = .ok (.aload_n 0, 1) := by decide +kernel
theorem dX9_airTime_26 : decode cX9_airTime 26 = .ok (.iload_n 3, 1) := by decide +kernel
theorem dX9_airTime_27 : decode cX9_airTime 27 = .ok (.iconst 2, 1) := by decide +kernel
theorem dX9_airTime_28 : decode cX9_airTime 28 = .ok (.invokevirtual 45, 3) := by decide +kernel
theorem dX9_airTime_31 : decode cX9_airTime 31 = .ok (.goto 4, 3) := by decide +kernel
theorem dX9_airTime_34 : decode cX9_airTime 34 = .ok (.iconst 0, 1) := by decide +kernel
theorem dX9_airTime_35 : decode cX9_airTime 35 = .ok (.iadd, 1) := by decide +kernel
theorem dX9_airTime_36 : decode cX9_airTime 36 = .ok (.istore_n 2, 1) := by decide +kernel
theorem dX9_airTime_37 : decode cX9_airTime 37 = .ok (.iinc 3 1, 3) := by decide +kernel
theorem dX9_airTime_40 : decode cX9_airTime 40 = .ok (.goto (-36), 3) := by decide +kernel
theorem dX9_airTime_43 : decode cX9_airTime 43 = .ok (.iload_n 2, 1) := by decide +kernel
theorem dX9_airTime_44 : decode cX9_airTime 44 = .ok (.ireturn, 1) := by decide +kernel
theorem dX9_ranked_0 : decode cX9_ranked 0 = .ok (.iload_n 1, 1) := by decide +kernel
theorem dX9_ranked_1 : decode cX9_ranked 1 = .ok (.iconst 0, 1) := by decide +kernel
theorem dX9_ranked_2 : decode cX9_ranked 2 = .ok (.aload_n 0, 1) := by decide +kernel
theorem dX9_ranked_3 : decode cX9_ranked 3 = .ok (.getfield 7, 3) := by decide +kernel
theorem dX9_ranked_6 : decode cX9_ranked 6 = .ok (.iconst 0, 1) := by decide +kernel
theorem dX9_ranked_7 : decode cX9_ranked 7 = .ok (.iaload, 1) := by decide +kernel
theorem dX9_ranked_8 : decode cX9_ranked 8 = .ok (.iconst 1, 1) := by decide +kernel
theorem dX9_ranked_9 : decode cX9_ranked 9 = .ok (.isub, 1) := by decide +kernel
theorem dX9_ranked_10 : decode cX9_ranked 10 = .ok (.invokestatic 41, 3) := by decide +kernel
theorem dX9_ranked_13 : decode cX9_ranked 13 = .ok (.ifCond .ne 5, 3) := by decide +kernel
theorem dX9_ranked_16 : decode cX9_ranked 16 = .ok (.iconst (-1), 1) := by decide +kernel
theorem dX9_ranked_17 : decode cX9_ranked 17 = .ok (.ireturn, 1) := by decide +kernel
theorem dX9_ranked_18 : decode cX9_ranked 18 = .ok (.iconst 0, 1) := by decide +kernel
theorem dX9_ranked_19 : decode cX9_ranked 19 = .ok (.istore_n 2, 1) := by decide +kernel
theorem dX9_ranked_20 : decode cX9_ranked 20 = .ok (.iload_n 2, 1) := by decide +kernel
theorem dX9_ranked_21 : decode cX9_ranked 21 = .ok (.aload_n 0, 1) := by decide +kernel
theorem dX9_ranked_22 : decode cX9_ranked 22 = .ok (.getfield 7, 3) := by decide +kernel
theorem dX9_ranked_25 : decode cX9_ranked 25 = .ok (.iconst 0, 1) := by decide +kernel
theorem dX9_ranked_26 : decode cX9_ranked 26 = .ok (.iaload, 1) := by decide +kernel
theorem dX9_ranked_27 : decode cX9_ranked 27 = .ok (.if_icmp .ge 76, 3) := by decide +kernel
theorem dX9_ranked_30 : decode cX9_ranked 30 = .ok (.iconst 0, 1) := by decide +kernel
theorem dX9_ranked_31 : decode cX9_ranked 31 = .ok (.istore_n 3, 1) := by decide +kernel
theorem dX9_ranked_32 : decode cX9_ranked 32 = .ok (.iconst 0, 1) := by decide +kernel
theorem dX9_ranked_33 : decode cX9_ranked 33 = .ok (.istore 4, 2) := by decide +kernel
theorem dX9_ranked_35 : decode cX9_ranked 35 = .ok (.iload 4, 2) := by decide +kernel
theorem dX9_ranked_37 : decode cX9_ranked 37 = .ok (.aload_n 0, 1) := by decide +kernel
theorem dX9_ranked_38 : decode cX9_ranked 38 = .ok (.getfield 7, 3) := by decide +kernel
theorem dX9_ranked_41 : decode cX9_ranked 41 = .ok (.iconst 0, 1) := by decide +kernel
theorem dX9_ranked_42 : decode cX9_ranked 42 = .ok (.iaload, 1) := by decide +kernel
theorem dX9_ranked_43 : decode cX9_ranked 43 = .ok (.if_icmp .ge 47, 3) := by decide +kernel
theorem dX9_ranked_46 : decode cX9_ranked 46 = .ok (.aload_n 0, 1) := by decide +kernel
theorem dX9_ranked_47 : decode cX9_ranked 47 = .ok (.iload 4, 2) := by decide +kernel
theorem dX9_ranked_49 : decode cX9_ranked 49 = .ok (.invokevirtual 135, 3) := by decide +kernel
theorem dX9_ranked_52 : decode cX9_ranked 52 = .ok (.aload_n 0, 1) := by decide +kernel
theorem dX9_ranked_53 : decode cX9_ranked 53 = .ok (.iload_n 2, 1) := by decide +kernel
theorem dX9_ranked_54 : decode cX9_ranked 54 = .ok (.invokevirtual 135, 3) := by decide +kernel
theorem dX9_ranked_57 : decode cX9_ranked 57 = .ok (.isub, 1) := by decide +kernel
theorem dX9_ranked_58 : decode cX9_ranked 58 = .ok (.istore 5, 2) := by decide +kernel
theorem dX9_ranked_60 : decode cX9_ranked 60 = .ok (.iload_n 3, 1) := by decide +kernel
theorem dX9_ranked_61 : decode cX9_ranked 61 = .ok (.iload 5, 2) := by decide +kernel
theorem dX9_ranked_63 : decode cX9_ranked 63 = .ok (.ifCond .gt 14, 3) := by decide +kernel
theorem dX9_ranked_66 : decode cX9_ranked 66 = .ok (.iload 5, 2) := by decide +kernel
theorem dX9_ranked_68 : decode cX9_ranked 68 = .ok (.ifCond .ne 13, 3) := by decide +kernel
theorem dX9_ranked_71 : decode cX9_ranked 71 = .ok (.iload 4, 2) := by decide +kernel
theorem dX9_ranked_73 : decode cX9_ranked 73 = .ok (.iload_n 2, 1) := by decide +kernel
theorem dX9_ranked_74 : decode cX9_ranked 74 = .ok (.if_icmp .ge 7, 3) := by decide +kernel
theorem dX9_ranked_77 : decode cX9_ranked 77 = .ok (.iconst 1, 1) := by decide +kernel
theorem dX9_ranked_78 : decode cX9_ranked 78 = .ok (.goto 4, 3) := by decide +kernel
theorem dX9_ranked_81 : decode cX9_ranked 81 = .ok (.iconst 0, 1) := by decide +kernel
theorem dX9_ranked_82 : decode cX9_ranked 82 = .ok (.iadd, 1) := by decide +kernel
theorem dX9_ranked_83 : decode cX9_ranked 83 = .ok (.istore_n 3, 1) := by decide +kernel
theorem dX9_ranked_84 : decode cX9_ranked 84 = .ok (.iinc 4 1, 3) := by decide +kernel
theorem dX9_ranked_87 : decode cX9_ranked 87 = .ok (.goto (-52), 3) := by decide +kernel
theorem dX9_ranked_90 : decode cX9_ranked 90 = .ok (.iload_n 3, 1) := by decide +kernel
theorem dX9_ranked_91 : decode cX9_ranked 91 = .ok (.iload_n 1, 1) := by decide +kernel
theorem dX9_ranked_92 : decode cX9_ranked 92 = .ok (.if_icmp .ne 5, 3) := by decide +kernel
theorem dX9_ranked_95 : decode cX9_ranked 95 = .ok (.iload_n 2, 1) := by decide +kernel
theorem dX9_ranked_96 : decode cX9_ranked 96 = .ok (.ireturn, 1) := by decide +kernel
theorem dX9_ranked_97 : decode cX9_ranked 97 = .ok (.iinc 2 1, 3) := by decide +kernel
theorem dX9_ranked_100 : decode cX9_ranked 100 = .ok (.goto (-80), 3) := by decide +kernel
theorem dX9_ranked_103 : decode cX9_ranked 103 = .ok (.bipush (-9), 2) := by decide +kernel
theorem dX9_ranked_105 : decode cX9_ranked 105 = .ok (.ireturn, 1) := by decide +kernel
theorem dX9_broken_0 : decode cX9_broken 0 = .ok (.iconst 0, 1) := by decide +kernel
theorem dX9_broken_1 : decode cX9_broken 1 = .ok (.istore_n 1, 1) := by decide +kernel
theorem dX9_broken_2 : decode cX9_broken 2 = .ok (.iconst 0, 1) := by decide +kernel
theorem dX9_broken_3 : decode cX9_broken 3 = .ok (.istore_n 2, 1) := by decide +kernel
theorem dX9_broken_4 : decode cX9_broken 4 = .ok (.iload_n 2, 1) := by decide +kernel
theorem dX9_broken_5 : decode cX9_broken 5 = .ok (.aload_n 0, 1) := by decide +kernel
theorem dX9_broken_6 : decode cX9_broken 6 = .ok (.getfield 7, 3) := by decide +kernel
theorem dX9_broken_9 : decode cX9_broken 9 = .ok (.iconst 3, 1) := by decide +kernel
theorem dX9_broken_10 : decode cX9_broken 10 = .ok (.iaload, 1) := by decide +kernel
theorem dX9_broken_11 : decode cX9_broken 11 = .ok (.if_icmp .ge 41, 3) := by decide +kernel
theorem dX9_broken_14 : decode cX9_broken 14 = .ok (.iload_n 1, 1) := by decide +kernel
theorem dX9_broken_15 : decode cX9_broken 15 = .ok (.aload_n 0, 1) := by decide +kernel
theorem dX9_broken_16 : decode cX9_broken 16 = .ok (.aload_n 0, 1) := by decide +kernel
theorem dX9_broken_17 : decode cX9_broken 17 = .ok (.iload_n 2, 1) := by decide +kernel
theorem dX9_broken_18 : decode cX9_broken 18 = .ok (.iconst 0, 1) := by decide +kernel
theorem dX9_broken_19 : decode cX9_broken 19 = .ok (.invokevirtual 45, 3) := by decide +kernel
theorem dX9_broken_22 : decode cX9_broken 22 = .ok (.aload_n 0, 1) := by decide +kernel
theorem dX9_broken_23 : decode cX9_broken 23 = .ok (.iload_n 2, 1) := by decide +kernel
theorem dX9_broken_24 : decode cX9_broken 24 = .ok (.iconst 1, 1) := by decide +kernel
theorem dX9_broken_25 : decode cX9_broken 25 = .ok (.invokevirtual 45, 3) := by decide +kernel
theorem dX9_broken_28 : decode cX9_broken 28 = .ok (.aload_n 0, 1) := by decide +kernel
theorem dX9_broken_29 : decode cX9_broken 29 = .ok (.iload_n 2, 1) := by decide +kernel
theorem dX9_broken_30 : decode cX9_broken 30 = .ok (.invokevirtual 70, 3) := by decide +kernel
theorem dX9_broken_33 : decode cX9_broken 33 = .ok (.invokevirtual 90, 3) := by decide +kernel
theorem dX9_broken_36 : decode cX9_broken 36 = .ok (.ifCond .eq 7, 3) := by decide +kernel
theorem dX9_broken_39 : decode cX9_broken 39 = .ok (.iconst 1, 1) := by decide +kernel
theorem dX9_broken_40 : decode cX9_broken 40 = .ok (.goto 4, 3) := by decide +kernel
theorem dX9_broken_43 : decode cX9_broken 43 = .ok (.iconst 0, 1) := by decide +kernel
theorem dX9_broken_44 : decode cX9_broken 44 = .ok (.iadd, 1) := by decide +kernel
theorem dX9_broken_45 : decode cX9_broken 45 = .ok (.istore_n 1, 1) := by decide +kernel
theorem dX9_broken_46 : decode cX9_broken 46 = .ok (.iinc 2 1, 3) := by decide +kernel
theorem dX9_broken_49 : decode cX9_broken 49 = .ok (.goto (-45), 3) := by decide +kernel
theorem dX9_broken_52 : decode cX9_broken 52 = .ok (.iload_n 1, 1) := by decide +kernel
theorem dX9_broken_53 : decode cX9_broken 53 = .ok (.ireturn, 1) := by decide +kernel
theorem dX9_signs_0 : decode cX9_signs 0 = .ok (.aload_n 0, 1) := by decide +kernel
theorem dX9_signs_1 : decode cX9_signs 1 = .ok (.getfield 34, 3) := by decide +kernel
theorem dX9_signs_4 : decode cX9_signs 4 = .ok (.aload_n 0, 1) := by decide +kernel
theorem dX9_signs_5 : decode cX9_signs 5 = .ok (.getfield 138, 3) := by decide +kernel
theorem dX9_signs_8 : decode cX9_signs 8 = .ok (.iload_n 1, 1) := by decide +kernel
theorem dX9_signs_9 : decode cX9_signs 9 = .ok (.iastore, 1) := by decide +kernel
theorem dX9_signs_10 : decode cX9_signs 10 = .ok (.aload_n 0, 1) := by decide +kernel
theorem dX9_signs_11 : decode cX9_signs 11 = .ok (.dup, 1) := by decide +kernel
theorem dX9_signs_12 : decode cX9_signs 12 = .ok (.getfield 138, 3) := by decide +kernel
theorem dX9_signs_15 : decode cX9_signs 15 = .ok (.iconst 1, 1) := by decide +kernel
theorem dX9_signs_16 : decode cX9_signs 16 = .ok (.iadd, 1) := by decide +kernel
theorem dX9_signs_17 : decode cX9_signs 17 = .ok (.putfield 138, 3) := by decide +kernel
theorem dX9_signs_20 : decode cX9_signs 20 = .ok (.return_, 1) := by decide +kernel
theorem dX9_number_0 : decode cX9_number 0 = .ok (.iload_n 1, 1) := by decide +kernel
theorem dX9_number_1 : decode cX9_number 1 = .ok (.sipush 10000, 3) := by decide +kernel
theorem dX9_number_4 : decode cX9_number 4 = .ok (.if_icmp .lt 15, 3) := by decide +kernel
theorem dX9_number_7 : decode cX9_number 7 = .ok (.aload_n 0, 1) := by decide +kernel
theorem dX9_number_8 : decode cX9_number 8 = .ok (.bipush 48, 2) := by decide +kernel
theorem dX9_number_10 : decode cX9_number 10 = .ok (.iload_n 1, 1) := by decide +kernel
theorem dX9_number_11 : decode cX9_number 11 = .ok (.sipush 10000, 3) := by decide +kernel
theorem dX9_number_14 : decode cX9_number 14 = .ok (.idiv, 1) := by decide +kernel
theorem dX9_number_15 : decode cX9_number 15 = .ok (.iadd, 1) := by decide +kernel
theorem dX9_number_16 : decode cX9_number 16 = .ok (.invokevirtual 141, 3) := by decide +kernel
theorem dX9_number_19 : decode cX9_number 19 = .ok (.iload_n 1, 1) := by decide +kernel
theorem dX9_number_20 : decode cX9_number 20 = .ok (.sipush 1000, 3) := by decide +kernel
theorem dX9_number_23 : decode cX9_number 23 = .ok (.if_icmp .lt 18, 3) := by decide +kernel
theorem dX9_number_26 : decode cX9_number 26 = .ok (.aload_n 0, 1) := by decide +kernel
theorem dX9_number_27 : decode cX9_number 27 = .ok (.bipush 48, 2) := by decide +kernel
theorem dX9_number_29 : decode cX9_number 29 = .ok (.iload_n 1, 1) := by decide +kernel
theorem dX9_number_30 : decode cX9_number 30 = .ok (.sipush 1000, 3) := by decide +kernel
theorem dX9_number_33 : decode cX9_number 33 = .ok (.idiv, 1) := by decide +kernel
theorem dX9_number_34 : decode cX9_number 34 = .ok (.bipush 10, 2) := by decide +kernel
theorem dX9_number_36 : decode cX9_number 36 = .ok (.irem, 1) := by decide +kernel
theorem dX9_number_37 : decode cX9_number 37 = .ok (.iadd, 1) := by decide +kernel
theorem dX9_number_38 : decode cX9_number 38 = .ok (.invokevirtual 141, 3) := by decide +kernel
theorem dX9_number_41 : decode cX9_number 41 = .ok (.iload_n 1, 1) := by decide +kernel
theorem dX9_number_42 : decode cX9_number 42 = .ok (.bipush 100, 2) := by decide +kernel
theorem dX9_number_44 : decode cX9_number 44 = .ok (.if_icmp .lt 17, 3) := by decide +kernel
theorem dX9_number_47 : decode cX9_number 47 = .ok (.aload_n 0, 1) := by decide +kernel
theorem dX9_number_48 : decode cX9_number 48 = .ok (.bipush 48, 2) := by decide +kernel
theorem dX9_number_50 : decode cX9_number 50 = .ok (.iload_n 1, 1) := by decide +kernel
theorem dX9_number_51 : decode cX9_number 51 = .ok (.bipush 100, 2) := by decide +kernel
theorem dX9_number_53 : decode cX9_number 53 = .ok (.idiv, 1) := by decide +kernel
theorem dX9_number_54 : decode cX9_number 54 = .ok (.bipush 10, 2) := by decide +kernel
theorem dX9_number_56 : decode cX9_number 56 = .ok (.irem, 1) := by decide +kernel
theorem dX9_number_57 : decode cX9_number 57 = .ok (.iadd, 1) := by decide +kernel
theorem dX9_number_58 : decode cX9_number 58 = .ok (.invokevirtual 141, 3) := by decide +kernel
theorem dX9_number_61 : decode cX9_number 61 = .ok (.iload_n 1, 1) := by decide +kernel
theorem dX9_number_62 : decode cX9_number 62 = .ok (.bipush 10, 2) := by decide +kernel
theorem dX9_number_64 : decode cX9_number 64 = .ok (.if_icmp .lt 17, 3) := by decide +kernel
theorem dX9_number_67 : decode cX9_number 67 = .ok (.aload_n 0, 1) := by decide +kernel
theorem dX9_number_68 : decode cX9_number 68 = .ok (.bipush 48, 2) := by decide +kernel
theorem dX9_number_70 : decode cX9_number 70 = .ok (.iload_n 1, 1) := by decide +kernel
theorem dX9_number_71 : decode cX9_number 71 = .ok (.bipush 10, 2) := by decide +kernel
theorem dX9_number_73 : decode cX9_number 73 = .ok (.idiv, 1) := by decide +kernel
theorem dX9_number_74 : decode cX9_number 74 = .ok (.bipush 10, 2) := by decide +kernel
theorem dX9_number_76 : decode cX9_number 76 = .ok (.irem, 1) := by decide +kernel
theorem dX9_number_77 : decode cX9_number 77 = .ok (.iadd, 1) := by decide +kernel
theorem dX9_number_78 : decode cX9_number 78 = .ok (.invokevirtual 141, 3) := by decide +kernel
theorem dX9_number_81 : decode cX9_number 81 = .ok (.aload_n 0, 1) := by decide +kernel
theorem dX9_number_82 : decode cX9_number 82 = .ok (.bipush 48, 2) := by decide +kernel
theorem dX9_number_84 : decode cX9_number 84 = .ok (.iload_n 1, 1) := by decide +kernel
theorem dX9_number_85 : decode cX9_number 85 = .ok (.bipush 10, 2) := by decide +kernel
theorem dX9_number_87 : decode cX9_number 87 = .ok (.irem, 1) := by decide +kernel
theorem dX9_number_88 : decode cX9_number 88 = .ok (.iadd, 1) := by decide +kernel
theorem dX9_number_89 : decode cX9_number 89 = .ok (.invokevirtual 141, 3) := by decide +kernel
theorem dX9_number_92 : decode cX9_number 92 = .ok (.return_, 1) := by decide +kernel
theorem dX9_two_0 : decode cX9_two 0 = .ok (.aload_n 0, 1) := by decide +kernel
theorem dX9_two_1 : decode cX9_two 1 = .ok (.bipush 48, 2) := by decide +kernel
theorem dX9_two_3 : decode cX9_two 3 = .ok (.iload_n 1, 1) := by decide +kernel
theorem dX9_two_4 : decode cX9_two 4 = .ok (.bipush 10, 2) := by decide +kernel
theorem dX9_two_6 : decode cX9_two 6 = .ok (.idiv, 1) := by decide +kernel
theorem dX9_two_7 : decode cX9_two 7 = .ok (.iadd, 1) := by decide +kernel
theorem dX9_two_8 : decode cX9_two 8 = .ok (.invokevirtual 141, 3) := by decide +kernel
theorem dX9_two_11 : decode cX9_two 11 = .ok (.aload_n 0, 1) := by decide +kernel
theorem dX9_two_12 : decode cX9_two 12 = .ok (.bipush 48, 2) := by decide +kernel
theorem dX9_two_14 : decode cX9_two 14 = .ok (.iload_n 1, 1) := by decide +kernel
theorem dX9_two_15 : decode cX9_two 15 = .ok (.bipush 10, 2) := by decide +kernel
theorem dX9_two_17 : decode cX9_two 17 = .ok (.irem, 1) := by decide +kernel
theorem dX9_two_18 : decode cX9_two 18 = .ok (.iadd, 1) := by decide +kernel
theorem dX9_two_19 : decode cX9_two 19 = .ok (.invokevirtual 141, 3) := by decide +kernel
theorem dX9_two_22 : decode cX9_two 22 = .ok (.return_, 1) := by decide +kernel
theorem dX9_line_0 : decode cX9_line 0 = .ok (.aload_n 0, 1) := by decide +kernel
theorem dX9_line_1 : decode cX9_line 1 = .ok (.iload_n 1, 1) := by decide +kernel
theorem dX9_line_2 : decode cX9_line 2 = .ok (.invokevirtual 100, 3) := by decide +kernel
theorem dX9_line_5 : decode cX9_line 5 = .ok (.ifCond .eq 7, 3) := by decide +kernel
theorem dX9_line_8 : decode cX9_line 8 = .ok (.iload_n 2, 1) := by decide +kernel
theorem dX9_line_9 : decode cX9_line 9 = .ok (.ifCond .ge 5, 3) := by decide +kernel
theorem dX9_line_12 : decode cX9_line 12 = .ok (.iconst (-1), 1) := by decide +kernel
theorem dX9_line_13 : decode cX9_line 13 = .ok (.ireturn, 1) := by decide +kernel
theorem dX9_line_14 : decode cX9_line 14 = .ok (.aload_n 0, 1) := by decide +kernel
theorem dX9_line_15 : decode cX9_line 15 = .ok (.iload_n 1, 1) := by decide +kernel
theorem dX9_line_16 : decode cX9_line 16 = .ok (.iconst 1, 1) := by decide +kernel
theorem dX9_line_17 : decode cX9_line 17 = .ok (.invokevirtual 45, 3) := by decide +kernel
theorem dX9_line_20 : decode cX9_line 20 = .ok (.istore_n 3, 1) := by decide +kernel
theorem dX9_line_21 : decode cX9_line 21 = .ok (.aload_n 0, 1) := by decide +kernel
theorem dX9_line_22 : decode cX9_line 22 = .ok (.iconst 0, 1) := by decide +kernel
theorem dX9_line_23 : decode cX9_line 23 = .ok (.putfield 138, 3) := by decide +kernel
theorem dX9_line_26 : decode cX9_line 26 = .ok (.aload_n 0, 1) := by decide +kernel
theorem dX9_line_27 : decode cX9_line 27 = .ok (.bipush 48, 2) := by decide +kernel
theorem dX9_line_29 : decode cX9_line 29 = .ok (.iload_n 3, 1) := by decide +kernel
theorem dX9_line_30 : decode cX9_line 30 = .ok (.sipush 1440, 3) := by decide +kernel
theorem dX9_line_33 : decode cX9_line 33 = .ok (.idiv, 1) := by decide +kernel
theorem dX9_line_34 : decode cX9_line 34 = .ok (.iadd, 1) := by decide +kernel
theorem dX9_line_35 : decode cX9_line 35 = .ok (.invokevirtual 141, 3) := by decide +kernel
theorem dX9_line_38 : decode cX9_line 38 = .ok (.aload_n 0, 1) := by decide +kernel
theorem dX9_line_39 : decode cX9_line 39 = .ok (.bipush 32, 2) := by decide +kernel
theorem dX9_line_41 : decode cX9_line 41 = .ok (.invokevirtual 141, 3) := by decide +kernel
theorem dX9_line_44 : decode cX9_line 44 = .ok (.aload_n 0, 1) := by decide +kernel
theorem dX9_line_45 : decode cX9_line 45 = .ok (.iload_n 3, 1) := by decide +kernel
theorem dX9_line_46 : decode cX9_line 46 = .ok (.sipush 1440, 3) := by decide +kernel
theorem dX9_line_49 : decode cX9_line 49 = .ok (.irem, 1) := by decide +kernel
theorem dX9_line_50 : decode cX9_line 50 = .ok (.bipush 60, 2) := by decide +kernel
theorem dX9_line_52 : decode cX9_line 52 = .ok (.idiv, 1) := by decide +kernel
theorem dX9_line_53 : decode cX9_line 53 = .ok (.invokevirtual 143, 3) := by decide +kernel
theorem dX9_line_56 : decode cX9_line 56 = .ok (.aload_n 0, 1) := by decide +kernel
theorem dX9_line_57 : decode cX9_line 57 = .ok (.bipush 58, 2) := by decide +kernel
theorem dX9_line_59 : decode cX9_line 59 = .ok (.invokevirtual 141, 3) := by decide +kernel
theorem dX9_line_62 : decode cX9_line 62 = .ok (.aload_n 0, 1) := by decide +kernel
theorem dX9_line_63 : decode cX9_line 63 = .ok (.iload_n 3, 1) := by decide +kernel
theorem dX9_line_64 : decode cX9_line 64 = .ok (.bipush 60, 2) := by decide +kernel
theorem dX9_line_66 : decode cX9_line 66 = .ok (.irem, 1) := by decide +kernel
theorem dX9_line_67 : decode cX9_line 67 = .ok (.invokevirtual 143, 3) := by decide +kernel
theorem dX9_line_70 : decode cX9_line 70 = .ok (.aload_n 0, 1) := by decide +kernel
theorem dX9_line_71 : decode cX9_line 71 = .ok (.bipush 32, 2) := by decide +kernel
theorem dX9_line_73 : decode cX9_line 73 = .ok (.invokevirtual 141, 3) := by decide +kernel
theorem dX9_line_76 : decode cX9_line 76 = .ok (.aload_n 0, 1) := by decide +kernel
theorem dX9_line_77 : decode cX9_line 77 = .ok (.bipush 43, 2) := by decide +kernel
theorem dX9_line_79 : decode cX9_line 79 = .ok (.invokevirtual 141, 3) := by decide +kernel
theorem dX9_line_82 : decode cX9_line 82 = .ok (.aload_n 0, 1) := by decide +kernel
theorem dX9_line_83 : decode cX9_line 83 = .ok (.aload_n 0, 1) := by decide +kernel
theorem dX9_line_84 : decode cX9_line 84 = .ok (.iload_n 1, 1) := by decide +kernel
theorem dX9_line_85 : decode cX9_line 85 = .ok (.iconst 2, 1) := by decide +kernel
theorem dX9_line_86 : decode cX9_line 86 = .ok (.invokevirtual 45, 3) := by decide +kernel
theorem dX9_line_89 : decode cX9_line 89 = .ok (.invokevirtual 146, 3) := by decide +kernel
theorem dX9_line_92 : decode cX9_line 92 = .ok (.aload_n 0, 1) := by decide +kernel
theorem dX9_line_93 : decode cX9_line 93 = .ok (.bipush 32, 2) := by decide +kernel
theorem dX9_line_95 : decode cX9_line 95 = .ok (.invokevirtual 141, 3) := by decide +kernel
theorem dX9_line_98 : decode cX9_line 98 = .ok (.aload_n 0, 1) := by decide +kernel
theorem dX9_line_99 : decode cX9_line 99 = .ok (.bipush 80, 2) := by decide +kernel
theorem dX9_line_101 : decode cX9_line 101 = .ok (.invokevirtual 141, 3) := by decide +kernel
theorem dX9_line_104 : decode cX9_line 104 = .ok (.aload_n 0, 1) := by decide +kernel
theorem dX9_line_105 : decode cX9_line 105 = .ok (.aload_n 0, 1) := by decide +kernel
theorem dX9_line_106 : decode cX9_line 106 = .ok (.iload_n 1, 1) := by decide +kernel
theorem dX9_line_107 : decode cX9_line 107 = .ok (.iconst 0, 1) := by decide +kernel
theorem dX9_line_108 : decode cX9_line 108 = .ok (.invokevirtual 45, 3) := by decide +kernel
theorem dX9_line_111 : decode cX9_line 111 = .ok (.invokevirtual 146, 3) := by decide +kernel
theorem dX9_line_114 : decode cX9_line 114 = .ok (.aload_n 0, 1) := by decide +kernel
theorem dX9_line_115 : decode cX9_line 115 = .ok (.iload_n 1, 1) := by decide +kernel
theorem dX9_line_116 : decode cX9_line 116 = .ok (.iconst 3, 1) := by decide +kernel
theorem dX9_line_117 : decode cX9_line 117 = .ok (.invokevirtual 45, 3) := by decide +kernel
theorem dX9_line_120 : decode cX9_line 120 = .ok (.iconst 1, 1) := by decide +kernel
theorem dX9_line_121 : decode cX9_line 121 = .ok (.if_icmp .ne 9, 3) := by decide +kernel
theorem dX9_line_124 : decode cX9_line 124 = .ok (.aload_n 0, 1) := by decide +kernel
theorem dX9_line_125 : decode cX9_line 125 = .ok (.bipush 33, 2) := by decide +kernel
theorem dX9_line_127 : decode cX9_line 127 = .ok (.invokevirtual 141, 3) := by decide +kernel
theorem dX9_line_130 : decode cX9_line 130 = .ok (.iload_n 2, 1) := by decide +kernel
theorem dX9_line_131 : decode cX9_line 131 = .ok (.aload_n 0, 1) := by decide +kernel
theorem dX9_line_132 : decode cX9_line 132 = .ok (.getfield 138, 3) := by decide +kernel
theorem dX9_line_135 : decode cX9_line 135 = .ok (.if_icmp .ge 12, 3) := by decide +kernel
theorem dX9_line_138 : decode cX9_line 138 = .ok (.aload_n 0, 1) := by decide +kernel
theorem dX9_line_139 : decode cX9_line 139 = .ok (.getfield 34, 3) := by decide +kernel
theorem dX9_line_142 : decode cX9_line 142 = .ok (.iload_n 2, 1) := by decide +kernel
theorem dX9_line_143 : decode cX9_line 143 = .ok (.iaload, 1) := by decide +kernel
theorem dX9_line_144 : decode cX9_line 144 = .ok (.goto 5, 3) := by decide +kernel
theorem dX9_line_147 : decode cX9_line 147 = .ok (.bipush (-9), 2) := by decide +kernel
theorem dX9_line_149 : decode cX9_line 149 = .ok (.ireturn, 1) := by decide +kernel
theorem dX9_undo_0 : decode cX9_undo 0 = .ok (.aload_n 0, 1) := by decide +kernel
theorem dX9_undo_1 : decode cX9_undo 1 = .ok (.getfield 37, 3) := by decide +kernel
theorem dX9_undo_4 : decode cX9_undo 4 = .ok (.ifCond .ne 6, 3) := by decide +kernel
theorem dX9_undo_7 : decode cX9_undo 7 = .ok (.bipush (-9), 2) := by decide +kernel
theorem dX9_undo_9 : decode cX9_undo 9 = .ok (.ireturn, 1) := by decide +kernel
theorem dX9_undo_10 : decode cX9_undo 10 = .ok (.aload_n 0, 1) := by decide +kernel
theorem dX9_undo_11 : decode cX9_undo 11 = .ok (.dup, 1) := by decide +kernel
theorem dX9_undo_12 : decode cX9_undo 12 = .ok (.getfield 37, 3) := by decide +kernel
theorem dX9_undo_15 : decode cX9_undo 15 = .ok (.iconst 1, 1) := by decide +kernel
theorem dX9_undo_16 : decode cX9_undo 16 = .ok (.isub, 1) := by decide +kernel
theorem dX9_undo_17 : decode cX9_undo 17 = .ok (.putfield 37, 3) := by decide +kernel
theorem dX9_undo_20 : decode cX9_undo 20 = .ok (.iconst 0, 1) := by decide +kernel
theorem dX9_undo_21 : decode cX9_undo 21 = .ok (.istore_n 1, 1) := by decide +kernel
theorem dX9_undo_22 : decode cX9_undo 22 = .ok (.iload_n 1, 1) := by decide +kernel
theorem dX9_undo_23 : decode cX9_undo 23 = .ok (.sipush 480, 3) := by decide +kernel
theorem dX9_undo_26 : decode cX9_undo 26 = .ok (.if_icmp .ge 30, 3) := by decide +kernel
theorem dX9_undo_29 : decode cX9_undo 29 = .ok (.aload_n 0, 1) := by decide +kernel
theorem dX9_undo_30 : decode cX9_undo 30 = .ok (.getfield 7, 3) := by decide +kernel
theorem dX9_undo_33 : decode cX9_undo 33 = .ok (.iload_n 1, 1) := by decide +kernel
theorem dX9_undo_34 : decode cX9_undo 34 = .ok (.aload_n 0, 1) := by decide +kernel
theorem dX9_undo_35 : decode cX9_undo 35 = .ok (.getfield 13, 3) := by decide +kernel
theorem dX9_undo_38 : decode cX9_undo 38 = .ok (.sipush 480, 3) := by decide +kernel
theorem dX9_undo_41 : decode cX9_undo 41 = .ok (.aload_n 0, 1) := by decide +kernel
theorem dX9_undo_42 : decode cX9_undo 42 = .ok (.getfield 37, 3) := by decide +kernel
theorem dX9_undo_45 : decode cX9_undo 45 = .ok (.imul, 1) := by decide +kernel
theorem dX9_undo_46 : decode cX9_undo 46 = .ok (.iload_n 1, 1) := by decide +kernel
theorem dX9_undo_47 : decode cX9_undo 47 = .ok (.iadd, 1) := by decide +kernel
theorem dX9_undo_48 : decode cX9_undo 48 = .ok (.iaload, 1) := by decide +kernel
theorem dX9_undo_49 : decode cX9_undo 49 = .ok (.iastore, 1) := by decide +kernel
theorem dX9_undo_50 : decode cX9_undo 50 = .ok (.iinc 1 1, 3) := by decide +kernel
theorem dX9_undo_53 : decode cX9_undo 53 = .ok (.goto (-31), 3) := by decide +kernel
theorem dX9_undo_56 : decode cX9_undo 56 = .ok (.aload_n 0, 1) := by decide +kernel
theorem dX9_undo_57 : decode cX9_undo 57 = .ok (.getfield 37, 3) := by decide +kernel
theorem dX9_undo_60 : decode cX9_undo 60 = .ok (.ireturn, 1) := by decide +kernel
theorem dX9_fingerprint_0 : decode cX9_fingerprint 0 = .ok (.ldc2_w 149, 3) := by decide +kernel
theorem dX9_fingerprint_3 : decode cX9_fingerprint 3 = .ok (.ldc2_w 149, 3) := by decide +kernel
theorem dX9_fingerprint_6 : decode cX9_fingerprint 6 = .ok (.ldc2_w 151, 3) := by decide +kernel
theorem dX9_fingerprint_9 : decode cX9_fingerprint 9 = .ok (.aload_n 0, 1) := by decide +kernel
theorem dX9_fingerprint_10 : decode cX9_fingerprint 10 = .ok (.getfield 7, 3) := by decide +kernel
theorem dX9_fingerprint_13 : decode cX9_fingerprint 13 = .ok (.iconst 0, 1) := by decide +kernel
theorem dX9_fingerprint_14 : decode cX9_fingerprint 14 = .ok (.iaload, 1) := by decide +kernel
theorem dX9_fingerprint_15 : decode cX9_fingerprint 15 = .ok (.i2l, 1) := by decide +kernel
theorem dX9_fingerprint_16 : decode cX9_fingerprint 16 = .ok (.ladd, 1) := by decide +kernel
theorem dX9_fingerprint_17 : decode cX9_fingerprint 17 = .ok (.lmul, 1) := by decide +kernel
theorem dX9_fingerprint_18 : decode cX9_fingerprint 18 = .ok (.aload_n 0, 1) := by decide +kernel
theorem dX9_fingerprint_19 : decode cX9_fingerprint 19 = .ok (.getfield 7, 3) := by decide +kernel
theorem dX9_fingerprint_22 : decode cX9_fingerprint 22 = .ok (.iconst 2, 1) := by decide +kernel
theorem dX9_fingerprint_23 : decode cX9_fingerprint 23 = .ok (.iaload, 1) := by decide +kernel
theorem dX9_fingerprint_24 : decode cX9_fingerprint 24 = .ok (.i2l, 1) := by decide +kernel
theorem dX9_fingerprint_25 : decode cX9_fingerprint 25 = .ok (.ladd, 1) := by decide +kernel
theorem dX9_fingerprint_26 : decode cX9_fingerprint 26 = .ok (.lmul, 1) := by decide +kernel
theorem dX9_fingerprint_27 : decode cX9_fingerprint 27 = .ok (.aload_n 0, 1) := by decide +kernel
theorem dX9_fingerprint_28 : decode cX9_fingerprint 28 = .ok (.getfield 7, 3) := by decide +kernel
theorem dX9_fingerprint_31 : decode cX9_fingerprint 31 = .ok (.iconst 1, 1) := by decide +kernel
theorem dX9_fingerprint_32 : decode cX9_fingerprint 32 = .ok (.iaload, 1) := by decide +kernel
theorem dX9_fingerprint_33 : decode cX9_fingerprint 33 = .ok (.i2l, 1) := by decide +kernel
theorem dX9_fingerprint_34 : decode cX9_fingerprint 34 = .ok (.ladd, 1) := by decide +kernel
theorem dX9_fingerprint_35 : decode cX9_fingerprint 35 = .ok (.lstore_n 1, 1) := by decide +kernel
theorem dX9_fingerprint_36 : decode cX9_fingerprint 36 = .ok (.ldc2_w 149, 3) := by decide +kernel
theorem dX9_fingerprint_39 : decode cX9_fingerprint 39 = .ok (.lload_n 1, 1) := by decide +kernel
theorem dX9_fingerprint_40 : decode cX9_fingerprint 40 = .ok (.lmul, 1) := by decide +kernel
theorem dX9_fingerprint_41 : decode cX9_fingerprint 41 = .ok (.aload_n 0, 1) := by decide +kernel
theorem dX9_fingerprint_42 : decode cX9_fingerprint 42 = .ok (.getfield 7, 3) := by decide +kernel
theorem dX9_fingerprint_45 : decode cX9_fingerprint 45 = .ok (.iconst 3, 1) := by decide +kernel
theorem dX9_fingerprint_46 : decode cX9_fingerprint 46 = .ok (.iaload, 1) := by decide +kernel
theorem dX9_fingerprint_47 : decode cX9_fingerprint 47 = .ok (.i2l, 1) := by decide +kernel
theorem dX9_fingerprint_48 : decode cX9_fingerprint 48 = .ok (.ladd, 1) := by decide +kernel
theorem dX9_fingerprint_49 : decode cX9_fingerprint 49 = .ok (.lstore_n 1, 1) := by decide +kernel
theorem dX9_fingerprint_50 : decode cX9_fingerprint 50 = .ok (.aload_n 0, 1) := by decide +kernel
theorem dX9_fingerprint_51 : decode cX9_fingerprint 51 = .ok (.invokevirtual 80, 3) := by decide +kernel
theorem dX9_fingerprint_54 : decode cX9_fingerprint 54 = .ok (.aload_n 0, 1) := by decide +kernel
theorem dX9_fingerprint_55 : decode cX9_fingerprint 55 = .ok (.invokevirtual 67, 3) := by decide +kernel
theorem dX9_fingerprint_58 : decode cX9_fingerprint 58 = .ok (.iconst 0, 1) := by decide +kernel
theorem dX9_fingerprint_59 : decode cX9_fingerprint 59 = .ok (.istore_n 3, 1) := by decide +kernel
theorem dX9_fingerprint_60 : decode cX9_fingerprint 60 = .ok (.iload_n 3, 1) := by decide +kernel
theorem dX9_fingerprint_61 : decode cX9_fingerprint 61 = .ok (.aload_n 0, 1) := by decide +kernel
theorem dX9_fingerprint_62 : decode cX9_fingerprint 62 = .ok (.getfield 7, 3) := by decide +kernel
theorem dX9_fingerprint_65 : decode cX9_fingerprint 65 = .ok (.iconst 3, 1) := by decide +kernel
theorem dX9_fingerprint_66 : decode cX9_fingerprint 66 = .ok (.iaload, 1) := by decide +kernel
theorem dX9_fingerprint_67 : decode cX9_fingerprint 67 = .ok (.if_icmp .ge 53, 3) := by decide +kernel
theorem dX9_fingerprint_70 : decode cX9_fingerprint 70 = .ok (.iconst 0, 1) := by decide +kernel
theorem dX9_fingerprint_71 : decode cX9_fingerprint 71 = .ok (.istore 4, 2) := by decide +kernel
theorem dX9_fingerprint_73 : decode cX9_fingerprint 73 = .ok (.iload 4, 2) := by decide +kernel
theorem dX9_fingerprint_75 : decode cX9_fingerprint 75 = .ok (.iconst 4, 1) := by decide +kernel
theorem dX9_fingerprint_76 : decode cX9_fingerprint 76 = .ok (.if_icmp .ge 24, 3) := by decide +kernel
theorem dX9_fingerprint_79 : decode cX9_fingerprint 79 = .ok (.ldc2_w 149, 3) := by decide +kernel
theorem dX9_fingerprint_82 : decode cX9_fingerprint 82 = .ok (.lload_n 1, 1) := by decide +kernel
theorem dX9_fingerprint_83 : decode cX9_fingerprint 83 = .ok (.lmul, 1) := by decide +kernel
theorem dX9_fingerprint_84 : decode cX9_fingerprint 84 = .ok (.aload_n 0, 1) := by decide +kernel
theorem dX9_fingerprint_85 : decode cX9_fingerprint 85 = .ok (.iload_n 3, 1) := by decide +kernel
theorem dX9_fingerprint_86 : decode cX9_fingerprint 86 = .ok (.iload 4, 2) := by decide +kernel
theorem dX9_fingerprint_88 : decode cX9_fingerprint 88 = .ok (.invokevirtual 45, 3) := by decide +kernel
theorem dX9_fingerprint_91 : decode cX9_fingerprint 91 = .ok (.i2l, 1) := by decide +kernel
theorem dX9_fingerprint_92 : decode cX9_fingerprint 92 = .ok (.ladd, 1) := by decide +kernel
theorem dX9_fingerprint_93 : decode cX9_fingerprint 93 = .ok (.lstore_n 1, 1) := by decide +kernel
theorem dX9_fingerprint_94 : decode cX9_fingerprint 94 = .ok (.iinc 4 1, 3) := by decide +kernel
theorem dX9_fingerprint_97 : decode cX9_fingerprint 97 = .ok (.goto (-24), 3) := by decide +kernel
theorem dX9_fingerprint_100 : decode cX9_fingerprint 100 = .ok (.ldc2_w 149, 3) := by decide +kernel
theorem dX9_fingerprint_103 : decode cX9_fingerprint 103 = .ok (.lload_n 1, 1) := by decide +kernel
theorem dX9_fingerprint_104 : decode cX9_fingerprint 104 = .ok (.lmul, 1) := by decide +kernel
theorem dX9_fingerprint_105 : decode cX9_fingerprint 105 = .ok (.aload_n 0, 1) := by decide +kernel
theorem dX9_fingerprint_106 : decode cX9_fingerprint 106 = .ok (.getfield 25, 3) := by decide +kernel
theorem dX9_fingerprint_109 : decode cX9_fingerprint 109 = .ok (.iload_n 3, 1) := by decide +kernel
theorem dX9_fingerprint_110 : decode cX9_fingerprint 110 = .ok (.iaload, 1) := by decide +kernel
theorem dX9_fingerprint_111 : decode cX9_fingerprint 111 = .ok (.i2l, 1) := by decide +kernel
theorem dX9_fingerprint_112 : decode cX9_fingerprint 112 = .ok (.ladd, 1) := by decide +kernel
theorem dX9_fingerprint_113 : decode cX9_fingerprint 113 = .ok (.lstore_n 1, 1) := by decide +kernel
theorem dX9_fingerprint_114 : decode cX9_fingerprint 114 = .ok (.iinc 3 1, 3) := by decide +kernel
theorem dX9_fingerprint_117 : decode cX9_fingerprint 117 = .ok (.goto (-57), 3) := by decide +kernel
theorem dX9_fingerprint_120 : decode cX9_fingerprint 120 = .ok (.iconst 0, 1) := by decide +kernel
theorem dX9_fingerprint_121 : decode cX9_fingerprint 121 = .ok (.istore_n 3, 1) := by decide +kernel
theorem dX9_fingerprint_122 : decode cX9_fingerprint 122 = .ok (.iload_n 3, 1) := by decide +kernel
theorem dX9_fingerprint_123 : decode cX9_fingerprint 123 = .ok (.aload_n 0, 1) := by decide +kernel
theorem dX9_fingerprint_124 : decode cX9_fingerprint 124 = .ok (.getfield 7, 3) := by decide +kernel
theorem dX9_fingerprint_127 : decode cX9_fingerprint 127 = .ok (.iconst 0, 1) := by decide +kernel
theorem dX9_fingerprint_128 : decode cX9_fingerprint 128 = .ok (.iaload, 1) := by decide +kernel
theorem dX9_fingerprint_129 : decode cX9_fingerprint 129 = .ok (.if_icmp .ge 30, 3) := by decide +kernel
theorem dX9_fingerprint_132 : decode cX9_fingerprint 132 = .ok (.ldc2_w 149, 3) := by decide +kernel
theorem dX9_fingerprint_135 : decode cX9_fingerprint 135 = .ok (.lload_n 1, 1) := by decide +kernel
theorem dX9_fingerprint_136 : decode cX9_fingerprint 136 = .ok (.lmul, 1) := by decide +kernel
theorem dX9_fingerprint_137 : decode cX9_fingerprint 137 = .ok (.aload_n 0, 1) := by decide +kernel
theorem dX9_fingerprint_138 : decode cX9_fingerprint 138 = .ok (.getfield 7, 3) := by decide +kernel
theorem dX9_fingerprint_141 : decode cX9_fingerprint 141 = .ok (.bipush 10, 2) := by decide +kernel
theorem dX9_fingerprint_143 : decode cX9_fingerprint 143 = .ok (.iconst 4, 1) := by decide +kernel
theorem dX9_fingerprint_144 : decode cX9_fingerprint 144 = .ok (.iload_n 3, 1) := by decide +kernel
theorem dX9_fingerprint_145 : decode cX9_fingerprint 145 = .ok (.imul, 1) := by decide +kernel
theorem dX9_fingerprint_146 : decode cX9_fingerprint 146 = .ok (.iadd, 1) := by decide +kernel
theorem dX9_fingerprint_147 : decode cX9_fingerprint 147 = .ok (.iconst 3, 1) := by decide +kernel
theorem dX9_fingerprint_148 : decode cX9_fingerprint 148 = .ok (.iadd, 1) := by decide +kernel
theorem dX9_fingerprint_149 : decode cX9_fingerprint 149 = .ok (.iaload, 1) := by decide +kernel
theorem dX9_fingerprint_150 : decode cX9_fingerprint 150 = .ok (.i2l, 1) := by decide +kernel
theorem dX9_fingerprint_151 : decode cX9_fingerprint 151 = .ok (.ladd, 1) := by decide +kernel
theorem dX9_fingerprint_152 : decode cX9_fingerprint 152 = .ok (.lstore_n 1, 1) := by decide +kernel
theorem dX9_fingerprint_153 : decode cX9_fingerprint 153 = .ok (.iinc 3 1, 3) := by decide +kernel
theorem dX9_fingerprint_156 : decode cX9_fingerprint 156 = .ok (.goto (-34), 3) := by decide +kernel
theorem dX9_fingerprint_159 : decode cX9_fingerprint 159 = .ok (.iconst 0, 1) := by decide +kernel
theorem dX9_fingerprint_160 : decode cX9_fingerprint 160 = .ok (.istore_n 3, 1) := by decide +kernel
theorem dX9_fingerprint_161 : decode cX9_fingerprint 161 = .ok (.iload_n 3, 1) := by decide +kernel
theorem dX9_fingerprint_162 : decode cX9_fingerprint 162 = .ok (.aload_n 0, 1) := by decide +kernel
theorem dX9_fingerprint_163 : decode cX9_fingerprint 163 = .ok (.getfield 7, 3) := by decide +kernel
theorem dX9_fingerprint_166 : decode cX9_fingerprint 166 = .ok (.iconst 2, 1) := by decide +kernel
theorem dX9_fingerprint_167 : decode cX9_fingerprint 167 = .ok (.iaload, 1) := by decide +kernel
theorem dX9_fingerprint_168 : decode cX9_fingerprint 168 = .ok (.if_icmp .ge 23, 3) := by decide +kernel
theorem dX9_fingerprint_171 : decode cX9_fingerprint 171 = .ok (.ldc2_w 149, 3) := by decide +kernel
theorem dX9_fingerprint_174 : decode cX9_fingerprint 174 = .ok (.lload_n 1, 1) := by decide +kernel
theorem dX9_fingerprint_175 : decode cX9_fingerprint 175 = .ok (.lmul, 1) := by decide +kernel
theorem dX9_fingerprint_176 : decode cX9_fingerprint 176 = .ok (.aload_n 0, 1) := by decide +kernel
theorem dX9_fingerprint_177 : decode cX9_fingerprint 177 = .ok (.getfield 28, 3) := by decide +kernel
theorem dX9_fingerprint_180 : decode cX9_fingerprint 180 = .ok (.iload_n 3, 1) := by decide +kernel
theorem dX9_fingerprint_181 : decode cX9_fingerprint 181 = .ok (.iaload, 1) := by decide +kernel
theorem dX9_fingerprint_182 : decode cX9_fingerprint 182 = .ok (.i2l, 1) := by decide +kernel
theorem dX9_fingerprint_183 : decode cX9_fingerprint 183 = .ok (.ladd, 1) := by decide +kernel
theorem dX9_fingerprint_184 : decode cX9_fingerprint 184 = .ok (.lstore_n 1, 1) := by decide +kernel
theorem dX9_fingerprint_185 : decode cX9_fingerprint 185 = .ok (.iinc 3 1, 3) := by decide +kernel
theorem dX9_fingerprint_188 : decode cX9_fingerprint 188 = .ok (.goto (-27), 3) := by decide +kernel
theorem dX9_fingerprint_191 : decode cX9_fingerprint 191 = .ok (.lload_n 1, 1) := by decide +kernel
theorem dX9_fingerprint_192 : decode cX9_fingerprint 192 = .ok (.lreturn, 1) := by decide +kernel
theorem dL_law_0 : decode code 0 = .ok (.new 7, 3) := by decide +kernel
theorem dL_law_3 : decode code 3 = .ok (.dup, 1) := by decide +kernel
theorem dL_law_4 : decode code 4 = .ok (.invokespecial 9, 3) := by decide +kernel
theorem dL_law_7 : decode code 7 = .ok (.astore_n 1, 1) := by decide +kernel
theorem dL_law_8 : decode code 8 = .ok (.new 10, 3) := by decide +kernel
theorem dL_law_11 : decode code 11 = .ok (.dup, 1) := by decide +kernel
theorem dL_law_12 : decode code 12 = .ok (.invokespecial 12, 3) := by decide +kernel
theorem dL_law_15 : decode code 15 = .ok (.astore_n 2, 1) := by decide +kernel
theorem dL_law_16 : decode code 16 = .ok (.iconst 0, 1) := by decide +kernel
theorem dL_law_17 : decode code 17 = .ok (.istore_n 3, 1) := by decide +kernel
theorem dL_law_18 : decode code 18 = .ok (.iload_n 3, 1) := by decide +kernel
theorem dL_law_19 : decode code 19 = .ok (.aload_n 0, 1) := by decide +kernel
theorem dL_law_20 : decode code 20 = .ok (.arraylength, 1) := by decide +kernel
theorem dL_law_21 : decode code 21 = .ok (.iconst 5, 1) := by decide +kernel
theorem dL_law_22 : decode code 22 = .ok (.isub, 1) := by decide +kernel
theorem dL_law_23 : decode code 23 = .ok (.if_icmp .gt 792, 3) := by decide +kernel
theorem dL_law_26 : decode code 26 = .ok (.aload_n 0, 1) := by decide +kernel
theorem dL_law_27 : decode code 27 = .ok (.iload_n 3, 1) := by decide +kernel
theorem dL_law_28 : decode code 28 = .ok (.iaload, 1) := by decide +kernel
theorem dL_law_29 : decode code 29 = .ok (.bipush 31, 2) := by decide +kernel
theorem dL_law_31 : decode code 31 = .ok (.iand, 1) := by decide +kernel
theorem dL_law_32 : decode code 32 = .ok (.tableswitch 777 0 21 #[104, 147, 200, 243, 302, 325, 358, 391, 424, 457, 470, 503, 526, 549, 582, 605, 648, 681, 704, 717, 750, 763], 104) := by decide +kernel
theorem dL_law_136 : decode code 136 = .ok (.aload_n 1, 1) := by decide +kernel
theorem dL_law_137 : decode code 137 = .ok (.aload_n 0, 1) := by decide +kernel
theorem dL_law_138 : decode code 138 = .ok (.iload_n 3, 1) := by decide +kernel
theorem dL_law_139 : decode code 139 = .ok (.iconst 1, 1) := by decide +kernel
theorem dL_law_140 : decode code 140 = .ok (.iadd, 1) := by decide +kernel
theorem dL_law_141 : decode code 141 = .ok (.iaload, 1) := by decide +kernel
theorem dL_law_142 : decode code 142 = .ok (.aload_n 0, 1) := by decide +kernel
theorem dL_law_143 : decode code 143 = .ok (.iload_n 3, 1) := by decide +kernel
theorem dL_law_144 : decode code 144 = .ok (.iconst 2, 1) := by decide +kernel
theorem dL_law_145 : decode code 145 = .ok (.iadd, 1) := by decide +kernel
theorem dL_law_146 : decode code 146 = .ok (.iaload, 1) := by decide +kernel
theorem dL_law_147 : decode code 147 = .ok (.aload_n 0, 1) := by decide +kernel
theorem dL_law_148 : decode code 148 = .ok (.iload_n 3, 1) := by decide +kernel
theorem dL_law_149 : decode code 149 = .ok (.iconst 3, 1) := by decide +kernel
theorem dL_law_150 : decode code 150 = .ok (.iadd, 1) := by decide +kernel
theorem dL_law_151 : decode code 151 = .ok (.iaload, 1) := by decide +kernel
theorem dL_law_152 : decode code 152 = .ok (.invokevirtual 13, 3) := by decide +kernel
theorem dL_law_155 : decode code 155 = .ok (.aload_n 2, 1) := by decide +kernel
theorem dL_law_156 : decode code 156 = .ok (.aload_n 0, 1) := by decide +kernel
theorem dL_law_157 : decode code 157 = .ok (.iload_n 3, 1) := by decide +kernel
theorem dL_law_158 : decode code 158 = .ok (.iconst 1, 1) := by decide +kernel
theorem dL_law_159 : decode code 159 = .ok (.iadd, 1) := by decide +kernel
theorem dL_law_160 : decode code 160 = .ok (.iaload, 1) := by decide +kernel
theorem dL_law_161 : decode code 161 = .ok (.aload_n 0, 1) := by decide +kernel
theorem dL_law_162 : decode code 162 = .ok (.iload_n 3, 1) := by decide +kernel
theorem dL_law_163 : decode code 163 = .ok (.iconst 2, 1) := by decide +kernel
theorem dL_law_164 : decode code 164 = .ok (.iadd, 1) := by decide +kernel
theorem dL_law_165 : decode code 165 = .ok (.iaload, 1) := by decide +kernel
theorem dL_law_166 : decode code 166 = .ok (.aload_n 0, 1) := by decide +kernel
theorem dL_law_167 : decode code 167 = .ok (.iload_n 3, 1) := by decide +kernel
theorem dL_law_168 : decode code 168 = .ok (.iconst 3, 1) := by decide +kernel
theorem dL_law_169 : decode code 169 = .ok (.iadd, 1) := by decide +kernel
theorem dL_law_170 : decode code 170 = .ok (.iaload, 1) := by decide +kernel
theorem dL_law_171 : decode code 171 = .ok (.invokevirtual 17, 3) := by decide +kernel
theorem dL_law_174 : decode code 174 = .ok (.if_icmp .eq 635, 3) := by decide +kernel
theorem dL_law_177 : decode code 177 = .ok (.iconst 0, 1) := by decide +kernel
theorem dL_law_178 : decode code 178 = .ok (.ireturn, 1) := by decide +kernel
theorem dL_law_179 : decode code 179 = .ok (.aload_n 1, 1) := by decide +kernel
theorem dL_law_180 : decode code 180 = .ok (.aload_n 0, 1) := by decide +kernel
theorem dL_law_181 : decode code 181 = .ok (.iload_n 3, 1) := by decide +kernel
theorem dL_law_182 : decode code 182 = .ok (.iconst 1, 1) := by decide +kernel
theorem dL_law_183 : decode code 183 = .ok (.iadd, 1) := by decide +kernel
theorem dL_law_184 : decode code 184 = .ok (.iaload, 1) := by decide +kernel
theorem dL_law_185 : decode code 185 = .ok (.aload_n 0, 1) := by decide +kernel
theorem dL_law_186 : decode code 186 = .ok (.iload_n 3, 1) := by decide +kernel
theorem dL_law_187 : decode code 187 = .ok (.iconst 2, 1) := by decide +kernel
theorem dL_law_188 : decode code 188 = .ok (.iadd, 1) := by decide +kernel
theorem dL_law_189 : decode code 189 = .ok (.iaload, 1) := by decide +kernel
theorem dL_law_190 : decode code 190 = .ok (.aload_n 0, 1) := by decide +kernel
theorem dL_law_191 : decode code 191 = .ok (.iload_n 3, 1) := by decide +kernel
theorem dL_law_192 : decode code 192 = .ok (.iconst 3, 1) := by decide +kernel
theorem dL_law_193 : decode code 193 = .ok (.iadd, 1) := by decide +kernel
theorem dL_law_194 : decode code 194 = .ok (.iaload, 1) := by decide +kernel
theorem dL_law_195 : decode code 195 = .ok (.aload_n 0, 1) := by decide +kernel
theorem dL_law_196 : decode code 196 = .ok (.iload_n 3, 1) := by decide +kernel
theorem dL_law_197 : decode code 197 = .ok (.iconst 4, 1) := by decide +kernel
theorem dL_law_198 : decode code 198 = .ok (.iadd, 1) := by decide +kernel
theorem dL_law_199 : decode code 199 = .ok (.iaload, 1) := by decide +kernel
theorem dL_law_200 : decode code 200 = .ok (.invokevirtual 18, 3) := by decide +kernel
theorem dL_law_203 : decode code 203 = .ok (.aload_n 2, 1) := by decide +kernel
theorem dL_law_204 : decode code 204 = .ok (.aload_n 0, 1) := by decide +kernel
theorem dL_law_205 : decode code 205 = .ok (.iload_n 3, 1) := by decide +kernel
theorem dL_law_206 : decode code 206 = .ok (.iconst 1, 1) := by decide +kernel
theorem dL_law_207 : decode code 207 = .ok (.iadd, 1) := by decide +kernel
theorem dL_law_208 : decode code 208 = .ok (.iaload, 1) := by decide +kernel
theorem dL_law_209 : decode code 209 = .ok (.aload_n 0, 1) := by decide +kernel
theorem dL_law_210 : decode code 210 = .ok (.iload_n 3, 1) := by decide +kernel
theorem dL_law_211 : decode code 211 = .ok (.iconst 2, 1) := by decide +kernel
theorem dL_law_212 : decode code 212 = .ok (.iadd, 1) := by decide +kernel
theorem dL_law_213 : decode code 213 = .ok (.iaload, 1) := by decide +kernel
theorem dL_law_214 : decode code 214 = .ok (.aload_n 0, 1) := by decide +kernel
theorem dL_law_215 : decode code 215 = .ok (.iload_n 3, 1) := by decide +kernel
theorem dL_law_216 : decode code 216 = .ok (.iconst 3, 1) := by decide +kernel
theorem dL_law_217 : decode code 217 = .ok (.iadd, 1) := by decide +kernel
theorem dL_law_218 : decode code 218 = .ok (.iaload, 1) := by decide +kernel
theorem dL_law_219 : decode code 219 = .ok (.aload_n 0, 1) := by decide +kernel
theorem dL_law_220 : decode code 220 = .ok (.iload_n 3, 1) := by decide +kernel
theorem dL_law_221 : decode code 221 = .ok (.iconst 4, 1) := by decide +kernel
theorem dL_law_222 : decode code 222 = .ok (.iadd, 1) := by decide +kernel
theorem dL_law_223 : decode code 223 = .ok (.iaload, 1) := by decide +kernel
theorem dL_law_224 : decode code 224 = .ok (.invokevirtual 22, 3) := by decide +kernel
theorem dL_law_227 : decode code 227 = .ok (.if_icmp .eq 582, 3) := by decide +kernel
theorem dL_law_230 : decode code 230 = .ok (.iconst 0, 1) := by decide +kernel
theorem dL_law_231 : decode code 231 = .ok (.ireturn, 1) := by decide +kernel
theorem dL_law_232 : decode code 232 = .ok (.aload_n 1, 1) := by decide +kernel
theorem dL_law_233 : decode code 233 = .ok (.aload_n 0, 1) := by decide +kernel
theorem dL_law_234 : decode code 234 = .ok (.iload_n 3, 1) := by decide +kernel
theorem dL_law_235 : decode code 235 = .ok (.iconst 1, 1) := by decide +kernel
theorem dL_law_236 : decode code 236 = .ok (.iadd, 1) := by decide +kernel
theorem dL_law_237 : decode code 237 = .ok (.iaload, 1) := by decide +kernel
theorem dL_law_238 : decode code 238 = .ok (.aload_n 0, 1) := by decide +kernel
theorem dL_law_239 : decode code 239 = .ok (.iload_n 3, 1) := by decide +kernel
theorem dL_law_240 : decode code 240 = .ok (.iconst 2, 1) := by decide +kernel
theorem dL_law_241 : decode code 241 = .ok (.iadd, 1) := by decide +kernel
theorem dL_law_242 : decode code 242 = .ok (.iaload, 1) := by decide +kernel
theorem dL_law_243 : decode code 243 = .ok (.aload_n 0, 1) := by decide +kernel
theorem dL_law_244 : decode code 244 = .ok (.iload_n 3, 1) := by decide +kernel
theorem dL_law_245 : decode code 245 = .ok (.iconst 3, 1) := by decide +kernel
theorem dL_law_246 : decode code 246 = .ok (.iadd, 1) := by decide +kernel
theorem dL_law_247 : decode code 247 = .ok (.iaload, 1) := by decide +kernel
theorem dL_law_248 : decode code 248 = .ok (.invokevirtual 23, 3) := by decide +kernel
theorem dL_law_251 : decode code 251 = .ok (.aload_n 2, 1) := by decide +kernel
theorem dL_law_252 : decode code 252 = .ok (.aload_n 0, 1) := by decide +kernel
theorem dL_law_253 : decode code 253 = .ok (.iload_n 3, 1) := by decide +kernel
theorem dL_law_254 : decode code 254 = .ok (.iconst 1, 1) := by decide +kernel
theorem dL_law_255 : decode code 255 = .ok (.iadd, 1) := by decide +kernel
theorem dL_law_256 : decode code 256 = .ok (.iaload, 1) := by decide +kernel
theorem dL_law_257 : decode code 257 = .ok (.aload_n 0, 1) := by decide +kernel
theorem dL_law_258 : decode code 258 = .ok (.iload_n 3, 1) := by decide +kernel
theorem dL_law_259 : decode code 259 = .ok (.iconst 2, 1) := by decide +kernel
theorem dL_law_260 : decode code 260 = .ok (.iadd, 1) := by decide +kernel
theorem dL_law_261 : decode code 261 = .ok (.iaload, 1) := by decide +kernel
theorem dL_law_262 : decode code 262 = .ok (.aload_n 0, 1) := by decide +kernel
theorem dL_law_263 : decode code 263 = .ok (.iload_n 3, 1) := by decide +kernel
theorem dL_law_264 : decode code 264 = .ok (.iconst 3, 1) := by decide +kernel
theorem dL_law_265 : decode code 265 = .ok (.iadd, 1) := by decide +kernel
theorem dL_law_266 : decode code 266 = .ok (.iaload, 1) := by decide +kernel
theorem dL_law_267 : decode code 267 = .ok (.invokevirtual 26, 3) := by decide +kernel
theorem dL_law_270 : decode code 270 = .ok (.if_icmp .eq 539, 3) := by decide +kernel
theorem dL_law_273 : decode code 273 = .ok (.iconst 0, 1) := by decide +kernel
theorem dL_law_274 : decode code 274 = .ok (.ireturn, 1) := by decide +kernel
theorem dL_law_275 : decode code 275 = .ok (.aload_n 1, 1) := by decide +kernel
theorem dL_law_276 : decode code 276 = .ok (.aload_n 0, 1) := by decide +kernel
theorem dL_law_277 : decode code 277 = .ok (.iload_n 3, 1) := by decide +kernel
theorem dL_law_278 : decode code 278 = .ok (.iconst 1, 1) := by decide +kernel
theorem dL_law_279 : decode code 279 = .ok (.iadd, 1) := by decide +kernel
theorem dL_law_280 : decode code 280 = .ok (.iaload, 1) := by decide +kernel
theorem dL_law_281 : decode code 281 = .ok (.aload_n 0, 1) := by decide +kernel
theorem dL_law_282 : decode code 282 = .ok (.iload_n 3, 1) := by decide +kernel
theorem dL_law_283 : decode code 283 = .ok (.iconst 2, 1) := by decide +kernel
theorem dL_law_284 : decode code 284 = .ok (.iadd, 1) := by decide +kernel
theorem dL_law_285 : decode code 285 = .ok (.iaload, 1) := by decide +kernel
theorem dL_law_286 : decode code 286 = .ok (.aload_n 0, 1) := by decide +kernel
theorem dL_law_287 : decode code 287 = .ok (.iload_n 3, 1) := by decide +kernel
theorem dL_law_288 : decode code 288 = .ok (.iconst 3, 1) := by decide +kernel
theorem dL_law_289 : decode code 289 = .ok (.iadd, 1) := by decide +kernel
theorem dL_law_290 : decode code 290 = .ok (.iaload, 1) := by decide +kernel
theorem dL_law_291 : decode code 291 = .ok (.ifCond .eq 7, 3) := by decide +kernel
theorem dL_law_294 : decode code 294 = .ok (.iconst 1, 1) := by decide +kernel
theorem dL_law_295 : decode code 295 = .ok (.goto 4, 3) := by decide +kernel
theorem dL_law_298 : decode code 298 = .ok (.iconst 0, 1) := by decide +kernel
theorem dL_law_299 : decode code 299 = .ok (.invokevirtual 27, 3) := by decide +kernel
theorem dL_law_302 : decode code 302 = .ok (.aload_n 2, 1) := by decide +kernel
theorem dL_law_303 : decode code 303 = .ok (.aload_n 0, 1) := by decide +kernel
theorem dL_law_304 : decode code 304 = .ok (.iload_n 3, 1) := by decide +kernel
theorem dL_law_305 : decode code 305 = .ok (.iconst 1, 1) := by decide +kernel
theorem dL_law_306 : decode code 306 = .ok (.iadd, 1) := by decide +kernel
theorem dL_law_307 : decode code 307 = .ok (.iaload, 1) := by decide +kernel
theorem dL_law_308 : decode code 308 = .ok (.aload_n 0, 1) := by decide +kernel
theorem dL_law_309 : decode code 309 = .ok (.iload_n 3, 1) := by decide +kernel
theorem dL_law_310 : decode code 310 = .ok (.iconst 2, 1) := by decide +kernel
theorem dL_law_311 : decode code 311 = .ok (.iadd, 1) := by decide +kernel
theorem dL_law_312 : decode code 312 = .ok (.iaload, 1) := by decide +kernel
theorem dL_law_313 : decode code 313 = .ok (.aload_n 0, 1) := by decide +kernel
theorem dL_law_314 : decode code 314 = .ok (.iload_n 3, 1) := by decide +kernel
theorem dL_law_315 : decode code 315 = .ok (.iconst 3, 1) := by decide +kernel
theorem dL_law_316 : decode code 316 = .ok (.iadd, 1) := by decide +kernel
theorem dL_law_317 : decode code 317 = .ok (.iaload, 1) := by decide +kernel
theorem dL_law_318 : decode code 318 = .ok (.ifCond .eq 7, 3) := by decide +kernel
theorem dL_law_321 : decode code 321 = .ok (.iconst 1, 1) := by decide +kernel
theorem dL_law_322 : decode code 322 = .ok (.goto 4, 3) := by decide +kernel
theorem dL_law_325 : decode code 325 = .ok (.iconst 0, 1) := by decide +kernel
theorem dL_law_326 : decode code 326 = .ok (.invokevirtual 31, 3) := by decide +kernel
theorem dL_law_329 : decode code 329 = .ok (.if_icmp .eq 480, 3) := by decide +kernel
theorem dL_law_332 : decode code 332 = .ok (.iconst 0, 1) := by decide +kernel
theorem dL_law_333 : decode code 333 = .ok (.ireturn, 1) := by decide +kernel
theorem dL_law_334 : decode code 334 = .ok (.aload_n 1, 1) := by decide +kernel
theorem dL_law_335 : decode code 335 = .ok (.aload_n 0, 1) := by decide +kernel
theorem dL_law_336 : decode code 336 = .ok (.iload_n 3, 1) := by decide +kernel
theorem dL_law_337 : decode code 337 = .ok (.iconst 1, 1) := by decide +kernel
theorem dL_law_338 : decode code 338 = .ok (.iadd, 1) := by decide +kernel
theorem dL_law_339 : decode code 339 = .ok (.iaload, 1) := by decide +kernel
theorem dL_law_340 : decode code 340 = .ok (.invokevirtual 32, 3) := by decide +kernel
theorem dL_law_343 : decode code 343 = .ok (.aload_n 2, 1) := by decide +kernel
theorem dL_law_344 : decode code 344 = .ok (.aload_n 0, 1) := by decide +kernel
theorem dL_law_345 : decode code 345 = .ok (.iload_n 3, 1) := by decide +kernel
theorem dL_law_346 : decode code 346 = .ok (.iconst 1, 1) := by decide +kernel
theorem dL_law_347 : decode code 347 = .ok (.iadd, 1) := by decide +kernel
theorem dL_law_348 : decode code 348 = .ok (.iaload, 1) := by decide +kernel
theorem dL_law_349 : decode code 349 = .ok (.invokevirtual 36, 3) := by decide +kernel
theorem dL_law_352 : decode code 352 = .ok (.if_icmp .eq 457, 3) := by decide +kernel
theorem dL_law_355 : decode code 355 = .ok (.iconst 0, 1) := by decide +kernel
theorem dL_law_356 : decode code 356 = .ok (.ireturn, 1) := by decide +kernel
theorem dL_law_357 : decode code 357 = .ok (.aload_n 1, 1) := by decide +kernel
theorem dL_law_358 : decode code 358 = .ok (.aload_n 0, 1) := by decide +kernel
theorem dL_law_359 : decode code 359 = .ok (.iload_n 3, 1) := by decide +kernel
theorem dL_law_360 : decode code 360 = .ok (.iconst 1, 1) := by decide +kernel
theorem dL_law_361 : decode code 361 = .ok (.iadd, 1) := by decide +kernel
theorem dL_law_362 : decode code 362 = .ok (.iaload, 1) := by decide +kernel
theorem dL_law_363 : decode code 363 = .ok (.aload_n 0, 1) := by decide +kernel
theorem dL_law_364 : decode code 364 = .ok (.iload_n 3, 1) := by decide +kernel
theorem dL_law_365 : decode code 365 = .ok (.iconst 2, 1) := by decide +kernel
theorem dL_law_366 : decode code 366 = .ok (.iadd, 1) := by decide +kernel
theorem dL_law_367 : decode code 367 = .ok (.iaload, 1) := by decide +kernel
theorem dL_law_368 : decode code 368 = .ok (.invokevirtual 37, 3) := by decide +kernel
theorem dL_law_371 : decode code 371 = .ok (.aload_n 2, 1) := by decide +kernel
theorem dL_law_372 : decode code 372 = .ok (.aload_n 0, 1) := by decide +kernel
theorem dL_law_373 : decode code 373 = .ok (.iload_n 3, 1) := by decide +kernel
theorem dL_law_374 : decode code 374 = .ok (.iconst 1, 1) := by decide +kernel
theorem dL_law_375 : decode code 375 = .ok (.iadd, 1) := by decide +kernel
theorem dL_law_376 : decode code 376 = .ok (.iaload, 1) := by decide +kernel
theorem dL_law_377 : decode code 377 = .ok (.aload_n 0, 1) := by decide +kernel
theorem dL_law_378 : decode code 378 = .ok (.iload_n 3, 1) := by decide +kernel
theorem dL_law_379 : decode code 379 = .ok (.iconst 2, 1) := by decide +kernel
theorem dL_law_380 : decode code 380 = .ok (.iadd, 1) := by decide +kernel
theorem dL_law_381 : decode code 381 = .ok (.iaload, 1) := by decide +kernel
theorem dL_law_382 : decode code 382 = .ok (.invokevirtual 41, 3) := by decide +kernel
theorem dL_law_385 : decode code 385 = .ok (.if_icmp .eq 424, 3) := by decide +kernel
theorem dL_law_388 : decode code 388 = .ok (.iconst 0, 1) := by decide +kernel
theorem dL_law_389 : decode code 389 = .ok (.ireturn, 1) := by decide +kernel
theorem dL_law_390 : decode code 390 = .ok (.aload_n 1, 1) := by decide +kernel
theorem dL_law_391 : decode code 391 = .ok (.aload_n 0, 1) := by decide +kernel
theorem dL_law_392 : decode code 392 = .ok (.iload_n 3, 1) := by decide +kernel
theorem dL_law_393 : decode code 393 = .ok (.iconst 1, 1) := by decide +kernel
theorem dL_law_394 : decode code 394 = .ok (.iadd, 1) := by decide +kernel
theorem dL_law_395 : decode code 395 = .ok (.iaload, 1) := by decide +kernel
theorem dL_law_396 : decode code 396 = .ok (.aload_n 0, 1) := by decide +kernel
theorem dL_law_397 : decode code 397 = .ok (.iload_n 3, 1) := by decide +kernel
theorem dL_law_398 : decode code 398 = .ok (.iconst 2, 1) := by decide +kernel
theorem dL_law_399 : decode code 399 = .ok (.iadd, 1) := by decide +kernel
theorem dL_law_400 : decode code 400 = .ok (.iaload, 1) := by decide +kernel
theorem dL_law_401 : decode code 401 = .ok (.invokevirtual 42, 3) := by decide +kernel
theorem dL_law_404 : decode code 404 = .ok (.aload_n 2, 1) := by decide +kernel
theorem dL_law_405 : decode code 405 = .ok (.aload_n 0, 1) := by decide +kernel
theorem dL_law_406 : decode code 406 = .ok (.iload_n 3, 1) := by decide +kernel
theorem dL_law_407 : decode code 407 = .ok (.iconst 1, 1) := by decide +kernel
theorem dL_law_408 : decode code 408 = .ok (.iadd, 1) := by decide +kernel
theorem dL_law_409 : decode code 409 = .ok (.iaload, 1) := by decide +kernel
theorem dL_law_410 : decode code 410 = .ok (.aload_n 0, 1) := by decide +kernel
theorem dL_law_411 : decode code 411 = .ok (.iload_n 3, 1) := by decide +kernel
theorem dL_law_412 : decode code 412 = .ok (.iconst 2, 1) := by decide +kernel
theorem dL_law_413 : decode code 413 = .ok (.iadd, 1) := by decide +kernel
theorem dL_law_414 : decode code 414 = .ok (.iaload, 1) := by decide +kernel
theorem dL_law_415 : decode code 415 = .ok (.invokevirtual 45, 3) := by decide +kernel
theorem dL_law_418 : decode code 418 = .ok (.if_icmp .eq 391, 3) := by decide +kernel
theorem dL_law_421 : decode code 421 = .ok (.iconst 0, 1) := by decide +kernel
theorem dL_law_422 : decode code 422 = .ok (.ireturn, 1) := by decide +kernel
theorem dL_law_423 : decode code 423 = .ok (.aload_n 1, 1) := by decide +kernel
theorem dL_law_424 : decode code 424 = .ok (.aload_n 0, 1) := by decide +kernel
theorem dL_law_425 : decode code 425 = .ok (.iload_n 3, 1) := by decide +kernel
theorem dL_law_426 : decode code 426 = .ok (.iconst 1, 1) := by decide +kernel
theorem dL_law_427 : decode code 427 = .ok (.iadd, 1) := by decide +kernel
theorem dL_law_428 : decode code 428 = .ok (.iaload, 1) := by decide +kernel
theorem dL_law_429 : decode code 429 = .ok (.aload_n 0, 1) := by decide +kernel
theorem dL_law_430 : decode code 430 = .ok (.iload_n 3, 1) := by decide +kernel
theorem dL_law_431 : decode code 431 = .ok (.iconst 2, 1) := by decide +kernel
theorem dL_law_432 : decode code 432 = .ok (.iadd, 1) := by decide +kernel
theorem dL_law_433 : decode code 433 = .ok (.iaload, 1) := by decide +kernel
theorem dL_law_434 : decode code 434 = .ok (.invokevirtual 46, 3) := by decide +kernel
theorem dL_law_437 : decode code 437 = .ok (.aload_n 2, 1) := by decide +kernel
theorem dL_law_438 : decode code 438 = .ok (.aload_n 0, 1) := by decide +kernel
theorem dL_law_439 : decode code 439 = .ok (.iload_n 3, 1) := by decide +kernel
theorem dL_law_440 : decode code 440 = .ok (.iconst 1, 1) := by decide +kernel
theorem dL_law_441 : decode code 441 = .ok (.iadd, 1) := by decide +kernel
theorem dL_law_442 : decode code 442 = .ok (.iaload, 1) := by decide +kernel
theorem dL_law_443 : decode code 443 = .ok (.aload_n 0, 1) := by decide +kernel
theorem dL_law_444 : decode code 444 = .ok (.iload_n 3, 1) := by decide +kernel
theorem dL_law_445 : decode code 445 = .ok (.iconst 2, 1) := by decide +kernel
theorem dL_law_446 : decode code 446 = .ok (.iadd, 1) := by decide +kernel
theorem dL_law_447 : decode code 447 = .ok (.iaload, 1) := by decide +kernel
theorem dL_law_448 : decode code 448 = .ok (.invokevirtual 49, 3) := by decide +kernel
theorem dL_law_451 : decode code 451 = .ok (.if_icmp .eq 358, 3) := by decide +kernel
theorem dL_law_454 : decode code 454 = .ok (.iconst 0, 1) := by decide +kernel
theorem dL_law_455 : decode code 455 = .ok (.ireturn, 1) := by decide +kernel
theorem dL_law_456 : decode code 456 = .ok (.aload_n 1, 1) := by decide +kernel
theorem dL_law_457 : decode code 457 = .ok (.aload_n 0, 1) := by decide +kernel
theorem dL_law_458 : decode code 458 = .ok (.iload_n 3, 1) := by decide +kernel
theorem dL_law_459 : decode code 459 = .ok (.iconst 1, 1) := by decide +kernel
theorem dL_law_460 : decode code 460 = .ok (.iadd, 1) := by decide +kernel
theorem dL_law_461 : decode code 461 = .ok (.iaload, 1) := by decide +kernel
theorem dL_law_462 : decode code 462 = .ok (.aload_n 0, 1) := by decide +kernel
theorem dL_law_463 : decode code 463 = .ok (.iload_n 3, 1) := by decide +kernel
theorem dL_law_464 : decode code 464 = .ok (.iconst 2, 1) := by decide +kernel
theorem dL_law_465 : decode code 465 = .ok (.iadd, 1) := by decide +kernel
theorem dL_law_466 : decode code 466 = .ok (.iaload, 1) := by decide +kernel
theorem dL_law_467 : decode code 467 = .ok (.invokevirtual 50, 3) := by decide +kernel
theorem dL_law_470 : decode code 470 = .ok (.aload_n 2, 1) := by decide +kernel
theorem dL_law_471 : decode code 471 = .ok (.aload_n 0, 1) := by decide +kernel
theorem dL_law_472 : decode code 472 = .ok (.iload_n 3, 1) := by decide +kernel
theorem dL_law_473 : decode code 473 = .ok (.iconst 1, 1) := by decide +kernel
theorem dL_law_474 : decode code 474 = .ok (.iadd, 1) := by decide +kernel
theorem dL_law_475 : decode code 475 = .ok (.iaload, 1) := by decide +kernel
theorem dL_law_476 : decode code 476 = .ok (.aload_n 0, 1) := by decide +kernel
theorem dL_law_477 : decode code 477 = .ok (.iload_n 3, 1) := by decide +kernel
theorem dL_law_478 : decode code 478 = .ok (.iconst 2, 1) := by decide +kernel
theorem dL_law_479 : decode code 479 = .ok (.iadd, 1) := by decide +kernel
theorem dL_law_480 : decode code 480 = .ok (.iaload, 1) := by decide +kernel
theorem dL_law_481 : decode code 481 = .ok (.invokevirtual 53, 3) := by decide +kernel
theorem dL_law_484 : decode code 484 = .ok (.if_icmp .eq 325, 3) := by decide +kernel
theorem dL_law_487 : decode code 487 = .ok (.iconst 0, 1) := by decide +kernel
theorem dL_law_488 : decode code 488 = .ok (.ireturn, 1) := by decide +kernel
theorem dL_law_489 : decode code 489 = .ok (.aload_n 1, 1) := by decide +kernel
theorem dL_law_490 : decode code 490 = .ok (.invokevirtual 54, 3) := by decide +kernel
theorem dL_law_493 : decode code 493 = .ok (.aload_n 2, 1) := by decide +kernel
theorem dL_law_494 : decode code 494 = .ok (.invokevirtual 58, 3) := by decide +kernel
theorem dL_law_497 : decode code 497 = .ok (.if_icmp .eq 312, 3) := by decide +kernel
theorem dL_law_500 : decode code 500 = .ok (.iconst 0, 1) := by decide +kernel
theorem dL_law_501 : decode code 501 = .ok (.ireturn, 1) := by decide +kernel
theorem dL_law_502 : decode code 502 = .ok (.aload_n 1, 1) := by decide +kernel
theorem dL_law_503 : decode code 503 = .ok (.aload_n 0, 1) := by decide +kernel
theorem dL_law_504 : decode code 504 = .ok (.iload_n 3, 1) := by decide +kernel
theorem dL_law_505 : decode code 505 = .ok (.iconst 1, 1) := by decide +kernel
theorem dL_law_506 : decode code 506 = .ok (.iadd, 1) := by decide +kernel
theorem dL_law_507 : decode code 507 = .ok (.iaload, 1) := by decide +kernel
theorem dL_law_508 : decode code 508 = .ok (.aload_n 0, 1) := by decide +kernel
theorem dL_law_509 : decode code 509 = .ok (.iload_n 3, 1) := by decide +kernel
theorem dL_law_510 : decode code 510 = .ok (.iconst 2, 1) := by decide +kernel
theorem dL_law_511 : decode code 511 = .ok (.iadd, 1) := by decide +kernel
theorem dL_law_512 : decode code 512 = .ok (.iaload, 1) := by decide +kernel
theorem dL_law_513 : decode code 513 = .ok (.invokevirtual 59, 3) := by decide +kernel
theorem dL_law_516 : decode code 516 = .ok (.aload_n 2, 1) := by decide +kernel
theorem dL_law_517 : decode code 517 = .ok (.aload_n 0, 1) := by decide +kernel
theorem dL_law_518 : decode code 518 = .ok (.iload_n 3, 1) := by decide +kernel
theorem dL_law_519 : decode code 519 = .ok (.iconst 1, 1) := by decide +kernel
theorem dL_law_520 : decode code 520 = .ok (.iadd, 1) := by decide +kernel
theorem dL_law_521 : decode code 521 = .ok (.iaload, 1) := by decide +kernel
theorem dL_law_522 : decode code 522 = .ok (.aload_n 0, 1) := by decide +kernel
theorem dL_law_523 : decode code 523 = .ok (.iload_n 3, 1) := by decide +kernel
theorem dL_law_524 : decode code 524 = .ok (.iconst 2, 1) := by decide +kernel
theorem dL_law_525 : decode code 525 = .ok (.iadd, 1) := by decide +kernel
theorem dL_law_526 : decode code 526 = .ok (.iaload, 1) := by decide +kernel
theorem dL_law_527 : decode code 527 = .ok (.invokevirtual 62, 3) := by decide +kernel
theorem dL_law_530 : decode code 530 = .ok (.if_icmp .eq 279, 3) := by decide +kernel
theorem dL_law_533 : decode code 533 = .ok (.iconst 0, 1) := by decide +kernel
theorem dL_law_534 : decode code 534 = .ok (.ireturn, 1) := by decide +kernel
theorem dL_law_535 : decode code 535 = .ok (.aload_n 1, 1) := by decide +kernel
theorem dL_law_536 : decode code 536 = .ok (.aload_n 0, 1) := by decide +kernel
theorem dL_law_537 : decode code 537 = .ok (.iload_n 3, 1) := by decide +kernel
theorem dL_law_538 : decode code 538 = .ok (.iconst 1, 1) := by decide +kernel
theorem dL_law_539 : decode code 539 = .ok (.iadd, 1) := by decide +kernel
theorem dL_law_540 : decode code 540 = .ok (.iaload, 1) := by decide +kernel
theorem dL_law_541 : decode code 541 = .ok (.invokevirtual 63, 3) := by decide +kernel
theorem dL_law_544 : decode code 544 = .ok (.aload_n 2, 1) := by decide +kernel
theorem dL_law_545 : decode code 545 = .ok (.aload_n 0, 1) := by decide +kernel
theorem dL_law_546 : decode code 546 = .ok (.iload_n 3, 1) := by decide +kernel
theorem dL_law_547 : decode code 547 = .ok (.iconst 1, 1) := by decide +kernel
theorem dL_law_548 : decode code 548 = .ok (.iadd, 1) := by decide +kernel
theorem dL_law_549 : decode code 549 = .ok (.iaload, 1) := by decide +kernel
theorem dL_law_550 : decode code 550 = .ok (.invokevirtual 66, 3) := by decide +kernel
theorem dL_law_553 : decode code 553 = .ok (.if_icmp .eq 256, 3) := by decide +kernel
theorem dL_law_556 : decode code 556 = .ok (.iconst 0, 1) := by decide +kernel
theorem dL_law_557 : decode code 557 = .ok (.ireturn, 1) := by decide +kernel
theorem dL_law_558 : decode code 558 = .ok (.aload_n 1, 1) := by decide +kernel
theorem dL_law_559 : decode code 559 = .ok (.aload_n 0, 1) := by decide +kernel
theorem dL_law_560 : decode code 560 = .ok (.iload_n 3, 1) := by decide +kernel
theorem dL_law_561 : decode code 561 = .ok (.iconst 1, 1) := by decide +kernel
theorem dL_law_562 : decode code 562 = .ok (.iadd, 1) := by decide +kernel
theorem dL_law_563 : decode code 563 = .ok (.iaload, 1) := by decide +kernel
theorem dL_law_564 : decode code 564 = .ok (.invokevirtual 67, 3) := by decide +kernel
theorem dL_law_567 : decode code 567 = .ok (.aload_n 2, 1) := by decide +kernel
theorem dL_law_568 : decode code 568 = .ok (.aload_n 0, 1) := by decide +kernel
theorem dL_law_569 : decode code 569 = .ok (.iload_n 3, 1) := by decide +kernel
theorem dL_law_570 : decode code 570 = .ok (.iconst 1, 1) := by decide +kernel
theorem dL_law_571 : decode code 571 = .ok (.iadd, 1) := by decide +kernel
theorem dL_law_572 : decode code 572 = .ok (.iaload, 1) := by decide +kernel
theorem dL_law_573 : decode code 573 = .ok (.invokevirtual 70, 3) := by decide +kernel
theorem dL_law_576 : decode code 576 = .ok (.if_icmp .eq 233, 3) := by decide +kernel
theorem dL_law_579 : decode code 579 = .ok (.iconst 0, 1) := by decide +kernel
theorem dL_law_580 : decode code 580 = .ok (.ireturn, 1) := by decide +kernel
theorem dL_law_581 : decode code 581 = .ok (.aload_n 1, 1) := by decide +kernel
theorem dL_law_582 : decode code 582 = .ok (.aload_n 0, 1) := by decide +kernel
theorem dL_law_583 : decode code 583 = .ok (.iload_n 3, 1) := by decide +kernel
theorem dL_law_584 : decode code 584 = .ok (.iconst 1, 1) := by decide +kernel
theorem dL_law_585 : decode code 585 = .ok (.iadd, 1) := by decide +kernel
theorem dL_law_586 : decode code 586 = .ok (.iaload, 1) := by decide +kernel
theorem dL_law_587 : decode code 587 = .ok (.aload_n 0, 1) := by decide +kernel
theorem dL_law_588 : decode code 588 = .ok (.iload_n 3, 1) := by decide +kernel
theorem dL_law_589 : decode code 589 = .ok (.iconst 2, 1) := by decide +kernel
theorem dL_law_590 : decode code 590 = .ok (.iadd, 1) := by decide +kernel
theorem dL_law_591 : decode code 591 = .ok (.iaload, 1) := by decide +kernel
theorem dL_law_592 : decode code 592 = .ok (.invokevirtual 71, 3) := by decide +kernel
theorem dL_law_595 : decode code 595 = .ok (.aload_n 2, 1) := by decide +kernel
theorem dL_law_596 : decode code 596 = .ok (.aload_n 0, 1) := by decide +kernel
theorem dL_law_597 : decode code 597 = .ok (.iload_n 3, 1) := by decide +kernel
theorem dL_law_598 : decode code 598 = .ok (.iconst 1, 1) := by decide +kernel
theorem dL_law_599 : decode code 599 = .ok (.iadd, 1) := by decide +kernel
theorem dL_law_600 : decode code 600 = .ok (.iaload, 1) := by decide +kernel
theorem dL_law_601 : decode code 601 = .ok (.aload_n 0, 1) := by decide +kernel
theorem dL_law_602 : decode code 602 = .ok (.iload_n 3, 1) := by decide +kernel
theorem dL_law_603 : decode code 603 = .ok (.iconst 2, 1) := by decide +kernel
theorem dL_law_604 : decode code 604 = .ok (.iadd, 1) := by decide +kernel
theorem dL_law_605 : decode code 605 = .ok (.iaload, 1) := by decide +kernel
theorem dL_law_606 : decode code 606 = .ok (.invokevirtual 74, 3) := by decide +kernel
theorem dL_law_609 : decode code 609 = .ok (.if_icmp .eq 200, 3) := by decide +kernel
theorem dL_law_612 : decode code 612 = .ok (.iconst 0, 1) := by decide +kernel
theorem dL_law_613 : decode code 613 = .ok (.ireturn, 1) := by decide +kernel
theorem dL_law_614 : decode code 614 = .ok (.aload_n 1, 1) := by decide +kernel
theorem dL_law_615 : decode code 615 = .ok (.aload_n 0, 1) := by decide +kernel
theorem dL_law_616 : decode code 616 = .ok (.iload_n 3, 1) := by decide +kernel
theorem dL_law_617 : decode code 617 = .ok (.iconst 1, 1) := by decide +kernel
theorem dL_law_618 : decode code 618 = .ok (.iadd, 1) := by decide +kernel
theorem dL_law_619 : decode code 619 = .ok (.iaload, 1) := by decide +kernel
theorem dL_law_620 : decode code 620 = .ok (.invokevirtual 75, 3) := by decide +kernel
theorem dL_law_623 : decode code 623 = .ok (.aload_n 2, 1) := by decide +kernel
theorem dL_law_624 : decode code 624 = .ok (.aload_n 0, 1) := by decide +kernel
theorem dL_law_625 : decode code 625 = .ok (.iload_n 3, 1) := by decide +kernel
theorem dL_law_626 : decode code 626 = .ok (.iconst 1, 1) := by decide +kernel
theorem dL_law_627 : decode code 627 = .ok (.iadd, 1) := by decide +kernel
theorem dL_law_628 : decode code 628 = .ok (.iaload, 1) := by decide +kernel
theorem dL_law_629 : decode code 629 = .ok (.invokevirtual 78, 3) := by decide +kernel
theorem dL_law_632 : decode code 632 = .ok (.if_icmp .eq 177, 3) := by decide +kernel
theorem dL_law_635 : decode code 635 = .ok (.iconst 0, 1) := by decide +kernel
theorem dL_law_636 : decode code 636 = .ok (.ireturn, 1) := by decide +kernel
theorem dL_law_637 : decode code 637 = .ok (.aload_n 1, 1) := by decide +kernel
theorem dL_law_638 : decode code 638 = .ok (.aload_n 0, 1) := by decide +kernel
theorem dL_law_639 : decode code 639 = .ok (.iload_n 3, 1) := by decide +kernel
theorem dL_law_640 : decode code 640 = .ok (.iconst 1, 1) := by decide +kernel
theorem dL_law_641 : decode code 641 = .ok (.iadd, 1) := by decide +kernel
theorem dL_law_642 : decode code 642 = .ok (.iaload, 1) := by decide +kernel
theorem dL_law_643 : decode code 643 = .ok (.aload_n 0, 1) := by decide +kernel
theorem dL_law_644 : decode code 644 = .ok (.iload_n 3, 1) := by decide +kernel
theorem dL_law_645 : decode code 645 = .ok (.iconst 2, 1) := by decide +kernel
theorem dL_law_646 : decode code 646 = .ok (.iadd, 1) := by decide +kernel
theorem dL_law_647 : decode code 647 = .ok (.iaload, 1) := by decide +kernel
theorem dL_law_648 : decode code 648 = .ok (.aload_n 0, 1) := by decide +kernel
theorem dL_law_649 : decode code 649 = .ok (.iload_n 3, 1) := by decide +kernel
theorem dL_law_650 : decode code 650 = .ok (.iconst 3, 1) := by decide +kernel
theorem dL_law_651 : decode code 651 = .ok (.iadd, 1) := by decide +kernel
theorem dL_law_652 : decode code 652 = .ok (.iaload, 1) := by decide +kernel
theorem dL_law_653 : decode code 653 = .ok (.invokevirtual 79, 3) := by decide +kernel
theorem dL_law_656 : decode code 656 = .ok (.aload_n 2, 1) := by decide +kernel
theorem dL_law_657 : decode code 657 = .ok (.aload_n 0, 1) := by decide +kernel
theorem dL_law_658 : decode code 658 = .ok (.iload_n 3, 1) := by decide +kernel
theorem dL_law_659 : decode code 659 = .ok (.iconst 1, 1) := by decide +kernel
theorem dL_law_660 : decode code 660 = .ok (.iadd, 1) := by decide +kernel
theorem dL_law_661 : decode code 661 = .ok (.iaload, 1) := by decide +kernel
theorem dL_law_662 : decode code 662 = .ok (.aload_n 0, 1) := by decide +kernel
theorem dL_law_663 : decode code 663 = .ok (.iload_n 3, 1) := by decide +kernel
theorem dL_law_664 : decode code 664 = .ok (.iconst 2, 1) := by decide +kernel
theorem dL_law_665 : decode code 665 = .ok (.iadd, 1) := by decide +kernel
theorem dL_law_666 : decode code 666 = .ok (.iaload, 1) := by decide +kernel
theorem dL_law_667 : decode code 667 = .ok (.aload_n 0, 1) := by decide +kernel
theorem dL_law_668 : decode code 668 = .ok (.iload_n 3, 1) := by decide +kernel
theorem dL_law_669 : decode code 669 = .ok (.iconst 3, 1) := by decide +kernel
theorem dL_law_670 : decode code 670 = .ok (.iadd, 1) := by decide +kernel
theorem dL_law_671 : decode code 671 = .ok (.iaload, 1) := by decide +kernel
theorem dL_law_672 : decode code 672 = .ok (.invokevirtual 82, 3) := by decide +kernel
theorem dL_law_675 : decode code 675 = .ok (.if_icmp .eq 134, 3) := by decide +kernel
theorem dL_law_678 : decode code 678 = .ok (.iconst 0, 1) := by decide +kernel
theorem dL_law_679 : decode code 679 = .ok (.ireturn, 1) := by decide +kernel
theorem dL_law_680 : decode code 680 = .ok (.aload_n 1, 1) := by decide +kernel
theorem dL_law_681 : decode code 681 = .ok (.aload_n 0, 1) := by decide +kernel
theorem dL_law_682 : decode code 682 = .ok (.iload_n 3, 1) := by decide +kernel
theorem dL_law_683 : decode code 683 = .ok (.iconst 1, 1) := by decide +kernel
theorem dL_law_684 : decode code 684 = .ok (.iadd, 1) := by decide +kernel
theorem dL_law_685 : decode code 685 = .ok (.iaload, 1) := by decide +kernel
theorem dL_law_686 : decode code 686 = .ok (.aload_n 0, 1) := by decide +kernel
theorem dL_law_687 : decode code 687 = .ok (.iload_n 3, 1) := by decide +kernel
theorem dL_law_688 : decode code 688 = .ok (.iconst 2, 1) := by decide +kernel
theorem dL_law_689 : decode code 689 = .ok (.iadd, 1) := by decide +kernel
theorem dL_law_690 : decode code 690 = .ok (.iaload, 1) := by decide +kernel
theorem dL_law_691 : decode code 691 = .ok (.invokevirtual 83, 3) := by decide +kernel
theorem dL_law_694 : decode code 694 = .ok (.aload_n 2, 1) := by decide +kernel
theorem dL_law_695 : decode code 695 = .ok (.aload_n 0, 1) := by decide +kernel
theorem dL_law_696 : decode code 696 = .ok (.iload_n 3, 1) := by decide +kernel
theorem dL_law_697 : decode code 697 = .ok (.iconst 1, 1) := by decide +kernel
theorem dL_law_698 : decode code 698 = .ok (.iadd, 1) := by decide +kernel
theorem dL_law_699 : decode code 699 = .ok (.iaload, 1) := by decide +kernel
theorem dL_law_700 : decode code 700 = .ok (.aload_n 0, 1) := by decide +kernel
theorem dL_law_701 : decode code 701 = .ok (.iload_n 3, 1) := by decide +kernel
theorem dL_law_702 : decode code 702 = .ok (.iconst 2, 1) := by decide +kernel
theorem dL_law_703 : decode code 703 = .ok (.iadd, 1) := by decide +kernel
theorem dL_law_704 : decode code 704 = .ok (.iaload, 1) := by decide +kernel
theorem dL_law_705 : decode code 705 = .ok (.invokevirtual 86, 3) := by decide +kernel
theorem dL_law_708 : decode code 708 = .ok (.if_icmp .eq 101, 3) := by decide +kernel
theorem dL_law_711 : decode code 711 = .ok (.iconst 0, 1) := by decide +kernel
theorem dL_law_712 : decode code 712 = .ok (.ireturn, 1) := by decide +kernel
theorem dL_law_713 : decode code 713 = .ok (.aload_n 1, 1) := by decide +kernel
theorem dL_law_714 : decode code 714 = .ok (.aload_n 0, 1) := by decide +kernel
theorem dL_law_715 : decode code 715 = .ok (.iload_n 3, 1) := by decide +kernel
theorem dL_law_716 : decode code 716 = .ok (.iconst 1, 1) := by decide +kernel
theorem dL_law_717 : decode code 717 = .ok (.iadd, 1) := by decide +kernel
theorem dL_law_718 : decode code 718 = .ok (.iaload, 1) := by decide +kernel
theorem dL_law_719 : decode code 719 = .ok (.invokevirtual 87, 3) := by decide +kernel
theorem dL_law_722 : decode code 722 = .ok (.aload_n 2, 1) := by decide +kernel
theorem dL_law_723 : decode code 723 = .ok (.aload_n 0, 1) := by decide +kernel
theorem dL_law_724 : decode code 724 = .ok (.iload_n 3, 1) := by decide +kernel
theorem dL_law_725 : decode code 725 = .ok (.iconst 1, 1) := by decide +kernel
theorem dL_law_726 : decode code 726 = .ok (.iadd, 1) := by decide +kernel
theorem dL_law_727 : decode code 727 = .ok (.iaload, 1) := by decide +kernel
theorem dL_law_728 : decode code 728 = .ok (.invokevirtual 90, 3) := by decide +kernel
theorem dL_law_731 : decode code 731 = .ok (.if_icmp .eq 78, 3) := by decide +kernel
theorem dL_law_734 : decode code 734 = .ok (.iconst 0, 1) := by decide +kernel
theorem dL_law_735 : decode code 735 = .ok (.ireturn, 1) := by decide +kernel
theorem dL_law_736 : decode code 736 = .ok (.aload_n 1, 1) := by decide +kernel
theorem dL_law_737 : decode code 737 = .ok (.invokevirtual 91, 3) := by decide +kernel
theorem dL_law_740 : decode code 740 = .ok (.aload_n 2, 1) := by decide +kernel
theorem dL_law_741 : decode code 741 = .ok (.invokevirtual 94, 3) := by decide +kernel
theorem dL_law_744 : decode code 744 = .ok (.if_icmp .eq 65, 3) := by decide +kernel
theorem dL_law_747 : decode code 747 = .ok (.iconst 0, 1) := by decide +kernel
theorem dL_law_748 : decode code 748 = .ok (.ireturn, 1) := by decide +kernel
theorem dL_law_749 : decode code 749 = .ok (.aload_n 1, 1) := by decide +kernel
theorem dL_law_750 : decode code 750 = .ok (.aload_n 0, 1) := by decide +kernel
theorem dL_law_751 : decode code 751 = .ok (.iload_n 3, 1) := by decide +kernel
theorem dL_law_752 : decode code 752 = .ok (.iconst 1, 1) := by decide +kernel
theorem dL_law_753 : decode code 753 = .ok (.iadd, 1) := by decide +kernel
theorem dL_law_754 : decode code 754 = .ok (.iaload, 1) := by decide +kernel
theorem dL_law_755 : decode code 755 = .ok (.aload_n 0, 1) := by decide +kernel
theorem dL_law_756 : decode code 756 = .ok (.iload_n 3, 1) := by decide +kernel
theorem dL_law_757 : decode code 757 = .ok (.iconst 2, 1) := by decide +kernel
theorem dL_law_758 : decode code 758 = .ok (.iadd, 1) := by decide +kernel
theorem dL_law_759 : decode code 759 = .ok (.iaload, 1) := by decide +kernel
theorem dL_law_760 : decode code 760 = .ok (.invokevirtual 95, 3) := by decide +kernel
theorem dL_law_763 : decode code 763 = .ok (.aload_n 2, 1) := by decide +kernel
theorem dL_law_764 : decode code 764 = .ok (.aload_n 0, 1) := by decide +kernel
theorem dL_law_765 : decode code 765 = .ok (.iload_n 3, 1) := by decide +kernel
theorem dL_law_766 : decode code 766 = .ok (.iconst 1, 1) := by decide +kernel
theorem dL_law_767 : decode code 767 = .ok (.iadd, 1) := by decide +kernel
theorem dL_law_768 : decode code 768 = .ok (.iaload, 1) := by decide +kernel
theorem dL_law_769 : decode code 769 = .ok (.aload_n 0, 1) := by decide +kernel
theorem dL_law_770 : decode code 770 = .ok (.iload_n 3, 1) := by decide +kernel
theorem dL_law_771 : decode code 771 = .ok (.iconst 2, 1) := by decide +kernel
theorem dL_law_772 : decode code 772 = .ok (.iadd, 1) := by decide +kernel
theorem dL_law_773 : decode code 773 = .ok (.iaload, 1) := by decide +kernel
theorem dL_law_774 : decode code 774 = .ok (.invokevirtual 98, 3) := by decide +kernel
theorem dL_law_777 : decode code 777 = .ok (.if_icmp .eq 32, 3) := by decide +kernel
theorem dL_law_780 : decode code 780 = .ok (.iconst 0, 1) := by decide +kernel
theorem dL_law_781 : decode code 781 = .ok (.ireturn, 1) := by decide +kernel
theorem dL_law_782 : decode code 782 = .ok (.aload_n 1, 1) := by decide +kernel
theorem dL_law_783 : decode code 783 = .ok (.invokevirtual 99, 3) := by decide +kernel
theorem dL_law_786 : decode code 786 = .ok (.aload_n 2, 1) := by decide +kernel
theorem dL_law_787 : decode code 787 = .ok (.invokevirtual 102, 3) := by decide +kernel
theorem dL_law_790 : decode code 790 = .ok (.if_icmp .eq 19, 3) := by decide +kernel
theorem dL_law_793 : decode code 793 = .ok (.iconst 0, 1) := by decide +kernel
theorem dL_law_794 : decode code 794 = .ok (.ireturn, 1) := by decide +kernel
theorem dL_law_795 : decode code 795 = .ok (.aload_n 1, 1) := by decide +kernel
theorem dL_law_796 : decode code 796 = .ok (.invokevirtual 103, 3) := by decide +kernel
theorem dL_law_799 : decode code 799 = .ok (.aload_n 2, 1) := by decide +kernel
theorem dL_law_800 : decode code 800 = .ok (.invokevirtual 107, 3) := by decide +kernel
theorem dL_law_803 : decode code 803 = .ok (.lcmp, 1) := by decide +kernel
theorem dL_law_804 : decode code 804 = .ok (.ifCond .eq 5, 3) := by decide +kernel
theorem dL_law_807 : decode code 807 = .ok (.iconst 0, 1) := by decide +kernel
theorem dL_law_808 : decode code 808 = .ok (.ireturn, 1) := by decide +kernel
theorem dL_law_809 : decode code 809 = .ok (.iinc 3 5, 3) := by decide +kernel
theorem dL_law_812 : decode code 812 = .ok (.goto (-794), 3) := by decide +kernel
theorem dL_law_815 : decode code 815 = .ok (.iconst 1, 1) := by decide +kernel
theorem dL_law_816 : decode code 816 = .ok (.ireturn, 1) := by decide +kernel
theorem dJ4_init_da8c8_0 : decode cJ4_init_da8c8 0 = .ok (.aload_n 0, 1) := by decide +kernel
theorem dJ4_init_da8c8_1 : decode cJ4_init_da8c8 1 = .ok (.bipush 16, 2) := by decide +kernel
theorem dJ4_init_da8c8_3 : decode cJ4_init_da8c8 3 = .ok (.invokespecial 1, 3) := by decide +kernel
theorem dJ4_init_da8c8_6 : decode cJ4_init_da8c8 6 = .ok (.return_, 1) := by decide +kernel
theorem dJ4_append_15ec4_0 : decode cJ4_append_15ec4 0 = .ok (.aload_n 0, 1) := by decide +kernel
theorem dJ4_append_15ec4_1 : decode cJ4_append_15ec4 1 = .ok (.aload_n 1, 1) := by decide +kernel
theorem dJ4_append_15ec4_2 : decode cJ4_append_15ec4 2 = .ok (.invokespecial 29, 3) := by decide +kernel
theorem dJ4_append_15ec4_5 : decode cJ4_append_15ec4 5 = .ok (.pop, 1) := by decide +kernel
theorem dJ4_append_15ec4_6 : decode cJ4_append_15ec4 6 = .ok (.aload_n 0, 1) := by decide +kernel
theorem dJ4_append_15ec4_7 : decode cJ4_append_15ec4 7 = .ok (.areturn, 1) := by decide +kernel
theorem dJ4_append_cf468_0 : decode cJ4_append_cf468 0 = .ok (.aload_n 0, 1) := by decide +kernel
theorem dJ4_append_cf468_1 : decode cJ4_append_cf468 1 = .ok (.iload_n 1, 1) := by decide +kernel
theorem dJ4_append_cf468_2 : decode cJ4_append_cf468 2 = .ok (.invokespecial 50, 3) := by decide +kernel
theorem dJ4_append_cf468_5 : decode cJ4_append_cf468 5 = .ok (.pop, 1) := by decide +kernel
theorem dJ4_append_cf468_6 : decode cJ4_append_cf468 6 = .ok (.aload_n 0, 1) := by decide +kernel
theorem dJ4_append_cf468_7 : decode cJ4_append_cf468 7 = .ok (.areturn, 1) := by decide +kernel
theorem dJ4_append_bf812_0 : decode cJ4_append_bf812 0 = .ok (.aload_n 0, 1) := by decide +kernel
theorem dJ4_append_bf812_1 : decode cJ4_append_bf812 1 = .ok (.iload_n 1, 1) := by decide +kernel
theorem dJ4_append_bf812_2 : decode cJ4_append_bf812 2 = .ok (.invokespecial 53, 3) := by decide +kernel
theorem dJ4_append_bf812_5 : decode cJ4_append_bf812 5 = .ok (.pop, 1) := by decide +kernel
theorem dJ4_append_bf812_6 : decode cJ4_append_bf812 6 = .ok (.aload_n 0, 1) := by decide +kernel
theorem dJ4_append_bf812_7 : decode cJ4_append_bf812 7 = .ok (.areturn, 1) := by decide +kernel
theorem dJ4_charAt_5068e_0 : decode cJ4_charAt_5068e 0 = .ok (.aload_n 0, 1) := by decide +kernel
theorem dJ4_charAt_5068e_1 : decode cJ4_charAt_5068e 1 = .ok (.iload_n 1, 1) := by decide +kernel
theorem dJ4_charAt_5068e_2 : decode cJ4_charAt_5068e 2 = .ok (.invokespecial 329, 3) := by decide +kernel
theorem dJ4_charAt_5068e_5 : decode cJ4_charAt_5068e 5 = .ok (.ireturn, 1) := by decide +kernel
theorem dJ4_setLength_d00df_0 : decode cJ4_setLength_d00df 0 = .ok (.aload_n 0, 1) := by decide +kernel
theorem dJ4_setLength_d00df_1 : decode cJ4_setLength_d00df 1 = .ok (.iload_n 1, 1) := by decide +kernel
theorem dJ4_setLength_d00df_2 : decode cJ4_setLength_d00df 2 = .ok (.invokespecial 333, 3) := by decide +kernel
theorem dJ4_setLength_d00df_5 : decode cJ4_setLength_d00df 5 = .ok (.return_, 1) := by decide +kernel
theorem dJ4_length_8abf5_0 : decode cJ4_length_8abf5 0 = .ok (.aload_n 0, 1) := by decide +kernel
theorem dJ4_length_8abf5_1 : decode cJ4_length_8abf5 1 = .ok (.invokespecial 343, 3) := by decide +kernel
theorem dJ4_length_8abf5_4 : decode cJ4_length_8abf5 4 = .ok (.ireturn, 1) := by decide +kernel
theorem dJ5_init_d00df_0 : decode cJ5_init_d00df 0 = .ok (.aload_n 0, 1) := by decide +kernel
theorem dJ5_init_d00df_1 : decode cJ5_init_d00df 1 = .ok (.invokespecial 3, 3) := by decide +kernel
theorem dJ5_init_d00df_4 : decode cJ5_init_d00df 4 = .ok (.getstatic 18, 3) := by decide +kernel
theorem dJ5_init_d00df_7 : decode cJ5_init_d00df 7 = .ok (.ifCond .eq 18, 3) := by decide +kernel
theorem dJ5_init_d00df_10 : decode cJ5_init_d00df 10 = .ok (.aload_n 0, 1) := by decide +kernel
theorem dJ5_init_d00df_11 : decode cJ5_init_d00df 11 = .ok (.iload_n 1, 1) := by decide +kernel
theorem dJ5_init_d00df_12 : decode cJ5_init_d00df 12 = .ok (.newarray .byte, 2) := by decide +kernel
theorem dJ5_init_d00df_14 : decode cJ5_init_d00df 14 = .ok (.putfield 15, 3) := by decide +kernel
theorem dJ5_init_d00df_17 : decode cJ5_init_d00df 17 = .ok (.aload_n 0, 1) := by decide +kernel
theorem dJ5_init_d00df_18 : decode cJ5_init_d00df 18 = .ok (.iconst 0, 1) := by decide +kernel
theorem dJ5_init_d00df_19 : decode cJ5_init_d00df 19 = .ok (.putfield 22, 3) := by decide +kernel
theorem dJ5_init_d00df_22 : decode cJ5_init_d00df 22 = .ok (.goto 16, 3) := by decide +kernel
theorem dJ5_init_d00df_25 : decode cJ5_init_d00df 25 = .ok (.aload_n 0, 1) := by decide +kernel
theorem dJ5_init_d00df_26 : decode cJ5_init_d00df 26 = .ok (.iload_n 1, 1) := by decide +kernel
theorem dJ5_init_d00df_27 : decode cJ5_init_d00df 27 = .ok (.invokestatic 26, 3) := by decide +kernel
theorem dJ5_init_d00df_30 : decode cJ5_init_d00df 30 = .ok (.putfield 15, 3) := by decide +kernel
theorem dJ5_init_d00df_33 : decode cJ5_init_d00df 33 = .ok (.aload_n 0, 1) := by decide +kernel
theorem dJ5_init_d00df_34 : decode cJ5_init_d00df 34 = .ok (.iconst 1, 1) := by decide +kernel
theorem dJ5_init_d00df_35 : decode cJ5_init_d00df 35 = .ok (.putfield 22, 3) := by decide +kernel
theorem dJ5_init_d00df_38 : decode cJ5_init_d00df 38 = .ok (.return_, 1) := by decide +kernel
theorem dJ5_length_8abf5_0 : decode cJ5_length_8abf5 0 = .ok (.aload_n 0, 1) := by decide +kernel
theorem dJ5_length_8abf5_1 : decode cJ5_length_8abf5 1 = .ok (.getfield 79, 3) := by decide +kernel
theorem dJ5_length_8abf5_4 : decode cJ5_length_8abf5 4 = .ok (.ireturn, 1) := by decide +kernel
theorem dJ5_ensureCapacityInternal_d00df_0 : decode cJ5_ensureCapacityInternal_d00df 0 = .ok (.aload_n 0, 1) := by decide +kernel
theorem dJ5_ensureCapacityInternal_d00df_1 : decode cJ5_ensureCapacityInternal_d00df 1 = .ok (.getfield 15, 3) := by decide +kernel
theorem dJ5_ensureCapacityInternal_d00df_4 : decode cJ5_ensureCapacityInternal_d00df 4 = .ok (.arraylength, 1) := by decide +kernel
theorem dJ5_ensureCapacityInternal_d00df_5 : decode cJ5_ensureCapacityInternal_d00df 5 = .ok (.aload_n 0, 1) := by decide +kernel
theorem dJ5_ensureCapacityInternal_d00df_6 : decode cJ5_ensureCapacityInternal_d00df 6 = .ok (.getfield 22, 3) := by decide +kernel
theorem dJ5_ensureCapacityInternal_d00df_9 : decode cJ5_ensureCapacityInternal_d00df 9 = .ok (.ishr, 1) := by decide +kernel
theorem dJ5_ensureCapacityInternal_d00df_10 : decode cJ5_ensureCapacityInternal_d00df 10 = .ok (.istore_n 2, 1) := by decide +kernel
theorem dJ5_ensureCapacityInternal_d00df_11 : decode cJ5_ensureCapacityInternal_d00df 11 = .ok (.iload_n 1, 1) := by decide +kernel
theorem dJ5_ensureCapacityInternal_d00df_12 : decode cJ5_ensureCapacityInternal_d00df 12 = .ok (.iload_n 2, 1) := by decide +kernel
theorem dJ5_ensureCapacityInternal_d00df_13 : decode cJ5_ensureCapacityInternal_d00df 13 = .ok (.isub, 1) := by decide +kernel
theorem dJ5_ensureCapacityInternal_d00df_14 : decode cJ5_ensureCapacityInternal_d00df 14 = .ok (.ifCond .le 24, 3) := by decide +kernel
theorem dJ5_ensureCapacityInternal_d00df_17 : decode cJ5_ensureCapacityInternal_d00df 17 = .ok (.aload_n 0, 1) := by decide +kernel
theorem dJ5_ensureCapacityInternal_d00df_18 : decode cJ5_ensureCapacityInternal_d00df 18 = .ok (.aload_n 0, 1) := by decide +kernel
theorem dJ5_ensureCapacityInternal_d00df_19 : decode cJ5_ensureCapacityInternal_d00df 19 = .ok (.getfield 15, 3) := by decide +kernel
theorem dJ5_ensureCapacityInternal_d00df_22 : decode cJ5_ensureCapacityInternal_d00df 22 = .ok (.aload_n 0, 1) := by decide +kernel
theorem dJ5_ensureCapacityInternal_d00df_23 : decode cJ5_ensureCapacityInternal_d00df 23 = .ok (.iload_n 1, 1) := by decide +kernel
theorem dJ5_ensureCapacityInternal_d00df_24 : decode cJ5_ensureCapacityInternal_d00df 24 = .ok (.invokevirtual 104, 3) := by decide +kernel
theorem dJ5_ensureCapacityInternal_d00df_27 : decode cJ5_ensureCapacityInternal_d00df 27 = .ok (.aload_n 0, 1) := by decide +kernel
theorem dJ5_ensureCapacityInternal_d00df_28 : decode cJ5_ensureCapacityInternal_d00df 28 = .ok (.getfield 22, 3) := by decide +kernel
theorem dJ5_ensureCapacityInternal_d00df_31 : decode cJ5_ensureCapacityInternal_d00df 31 = .ok (.ishl, 1) := by decide +kernel
theorem dJ5_ensureCapacityInternal_d00df_32 : decode cJ5_ensureCapacityInternal_d00df 32 = .ok (.invokestatic 108, 3) := by decide +kernel
theorem dJ5_ensureCapacityInternal_d00df_35 : decode cJ5_ensureCapacityInternal_d00df 35 = .ok (.putfield 15, 3) := by decide +kernel
theorem dJ5_ensureCapacityInternal_d00df_38 : decode cJ5_ensureCapacityInternal_d00df 38 = .ok (.return_, 1) := by decide +kernel
theorem dJ5_newCapacity_0f7a4_0 : decode cJ5_newCapacity_0f7a4 0 = .ok (.aload_n 0, 1) := by decide +kernel
theorem dJ5_newCapacity_0f7a4_1 : decode cJ5_newCapacity_0f7a4 1 = .ok (.getfield 15, 3) := by decide +kernel
theorem dJ5_newCapacity_0f7a4_4 : decode cJ5_newCapacity_0f7a4 4 = .ok (.arraylength, 1) := by decide +kernel
theorem dJ5_newCapacity_0f7a4_5 : decode cJ5_newCapacity_0f7a4 5 = .ok (.istore_n 2, 1) := by decide +kernel
theorem dJ5_newCapacity_0f7a4_6 : decode cJ5_newCapacity_0f7a4 6 = .ok (.iload_n 1, 1) := by decide +kernel
theorem dJ5_newCapacity_0f7a4_7 : decode cJ5_newCapacity_0f7a4 7 = .ok (.aload_n 0, 1) := by decide +kernel
theorem dJ5_newCapacity_0f7a4_8 : decode cJ5_newCapacity_0f7a4 8 = .ok (.getfield 22, 3) := by decide +kernel
theorem dJ5_newCapacity_0f7a4_11 : decode cJ5_newCapacity_0f7a4 11 = .ok (.ishl, 1) := by decide +kernel
theorem dJ5_newCapacity_0f7a4_12 : decode cJ5_newCapacity_0f7a4 12 = .ok (.istore_n 3, 1) := by decide +kernel
theorem dJ5_newCapacity_0f7a4_13 : decode cJ5_newCapacity_0f7a4 13 = .ok (.iload_n 3, 1) := by decide +kernel
theorem dJ5_newCapacity_0f7a4_14 : decode cJ5_newCapacity_0f7a4 14 = .ok (.iload_n 2, 1) := by decide +kernel
theorem dJ5_newCapacity_0f7a4_15 : decode cJ5_newCapacity_0f7a4 15 = .ok (.isub, 1) := by decide +kernel
theorem dJ5_newCapacity_0f7a4_16 : decode cJ5_newCapacity_0f7a4 16 = .ok (.istore 4, 2) := by decide +kernel
theorem dJ5_newCapacity_0f7a4_18 : decode cJ5_newCapacity_0f7a4 18 = .ok (.iload_n 2, 1) := by decide +kernel
theorem dJ5_newCapacity_0f7a4_19 : decode cJ5_newCapacity_0f7a4 19 = .ok (.iload 4, 2) := by decide +kernel
theorem dJ5_newCapacity_0f7a4_21 : decode cJ5_newCapacity_0f7a4 21 = .ok (.iload_n 2, 1) := by decide +kernel
theorem dJ5_newCapacity_0f7a4_22 : decode cJ5_newCapacity_0f7a4 22 = .ok (.iconst 2, 1) := by decide +kernel
theorem dJ5_newCapacity_0f7a4_23 : decode cJ5_newCapacity_0f7a4 23 = .ok (.aload_n 0, 1) := by decide +kernel
theorem dJ5_newCapacity_0f7a4_24 : decode cJ5_newCapacity_0f7a4 24 = .ok (.getfield 22, 3) := by decide +kernel
theorem dJ5_newCapacity_0f7a4_27 : decode cJ5_newCapacity_0f7a4 27 = .ok (.ishl, 1) := by decide +kernel
theorem dJ5_newCapacity_0f7a4_28 : decode cJ5_newCapacity_0f7a4 28 = .ok (.iadd, 1) := by decide +kernel
theorem dJ5_newCapacity_0f7a4_29 : decode cJ5_newCapacity_0f7a4 29 = .ok (.invokestatic 114, 3) := by decide +kernel
theorem dJ5_newCapacity_0f7a4_32 : decode cJ5_newCapacity_0f7a4 32 = .ok (.istore 5, 2) := by decide +kernel
theorem dJ5_newCapacity_0f7a4_34 : decode cJ5_newCapacity_0f7a4 34 = .ok (.iload 5, 2) := by decide +kernel
theorem dJ5_newCapacity_0f7a4_36 : decode cJ5_newCapacity_0f7a4 36 = .ok (.ldc 39, 2) := by decide +kernel
theorem dJ5_newCapacity_0f7a4_38 : decode cJ5_newCapacity_0f7a4 38 = .ok (.if_icmp .ne 13, 3) := by decide +kernel
theorem dJ5_newCapacity_0f7a4_41 : decode cJ5_newCapacity_0f7a4 41 = .ok (.new 120, 3) := by decide +kernel
theorem dJ5_newCapacity_0f7a4_44 : decode cJ5_newCapacity_0f7a4 44 = .ok (.dup, 1) := by decide +kernel
theorem dJ5_newCapacity_0f7a4_45 : decode cJ5_newCapacity_0f7a4 45 = .ok (.ldc 122, 2) := by decide +kernel
theorem dJ5_newCapacity_0f7a4_47 : decode cJ5_newCapacity_0f7a4 47 = .ok (.invokespecial 124, 3) := by decide +kernel
theorem dJ5_newCapacity_0f7a4_50 : decode cJ5_newCapacity_0f7a4 50 = .ok (.athrow, 1) := by decide +kernel
theorem dJ5_newCapacity_0f7a4_51 : decode cJ5_newCapacity_0f7a4 51 = .ok (.iload 5, 2) := by decide +kernel
theorem dJ5_newCapacity_0f7a4_53 : decode cJ5_newCapacity_0f7a4 53 = .ok (.aload_n 0, 1) := by decide +kernel
theorem dJ5_newCapacity_0f7a4_54 : decode cJ5_newCapacity_0f7a4 54 = .ok (.getfield 22, 3) := by decide +kernel
theorem dJ5_newCapacity_0f7a4_57 : decode cJ5_newCapacity_0f7a4 57 = .ok (.ishr, 1) := by decide +kernel
theorem dJ5_newCapacity_0f7a4_58 : decode cJ5_newCapacity_0f7a4 58 = .ok (.ireturn, 1) := by decide +kernel
theorem dJ5_setLength_d00df_0 : decode cJ5_setLength_d00df 0 = .ok (.iload_n 1, 1) := by decide +kernel
theorem dJ5_setLength_d00df_1 : decode cJ5_setLength_d00df 1 = .ok (.ifCond .ge 12, 3) := by decide +kernel
theorem dJ5_setLength_d00df_4 : decode cJ5_setLength_d00df 4 = .ok (.new 129, 3) := by decide +kernel
theorem dJ5_setLength_d00df_7 : decode cJ5_setLength_d00df 7 = .ok (.dup, 1) := by decide +kernel
theorem dJ5_setLength_d00df_8 : decode cJ5_setLength_d00df 8 = .ok (.iload_n 1, 1) := by decide +kernel
theorem dJ5_setLength_d00df_9 : decode cJ5_setLength_d00df 9 = .ok (.invokespecial 131, 3) := by decide +kernel
theorem dJ5_setLength_d00df_12 : decode cJ5_setLength_d00df 12 = .ok (.athrow, 1) := by decide +kernel
theorem dJ5_setLength_d00df_13 : decode cJ5_setLength_d00df 13 = .ok (.aload_n 0, 1) := by decide +kernel
theorem dJ5_setLength_d00df_14 : decode cJ5_setLength_d00df 14 = .ok (.iload_n 1, 1) := by decide +kernel
theorem dJ5_setLength_d00df_15 : decode cJ5_setLength_d00df 15 = .ok (.invokevirtual 100, 3) := by decide +kernel
theorem dJ5_setLength_d00df_18 : decode cJ5_setLength_d00df 18 = .ok (.aload_n 0, 1) := by decide +kernel
theorem dJ5_setLength_d00df_19 : decode cJ5_setLength_d00df 19 = .ok (.getfield 79, 3) := by decide +kernel
theorem dJ5_setLength_d00df_22 : decode cJ5_setLength_d00df 22 = .ok (.iload_n 1, 1) := by decide +kernel
theorem dJ5_setLength_d00df_23 : decode cJ5_setLength_d00df 23 = .ok (.if_icmp .ge 40, 3) := by decide +kernel
theorem dJ5_setLength_d00df_26 : decode cJ5_setLength_d00df 26 = .ok (.aload_n 0, 1) := by decide +kernel
theorem dJ5_setLength_d00df_27 : decode cJ5_setLength_d00df 27 = .ok (.invokevirtual 83, 3) := by decide +kernel
theorem dJ5_setLength_d00df_30 : decode cJ5_setLength_d00df 30 = .ok (.ifCond .eq 18, 3) := by decide +kernel
theorem dJ5_setLength_d00df_33 : decode cJ5_setLength_d00df 33 = .ok (.aload_n 0, 1) := by decide +kernel
theorem dJ5_setLength_d00df_34 : decode cJ5_setLength_d00df 34 = .ok (.getfield 15, 3) := by decide +kernel
theorem dJ5_setLength_d00df_37 : decode cJ5_setLength_d00df 37 = .ok (.aload_n 0, 1) := by decide +kernel
theorem dJ5_setLength_d00df_38 : decode cJ5_setLength_d00df 38 = .ok (.getfield 79, 3) := by decide +kernel
theorem dJ5_setLength_d00df_41 : decode cJ5_setLength_d00df 41 = .ok (.iload_n 1, 1) := by decide +kernel
theorem dJ5_setLength_d00df_42 : decode cJ5_setLength_d00df 42 = .ok (.invokestatic 133, 3) := by decide +kernel
theorem dJ5_setLength_d00df_45 : decode cJ5_setLength_d00df 45 = .ok (.goto 31, 3) := by decide +kernel
theorem dJ5_setLength_d00df_48 : decode cJ5_setLength_d00df 48 = .ok (.aload_n 0, 1) := by decide +kernel
theorem dJ5_setLength_d00df_49 : decode cJ5_setLength_d00df 49 = .ok (.getfield 15, 3) := by decide +kernel
theorem dJ5_setLength_d00df_52 : decode cJ5_setLength_d00df 52 = .ok (.aload_n 0, 1) := by decide +kernel
theorem dJ5_setLength_d00df_53 : decode cJ5_setLength_d00df 53 = .ok (.getfield 79, 3) := by decide +kernel
theorem dJ5_setLength_d00df_56 : decode cJ5_setLength_d00df 56 = .ok (.iload_n 1, 1) := by decide +kernel
theorem dJ5_setLength_d00df_57 : decode cJ5_setLength_d00df 57 = .ok (.invokestatic 137, 3) := by decide +kernel
theorem dJ5_setLength_d00df_60 : decode cJ5_setLength_d00df 60 = .ok (.goto 16, 3) := by decide +kernel
theorem dJ5_setLength_d00df_63 : decode cJ5_setLength_d00df 63 = .ok (.aload_n 0, 1) := by decide +kernel
theorem dJ5_setLength_d00df_64 : decode cJ5_setLength_d00df 64 = .ok (.getfield 79, 3) := by decide +kernel
theorem dJ5_setLength_d00df_67 : decode cJ5_setLength_d00df 67 = .ok (.iload_n 1, 1) := by decide +kernel
theorem dJ5_setLength_d00df_68 : decode cJ5_setLength_d00df 68 = .ok (.if_icmp .le 8, 3) := by decide +kernel
theorem dJ5_setLength_d00df_71 : decode cJ5_setLength_d00df 71 = .ok (.aload_n 0, 1) := by decide +kernel
theorem dJ5_setLength_d00df_72 : decode cJ5_setLength_d00df 72 = .ok (.iconst 1, 1) := by decide +kernel
theorem dJ5_setLength_d00df_73 : decode cJ5_setLength_d00df 73 = .ok (.putfield 73, 3) := by decide +kernel
theorem dJ5_setLength_d00df_76 : decode cJ5_setLength_d00df 76 = .ok (.aload_n 0, 1) := by decide +kernel
theorem dJ5_setLength_d00df_77 : decode cJ5_setLength_d00df 77 = .ok (.iload_n 1, 1) := by decide +kernel
theorem dJ5_setLength_d00df_78 : decode cJ5_setLength_d00df 78 = .ok (.putfield 79, 3) := by decide +kernel
theorem dJ5_setLength_d00df_81 : decode cJ5_setLength_d00df 81 = .ok (.return_, 1) := by decide +kernel
theorem dJ5_charAt_5068e_0 : decode cJ5_charAt_5068e 0 = .ok (.aload_n 0, 1) := by decide +kernel
theorem dJ5_charAt_5068e_1 : decode cJ5_charAt_5068e 1 = .ok (.getfield 22, 3) := by decide +kernel
theorem dJ5_charAt_5068e_4 : decode cJ5_charAt_5068e 4 = .ok (.istore_n 2, 1) := by decide +kernel
theorem dJ5_charAt_5068e_5 : decode cJ5_charAt_5068e 5 = .ok (.aload_n 0, 1) := by decide +kernel
theorem dJ5_charAt_5068e_6 : decode cJ5_charAt_5068e 6 = .ok (.getfield 15, 3) := by decide +kernel
theorem dJ5_charAt_5068e_9 : decode cJ5_charAt_5068e 9 = .ok (.astore_n 3, 1) := by decide +kernel
theorem dJ5_charAt_5068e_10 : decode cJ5_charAt_5068e 10 = .ok (.aload_n 0, 1) := by decide +kernel
theorem dJ5_charAt_5068e_11 : decode cJ5_charAt_5068e 11 = .ok (.getfield 79, 3) := by decide +kernel
theorem dJ5_charAt_5068e_14 : decode cJ5_charAt_5068e 14 = .ok (.aload_n 3, 1) := by decide +kernel
theorem dJ5_charAt_5068e_15 : decode cJ5_charAt_5068e 15 = .ok (.arraylength, 1) := by decide +kernel
theorem dJ5_charAt_5068e_16 : decode cJ5_charAt_5068e 16 = .ok (.iload_n 2, 1) := by decide +kernel
theorem dJ5_charAt_5068e_17 : decode cJ5_charAt_5068e 17 = .ok (.ishr, 1) := by decide +kernel
theorem dJ5_charAt_5068e_18 : decode cJ5_charAt_5068e 18 = .ok (.invokestatic 138, 3) := by decide +kernel
theorem dJ5_charAt_5068e_21 : decode cJ5_charAt_5068e 21 = .ok (.istore 4, 2) := by decide +kernel
theorem dJ5_charAt_5068e_23 : decode cJ5_charAt_5068e 23 = .ok (.iload_n 1, 1) := by decide +kernel
theorem dJ5_charAt_5068e_24 : decode cJ5_charAt_5068e 24 = .ok (.iload 4, 2) := by decide +kernel
theorem dJ5_charAt_5068e_26 : decode cJ5_charAt_5068e 26 = .ok (.invokestatic 144, 3) := by decide +kernel
theorem dJ5_charAt_5068e_29 : decode cJ5_charAt_5068e 29 = .ok (.iload_n 2, 1) := by decide +kernel
theorem dJ5_charAt_5068e_30 : decode cJ5_charAt_5068e 30 = .ok (.ifCond .ne 12, 3) := by decide +kernel
theorem dJ5_charAt_5068e_33 : decode cJ5_charAt_5068e 33 = .ok (.aload_n 3, 1) := by decide +kernel
theorem dJ5_charAt_5068e_34 : decode cJ5_charAt_5068e 34 = .ok (.iload_n 1, 1) := by decide +kernel
theorem dJ5_charAt_5068e_35 : decode cJ5_charAt_5068e 35 = .ok (.baload, 1) := by decide +kernel
theorem dJ5_charAt_5068e_36 : decode cJ5_charAt_5068e 36 = .ok (.sipush 255, 3) := by decide +kernel
theorem dJ5_charAt_5068e_39 : decode cJ5_charAt_5068e 39 = .ok (.iand, 1) := by decide +kernel
theorem dJ5_charAt_5068e_40 : decode cJ5_charAt_5068e 40 = .ok (.i2c, 1) := by decide +kernel
theorem dJ5_charAt_5068e_41 : decode cJ5_charAt_5068e 41 = .ok (.ireturn, 1) := by decide +kernel
theorem dJ5_charAt_5068e_42 : decode cJ5_charAt_5068e 42 = .ok (.aload_n 3, 1) := by decide +kernel
theorem dJ5_charAt_5068e_43 : decode cJ5_charAt_5068e 43 = .ok (.iload_n 1, 1) := by decide +kernel
theorem dJ5_charAt_5068e_44 : decode cJ5_charAt_5068e 44 = .ok (.invokestatic 148, 3) := by decide +kernel
theorem dJ5_charAt_5068e_47 : decode cJ5_charAt_5068e 47 = .ok (.ireturn, 1) := by decide +kernel
theorem dJ5_append_cf1ce_0 : decode cJ5_append_cf1ce 0 = .ok (.aload_n 1, 1) := by decide +kernel
theorem dJ5_append_cf1ce_1 : decode cJ5_append_cf1ce 1 = .ok (.ifnonnull 8, 3) := by decide +kernel
theorem dJ5_append_cf1ce_4 : decode cJ5_append_cf1ce 4 = .ok (.aload_n 0, 1) := by decide +kernel
theorem dJ5_append_cf1ce_5 : decode cJ5_append_cf1ce 5 = .ok (.invokevirtual 204, 3) := by decide +kernel
theorem dJ5_append_cf1ce_8 : decode cJ5_append_cf1ce 8 = .ok (.areturn, 1) := by decide +kernel
theorem dJ5_append_cf1ce_9 : decode cJ5_append_cf1ce 9 = .ok (.aload_n 1, 1) := by decide +kernel
theorem dJ5_append_cf1ce_10 : decode cJ5_append_cf1ce 10 = .ok (.invokevirtual 32, 3) := by decide +kernel
theorem dJ5_append_cf1ce_13 : decode cJ5_append_cf1ce 13 = .ok (.istore_n 2, 1) := by decide +kernel
theorem dJ5_append_cf1ce_14 : decode cJ5_append_cf1ce 14 = .ok (.aload_n 0, 1) := by decide +kernel
theorem dJ5_append_cf1ce_15 : decode cJ5_append_cf1ce 15 = .ok (.aload_n 0, 1) := by decide +kernel
theorem dJ5_append_cf1ce_16 : decode cJ5_append_cf1ce 16 = .ok (.getfield 79, 3) := by decide +kernel
theorem dJ5_append_cf1ce_19 : decode cJ5_append_cf1ce 19 = .ok (.iload_n 2, 1) := by decide +kernel
theorem dJ5_append_cf1ce_20 : decode cJ5_append_cf1ce 20 = .ok (.iadd, 1) := by decide +kernel
theorem dJ5_append_cf1ce_21 : decode cJ5_append_cf1ce 21 = .ok (.invokevirtual 100, 3) := by decide +kernel
theorem dJ5_append_cf1ce_24 : decode cJ5_append_cf1ce 24 = .ok (.aload_n 0, 1) := by decide +kernel
theorem dJ5_append_cf1ce_25 : decode cJ5_append_cf1ce 25 = .ok (.aload_n 0, 1) := by decide +kernel
theorem dJ5_append_cf1ce_26 : decode cJ5_append_cf1ce 26 = .ok (.getfield 79, 3) := by decide +kernel
theorem dJ5_append_cf1ce_29 : decode cJ5_append_cf1ce 29 = .ok (.aload_n 1, 1) := by decide +kernel
theorem dJ5_append_cf1ce_30 : decode cJ5_append_cf1ce 30 = .ok (.invokevirtual 208, 3) := by decide +kernel
theorem dJ5_append_cf1ce_33 : decode cJ5_append_cf1ce 33 = .ok (.aload_n 0, 1) := by decide +kernel
theorem dJ5_append_cf1ce_34 : decode cJ5_append_cf1ce 34 = .ok (.dup, 1) := by decide +kernel
theorem dJ5_append_cf1ce_35 : decode cJ5_append_cf1ce 35 = .ok (.getfield 79, 3) := by decide +kernel
theorem dJ5_append_cf1ce_38 : decode cJ5_append_cf1ce 38 = .ok (.iload_n 2, 1) := by decide +kernel
theorem dJ5_append_cf1ce_39 : decode cJ5_append_cf1ce 39 = .ok (.iadd, 1) := by decide +kernel
theorem dJ5_append_cf1ce_40 : decode cJ5_append_cf1ce 40 = .ok (.putfield 79, 3) := by decide +kernel
theorem dJ5_append_cf1ce_43 : decode cJ5_append_cf1ce 43 = .ok (.aload_n 0, 1) := by decide +kernel
theorem dJ5_append_cf1ce_44 : decode cJ5_append_cf1ce 44 = .ok (.areturn, 1) := by decide +kernel
theorem dJ5_append_3fe6f_0 : decode cJ5_append_3fe6f 0 = .ok (.aload_n 0, 1) := by decide +kernel
theorem dJ5_append_3fe6f_1 : decode cJ5_append_3fe6f 1 = .ok (.aload_n 0, 1) := by decide +kernel
theorem dJ5_append_3fe6f_2 : decode cJ5_append_3fe6f 2 = .ok (.getfield 79, 3) := by decide +kernel
theorem dJ5_append_3fe6f_5 : decode cJ5_append_3fe6f 5 = .ok (.iconst 1, 1) := by decide +kernel
theorem dJ5_append_3fe6f_6 : decode cJ5_append_3fe6f 6 = .ok (.iadd, 1) := by decide +kernel
theorem dJ5_append_3fe6f_7 : decode cJ5_append_3fe6f 7 = .ok (.invokevirtual 100, 3) := by decide +kernel
theorem dJ5_append_3fe6f_10 : decode cJ5_append_3fe6f 10 = .ok (.aload_n 0, 1) := by decide +kernel
theorem dJ5_append_3fe6f_11 : decode cJ5_append_3fe6f 11 = .ok (.invokevirtual 83, 3) := by decide +kernel
theorem dJ5_append_3fe6f_14 : decode cJ5_append_3fe6f 14 = .ok (.ifCond .eq 31, 3) := by decide +kernel
theorem dJ5_append_3fe6f_17 : decode cJ5_append_3fe6f 17 = .ok (.iload_n 1, 1) := by decide +kernel
theorem dJ5_append_3fe6f_18 : decode cJ5_append_3fe6f 18 = .ok (.invokestatic 191, 3) := by decide +kernel
theorem dJ5_append_3fe6f_21 : decode cJ5_append_3fe6f 21 = .ok (.ifCond .eq 24, 3) := by decide +kernel
theorem dJ5_append_3fe6f_24 : decode cJ5_append_3fe6f 24 = .ok (.aload_n 0, 1) := by decide +kernel
theorem dJ5_append_3fe6f_25 : decode cJ5_append_3fe6f 25 = .ok (.getfield 15, 3) := by decide +kernel
theorem dJ5_append_3fe6f_28 : decode cJ5_append_3fe6f 28 = .ok (.aload_n 0, 1) := by decide +kernel
theorem dJ5_append_3fe6f_29 : decode cJ5_append_3fe6f 29 = .ok (.dup, 1) := by decide +kernel
theorem dJ5_append_3fe6f_30 : decode cJ5_append_3fe6f 30 = .ok (.getfield 79, 3) := by decide +kernel
theorem dJ5_append_3fe6f_33 : decode cJ5_append_3fe6f 33 = .ok (.dup_x1, 1) := by decide +kernel
theorem dJ5_append_3fe6f_34 : decode cJ5_append_3fe6f 34 = .ok (.iconst 1, 1) := by decide +kernel
theorem dJ5_append_3fe6f_35 : decode cJ5_append_3fe6f 35 = .ok (.iadd, 1) := by decide +kernel
theorem dJ5_append_3fe6f_36 : decode cJ5_append_3fe6f 36 = .ok (.putfield 79, 3) := by decide +kernel
theorem dJ5_append_3fe6f_39 : decode cJ5_append_3fe6f 39 = .ok (.iload_n 1, 1) := by decide +kernel
theorem dJ5_append_3fe6f_40 : decode cJ5_append_3fe6f 40 = .ok (.i2b, 1) := by decide +kernel
theorem dJ5_append_3fe6f_41 : decode cJ5_append_3fe6f 41 = .ok (.bastore, 1) := by decide +kernel
theorem dJ5_append_3fe6f_42 : decode cJ5_append_3fe6f 42 = .ok (.goto 33, 3) := by decide +kernel
theorem dJ5_append_3fe6f_45 : decode cJ5_append_3fe6f 45 = .ok (.aload_n 0, 1) := by decide +kernel
theorem dJ5_append_3fe6f_46 : decode cJ5_append_3fe6f 46 = .ok (.invokevirtual 83, 3) := by decide +kernel
theorem dJ5_append_3fe6f_49 : decode cJ5_append_3fe6f 49 = .ok (.ifCond .eq 7, 3) := by decide +kernel
theorem dJ5_append_3fe6f_52 : decode cJ5_append_3fe6f 52 = .ok (.aload_n 0, 1) := by decide +kernel
theorem dJ5_append_3fe6f_53 : decode cJ5_append_3fe6f 53 = .ok (.invokevirtual 195, 3) := by decide +kernel
theorem dJ5_append_3fe6f_56 : decode cJ5_append_3fe6f 56 = .ok (.aload_n 0, 1) := by decide +kernel
theorem dJ5_append_3fe6f_57 : decode cJ5_append_3fe6f 57 = .ok (.getfield 15, 3) := by decide +kernel
theorem dJ5_append_3fe6f_60 : decode cJ5_append_3fe6f 60 = .ok (.aload_n 0, 1) := by decide +kernel
theorem dJ5_append_3fe6f_61 : decode cJ5_append_3fe6f 61 = .ok (.dup, 1) := by decide +kernel
theorem dJ5_append_3fe6f_62 : decode cJ5_append_3fe6f 62 = .ok (.getfield 79, 3) := by decide +kernel
theorem dJ5_append_3fe6f_65 : decode cJ5_append_3fe6f 65 = .ok (.dup_x1, 1) := by decide +kernel
theorem dJ5_append_3fe6f_66 : decode cJ5_append_3fe6f 66 = .ok (.iconst 1, 1) := by decide +kernel
theorem dJ5_append_3fe6f_67 : decode cJ5_append_3fe6f 67 = .ok (.iadd, 1) := by decide +kernel
theorem dJ5_append_3fe6f_68 : decode cJ5_append_3fe6f 68 = .ok (.putfield 79, 3) := by decide +kernel
theorem dJ5_append_3fe6f_71 : decode cJ5_append_3fe6f 71 = .ok (.iload_n 1, 1) := by decide +kernel
theorem dJ5_append_3fe6f_72 : decode cJ5_append_3fe6f 72 = .ok (.invokestatic 197, 3) := by decide +kernel
theorem dJ5_append_3fe6f_75 : decode cJ5_append_3fe6f 75 = .ok (.aload_n 0, 1) := by decide +kernel
theorem dJ5_append_3fe6f_76 : decode cJ5_append_3fe6f 76 = .ok (.areturn, 1) := by decide +kernel
theorem dJ5_append_c97b9_0 : decode cJ5_append_c97b9 0 = .ok (.aload_n 0, 1) := by decide +kernel
theorem dJ5_append_c97b9_1 : decode cJ5_append_c97b9 1 = .ok (.getfield 79, 3) := by decide +kernel
theorem dJ5_append_c97b9_4 : decode cJ5_append_c97b9 4 = .ok (.istore_n 2, 1) := by decide +kernel
theorem dJ5_append_c97b9_5 : decode cJ5_append_c97b9 5 = .ok (.iload_n 2, 1) := by decide +kernel
theorem dJ5_append_c97b9_6 : decode cJ5_append_c97b9 6 = .ok (.iload_n 1, 1) := by decide +kernel
theorem dJ5_append_c97b9_7 : decode cJ5_append_c97b9 7 = .ok (.invokestatic 245, 3) := by decide +kernel
theorem dJ5_append_c97b9_10 : decode cJ5_append_c97b9 10 = .ok (.iadd, 1) := by decide +kernel
theorem dJ5_append_c97b9_11 : decode cJ5_append_c97b9 11 = .ok (.istore_n 3, 1) := by decide +kernel
theorem dJ5_append_c97b9_12 : decode cJ5_append_c97b9 12 = .ok (.aload_n 0, 1) := by decide +kernel
theorem dJ5_append_c97b9_13 : decode cJ5_append_c97b9 13 = .ok (.iload_n 3, 1) := by decide +kernel
theorem dJ5_append_c97b9_14 : decode cJ5_append_c97b9 14 = .ok (.invokevirtual 100, 3) := by decide +kernel
theorem dJ5_append_c97b9_17 : decode cJ5_append_c97b9 17 = .ok (.aload_n 0, 1) := by decide +kernel
theorem dJ5_append_c97b9_18 : decode cJ5_append_c97b9 18 = .ok (.invokevirtual 83, 3) := by decide +kernel
theorem dJ5_append_c97b9_21 : decode cJ5_append_c97b9 21 = .ok (.ifCond .eq 16, 3) := by decide +kernel
theorem dJ5_append_c97b9_24 : decode cJ5_append_c97b9 24 = .ok (.iload_n 1, 1) := by decide +kernel
theorem dJ5_append_c97b9_25 : decode cJ5_append_c97b9 25 = .ok (.iload_n 3, 1) := by decide +kernel
theorem dJ5_append_c97b9_26 : decode cJ5_append_c97b9 26 = .ok (.aload_n 0, 1) := by decide +kernel
theorem dJ5_append_c97b9_27 : decode cJ5_append_c97b9 27 = .ok (.getfield 15, 3) := by decide +kernel
theorem dJ5_append_c97b9_30 : decode cJ5_append_c97b9 30 = .ok (.invokestatic 248, 3) := by decide +kernel
theorem dJ5_append_c97b9_33 : decode cJ5_append_c97b9 33 = .ok (.pop, 1) := by decide +kernel
theorem dJ5_append_c97b9_34 : decode cJ5_append_c97b9 34 = .ok (.goto 14, 3) := by decide +kernel
theorem dJ5_append_c97b9_37 : decode cJ5_append_c97b9 37 = .ok (.iload_n 1, 1) := by decide +kernel
theorem dJ5_append_c97b9_38 : decode cJ5_append_c97b9 38 = .ok (.iload_n 2, 1) := by decide +kernel
theorem dJ5_append_c97b9_39 : decode cJ5_append_c97b9 39 = .ok (.iload_n 3, 1) := by decide +kernel
theorem dJ5_append_c97b9_40 : decode cJ5_append_c97b9 40 = .ok (.aload_n 0, 1) := by decide +kernel
theorem dJ5_append_c97b9_41 : decode cJ5_append_c97b9 41 = .ok (.getfield 15, 3) := by decide +kernel
theorem dJ5_append_c97b9_44 : decode cJ5_append_c97b9 44 = .ok (.invokestatic 251, 3) := by decide +kernel
theorem dJ5_append_c97b9_47 : decode cJ5_append_c97b9 47 = .ok (.pop, 1) := by decide +kernel
theorem dJ5_append_c97b9_48 : decode cJ5_append_c97b9 48 = .ok (.aload_n 0, 1) := by decide +kernel
theorem dJ5_append_c97b9_49 : decode cJ5_append_c97b9 49 = .ok (.iload_n 3, 1) := by decide +kernel
theorem dJ5_append_c97b9_50 : decode cJ5_append_c97b9 50 = .ok (.putfield 79, 3) := by decide +kernel
theorem dJ5_append_c97b9_53 : decode cJ5_append_c97b9 53 = .ok (.aload_n 0, 1) := by decide +kernel
theorem dJ5_append_c97b9_54 : decode cJ5_append_c97b9 54 = .ok (.areturn, 1) := by decide +kernel
theorem dJ5_isLatin1_aae02_0 : decode cJ5_isLatin1_aae02 0 = .ok (.getstatic 18, 3) := by decide +kernel
theorem dJ5_isLatin1_aae02_3 : decode cJ5_isLatin1_aae02 3 = .ok (.ifCond .eq 14, 3) := by decide +kernel
theorem dJ5_isLatin1_aae02_6 : decode cJ5_isLatin1_aae02 6 = .ok (.aload_n 0, 1) := by decide +kernel
theorem dJ5_isLatin1_aae02_7 : decode cJ5_isLatin1_aae02 7 = .ok (.getfield 22, 3) := by decide +kernel
theorem dJ5_isLatin1_aae02_10 : decode cJ5_isLatin1_aae02 10 = .ok (.ifCond .ne 7, 3) := by decide +kernel
theorem dJ5_isLatin1_aae02_13 : decode cJ5_isLatin1_aae02 13 = .ok (.iconst 1, 1) := by decide +kernel
theorem dJ5_isLatin1_aae02_14 : decode cJ5_isLatin1_aae02 14 = .ok (.goto 4, 3) := by decide +kernel
theorem dJ5_isLatin1_aae02_17 : decode cJ5_isLatin1_aae02 17 = .ok (.iconst 0, 1) := by decide +kernel
theorem dJ5_isLatin1_aae02_18 : decode cJ5_isLatin1_aae02 18 = .ok (.ireturn, 1) := by decide +kernel
theorem dJ5_inflateIfNeededFor_a7421_0 : decode cJ5_inflateIfNeededFor_a7421 0 = .ok (.getstatic 18, 3) := by decide +kernel
theorem dJ5_inflateIfNeededFor_a7421_3 : decode cJ5_inflateIfNeededFor_a7421 3 = .ok (.ifCond .eq 18, 3) := by decide +kernel
theorem dJ5_inflateIfNeededFor_a7421_6 : decode cJ5_inflateIfNeededFor_a7421 6 = .ok (.aload_n 0, 1) := by decide +kernel
theorem dJ5_inflateIfNeededFor_a7421_7 : decode cJ5_inflateIfNeededFor_a7421 7 = .ok (.getfield 22, 3) := by decide +kernel
theorem dJ5_inflateIfNeededFor_a7421_10 : decode cJ5_inflateIfNeededFor_a7421 10 = .ok (.aload_n 1, 1) := by decide +kernel
theorem dJ5_inflateIfNeededFor_a7421_11 : decode cJ5_inflateIfNeededFor_a7421 11 = .ok (.invokevirtual 40, 3) := by decide +kernel
theorem dJ5_inflateIfNeededFor_a7421_14 : decode cJ5_inflateIfNeededFor_a7421 14 = .ok (.if_icmp .eq 7, 3) := by decide +kernel
theorem dJ5_inflateIfNeededFor_a7421_17 : decode cJ5_inflateIfNeededFor_a7421 17 = .ok (.aload_n 0, 1) := by decide +kernel
theorem dJ5_inflateIfNeededFor_a7421_18 : decode cJ5_inflateIfNeededFor_a7421 18 = .ok (.invokevirtual 195, 3) := by decide +kernel
theorem dJ5_inflateIfNeededFor_a7421_21 : decode cJ5_inflateIfNeededFor_a7421 21 = .ok (.return_, 1) := by decide +kernel
theorem dJ5_putStringAt_47b60_0 : decode cJ5_putStringAt_47b60 0 = .ok (.aload_n 0, 1) := by decide +kernel
theorem dJ5_putStringAt_47b60_1 : decode cJ5_putStringAt_47b60 1 = .ok (.aload_n 2, 1) := by decide +kernel
theorem dJ5_putStringAt_47b60_2 : decode cJ5_putStringAt_47b60 2 = .ok (.invokevirtual 397, 3) := by decide +kernel
theorem dJ5_putStringAt_47b60_5 : decode cJ5_putStringAt_47b60 5 = .ok (.aload_n 2, 1) := by decide +kernel
theorem dJ5_putStringAt_47b60_6 : decode cJ5_putStringAt_47b60 6 = .ok (.aload_n 0, 1) := by decide +kernel
theorem dJ5_putStringAt_47b60_7 : decode cJ5_putStringAt_47b60 7 = .ok (.getfield 15, 3) := by decide +kernel
theorem dJ5_putStringAt_47b60_10 : decode cJ5_putStringAt_47b60 10 = .ok (.iload_n 1, 1) := by decide +kernel
theorem dJ5_putStringAt_47b60_11 : decode cJ5_putStringAt_47b60 11 = .ok (.aload_n 0, 1) := by decide +kernel
theorem dJ5_putStringAt_47b60_12 : decode cJ5_putStringAt_47b60 12 = .ok (.getfield 22, 3) := by decide +kernel
theorem dJ5_putStringAt_47b60_15 : decode cJ5_putStringAt_47b60 15 = .ok (.invokevirtual 399, 3) := by decide +kernel
theorem dJ5_putStringAt_47b60_18 : decode cJ5_putStringAt_47b60 18 = .ok (.return_, 1) := by decide +kernel
theorem dJ6_getChars_ba4f3_0 : decode cJ6_getChars_ba4f3 0 = .ok (.iload_n 1, 1) := by decide +kernel
theorem dJ6_getChars_ba4f3_1 : decode cJ6_getChars_ba4f3 1 = .ok (.istore 5, 2) := by decide +kernel
theorem dJ6_getChars_ba4f3_3 : decode cJ6_getChars_ba4f3 3 = .ok (.iload_n 0, 1) := by decide +kernel
theorem dJ6_getChars_ba4f3_4 : decode cJ6_getChars_ba4f3 4 = .ok (.ifCond .ge 7, 3) := by decide +kernel
theorem dJ6_getChars_ba4f3_7 : decode cJ6_getChars_ba4f3 7 = .ok (.iconst 1, 1) := by decide +kernel
theorem dJ6_getChars_ba4f3_8 : decode cJ6_getChars_ba4f3 8 = .ok (.goto 4, 3) := by decide +kernel
theorem dJ6_getChars_ba4f3_11 : decode cJ6_getChars_ba4f3 11 = .ok (.iconst 0, 1) := by decide +kernel
theorem dJ6_getChars_ba4f3_12 : decode cJ6_getChars_ba4f3 12 = .ok (.istore 6, 2) := by decide +kernel
theorem dJ6_getChars_ba4f3_14 : decode cJ6_getChars_ba4f3 14 = .ok (.iload 6, 2) := by decide +kernel
theorem dJ6_getChars_ba4f3_16 : decode cJ6_getChars_ba4f3 16 = .ok (.ifCond .ne 6, 3) := by decide +kernel
theorem dJ6_getChars_ba4f3_19 : decode cJ6_getChars_ba4f3 19 = .ok (.iload_n 0, 1) := by decide +kernel
theorem dJ6_getChars_ba4f3_20 : decode cJ6_getChars_ba4f3 20 = .ok (.ineg, 1) := by decide +kernel
theorem dJ6_getChars_ba4f3_21 : decode cJ6_getChars_ba4f3 21 = .ok (.istore_n 0, 1) := by decide +kernel
theorem dJ6_getChars_ba4f3_22 : decode cJ6_getChars_ba4f3 22 = .ok (.iload_n 0, 1) := by decide +kernel
theorem dJ6_getChars_ba4f3_23 : decode cJ6_getChars_ba4f3 23 = .ok (.bipush (-100), 2) := by decide +kernel
theorem dJ6_getChars_ba4f3_25 : decode cJ6_getChars_ba4f3 25 = .ok (.if_icmp .gt 47, 3) := by decide +kernel
theorem dJ6_getChars_ba4f3_28 : decode cJ6_getChars_ba4f3 28 = .ok (.iload_n 0, 1) := by decide +kernel
theorem dJ6_getChars_ba4f3_29 : decode cJ6_getChars_ba4f3 29 = .ok (.bipush 100, 2) := by decide +kernel
theorem dJ6_getChars_ba4f3_31 : decode cJ6_getChars_ba4f3 31 = .ok (.idiv, 1) := by decide +kernel
theorem dJ6_getChars_ba4f3_32 : decode cJ6_getChars_ba4f3 32 = .ok (.istore_n 3, 1) := by decide +kernel
theorem dJ6_getChars_ba4f3_33 : decode cJ6_getChars_ba4f3 33 = .ok (.iload_n 3, 1) := by decide +kernel
theorem dJ6_getChars_ba4f3_34 : decode cJ6_getChars_ba4f3 34 = .ok (.bipush 100, 2) := by decide +kernel
theorem dJ6_getChars_ba4f3_36 : decode cJ6_getChars_ba4f3 36 = .ok (.imul, 1) := by decide +kernel
theorem dJ6_getChars_ba4f3_37 : decode cJ6_getChars_ba4f3 37 = .ok (.iload_n 0, 1) := by decide +kernel
theorem dJ6_getChars_ba4f3_38 : decode cJ6_getChars_ba4f3 38 = .ok (.isub, 1) := by decide +kernel
theorem dJ6_getChars_ba4f3_39 : decode cJ6_getChars_ba4f3 39 = .ok (.istore 4, 2) := by decide +kernel
theorem dJ6_getChars_ba4f3_41 : decode cJ6_getChars_ba4f3 41 = .ok (.iload_n 3, 1) := by decide +kernel
theorem dJ6_getChars_ba4f3_42 : decode cJ6_getChars_ba4f3 42 = .ok (.istore_n 0, 1) := by decide +kernel
theorem dJ6_getChars_ba4f3_43 : decode cJ6_getChars_ba4f3 43 = .ok (.aload_n 2, 1) := by decide +kernel
theorem dJ6_getChars_ba4f3_44 : decode cJ6_getChars_ba4f3 44 = .ok (.iinc 5 (-1), 3) := by decide +kernel
theorem dJ6_getChars_ba4f3_47 : decode cJ6_getChars_ba4f3 47 = .ok (.iload 5, 2) := by decide +kernel
theorem dJ6_getChars_ba4f3_49 : decode cJ6_getChars_ba4f3 49 = .ok (.getstatic 83, 3) := by decide +kernel
theorem dJ6_getChars_ba4f3_52 : decode cJ6_getChars_ba4f3 52 = .ok (.iload 4, 2) := by decide +kernel
theorem dJ6_getChars_ba4f3_54 : decode cJ6_getChars_ba4f3 54 = .ok (.baload, 1) := by decide +kernel
theorem dJ6_getChars_ba4f3_55 : decode cJ6_getChars_ba4f3 55 = .ok (.bastore, 1) := by decide +kernel
theorem dJ6_getChars_ba4f3_56 : decode cJ6_getChars_ba4f3 56 = .ok (.aload_n 2, 1) := by decide +kernel
theorem dJ6_getChars_ba4f3_57 : decode cJ6_getChars_ba4f3 57 = .ok (.iinc 5 (-1), 3) := by decide +kernel
theorem dJ6_getChars_ba4f3_60 : decode cJ6_getChars_ba4f3 60 = .ok (.iload 5, 2) := by decide +kernel
theorem dJ6_getChars_ba4f3_62 : decode cJ6_getChars_ba4f3 62 = .ok (.getstatic 87, 3) := by decide +kernel
theorem dJ6_getChars_ba4f3_65 : decode cJ6_getChars_ba4f3 65 = .ok (.iload 4, 2) := by decide +kernel
theorem dJ6_getChars_ba4f3_67 : decode cJ6_getChars_ba4f3 67 = .ok (.baload, 1) := by decide +kernel
theorem dJ6_getChars_ba4f3_68 : decode cJ6_getChars_ba4f3 68 = .ok (.bastore, 1) := by decide +kernel
theorem dJ6_getChars_ba4f3_69 : decode cJ6_getChars_ba4f3 69 = .ok (.goto (-47), 3) := by decide +kernel
theorem dJ6_getChars_ba4f3_72 : decode cJ6_getChars_ba4f3 72 = .ok (.aload_n 2, 1) := by decide +kernel
theorem dJ6_getChars_ba4f3_73 : decode cJ6_getChars_ba4f3 73 = .ok (.iinc 5 (-1), 3) := by decide +kernel
theorem dJ6_getChars_ba4f3_76 : decode cJ6_getChars_ba4f3 76 = .ok (.iload 5, 2) := by decide +kernel
theorem dJ6_getChars_ba4f3_78 : decode cJ6_getChars_ba4f3 78 = .ok (.getstatic 83, 3) := by decide +kernel
theorem dJ6_getChars_ba4f3_81 : decode cJ6_getChars_ba4f3 81 = .ok (.iload_n 0, 1) := by decide +kernel
theorem dJ6_getChars_ba4f3_82 : decode cJ6_getChars_ba4f3 82 = .ok (.ineg, 1) := by decide +kernel
theorem dJ6_getChars_ba4f3_83 : decode cJ6_getChars_ba4f3 83 = .ok (.baload, 1) := by decide +kernel
theorem dJ6_getChars_ba4f3_84 : decode cJ6_getChars_ba4f3 84 = .ok (.bastore, 1) := by decide +kernel
theorem dJ6_getChars_ba4f3_85 : decode cJ6_getChars_ba4f3 85 = .ok (.iload_n 0, 1) := by decide +kernel
theorem dJ6_getChars_ba4f3_86 : decode cJ6_getChars_ba4f3 86 = .ok (.bipush (-9), 2) := by decide +kernel
theorem dJ6_getChars_ba4f3_88 : decode cJ6_getChars_ba4f3 88 = .ok (.if_icmp .ge 16, 3) := by decide +kernel
theorem dJ6_getChars_ba4f3_91 : decode cJ6_getChars_ba4f3 91 = .ok (.aload_n 2, 1) := by decide +kernel
theorem dJ6_getChars_ba4f3_92 : decode cJ6_getChars_ba4f3 92 = .ok (.iinc 5 (-1), 3) := by decide +kernel
theorem dJ6_getChars_ba4f3_95 : decode cJ6_getChars_ba4f3 95 = .ok (.iload 5, 2) := by decide +kernel
theorem dJ6_getChars_ba4f3_97 : decode cJ6_getChars_ba4f3 97 = .ok (.getstatic 87, 3) := by decide +kernel
theorem dJ6_getChars_ba4f3_100 : decode cJ6_getChars_ba4f3 100 = .ok (.iload_n 0, 1) := by decide +kernel
theorem dJ6_getChars_ba4f3_101 : decode cJ6_getChars_ba4f3 101 = .ok (.ineg, 1) := by decide +kernel
theorem dJ6_getChars_ba4f3_102 : decode cJ6_getChars_ba4f3 102 = .ok (.baload, 1) := by decide +kernel
theorem dJ6_getChars_ba4f3_103 : decode cJ6_getChars_ba4f3 103 = .ok (.bastore, 1) := by decide +kernel
theorem dJ6_getChars_ba4f3_104 : decode cJ6_getChars_ba4f3 104 = .ok (.iload 6, 2) := by decide +kernel
theorem dJ6_getChars_ba4f3_106 : decode cJ6_getChars_ba4f3 106 = .ok (.ifCond .eq 12, 3) := by decide +kernel
theorem dJ6_getChars_ba4f3_109 : decode cJ6_getChars_ba4f3 109 = .ok (.aload_n 2, 1) := by decide +kernel
theorem dJ6_getChars_ba4f3_110 : decode cJ6_getChars_ba4f3 110 = .ok (.iinc 5 (-1), 3) := by decide +kernel
theorem dJ6_getChars_ba4f3_113 : decode cJ6_getChars_ba4f3 113 = .ok (.iload 5, 2) := by decide +kernel
theorem dJ6_getChars_ba4f3_115 : decode cJ6_getChars_ba4f3 115 = .ok (.bipush 45, 2) := by decide +kernel
theorem dJ6_getChars_ba4f3_117 : decode cJ6_getChars_ba4f3 117 = .ok (.bastore, 1) := by decide +kernel
theorem dJ6_getChars_ba4f3_118 : decode cJ6_getChars_ba4f3 118 = .ok (.iload 5, 2) := by decide +kernel
theorem dJ6_getChars_ba4f3_120 : decode cJ6_getChars_ba4f3 120 = .ok (.ireturn, 1) := by decide +kernel
theorem dJ6_stringSize_0f7a4_0 : decode cJ6_stringSize_0f7a4 0 = .ok (.iconst 1, 1) := by decide +kernel
theorem dJ6_stringSize_0f7a4_1 : decode cJ6_stringSize_0f7a4 1 = .ok (.istore_n 1, 1) := by decide +kernel
theorem dJ6_stringSize_0f7a4_2 : decode cJ6_stringSize_0f7a4 2 = .ok (.iload_n 0, 1) := by decide +kernel
theorem dJ6_stringSize_0f7a4_3 : decode cJ6_stringSize_0f7a4 3 = .ok (.ifCond .lt 8, 3) := by decide +kernel
theorem dJ6_stringSize_0f7a4_6 : decode cJ6_stringSize_0f7a4 6 = .ok (.iconst 0, 1) := by decide +kernel
theorem dJ6_stringSize_0f7a4_7 : decode cJ6_stringSize_0f7a4 7 = .ok (.istore_n 1, 1) := by decide +kernel
theorem dJ6_stringSize_0f7a4_8 : decode cJ6_stringSize_0f7a4 8 = .ok (.iload_n 0, 1) := by decide +kernel
theorem dJ6_stringSize_0f7a4_9 : decode cJ6_stringSize_0f7a4 9 = .ok (.ineg, 1) := by decide +kernel
theorem dJ6_stringSize_0f7a4_10 : decode cJ6_stringSize_0f7a4 10 = .ok (.istore_n 0, 1) := by decide +kernel
theorem dJ6_stringSize_0f7a4_11 : decode cJ6_stringSize_0f7a4 11 = .ok (.bipush (-10), 2) := by decide +kernel
theorem dJ6_stringSize_0f7a4_13 : decode cJ6_stringSize_0f7a4 13 = .ok (.istore_n 2, 1) := by decide +kernel
theorem dJ6_stringSize_0f7a4_14 : decode cJ6_stringSize_0f7a4 14 = .ok (.iconst 1, 1) := by decide +kernel
theorem dJ6_stringSize_0f7a4_15 : decode cJ6_stringSize_0f7a4 15 = .ok (.istore_n 3, 1) := by decide +kernel
theorem dJ6_stringSize_0f7a4_16 : decode cJ6_stringSize_0f7a4 16 = .ok (.iload_n 3, 1) := by decide +kernel
theorem dJ6_stringSize_0f7a4_17 : decode cJ6_stringSize_0f7a4 17 = .ok (.bipush 10, 2) := by decide +kernel
theorem dJ6_stringSize_0f7a4_19 : decode cJ6_stringSize_0f7a4 19 = .ok (.if_icmp .ge 23, 3) := by decide +kernel
theorem dJ6_stringSize_0f7a4_22 : decode cJ6_stringSize_0f7a4 22 = .ok (.iload_n 0, 1) := by decide +kernel
theorem dJ6_stringSize_0f7a4_23 : decode cJ6_stringSize_0f7a4 23 = .ok (.iload_n 2, 1) := by decide +kernel
theorem dJ6_stringSize_0f7a4_24 : decode cJ6_stringSize_0f7a4 24 = .ok (.if_icmp .le 7, 3) := by decide +kernel
theorem dJ6_stringSize_0f7a4_27 : decode cJ6_stringSize_0f7a4 27 = .ok (.iload_n 3, 1) := by decide +kernel
theorem dJ6_stringSize_0f7a4_28 : decode cJ6_stringSize_0f7a4 28 = .ok (.iload_n 1, 1) := by decide +kernel
theorem dJ6_stringSize_0f7a4_29 : decode cJ6_stringSize_0f7a4 29 = .ok (.iadd, 1) := by decide +kernel
theorem dJ6_stringSize_0f7a4_30 : decode cJ6_stringSize_0f7a4 30 = .ok (.ireturn, 1) := by decide +kernel
theorem dJ6_stringSize_0f7a4_31 : decode cJ6_stringSize_0f7a4 31 = .ok (.bipush 10, 2) := by decide +kernel
theorem dJ6_stringSize_0f7a4_33 : decode cJ6_stringSize_0f7a4 33 = .ok (.iload_n 2, 1) := by decide +kernel
theorem dJ6_stringSize_0f7a4_34 : decode cJ6_stringSize_0f7a4 34 = .ok (.imul, 1) := by decide +kernel
theorem dJ6_stringSize_0f7a4_35 : decode cJ6_stringSize_0f7a4 35 = .ok (.istore_n 2, 1) := by decide +kernel
theorem dJ6_stringSize_0f7a4_36 : decode cJ6_stringSize_0f7a4 36 = .ok (.iinc 3 1, 3) := by decide +kernel
theorem dJ6_stringSize_0f7a4_39 : decode cJ6_stringSize_0f7a4 39 = .ok (.goto (-23), 3) := by decide +kernel
theorem dJ6_stringSize_0f7a4_42 : decode cJ6_stringSize_0f7a4 42 = .ok (.bipush 10, 2) := by decide +kernel
theorem dJ6_stringSize_0f7a4_44 : decode cJ6_stringSize_0f7a4 44 = .ok (.iload_n 1, 1) := by decide +kernel
theorem dJ6_stringSize_0f7a4_45 : decode cJ6_stringSize_0f7a4 45 = .ok (.iadd, 1) := by decide +kernel
theorem dJ6_stringSize_0f7a4_46 : decode cJ6_stringSize_0f7a4 46 = .ok (.ireturn, 1) := by decide +kernel
theorem dJ9_max_7cf53_0 : decode cJ9_max_7cf53 0 = .ok (.iload_n 0, 1) := by decide +kernel
theorem dJ9_max_7cf53_1 : decode cJ9_max_7cf53 1 = .ok (.iload_n 1, 1) := by decide +kernel
theorem dJ9_max_7cf53_2 : decode cJ9_max_7cf53 2 = .ok (.if_icmp .lt 7, 3) := by decide +kernel
theorem dJ9_max_7cf53_5 : decode cJ9_max_7cf53 5 = .ok (.iload_n 0, 1) := by decide +kernel
theorem dJ9_max_7cf53_6 : decode cJ9_max_7cf53 6 = .ok (.goto 4, 3) := by decide +kernel
theorem dJ9_max_7cf53_9 : decode cJ9_max_7cf53 9 = .ok (.iload_n 1, 1) := by decide +kernel
theorem dJ9_max_7cf53_10 : decode cJ9_max_7cf53 10 = .ok (.ireturn, 1) := by decide +kernel
theorem dJ9_min_7cf53_0 : decode cJ9_min_7cf53 0 = .ok (.iload_n 0, 1) := by decide +kernel
theorem dJ9_min_7cf53_1 : decode cJ9_min_7cf53 1 = .ok (.iload_n 1, 1) := by decide +kernel
theorem dJ9_min_7cf53_2 : decode cJ9_min_7cf53 2 = .ok (.if_icmp .gt 7, 3) := by decide +kernel
theorem dJ9_min_7cf53_5 : decode cJ9_min_7cf53 5 = .ok (.iload_n 0, 1) := by decide +kernel
theorem dJ9_min_7cf53_6 : decode cJ9_min_7cf53 6 = .ok (.goto 4, 3) := by decide +kernel
theorem dJ9_min_7cf53_9 : decode cJ9_min_7cf53 9 = .ok (.iload_n 1, 1) := by decide +kernel
theorem dJ9_min_7cf53_10 : decode cJ9_min_7cf53 10 = .ok (.ireturn, 1) := by decide +kernel
theorem dJ0_length_8abf5_0 : decode cJ0_length_8abf5 0 = .ok (.aload_n 0, 1) := by decide +kernel
theorem dJ0_length_8abf5_1 : decode cJ0_length_8abf5 1 = .ok (.getfield 9, 3) := by decide +kernel
theorem dJ0_length_8abf5_4 : decode cJ0_length_8abf5 4 = .ok (.arraylength, 1) := by decide +kernel
theorem dJ0_length_8abf5_5 : decode cJ0_length_8abf5 5 = .ok (.aload_n 0, 1) := by decide +kernel
theorem dJ0_length_8abf5_6 : decode cJ0_length_8abf5 6 = .ok (.invokevirtual 335, 3) := by decide +kernel
theorem dJ0_length_8abf5_9 : decode cJ0_length_8abf5 9 = .ok (.ishr, 1) := by decide +kernel
theorem dJ0_length_8abf5_10 : decode cJ0_length_8abf5 10 = .ok (.ireturn, 1) := by decide +kernel
theorem dJ0_getBytes_840e7_0 : decode cJ0_getBytes_840e7 0 = .ok (.aload_n 0, 1) := by decide +kernel
theorem dJ0_getBytes_840e7_1 : decode cJ0_getBytes_840e7 1 = .ok (.invokevirtual 335, 3) := by decide +kernel
theorem dJ0_getBytes_840e7_4 : decode cJ0_getBytes_840e7 4 = .ok (.iload_n 3, 1) := by decide +kernel
theorem dJ0_getBytes_840e7_5 : decode cJ0_getBytes_840e7 5 = .ok (.if_icmp .ne 23, 3) := by decide +kernel
theorem dJ0_getBytes_840e7_8 : decode cJ0_getBytes_840e7 8 = .ok (.aload_n 0, 1) := by decide +kernel
theorem dJ0_getBytes_840e7_9 : decode cJ0_getBytes_840e7 9 = .ok (.getfield 9, 3) := by decide +kernel
theorem dJ0_getBytes_840e7_12 : decode cJ0_getBytes_840e7 12 = .ok (.iconst 0, 1) := by decide +kernel
theorem dJ0_getBytes_840e7_13 : decode cJ0_getBytes_840e7 13 = .ok (.aload_n 1, 1) := by decide +kernel
theorem dJ0_getBytes_840e7_14 : decode cJ0_getBytes_840e7 14 = .ok (.iload_n 2, 1) := by decide +kernel
theorem dJ0_getBytes_840e7_15 : decode cJ0_getBytes_840e7 15 = .ok (.iload_n 3, 1) := by decide +kernel
theorem dJ0_getBytes_840e7_16 : decode cJ0_getBytes_840e7 16 = .ok (.ishl, 1) := by decide +kernel
theorem dJ0_getBytes_840e7_17 : decode cJ0_getBytes_840e7 17 = .ok (.aload_n 0, 1) := by decide +kernel
theorem dJ0_getBytes_840e7_18 : decode cJ0_getBytes_840e7 18 = .ok (.getfield 9, 3) := by decide +kernel
theorem dJ0_getBytes_840e7_21 : decode cJ0_getBytes_840e7 21 = .ok (.arraylength, 1) := by decide +kernel
theorem dJ0_getBytes_840e7_22 : decode cJ0_getBytes_840e7 22 = .ok (.invokestatic 212, 3) := by decide +kernel
theorem dJ0_getBytes_840e7_25 : decode cJ0_getBytes_840e7 25 = .ok (.goto 18, 3) := by decide +kernel
theorem dJ0_getBytes_840e7_28 : decode cJ0_getBytes_840e7 28 = .ok (.aload_n 0, 1) := by decide +kernel
theorem dJ0_getBytes_840e7_29 : decode cJ0_getBytes_840e7 29 = .ok (.getfield 9, 3) := by decide +kernel
theorem dJ0_getBytes_840e7_32 : decode cJ0_getBytes_840e7 32 = .ok (.iconst 0, 1) := by decide +kernel
theorem dJ0_getBytes_840e7_33 : decode cJ0_getBytes_840e7 33 = .ok (.aload_n 1, 1) := by decide +kernel
theorem dJ0_getBytes_840e7_34 : decode cJ0_getBytes_840e7 34 = .ok (.iload_n 2, 1) := by decide +kernel
theorem dJ0_getBytes_840e7_35 : decode cJ0_getBytes_840e7 35 = .ok (.aload_n 0, 1) := by decide +kernel
theorem dJ0_getBytes_840e7_36 : decode cJ0_getBytes_840e7 36 = .ok (.getfield 9, 3) := by decide +kernel
theorem dJ0_getBytes_840e7_39 : decode cJ0_getBytes_840e7 39 = .ok (.arraylength, 1) := by decide +kernel
theorem dJ0_getBytes_840e7_40 : decode cJ0_getBytes_840e7 40 = .ok (.invokestatic 106, 3) := by decide +kernel
theorem dJ0_getBytes_840e7_43 : decode cJ0_getBytes_840e7 43 = .ok (.return_, 1) := by decide +kernel
theorem dJ0_coder_7d493_0 : decode cJ0_coder_7d493 0 = .ok (.getstatic 38, 3) := by decide +kernel
theorem dJ0_coder_7d493_3 : decode cJ0_coder_7d493 3 = .ok (.ifCond .eq 10, 3) := by decide +kernel
theorem dJ0_coder_7d493_6 : decode cJ0_coder_7d493 6 = .ok (.aload_n 0, 1) := by decide +kernel
theorem dJ0_coder_7d493_7 : decode cJ0_coder_7d493 7 = .ok (.getfield 15, 3) := by decide +kernel
theorem dJ0_coder_7d493_10 : decode cJ0_coder_7d493 10 = .ok (.goto 4, 3) := by decide +kernel
theorem dJ0_coder_7d493_13 : decode cJ0_coder_7d493 13 = .ok (.iconst 1, 1) := by decide +kernel
theorem dJ0_coder_7d493_14 : decode cJ0_coder_7d493 14 = .ok (.ireturn, 1) := by decide +kernel
theorem dJ0_checkIndex_df160_0 : decode cJ0_checkIndex_df160 0 = .ok (.iload_n 0, 1) := by decide +kernel
theorem dJ0_checkIndex_df160_1 : decode cJ0_checkIndex_df160 1 = .ok (.iload_n 1, 1) := by decide +kernel
theorem dJ0_checkIndex_df160_2 : decode cJ0_checkIndex_df160 2 = .ok (.getstatic 1053, 3) := by decide +kernel
theorem dJ0_checkIndex_df160_5 : decode cJ0_checkIndex_df160 5 = .ok (.invokestatic 1059, 3) := by decide +kernel
theorem dJ0_checkIndex_df160_8 : decode cJ0_checkIndex_df160 8 = .ok (.pop, 1) := by decide +kernel
theorem dJ0_checkIndex_df160_9 : decode cJ0_checkIndex_df160 9 = .ok (.return_, 1) := by decide +kernel
theorem dJ1_canEncode_fc78d_0 : decode cJ1_canEncode_fc78d 0 = .ok (.iload_n 0, 1) := by decide +kernel
theorem dJ1_canEncode_fc78d_1 : decode cJ1_canEncode_fc78d 1 = .ok (.sipush 255, 3) := by decide +kernel
theorem dJ1_canEncode_fc78d_4 : decode cJ1_canEncode_fc78d 4 = .ok (.if_icmp .gt 7, 3) := by decide +kernel
theorem dJ1_canEncode_fc78d_7 : decode cJ1_canEncode_fc78d 7 = .ok (.iconst 1, 1) := by decide +kernel
theorem dJ1_canEncode_fc78d_8 : decode cJ1_canEncode_fc78d 8 = .ok (.goto 4, 3) := by decide +kernel
theorem dJ1_canEncode_fc78d_11 : decode cJ1_canEncode_fc78d 11 = .ok (.iconst 0, 1) := by decide +kernel
theorem dJ1_canEncode_fc78d_12 : decode cJ1_canEncode_fc78d 12 = .ok (.ireturn, 1) := by decide +kernel
theorem dJ7_copyOf_9075b_0 : decode cJ7_copyOf_9075b 0 = .ok (.iload_n 1, 1) := by decide +kernel
theorem dJ7_copyOf_9075b_1 : decode cJ7_copyOf_9075b 1 = .ok (.aload_n 0, 1) := by decide +kernel
theorem dJ7_copyOf_9075b_2 : decode cJ7_copyOf_9075b 2 = .ok (.arraylength, 1) := by decide +kernel
theorem dJ7_copyOf_9075b_3 : decode cJ7_copyOf_9075b 3 = .ok (.if_icmp .ne 11, 3) := by decide +kernel
theorem dJ7_copyOf_9075b_6 : decode cJ7_copyOf_9075b 6 = .ok (.aload_n 0, 1) := by decide +kernel
theorem dJ7_copyOf_9075b_7 : decode cJ7_copyOf_9075b 7 = .ok (.invokevirtual 310, 3) := by decide +kernel
theorem dJ7_copyOf_9075b_10 : decode cJ7_copyOf_9075b 10 = .ok (.checkcast 311, 3) := by decide +kernel
theorem dJ7_copyOf_9075b_13 : decode cJ7_copyOf_9075b 13 = .ok (.areturn, 1) := by decide +kernel
theorem dJ7_copyOf_9075b_14 : decode cJ7_copyOf_9075b 14 = .ok (.iload_n 1, 1) := by decide +kernel
theorem dJ7_copyOf_9075b_15 : decode cJ7_copyOf_9075b 15 = .ok (.newarray .byte, 2) := by decide +kernel
theorem dJ7_copyOf_9075b_17 : decode cJ7_copyOf_9075b 17 = .ok (.astore_n 2, 1) := by decide +kernel
theorem dJ7_copyOf_9075b_18 : decode cJ7_copyOf_9075b 18 = .ok (.aload_n 0, 1) := by decide +kernel
theorem dJ7_copyOf_9075b_19 : decode cJ7_copyOf_9075b 19 = .ok (.iconst 0, 1) := by decide +kernel
theorem dJ7_copyOf_9075b_20 : decode cJ7_copyOf_9075b 20 = .ok (.aload_n 2, 1) := by decide +kernel
theorem dJ7_copyOf_9075b_21 : decode cJ7_copyOf_9075b 21 = .ok (.iconst 0, 1) := by decide +kernel
theorem dJ7_copyOf_9075b_22 : decode cJ7_copyOf_9075b 22 = .ok (.aload_n 0, 1) := by decide +kernel
theorem dJ7_copyOf_9075b_23 : decode cJ7_copyOf_9075b 23 = .ok (.arraylength, 1) := by decide +kernel
theorem dJ7_copyOf_9075b_24 : decode cJ7_copyOf_9075b 24 = .ok (.iload_n 1, 1) := by decide +kernel
theorem dJ7_copyOf_9075b_25 : decode cJ7_copyOf_9075b 25 = .ok (.invokestatic 304, 3) := by decide +kernel
theorem dJ7_copyOf_9075b_28 : decode cJ7_copyOf_9075b 28 = .ok (.invokestatic 150, 3) := by decide +kernel
theorem dJ7_copyOf_9075b_31 : decode cJ7_copyOf_9075b 31 = .ok (.aload_n 2, 1) := by decide +kernel
theorem dJ7_copyOf_9075b_32 : decode cJ7_copyOf_9075b 32 = .ok (.areturn, 1) := by decide +kernel
theorem dJ8_newLength_cabcc_0 : decode cJ8_newLength_cabcc 0 = .ok (.iload_n 0, 1) := by decide +kernel
theorem dJ8_newLength_cabcc_1 : decode cJ8_newLength_cabcc 1 = .ok (.iload_n 1, 1) := by decide +kernel
theorem dJ8_newLength_cabcc_2 : decode cJ8_newLength_cabcc 2 = .ok (.iload_n 2, 1) := by decide +kernel
theorem dJ8_newLength_cabcc_3 : decode cJ8_newLength_cabcc 3 = .ok (.invokestatic 194, 3) := by decide +kernel
theorem dJ8_newLength_cabcc_6 : decode cJ8_newLength_cabcc 6 = .ok (.iadd, 1) := by decide +kernel
theorem dJ8_newLength_cabcc_7 : decode cJ8_newLength_cabcc 7 = .ok (.istore_n 3, 1) := by decide +kernel
theorem dJ8_newLength_cabcc_8 : decode cJ8_newLength_cabcc 8 = .ok (.iconst 0, 1) := by decide +kernel
theorem dJ8_newLength_cabcc_9 : decode cJ8_newLength_cabcc 9 = .ok (.iload_n 3, 1) := by decide +kernel
theorem dJ8_newLength_cabcc_10 : decode cJ8_newLength_cabcc 10 = .ok (.if_icmp .ge 11, 3) := by decide +kernel
theorem dJ8_newLength_cabcc_13 : decode cJ8_newLength_cabcc 13 = .ok (.iload_n 3, 1) := by decide +kernel
theorem dJ8_newLength_cabcc_14 : decode cJ8_newLength_cabcc 14 = .ok (.ldc 200, 2) := by decide +kernel
theorem dJ8_newLength_cabcc_16 : decode cJ8_newLength_cabcc 16 = .ok (.if_icmp .gt 5, 3) := by decide +kernel
theorem dJ8_newLength_cabcc_19 : decode cJ8_newLength_cabcc 19 = .ok (.iload_n 3, 1) := by decide +kernel
theorem dJ8_newLength_cabcc_20 : decode cJ8_newLength_cabcc 20 = .ok (.ireturn, 1) := by decide +kernel
theorem dJ8_newLength_cabcc_21 : decode cJ8_newLength_cabcc 21 = .ok (.iload_n 0, 1) := by decide +kernel
theorem dJ8_newLength_cabcc_22 : decode cJ8_newLength_cabcc 22 = .ok (.iload_n 1, 1) := by decide +kernel
theorem dJ8_newLength_cabcc_23 : decode cJ8_newLength_cabcc 23 = .ok (.invokestatic 201, 3) := by decide +kernel
theorem dJ8_newLength_cabcc_26 : decode cJ8_newLength_cabcc 26 = .ok (.ireturn, 1) := by decide +kernel
theorem dJ3_checkIndex_8e157_0 : decode cJ3_checkIndex_8e157 0 = .ok (.iload_n 0, 1) := by decide +kernel
theorem dJ3_checkIndex_8e157_1 : decode cJ3_checkIndex_8e157 1 = .ok (.ifCond .lt 8, 3) := by decide +kernel
theorem dJ3_checkIndex_8e157_4 : decode cJ3_checkIndex_8e157 4 = .ok (.iload_n 0, 1) := by decide +kernel
theorem dJ3_checkIndex_8e157_5 : decode cJ3_checkIndex_8e157 5 = .ok (.iload_n 1, 1) := by decide +kernel
theorem dJ3_checkIndex_8e157_6 : decode cJ3_checkIndex_8e157 6 = .ok (.if_icmp .lt 10, 3) := by decide +kernel
theorem dJ3_checkIndex_8e157_9 : decode cJ3_checkIndex_8e157 9 = .ok (.aload_n 2, 1) := by decide +kernel
theorem dJ3_checkIndex_8e157_10 : decode cJ3_checkIndex_8e157 10 = .ok (.iload_n 0, 1) := by decide +kernel
theorem dJ3_checkIndex_8e157_11 : decode cJ3_checkIndex_8e157 11 = .ok (.iload_n 1, 1) := by decide +kernel
theorem dJ3_checkIndex_8e157_12 : decode cJ3_checkIndex_8e157 12 = .ok (.invokestatic 95, 3) := by decide +kernel
theorem dJ3_checkIndex_8e157_15 : decode cJ3_checkIndex_8e157 15 = .ok (.athrow, 1) := by decide +kernel
theorem dJ3_checkIndex_8e157_16 : decode cJ3_checkIndex_8e157 16 = .ok (.iload_n 0, 1) := by decide +kernel
theorem dJ3_checkIndex_8e157_17 : decode cJ3_checkIndex_8e157 17 = .ok (.ireturn, 1) := by decide +kernel
