theorem dL_isYear_205 : decode cL_isYear 205 = .ok (.lload 9, 2) := by decide +kernel
theorem dL_isYear_207 : decode cL_isYear 207 = .ok (.lneg, 1) := by decide +kernel
theorem dL_isYear_208 : decode cL_isYear 208 = .ok (.lcmp, 1) := by decide +kernel
theorem dL_isYear_209 : decode cL_isYear 209 = .ok (.ifCond .ne 7, 3) := by decide +kernel
theorem dL_isYear_212 : decode cL_isYear 212 = .ok (.iconst 1, 1) := by decide +kernel
theorem dL_isYear_213 : decode cL_isYear 213 = .ok (.goto 4, 3) := by decide +kernel
theorem dL_isYear_216 : decode cL_isYear 216 = .ok (.iconst 0, 1) := by decide +kernel
theorem dL_isYear_217 : decode cL_isYear 217 = .ok (.ireturn, 1) := by decide +kernel
theorem dL_isAccepted_0 : decode cL_isAccepted 0 = .ok (.aload_n 0, 1) := by decide +kernel
theorem dL_isAccepted_1 : decode cL_isAccepted 1 = .ok (.iload_n 2, 1) := by decide +kernel
theorem dL_isAccepted_2 : decode cL_isAccepted 2 = .ok (.iload_n 3, 1) := by decide +kernel
theorem dL_isAccepted_3 : decode cL_isAccepted 3 = .ok (.sipush 800, 3) := by decide +kernel
theorem dL_isAccepted_6 : decode cL_isAccepted 6 = .ok (.invokevirtual 152, 3) := by decide +kernel
theorem dL_isAccepted_9 : decode cL_isAccepted 9 = .ok (.lstore 4, 2) := by decide +kernel
theorem dL_isAccepted_11 : decode cL_isAccepted 11 = .ok (.aload_n 0, 1) := by decide +kernel
theorem dL_isAccepted_12 : decode cL_isAccepted 12 = .ok (.iload_n 2, 1) := by decide +kernel
theorem dL_isAccepted_13 : decode cL_isAccepted 13 = .ok (.iconst 5, 1) := by decide +kernel
theorem dL_isAccepted_14 : decode cL_isAccepted 14 = .ok (.invokevirtual 68, 3) := by decide +kernel
theorem dL_isAccepted_17 : decode cL_isAccepted 17 = .ok (.lstore 6, 2) := by decide +kernel
theorem dL_isAccepted_19 : decode cL_isAccepted 19 = .ok (.aload_n 0, 1) := by decide +kernel
theorem dL_isAccepted_20 : decode cL_isAccepted 20 = .ok (.iload_n 2, 1) := by decide +kernel
theorem dL_isAccepted_21 : decode cL_isAccepted 21 = .ok (.iload_n 3, 1) := by decide +kernel
theorem dL_isAccepted_22 : decode cL_isAccepted 22 = .ok (.iconst 1, 1) := by decide +kernel
theorem dL_isAccepted_23 : decode cL_isAccepted 23 = .ok (.invokestatic 111, 3) := by decide +kernel
theorem dL_isAccepted_26 : decode cL_isAccepted 26 = .ok (.istore 8, 2) := by decide +kernel
theorem dL_isAccepted_28 : decode cL_isAccepted 28 = .ok (.iload 8, 2) := by decide +kernel
theorem dL_isAccepted_30 : decode cL_isAccepted 30 = .ok (.bipush (-2), 2) := by decide +kernel
theorem dL_isAccepted_32 : decode cL_isAccepted 32 = .ok (.if_icmp .ne 36, 3) := by decide +kernel
theorem dL_isAccepted_35 : decode cL_isAccepted 35 = .ok (.aload_n 0, 1) := by decide +kernel
theorem dL_isAccepted_36 : decode cL_isAccepted 36 = .ok (.iload_n 2, 1) := by decide +kernel
theorem dL_isAccepted_37 : decode cL_isAccepted 37 = .ok (.iconst 5, 1) := by decide +kernel
theorem dL_isAccepted_38 : decode cL_isAccepted 38 = .ok (.invokevirtual 68, 3) := by decide +kernel
theorem dL_isAccepted_41 : decode cL_isAccepted 41 = .ok (.lload 6, 2) := by decide +kernel
theorem dL_isAccepted_43 : decode cL_isAccepted 43 = .ok (.lcmp, 1) := by decide +kernel
theorem dL_isAccepted_44 : decode cL_isAccepted 44 = .ok (.ifCond .ne 22, 3) := by decide +kernel
theorem dL_isAccepted_47 : decode cL_isAccepted 47 = .ok (.aload_n 0, 1) := by decide +kernel
theorem dL_isAccepted_48 : decode cL_isAccepted 48 = .ok (.iload_n 2, 1) := by decide +kernel
theorem dL_isAccepted_49 : decode cL_isAccepted 49 = .ok (.iload_n 3, 1) := by decide +kernel
theorem dL_isAccepted_50 : decode cL_isAccepted 50 = .ok (.sipush 800, 3) := by decide +kernel
theorem dL_isAccepted_53 : decode cL_isAccepted 53 = .ok (.invokevirtual 152, 3) := by decide +kernel
theorem dL_isAccepted_56 : decode cL_isAccepted 56 = .ok (.lload 4, 2) := by decide +kernel
theorem dL_isAccepted_58 : decode cL_isAccepted 58 = .ok (.lcmp, 1) := by decide +kernel
theorem dL_isAccepted_59 : decode cL_isAccepted 59 = .ok (.ifCond .ne 7, 3) := by decide +kernel
theorem dL_isAccepted_62 : decode cL_isAccepted 62 = .ok (.iconst 1, 1) := by decide +kernel
theorem dL_isAccepted_63 : decode cL_isAccepted 63 = .ok (.goto 4, 3) := by decide +kernel
theorem dL_isAccepted_66 : decode cL_isAccepted 66 = .ok (.iconst 0, 1) := by decide +kernel
theorem dL_isAccepted_67 : decode cL_isAccepted 67 = .ok (.ireturn, 1) := by decide +kernel
theorem dL_isAccepted_68 : decode cL_isAccepted 68 = .ok (.aload_n 1, 1) := by decide +kernel
theorem dL_isAccepted_69 : decode cL_isAccepted 69 = .ok (.iconst 0, 1) := by decide +kernel
theorem dL_isAccepted_70 : decode cL_isAccepted 70 = .ok (.dup2, 1) := by decide +kernel
theorem dL_isAccepted_71 : decode cL_isAccepted 71 = .ok (.iaload, 1) := by decide +kernel
theorem dL_isAccepted_72 : decode cL_isAccepted 72 = .ok (.iconst 1, 1) := by decide +kernel
theorem dL_isAccepted_73 : decode cL_isAccepted 73 = .ok (.iadd, 1) := by decide +kernel
theorem dL_isAccepted_74 : decode cL_isAccepted 74 = .ok (.iastore, 1) := by decide +kernel
theorem dL_isAccepted_75 : decode cL_isAccepted 75 = .ok (.iload 8, 2) := by decide +kernel
theorem dL_isAccepted_77 : decode cL_isAccepted 77 = .ok (.aload_n 1, 1) := by decide +kernel
theorem dL_isAccepted_78 : decode cL_isAccepted 78 = .ok (.iconst 0, 1) := by decide +kernel
theorem dL_isAccepted_79 : decode cL_isAccepted 79 = .ok (.iaload, 1) := by decide +kernel
theorem dL_isAccepted_80 : decode cL_isAccepted 80 = .ok (.iconst 1, 1) := by decide +kernel
theorem dL_isAccepted_81 : decode cL_isAccepted 81 = .ok (.isub, 1) := by decide +kernel
theorem dL_isAccepted_82 : decode cL_isAccepted 82 = .ok (.if_icmp .ne 98, 3) := by decide +kernel
theorem dL_isAccepted_85 : decode cL_isAccepted 85 = .ok (.aload_n 0, 1) := by decide +kernel
theorem dL_isAccepted_86 : decode cL_isAccepted 86 = .ok (.iload 8, 2) := by decide +kernel
theorem dL_isAccepted_88 : decode cL_isAccepted 88 = .ok (.sipush 800, 3) := by decide +kernel
theorem dL_isAccepted_91 : decode cL_isAccepted 91 = .ok (.invokevirtual 155, 3) := by decide +kernel
theorem dL_isAccepted_94 : decode cL_isAccepted 94 = .ok (.lload 4, 2) := by decide +kernel
theorem dL_isAccepted_96 : decode cL_isAccepted 96 = .ok (.lcmp, 1) := by decide +kernel
theorem dL_isAccepted_97 : decode cL_isAccepted 97 = .ok (.ifCond .ne 83, 3) := by decide +kernel
theorem dL_isAccepted_100 : decode cL_isAccepted 100 = .ok (.aload_n 0, 1) := by decide +kernel
theorem dL_isAccepted_101 : decode cL_isAccepted 101 = .ok (.iload_n 2, 1) := by decide +kernel
theorem dL_isAccepted_102 : decode cL_isAccepted 102 = .ok (.sipush 800, 3) := by decide +kernel
theorem dL_isAccepted_105 : decode cL_isAccepted 105 = .ok (.invokevirtual 155, 3) := by decide +kernel
theorem dL_isAccepted_108 : decode cL_isAccepted 108 = .ok (.lconst 0, 1) := by decide +kernel
theorem dL_isAccepted_109 : decode cL_isAccepted 109 = .ok (.lcmp, 1) := by decide +kernel
theorem dL_isAccepted_110 : decode cL_isAccepted 110 = .ok (.ifCond .ne 70, 3) := by decide +kernel
theorem dL_isAccepted_113 : decode cL_isAccepted 113 = .ok (.aload_n 0, 1) := by decide +kernel
theorem dL_isAccepted_114 : decode cL_isAccepted 114 = .ok (.iload_n 2, 1) := by decide +kernel
theorem dL_isAccepted_115 : decode cL_isAccepted 115 = .ok (.iconst 0, 1) := by decide +kernel
theorem dL_isAccepted_116 : decode cL_isAccepted 116 = .ok (.invokevirtual 68, 3) := by decide +kernel
theorem dL_isAccepted_119 : decode cL_isAccepted 119 = .ok (.ldc2_w 158, 3) := by decide +kernel
theorem dL_isAccepted_122 : decode cL_isAccepted 122 = .ok (.lcmp, 1) := by decide +kernel
theorem dL_isAccepted_123 : decode cL_isAccepted 123 = .ok (.ifCond .ne 57, 3) := by decide +kernel
theorem dL_isAccepted_126 : decode cL_isAccepted 126 = .ok (.aload_n 0, 1) := by decide +kernel
theorem dL_isAccepted_127 : decode cL_isAccepted 127 = .ok (.iload 8, 2) := by decide +kernel
theorem dL_isAccepted_129 : decode cL_isAccepted 129 = .ok (.bipush 7, 2) := by decide +kernel
theorem dL_isAccepted_131 : decode cL_isAccepted 131 = .ok (.invokevirtual 68, 3) := by decide +kernel
theorem dL_isAccepted_134 : decode cL_isAccepted 134 = .ok (.iload_n 2, 1) := by decide +kernel
theorem dL_isAccepted_135 : decode cL_isAccepted 135 = .ok (.i2l, 1) := by decide +kernel
theorem dL_isAccepted_136 : decode cL_isAccepted 136 = .ok (.lcmp, 1) := by decide +kernel
theorem dL_isAccepted_137 : decode cL_isAccepted 137 = .ok (.ifCond .ne 43, 3) := by decide +kernel
theorem dL_isAccepted_140 : decode cL_isAccepted 140 = .ok (.aload_n 0, 1) := by decide +kernel
theorem dL_isAccepted_141 : decode cL_isAccepted 141 = .ok (.iload 8, 2) := by decide +kernel
theorem dL_isAccepted_143 : decode cL_isAccepted 143 = .ok (.iconst 5, 1) := by decide +kernel
theorem dL_isAccepted_144 : decode cL_isAccepted 144 = .ok (.invokevirtual 68, 3) := by decide +kernel
theorem dL_isAccepted_147 : decode cL_isAccepted 147 = .ok (.lload 6, 2) := by decide +kernel
theorem dL_isAccepted_149 : decode cL_isAccepted 149 = .ok (.lcmp, 1) := by decide +kernel
theorem dL_isAccepted_150 : decode cL_isAccepted 150 = .ok (.ifCond .ne 30, 3) := by decide +kernel
theorem dL_isAccepted_153 : decode cL_isAccepted 153 = .ok (.aload_n 0, 1) := by decide +kernel
theorem dL_isAccepted_154 : decode cL_isAccepted 154 = .ok (.iload_n 2, 1) := by decide +kernel
theorem dL_isAccepted_155 : decode cL_isAccepted 155 = .ok (.iconst 5, 1) := by decide +kernel
theorem dL_isAccepted_156 : decode cL_isAccepted 156 = .ok (.invokevirtual 68, 3) := by decide +kernel
theorem dL_isAccepted_159 : decode cL_isAccepted 159 = .ok (.lconst 0, 1) := by decide +kernel
theorem dL_isAccepted_160 : decode cL_isAccepted 160 = .ok (.lcmp, 1) := by decide +kernel
theorem dL_isAccepted_161 : decode cL_isAccepted 161 = .ok (.ifCond .ne 19, 3) := by decide +kernel
theorem dL_isAccepted_164 : decode cL_isAccepted 164 = .ok (.aload_n 0, 1) := by decide +kernel
theorem dL_isAccepted_165 : decode cL_isAccepted 165 = .ok (.iload 8, 2) := by decide +kernel
theorem dL_isAccepted_167 : decode cL_isAccepted 167 = .ok (.iconst 4, 1) := by decide +kernel
theorem dL_isAccepted_168 : decode cL_isAccepted 168 = .ok (.invokevirtual 68, 3) := by decide +kernel
theorem dL_isAccepted_171 : decode cL_isAccepted 171 = .ok (.lconst 0, 1) := by decide +kernel
theorem dL_isAccepted_172 : decode cL_isAccepted 172 = .ok (.lcmp, 1) := by decide +kernel
theorem dL_isAccepted_173 : decode cL_isAccepted 173 = .ok (.ifCond .ne 7, 3) := by decide +kernel
theorem dL_isAccepted_176 : decode cL_isAccepted 176 = .ok (.iconst 1, 1) := by decide +kernel
theorem dL_isAccepted_177 : decode cL_isAccepted 177 = .ok (.goto 4, 3) := by decide +kernel
theorem dL_isAccepted_180 : decode cL_isAccepted 180 = .ok (.iconst 0, 1) := by decide +kernel
theorem dL_isAccepted_181 : decode cL_isAccepted 181 = .ok (.ireturn, 1) := by decide +kernel
theorem dL_isSeized_0 : decode cL_isSeized 0 = .ok (.aload_n 0, 1) := by decide +kernel
theorem dL_isSeized_1 : decode cL_isSeized 1 = .ok (.iload_n 2, 1) := by decide +kernel
theorem dL_isSeized_2 : decode cL_isSeized 2 = .ok (.iconst 1, 1) := by decide +kernel
theorem dL_isSeized_3 : decode cL_isSeized 3 = .ok (.invokevirtual 68, 3) := by decide +kernel
theorem dL_isSeized_6 : decode cL_isSeized 6 = .ok (.aload_n 0, 1) := by decide +kernel
theorem dL_isSeized_7 : decode cL_isSeized 7 = .ok (.iload_n 2, 1) := by decide +kernel
theorem dL_isSeized_8 : decode cL_isSeized 8 = .ok (.iconst 2, 1) := by decide +kernel
theorem dL_isSeized_9 : decode cL_isSeized 9 = .ok (.invokevirtual 68, 3) := by decide +kernel
theorem dL_isSeized_12 : decode cL_isSeized 12 = .ok (.ladd, 1) := by decide +kernel
theorem dL_isSeized_13 : decode cL_isSeized 13 = .ok (.lstore 5, 2) := by decide +kernel
theorem dL_isSeized_15 : decode cL_isSeized 15 = .ok (.aload_n 0, 1) := by decide +kernel
theorem dL_isSeized_16 : decode cL_isSeized 16 = .ok (.iconst 1, 1) := by decide +kernel
theorem dL_isSeized_17 : decode cL_isSeized 17 = .ok (.invokevirtual 73, 3) := by decide +kernel
theorem dL_isSeized_20 : decode cL_isSeized 20 = .ok (.lstore 7, 2) := by decide +kernel
theorem dL_isSeized_22 : decode cL_isSeized 22 = .ok (.aload_n 0, 1) := by decide +kernel
theorem dL_isSeized_23 : decode cL_isSeized 23 = .ok (.iload_n 2, 1) := by decide +kernel
theorem dL_isSeized_24 : decode cL_isSeized 24 = .ok (.iconst 5, 1) := by decide +kernel
theorem dL_isSeized_25 : decode cL_isSeized 25 = .ok (.invokevirtual 68, 3) := by decide +kernel
theorem dL_isSeized_28 : decode cL_isSeized 28 = .ok (.lstore 9, 2) := by decide +kernel
theorem dL_isSeized_30 : decode cL_isSeized 30 = .ok (.aload_n 0, 1) := by decide +kernel
theorem dL_isSeized_31 : decode cL_isSeized 31 = .ok (.iload_n 2, 1) := by decide +kernel
theorem dL_isSeized_32 : decode cL_isSeized 32 = .ok (.iload_n 3, 1) := by decide +kernel
theorem dL_isSeized_33 : decode cL_isSeized 33 = .ok (.invokestatic 160, 3) := by decide +kernel
theorem dL_isSeized_36 : decode cL_isSeized 36 = .ok (.lstore 11, 2) := by decide +kernel
theorem dL_isSeized_38 : decode cL_isSeized 38 = .ok (.lload 11, 2) := by decide +kernel
theorem dL_isSeized_40 : decode cL_isSeized 40 = .ok (.ldc2_w 24, 3) := by decide +kernel
theorem dL_isSeized_43 : decode cL_isSeized 43 = .ok (.lcmp, 1) := by decide +kernel
theorem dL_isSeized_44 : decode cL_isSeized 44 = .ok (.ifCond .ne 39, 3) := by decide +kernel
theorem dL_isSeized_47 : decode cL_isSeized 47 = .ok (.aload_n 0, 1) := by decide +kernel
theorem dL_isSeized_48 : decode cL_isSeized 48 = .ok (.iconst 1, 1) := by decide +kernel
theorem dL_isSeized_49 : decode cL_isSeized 49 = .ok (.invokevirtual 73, 3) := by decide +kernel
theorem dL_isSeized_52 : decode cL_isSeized 52 = .ok (.lload 7, 2) := by decide +kernel
theorem dL_isSeized_54 : decode cL_isSeized 54 = .ok (.lcmp, 1) := by decide +kernel
theorem dL_isSeized_55 : decode cL_isSeized 55 = .ok (.ifCond .ne 26, 3) := by decide +kernel
theorem dL_isSeized_58 : decode cL_isSeized 58 = .ok (.aload_n 0, 1) := by decide +kernel
theorem dL_isSeized_59 : decode cL_isSeized 59 = .ok (.iload_n 2, 1) := by decide +kernel
theorem dL_isSeized_60 : decode cL_isSeized 60 = .ok (.iconst 1, 1) := by decide +kernel
theorem dL_isSeized_61 : decode cL_isSeized 61 = .ok (.invokevirtual 68, 3) := by decide +kernel
theorem dL_isSeized_64 : decode cL_isSeized 64 = .ok (.aload_n 0, 1) := by decide +kernel
theorem dL_isSeized_65 : decode cL_isSeized 65 = .ok (.iload_n 2, 1) := by decide +kernel
theorem dL_isSeized_66 : decode cL_isSeized 66 = .ok (.iconst 2, 1) := by decide +kernel
theorem dL_isSeized_67 : decode cL_isSeized 67 = .ok (.invokevirtual 68, 3) := by decide +kernel
theorem dL_isSeized_70 : decode cL_isSeized 70 = .ok (.ladd, 1) := by decide +kernel
theorem dL_isSeized_71 : decode cL_isSeized 71 = .ok (.lload 5, 2) := by decide +kernel
theorem dL_isSeized_73 : decode cL_isSeized 73 = .ok (.lcmp, 1) := by decide +kernel
theorem dL_isSeized_74 : decode cL_isSeized 74 = .ok (.ifCond .ne 7, 3) := by decide +kernel
theorem dL_isSeized_77 : decode cL_isSeized 77 = .ok (.iconst 1, 1) := by decide +kernel
theorem dL_isSeized_78 : decode cL_isSeized 78 = .ok (.goto 4, 3) := by decide +kernel
theorem dL_isSeized_81 : decode cL_isSeized 81 = .ok (.iconst 0, 1) := by decide +kernel
theorem dL_isSeized_82 : decode cL_isSeized 82 = .ok (.ireturn, 1) := by decide +kernel
theorem dL_isSeized_83 : decode cL_isSeized 83 = .ok (.aload_n 0, 1) := by decide +kernel
theorem dL_isSeized_84 : decode cL_isSeized 84 = .ok (.iload_n 2, 1) := by decide +kernel
theorem dL_isSeized_85 : decode cL_isSeized 85 = .ok (.iconst 1, 1) := by decide +kernel
theorem dL_isSeized_86 : decode cL_isSeized 86 = .ok (.invokevirtual 68, 3) := by decide +kernel
theorem dL_isSeized_89 : decode cL_isSeized 89 = .ok (.aload_n 0, 1) := by decide +kernel
theorem dL_isSeized_90 : decode cL_isSeized 90 = .ok (.iload_n 2, 1) := by decide +kernel
theorem dL_isSeized_91 : decode cL_isSeized 91 = .ok (.iconst 2, 1) := by decide +kernel
theorem dL_isSeized_92 : decode cL_isSeized 92 = .ok (.invokevirtual 68, 3) := by decide +kernel
theorem dL_isSeized_95 : decode cL_isSeized 95 = .ok (.ladd, 1) := by decide +kernel
theorem dL_isSeized_96 : decode cL_isSeized 96 = .ok (.lstore 13, 2) := by decide +kernel
theorem dL_isSeized_98 : decode cL_isSeized 98 = .ok (.lload 13, 2) := by decide +kernel
theorem dL_isSeized_100 : decode cL_isSeized 100 = .ok (.lconst 0, 1) := by decide +kernel
theorem dL_isSeized_101 : decode cL_isSeized 101 = .ok (.lcmp, 1) := by decide +kernel
theorem dL_isSeized_102 : decode cL_isSeized 102 = .ok (.ifCond .ne 8, 3) := by decide +kernel
theorem dL_isSeized_105 : decode cL_isSeized 105 = .ok (.lload 9, 2) := by decide +kernel
theorem dL_isSeized_107 : decode cL_isSeized 107 = .ok (.goto 4, 3) := by decide +kernel
theorem dL_isSeized_110 : decode cL_isSeized 110 = .ok (.lconst 0, 1) := by decide +kernel
theorem dL_isSeized_111 : decode cL_isSeized 111 = .ok (.lstore 15, 2) := by decide +kernel
theorem dL_isSeized_113 : decode cL_isSeized 113 = .ok (.aload_n 1, 1) := by decide +kernel
theorem dL_isSeized_114 : decode cL_isSeized 114 = .ok (.iconst 0, 1) := by decide +kernel
theorem dL_isSeized_115 : decode cL_isSeized 115 = .ok (.dup2, 1) := by decide +kernel
theorem dL_isSeized_116 : decode cL_isSeized 116 = .ok (.laload, 1) := by decide +kernel
theorem dL_isSeized_117 : decode cL_isSeized 117 = .ok (.lload 11, 2) := by decide +kernel
theorem dL_isSeized_119 : decode cL_isSeized 119 = .ok (.aload_n 0, 1) := by decide +kernel
theorem dL_isSeized_120 : decode cL_isSeized 120 = .ok (.iconst 1, 1) := by decide +kernel
theorem dL_isSeized_121 : decode cL_isSeized 121 = .ok (.invokevirtual 73, 3) := by decide +kernel
theorem dL_isSeized_124 : decode cL_isSeized 124 = .ok (.ladd, 1) := by decide +kernel
theorem dL_isSeized_125 : decode cL_isSeized 125 = .ok (.lload 7, 2) := by decide +kernel
theorem dL_isSeized_127 : decode cL_isSeized 127 = .ok (.lsub, 1) := by decide +kernel
theorem dL_isSeized_128 : decode cL_isSeized 128 = .ok (.lload 15, 2) := by decide +kernel
theorem dL_isSeized_130 : decode cL_isSeized 130 = .ok (.lsub, 1) := by decide +kernel
theorem dL_isSeized_131 : decode cL_isSeized 131 = .ok (.ladd, 1) := by decide +kernel
theorem dL_isSeized_132 : decode cL_isSeized 132 = .ok (.lastore, 1) := by decide +kernel
theorem dL_isSeized_133 : decode cL_isSeized 133 = .ok (.lload 13, 2) := by decide +kernel
theorem dL_isSeized_135 : decode cL_isSeized 135 = .ok (.lload 5, 2) := by decide +kernel
theorem dL_isSeized_137 : decode cL_isSeized 137 = .ok (.lload 11, 2) := by decide +kernel
theorem dL_isSeized_139 : decode cL_isSeized 139 = .ok (.lsub, 1) := by decide +kernel
theorem dL_isSeized_140 : decode cL_isSeized 140 = .ok (.lcmp, 1) := by decide +kernel
theorem dL_isSeized_141 : decode cL_isSeized 141 = .ok (.ifCond .ne 69, 3) := by decide +kernel
theorem dL_isSeized_144 : decode cL_isSeized 144 = .ok (.lload 13, 2) := by decide +kernel
theorem dL_isSeized_146 : decode cL_isSeized 146 = .ok (.lconst 0, 1) := by decide +kernel
theorem dL_isSeized_147 : decode cL_isSeized 147 = .ok (.lcmp, 1) := by decide +kernel
theorem dL_isSeized_148 : decode cL_isSeized 148 = .ok (.ifCond .ne 7, 3) := by decide +kernel
theorem dL_isSeized_151 : decode cL_isSeized 151 = .ok (.iconst 1, 1) := by decide +kernel
theorem dL_isSeized_152 : decode cL_isSeized 152 = .ok (.goto 4, 3) := by decide +kernel
theorem dL_isSeized_155 : decode cL_isSeized 155 = .ok (.iconst 0, 1) := by decide +kernel
theorem dL_isSeized_156 : decode cL_isSeized 156 = .ok (.aload_n 0, 1) := by decide +kernel
theorem dL_isSeized_157 : decode cL_isSeized 157 = .ok (.iload_n 2, 1) := by decide +kernel
theorem dL_isSeized_158 : decode cL_isSeized 158 = .ok (.iconst 0, 1) := by decide +kernel
theorem dL_isSeized_159 : decode cL_isSeized 159 = .ok (.invokevirtual 68, 3) := by decide +kernel
theorem dL_isSeized_162 : decode cL_isSeized 162 = .ok (.lconst 1, 1) := by decide +kernel
theorem dL_isSeized_163 : decode cL_isSeized 163 = .ok (.lcmp, 1) := by decide +kernel
theorem dL_isSeized_164 : decode cL_isSeized 164 = .ok (.ifCond .ne 7, 3) := by decide +kernel
theorem dL_isSeized_167 : decode cL_isSeized 167 = .ok (.iconst 1, 1) := by decide +kernel
theorem dL_isSeized_168 : decode cL_isSeized 168 = .ok (.goto 4, 3) := by decide +kernel
theorem dL_isSeized_171 : decode cL_isSeized 171 = .ok (.iconst 0, 1) := by decide +kernel
theorem dL_isSeized_172 : decode cL_isSeized 172 = .ok (.if_icmp .ne 38, 3) := by decide +kernel
theorem dL_isSeized_175 : decode cL_isSeized 175 = .ok (.lload 13, 2) := by decide +kernel
theorem dL_isSeized_177 : decode cL_isSeized 177 = .ok (.lconst 0, 1) := by decide +kernel
theorem dL_isSeized_178 : decode cL_isSeized 178 = .ok (.lcmp, 1) := by decide +kernel
theorem dL_isSeized_179 : decode cL_isSeized 179 = .ok (.ifCond .eq 14, 3) := by decide +kernel
theorem dL_isSeized_182 : decode cL_isSeized 182 = .ok (.aload_n 0, 1) := by decide +kernel
theorem dL_isSeized_183 : decode cL_isSeized 183 = .ok (.iconst 1, 1) := by decide +kernel
theorem dL_isSeized_184 : decode cL_isSeized 184 = .ok (.invokevirtual 73, 3) := by decide +kernel
theorem dL_isSeized_187 : decode cL_isSeized 187 = .ok (.lload 7, 2) := by decide +kernel
theorem dL_isSeized_189 : decode cL_isSeized 189 = .ok (.lcmp, 1) := by decide +kernel
theorem dL_isSeized_190 : decode cL_isSeized 190 = .ok (.ifCond .ne 20, 3) := by decide +kernel
theorem dL_isSeized_193 : decode cL_isSeized 193 = .ok (.aload_n 0, 1) := by decide +kernel
theorem dL_isSeized_194 : decode cL_isSeized 194 = .ok (.iload_n 2, 1) := by decide +kernel
theorem dL_isSeized_195 : decode cL_isSeized 195 = .ok (.iload_n 3, 1) := by decide +kernel
theorem dL_isSeized_196 : decode cL_isSeized 196 = .ok (.invokestatic 160, 3) := by decide +kernel
theorem dL_isSeized_199 : decode cL_isSeized 199 = .ok (.ldc2_w 24, 3) := by decide +kernel
theorem dL_isSeized_202 : decode cL_isSeized 202 = .ok (.lcmp, 1) := by decide +kernel
theorem dL_isSeized_203 : decode cL_isSeized 203 = .ok (.ifCond .ne 7, 3) := by decide +kernel
theorem dL_isSeized_206 : decode cL_isSeized 206 = .ok (.iconst 1, 1) := by decide +kernel
theorem dL_isSeized_207 : decode cL_isSeized 207 = .ok (.goto 4, 3) := by decide +kernel
theorem dL_isSeized_210 : decode cL_isSeized 210 = .ok (.iconst 0, 1) := by decide +kernel
theorem dL_isSeized_211 : decode cL_isSeized 211 = .ok (.ireturn, 1) := by decide +kernel
theorem dL_isReviewed_0 : decode cL_isReviewed 0 = .ok (.aload_n 0, 1) := by decide +kernel
theorem dL_isReviewed_1 : decode cL_isReviewed 1 = .ok (.iconst 4, 1) := by decide +kernel
theorem dL_isReviewed_2 : decode cL_isReviewed 2 = .ok (.invokevirtual 73, 3) := by decide +kernel
theorem dL_isReviewed_5 : decode cL_isReviewed 5 = .ok (.lstore_n 3, 1) := by decide +kernel
theorem dL_isReviewed_6 : decode cL_isReviewed 6 = .ok (.aload_n 0, 1) := by decide +kernel
theorem dL_isReviewed_7 : decode cL_isReviewed 7 = .ok (.iconst 1, 1) := by decide +kernel
theorem dL_isReviewed_8 : decode cL_isReviewed 8 = .ok (.invokevirtual 73, 3) := by decide +kernel
theorem dL_isReviewed_11 : decode cL_isReviewed 11 = .ok (.lstore 5, 2) := by decide +kernel
theorem dL_isReviewed_13 : decode cL_isReviewed 13 = .ok (.aload_n 0, 1) := by decide +kernel
theorem dL_isReviewed_14 : decode cL_isReviewed 14 = .ok (.iconst 0, 1) := by decide +kernel
theorem dL_isReviewed_15 : decode cL_isReviewed 15 = .ok (.iconst 0, 1) := by decide +kernel
theorem dL_isReviewed_16 : decode cL_isReviewed 16 = .ok (.iconst 4, 1) := by decide +kernel
theorem dL_isReviewed_17 : decode cL_isReviewed 17 = .ok (.invokestatic 111, 3) := by decide +kernel
theorem dL_isReviewed_20 : decode cL_isReviewed 20 = .ok (.istore 7, 2) := by decide +kernel
theorem dL_isReviewed_22 : decode cL_isReviewed 22 = .ok (.iload 7, 2) := by decide +kernel
theorem dL_isReviewed_24 : decode cL_isReviewed 24 = .ok (.ifCond .eq 60, 3) := by decide +kernel
theorem dL_isReviewed_27 : decode cL_isReviewed 27 = .ok (.aload_n 0, 1) := by decide +kernel
theorem dL_isReviewed_28 : decode cL_isReviewed 28 = .ok (.iconst 4, 1) := by decide +kernel
theorem dL_isReviewed_29 : decode cL_isReviewed 29 = .ok (.invokevirtual 73, 3) := by decide +kernel
theorem dL_isReviewed_32 : decode cL_isReviewed 32 = .ok (.lload_n 3, 1) := by decide +kernel
theorem dL_isReviewed_33 : decode cL_isReviewed 33 = .ok (.lcmp, 1) := by decide +kernel
theorem dL_isReviewed_34 : decode cL_isReviewed 34 = .ok (.ifCond .ne 48, 3) := by decide +kernel
theorem dL_isReviewed_37 : decode cL_isReviewed 37 = .ok (.aload_n 0, 1) := by decide +kernel
theorem dL_isReviewed_38 : decode cL_isReviewed 38 = .ok (.iconst 1, 1) := by decide +kernel
theorem dL_isReviewed_39 : decode cL_isReviewed 39 = .ok (.invokevirtual 73, 3) := by decide +kernel
theorem dL_isReviewed_42 : decode cL_isReviewed 42 = .ok (.lload 5, 2) := by decide +kernel
theorem dL_isReviewed_44 : decode cL_isReviewed 44 = .ok (.lcmp, 1) := by decide +kernel
theorem dL_isReviewed_45 : decode cL_isReviewed 45 = .ok (.ifCond .ne 37, 3) := by decide +kernel
theorem dL_isReviewed_48 : decode cL_isReviewed 48 = .ok (.iload 7, 2) := by decide +kernel
theorem dL_isReviewed_50 : decode cL_isReviewed 50 = .ok (.bipush (-2), 2) := by decide +kernel
theorem dL_isReviewed_52 : decode cL_isReviewed 52 = .ok (.if_icmp .ne 20, 3) := by decide +kernel
theorem dL_isReviewed_55 : decode cL_isReviewed 55 = .ok (.lload_n 3, 1) := by decide +kernel
theorem dL_isReviewed_56 : decode cL_isReviewed 56 = .ok (.lconst 0, 1) := by decide +kernel
theorem dL_isReviewed_57 : decode cL_isReviewed 57 = .ok (.lcmp, 1) := by decide +kernel
theorem dL_isReviewed_58 : decode cL_isReviewed 58 = .ok (.ifCond .eq 20, 3) := by decide +kernel
theorem dL_isReviewed_61 : decode cL_isReviewed 61 = .ok (.aload_n 1, 1) := by decide +kernel
theorem dL_isReviewed_62 : decode cL_isReviewed 62 = .ok (.iconst 0, 1) := by decide +kernel
theorem dL_isReviewed_63 : decode cL_isReviewed 63 = .ok (.iaload, 1) := by decide +kernel
theorem dL_isReviewed_64 : decode cL_isReviewed 64 = .ok (.bipush 40, 2) := by decide +kernel
theorem dL_isReviewed_66 : decode cL_isReviewed 66 = .ok (.if_icmp .ne 16, 3) := by decide +kernel
theorem dL_isReviewed_69 : decode cL_isReviewed 69 = .ok (.goto 9, 3) := by decide +kernel
theorem dL_isReviewed_72 : decode cL_isReviewed 72 = .ok (.iload 7, 2) := by decide +kernel
theorem dL_isReviewed_74 : decode cL_isReviewed 74 = .ok (.iconst 4, 1) := by decide +kernel
theorem dL_isReviewed_75 : decode cL_isReviewed 75 = .ok (.if_icmp .ge 7, 3) := by decide +kernel
theorem dL_isReviewed_78 : decode cL_isReviewed 78 = .ok (.iconst 1, 1) := by decide +kernel
theorem dL_isReviewed_79 : decode cL_isReviewed 79 = .ok (.goto 4, 3) := by decide +kernel
theorem dL_isReviewed_82 : decode cL_isReviewed 82 = .ok (.iconst 0, 1) := by decide +kernel
theorem dL_isReviewed_83 : decode cL_isReviewed 83 = .ok (.ireturn, 1) := by decide +kernel
theorem dL_isReviewed_84 : decode cL_isReviewed 84 = .ok (.aload_n 2, 1) := by decide +kernel
theorem dL_isReviewed_85 : decode cL_isReviewed 85 = .ok (.iconst 0, 1) := by decide +kernel
theorem dL_isReviewed_86 : decode cL_isReviewed 86 = .ok (.dup2, 1) := by decide +kernel
theorem dL_isReviewed_87 : decode cL_isReviewed 87 = .ok (.laload, 1) := by decide +kernel
theorem dL_isReviewed_88 : decode cL_isReviewed 88 = .ok (.aload_n 1, 1) := by decide +kernel
theorem dL_isReviewed_89 : decode cL_isReviewed 89 = .ok (.iconst 4, 1) := by decide +kernel
theorem dL_isReviewed_90 : decode cL_isReviewed 90 = .ok (.iaload, 1) := by decide +kernel
theorem dL_isReviewed_91 : decode cL_isReviewed 91 = .ok (.i2l, 1) := by decide +kernel
theorem dL_isReviewed_92 : decode cL_isReviewed 92 = .ok (.ladd, 1) := by decide +kernel
theorem dL_isReviewed_93 : decode cL_isReviewed 93 = .ok (.lastore, 1) := by decide +kernel
theorem dL_isReviewed_94 : decode cL_isReviewed 94 = .ok (.aload_n 1, 1) := by decide +kernel
theorem dL_isReviewed_95 : decode cL_isReviewed 95 = .ok (.iconst 0, 1) := by decide +kernel
theorem dL_isReviewed_96 : decode cL_isReviewed 96 = .ok (.dup2, 1) := by decide +kernel
theorem dL_isReviewed_97 : decode cL_isReviewed 97 = .ok (.iaload, 1) := by decide +kernel
theorem dL_isReviewed_98 : decode cL_isReviewed 98 = .ok (.iconst 1, 1) := by decide +kernel
theorem dL_isReviewed_99 : decode cL_isReviewed 99 = .ok (.iadd, 1) := by decide +kernel
theorem dL_isReviewed_100 : decode cL_isReviewed 100 = .ok (.iastore, 1) := by decide +kernel
theorem dL_isReviewed_101 : decode cL_isReviewed 101 = .ok (.aload_n 0, 1) := by decide +kernel
theorem dL_isReviewed_102 : decode cL_isReviewed 102 = .ok (.iconst 4, 1) := by decide +kernel
theorem dL_isReviewed_103 : decode cL_isReviewed 103 = .ok (.invokevirtual 73, 3) := by decide +kernel
theorem dL_isReviewed_106 : decode cL_isReviewed 106 = .ok (.lload_n 3, 1) := by decide +kernel
theorem dL_isReviewed_107 : decode cL_isReviewed 107 = .ok (.lconst 1, 1) := by decide +kernel
theorem dL_isReviewed_108 : decode cL_isReviewed 108 = .ok (.lsub, 1) := by decide +kernel
theorem dL_isReviewed_109 : decode cL_isReviewed 109 = .ok (.lcmp, 1) := by decide +kernel
theorem dL_isReviewed_110 : decode cL_isReviewed 110 = .ok (.ifCond .ne 64, 3) := by decide +kernel
theorem dL_isReviewed_113 : decode cL_isReviewed 113 = .ok (.aload_n 0, 1) := by decide +kernel
theorem dL_isReviewed_114 : decode cL_isReviewed 114 = .ok (.iconst 1, 1) := by decide +kernel
theorem dL_isReviewed_115 : decode cL_isReviewed 115 = .ok (.invokevirtual 73, 3) := by decide +kernel
theorem dL_isReviewed_118 : decode cL_isReviewed 118 = .ok (.lload 5, 2) := by decide +kernel
theorem dL_isReviewed_120 : decode cL_isReviewed 120 = .ok (.aload_n 1, 1) := by decide +kernel
theorem dL_isReviewed_121 : decode cL_isReviewed 121 = .ok (.iconst 4, 1) := by decide +kernel
theorem dL_isReviewed_122 : decode cL_isReviewed 122 = .ok (.iaload, 1) := by decide +kernel
theorem dL_isReviewed_123 : decode cL_isReviewed 123 = .ok (.i2l, 1) := by decide +kernel
theorem dL_isReviewed_124 : decode cL_isReviewed 124 = .ok (.ladd, 1) := by decide +kernel
theorem dL_isReviewed_125 : decode cL_isReviewed 125 = .ok (.lcmp, 1) := by decide +kernel
theorem dL_isReviewed_126 : decode cL_isReviewed 126 = .ok (.ifCond .ne 48, 3) := by decide +kernel
theorem dL_isReviewed_129 : decode cL_isReviewed 129 = .ok (.aload_n 0, 1) := by decide +kernel
theorem dL_isReviewed_130 : decode cL_isReviewed 130 = .ok (.aload_n 1, 1) := by decide +kernel
theorem dL_isReviewed_131 : decode cL_isReviewed 131 = .ok (.iconst 0, 1) := by decide +kernel
theorem dL_isReviewed_132 : decode cL_isReviewed 132 = .ok (.iaload, 1) := by decide +kernel
theorem dL_isReviewed_133 : decode cL_isReviewed 133 = .ok (.iconst 1, 1) := by decide +kernel
theorem dL_isReviewed_134 : decode cL_isReviewed 134 = .ok (.isub, 1) := by decide +kernel
theorem dL_isReviewed_135 : decode cL_isReviewed 135 = .ok (.iconst 1, 1) := by decide +kernel
theorem dL_isReviewed_136 : decode cL_isReviewed 136 = .ok (.invokevirtual 68, 3) := by decide +kernel
theorem dL_isReviewed_139 : decode cL_isReviewed 139 = .ok (.aload_n 1, 1) := by decide +kernel
theorem dL_isReviewed_140 : decode cL_isReviewed 140 = .ok (.iconst 4, 1) := by decide +kernel
theorem dL_isReviewed_141 : decode cL_isReviewed 141 = .ok (.iaload, 1) := by decide +kernel
theorem dL_isReviewed_142 : decode cL_isReviewed 142 = .ok (.i2l, 1) := by decide +kernel
theorem dL_isReviewed_143 : decode cL_isReviewed 143 = .ok (.lcmp, 1) := by decide +kernel
theorem dL_isReviewed_144 : decode cL_isReviewed 144 = .ok (.ifCond .ne 30, 3) := by decide +kernel
theorem dL_isReviewed_147 : decode cL_isReviewed 147 = .ok (.aload_n 0, 1) := by decide +kernel
theorem dL_isReviewed_148 : decode cL_isReviewed 148 = .ok (.aload_n 1, 1) := by decide +kernel
theorem dL_isReviewed_149 : decode cL_isReviewed 149 = .ok (.iconst 0, 1) := by decide +kernel
theorem dL_isReviewed_150 : decode cL_isReviewed 150 = .ok (.iaload, 1) := by decide +kernel
theorem dL_isReviewed_151 : decode cL_isReviewed 151 = .ok (.iconst 1, 1) := by decide +kernel
theorem dL_isReviewed_152 : decode cL_isReviewed 152 = .ok (.isub, 1) := by decide +kernel
theorem dL_isReviewed_153 : decode cL_isReviewed 153 = .ok (.iconst 3, 1) := by decide +kernel
theorem dL_isReviewed_154 : decode cL_isReviewed 154 = .ok (.invokevirtual 68, 3) := by decide +kernel
theorem dL_isReviewed_157 : decode cL_isReviewed 157 = .ok (.aload_n 0, 1) := by decide +kernel
theorem dL_isReviewed_158 : decode cL_isReviewed 158 = .ok (.iconst 0, 1) := by decide +kernel
theorem dL_isReviewed_159 : decode cL_isReviewed 159 = .ok (.invokevirtual 73, 3) := by decide +kernel
theorem dL_isReviewed_162 : decode cL_isReviewed 162 = .ok (.ldc2_w 163, 3) := by decide +kernel
theorem dL_isReviewed_165 : decode cL_isReviewed 165 = .ok (.ladd, 1) := by decide +kernel
theorem dL_isReviewed_166 : decode cL_isReviewed 166 = .ok (.lcmp, 1) := by decide +kernel
theorem dL_isReviewed_167 : decode cL_isReviewed 167 = .ok (.ifCond .ne 7, 3) := by decide +kernel
theorem dL_isReviewed_170 : decode cL_isReviewed 170 = .ok (.iconst 1, 1) := by decide +kernel
theorem dL_isReviewed_171 : decode cL_isReviewed 171 = .ok (.goto 4, 3) := by decide +kernel
theorem dL_isReviewed_174 : decode cL_isReviewed 174 = .ok (.iconst 0, 1) := by decide +kernel
theorem dL_isReviewed_175 : decode cL_isReviewed 175 = .ok (.ireturn, 1) := by decide +kernel
theorem dL_isWhole_0 : decode cL_isWhole 0 = .ok (.aload_n 0, 1) := by decide +kernel
theorem dL_isWhole_1 : decode cL_isWhole 1 = .ok (.iconst 1, 1) := by decide +kernel
theorem dL_isWhole_2 : decode cL_isWhole 2 = .ok (.invokevirtual 73, 3) := by decide +kernel
theorem dL_isWhole_5 : decode cL_isWhole 5 = .ok (.lstore_n 3, 1) := by decide +kernel
theorem dL_isWhole_6 : decode cL_isWhole 6 = .ok (.lconst 0, 1) := by decide +kernel
theorem dL_isWhole_7 : decode cL_isWhole 7 = .ok (.lstore 5, 2) := by decide +kernel
theorem dL_isWhole_9 : decode cL_isWhole 9 = .ok (.iconst 1, 1) := by decide +kernel
theorem dL_isWhole_10 : decode cL_isWhole 10 = .ok (.istore 7, 2) := by decide +kernel
theorem dL_isWhole_12 : decode cL_isWhole 12 = .ok (.iconst 0, 1) := by decide +kernel
theorem dL_isWhole_13 : decode cL_isWhole 13 = .ok (.istore 8, 2) := by decide +kernel
theorem dL_isWhole_15 : decode cL_isWhole 15 = .ok (.iload 8, 2) := by decide +kernel
theorem dL_isWhole_17 : decode cL_isWhole 17 = .ok (.aload_n 1, 1) := by decide +kernel
theorem dL_isWhole_18 : decode cL_isWhole 18 = .ok (.iconst 0, 1) := by decide +kernel
theorem dL_isWhole_19 : decode cL_isWhole 19 = .ok (.iaload, 1) := by decide +kernel
theorem dL_isWhole_20 : decode cL_isWhole 20 = .ok (.if_icmp .ge 238, 3) := by decide +kernel
theorem dL_isWhole_23 : decode cL_isWhole 23 = .ok (.iload 7, 2) := by decide +kernel
theorem dL_isWhole_25 : decode cL_isWhole 25 = .ok (.ifCond .eq 233, 3) := by decide +kernel
theorem dL_isWhole_28 : decode cL_isWhole 28 = .ok (.lload_n 3, 1) := by decide +kernel
theorem dL_isWhole_29 : decode cL_isWhole 29 = .ok (.aload_n 0, 1) := by decide +kernel
theorem dL_isWhole_30 : decode cL_isWhole 30 = .ok (.iload 8, 2) := by decide +kernel
theorem dL_isWhole_32 : decode cL_isWhole 32 = .ok (.iconst 5, 1) := by decide +kernel
theorem dL_isWhole_33 : decode cL_isWhole 33 = .ok (.invokevirtual 68, 3) := by decide +kernel
theorem dL_isWhole_36 : decode cL_isWhole 36 = .ok (.aload_n 0, 1) := by decide +kernel
theorem dL_isWhole_37 : decode cL_isWhole 37 = .ok (.iload 8, 2) := by decide +kernel
theorem dL_isWhole_39 : decode cL_isWhole 39 = .ok (.iconst 4, 1) := by decide +kernel
theorem dL_isWhole_40 : decode cL_isWhole 40 = .ok (.invokevirtual 68, 3) := by decide +kernel
theorem dL_isWhole_43 : decode cL_isWhole 43 = .ok (.ladd, 1) := by decide +kernel
theorem dL_isWhole_44 : decode cL_isWhole 44 = .ok (.ladd, 1) := by decide +kernel
theorem dL_isWhole_45 : decode cL_isWhole 45 = .ok (.lstore_n 3, 1) := by decide +kernel
theorem dL_isWhole_46 : decode cL_isWhole 46 = .ok (.lload 5, 2) := by decide +kernel
theorem dL_isWhole_48 : decode cL_isWhole 48 = .ok (.aload_n 0, 1) := by decide +kernel
theorem dL_isWhole_49 : decode cL_isWhole 49 = .ok (.iload 8, 2) := by decide +kernel
theorem dL_isWhole_51 : decode cL_isWhole 51 = .ok (.iconst 0, 1) := by decide +kernel
theorem dL_isWhole_52 : decode cL_isWhole 52 = .ok (.invokevirtual 68, 3) := by decide +kernel
theorem dL_isWhole_55 : decode cL_isWhole 55 = .ok (.lconst 0, 1) := by decide +kernel
theorem dL_isWhole_56 : decode cL_isWhole 56 = .ok (.lcmp, 1) := by decide +kernel
theorem dL_isWhole_57 : decode cL_isWhole 57 = .ok (.ifCond .ne 21, 3) := by decide +kernel
theorem dL_isWhole_60 : decode cL_isWhole 60 = .ok (.aload_n 0, 1) := by decide +kernel
theorem dL_isWhole_61 : decode cL_isWhole 61 = .ok (.iload 8, 2) := by decide +kernel
theorem dL_isWhole_63 : decode cL_isWhole 63 = .ok (.iconst 1, 1) := by decide +kernel
theorem dL_isWhole_64 : decode cL_isWhole 64 = .ok (.invokevirtual 68, 3) := by decide +kernel
theorem dL_isWhole_67 : decode cL_isWhole 67 = .ok (.aload_n 0, 1) := by decide +kernel
theorem dL_isWhole_68 : decode cL_isWhole 68 = .ok (.iload 8, 2) := by decide +kernel
theorem dL_isWhole_70 : decode cL_isWhole 70 = .ok (.iconst 2, 1) := by decide +kernel
theorem dL_isWhole_71 : decode cL_isWhole 71 = .ok (.invokevirtual 68, 3) := by decide +kernel
theorem dL_isWhole_74 : decode cL_isWhole 74 = .ok (.ladd, 1) := by decide +kernel
theorem dL_isWhole_75 : decode cL_isWhole 75 = .ok (.goto 4, 3) := by decide +kernel
theorem dL_isWhole_78 : decode cL_isWhole 78 = .ok (.lconst 0, 1) := by decide +kernel
theorem dL_isWhole_79 : decode cL_isWhole 79 = .ok (.ladd, 1) := by decide +kernel
theorem dL_isWhole_80 : decode cL_isWhole 80 = .ok (.lstore 5, 2) := by decide +kernel
theorem dL_isWhole_82 : decode cL_isWhole 82 = .ok (.aload_n 0, 1) := by decide +kernel
theorem dL_isWhole_83 : decode cL_isWhole 83 = .ok (.iload 8, 2) := by decide +kernel
theorem dL_isWhole_85 : decode cL_isWhole 85 = .ok (.iconst 1, 1) := by decide +kernel
theorem dL_isWhole_86 : decode cL_isWhole 86 = .ok (.invokevirtual 68, 3) := by decide +kernel
theorem dL_isWhole_89 : decode cL_isWhole 89 = .ok (.lconst 0, 1) := by decide +kernel
theorem dL_isWhole_90 : decode cL_isWhole 90 = .ok (.lcmp, 1) := by decide +kernel
theorem dL_isWhole_91 : decode cL_isWhole 91 = .ok (.ifCond .lt 158, 3) := by decide +kernel
theorem dL_isWhole_94 : decode cL_isWhole 94 = .ok (.aload_n 0, 1) := by decide +kernel
theorem dL_isWhole_95 : decode cL_isWhole 95 = .ok (.iload 8, 2) := by decide +kernel
theorem dL_isWhole_97 : decode cL_isWhole 97 = .ok (.iconst 2, 1) := by decide +kernel
theorem dL_isWhole_98 : decode cL_isWhole 98 = .ok (.invokevirtual 68, 3) := by decide +kernel
theorem dL_isWhole_101 : decode cL_isWhole 101 = .ok (.lconst 0, 1) := by decide +kernel
theorem dL_isWhole_102 : decode cL_isWhole 102 = .ok (.lcmp, 1) := by decide +kernel
theorem dL_isWhole_103 : decode cL_isWhole 103 = .ok (.ifCond .lt 146, 3) := by decide +kernel
theorem dL_isWhole_106 : decode cL_isWhole 106 = .ok (.aload_n 0, 1) := by decide +kernel
theorem dL_isWhole_107 : decode cL_isWhole 107 = .ok (.iload 8, 2) := by decide +kernel
theorem dL_isWhole_109 : decode cL_isWhole 109 = .ok (.iconst 5, 1) := by decide +kernel
theorem dL_isWhole_110 : decode cL_isWhole 110 = .ok (.invokevirtual 68, 3) := by decide +kernel
theorem dL_isWhole_113 : decode cL_isWhole 113 = .ok (.lconst 0, 1) := by decide +kernel
theorem dL_isWhole_114 : decode cL_isWhole 114 = .ok (.lcmp, 1) := by decide +kernel
theorem dL_isWhole_115 : decode cL_isWhole 115 = .ok (.ifCond .lt 134, 3) := by decide +kernel
theorem dL_isWhole_118 : decode cL_isWhole 118 = .ok (.aload_n 0, 1) := by decide +kernel
theorem dL_isWhole_119 : decode cL_isWhole 119 = .ok (.iload 8, 2) := by decide +kernel
theorem dL_isWhole_121 : decode cL_isWhole 121 = .ok (.invokevirtual 165, 3) := by decide +kernel
theorem dL_isWhole_124 : decode cL_isWhole 124 = .ok (.aload_n 0, 1) := by decide +kernel
theorem dL_isWhole_125 : decode cL_isWhole 125 = .ok (.iload 8, 2) := by decide +kernel
theorem dL_isWhole_127 : decode cL_isWhole 127 = .ok (.iconst 4, 1) := by decide +kernel
theorem dL_isWhole_128 : decode cL_isWhole 128 = .ok (.invokevirtual 68, 3) := by decide +kernel
theorem dL_isWhole_131 : decode cL_isWhole 131 = .ok (.lcmp, 1) := by decide +kernel
theorem dL_isWhole_132 : decode cL_isWhole 132 = .ok (.ifCond .ne 117, 3) := by decide +kernel
theorem dL_isWhole_135 : decode cL_isWhole 135 = .ok (.aload_n 0, 1) := by decide +kernel
theorem dL_isWhole_136 : decode cL_isWhole 136 = .ok (.iload 8, 2) := by decide +kernel
theorem dL_isWhole_138 : decode cL_isWhole 138 = .ok (.iconst 0, 1) := by decide +kernel
theorem dL_isWhole_139 : decode cL_isWhole 139 = .ok (.invokevirtual 68, 3) := by decide +kernel
theorem dL_isWhole_142 : decode cL_isWhole 142 = .ok (.lconst 0, 1) := by decide +kernel
theorem dL_isWhole_143 : decode cL_isWhole 143 = .ok (.lcmp, 1) := by decide +kernel
theorem dL_isWhole_144 : decode cL_isWhole 144 = .ok (.ifCond .eq 27, 3) := by decide +kernel
theorem dL_isWhole_147 : decode cL_isWhole 147 = .ok (.aload_n 0, 1) := by decide +kernel
theorem dL_isWhole_148 : decode cL_isWhole 148 = .ok (.iload 8, 2) := by decide +kernel
theorem dL_isWhole_150 : decode cL_isWhole 150 = .ok (.iconst 0, 1) := by decide +kernel
theorem dL_isWhole_151 : decode cL_isWhole 151 = .ok (.invokevirtual 155, 3) := by decide +kernel
theorem dL_isWhole_154 : decode cL_isWhole 154 = .ok (.lconst 0, 1) := by decide +kernel
theorem dL_isWhole_155 : decode cL_isWhole 155 = .ok (.lcmp, 1) := by decide +kernel
theorem dL_isWhole_156 : decode cL_isWhole 156 = .ok (.ifCond .ne 93, 3) := by decide +kernel
theorem dL_isWhole_159 : decode cL_isWhole 159 = .ok (.aload_n 0, 1) := by decide +kernel
theorem dL_isWhole_160 : decode cL_isWhole 160 = .ok (.iload 8, 2) := by decide +kernel
theorem dL_isWhole_162 : decode cL_isWhole 162 = .ok (.iconst 5, 1) := by decide +kernel
theorem dL_isWhole_163 : decode cL_isWhole 163 = .ok (.invokevirtual 68, 3) := by decide +kernel
theorem dL_isWhole_166 : decode cL_isWhole 166 = .ok (.lconst 0, 1) := by decide +kernel
theorem dL_isWhole_167 : decode cL_isWhole 167 = .ok (.lcmp, 1) := by decide +kernel
theorem dL_isWhole_168 : decode cL_isWhole 168 = .ok (.ifCond .ne 81, 3) := by decide +kernel
theorem dL_isWhole_171 : decode cL_isWhole 171 = .ok (.aload_n 0, 1) := by decide +kernel
theorem dL_isWhole_172 : decode cL_isWhole 172 = .ok (.iload 8, 2) := by decide +kernel
theorem dL_isWhole_174 : decode cL_isWhole 174 = .ok (.iconst 0, 1) := by decide +kernel
theorem dL_isWhole_175 : decode cL_isWhole 175 = .ok (.invokevirtual 68, 3) := by decide +kernel
theorem dL_isWhole_178 : decode cL_isWhole 178 = .ok (.lconst 0, 1) := by decide +kernel
theorem dL_isWhole_179 : decode cL_isWhole 179 = .ok (.lcmp, 1) := by decide +kernel
theorem dL_isWhole_180 : decode cL_isWhole 180 = .ok (.ifCond .ne 45, 3) := by decide +kernel
theorem dL_isWhole_183 : decode cL_isWhole 183 = .ok (.aload_n 0, 1) := by decide +kernel
theorem dL_isWhole_184 : decode cL_isWhole 184 = .ok (.iload 8, 2) := by decide +kernel
theorem dL_isWhole_186 : decode cL_isWhole 186 = .ok (.iconst 0, 1) := by decide +kernel
theorem dL_isWhole_187 : decode cL_isWhole 187 = .ok (.invokevirtual 155, 3) := by decide +kernel
theorem dL_isWhole_190 : decode cL_isWhole 190 = .ok (.aload_n 0, 1) := by decide +kernel
theorem dL_isWhole_191 : decode cL_isWhole 191 = .ok (.iload 8, 2) := by decide +kernel
theorem dL_isWhole_193 : decode cL_isWhole 193 = .ok (.iconst 1, 1) := by decide +kernel
theorem dL_isWhole_194 : decode cL_isWhole 194 = .ok (.invokevirtual 68, 3) := by decide +kernel
theorem dL_isWhole_197 : decode cL_isWhole 197 = .ok (.aload_n 0, 1) := by decide +kernel
theorem dL_isWhole_198 : decode cL_isWhole 198 = .ok (.iload 8, 2) := by decide +kernel
theorem dL_isWhole_200 : decode cL_isWhole 200 = .ok (.iconst 2, 1) := by decide +kernel
theorem dL_isWhole_201 : decode cL_isWhole 201 = .ok (.invokevirtual 68, 3) := by decide +kernel
theorem dL_isWhole_204 : decode cL_isWhole 204 = .ok (.ladd, 1) := by decide +kernel
theorem dL_isWhole_205 : decode cL_isWhole 205 = .ok (.lcmp, 1) := by decide +kernel
theorem dL_isWhole_206 : decode cL_isWhole 206 = .ok (.ifCond .ge 19, 3) := by decide +kernel
theorem dL_isWhole_209 : decode cL_isWhole 209 = .ok (.aload_n 0, 1) := by decide +kernel
theorem dL_isWhole_210 : decode cL_isWhole 210 = .ok (.iload 8, 2) := by decide +kernel
theorem dL_isWhole_212 : decode cL_isWhole 212 = .ok (.iconst 3, 1) := by decide +kernel
theorem dL_isWhole_213 : decode cL_isWhole 213 = .ok (.invokevirtual 68, 3) := by decide +kernel
theorem dL_isWhole_216 : decode cL_isWhole 216 = .ok (.aload_n 0, 1) := by decide +kernel
theorem dL_isWhole_217 : decode cL_isWhole 217 = .ok (.iconst 0, 1) := by decide +kernel
theorem dL_isWhole_218 : decode cL_isWhole 218 = .ok (.invokevirtual 73, 3) := by decide +kernel
theorem dL_isWhole_221 : decode cL_isWhole 221 = .ok (.lcmp, 1) := by decide +kernel
theorem dL_isWhole_222 : decode cL_isWhole 222 = .ok (.ifCond .gt 27, 3) := by decide +kernel
theorem dL_isWhole_225 : decode cL_isWhole 225 = .ok (.aload_n 0, 1) := by decide +kernel
theorem dL_isWhole_226 : decode cL_isWhole 226 = .ok (.iload 8, 2) := by decide +kernel
theorem dL_isWhole_228 : decode cL_isWhole 228 = .ok (.iconst 0, 1) := by decide +kernel
theorem dL_isWhole_229 : decode cL_isWhole 229 = .ok (.invokevirtual 155, 3) := by decide +kernel
theorem dL_isWhole_232 : decode cL_isWhole 232 = .ok (.aload_n 0, 1) := by decide +kernel
theorem dL_isWhole_233 : decode cL_isWhole 233 = .ok (.iload 8, 2) := by decide +kernel
theorem dL_isWhole_235 : decode cL_isWhole 235 = .ok (.sipush 900, 3) := by decide +kernel
theorem dL_isWhole_238 : decode cL_isWhole 238 = .ok (.invokevirtual 155, 3) := by decide +kernel
theorem dL_isWhole_241 : decode cL_isWhole 241 = .ok (.lcmp, 1) := by decide +kernel
theorem dL_isWhole_242 : decode cL_isWhole 242 = .ok (.ifCond .lt 7, 3) := by decide +kernel
theorem dL_isWhole_245 : decode cL_isWhole 245 = .ok (.iconst 1, 1) := by decide +kernel
theorem dL_isWhole_246 : decode cL_isWhole 246 = .ok (.goto 4, 3) := by decide +kernel
theorem dL_isWhole_249 : decode cL_isWhole 249 = .ok (.iconst 0, 1) := by decide +kernel
theorem dL_isWhole_250 : decode cL_isWhole 250 = .ok (.istore 7, 2) := by decide +kernel
theorem dL_isWhole_252 : decode cL_isWhole 252 = .ok (.iinc 8 1, 3) := by decide +kernel
theorem dL_isWhole_255 : decode cL_isWhole 255 = .ok (.goto (-240), 3) := by decide +kernel
theorem dL_isWhole_258 : decode cL_isWhole 258 = .ok (.iload 7, 2) := by decide +kernel
theorem dL_isWhole_260 : decode cL_isWhole 260 = .ok (.ifCond .eq 62, 3) := by decide +kernel
theorem dL_isWhole_263 : decode cL_isWhole 263 = .ok (.lload_n 3, 1) := by decide +kernel
theorem dL_isWhole_264 : decode cL_isWhole 264 = .ok (.aload_n 2, 1) := by decide +kernel
theorem dL_isWhole_265 : decode cL_isWhole 265 = .ok (.iconst 0, 1) := by decide +kernel
theorem dL_isWhole_266 : decode cL_isWhole 266 = .ok (.laload, 1) := by decide +kernel
theorem dL_isWhole_267 : decode cL_isWhole 267 = .ok (.lcmp, 1) := by decide +kernel
theorem dL_isWhole_268 : decode cL_isWhole 268 = .ok (.ifCond .ne 54, 3) := by decide +kernel
theorem dL_isWhole_271 : decode cL_isWhole 271 = .ok (.aload_n 0, 1) := by decide +kernel
theorem dL_isWhole_272 : decode cL_isWhole 272 = .ok (.iconst 3, 1) := by decide +kernel
theorem dL_isWhole_273 : decode cL_isWhole 273 = .ok (.invokevirtual 73, 3) := by decide +kernel
theorem dL_isWhole_276 : decode cL_isWhole 276 = .ok (.lload 5, 2) := by decide +kernel
theorem dL_isWhole_278 : decode cL_isWhole 278 = .ok (.lcmp, 1) := by decide +kernel
theorem dL_isWhole_279 : decode cL_isWhole 279 = .ok (.ifCond .gt 43, 3) := by decide +kernel
theorem dL_isWhole_282 : decode cL_isWhole 282 = .ok (.aload_n 0, 1) := by decide +kernel
theorem dL_isWhole_283 : decode cL_isWhole 283 = .ok (.iconst 3, 1) := by decide +kernel
theorem dL_isWhole_284 : decode cL_isWhole 284 = .ok (.invokevirtual 73, 3) := by decide +kernel
theorem dL_isWhole_287 : decode cL_isWhole 287 = .ok (.lconst 0, 1) := by decide +kernel
theorem dL_isWhole_288 : decode cL_isWhole 288 = .ok (.lcmp, 1) := by decide +kernel
theorem dL_isWhole_289 : decode cL_isWhole 289 = .ok (.ifCond .lt 33, 3) := by decide +kernel
theorem dL_isWhole_292 : decode cL_isWhole 292 = .ok (.aload_n 0, 1) := by decide +kernel
theorem dL_isWhole_293 : decode cL_isWhole 293 = .ok (.iconst 2, 1) := by decide +kernel
theorem dL_isWhole_294 : decode cL_isWhole 294 = .ok (.invokevirtual 168, 3) := by decide +kernel
theorem dL_isWhole_297 : decode cL_isWhole 297 = .ok (.ifCond .eq 21, 3) := by decide +kernel
theorem dL_isWhole_300 : decode cL_isWhole 300 = .ok (.aload_n 0, 1) := by decide +kernel
theorem dL_isWhole_301 : decode cL_isWhole 301 = .ok (.iconst 1, 1) := by decide +kernel
theorem dL_isWhole_302 : decode cL_isWhole 302 = .ok (.invokevirtual 168, 3) := by decide +kernel
theorem dL_isWhole_305 : decode cL_isWhole 305 = .ok (.ifCond .ne 13, 3) := by decide +kernel
theorem dL_isWhole_308 : decode cL_isWhole 308 = .ok (.aload_n 0, 1) := by decide +kernel
theorem dL_isWhole_309 : decode cL_isWhole 309 = .ok (.iconst 3, 1) := by decide +kernel
theorem dL_isWhole_310 : decode cL_isWhole 310 = .ok (.invokevirtual 73, 3) := by decide +kernel
theorem dL_isWhole_313 : decode cL_isWhole 313 = .ok (.lconst 0, 1) := by decide +kernel
theorem dL_isWhole_314 : decode cL_isWhole 314 = .ok (.lcmp, 1) := by decide +kernel
theorem dL_isWhole_315 : decode cL_isWhole 315 = .ok (.ifCond .le 7, 3) := by decide +kernel
theorem dL_isWhole_318 : decode cL_isWhole 318 = .ok (.iconst 1, 1) := by decide +kernel
theorem dL_isWhole_319 : decode cL_isWhole 319 = .ok (.goto 4, 3) := by decide +kernel
theorem dL_isWhole_322 : decode cL_isWhole 322 = .ok (.iconst 0, 1) := by decide +kernel
theorem dL_isWhole_323 : decode cL_isWhole 323 = .ok (.ireturn, 1) := by decide +kernel
theorem dL_law_0 : decode cL_law 0 = .ok (.new 13, 3) := by decide +kernel
theorem dL_law_3 : decode cL_law 3 = .ok (.dup, 1) := by decide +kernel
theorem dL_law_4 : decode cL_law 4 = .ok (.invokespecial 172, 3) := by decide +kernel
theorem dL_law_7 : decode cL_law 7 = .ok (.astore_n 1, 1) := by decide +kernel
theorem dL_law_8 : decode cL_law 8 = .ok (.iconst 5, 1) := by decide +kernel
theorem dL_law_9 : decode cL_law 9 = .ok (.newarray .int, 2) := by decide +kernel
theorem dL_law_11 : decode cL_law 11 = .ok (.astore_n 2, 1) := by decide +kernel
theorem dL_law_12 : decode cL_law 12 = .ok (.iconst 1, 1) := by decide +kernel
theorem dL_law_13 : decode cL_law 13 = .ok (.newarray .long, 2) := by decide +kernel
theorem dL_law_15 : decode cL_law 15 = .ok (.astore_n 3, 1) := by decide +kernel
theorem dL_law_16 : decode cL_law 16 = .ok (.aload_n 1, 1) := by decide +kernel
theorem dL_law_17 : decode cL_law 17 = .ok (.iconst 2, 1) := by decide +kernel
theorem dL_law_18 : decode cL_law 18 = .ok (.invokevirtual 73, 3) := by decide +kernel
theorem dL_law_21 : decode cL_law 21 = .ok (.ldc2_w 173, 3) := by decide +kernel
theorem dL_law_24 : decode cL_law 24 = .ok (.lcmp, 1) := by decide +kernel
theorem dL_law_25 : decode cL_law 25 = .ok (.ifCond .ne 33, 3) := by decide +kernel
theorem dL_law_28 : decode cL_law 28 = .ok (.aload_n 1, 1) := by decide +kernel
theorem dL_law_29 : decode cL_law 29 = .ok (.invokevirtual 175, 3) := by decide +kernel
theorem dL_law_32 : decode cL_law 32 = .ok (.ifCond .eq 26, 3) := by decide +kernel
theorem dL_law_35 : decode cL_law 35 = .ok (.aload_n 1, 1) := by decide +kernel
theorem dL_law_36 : decode cL_law 36 = .ok (.bipush 30, 2) := by decide +kernel
theorem dL_law_38 : decode cL_law 38 = .ok (.invokevirtual 168, 3) := by decide +kernel
theorem dL_law_41 : decode cL_law 41 = .ok (.ifCond .eq 17, 3) := by decide +kernel
theorem dL_law_44 : decode cL_law 44 = .ok (.aload_n 1, 1) := by decide +kernel
theorem dL_law_45 : decode cL_law 45 = .ok (.iconst 4, 1) := by decide +kernel
theorem dL_law_46 : decode cL_law 46 = .ok (.invokevirtual 73, 3) := by decide +kernel
theorem dL_law_49 : decode cL_law 49 = .ok (.lconst 0, 1) := by decide +kernel
theorem dL_law_50 : decode cL_law 50 = .ok (.lcmp, 1) := by decide +kernel
theorem dL_law_51 : decode cL_law 51 = .ok (.ifCond .ne 7, 3) := by decide +kernel
theorem dL_law_54 : decode cL_law 54 = .ok (.iconst 1, 1) := by decide +kernel
theorem dL_law_55 : decode cL_law 55 = .ok (.goto 4, 3) := by decide +kernel
theorem dL_law_58 : decode cL_law 58 = .ok (.iconst 0, 1) := by decide +kernel
theorem dL_law_59 : decode cL_law 59 = .ok (.istore 4, 2) := by decide +kernel
theorem dL_law_61 : decode cL_law 61 = .ok (.aload_n 0, 1) := by decide +kernel
theorem dL_law_62 : decode cL_law 62 = .ok (.arraylength, 1) := by decide +kernel
theorem dL_law_63 : decode cL_law 63 = .ok (.iconst 3, 1) := by decide +kernel
theorem dL_law_64 : decode cL_law 64 = .ok (.idiv, 1) := by decide +kernel
theorem dL_law_65 : decode cL_law 65 = .ok (.bipush 60, 2) := by decide +kernel
theorem dL_law_67 : decode cL_law 67 = .ok (.if_icmp .le 8, 3) := by decide +kernel
theorem dL_law_70 : decode cL_law 70 = .ok (.bipush 60, 2) := by decide +kernel
theorem dL_law_72 : decode cL_law 72 = .ok (.goto 7, 3) := by decide +kernel
theorem dL_law_75 : decode cL_law 75 = .ok (.aload_n 0, 1) := by decide +kernel
theorem dL_law_76 : decode cL_law 76 = .ok (.arraylength, 1) := by decide +kernel
theorem dL_law_77 : decode cL_law 77 = .ok (.iconst 3, 1) := by decide +kernel
theorem dL_law_78 : decode cL_law 78 = .ok (.idiv, 1) := by decide +kernel
theorem dL_law_79 : decode cL_law 79 = .ok (.istore 5, 2) := by decide +kernel
theorem dL_law_81 : decode cL_law 81 = .ok (.iconst 0, 1) := by decide +kernel
theorem dL_law_82 : decode cL_law 82 = .ok (.istore 6, 2) := by decide +kernel
theorem dL_law_84 : decode cL_law 84 = .ok (.iload 6, 2) := by decide +kernel
theorem dL_law_86 : decode cL_law 86 = .ok (.iload 5, 2) := by decide +kernel
theorem dL_law_88 : decode cL_law 88 = .ok (.if_icmp .ge 67, 3) := by decide +kernel
theorem dL_law_91 : decode cL_law 91 = .ok (.iload 4, 2) := by decide +kernel
theorem dL_law_93 : decode cL_law 93 = .ok (.ifCond .eq 62, 3) := by decide +kernel
theorem dL_law_96 : decode cL_law 96 = .ok (.aload_n 1, 1) := by decide +kernel
theorem dL_law_97 : decode cL_law 97 = .ok (.aload_n 2, 1) := by decide +kernel
theorem dL_law_98 : decode cL_law 98 = .ok (.aload_n 3, 1) := by decide +kernel
theorem dL_law_99 : decode cL_law 99 = .ok (.aload_n 0, 1) := by decide +kernel
theorem dL_law_100 : decode cL_law 100 = .ok (.iconst 3, 1) := by decide +kernel
theorem dL_law_101 : decode cL_law 101 = .ok (.iload 6, 2) := by decide +kernel
theorem dL_law_103 : decode cL_law 103 = .ok (.imul, 1) := by decide +kernel
theorem dL_law_104 : decode cL_law 104 = .ok (.invokestatic 179, 3) := by decide +kernel
theorem dL_law_107 : decode cL_law 107 = .ok (.aload_n 0, 1) := by decide +kernel
theorem dL_law_108 : decode cL_law 108 = .ok (.iconst 3, 1) := by decide +kernel
theorem dL_law_109 : decode cL_law 109 = .ok (.iload 6, 2) := by decide +kernel
theorem dL_law_111 : decode cL_law 111 = .ok (.imul, 1) := by decide +kernel
theorem dL_law_112 : decode cL_law 112 = .ok (.iconst 1, 1) := by decide +kernel
theorem dL_law_113 : decode cL_law 113 = .ok (.iadd, 1) := by decide +kernel
theorem dL_law_114 : decode cL_law 114 = .ok (.invokestatic 179, 3) := by decide +kernel
theorem dL_law_117 : decode cL_law 117 = .ok (.aload_n 0, 1) := by decide +kernel
theorem dL_law_118 : decode cL_law 118 = .ok (.iconst 3, 1) := by decide +kernel
theorem dL_law_119 : decode cL_law 119 = .ok (.iload 6, 2) := by decide +kernel
theorem dL_law_121 : decode cL_law 121 = .ok (.imul, 1) := by decide +kernel
theorem dL_law_122 : decode cL_law 122 = .ok (.iconst 2, 1) := by decide +kernel
theorem dL_law_123 : decode cL_law 123 = .ok (.iadd, 1) := by decide +kernel
theorem dL_law_124 : decode cL_law 124 = .ok (.invokestatic 179, 3) := by decide +kernel
theorem dL_law_127 : decode cL_law 127 = .ok (.invokestatic 183, 3) := by decide +kernel
theorem dL_law_130 : decode cL_law 130 = .ok (.ifCond .eq 16, 3) := by decide +kernel
theorem dL_law_133 : decode cL_law 133 = .ok (.aload_n 1, 1) := by decide +kernel
theorem dL_law_134 : decode cL_law 134 = .ok (.aload_n 2, 1) := by decide +kernel
theorem dL_law_135 : decode cL_law 135 = .ok (.aload_n 3, 1) := by decide +kernel
theorem dL_law_136 : decode cL_law 136 = .ok (.invokestatic 187, 3) := by decide +kernel
theorem dL_law_139 : decode cL_law 139 = .ok (.ifCond .eq 7, 3) := by decide +kernel
theorem dL_law_142 : decode cL_law 142 = .ok (.iconst 1, 1) := by decide +kernel
theorem dL_law_143 : decode cL_law 143 = .ok (.goto 4, 3) := by decide +kernel
theorem dL_law_146 : decode cL_law 146 = .ok (.iconst 0, 1) := by decide +kernel
theorem dL_law_147 : decode cL_law 147 = .ok (.istore 4, 2) := by decide +kernel
theorem dL_law_149 : decode cL_law 149 = .ok (.iinc 6 1, 3) := by decide +kernel
theorem dL_law_152 : decode cL_law 152 = .ok (.goto (-68), 3) := by decide +kernel
theorem dL_law_155 : decode cL_law 155 = .ok (.iload 4, 2) := by decide +kernel
theorem dL_law_157 : decode cL_law 157 = .ok (.ireturn, 1) := by decide +kernel
