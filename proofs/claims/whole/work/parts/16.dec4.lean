theorem dX4_effort_2 : decode cX4_effort 2 = .ok (.invokestatic 113, 3) := by decide +kernel
theorem dX4_effort_5 : decode cX4_effort 5 = .ok (.ifCond .eq 7, 3) := by decide +kernel
theorem dX4_effort_8 : decode cX4_effort 8 = .ok (.iconst 0, 1) := by decide +kernel
theorem dX4_effort_9 : decode cX4_effort 9 = .ok (.goto 4, 3) := by decide +kernel
theorem dX4_effort_12 : decode cX4_effort 12 = .ok (.iconst 1, 1) := by decide +kernel
theorem dX4_effort_13 : decode cX4_effort 13 = .ok (.invokevirtual 118, 3) := by decide +kernel
theorem dX4_effort_16 : decode cX4_effort 16 = .ok (.ifCond .eq 11, 3) := by decide +kernel
theorem dX4_effort_19 : decode cX4_effort 19 = .ok (.aload_n 0, 1) := by decide +kernel
theorem dX4_effort_20 : decode cX4_effort 20 = .ok (.iload_n 1, 1) := by decide +kernel
theorem dX4_effort_21 : decode cX4_effort 21 = .ok (.invokevirtual 231, 3) := by decide +kernel
theorem dX4_effort_24 : decode cX4_effort 24 = .ok (.goto 4, 3) := by decide +kernel
theorem dX4_effort_27 : decode cX4_effort 27 = .ok (.iconst 0, 1) := by decide +kernel
theorem dX4_effort_28 : decode cX4_effort 28 = .ok (.ireturn, 1) := by decide +kernel
theorem dX4_areAlike_0 : decode cX4_areAlike 0 = .ok (.aload_n 0, 1) := by decide +kernel
theorem dX4_areAlike_1 : decode cX4_areAlike 1 = .ok (.iconst 0, 1) := by decide +kernel
theorem dX4_areAlike_2 : decode cX4_areAlike 2 = .ok (.putfield 97, 3) := by decide +kernel
theorem dX4_areAlike_5 : decode cX4_areAlike 5 = .ok (.iconst 1, 1) := by decide +kernel
theorem dX4_areAlike_6 : decode cX4_areAlike 6 = .ok (.istore_n 1, 1) := by decide +kernel
theorem dX4_areAlike_7 : decode cX4_areAlike 7 = .ok (.iconst 1, 1) := by decide +kernel
theorem dX4_areAlike_8 : decode cX4_areAlike 8 = .ok (.istore_n 2, 1) := by decide +kernel
theorem dX4_areAlike_9 : decode cX4_areAlike 9 = .ok (.iload_n 2, 1) := by decide +kernel
theorem dX4_areAlike_10 : decode cX4_areAlike 10 = .ok (.iconst 5, 1) := by decide +kernel
theorem dX4_areAlike_11 : decode cX4_areAlike 11 = .ok (.if_icmp .ge 45, 3) := by decide +kernel
theorem dX4_areAlike_14 : decode cX4_areAlike 14 = .ok (.iload_n 1, 1) := by decide +kernel
theorem dX4_areAlike_15 : decode cX4_areAlike 15 = .ok (.ifCond .eq 33, 3) := by decide +kernel
theorem dX4_areAlike_18 : decode cX4_areAlike 18 = .ok (.aload_n 0, 1) := by decide +kernel
theorem dX4_areAlike_19 : decode cX4_areAlike 19 = .ok (.getfield 79, 3) := by decide +kernel
theorem dX4_areAlike_22 : decode cX4_areAlike 22 = .ok (.iload_n 2, 1) := by decide +kernel
theorem dX4_areAlike_23 : decode cX4_areAlike 23 = .ok (.baload, 1) := by decide +kernel
theorem dX4_areAlike_24 : decode cX4_areAlike 24 = .ok (.ifCond .eq 20, 3) := by decide +kernel
theorem dX4_areAlike_27 : decode cX4_areAlike 27 = .ok (.aload_n 0, 1) := by decide +kernel
theorem dX4_areAlike_28 : decode cX4_areAlike 28 = .ok (.iconst 0, 1) := by decide +kernel
theorem dX4_areAlike_29 : decode cX4_areAlike 29 = .ok (.invokevirtual 231, 3) := by decide +kernel
theorem dX4_areAlike_32 : decode cX4_areAlike 32 = .ok (.aload_n 0, 1) := by decide +kernel
theorem dX4_areAlike_33 : decode cX4_areAlike 33 = .ok (.iload_n 2, 1) := by decide +kernel
theorem dX4_areAlike_34 : decode cX4_areAlike 34 = .ok (.invokevirtual 231, 3) := by decide +kernel
theorem dX4_areAlike_37 : decode cX4_areAlike 37 = .ok (.isub, 1) := by decide +kernel
theorem dX4_areAlike_38 : decode cX4_areAlike 38 = .ok (.sipush 200, 3) := by decide +kernel
theorem dX4_areAlike_41 : decode cX4_areAlike 41 = .ok (.if_icmp .gt 7, 3) := by decide +kernel
theorem dX4_areAlike_44 : decode cX4_areAlike 44 = .ok (.iconst 1, 1) := by decide +kernel
theorem dX4_areAlike_45 : decode cX4_areAlike 45 = .ok (.goto 4, 3) := by decide +kernel
theorem dX4_areAlike_48 : decode cX4_areAlike 48 = .ok (.iconst 0, 1) := by decide +kernel
theorem dX4_areAlike_49 : decode cX4_areAlike 49 = .ok (.istore_n 1, 1) := by decide +kernel
theorem dX4_areAlike_50 : decode cX4_areAlike 50 = .ok (.iinc 2 1, 3) := by decide +kernel
theorem dX4_areAlike_53 : decode cX4_areAlike 53 = .ok (.goto (-44), 3) := by decide +kernel
theorem dX4_areAlike_56 : decode cX4_areAlike 56 = .ok (.iload_n 1, 1) := by decide +kernel
theorem dX4_areAlike_57 : decode cX4_areAlike 57 = .ok (.ireturn, 1) := by decide +kernel
theorem dX4_passes_0 : decode cX4_passes 0 = .ok (.aload_n 0, 1) := by decide +kernel
theorem dX4_passes_1 : decode cX4_passes 1 = .ok (.aload_n 0, 1) := by decide +kernel
theorem dX4_passes_2 : decode cX4_passes 2 = .ok (.iload_n 1, 1) := by decide +kernel
theorem dX4_passes_3 : decode cX4_passes 3 = .ok (.invokevirtual 182, 3) := by decide +kernel
theorem dX4_passes_6 : decode cX4_passes 6 = .ok (.ifCond .eq 16, 3) := by decide +kernel
theorem dX4_passes_9 : decode cX4_passes 9 = .ok (.iload_n 2, 1) := by decide +kernel
theorem dX4_passes_10 : decode cX4_passes 10 = .ok (.iconst (-1), 1) := by decide +kernel
theorem dX4_passes_11 : decode cX4_passes 11 = .ok (.iconst 3, 1) := by decide +kernel
theorem dX4_passes_12 : decode cX4_passes 12 = .ok (.invokestatic 103, 3) := by decide +kernel
theorem dX4_passes_15 : decode cX4_passes 15 = .ok (.ifCond .eq 7, 3) := by decide +kernel
theorem dX4_passes_18 : decode cX4_passes 18 = .ok (.iconst 0, 1) := by decide +kernel
theorem dX4_passes_19 : decode cX4_passes 19 = .ok (.goto 4, 3) := by decide +kernel
theorem dX4_passes_22 : decode cX4_passes 22 = .ok (.iconst 1, 1) := by decide +kernel
theorem dX4_passes_23 : decode cX4_passes 23 = .ok (.invokevirtual 118, 3) := by decide +kernel
theorem dX4_passes_26 : decode cX4_passes 26 = .ok (.ifCond .eq 16, 3) := by decide +kernel
theorem dX4_passes_29 : decode cX4_passes 29 = .ok (.aload_n 0, 1) := by decide +kernel
theorem dX4_passes_30 : decode cX4_passes 30 = .ok (.iload_n 1, 1) := by decide +kernel
theorem dX4_passes_31 : decode cX4_passes 31 = .ok (.iload_n 2, 1) := by decide +kernel
theorem dX4_passes_32 : decode cX4_passes 32 = .ok (.invokevirtual 202, 3) := by decide +kernel
theorem dX4_passes_35 : decode cX4_passes 35 = .ok (.ifCond .eq 7, 3) := by decide +kernel
theorem dX4_passes_38 : decode cX4_passes 38 = .ok (.iconst 1, 1) := by decide +kernel
theorem dX4_passes_39 : decode cX4_passes 39 = .ok (.goto 4, 3) := by decide +kernel
theorem dX4_passes_42 : decode cX4_passes 42 = .ok (.iconst 0, 1) := by decide +kernel
theorem dX4_passes_43 : decode cX4_passes 43 = .ok (.ireturn, 1) := by decide +kernel
theorem dX4_isBearable_0 : decode cX4_isBearable 0 = .ok (.aload_n 0, 1) := by decide +kernel
theorem dX4_isBearable_1 : decode cX4_isBearable 1 = .ok (.iload_n 1, 1) := by decide +kernel
theorem dX4_isBearable_2 : decode cX4_isBearable 2 = .ok (.iconst 1, 1) := by decide +kernel
theorem dX4_isBearable_3 : decode cX4_isBearable 3 = .ok (.bipush 30, 2) := by decide +kernel
theorem dX4_isBearable_5 : decode cX4_isBearable 5 = .ok (.invokestatic 103, 3) := by decide +kernel
theorem dX4_isBearable_8 : decode cX4_isBearable 8 = .ok (.ifCond .eq 7, 3) := by decide +kernel
theorem dX4_isBearable_11 : decode cX4_isBearable 11 = .ok (.iconst 0, 1) := by decide +kernel
theorem dX4_isBearable_12 : decode cX4_isBearable 12 = .ok (.goto 4, 3) := by decide +kernel
theorem dX4_isBearable_15 : decode cX4_isBearable 15 = .ok (.iconst 1, 1) := by decide +kernel
theorem dX4_isBearable_16 : decode cX4_isBearable 16 = .ok (.invokevirtual 118, 3) := by decide +kernel
theorem dX4_isBearable_19 : decode cX4_isBearable 19 = .ok (.ifCond .ne 5, 3) := by decide +kernel
theorem dX4_isBearable_22 : decode cX4_isBearable 22 = .ok (.iconst 0, 1) := by decide +kernel
theorem dX4_isBearable_23 : decode cX4_isBearable 23 = .ok (.ireturn, 1) := by decide +kernel
theorem dX4_isBearable_24 : decode cX4_isBearable 24 = .ok (.aload_n 0, 1) := by decide +kernel
theorem dX4_isBearable_25 : decode cX4_isBearable 25 = .ok (.invokevirtual 135, 3) := by decide +kernel
theorem dX4_isBearable_28 : decode cX4_isBearable 28 = .ok (.lstore_n 2, 1) := by decide +kernel
theorem dX4_isBearable_29 : decode cX4_isBearable 29 = .ok (.lload_n 2, 1) := by decide +kernel
theorem dX4_isBearable_30 : decode cX4_isBearable 30 = .ok (.lstore 4, 2) := by decide +kernel
theorem dX4_isBearable_32 : decode cX4_isBearable 32 = .ok (.aload_n 0, 1) := by decide +kernel
theorem dX4_isBearable_33 : decode cX4_isBearable 33 = .ok (.getfield 9, 3) := by decide +kernel
theorem dX4_isBearable_36 : decode cX4_isBearable 36 = .ok (.lstore 6, 2) := by decide +kernel
theorem dX4_isBearable_38 : decode cX4_isBearable 38 = .ok (.iconst 1, 1) := by decide +kernel
theorem dX4_isBearable_39 : decode cX4_isBearable 39 = .ok (.istore 8, 2) := by decide +kernel
theorem dX4_isBearable_41 : decode cX4_isBearable 41 = .ok (.iconst 0, 1) := by decide +kernel
theorem dX4_isBearable_42 : decode cX4_isBearable 42 = .ok (.istore 9, 2) := by decide +kernel
theorem dX4_isBearable_44 : decode cX4_isBearable 44 = .ok (.iload 9, 2) := by decide +kernel
theorem dX4_isBearable_46 : decode cX4_isBearable 46 = .ok (.iload_n 1, 1) := by decide +kernel
theorem dX4_isBearable_47 : decode cX4_isBearable 47 = .ok (.if_icmp .ge 107, 3) := by decide +kernel
theorem dX4_isBearable_50 : decode cX4_isBearable 50 = .ok (.lload 4, 2) := by decide +kernel
theorem dX4_isBearable_52 : decode cX4_isBearable 52 = .ok (.lload 4, 2) := by decide +kernel
theorem dX4_isBearable_54 : decode cX4_isBearable 54 = .ok (.aload_n 0, 1) := by decide +kernel
theorem dX4_isBearable_55 : decode cX4_isBearable 55 = .ok (.getfield 15, 3) := by decide +kernel
theorem dX4_isBearable_58 : decode cX4_isBearable 58 = .ok (.i2l, 1) := by decide +kernel
theorem dX4_isBearable_59 : decode cX4_isBearable 59 = .ok (.lmul, 1) := by decide +kernel
theorem dX4_isBearable_60 : decode cX4_isBearable 60 = .ok (.ldc2_w 146, 3) := by decide +kernel
theorem dX4_isBearable_63 : decode cX4_isBearable 63 = .ok (.ldiv, 1) := by decide +kernel
theorem dX4_isBearable_64 : decode cX4_isBearable 64 = .ok (.ladd, 1) := by decide +kernel
theorem dX4_isBearable_65 : decode cX4_isBearable 65 = .ok (.lstore 4, 2) := by decide +kernel
theorem dX4_isBearable_67 : decode cX4_isBearable 67 = .ok (.lload 4, 2) := by decide +kernel
theorem dX4_isBearable_69 : decode cX4_isBearable 69 = .ok (.lload 6, 2) := by decide +kernel
theorem dX4_isBearable_71 : decode cX4_isBearable 71 = .ok (.aload_n 0, 1) := by decide +kernel
theorem dX4_isBearable_72 : decode cX4_isBearable 72 = .ok (.getfield 143, 3) := by decide +kernel
theorem dX4_isBearable_75 : decode cX4_isBearable 75 = .ok (.i2l, 1) := by decide +kernel
theorem dX4_isBearable_76 : decode cX4_isBearable 76 = .ok (.lmul, 1) := by decide +kernel
theorem dX4_isBearable_77 : decode cX4_isBearable 77 = .ok (.ldc2_w 158, 3) := by decide +kernel
theorem dX4_isBearable_80 : decode cX4_isBearable 80 = .ok (.invokestatic 160, 3) := by decide +kernel
theorem dX4_isBearable_83 : decode cX4_isBearable 83 = .ok (.lsub, 1) := by decide +kernel
theorem dX4_isBearable_84 : decode cX4_isBearable 84 = .ok (.lstore 4, 2) := by decide +kernel
theorem dX4_isBearable_86 : decode cX4_isBearable 86 = .ok (.lload 4, 2) := by decide +kernel
theorem dX4_isBearable_88 : decode cX4_isBearable 88 = .ok (.lconst 0, 1) := by decide +kernel
theorem dX4_isBearable_89 : decode cX4_isBearable 89 = .ok (.lcmp, 1) := by decide +kernel
theorem dX4_isBearable_90 : decode cX4_isBearable 90 = .ok (.ifCond .ge 7, 3) := by decide +kernel
theorem dX4_isBearable_93 : decode cX4_isBearable 93 = .ok (.lconst 0, 1) := by decide +kernel
theorem dX4_isBearable_94 : decode cX4_isBearable 94 = .ok (.goto 5, 3) := by decide +kernel
theorem dX4_isBearable_97 : decode cX4_isBearable 97 = .ok (.lload 4, 2) := by decide +kernel
theorem dX4_isBearable_99 : decode cX4_isBearable 99 = .ok (.lstore 4, 2) := by decide +kernel
theorem dX4_isBearable_101 : decode cX4_isBearable 101 = .ok (.lload 6, 2) := by decide +kernel
theorem dX4_isBearable_103 : decode cX4_isBearable 103 = .ok (.lload 6, 2) := by decide +kernel
theorem dX4_isBearable_105 : decode cX4_isBearable 105 = .ok (.aload_n 0, 1) := by decide +kernel
theorem dX4_isBearable_106 : decode cX4_isBearable 106 = .ok (.getfield 140, 3) := by decide +kernel
theorem dX4_isBearable_109 : decode cX4_isBearable 109 = .ok (.i2l, 1) := by decide +kernel
theorem dX4_isBearable_110 : decode cX4_isBearable 110 = .ok (.lmul, 1) := by decide +kernel
theorem dX4_isBearable_111 : decode cX4_isBearable 111 = .ok (.ldc2_w 146, 3) := by decide +kernel
theorem dX4_isBearable_114 : decode cX4_isBearable 114 = .ok (.invokestatic 160, 3) := by decide +kernel
theorem dX4_isBearable_117 : decode cX4_isBearable 117 = .ok (.ladd, 1) := by decide +kernel
theorem dX4_isBearable_118 : decode cX4_isBearable 118 = .ok (.lstore 6, 2) := by decide +kernel
theorem dX4_isBearable_120 : decode cX4_isBearable 120 = .ok (.iload 8, 2) := by decide +kernel
theorem dX4_isBearable_122 : decode cX4_isBearable 122 = .ok (.ifCond .eq 23, 3) := by decide +kernel
theorem dX4_isBearable_125 : decode cX4_isBearable 125 = .ok (.ldc2_w 174, 3) := by decide +kernel
theorem dX4_isBearable_128 : decode cX4_isBearable 128 = .ok (.lload 4, 2) := by decide +kernel
theorem dX4_isBearable_130 : decode cX4_isBearable 130 = .ok (.lmul, 1) := by decide +kernel
theorem dX4_isBearable_131 : decode cX4_isBearable 131 = .ok (.ldc2_w 234, 3) := by decide +kernel
theorem dX4_isBearable_134 : decode cX4_isBearable 134 = .ok (.lload 6, 2) := by decide +kernel
theorem dX4_isBearable_136 : decode cX4_isBearable 136 = .ok (.lmul, 1) := by decide +kernel
theorem dX4_isBearable_137 : decode cX4_isBearable 137 = .ok (.lcmp, 1) := by decide +kernel
theorem dX4_isBearable_138 : decode cX4_isBearable 138 = .ok (.ifCond .gt 7, 3) := by decide +kernel
theorem dX4_isBearable_141 : decode cX4_isBearable 141 = .ok (.iconst 1, 1) := by decide +kernel
theorem dX4_isBearable_142 : decode cX4_isBearable 142 = .ok (.goto 4, 3) := by decide +kernel
theorem dX4_isBearable_145 : decode cX4_isBearable 145 = .ok (.iconst 0, 1) := by decide +kernel
theorem dX4_isBearable_146 : decode cX4_isBearable 146 = .ok (.istore 8, 2) := by decide +kernel
theorem dX4_isBearable_148 : decode cX4_isBearable 148 = .ok (.iinc 9 1, 3) := by decide +kernel
theorem dX4_isBearable_151 : decode cX4_isBearable 151 = .ok (.goto (-107), 3) := by decide +kernel
theorem dX4_isBearable_154 : decode cX4_isBearable 154 = .ok (.iload 8, 2) := by decide +kernel
theorem dX4_isBearable_156 : decode cX4_isBearable 156 = .ok (.ifCond .eq 30, 3) := by decide +kernel
theorem dX4_isBearable_159 : decode cX4_isBearable 159 = .ok (.ldc2_w 7, 3) := by decide +kernel
theorem dX4_isBearable_162 : decode cX4_isBearable 162 = .ok (.lload 4, 2) := by decide +kernel
theorem dX4_isBearable_164 : decode cX4_isBearable 164 = .ok (.lmul, 1) := by decide +kernel
theorem dX4_isBearable_165 : decode cX4_isBearable 165 = .ok (.lload 6, 2) := by decide +kernel
theorem dX4_isBearable_167 : decode cX4_isBearable 167 = .ok (.ldiv, 1) := by decide +kernel
theorem dX4_isBearable_168 : decode cX4_isBearable 168 = .ok (.ldc2_w 7, 3) := by decide +kernel
theorem dX4_isBearable_171 : decode cX4_isBearable 171 = .ok (.lload_n 2, 1) := by decide +kernel
theorem dX4_isBearable_172 : decode cX4_isBearable 172 = .ok (.lmul, 1) := by decide +kernel
theorem dX4_isBearable_173 : decode cX4_isBearable 173 = .ok (.aload_n 0, 1) := by decide +kernel
theorem dX4_isBearable_174 : decode cX4_isBearable 174 = .ok (.getfield 9, 3) := by decide +kernel
theorem dX4_isBearable_177 : decode cX4_isBearable 177 = .ok (.ldiv, 1) := by decide +kernel
theorem dX4_isBearable_178 : decode cX4_isBearable 178 = .ok (.lcmp, 1) := by decide +kernel
theorem dX4_isBearable_179 : decode cX4_isBearable 179 = .ok (.ifCond .gt 7, 3) := by decide +kernel
theorem dX4_isBearable_182 : decode cX4_isBearable 182 = .ok (.iconst 1, 1) := by decide +kernel
theorem dX4_isBearable_183 : decode cX4_isBearable 183 = .ok (.goto 4, 3) := by decide +kernel
theorem dX4_isBearable_186 : decode cX4_isBearable 186 = .ok (.iconst 0, 1) := by decide +kernel
theorem dX4_isBearable_187 : decode cX4_isBearable 187 = .ok (.ireturn, 1) := by decide +kernel
theorem dX4_ofClaim_0 : decode cX4_ofClaim 0 = .ok (.aload_n 0, 1) := by decide +kernel
theorem dX4_ofClaim_1 : decode cX4_ofClaim 1 = .ok (.aload_n 0, 1) := by decide +kernel
theorem dX4_ofClaim_2 : decode cX4_ofClaim 2 = .ok (.iload_n 1, 1) := by decide +kernel
theorem dX4_ofClaim_3 : decode cX4_ofClaim 3 = .ok (.invokevirtual 125, 3) := by decide +kernel
theorem dX4_ofClaim_6 : decode cX4_ofClaim 6 = .ok (.ifCond .ne 7, 3) := by decide +kernel
theorem dX4_ofClaim_9 : decode cX4_ofClaim 9 = .ok (.iconst 1, 1) := by decide +kernel
theorem dX4_ofClaim_10 : decode cX4_ofClaim 10 = .ok (.goto 18, 3) := by decide +kernel
theorem dX4_ofClaim_13 : decode cX4_ofClaim 13 = .ok (.iload_n 2, 1) := by decide +kernel
theorem dX4_ofClaim_14 : decode cX4_ofClaim 14 = .ok (.iconst 0, 1) := by decide +kernel
theorem dX4_ofClaim_15 : decode cX4_ofClaim 15 = .ok (.bipush 7, 2) := by decide +kernel
theorem dX4_ofClaim_17 : decode cX4_ofClaim 17 = .ok (.invokestatic 103, 3) := by decide +kernel
theorem dX4_ofClaim_20 : decode cX4_ofClaim 20 = .ok (.ifCond .eq 7, 3) := by decide +kernel
theorem dX4_ofClaim_23 : decode cX4_ofClaim 23 = .ok (.iconst 0, 1) := by decide +kernel
theorem dX4_ofClaim_24 : decode cX4_ofClaim 24 = .ok (.goto 4, 3) := by decide +kernel
theorem dX4_ofClaim_27 : decode cX4_ofClaim 27 = .ok (.iconst 2, 1) := by decide +kernel
theorem dX4_ofClaim_28 : decode cX4_ofClaim 28 = .ok (.invokevirtual 118, 3) := by decide +kernel
theorem dX4_ofClaim_31 : decode cX4_ofClaim 31 = .ok (.ifCond .ne 5, 3) := by decide +kernel
theorem dX4_ofClaim_34 : decode cX4_ofClaim 34 = .ok (.lconst 0, 1) := by decide +kernel
theorem dX4_ofClaim_35 : decode cX4_ofClaim 35 = .ok (.lreturn, 1) := by decide +kernel
theorem dX4_ofClaim_36 : decode cX4_ofClaim 36 = .ok (.iload_n 2, 1) := by decide +kernel
theorem dX4_ofClaim_37 : decode cX4_ofClaim 37 = .ok (.iconst 4, 1) := by decide +kernel
theorem dX4_ofClaim_38 : decode cX4_ofClaim 38 = .ok (.if_icmp .ge 53, 3) := by decide +kernel
theorem dX4_ofClaim_41 : decode cX4_ofClaim 41 = .ok (.iload_n 2, 1) := by decide +kernel
theorem dX4_ofClaim_42 : decode cX4_ofClaim 42 = .ok (.ifCond .ne 13, 3) := by decide +kernel
theorem dX4_ofClaim_45 : decode cX4_ofClaim 45 = .ok (.aload_n 0, 1) := by decide +kernel
theorem dX4_ofClaim_46 : decode cX4_ofClaim 46 = .ok (.getfield 46, 3) := by decide +kernel
theorem dX4_ofClaim_49 : decode cX4_ofClaim 49 = .ok (.iload_n 1, 1) := by decide +kernel
theorem dX4_ofClaim_50 : decode cX4_ofClaim 50 = .ok (.iaload, 1) := by decide +kernel
theorem dX4_ofClaim_51 : decode cX4_ofClaim 51 = .ok (.i2l, 1) := by decide +kernel
theorem dX4_ofClaim_52 : decode cX4_ofClaim 52 = .ok (.goto 38, 3) := by decide +kernel
theorem dX4_ofClaim_55 : decode cX4_ofClaim 55 = .ok (.iload_n 2, 1) := by decide +kernel
theorem dX4_ofClaim_56 : decode cX4_ofClaim 56 = .ok (.iconst 1, 1) := by decide +kernel
theorem dX4_ofClaim_57 : decode cX4_ofClaim 57 = .ok (.if_icmp .ne 12, 3) := by decide +kernel
theorem dX4_ofClaim_60 : decode cX4_ofClaim 60 = .ok (.aload_n 0, 1) := by decide +kernel
theorem dX4_ofClaim_61 : decode cX4_ofClaim 61 = .ok (.getfield 26, 3) := by decide +kernel
theorem dX4_ofClaim_64 : decode cX4_ofClaim 64 = .ok (.iload_n 1, 1) := by decide +kernel
theorem dX4_ofClaim_65 : decode cX4_ofClaim 65 = .ok (.laload, 1) := by decide +kernel
theorem dX4_ofClaim_66 : decode cX4_ofClaim 66 = .ok (.goto 24, 3) := by decide +kernel
theorem dX4_ofClaim_69 : decode cX4_ofClaim 69 = .ok (.iload_n 2, 1) := by decide +kernel
theorem dX4_ofClaim_70 : decode cX4_ofClaim 70 = .ok (.iconst 2, 1) := by decide +kernel
theorem dX4_ofClaim_71 : decode cX4_ofClaim 71 = .ok (.if_icmp .ne 12, 3) := by decide +kernel
theorem dX4_ofClaim_74 : decode cX4_ofClaim 74 = .ok (.aload_n 0, 1) := by decide +kernel
theorem dX4_ofClaim_75 : decode cX4_ofClaim 75 = .ok (.getfield 49, 3) := by decide +kernel
theorem dX4_ofClaim_78 : decode cX4_ofClaim 78 = .ok (.iload_n 1, 1) := by decide +kernel
theorem dX4_ofClaim_79 : decode cX4_ofClaim 79 = .ok (.laload, 1) := by decide +kernel
theorem dX4_ofClaim_80 : decode cX4_ofClaim 80 = .ok (.goto 10, 3) := by decide +kernel
theorem dX4_ofClaim_83 : decode cX4_ofClaim 83 = .ok (.aload_n 0, 1) := by decide +kernel
theorem dX4_ofClaim_84 : decode cX4_ofClaim 84 = .ok (.getfield 33, 3) := by decide +kernel
theorem dX4_ofClaim_87 : decode cX4_ofClaim 87 = .ok (.iload_n 1, 1) := by decide +kernel
theorem dX4_ofClaim_88 : decode cX4_ofClaim 88 = .ok (.iaload, 1) := by decide +kernel
theorem dX4_ofClaim_89 : decode cX4_ofClaim 89 = .ok (.i2l, 1) := by decide +kernel
theorem dX4_ofClaim_90 : decode cX4_ofClaim 90 = .ok (.lreturn, 1) := by decide +kernel
theorem dX4_ofClaim_91 : decode cX4_ofClaim 91 = .ok (.iload_n 2, 1) := by decide +kernel
theorem dX4_ofClaim_92 : decode cX4_ofClaim 92 = .ok (.iconst 4, 1) := by decide +kernel
theorem dX4_ofClaim_93 : decode cX4_ofClaim 93 = .ok (.if_icmp .ne 12, 3) := by decide +kernel
theorem dX4_ofClaim_96 : decode cX4_ofClaim 96 = .ok (.aload_n 0, 1) := by decide +kernel
theorem dX4_ofClaim_97 : decode cX4_ofClaim 97 = .ok (.getfield 55, 3) := by decide +kernel
theorem dX4_ofClaim_100 : decode cX4_ofClaim 100 = .ok (.iload_n 1, 1) := by decide +kernel
theorem dX4_ofClaim_101 : decode cX4_ofClaim 101 = .ok (.laload, 1) := by decide +kernel
theorem dX4_ofClaim_102 : decode cX4_ofClaim 102 = .ok (.goto 40, 3) := by decide +kernel
theorem dX4_ofClaim_105 : decode cX4_ofClaim 105 = .ok (.iload_n 2, 1) := by decide +kernel
theorem dX4_ofClaim_106 : decode cX4_ofClaim 106 = .ok (.iconst 5, 1) := by decide +kernel
theorem dX4_ofClaim_107 : decode cX4_ofClaim 107 = .ok (.if_icmp .ne 12, 3) := by decide +kernel
theorem dX4_ofClaim_110 : decode cX4_ofClaim 110 = .ok (.aload_n 0, 1) := by decide +kernel
theorem dX4_ofClaim_111 : decode cX4_ofClaim 111 = .ok (.getfield 52, 3) := by decide +kernel
theorem dX4_ofClaim_114 : decode cX4_ofClaim 114 = .ok (.iload_n 1, 1) := by decide +kernel
theorem dX4_ofClaim_115 : decode cX4_ofClaim 115 = .ok (.laload, 1) := by decide +kernel
theorem dX4_ofClaim_116 : decode cX4_ofClaim 116 = .ok (.goto 26, 3) := by decide +kernel
theorem dX4_ofClaim_119 : decode cX4_ofClaim 119 = .ok (.iload_n 2, 1) := by decide +kernel
theorem dX4_ofClaim_120 : decode cX4_ofClaim 120 = .ok (.bipush 6, 2) := by decide +kernel
theorem dX4_ofClaim_122 : decode cX4_ofClaim 122 = .ok (.if_icmp .ne 13, 3) := by decide +kernel
theorem dX4_ofClaim_125 : decode cX4_ofClaim 125 = .ok (.aload_n 0, 1) := by decide +kernel
theorem dX4_ofClaim_126 : decode cX4_ofClaim 126 = .ok (.getfield 58, 3) := by decide +kernel
theorem dX4_ofClaim_129 : decode cX4_ofClaim 129 = .ok (.iload_n 1, 1) := by decide +kernel
theorem dX4_ofClaim_130 : decode cX4_ofClaim 130 = .ok (.iaload, 1) := by decide +kernel
theorem dX4_ofClaim_131 : decode cX4_ofClaim 131 = .ok (.i2l, 1) := by decide +kernel
theorem dX4_ofClaim_132 : decode cX4_ofClaim 132 = .ok (.goto 10, 3) := by decide +kernel
theorem dX4_ofClaim_135 : decode cX4_ofClaim 135 = .ok (.aload_n 0, 1) := by decide +kernel
theorem dX4_ofClaim_136 : decode cX4_ofClaim 136 = .ok (.getfield 61, 3) := by decide +kernel
theorem dX4_ofClaim_139 : decode cX4_ofClaim 139 = .ok (.iload_n 1, 1) := by decide +kernel
theorem dX4_ofClaim_140 : decode cX4_ofClaim 140 = .ok (.iaload, 1) := by decide +kernel
theorem dX4_ofClaim_141 : decode cX4_ofClaim 141 = .ok (.i2l, 1) := by decide +kernel
theorem dX4_ofClaim_142 : decode cX4_ofClaim 142 = .ok (.lreturn, 1) := by decide +kernel
theorem dX4_paidAnew_0 : decode cX4_paidAnew 0 = .ok (.aload_n 0, 1) := by decide +kernel
theorem dX4_paidAnew_1 : decode cX4_paidAnew 1 = .ok (.aload_n 0, 1) := by decide +kernel
theorem dX4_paidAnew_2 : decode cX4_paidAnew 2 = .ok (.iload_n 1, 1) := by decide +kernel
theorem dX4_paidAnew_3 : decode cX4_paidAnew 3 = .ok (.invokevirtual 125, 3) := by decide +kernel
theorem dX4_paidAnew_6 : decode cX4_paidAnew 6 = .ok (.ifCond .eq 7, 3) := by decide +kernel
theorem dX4_paidAnew_9 : decode cX4_paidAnew 9 = .ok (.iconst 0, 1) := by decide +kernel
theorem dX4_paidAnew_10 : decode cX4_paidAnew 10 = .ok (.goto 4, 3) := by decide +kernel
theorem dX4_paidAnew_13 : decode cX4_paidAnew 13 = .ok (.iconst 1, 1) := by decide +kernel
theorem dX4_paidAnew_14 : decode cX4_paidAnew 14 = .ok (.invokevirtual 118, 3) := by decide +kernel
theorem dX4_paidAnew_17 : decode cX4_paidAnew 17 = .ok (.ifCond .eq 12, 3) := by decide +kernel
theorem dX4_paidAnew_20 : decode cX4_paidAnew 20 = .ok (.aload_n 0, 1) := by decide +kernel
theorem dX4_paidAnew_21 : decode cX4_paidAnew 21 = .ok (.getfield 55, 3) := by decide +kernel
theorem dX4_paidAnew_24 : decode cX4_paidAnew 24 = .ok (.iload_n 1, 1) := by decide +kernel
theorem dX4_paidAnew_25 : decode cX4_paidAnew 25 = .ok (.laload, 1) := by decide +kernel
theorem dX4_paidAnew_26 : decode cX4_paidAnew 26 = .ok (.goto 4, 3) := by decide +kernel
theorem dX4_paidAnew_29 : decode cX4_paidAnew 29 = .ok (.lconst 0, 1) := by decide +kernel
theorem dX4_paidAnew_30 : decode cX4_paidAnew 30 = .ok (.lreturn, 1) := by decide +kernel
theorem dX4_ofState_0 : decode cX4_ofState 0 = .ok (.aload_n 0, 1) := by decide +kernel
theorem dX4_ofState_1 : decode cX4_ofState 1 = .ok (.iload_n 1, 1) := by decide +kernel
theorem dX4_ofState_2 : decode cX4_ofState 2 = .ok (.iconst 0, 1) := by decide +kernel
theorem dX4_ofState_3 : decode cX4_ofState 3 = .ok (.iconst 4, 1) := by decide +kernel
theorem dX4_ofState_4 : decode cX4_ofState 4 = .ok (.invokestatic 103, 3) := by decide +kernel
theorem dX4_ofState_7 : decode cX4_ofState 7 = .ok (.ifCond .eq 7, 3) := by decide +kernel
theorem dX4_ofState_10 : decode cX4_ofState 10 = .ok (.iconst 0, 1) := by decide +kernel
theorem dX4_ofState_11 : decode cX4_ofState 11 = .ok (.goto 4, 3) := by decide +kernel
theorem dX4_ofState_14 : decode cX4_ofState 14 = .ok (.iconst 1, 1) := by decide +kernel
theorem dX4_ofState_15 : decode cX4_ofState 15 = .ok (.invokevirtual 118, 3) := by decide +kernel
theorem dX4_ofState_18 : decode cX4_ofState 18 = .ok (.ifCond .ne 5, 3) := by decide +kernel
theorem dX4_ofState_21 : decode cX4_ofState 21 = .ok (.lconst 0, 1) := by decide +kernel
theorem dX4_ofState_22 : decode cX4_ofState 22 = .ok (.lreturn, 1) := by decide +kernel
theorem dX4_ofState_23 : decode cX4_ofState 23 = .ok (.iload_n 1, 1) := by decide +kernel
theorem dX4_ofState_24 : decode cX4_ofState 24 = .ok (.ifCond .ne 11, 3) := by decide +kernel
theorem dX4_ofState_27 : decode cX4_ofState 27 = .ok (.aload_n 0, 1) := by decide +kernel
theorem dX4_ofState_28 : decode cX4_ofState 28 = .ok (.getfield 110, 3) := by decide +kernel
theorem dX4_ofState_31 : decode cX4_ofState 31 = .ok (.i2l, 1) := by decide +kernel
theorem dX4_ofState_32 : decode cX4_ofState 32 = .ok (.goto 44, 3) := by decide +kernel
theorem dX4_ofState_35 : decode cX4_ofState 35 = .ok (.iload_n 1, 1) := by decide +kernel
theorem dX4_ofState_36 : decode cX4_ofState 36 = .ok (.iconst 1, 1) := by decide +kernel
theorem dX4_ofState_37 : decode cX4_ofState 37 = .ok (.if_icmp .ne 10, 3) := by decide +kernel
theorem dX4_ofState_40 : decode cX4_ofState 40 = .ok (.aload_n 0, 1) := by decide +kernel
theorem dX4_ofState_41 : decode cX4_ofState 41 = .ok (.getfield 128, 3) := by decide +kernel
theorem dX4_ofState_44 : decode cX4_ofState 44 = .ok (.goto 32, 3) := by decide +kernel
theorem dX4_ofState_47 : decode cX4_ofState 47 = .ok (.iload_n 1, 1) := by decide +kernel
theorem dX4_ofState_48 : decode cX4_ofState 48 = .ok (.iconst 2, 1) := by decide +kernel
theorem dX4_ofState_49 : decode cX4_ofState 49 = .ok (.if_icmp .ne 10, 3) := by decide +kernel
theorem dX4_ofState_52 : decode cX4_ofState 52 = .ok (.aload_n 0, 1) := by decide +kernel
theorem dX4_ofState_53 : decode cX4_ofState 53 = .ok (.getfield 9, 3) := by decide +kernel
theorem dX4_ofState_56 : decode cX4_ofState 56 = .ok (.goto 20, 3) := by decide +kernel
theorem dX4_ofState_59 : decode cX4_ofState 59 = .ok (.iload_n 1, 1) := by decide +kernel
theorem dX4_ofState_60 : decode cX4_ofState 60 = .ok (.iconst 3, 1) := by decide +kernel
theorem dX4_ofState_61 : decode cX4_ofState 61 = .ok (.if_icmp .ne 10, 3) := by decide +kernel
theorem dX4_ofState_64 : decode cX4_ofState 64 = .ok (.aload_n 0, 1) := by decide +kernel
theorem dX4_ofState_65 : decode cX4_ofState 65 = .ok (.invokevirtual 135, 3) := by decide +kernel
theorem dX4_ofState_68 : decode cX4_ofState 68 = .ok (.goto 8, 3) := by decide +kernel
theorem dX4_ofState_71 : decode cX4_ofState 71 = .ok (.aload_n 0, 1) := by decide +kernel
theorem dX4_ofState_72 : decode cX4_ofState 72 = .ok (.getfield 222, 3) := by decide +kernel
theorem dX4_ofState_75 : decode cX4_ofState 75 = .ok (.i2l, 1) := by decide +kernel
theorem dX4_ofState_76 : decode cX4_ofState 76 = .ok (.lreturn, 1) := by decide +kernel
theorem dJ9_floorDiv_f86c9_0 : decode cJ9_floorDiv_f86c9 0 = .ok (.lload_n 0, 1) := by decide +kernel
theorem dJ9_floorDiv_f86c9_1 : decode cJ9_floorDiv_f86c9 1 = .ok (.lload_n 2, 1) := by decide +kernel
theorem dJ9_floorDiv_f86c9_2 : decode cJ9_floorDiv_f86c9 2 = .ok (.ldiv, 1) := by decide +kernel
theorem dJ9_floorDiv_f86c9_3 : decode cJ9_floorDiv_f86c9 3 = .ok (.lstore 4, 2) := by decide +kernel
theorem dJ9_floorDiv_f86c9_5 : decode cJ9_floorDiv_f86c9 5 = .ok (.lload_n 0, 1) := by decide +kernel
theorem dJ9_floorDiv_f86c9_6 : decode cJ9_floorDiv_f86c9 6 = .ok (.lload_n 2, 1) := by decide +kernel
theorem dJ9_floorDiv_f86c9_7 : decode cJ9_floorDiv_f86c9 7 = .ok (.lxor, 1) := by decide +kernel
theorem dJ9_floorDiv_f86c9_8 : decode cJ9_floorDiv_f86c9 8 = .ok (.lconst 0, 1) := by decide +kernel
theorem dJ9_floorDiv_f86c9_9 : decode cJ9_floorDiv_f86c9 9 = .ok (.lcmp, 1) := by decide +kernel
theorem dJ9_floorDiv_f86c9_10 : decode cJ9_floorDiv_f86c9 10 = .ok (.ifCond .ge 17, 3) := by decide +kernel
theorem dJ9_floorDiv_f86c9_13 : decode cJ9_floorDiv_f86c9 13 = .ok (.lload 4, 2) := by decide +kernel
theorem dJ9_floorDiv_f86c9_15 : decode cJ9_floorDiv_f86c9 15 = .ok (.lload_n 2, 1) := by decide +kernel
theorem dJ9_floorDiv_f86c9_16 : decode cJ9_floorDiv_f86c9 16 = .ok (.lmul, 1) := by decide +kernel
theorem dJ9_floorDiv_f86c9_17 : decode cJ9_floorDiv_f86c9 17 = .ok (.lload_n 0, 1) := by decide +kernel
theorem dJ9_floorDiv_f86c9_18 : decode cJ9_floorDiv_f86c9 18 = .ok (.lcmp, 1) := by decide +kernel
theorem dJ9_floorDiv_f86c9_19 : decode cJ9_floorDiv_f86c9 19 = .ok (.ifCond .eq 8, 3) := by decide +kernel
theorem dJ9_floorDiv_f86c9_22 : decode cJ9_floorDiv_f86c9 22 = .ok (.lload 4, 2) := by decide +kernel
theorem dJ9_floorDiv_f86c9_24 : decode cJ9_floorDiv_f86c9 24 = .ok (.lconst 1, 1) := by decide +kernel
theorem dJ9_floorDiv_f86c9_25 : decode cJ9_floorDiv_f86c9 25 = .ok (.lsub, 1) := by decide +kernel
theorem dJ9_floorDiv_f86c9_26 : decode cJ9_floorDiv_f86c9 26 = .ok (.lreturn, 1) := by decide +kernel
theorem dJ9_floorDiv_f86c9_27 : decode cJ9_floorDiv_f86c9 27 = .ok (.lload 4, 2) := by decide +kernel
theorem dJ9_floorDiv_f86c9_29 : decode cJ9_floorDiv_f86c9 29 = .ok (.lreturn, 1) := by decide +kernel
theorem dJ9_max_7cf53_0 : decode cJ9_max_7cf53 0 = .ok (.iload_n 0, 1) := by decide +kernel
theorem dJ9_max_7cf53_1 : decode cJ9_max_7cf53 1 = .ok (.iload_n 1, 1) := by decide +kernel
theorem dJ9_max_7cf53_2 : decode cJ9_max_7cf53 2 = .ok (.if_icmp .lt 7, 3) := by decide +kernel
theorem dJ9_max_7cf53_5 : decode cJ9_max_7cf53 5 = .ok (.iload_n 0, 1) := by decide +kernel
theorem dJ9_max_7cf53_6 : decode cJ9_max_7cf53 6 = .ok (.goto 4, 3) := by decide +kernel
theorem dJ9_max_7cf53_9 : decode cJ9_max_7cf53 9 = .ok (.iload_n 1, 1) := by decide +kernel
theorem dJ9_max_7cf53_10 : decode cJ9_max_7cf53 10 = .ok (.ireturn, 1) := by decide +kernel
theorem dJ9_max_f86c9_0 : decode cJ9_max_f86c9 0 = .ok (.lload_n 0, 1) := by decide +kernel
theorem dJ9_max_f86c9_1 : decode cJ9_max_f86c9 1 = .ok (.lload_n 2, 1) := by decide +kernel
theorem dJ9_max_f86c9_2 : decode cJ9_max_f86c9 2 = .ok (.lcmp, 1) := by decide +kernel
theorem dJ9_max_f86c9_3 : decode cJ9_max_f86c9 3 = .ok (.ifCond .lt 7, 3) := by decide +kernel
theorem dJ9_max_f86c9_6 : decode cJ9_max_f86c9 6 = .ok (.lload_n 0, 1) := by decide +kernel
theorem dJ9_max_f86c9_7 : decode cJ9_max_f86c9 7 = .ok (.goto 4, 3) := by decide +kernel
theorem dJ9_max_f86c9_10 : decode cJ9_max_f86c9 10 = .ok (.lload_n 2, 1) := by decide +kernel
theorem dJ9_max_f86c9_11 : decode cJ9_max_f86c9 11 = .ok (.lreturn, 1) := by decide +kernel
theorem dJ9_min_7cf53_0 : decode cJ9_min_7cf53 0 = .ok (.iload_n 0, 1) := by decide +kernel
theorem dJ9_min_7cf53_1 : decode cJ9_min_7cf53 1 = .ok (.iload_n 1, 1) := by decide +kernel
theorem dJ9_min_7cf53_2 : decode cJ9_min_7cf53 2 = .ok (.if_icmp .gt 7, 3) := by decide +kernel
theorem dJ9_min_7cf53_5 : decode cJ9_min_7cf53 5 = .ok (.iload_n 0, 1) := by decide +kernel
theorem dJ9_min_7cf53_6 : decode cJ9_min_7cf53 6 = .ok (.goto 4, 3) := by decide +kernel
theorem dJ9_min_7cf53_9 : decode cJ9_min_7cf53 9 = .ok (.iload_n 1, 1) := by decide +kernel
theorem dJ9_min_7cf53_10 : decode cJ9_min_7cf53 10 = .ok (.ireturn, 1) := by decide +kernel
theorem dJ9_min_f86c9_0 : decode cJ9_min_f86c9 0 = .ok (.lload_n 0, 1) := by decide +kernel
theorem dJ9_min_f86c9_1 : decode cJ9_min_f86c9 1 = .ok (.lload_n 2, 1) := by decide +kernel
theorem dJ9_min_f86c9_2 : decode cJ9_min_f86c9 2 = .ok (.lcmp, 1) := by decide +kernel
theorem dJ9_min_f86c9_3 : decode cJ9_min_f86c9 3 = .ok (.ifCond .gt 7, 3) := by decide +kernel
theorem dJ9_min_f86c9_6 : decode cJ9_min_f86c9 6 = .ok (.lload_n 0, 1) := by decide +kernel
theorem dJ9_min_f86c9_7 : decode cJ9_min_f86c9 7 = .ok (.goto 4, 3) := by decide +kernel
theorem dJ9_min_f86c9_10 : decode cJ9_min_f86c9 10 = .ok (.lload_n 2, 1) := by decide +kernel
theorem dJ9_min_f86c9_11 : decode cJ9_min_f86c9 11 = .ok (.lreturn, 1) := by decide +kernel
theorem dJxa1e45_init_da8c8_0 : decode cJxa1e45_init_da8c8 0 = .ok (.aload_n 0, 1) := by decide +kernel
theorem dJxa1e45_init_da8c8_1 : decode cJxa1e45_init_da8c8 1 = .ok (.invokespecial 1, 3) := by decide +kernel
theorem dJxa1e45_init_da8c8_4 : decode cJxa1e45_init_da8c8 4 = .ok (.return_, 1) := by decide +kernel
theorem dJxc12de_init_da8c8_0 : decode cJxc12de_init_da8c8 0 = .ok (.aload_n 0, 1) := by decide +kernel
theorem dJxc12de_init_da8c8_1 : decode cJxc12de_init_da8c8 1 = .ok (.invokespecial 1, 3) := by decide +kernel
theorem dJxc12de_init_da8c8_4 : decode cJxc12de_init_da8c8 4 = .ok (.aload_n 0, 1) := by decide +kernel
theorem dJxc12de_init_da8c8_5 : decode cJxc12de_init_da8c8 5 = .ok (.iconst 0, 1) := by decide +kernel
theorem dJxc12de_init_da8c8_6 : decode cJxc12de_init_da8c8 6 = .ok (.putfield 7, 3) := by decide +kernel
theorem dJxc12de_init_da8c8_9 : decode cJxc12de_init_da8c8 9 = .ok (.return_, 1) := by decide +kernel
theorem dJx4a65c_init_da8c8_0 : decode cJx4a65c_init_da8c8 0 = .ok (.aload_n 0, 1) := by decide +kernel
theorem dJx4a65c_init_da8c8_1 : decode cJx4a65c_init_da8c8 1 = .ok (.invokespecial 1, 3) := by decide +kernel
theorem dJx4a65c_init_da8c8_4 : decode cJx4a65c_init_da8c8 4 = .ok (.aload_n 0, 1) := by decide +kernel
theorem dJx4a65c_init_da8c8_5 : decode cJx4a65c_init_da8c8 5 = .ok (.getstatic 39, 3) := by decide +kernel
theorem dJx4a65c_init_da8c8_8 : decode cJx4a65c_init_da8c8 8 = .ok (.putfield 9, 3) := by decide +kernel
theorem dJx4a65c_init_da8c8_11 : decode cJx4a65c_init_da8c8 11 = .ok (.return_, 1) := by decide +kernel
theorem dJx4a65c_grow_92f84_0 : decode cJx4a65c_grow_92f84 0 = .ok (.aload_n 0, 1) := by decide +kernel
theorem dJx4a65c_grow_92f84_1 : decode cJx4a65c_grow_92f84 1 = .ok (.getfield 9, 3) := by decide +kernel
theorem dJx4a65c_grow_92f84_4 : decode cJx4a65c_grow_92f84 4 = .ok (.arraylength, 1) := by decide +kernel
theorem dJx4a65c_grow_92f84_5 : decode cJx4a65c_grow_92f84 5 = .ok (.istore_n 2, 1) := by decide +kernel
theorem dJx4a65c_grow_92f84_6 : decode cJx4a65c_grow_92f84 6 = .ok (.iload_n 2, 1) := by decide +kernel
theorem dJx4a65c_grow_92f84_7 : decode cJx4a65c_grow_92f84 7 = .ok (.ifCond .gt 13, 3) := by decide +kernel
theorem dJx4a65c_grow_92f84_10 : decode cJx4a65c_grow_92f84 10 = .ok (.aload_n 0, 1) := by decide +kernel
theorem dJx4a65c_grow_92f84_11 : decode cJx4a65c_grow_92f84 11 = .ok (.getfield 9, 3) := by decide +kernel
theorem dJx4a65c_grow_92f84_14 : decode cJx4a65c_grow_92f84 14 = .ok (.getstatic 39, 3) := by decide +kernel
theorem dJx4a65c_grow_92f84_17 : decode cJx4a65c_grow_92f84 17 = .ok (.if_acmp .eq 28, 3) := by decide +kernel
theorem dJx4a65c_grow_92f84_20 : decode cJx4a65c_grow_92f84 20 = .ok (.iload_n 2, 1) := by decide +kernel
theorem dJx4a65c_grow_92f84_21 : decode cJx4a65c_grow_92f84 21 = .ok (.iload_n 1, 1) := by decide +kernel
theorem dJx4a65c_grow_92f84_22 : decode cJx4a65c_grow_92f84 22 = .ok (.iload_n 2, 1) := by decide +kernel
theorem dJx4a65c_grow_92f84_23 : decode cJx4a65c_grow_92f84 23 = .ok (.isub, 1) := by decide +kernel
theorem dJx4a65c_grow_92f84_24 : decode cJx4a65c_grow_92f84 24 = .ok (.iload_n 2, 1) := by decide +kernel
theorem dJx4a65c_grow_92f84_25 : decode cJx4a65c_grow_92f84 25 = .ok (.iconst 1, 1) := by decide +kernel
theorem dJx4a65c_grow_92f84_26 : decode cJx4a65c_grow_92f84 26 = .ok (.ishr, 1) := by decide +kernel
theorem dJx4a65c_grow_92f84_27 : decode cJx4a65c_grow_92f84 27 = .ok (.invokestatic 73, 3) := by decide +kernel
theorem dJx4a65c_grow_92f84_30 : decode cJx4a65c_grow_92f84 30 = .ok (.istore_n 3, 1) := by decide +kernel
theorem dJx4a65c_grow_92f84_31 : decode cJx4a65c_grow_92f84 31 = .ok (.aload_n 0, 1) := by decide +kernel
theorem dJx4a65c_grow_92f84_32 : decode cJx4a65c_grow_92f84 32 = .ok (.aload_n 0, 1) := by decide +kernel
theorem dJx4a65c_grow_92f84_33 : decode cJx4a65c_grow_92f84 33 = .ok (.getfield 9, 3) := by decide +kernel
theorem dJx4a65c_grow_92f84_36 : decode cJx4a65c_grow_92f84 36 = .ok (.iload_n 3, 1) := by decide +kernel
theorem dJx4a65c_grow_92f84_37 : decode cJx4a65c_grow_92f84 37 = .ok (.invokestatic 66, 3) := by decide +kernel
theorem dJx4a65c_grow_92f84_40 : decode cJx4a65c_grow_92f84 40 = .ok (.dup_x1, 1) := by decide +kernel
theorem dJx4a65c_grow_92f84_41 : decode cJx4a65c_grow_92f84 41 = .ok (.putfield 9, 3) := by decide +kernel
theorem dJx4a65c_grow_92f84_44 : decode cJx4a65c_grow_92f84 44 = .ok (.areturn, 1) := by decide +kernel
theorem dJx4a65c_grow_92f84_45 : decode cJx4a65c_grow_92f84 45 = .ok (.aload_n 0, 1) := by decide +kernel
theorem dJx4a65c_grow_92f84_46 : decode cJx4a65c_grow_92f84 46 = .ok (.bipush 10, 2) := by decide +kernel
theorem dJx4a65c_grow_92f84_48 : decode cJx4a65c_grow_92f84 48 = .ok (.iload_n 1, 1) := by decide +kernel
theorem dJx4a65c_grow_92f84_49 : decode cJx4a65c_grow_92f84 49 = .ok (.invokestatic 79, 3) := by decide +kernel
theorem dJx4a65c_grow_92f84_52 : decode cJx4a65c_grow_92f84 52 = .ok (.anewarray 7, 3) := by decide +kernel
theorem dJx4a65c_grow_92f84_55 : decode cJx4a65c_grow_92f84 55 = .ok (.dup_x1, 1) := by decide +kernel
theorem dJx4a65c_grow_92f84_56 : decode cJx4a65c_grow_92f84 56 = .ok (.putfield 9, 3) := by decide +kernel
theorem dJx4a65c_grow_92f84_59 : decode cJx4a65c_grow_92f84 59 = .ok (.areturn, 1) := by decide +kernel
theorem dJx4a65c_grow_d5877_0 : decode cJx4a65c_grow_d5877 0 = .ok (.aload_n 0, 1) := by decide +kernel
theorem dJx4a65c_grow_d5877_1 : decode cJx4a65c_grow_d5877 1 = .ok (.aload_n 0, 1) := by decide +kernel
theorem dJx4a65c_grow_d5877_2 : decode cJx4a65c_grow_d5877 2 = .ok (.getfield 48, 3) := by decide +kernel
theorem dJx4a65c_grow_d5877_5 : decode cJx4a65c_grow_d5877 5 = .ok (.iconst 1, 1) := by decide +kernel
theorem dJx4a65c_grow_d5877_6 : decode cJx4a65c_grow_d5877 6 = .ok (.iadd, 1) := by decide +kernel
theorem dJx4a65c_grow_d5877_7 : decode cJx4a65c_grow_d5877 7 = .ok (.invokevirtual 69, 3) := by decide +kernel
theorem dJx4a65c_grow_d5877_10 : decode cJx4a65c_grow_d5877 10 = .ok (.areturn, 1) := by decide +kernel
theorem dJx4a65c_size_8abf5_0 : decode cJx4a65c_size_8abf5 0 = .ok (.aload_n 0, 1) := by decide +kernel
theorem dJx4a65c_size_8abf5_1 : decode cJx4a65c_size_8abf5 1 = .ok (.getfield 48, 3) := by decide +kernel
theorem dJx4a65c_size_8abf5_4 : decode cJx4a65c_size_8abf5 4 = .ok (.ireturn, 1) := by decide +kernel
theorem dJx4a65c_elementData_915e3_0 : decode cJx4a65c_elementData_915e3 0 = .ok (.aload_n 0, 1) := by decide +kernel
theorem dJx4a65c_elementData_915e3_1 : decode cJx4a65c_elementData_915e3 1 = .ok (.getfield 9, 3) := by decide +kernel
theorem dJx4a65c_elementData_915e3_4 : decode cJx4a65c_elementData_915e3 4 = .ok (.iload_n 1, 1) := by decide +kernel
theorem dJx4a65c_elementData_915e3_5 : decode cJx4a65c_elementData_915e3 5 = .ok (.aaload, 1) := by decide +kernel
theorem dJx4a65c_elementData_915e3_6 : decode cJx4a65c_elementData_915e3 6 = .ok (.areturn, 1) := by decide +kernel
theorem dJx4a65c_get_915e3_0 : decode cJx4a65c_get_915e3 0 = .ok (.iload_n 1, 1) := by decide +kernel
theorem dJx4a65c_get_915e3_1 : decode cJx4a65c_get_915e3 1 = .ok (.aload_n 0, 1) := by decide +kernel
theorem dJx4a65c_get_915e3_2 : decode cJx4a65c_get_915e3 2 = .ok (.getfield 48, 3) := by decide +kernel
theorem dJx4a65c_get_915e3_5 : decode cJx4a65c_get_915e3 5 = .ok (.invokestatic 118, 3) := by decide +kernel
theorem dJx4a65c_get_915e3_8 : decode cJx4a65c_get_915e3 8 = .ok (.pop, 1) := by decide +kernel
theorem dJx4a65c_get_915e3_9 : decode cJx4a65c_get_915e3 9 = .ok (.aload_n 0, 1) := by decide +kernel
theorem dJx4a65c_get_915e3_10 : decode cJx4a65c_get_915e3 10 = .ok (.iload_n 1, 1) := by decide +kernel
theorem dJx4a65c_get_915e3_11 : decode cJx4a65c_get_915e3 11 = .ok (.invokevirtual 123, 3) := by decide +kernel
theorem dJx4a65c_get_915e3_14 : decode cJx4a65c_get_915e3 14 = .ok (.areturn, 1) := by decide +kernel
theorem dJx4a65c_add_72be8_0 : decode cJx4a65c_add_72be8 0 = .ok (.iload_n 3, 1) := by decide +kernel
theorem dJx4a65c_add_72be8_1 : decode cJx4a65c_add_72be8 1 = .ok (.aload_n 2, 1) := by decide +kernel
theorem dJx4a65c_add_72be8_2 : decode cJx4a65c_add_72be8 2 = .ok (.arraylength, 1) := by decide +kernel
theorem dJx4a65c_add_72be8_3 : decode cJx4a65c_add_72be8 3 = .ok (.if_icmp .ne 8, 3) := by decide +kernel
theorem dJx4a65c_add_72be8_6 : decode cJx4a65c_add_72be8 6 = .ok (.aload_n 0, 1) := by decide +kernel
theorem dJx4a65c_add_72be8_7 : decode cJx4a65c_add_72be8 7 = .ok (.invokevirtual 129, 3) := by decide +kernel
theorem dJx4a65c_add_72be8_10 : decode cJx4a65c_add_72be8 10 = .ok (.astore_n 2, 1) := by decide +kernel
theorem dJx4a65c_add_72be8_11 : decode cJx4a65c_add_72be8 11 = .ok (.aload_n 2, 1) := by decide +kernel
theorem dJx4a65c_add_72be8_12 : decode cJx4a65c_add_72be8 12 = .ok (.iload_n 3, 1) := by decide +kernel
theorem dJx4a65c_add_72be8_13 : decode cJx4a65c_add_72be8 13 = .ok (.aload_n 1, 1) := by decide +kernel
theorem dJx4a65c_add_72be8_14 : decode cJx4a65c_add_72be8 14 = .ok (.aastore, 1) := by decide +kernel
theorem dJx4a65c_add_72be8_15 : decode cJx4a65c_add_72be8 15 = .ok (.aload_n 0, 1) := by decide +kernel
theorem dJx4a65c_add_72be8_16 : decode cJx4a65c_add_72be8 16 = .ok (.iload_n 3, 1) := by decide +kernel
theorem dJx4a65c_add_72be8_17 : decode cJx4a65c_add_72be8 17 = .ok (.iconst 1, 1) := by decide +kernel
theorem dJx4a65c_add_72be8_18 : decode cJx4a65c_add_72be8 18 = .ok (.iadd, 1) := by decide +kernel
theorem dJx4a65c_add_72be8_19 : decode cJx4a65c_add_72be8 19 = .ok (.putfield 48, 3) := by decide +kernel
theorem dJx4a65c_add_72be8_22 : decode cJx4a65c_add_72be8 22 = .ok (.return_, 1) := by decide +kernel
theorem dJx4a65c_add_9ea2d_0 : decode cJx4a65c_add_9ea2d 0 = .ok (.aload_n 0, 1) := by decide +kernel
theorem dJx4a65c_add_9ea2d_1 : decode cJx4a65c_add_9ea2d 1 = .ok (.dup, 1) := by decide +kernel
theorem dJx4a65c_add_9ea2d_2 : decode cJx4a65c_add_9ea2d 2 = .ok (.getfield 63, 3) := by decide +kernel
theorem dJx4a65c_add_9ea2d_5 : decode cJx4a65c_add_9ea2d 5 = .ok (.iconst 1, 1) := by decide +kernel
theorem dJx4a65c_add_9ea2d_6 : decode cJx4a65c_add_9ea2d 6 = .ok (.iadd, 1) := by decide +kernel
theorem dJx4a65c_add_9ea2d_7 : decode cJx4a65c_add_9ea2d 7 = .ok (.putfield 63, 3) := by decide +kernel
theorem dJx4a65c_add_9ea2d_10 : decode cJx4a65c_add_9ea2d 10 = .ok (.aload_n 0, 1) := by decide +kernel
theorem dJx4a65c_add_9ea2d_11 : decode cJx4a65c_add_9ea2d 11 = .ok (.aload_n 1, 1) := by decide +kernel
theorem dJx4a65c_add_9ea2d_12 : decode cJx4a65c_add_9ea2d 12 = .ok (.aload_n 0, 1) := by decide +kernel
theorem dJx4a65c_add_9ea2d_13 : decode cJx4a65c_add_9ea2d 13 = .ok (.getfield 9, 3) := by decide +kernel
theorem dJx4a65c_add_9ea2d_16 : decode cJx4a65c_add_9ea2d 16 = .ok (.aload_n 0, 1) := by decide +kernel
theorem dJx4a65c_add_9ea2d_17 : decode cJx4a65c_add_9ea2d 17 = .ok (.getfield 48, 3) := by decide +kernel
theorem dJx4a65c_add_9ea2d_20 : decode cJx4a65c_add_9ea2d 20 = .ok (.invokevirtual 131, 3) := by decide +kernel
theorem dJx4a65c_add_9ea2d_23 : decode cJx4a65c_add_9ea2d 23 = .ok (.iconst 1, 1) := by decide +kernel
theorem dJx4a65c_add_9ea2d_24 : decode cJx4a65c_add_9ea2d 24 = .ok (.ireturn, 1) := by decide +kernel
theorem dJ7_copyOf_1904c_0 : decode cJ7_copyOf_1904c 0 = .ok (.aload_n 0, 1) := by decide +kernel
theorem dJ7_copyOf_1904c_1 : decode cJ7_copyOf_1904c 1 = .ok (.iload_n 1, 1) := by decide +kernel
theorem dJ7_copyOf_1904c_2 : decode cJ7_copyOf_1904c 2 = .ok (.aload_n 0, 1) := by decide +kernel
theorem dJ7_copyOf_1904c_3 : decode cJ7_copyOf_1904c 3 = .ok (.invokevirtual 86, 3) := by decide +kernel
theorem dJ7_copyOf_1904c_6 : decode cJ7_copyOf_1904c 6 = .ok (.invokestatic 300, 3) := by decide +kernel
theorem dJ7_copyOf_1904c_9 : decode cJ7_copyOf_1904c 9 = .ok (.areturn, 1) := by decide +kernel
theorem dJ7_copyOf_6403c_0 : decode cJ7_copyOf_6403c 0 = .ok (.aload_n 2, 1) := by decide +kernel
theorem dJ7_copyOf_6403c_1 : decode cJ7_copyOf_6403c 1 = .ok (.ldc 110, 2) := by decide +kernel
theorem dJ7_copyOf_6403c_3 : decode cJ7_copyOf_6403c 3 = .ok (.if_acmp .ne 10, 3) := by decide +kernel
theorem dJ7_copyOf_6403c_6 : decode cJ7_copyOf_6403c 6 = .ok (.iload_n 1, 1) := by decide +kernel
theorem dJ7_copyOf_6403c_7 : decode cJ7_copyOf_6403c 7 = .ok (.anewarray 2, 3) := by decide +kernel
theorem dJ7_copyOf_6403c_10 : decode cJ7_copyOf_6403c 10 = .ok (.goto 14, 3) := by decide +kernel
theorem dJ7_copyOf_6403c_13 : decode cJ7_copyOf_6403c 13 = .ok (.aload_n 2, 1) := by decide +kernel
theorem dJ7_copyOf_6403c_14 : decode cJ7_copyOf_6403c 14 = .ok (.invokevirtual 90, 3) := by decide +kernel
theorem dJ7_copyOf_6403c_17 : decode cJ7_copyOf_6403c 17 = .ok (.iload_n 1, 1) := by decide +kernel
theorem dJ7_copyOf_6403c_18 : decode cJ7_copyOf_6403c 18 = .ok (.invokestatic 95, 3) := by decide +kernel
theorem dJ7_copyOf_6403c_21 : decode cJ7_copyOf_6403c 21 = .ok (.checkcast 110, 3) := by decide +kernel
theorem dJ7_copyOf_6403c_24 : decode cJ7_copyOf_6403c 24 = .ok (.astore_n 3, 1) := by decide +kernel
theorem dJ7_copyOf_6403c_25 : decode cJ7_copyOf_6403c 25 = .ok (.aload_n 0, 1) := by decide +kernel
theorem dJ7_copyOf_6403c_26 : decode cJ7_copyOf_6403c 26 = .ok (.iconst 0, 1) := by decide +kernel
theorem dJ7_copyOf_6403c_27 : decode cJ7_copyOf_6403c 27 = .ok (.aload_n 3, 1) := by decide +kernel
theorem dJ7_copyOf_6403c_28 : decode cJ7_copyOf_6403c 28 = .ok (.iconst 0, 1) := by decide +kernel
theorem dJ7_copyOf_6403c_29 : decode cJ7_copyOf_6403c 29 = .ok (.aload_n 0, 1) := by decide +kernel
theorem dJ7_copyOf_6403c_30 : decode cJ7_copyOf_6403c 30 = .ok (.arraylength, 1) := by decide +kernel
theorem dJ7_copyOf_6403c_31 : decode cJ7_copyOf_6403c 31 = .ok (.iload_n 1, 1) := by decide +kernel
theorem dJ7_copyOf_6403c_32 : decode cJ7_copyOf_6403c 32 = .ok (.invokestatic 304, 3) := by decide +kernel
theorem dJ7_copyOf_6403c_35 : decode cJ7_copyOf_6403c 35 = .ok (.invokestatic 150, 3) := by decide +kernel
theorem dJ7_copyOf_6403c_38 : decode cJ7_copyOf_6403c 38 = .ok (.aload_n 3, 1) := by decide +kernel
theorem dJ7_copyOf_6403c_39 : decode cJ7_copyOf_6403c 39 = .ok (.areturn, 1) := by decide +kernel
theorem dJ15_checkIndex_7cf53_0 : decode cJ15_checkIndex_7cf53 0 = .ok (.iload_n 0, 1) := by decide +kernel
theorem dJ15_checkIndex_7cf53_1 : decode cJ15_checkIndex_7cf53 1 = .ok (.iload_n 1, 1) := by decide +kernel
theorem dJ15_checkIndex_7cf53_2 : decode cJ15_checkIndex_7cf53 2 = .ok (.aconst_null, 1) := by decide +kernel
theorem dJ15_checkIndex_7cf53_3 : decode cJ15_checkIndex_7cf53 3 = .ok (.invokestatic 105, 3) := by decide +kernel
theorem dJ15_checkIndex_7cf53_6 : decode cJ15_checkIndex_7cf53 6 = .ok (.ireturn, 1) := by decide +kernel
theorem dJ8_newLength_cabcc_0 : decode cJ8_newLength_cabcc 0 = .ok (.iload_n 0, 1) := by decide +kernel
theorem dJ8_newLength_cabcc_1 : decode cJ8_newLength_cabcc 1 = .ok (.iload_n 1, 1) := by decide +kernel
theorem dJ8_newLength_cabcc_2 : decode cJ8_newLength_cabcc 2 = .ok (.iload_n 2, 1) := by decide +kernel
theorem dJ8_newLength_cabcc_3 : decode cJ8_newLength_cabcc 3 = .ok (.invokestatic 194, 3) := by decide +kernel
theorem dJ8_newLength_cabcc_6 : decode cJ8_newLength_cabcc 6 = .ok (.iadd, 1) := by decide +kernel
theorem dJ8_newLength_cabcc_7 : decode cJ8_newLength_cabcc 7 = .ok (.istore_n 3, 1) := by decide +kernel
theorem dJ8_newLength_cabcc_8 : decode cJ8_newLength_cabcc 8 = .ok (.iconst 0, 1) := by decide +kernel
theorem dJ8_newLength_cabcc_9 : decode cJ8_newLength_cabcc 9 = .ok (.iload_n 3, 1) := by decide +kernel
theorem dJ8_newLength_cabcc_10 : decode cJ8_newLength_cabcc 10 = .ok (.if_icmp .ge 11, 3) := by decide +kernel
theorem dJ8_newLength_cabcc_13 : decode cJ8_newLength_cabcc 13 = .ok (.iload_n 3, 1) := by decide +kernel
theorem dJ8_newLength_cabcc_14 : decode cJ8_newLength_cabcc 14 = .ok (.ldc 200, 2) := by decide +kernel
theorem dJ8_newLength_cabcc_16 : decode cJ8_newLength_cabcc 16 = .ok (.if_icmp .gt 5, 3) := by decide +kernel
theorem dJ8_newLength_cabcc_19 : decode cJ8_newLength_cabcc 19 = .ok (.iload_n 3, 1) := by decide +kernel
theorem dJ8_newLength_cabcc_20 : decode cJ8_newLength_cabcc 20 = .ok (.ireturn, 1) := by decide +kernel
theorem dJ8_newLength_cabcc_21 : decode cJ8_newLength_cabcc 21 = .ok (.iload_n 0, 1) := by decide +kernel
theorem dJ8_newLength_cabcc_22 : decode cJ8_newLength_cabcc 22 = .ok (.iload_n 1, 1) := by decide +kernel
theorem dJ8_newLength_cabcc_23 : decode cJ8_newLength_cabcc 23 = .ok (.invokestatic 201, 3) := by decide +kernel
theorem dJ8_newLength_cabcc_26 : decode cJ8_newLength_cabcc 26 = .ok (.ireturn, 1) := by decide +kernel
theorem dJ8_hugeLength_7cf53_0 : decode cJ8_hugeLength_7cf53 0 = .ok (.iload_n 0, 1) := by decide +kernel
theorem dJ8_hugeLength_7cf53_1 : decode cJ8_hugeLength_7cf53 1 = .ok (.iload_n 1, 1) := by decide +kernel
theorem dJ8_hugeLength_7cf53_2 : decode cJ8_hugeLength_7cf53 2 = .ok (.iadd, 1) := by decide +kernel
theorem dJ8_hugeLength_7cf53_3 : decode cJ8_hugeLength_7cf53 3 = .ok (.istore_n 2, 1) := by decide +kernel
theorem dJ8_hugeLength_7cf53_4 : decode cJ8_hugeLength_7cf53 4 = .ok (.iload_n 2, 1) := by decide +kernel
theorem dJ8_hugeLength_7cf53_5 : decode cJ8_hugeLength_7cf53 5 = .ok (.ifCond .ge 44, 3) := by decide +kernel
theorem dJ8_hugeLength_7cf53_8 : decode cJ8_hugeLength_7cf53 8 = .ok (.new 204, 3) := by decide +kernel
theorem dJ8_hugeLength_7cf53_11 : decode cJ8_hugeLength_7cf53 11 = .ok (.dup, 1) := by decide +kernel
theorem dJ8_hugeLength_7cf53_12 : decode cJ8_hugeLength_7cf53 12 = .ok (.new 89, 3) := by decide +kernel
theorem dJ8_hugeLength_7cf53_15 : decode cJ8_hugeLength_7cf53 15 = .ok (.dup, 1) := by decide +kernel
theorem dJ8_hugeLength_7cf53_16 : decode cJ8_hugeLength_7cf53 16 = .ok (.invokespecial 91, 3) := by decide +kernel
theorem dJ8_hugeLength_7cf53_19 : decode cJ8_hugeLength_7cf53 19 = .ok (.ldc 206, 2) := by decide +kernel
theorem dJ8_hugeLength_7cf53_21 : decode cJ8_hugeLength_7cf53 21 = .ok (.invokevirtual 94, 3) := by decide +kernel
theorem dJ8_hugeLength_7cf53_24 : decode cJ8_hugeLength_7cf53 24 = .ok (.iload_n 0, 1) := by decide +kernel
theorem dJ8_hugeLength_7cf53_25 : decode cJ8_hugeLength_7cf53 25 = .ok (.invokevirtual 98, 3) := by decide +kernel
theorem dJ8_hugeLength_7cf53_28 : decode cJ8_hugeLength_7cf53 28 = .ok (.ldc 208, 2) := by decide +kernel
theorem dJ8_hugeLength_7cf53_30 : decode cJ8_hugeLength_7cf53 30 = .ok (.invokevirtual 94, 3) := by decide +kernel
theorem dJ8_hugeLength_7cf53_33 : decode cJ8_hugeLength_7cf53 33 = .ok (.iload_n 1, 1) := by decide +kernel
theorem dJ8_hugeLength_7cf53_34 : decode cJ8_hugeLength_7cf53 34 = .ok (.invokevirtual 98, 3) := by decide +kernel
theorem dJ8_hugeLength_7cf53_37 : decode cJ8_hugeLength_7cf53 37 = .ok (.ldc 210, 2) := by decide +kernel
theorem dJ8_hugeLength_7cf53_39 : decode cJ8_hugeLength_7cf53 39 = .ok (.invokevirtual 94, 3) := by decide +kernel
theorem dJ8_hugeLength_7cf53_42 : decode cJ8_hugeLength_7cf53 42 = .ok (.invokevirtual 101, 3) := by decide +kernel
theorem dJ8_hugeLength_7cf53_45 : decode cJ8_hugeLength_7cf53 45 = .ok (.invokespecial 212, 3) := by decide +kernel
theorem dJ8_hugeLength_7cf53_48 : decode cJ8_hugeLength_7cf53 48 = .ok (.athrow, 1) := by decide +kernel
theorem dJ8_hugeLength_7cf53_49 : decode cJ8_hugeLength_7cf53 49 = .ok (.iload_n 2, 1) := by decide +kernel
theorem dJ8_hugeLength_7cf53_50 : decode cJ8_hugeLength_7cf53 50 = .ok (.ldc 200, 2) := by decide +kernel
theorem dJ8_hugeLength_7cf53_52 : decode cJ8_hugeLength_7cf53 52 = .ok (.if_icmp .gt 6, 3) := by decide +kernel
theorem dJ8_hugeLength_7cf53_55 : decode cJ8_hugeLength_7cf53 55 = .ok (.ldc 200, 2) := by decide +kernel
theorem dJ8_hugeLength_7cf53_57 : decode cJ8_hugeLength_7cf53 57 = .ok (.ireturn, 1) := by decide +kernel
theorem dJ8_hugeLength_7cf53_58 : decode cJ8_hugeLength_7cf53 58 = .ok (.iload_n 2, 1) := by decide +kernel
theorem dJ8_hugeLength_7cf53_59 : decode cJ8_hugeLength_7cf53 59 = .ok (.ireturn, 1) := by decide +kernel
theorem dJ3_checkIndex_8e157_0 : decode cJ3_checkIndex_8e157 0 = .ok (.iload_n 0, 1) := by decide +kernel
theorem dJ3_checkIndex_8e157_1 : decode cJ3_checkIndex_8e157 1 = .ok (.ifCond .lt 8, 3) := by decide +kernel
theorem dJ3_checkIndex_8e157_4 : decode cJ3_checkIndex_8e157 4 = .ok (.iload_n 0, 1) := by decide +kernel
theorem dJ3_checkIndex_8e157_5 : decode cJ3_checkIndex_8e157 5 = .ok (.iload_n 1, 1) := by decide +kernel
theorem dJ3_checkIndex_8e157_6 : decode cJ3_checkIndex_8e157 6 = .ok (.if_icmp .lt 10, 3) := by decide +kernel
theorem dJ3_checkIndex_8e157_9 : decode cJ3_checkIndex_8e157 9 = .ok (.aload_n 2, 1) := by decide +kernel
theorem dJ3_checkIndex_8e157_10 : decode cJ3_checkIndex_8e157 10 = .ok (.iload_n 0, 1) := by decide +kernel
theorem dJ3_checkIndex_8e157_11 : decode cJ3_checkIndex_8e157 11 = .ok (.iload_n 1, 1) := by decide +kernel
theorem dJ3_checkIndex_8e157_12 : decode cJ3_checkIndex_8e157 12 = .ok (.invokestatic 95, 3) := by decide +kernel
theorem dJ3_checkIndex_8e157_15 : decode cJ3_checkIndex_8e157 15 = .ok (.athrow, 1) := by decide +kernel
theorem dJ3_checkIndex_8e157_16 : decode cJ3_checkIndex_8e157 16 = .ok (.iload_n 0, 1) := by decide +kernel
theorem dJ3_checkIndex_8e157_17 : decode cJ3_checkIndex_8e157 17 = .ok (.ireturn, 1) := by decide +kernel
theorem dL_claim_0 : decode cL_claim 0 = .ok (.aload 9, 2) := by decide +kernel
theorem dL_claim_2 : decode cL_claim 2 = .ok (.iconst 0, 1) := by decide +kernel
theorem dL_claim_3 : decode cL_claim 3 = .ok (.aload_n 0, 1) := by decide +kernel
theorem dL_claim_4 : decode cL_claim 4 = .ok (.iload_n 1, 1) := by decide +kernel
theorem dL_claim_5 : decode cL_claim 5 = .ok (.iload_n 2, 1) := by decide +kernel
theorem dL_claim_6 : decode cL_claim 6 = .ok (.iload_n 3, 1) := by decide +kernel
theorem dL_claim_7 : decode cL_claim 7 = .ok (.iload 4, 2) := by decide +kernel
theorem dL_claim_9 : decode cL_claim 9 = .ok (.iload 5, 2) := by decide +kernel
theorem dL_claim_11 : decode cL_claim 11 = .ok (.iload 6, 2) := by decide +kernel
theorem dL_claim_13 : decode cL_claim 13 = .ok (.iload 7, 2) := by decide +kernel
theorem dL_claim_15 : decode cL_claim 15 = .ok (.iload 8, 2) := by decide +kernel
theorem dL_claim_17 : decode cL_claim 17 = .ok (.invokevirtual 7, 3) := by decide +kernel
theorem dL_claim_20 : decode cL_claim 20 = .ok (.i2l, 1) := by decide +kernel
theorem dL_claim_21 : decode cL_claim 21 = .ok (.lastore, 1) := by decide +kernel
theorem dL_claim_22 : decode cL_claim 22 = .ok (.goto 11, 3) := by decide +kernel
theorem dL_claim_25 : decode cL_claim 25 = .ok (.astore 10, 2) := by decide +kernel
theorem dL_claim_27 : decode cL_claim 27 = .ok (.iconst 1, 1) := by decide +kernel
theorem dL_claim_28 : decode cL_claim 28 = .ok (.ireturn, 1) := by decide +kernel
theorem dL_claim_29 : decode cL_claim 29 = .ok (.astore 10, 2) := by decide +kernel
theorem dL_claim_31 : decode cL_claim 31 = .ok (.iconst 2, 1) := by decide +kernel
theorem dL_claim_32 : decode cL_claim 32 = .ok (.ireturn, 1) := by decide +kernel
theorem dL_claim_33 : decode cL_claim 33 = .ok (.iconst 0, 1) := by decide +kernel
theorem dL_claim_34 : decode cL_claim 34 = .ok (.ireturn, 1) := by decide +kernel
theorem dL_pledge_0 : decode cL_pledge 0 = .ok (.aload_n 3, 1) := by decide +kernel
theorem dL_pledge_1 : decode cL_pledge 1 = .ok (.iconst 0, 1) := by decide +kernel
theorem dL_pledge_2 : decode cL_pledge 2 = .ok (.aload_n 0, 1) := by decide +kernel
theorem dL_pledge_3 : decode cL_pledge 3 = .ok (.iload_n 1, 1) := by decide +kernel
theorem dL_pledge_4 : decode cL_pledge 4 = .ok (.iload_n 2, 1) := by decide +kernel
theorem dL_pledge_5 : decode cL_pledge 5 = .ok (.invokevirtual 17, 3) := by decide +kernel
theorem dL_pledge_8 : decode cL_pledge 8 = .ok (.lastore, 1) := by decide +kernel
theorem dL_pledge_9 : decode cL_pledge 9 = .ok (.goto 15, 3) := by decide +kernel
theorem dL_pledge_12 : decode cL_pledge 12 = .ok (.astore 4, 2) := by decide +kernel
theorem dL_pledge_14 : decode cL_pledge 14 = .ok (.iconst 1, 1) := by decide +kernel
theorem dL_pledge_15 : decode cL_pledge 15 = .ok (.ireturn, 1) := by decide +kernel
theorem dL_pledge_16 : decode cL_pledge 16 = .ok (.astore 4, 2) := by decide +kernel
theorem dL_pledge_18 : decode cL_pledge 18 = .ok (.iconst 2, 1) := by decide +kernel
theorem dL_pledge_19 : decode cL_pledge 19 = .ok (.ireturn, 1) := by decide +kernel
theorem dL_pledge_20 : decode cL_pledge 20 = .ok (.astore 4, 2) := by decide +kernel
theorem dL_pledge_22 : decode cL_pledge 22 = .ok (.iconst 3, 1) := by decide +kernel
theorem dL_pledge_23 : decode cL_pledge 23 = .ok (.ireturn, 1) := by decide +kernel
theorem dL_pledge_24 : decode cL_pledge 24 = .ok (.iconst 0, 1) := by decide +kernel
theorem dL_pledge_25 : decode cL_pledge 25 = .ok (.ireturn, 1) := by decide +kernel
theorem dL_reveal_0 : decode cL_reveal 0 = .ok (.aload_n 2, 1) := by decide +kernel
theorem dL_reveal_1 : decode cL_reveal 1 = .ok (.iconst 0, 1) := by decide +kernel
theorem dL_reveal_2 : decode cL_reveal 2 = .ok (.aload_n 0, 1) := by decide +kernel
theorem dL_reveal_3 : decode cL_reveal 3 = .ok (.iload_n 1, 1) := by decide +kernel
theorem dL_reveal_4 : decode cL_reveal 4 = .ok (.invokevirtual 23, 3) := by decide +kernel
theorem dL_reveal_7 : decode cL_reveal 7 = .ok (.lastore, 1) := by decide +kernel
theorem dL_reveal_8 : decode cL_reveal 8 = .ok (.goto 9, 3) := by decide +kernel
theorem dL_reveal_11 : decode cL_reveal 11 = .ok (.astore_n 3, 1) := by decide +kernel
theorem dL_reveal_12 : decode cL_reveal 12 = .ok (.iconst 1, 1) := by decide +kernel
theorem dL_reveal_13 : decode cL_reveal 13 = .ok (.ireturn, 1) := by decide +kernel
theorem dL_reveal_14 : decode cL_reveal 14 = .ok (.astore_n 3, 1) := by decide +kernel
theorem dL_reveal_15 : decode cL_reveal 15 = .ok (.iconst 2, 1) := by decide +kernel
theorem dL_reveal_16 : decode cL_reveal 16 = .ok (.ireturn, 1) := by decide +kernel
theorem dL_reveal_17 : decode cL_reveal 17 = .ok (.iconst 0, 1) := by decide +kernel
theorem dL_reveal_18 : decode cL_reveal 18 = .ok (.ireturn, 1) := by decide +kernel
theorem dL_economy_0 : decode cL_economy 0 = .ok (.aload 4, 2) := by decide +kernel
theorem dL_economy_2 : decode cL_economy 2 = .ok (.iconst 0, 1) := by decide +kernel
theorem dL_economy_3 : decode cL_economy 3 = .ok (.aload_n 0, 1) := by decide +kernel
theorem dL_economy_4 : decode cL_economy 4 = .ok (.iload_n 1, 1) := by decide +kernel
theorem dL_economy_5 : decode cL_economy 5 = .ok (.iload_n 2, 1) := by decide +kernel
theorem dL_economy_6 : decode cL_economy 6 = .ok (.iload_n 3, 1) := by decide +kernel
theorem dL_economy_7 : decode cL_economy 7 = .ok (.invokevirtual 27, 3) := by decide +kernel
theorem dL_economy_10 : decode cL_economy 10 = .ok (.lastore, 1) := by decide +kernel
theorem dL_economy_11 : decode cL_economy 11 = .ok (.goto 7, 3) := by decide +kernel
theorem dL_economy_14 : decode cL_economy 14 = .ok (.astore 5, 2) := by decide +kernel
theorem dL_economy_16 : decode cL_economy 16 = .ok (.iconst 1, 1) := by decide +kernel
theorem dL_economy_17 : decode cL_economy 17 = .ok (.ireturn, 1) := by decide +kernel
theorem dL_economy_18 : decode cL_economy 18 = .ok (.iconst 0, 1) := by decide +kernel
theorem dL_economy_19 : decode cL_economy 19 = .ok (.ireturn, 1) := by decide +kernel
theorem dL_moratorium_0 : decode cL_moratorium 0 = .ok (.aload_n 3, 1) := by decide +kernel
theorem dL_moratorium_1 : decode cL_moratorium 1 = .ok (.iconst 0, 1) := by decide +kernel
theorem dL_moratorium_2 : decode cL_moratorium 2 = .ok (.aload_n 0, 1) := by decide +kernel
theorem dL_moratorium_3 : decode cL_moratorium 3 = .ok (.iload_n 1, 1) := by decide +kernel
theorem dL_moratorium_4 : decode cL_moratorium 4 = .ok (.iload_n 2, 1) := by decide +kernel
theorem dL_moratorium_5 : decode cL_moratorium 5 = .ok (.invokevirtual 31, 3) := by decide +kernel
theorem dL_moratorium_8 : decode cL_moratorium 8 = .ok (.ifCond .eq 7, 3) := by decide +kernel
theorem dL_moratorium_11 : decode cL_moratorium 11 = .ok (.lconst 1, 1) := by decide +kernel
theorem dL_moratorium_12 : decode cL_moratorium 12 = .ok (.goto 4, 3) := by decide +kernel
theorem dL_moratorium_15 : decode cL_moratorium 15 = .ok (.lconst 0, 1) := by decide +kernel
theorem dL_moratorium_16 : decode cL_moratorium 16 = .ok (.lastore, 1) := by decide +kernel
theorem dL_moratorium_17 : decode cL_moratorium 17 = .ok (.goto 7, 3) := by decide +kernel
theorem dL_moratorium_20 : decode cL_moratorium 20 = .ok (.astore 4, 2) := by decide +kernel
theorem dL_moratorium_22 : decode cL_moratorium 22 = .ok (.iconst 1, 1) := by decide +kernel
theorem dL_moratorium_23 : decode cL_moratorium 23 = .ok (.ireturn, 1) := by decide +kernel
theorem dL_moratorium_24 : decode cL_moratorium 24 = .ok (.iconst 0, 1) := by decide +kernel
theorem dL_moratorium_25 : decode cL_moratorium 25 = .ok (.ireturn, 1) := by decide +kernel
theorem dL_year_0 : decode cL_year 0 = .ok (.aload_n 2, 1) := by decide +kernel
theorem dL_year_1 : decode cL_year 1 = .ok (.iconst 0, 1) := by decide +kernel
theorem dL_year_2 : decode cL_year 2 = .ok (.aload_n 0, 1) := by decide +kernel
theorem dL_year_3 : decode cL_year 3 = .ok (.iload_n 1, 1) := by decide +kernel
theorem dL_year_4 : decode cL_year 4 = .ok (.invokevirtual 35, 3) := by decide +kernel
theorem dL_year_7 : decode cL_year 7 = .ok (.lastore, 1) := by decide +kernel
theorem dL_year_8 : decode cL_year 8 = .ok (.goto 9, 3) := by decide +kernel
theorem dL_year_11 : decode cL_year 11 = .ok (.astore_n 3, 1) := by decide +kernel
theorem dL_year_12 : decode cL_year 12 = .ok (.iconst 1, 1) := by decide +kernel
theorem dL_year_13 : decode cL_year 13 = .ok (.ireturn, 1) := by decide +kernel
theorem dL_year_14 : decode cL_year 14 = .ok (.astore_n 3, 1) := by decide +kernel
theorem dL_year_15 : decode cL_year 15 = .ok (.iconst 2, 1) := by decide +kernel
theorem dL_year_16 : decode cL_year 16 = .ok (.ireturn, 1) := by decide +kernel
theorem dL_year_17 : decode cL_year 17 = .ok (.iconst 0, 1) := by decide +kernel
theorem dL_year_18 : decode cL_year 18 = .ok (.ireturn, 1) := by decide +kernel
theorem dL_discount_0 : decode cL_discount 0 = .ok (.aload_n 2, 1) := by decide +kernel
theorem dL_discount_1 : decode cL_discount 1 = .ok (.iconst 0, 1) := by decide +kernel
theorem dL_discount_2 : decode cL_discount 2 = .ok (.aload_n 0, 1) := by decide +kernel
theorem dL_discount_3 : decode cL_discount 3 = .ok (.iload_n 1, 1) := by decide +kernel
theorem dL_discount_4 : decode cL_discount 4 = .ok (.invokevirtual 38, 3) := by decide +kernel
theorem dL_discount_7 : decode cL_discount 7 = .ok (.i2l, 1) := by decide +kernel
theorem dL_discount_8 : decode cL_discount 8 = .ok (.lastore, 1) := by decide +kernel
theorem dL_discount_9 : decode cL_discount 9 = .ok (.goto 6, 3) := by decide +kernel
theorem dL_discount_12 : decode cL_discount 12 = .ok (.astore_n 3, 1) := by decide +kernel
theorem dL_discount_13 : decode cL_discount 13 = .ok (.iconst 1, 1) := by decide +kernel
theorem dL_discount_14 : decode cL_discount 14 = .ok (.ireturn, 1) := by decide +kernel
theorem dL_discount_15 : decode cL_discount 15 = .ok (.iconst 0, 1) := by decide +kernel
theorem dL_discount_16 : decode cL_discount 16 = .ok (.ireturn, 1) := by decide +kernel
theorem dL_offer_0 : decode cL_offer 0 = .ok (.aload 4, 2) := by decide +kernel
theorem dL_offer_2 : decode cL_offer 2 = .ok (.iconst 0, 1) := by decide +kernel
theorem dL_offer_3 : decode cL_offer 3 = .ok (.aload_n 0, 1) := by decide +kernel
theorem dL_offer_4 : decode cL_offer 4 = .ok (.iload_n 1, 1) := by decide +kernel
theorem dL_offer_5 : decode cL_offer 5 = .ok (.iload_n 2, 1) := by decide +kernel
theorem dL_offer_6 : decode cL_offer 6 = .ok (.iload_n 3, 1) := by decide +kernel
theorem dL_offer_7 : decode cL_offer 7 = .ok (.invokevirtual 42, 3) := by decide +kernel
theorem dL_offer_10 : decode cL_offer 10 = .ok (.i2l, 1) := by decide +kernel
theorem dL_offer_11 : decode cL_offer 11 = .ok (.lastore, 1) := by decide +kernel
theorem dL_offer_12 : decode cL_offer 12 = .ok (.goto 11, 3) := by decide +kernel
theorem dL_offer_15 : decode cL_offer 15 = .ok (.astore 5, 2) := by decide +kernel
theorem dL_offer_17 : decode cL_offer 17 = .ok (.iconst 1, 1) := by decide +kernel
theorem dL_offer_18 : decode cL_offer 18 = .ok (.ireturn, 1) := by decide +kernel
theorem dL_offer_19 : decode cL_offer 19 = .ok (.astore 5, 2) := by decide +kernel
theorem dL_offer_21 : decode cL_offer 21 = .ok (.iconst 2, 1) := by decide +kernel
theorem dL_offer_22 : decode cL_offer 22 = .ok (.ireturn, 1) := by decide +kernel
theorem dL_offer_23 : decode cL_offer 23 = .ok (.iconst 0, 1) := by decide +kernel
theorem dL_offer_24 : decode cL_offer 24 = .ok (.ireturn, 1) := by decide +kernel
theorem dL_accept_0 : decode cL_accept 0 = .ok (.aload_n 3, 1) := by decide +kernel
theorem dL_accept_1 : decode cL_accept 1 = .ok (.iconst 0, 1) := by decide +kernel
theorem dL_accept_2 : decode cL_accept 2 = .ok (.aload_n 0, 1) := by decide +kernel
theorem dL_accept_3 : decode cL_accept 3 = .ok (.iload_n 1, 1) := by decide +kernel
theorem dL_accept_4 : decode cL_accept 4 = .ok (.iload_n 2, 1) := by decide +kernel
theorem dL_accept_5 : decode cL_accept 5 = .ok (.invokevirtual 46, 3) := by decide +kernel
theorem dL_accept_8 : decode cL_accept 8 = .ok (.i2l, 1) := by decide +kernel
theorem dL_accept_9 : decode cL_accept 9 = .ok (.lastore, 1) := by decide +kernel
theorem dL_accept_10 : decode cL_accept 10 = .ok (.goto 11, 3) := by decide +kernel
theorem dL_accept_13 : decode cL_accept 13 = .ok (.astore 4, 2) := by decide +kernel
theorem dL_accept_15 : decode cL_accept 15 = .ok (.iconst 1, 1) := by decide +kernel
theorem dL_accept_16 : decode cL_accept 16 = .ok (.ireturn, 1) := by decide +kernel
theorem dL_accept_17 : decode cL_accept 17 = .ok (.astore 4, 2) := by decide +kernel
theorem dL_accept_19 : decode cL_accept 19 = .ok (.iconst 2, 1) := by decide +kernel
theorem dL_accept_20 : decode cL_accept 20 = .ok (.ireturn, 1) := by decide +kernel
theorem dL_accept_21 : decode cL_accept 21 = .ok (.iconst 0, 1) := by decide +kernel
theorem dL_accept_22 : decode cL_accept 22 = .ok (.ireturn, 1) := by decide +kernel
theorem dL_vote_0 : decode cL_vote 0 = .ok (.aload_n 0, 1) := by decide +kernel
theorem dL_vote_1 : decode cL_vote 1 = .ok (.iload_n 1, 1) := by decide +kernel
theorem dL_vote_2 : decode cL_vote 2 = .ok (.iload_n 2, 1) := by decide +kernel
theorem dL_vote_3 : decode cL_vote 3 = .ok (.iload_n 3, 1) := by decide +kernel
theorem dL_vote_4 : decode cL_vote 4 = .ok (.invokevirtual 50, 3) := by decide +kernel
theorem dL_vote_7 : decode cL_vote 7 = .ok (.goto 11, 3) := by decide +kernel
theorem dL_vote_10 : decode cL_vote 10 = .ok (.astore 4, 2) := by decide +kernel
theorem dL_vote_12 : decode cL_vote 12 = .ok (.iconst 1, 1) := by decide +kernel
theorem dL_vote_13 : decode cL_vote 13 = .ok (.ireturn, 1) := by decide +kernel
theorem dL_vote_14 : decode cL_vote 14 = .ok (.astore 4, 2) := by decide +kernel
theorem dL_vote_16 : decode cL_vote 16 = .ok (.iconst 2, 1) := by decide +kernel
theorem dL_vote_17 : decode cL_vote 17 = .ok (.ireturn, 1) := by decide +kernel
theorem dL_vote_18 : decode cL_vote 18 = .ok (.iconst 0, 1) := by decide +kernel
theorem dL_vote_19 : decode cL_vote 19 = .ok (.ireturn, 1) := by decide +kernel
theorem dL_settle_0 : decode cL_settle 0 = .ok (.aload_n 2, 1) := by decide +kernel
theorem dL_settle_1 : decode cL_settle 1 = .ok (.iconst 0, 1) := by decide +kernel
theorem dL_settle_2 : decode cL_settle 2 = .ok (.aload_n 0, 1) := by decide +kernel
theorem dL_settle_3 : decode cL_settle 3 = .ok (.iload_n 1, 1) := by decide +kernel
theorem dL_settle_4 : decode cL_settle 4 = .ok (.invokevirtual 54, 3) := by decide +kernel
theorem dL_settle_7 : decode cL_settle 7 = .ok (.i2l, 1) := by decide +kernel
theorem dL_settle_8 : decode cL_settle 8 = .ok (.lastore, 1) := by decide +kernel
theorem dL_settle_9 : decode cL_settle 9 = .ok (.goto 9, 3) := by decide +kernel
theorem dL_settle_12 : decode cL_settle 12 = .ok (.astore_n 3, 1) := by decide +kernel
theorem dL_settle_13 : decode cL_settle 13 = .ok (.iconst 1, 1) := by decide +kernel
theorem dL_settle_14 : decode cL_settle 14 = .ok (.ireturn, 1) := by decide +kernel
theorem dL_settle_15 : decode cL_settle 15 = .ok (.astore_n 3, 1) := by decide +kernel
theorem dL_settle_16 : decode cL_settle 16 = .ok (.iconst 2, 1) := by decide +kernel
theorem dL_settle_17 : decode cL_settle 17 = .ok (.ireturn, 1) := by decide +kernel
theorem dL_settle_18 : decode cL_settle 18 = .ok (.iconst 0, 1) := by decide +kernel
theorem dL_settle_19 : decode cL_settle 19 = .ok (.ireturn, 1) := by decide +kernel
theorem dL_thing_0 : decode cL_thing 0 = .ok (.aload_n 2, 1) := by decide +kernel
theorem dL_thing_1 : decode cL_thing 1 = .ok (.iconst 0, 1) := by decide +kernel
theorem dL_thing_2 : decode cL_thing 2 = .ok (.aload_n 0, 1) := by decide +kernel
theorem dL_thing_3 : decode cL_thing 3 = .ok (.iload_n 1, 1) := by decide +kernel
theorem dL_thing_4 : decode cL_thing 4 = .ok (.invokevirtual 57, 3) := by decide +kernel
theorem dL_thing_7 : decode cL_thing 7 = .ok (.i2l, 1) := by decide +kernel
theorem dL_thing_8 : decode cL_thing 8 = .ok (.lastore, 1) := by decide +kernel
theorem dL_thing_9 : decode cL_thing 9 = .ok (.goto 9, 3) := by decide +kernel
theorem dL_thing_12 : decode cL_thing 12 = .ok (.astore_n 3, 1) := by decide +kernel
theorem dL_thing_13 : decode cL_thing 13 = .ok (.iconst 1, 1) := by decide +kernel
theorem dL_thing_14 : decode cL_thing 14 = .ok (.ireturn, 1) := by decide +kernel
theorem dL_thing_15 : decode cL_thing 15 = .ok (.astore_n 3, 1) := by decide +kernel
theorem dL_thing_16 : decode cL_thing 16 = .ok (.iconst 2, 1) := by decide +kernel
theorem dL_thing_17 : decode cL_thing 17 = .ok (.ireturn, 1) := by decide +kernel
theorem dL_thing_18 : decode cL_thing 18 = .ok (.iconst 0, 1) := by decide +kernel
theorem dL_thing_19 : decode cL_thing 19 = .ok (.ireturn, 1) := by decide +kernel
theorem dL_sue_0 : decode cL_sue 0 = .ok (.aload_n 0, 1) := by decide +kernel
theorem dL_sue_1 : decode cL_sue 1 = .ok (.iload_n 1, 1) := by decide +kernel
theorem dL_sue_2 : decode cL_sue 2 = .ok (.invokevirtual 60, 3) := by decide +kernel
theorem dL_sue_5 : decode cL_sue 5 = .ok (.goto 9, 3) := by decide +kernel
theorem dL_sue_8 : decode cL_sue 8 = .ok (.astore_n 2, 1) := by decide +kernel
theorem dL_sue_9 : decode cL_sue 9 = .ok (.iconst 1, 1) := by decide +kernel
theorem dL_sue_10 : decode cL_sue 10 = .ok (.ireturn, 1) := by decide +kernel
theorem dL_sue_11 : decode cL_sue 11 = .ok (.astore_n 2, 1) := by decide +kernel
theorem dL_sue_12 : decode cL_sue 12 = .ok (.iconst 2, 1) := by decide +kernel
theorem dL_sue_13 : decode cL_sue 13 = .ok (.ireturn, 1) := by decide +kernel
theorem dL_sue_14 : decode cL_sue 14 = .ok (.iconst 0, 1) := by decide +kernel
theorem dL_sue_15 : decode cL_sue 15 = .ok (.ireturn, 1) := by decide +kernel
theorem dL_seize_0 : decode cL_seize 0 = .ok (.aload_n 3, 1) := by decide +kernel
theorem dL_seize_1 : decode cL_seize 1 = .ok (.iconst 0, 1) := by decide +kernel
theorem dL_seize_2 : decode cL_seize 2 = .ok (.aload_n 0, 1) := by decide +kernel
theorem dL_seize_3 : decode cL_seize 3 = .ok (.iload_n 1, 1) := by decide +kernel
theorem dL_seize_4 : decode cL_seize 4 = .ok (.iload_n 2, 1) := by decide +kernel
theorem dL_seize_5 : decode cL_seize 5 = .ok (.invokevirtual 64, 3) := by decide +kernel
theorem dL_seize_8 : decode cL_seize 8 = .ok (.lastore, 1) := by decide +kernel
theorem dL_seize_9 : decode cL_seize 9 = .ok (.goto 11, 3) := by decide +kernel
theorem dL_seize_12 : decode cL_seize 12 = .ok (.astore 4, 2) := by decide +kernel
theorem dL_seize_14 : decode cL_seize 14 = .ok (.iconst 1, 1) := by decide +kernel
theorem dL_seize_15 : decode cL_seize 15 = .ok (.ireturn, 1) := by decide +kernel
theorem dL_seize_16 : decode cL_seize 16 = .ok (.astore 4, 2) := by decide +kernel
theorem dL_seize_18 : decode cL_seize 18 = .ok (.iconst 2, 1) := by decide +kernel
theorem dL_seize_19 : decode cL_seize 19 = .ok (.ireturn, 1) := by decide +kernel
theorem dL_seize_20 : decode cL_seize 20 = .ok (.iconst 0, 1) := by decide +kernel
theorem dL_seize_21 : decode cL_seize 21 = .ok (.ireturn, 1) := by decide +kernel
theorem dL_programme_0 : decode cL_programme 0 = .ok (.aload_n 0, 1) := by decide +kernel
theorem dL_programme_1 : decode cL_programme 1 = .ok (.iload_n 1, 1) := by decide +kernel
theorem dL_programme_2 : decode cL_programme 2 = .ok (.iload_n 2, 1) := by decide +kernel
theorem dL_programme_3 : decode cL_programme 3 = .ok (.iload_n 3, 1) := by decide +kernel
theorem dL_programme_4 : decode cL_programme 4 = .ok (.invokevirtual 67, 3) := by decide +kernel
theorem dL_programme_7 : decode cL_programme 7 = .ok (.goto 7, 3) := by decide +kernel
theorem dL_programme_10 : decode cL_programme 10 = .ok (.astore 4, 2) := by decide +kernel
theorem dL_programme_12 : decode cL_programme 12 = .ok (.iconst 1, 1) := by decide +kernel
theorem dL_programme_13 : decode cL_programme 13 = .ok (.ireturn, 1) := by decide +kernel
theorem dL_programme_14 : decode cL_programme 14 = .ok (.iconst 0, 1) := by decide +kernel
theorem dL_programme_15 : decode cL_programme 15 = .ok (.ireturn, 1) := by decide +kernel
theorem dL_assure_0 : decode cL_assure 0 = .ok (.aload_n 3, 1) := by decide +kernel
theorem dL_assure_1 : decode cL_assure 1 = .ok (.iconst 0, 1) := by decide +kernel
theorem dL_assure_2 : decode cL_assure 2 = .ok (.aload_n 0, 1) := by decide +kernel
theorem dL_assure_3 : decode cL_assure 3 = .ok (.iload_n 1, 1) := by decide +kernel
theorem dL_assure_4 : decode cL_assure 4 = .ok (.iload_n 2, 1) := by decide +kernel
theorem dL_assure_5 : decode cL_assure 5 = .ok (.invokevirtual 71, 3) := by decide +kernel
theorem dL_assure_8 : decode cL_assure 8 = .ok (.ifCond .eq 7, 3) := by decide +kernel
theorem dL_assure_11 : decode cL_assure 11 = .ok (.lconst 1, 1) := by decide +kernel
theorem dL_assure_12 : decode cL_assure 12 = .ok (.goto 4, 3) := by decide +kernel
theorem dL_assure_15 : decode cL_assure 15 = .ok (.lconst 0, 1) := by decide +kernel
theorem dL_assure_16 : decode cL_assure 16 = .ok (.lastore, 1) := by decide +kernel
theorem dL_assure_17 : decode cL_assure 17 = .ok (.goto 7, 3) := by decide +kernel
theorem dL_assure_20 : decode cL_assure 20 = .ok (.astore 4, 2) := by decide +kernel
theorem dL_assure_22 : decode cL_assure 22 = .ok (.iconst 1, 1) := by decide +kernel
theorem dL_assure_23 : decode cL_assure 23 = .ok (.ireturn, 1) := by decide +kernel
theorem dL_assure_24 : decode cL_assure 24 = .ok (.iconst 0, 1) := by decide +kernel
theorem dL_assure_25 : decode cL_assure 25 = .ok (.ireturn, 1) := by decide +kernel
theorem dL_review_0 : decode cL_review 0 = .ok (.aload_n 1, 1) := by decide +kernel
theorem dL_review_1 : decode cL_review 1 = .ok (.iconst 0, 1) := by decide +kernel
theorem dL_review_2 : decode cL_review 2 = .ok (.aload_n 0, 1) := by decide +kernel
theorem dL_review_3 : decode cL_review 3 = .ok (.invokevirtual 74, 3) := by decide +kernel
theorem dL_review_6 : decode cL_review 6 = .ok (.i2l, 1) := by decide +kernel
theorem dL_review_7 : decode cL_review 7 = .ok (.lastore, 1) := by decide +kernel
theorem dL_review_8 : decode cL_review 8 = .ok (.goto 6, 3) := by decide +kernel
theorem dL_review_11 : decode cL_review 11 = .ok (.astore_n 2, 1) := by decide +kernel
theorem dL_review_12 : decode cL_review 12 = .ok (.iconst 1, 1) := by decide +kernel
theorem dL_review_13 : decode cL_review 13 = .ok (.ireturn, 1) := by decide +kernel
theorem dL_review_14 : decode cL_review 14 = .ok (.iconst 0, 1) := by decide +kernel
theorem dL_review_15 : decode cL_review 15 = .ok (.ireturn, 1) := by decide +kernel
theorem dL_value_0 : decode cL_value 0 = .ok (.aload_n 3, 1) := by decide +kernel
theorem dL_value_1 : decode cL_value 1 = .ok (.iconst 0, 1) := by decide +kernel
theorem dL_value_2 : decode cL_value 2 = .ok (.aload_n 0, 1) := by decide +kernel
theorem dL_value_3 : decode cL_value 3 = .ok (.iload_n 1, 1) := by decide +kernel
theorem dL_value_4 : decode cL_value 4 = .ok (.iload_n 2, 1) := by decide +kernel
theorem dL_value_5 : decode cL_value 5 = .ok (.invokevirtual 78, 3) := by decide +kernel
theorem dL_value_8 : decode cL_value 8 = .ok (.lastore, 1) := by decide +kernel
theorem dL_value_9 : decode cL_value 9 = .ok (.goto 11, 3) := by decide +kernel
theorem dL_value_12 : decode cL_value 12 = .ok (.astore 4, 2) := by decide +kernel
theorem dL_value_14 : decode cL_value 14 = .ok (.iconst 1, 1) := by decide +kernel
theorem dL_value_15 : decode cL_value 15 = .ok (.ireturn, 1) := by decide +kernel
theorem dL_value_16 : decode cL_value 16 = .ok (.astore 4, 2) := by decide +kernel
theorem dL_value_18 : decode cL_value 18 = .ok (.iconst 2, 1) := by decide +kernel
theorem dL_value_19 : decode cL_value 19 = .ok (.ireturn, 1) := by decide +kernel
theorem dL_value_20 : decode cL_value 20 = .ok (.iconst 0, 1) := by decide +kernel
theorem dL_value_21 : decode cL_value 21 = .ok (.ireturn, 1) := by decide +kernel
theorem dL_offered_0 : decode cL_offered 0 = .ok (.aload 4, 2) := by decide +kernel
theorem dL_offered_2 : decode cL_offered 2 = .ok (.iconst 0, 1) := by decide +kernel
theorem dL_offered_3 : decode cL_offered 3 = .ok (.aload_n 0, 1) := by decide +kernel
theorem dL_offered_4 : decode cL_offered 4 = .ok (.iload_n 1, 1) := by decide +kernel
theorem dL_offered_5 : decode cL_offered 5 = .ok (.iload_n 2, 1) := by decide +kernel
theorem dL_offered_6 : decode cL_offered 6 = .ok (.iload_n 3, 1) := by decide +kernel
theorem dL_offered_7 : decode cL_offered 7 = .ok (.invokevirtual 81, 3) := by decide +kernel
theorem dL_offered_10 : decode cL_offered 10 = .ok (.lastore, 1) := by decide +kernel
theorem dL_offered_11 : decode cL_offered 11 = .ok (.goto 11, 3) := by decide +kernel
theorem dL_offered_14 : decode cL_offered 14 = .ok (.astore 5, 2) := by decide +kernel
theorem dL_offered_16 : decode cL_offered 16 = .ok (.iconst 1, 1) := by decide +kernel
theorem dL_offered_17 : decode cL_offered 17 = .ok (.ireturn, 1) := by decide +kernel
theorem dL_offered_18 : decode cL_offered 18 = .ok (.astore 5, 2) := by decide +kernel
theorem dL_offered_20 : decode cL_offered 20 = .ok (.iconst 2, 1) := by decide +kernel
theorem dL_offered_21 : decode cL_offered 21 = .ok (.ireturn, 1) := by decide +kernel
theorem dL_offered_22 : decode cL_offered 22 = .ok (.iconst 0, 1) := by decide +kernel
theorem dL_offered_23 : decode cL_offered 23 = .ok (.ireturn, 1) := by decide +kernel
theorem dL_effort_0 : decode cL_effort 0 = .ok (.aload_n 2, 1) := by decide +kernel
theorem dL_effort_1 : decode cL_effort 1 = .ok (.iconst 0, 1) := by decide +kernel
theorem dL_effort_2 : decode cL_effort 2 = .ok (.aload_n 0, 1) := by decide +kernel
theorem dL_effort_3 : decode cL_effort 3 = .ok (.iload_n 1, 1) := by decide +kernel
theorem dL_effort_4 : decode cL_effort 4 = .ok (.invokevirtual 84, 3) := by decide +kernel
theorem dL_effort_7 : decode cL_effort 7 = .ok (.i2l, 1) := by decide +kernel
theorem dL_effort_8 : decode cL_effort 8 = .ok (.lastore, 1) := by decide +kernel
theorem dL_effort_9 : decode cL_effort 9 = .ok (.goto 6, 3) := by decide +kernel
theorem dL_effort_12 : decode cL_effort 12 = .ok (.astore_n 3, 1) := by decide +kernel
theorem dL_effort_13 : decode cL_effort 13 = .ok (.iconst 1, 1) := by decide +kernel
theorem dL_effort_14 : decode cL_effort 14 = .ok (.ireturn, 1) := by decide +kernel
theorem dL_effort_15 : decode cL_effort 15 = .ok (.iconst 0, 1) := by decide +kernel
theorem dL_effort_16 : decode cL_effort 16 = .ok (.ireturn, 1) := by decide +kernel
theorem dL_passes_0 : decode cL_passes 0 = .ok (.aload_n 3, 1) := by decide +kernel
theorem dL_passes_1 : decode cL_passes 1 = .ok (.iconst 0, 1) := by decide +kernel
theorem dL_passes_2 : decode cL_passes 2 = .ok (.aload_n 0, 1) := by decide +kernel
theorem dL_passes_3 : decode cL_passes 3 = .ok (.iload_n 1, 1) := by decide +kernel
theorem dL_passes_4 : decode cL_passes 4 = .ok (.iload_n 2, 1) := by decide +kernel
theorem dL_passes_5 : decode cL_passes 5 = .ok (.invokevirtual 87, 3) := by decide +kernel
theorem dL_passes_8 : decode cL_passes 8 = .ok (.ifCond .eq 7, 3) := by decide +kernel
theorem dL_passes_11 : decode cL_passes 11 = .ok (.lconst 1, 1) := by decide +kernel
theorem dL_passes_12 : decode cL_passes 12 = .ok (.goto 4, 3) := by decide +kernel
theorem dL_passes_15 : decode cL_passes 15 = .ok (.lconst 0, 1) := by decide +kernel
theorem dL_passes_16 : decode cL_passes 16 = .ok (.lastore, 1) := by decide +kernel
theorem dL_passes_17 : decode cL_passes 17 = .ok (.goto 7, 3) := by decide +kernel
theorem dL_passes_20 : decode cL_passes 20 = .ok (.astore 4, 2) := by decide +kernel
theorem dL_passes_22 : decode cL_passes 22 = .ok (.iconst 1, 1) := by decide +kernel
theorem dL_passes_23 : decode cL_passes 23 = .ok (.ireturn, 1) := by decide +kernel
theorem dL_passes_24 : decode cL_passes 24 = .ok (.iconst 0, 1) := by decide +kernel
theorem dL_passes_25 : decode cL_passes 25 = .ok (.ireturn, 1) := by decide +kernel
theorem dL_isBearable_0 : decode cL_isBearable 0 = .ok (.aload_n 2, 1) := by decide +kernel
theorem dL_isBearable_1 : decode cL_isBearable 1 = .ok (.iconst 0, 1) := by decide +kernel
theorem dL_isBearable_2 : decode cL_isBearable 2 = .ok (.aload_n 0, 1) := by decide +kernel
theorem dL_isBearable_3 : decode cL_isBearable 3 = .ok (.iload_n 1, 1) := by decide +kernel
theorem dL_isBearable_4 : decode cL_isBearable 4 = .ok (.invokevirtual 91, 3) := by decide +kernel
theorem dL_isBearable_7 : decode cL_isBearable 7 = .ok (.ifCond .eq 7, 3) := by decide +kernel
theorem dL_isBearable_10 : decode cL_isBearable 10 = .ok (.lconst 1, 1) := by decide +kernel
theorem dL_isBearable_11 : decode cL_isBearable 11 = .ok (.goto 4, 3) := by decide +kernel
theorem dL_isBearable_14 : decode cL_isBearable 14 = .ok (.lconst 0, 1) := by decide +kernel
theorem dL_isBearable_15 : decode cL_isBearable 15 = .ok (.lastore, 1) := by decide +kernel
theorem dL_isBearable_16 : decode cL_isBearable 16 = .ok (.goto 6, 3) := by decide +kernel
theorem dL_isBearable_19 : decode cL_isBearable 19 = .ok (.astore_n 3, 1) := by decide +kernel
theorem dL_isBearable_20 : decode cL_isBearable 20 = .ok (.iconst 1, 1) := by decide +kernel
theorem dL_isBearable_21 : decode cL_isBearable 21 = .ok (.ireturn, 1) := by decide +kernel
theorem dL_isBearable_22 : decode cL_isBearable 22 = .ok (.iconst 0, 1) := by decide +kernel
theorem dL_isBearable_23 : decode cL_isBearable 23 = .ok (.ireturn, 1) := by decide +kernel
theorem dL_ofClaim_0 : decode cL_ofClaim 0 = .ok (.aload_n 3, 1) := by decide +kernel
theorem dL_ofClaim_1 : decode cL_ofClaim 1 = .ok (.iconst 0, 1) := by decide +kernel
theorem dL_ofClaim_2 : decode cL_ofClaim 2 = .ok (.aload_n 0, 1) := by decide +kernel
theorem dL_ofClaim_3 : decode cL_ofClaim 3 = .ok (.iload_n 1, 1) := by decide +kernel
theorem dL_ofClaim_4 : decode cL_ofClaim 4 = .ok (.iload_n 2, 1) := by decide +kernel
theorem dL_ofClaim_5 : decode cL_ofClaim 5 = .ok (.invokevirtual 95, 3) := by decide +kernel
theorem dL_ofClaim_8 : decode cL_ofClaim 8 = .ok (.lastore, 1) := by decide +kernel
theorem dL_ofClaim_9 : decode cL_ofClaim 9 = .ok (.goto 11, 3) := by decide +kernel
theorem dL_ofClaim_12 : decode cL_ofClaim 12 = .ok (.astore 4, 2) := by decide +kernel
theorem dL_ofClaim_14 : decode cL_ofClaim 14 = .ok (.iconst 1, 1) := by decide +kernel
theorem dL_ofClaim_15 : decode cL_ofClaim 15 = .ok (.ireturn, 1) := by decide +kernel
theorem dL_ofClaim_16 : decode cL_ofClaim 16 = .ok (.astore 4, 2) := by decide +kernel
theorem dL_ofClaim_18 : decode cL_ofClaim 18 = .ok (.iconst 2, 1) := by decide +kernel
theorem dL_ofClaim_19 : decode cL_ofClaim 19 = .ok (.ireturn, 1) := by decide +kernel
theorem dL_ofClaim_20 : decode cL_ofClaim 20 = .ok (.iconst 0, 1) := by decide +kernel
theorem dL_ofClaim_21 : decode cL_ofClaim 21 = .ok (.ireturn, 1) := by decide +kernel
theorem dL_paidAnew_0 : decode cL_paidAnew 0 = .ok (.aload_n 2, 1) := by decide +kernel
theorem dL_paidAnew_1 : decode cL_paidAnew 1 = .ok (.iconst 0, 1) := by decide +kernel
theorem dL_paidAnew_2 : decode cL_paidAnew 2 = .ok (.aload_n 0, 1) := by decide +kernel
theorem dL_paidAnew_3 : decode cL_paidAnew 3 = .ok (.iload_n 1, 1) := by decide +kernel
theorem dL_paidAnew_4 : decode cL_paidAnew 4 = .ok (.invokevirtual 98, 3) := by decide +kernel
theorem dL_paidAnew_7 : decode cL_paidAnew 7 = .ok (.lastore, 1) := by decide +kernel
theorem dL_paidAnew_8 : decode cL_paidAnew 8 = .ok (.goto 6, 3) := by decide +kernel
theorem dL_paidAnew_11 : decode cL_paidAnew 11 = .ok (.astore_n 3, 1) := by decide +kernel
theorem dL_paidAnew_12 : decode cL_paidAnew 12 = .ok (.iconst 1, 1) := by decide +kernel
theorem dL_paidAnew_13 : decode cL_paidAnew 13 = .ok (.ireturn, 1) := by decide +kernel
theorem dL_paidAnew_14 : decode cL_paidAnew 14 = .ok (.iconst 0, 1) := by decide +kernel
theorem dL_paidAnew_15 : decode cL_paidAnew 15 = .ok (.ireturn, 1) := by decide +kernel
theorem dL_ofState_0 : decode cL_ofState 0 = .ok (.aload_n 2, 1) := by decide +kernel
theorem dL_ofState_1 : decode cL_ofState 1 = .ok (.iconst 0, 1) := by decide +kernel
theorem dL_ofState_2 : decode cL_ofState 2 = .ok (.aload_n 0, 1) := by decide +kernel
theorem dL_ofState_3 : decode cL_ofState 3 = .ok (.iload_n 1, 1) := by decide +kernel
theorem dL_ofState_4 : decode cL_ofState 4 = .ok (.invokevirtual 101, 3) := by decide +kernel
theorem dL_ofState_7 : decode cL_ofState 7 = .ok (.lastore, 1) := by decide +kernel
theorem dL_ofState_8 : decode cL_ofState 8 = .ok (.goto 6, 3) := by decide +kernel
theorem dL_ofState_11 : decode cL_ofState 11 = .ok (.astore_n 3, 1) := by decide +kernel
theorem dL_ofState_12 : decode cL_ofState 12 = .ok (.iconst 1, 1) := by decide +kernel
theorem dL_ofState_13 : decode cL_ofState 13 = .ok (.ireturn, 1) := by decide +kernel
theorem dL_ofState_14 : decode cL_ofState 14 = .ok (.iconst 0, 1) := by decide +kernel
theorem dL_ofState_15 : decode cL_ofState 15 = .ok (.ireturn, 1) := by decide +kernel
theorem dL_law_0 : decode cL_law 0 = .ok (.new 8, 3) := by decide +kernel
theorem dL_law_3 : decode cL_law 3 = .ok (.dup, 1) := by decide +kernel
theorem dL_law_4 : decode cL_law 4 = .ok (.invokespecial 104, 3) := by decide +kernel
theorem dL_law_7 : decode cL_law 7 = .ok (.astore_n 1, 1) := by decide +kernel
theorem dL_law_8 : decode cL_law 8 = .ok (.new 105, 3) := by decide +kernel
theorem dL_law_11 : decode cL_law 11 = .ok (.dup, 1) := by decide +kernel
theorem dL_law_12 : decode cL_law 12 = .ok (.invokespecial 107, 3) := by decide +kernel
theorem dL_law_15 : decode cL_law 15 = .ok (.astore_n 2, 1) := by decide +kernel
theorem dL_law_16 : decode cL_law 16 = .ok (.iconst 1, 1) := by decide +kernel
theorem dL_law_17 : decode cL_law 17 = .ok (.newarray .long, 2) := by decide +kernel
theorem dL_law_19 : decode cL_law 19 = .ok (.astore_n 3, 1) := by decide +kernel
theorem dL_law_20 : decode cL_law 20 = .ok (.iconst 0, 1) := by decide +kernel
theorem dL_law_21 : decode cL_law 21 = .ok (.istore 4, 2) := by decide +kernel
theorem dL_law_23 : decode cL_law 23 = .ok (.iload 4, 2) := by decide +kernel
theorem dL_law_25 : decode cL_law 25 = .ok (.aload_n 0, 1) := by decide +kernel
theorem dL_law_26 : decode cL_law 26 = .ok (.arraylength, 1) := by decide +kernel
theorem dL_law_27 : decode cL_law 27 = .ok (.bipush 9, 2) := by decide +kernel
theorem dL_law_29 : decode cL_law 29 = .ok (.isub, 1) := by decide +kernel
theorem dL_law_30 : decode cL_law 30 = .ok (.if_icmp .gt 1865, 3) := by decide +kernel
theorem dL_law_33 : decode cL_law 33 = .ok (.aload_n 0, 1) := by decide +kernel
theorem dL_law_34 : decode cL_law 34 = .ok (.iload 4, 2) := by decide +kernel
theorem dL_law_36 : decode cL_law 36 = .ok (.iaload, 1) := by decide +kernel
theorem dL_law_37 : decode cL_law 37 = .ok (.bipush 31, 2) := by decide +kernel
theorem dL_law_39 : decode cL_law 39 = .ok (.iand, 1) := by decide +kernel
theorem dL_law_40 : decode cL_law 40 = .ok (.tableswitch 1849 0 25 #[120, 282, 349, 404, 483, 574, 629, 685, 765, 833, 909, 965, 1021, 1057, 1124, 1184, 1275, 1319, 1386, 1465, 1521, 1534, 1609, 1672, 1739, 1794], 120) := by decide +kernel
theorem dL_law_160 : decode cL_law 160 = .ok (.aload_n 1, 1) := by decide +kernel
theorem dL_law_161 : decode cL_law 161 = .ok (.aload_n 0, 1) := by decide +kernel
theorem dL_law_162 : decode cL_law 162 = .ok (.iload 4, 2) := by decide +kernel
theorem dL_law_164 : decode cL_law 164 = .ok (.iconst 1, 1) := by decide +kernel
theorem dL_law_165 : decode cL_law 165 = .ok (.iadd, 1) := by decide +kernel
theorem dL_law_166 : decode cL_law 166 = .ok (.iaload, 1) := by decide +kernel
theorem dL_law_167 : decode cL_law 167 = .ok (.aload_n 0, 1) := by decide +kernel
theorem dL_law_168 : decode cL_law 168 = .ok (.iload 4, 2) := by decide +kernel
theorem dL_law_170 : decode cL_law 170 = .ok (.iconst 2, 1) := by decide +kernel
theorem dL_law_171 : decode cL_law 171 = .ok (.iadd, 1) := by decide +kernel
theorem dL_law_172 : decode cL_law 172 = .ok (.iaload, 1) := by decide +kernel
theorem dL_law_173 : decode cL_law 173 = .ok (.aload_n 0, 1) := by decide +kernel
theorem dL_law_174 : decode cL_law 174 = .ok (.iload 4, 2) := by decide +kernel
theorem dL_law_176 : decode cL_law 176 = .ok (.iconst 3, 1) := by decide +kernel
theorem dL_law_177 : decode cL_law 177 = .ok (.iadd, 1) := by decide +kernel
