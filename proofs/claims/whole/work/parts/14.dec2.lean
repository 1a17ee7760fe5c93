theorem dX3_quotient_15 : decode cX3_quotient 15 = .ok (.lreturn, 1) := by decide +kernel
theorem dX3_couponOf_0 : decode cX3_couponOf 0 = .ok (.lload_n 0, 1) := by decide +kernel
theorem dX3_couponOf_1 : decode cX3_couponOf 1 = .ok (.iload_n 2, 1) := by decide +kernel
theorem dX3_couponOf_2 : decode cX3_couponOf 2 = .ok (.i2l, 1) := by decide +kernel
theorem dX3_couponOf_3 : decode cX3_couponOf 3 = .ok (.lmul, 1) := by decide +kernel
theorem dX3_couponOf_4 : decode cX3_couponOf 4 = .ok (.ldc2_w 146, 3) := by decide +kernel
theorem dX3_couponOf_7 : decode cX3_couponOf 7 = .ok (.invokestatic 142, 3) := by decide +kernel
theorem dX3_couponOf_10 : decode cX3_couponOf 10 = .ok (.lreturn, 1) := by decide +kernel
theorem dX3_discounted_0 : decode cX3_discounted 0 = .ok (.lconst 0, 1) := by decide +kernel
theorem dX3_discounted_1 : decode cX3_discounted 1 = .ok (.lstore 5, 2) := by decide +kernel
theorem dX3_discounted_3 : decode cX3_discounted 3 = .ok (.lload_n 0, 1) := by decide +kernel
theorem dX3_discounted_4 : decode cX3_discounted 4 = .ok (.lload_n 0, 1) := by decide +kernel
theorem dX3_discounted_5 : decode cX3_discounted 5 = .ok (.iload_n 2, 1) := by decide +kernel
theorem dX3_discounted_6 : decode cX3_discounted 6 = .ok (.invokestatic 388, 3) := by decide +kernel
theorem dX3_discounted_9 : decode cX3_discounted 9 = .ok (.ladd, 1) := by decide +kernel
theorem dX3_discounted_10 : decode cX3_discounted 10 = .ok (.lstore 7, 2) := by decide +kernel
theorem dX3_discounted_12 : decode cX3_discounted 12 = .ok (.iload_n 3, 1) := by decide +kernel
theorem dX3_discounted_13 : decode cX3_discounted 13 = .ok (.istore 9, 2) := by decide +kernel
theorem dX3_discounted_15 : decode cX3_discounted 15 = .ok (.iload 9, 2) := by decide +kernel
theorem dX3_discounted_17 : decode cX3_discounted 17 = .ok (.ifCond .le 37, 3) := by decide +kernel
theorem dX3_discounted_20 : decode cX3_discounted 20 = .ok (.lload 5, 2) := by decide +kernel
theorem dX3_discounted_22 : decode cX3_discounted 22 = .ok (.lload 7, 2) := by decide +kernel
theorem dX3_discounted_24 : decode cX3_discounted 24 = .ok (.ladd, 1) := by decide +kernel
theorem dX3_discounted_25 : decode cX3_discounted 25 = .ok (.ldc2_w 146, 3) := by decide +kernel
theorem dX3_discounted_28 : decode cX3_discounted 28 = .ok (.lmul, 1) := by decide +kernel
theorem dX3_discounted_29 : decode cX3_discounted 29 = .ok (.sipush 10000, 3) := by decide +kernel
theorem dX3_discounted_32 : decode cX3_discounted 32 = .ok (.iload 4, 2) := by decide +kernel
theorem dX3_discounted_34 : decode cX3_discounted 34 = .ok (.iadd, 1) := by decide +kernel
theorem dX3_discounted_35 : decode cX3_discounted 35 = .ok (.i2l, 1) := by decide +kernel
theorem dX3_discounted_36 : decode cX3_discounted 36 = .ok (.invokestatic 142, 3) := by decide +kernel
theorem dX3_discounted_39 : decode cX3_discounted 39 = .ok (.lstore 5, 2) := by decide +kernel
theorem dX3_discounted_41 : decode cX3_discounted 41 = .ok (.lload_n 0, 1) := by decide +kernel
theorem dX3_discounted_42 : decode cX3_discounted 42 = .ok (.iload_n 2, 1) := by decide +kernel
theorem dX3_discounted_43 : decode cX3_discounted 43 = .ok (.invokestatic 388, 3) := by decide +kernel
theorem dX3_discounted_46 : decode cX3_discounted 46 = .ok (.lstore 7, 2) := by decide +kernel
theorem dX3_discounted_48 : decode cX3_discounted 48 = .ok (.iinc 9 (-1), 3) := by decide +kernel
theorem dX3_discounted_51 : decode cX3_discounted 51 = .ok (.goto (-36), 3) := by decide +kernel
theorem dX3_discounted_54 : decode cX3_discounted 54 = .ok (.lload 5, 2) := by decide +kernel
theorem dX3_discounted_56 : decode cX3_discounted 56 = .ok (.lreturn, 1) := by decide +kernel
theorem dX4_init_0 : decode cX4_init 0 = .ok (.aload_n 0, 1) := by decide +kernel
theorem dX4_init_1 : decode cX4_init 1 = .ok (.invokespecial 1, 3) := by decide +kernel
theorem dX4_init_4 : decode cX4_init 4 = .ok (.aload_n 0, 1) := by decide +kernel
theorem dX4_init_5 : decode cX4_init 5 = .ok (.ldc2_w 7, 3) := by decide +kernel
theorem dX4_init_8 : decode cX4_init 8 = .ok (.putfield 9, 3) := by decide +kernel
theorem dX4_init_11 : decode cX4_init 11 = .ok (.aload_n 0, 1) := by decide +kernel
theorem dX4_init_12 : decode cX4_init 12 = .ok (.sipush 800, 3) := by decide +kernel
theorem dX4_init_15 : decode cX4_init 15 = .ok (.putfield 15, 3) := by decide +kernel
theorem dX4_init_18 : decode cX4_init 18 = .ok (.aload_n 0, 1) := by decide +kernel
theorem dX4_init_19 : decode cX4_init 19 = .ok (.bipush 40, 2) := by decide +kernel
theorem dX4_init_21 : decode cX4_init 21 = .ok (.newarray .int, 2) := by decide +kernel
theorem dX4_init_23 : decode cX4_init 23 = .ok (.putfield 19, 3) := by decide +kernel
theorem dX4_init_26 : decode cX4_init 26 = .ok (.aload_n 0, 1) := by decide +kernel
theorem dX4_init_27 : decode cX4_init 27 = .ok (.bipush 40, 2) := by decide +kernel
theorem dX4_init_29 : decode cX4_init 29 = .ok (.newarray .int, 2) := by decide +kernel
theorem dX4_init_31 : decode cX4_init 31 = .ok (.putfield 23, 3) := by decide +kernel
theorem dX4_init_34 : decode cX4_init 34 = .ok (.aload_n 0, 1) := by decide +kernel
theorem dX4_init_35 : decode cX4_init 35 = .ok (.bipush 40, 2) := by decide +kernel
theorem dX4_init_37 : decode cX4_init 37 = .ok (.newarray .long, 2) := by decide +kernel
theorem dX4_init_39 : decode cX4_init 39 = .ok (.putfield 26, 3) := by decide +kernel
theorem dX4_init_42 : decode cX4_init 42 = .ok (.aload_n 0, 1) := by decide +kernel
theorem dX4_init_43 : decode cX4_init 43 = .ok (.bipush 40, 2) := by decide +kernel
theorem dX4_init_45 : decode cX4_init 45 = .ok (.newarray .int, 2) := by decide +kernel
theorem dX4_init_47 : decode cX4_init 47 = .ok (.putfield 30, 3) := by decide +kernel
theorem dX4_init_50 : decode cX4_init 50 = .ok (.aload_n 0, 1) := by decide +kernel
theorem dX4_init_51 : decode cX4_init 51 = .ok (.bipush 40, 2) := by decide +kernel
theorem dX4_init_53 : decode cX4_init 53 = .ok (.newarray .int, 2) := by decide +kernel
theorem dX4_init_55 : decode cX4_init 55 = .ok (.putfield 33, 3) := by decide +kernel
theorem dX4_init_58 : decode cX4_init 58 = .ok (.aload_n 0, 1) := by decide +kernel
theorem dX4_init_59 : decode cX4_init 59 = .ok (.bipush 40, 2) := by decide +kernel
theorem dX4_init_61 : decode cX4_init 61 = .ok (.newarray .int, 2) := by decide +kernel
theorem dX4_init_63 : decode cX4_init 63 = .ok (.putfield 36, 3) := by decide +kernel
theorem dX4_init_66 : decode cX4_init 66 = .ok (.aload_n 0, 1) := by decide +kernel
theorem dX4_init_67 : decode cX4_init 67 = .ok (.bipush 40, 2) := by decide +kernel
theorem dX4_init_69 : decode cX4_init 69 = .ok (.newarray .int, 2) := by decide +kernel
theorem dX4_init_71 : decode cX4_init 71 = .ok (.putfield 39, 3) := by decide +kernel
theorem dX4_init_74 : decode cX4_init 74 = .ok (.aload_n 0, 1) := by decide +kernel
theorem dX4_init_75 : decode cX4_init 75 = .ok (.bipush 40, 2) := by decide +kernel
theorem dX4_init_77 : decode cX4_init 77 = .ok (.newarray .boolean, 2) := by decide +kernel
theorem dX4_init_79 : decode cX4_init 79 = .ok (.putfield 42, 3) := by decide +kernel
theorem dX4_init_82 : decode cX4_init 82 = .ok (.aload_n 0, 1) := by decide +kernel
theorem dX4_init_83 : decode cX4_init 83 = .ok (.bipush 40, 2) := by decide +kernel
theorem dX4_init_85 : decode cX4_init 85 = .ok (.newarray .int, 2) := by decide +kernel
theorem dX4_init_87 : decode cX4_init 87 = .ok (.putfield 46, 3) := by decide +kernel
theorem dX4_init_90 : decode cX4_init 90 = .ok (.aload_n 0, 1) := by decide +kernel
theorem dX4_init_91 : decode cX4_init 91 = .ok (.bipush 40, 2) := by decide +kernel
theorem dX4_init_93 : decode cX4_init 93 = .ok (.newarray .long, 2) := by decide +kernel
theorem dX4_init_95 : decode cX4_init 95 = .ok (.putfield 49, 3) := by decide +kernel
theorem dX4_init_98 : decode cX4_init 98 = .ok (.aload_n 0, 1) := by decide +kernel
theorem dX4_init_99 : decode cX4_init 99 = .ok (.bipush 40, 2) := by decide +kernel
theorem dX4_init_101 : decode cX4_init 101 = .ok (.newarray .long, 2) := by decide +kernel
theorem dX4_init_103 : decode cX4_init 103 = .ok (.putfield 52, 3) := by decide +kernel
theorem dX4_init_106 : decode cX4_init 106 = .ok (.aload_n 0, 1) := by decide +kernel
theorem dX4_init_107 : decode cX4_init 107 = .ok (.bipush 40, 2) := by decide +kernel
theorem dX4_init_109 : decode cX4_init 109 = .ok (.newarray .long, 2) := by decide +kernel
theorem dX4_init_111 : decode cX4_init 111 = .ok (.putfield 55, 3) := by decide +kernel
theorem dX4_init_114 : decode cX4_init 114 = .ok (.aload_n 0, 1) := by decide +kernel
theorem dX4_init_115 : decode cX4_init 115 = .ok (.bipush 40, 2) := by decide +kernel
theorem dX4_init_117 : decode cX4_init 117 = .ok (.newarray .int, 2) := by decide +kernel
theorem dX4_init_119 : decode cX4_init 119 = .ok (.putfield 58, 3) := by decide +kernel
theorem dX4_init_122 : decode cX4_init 122 = .ok (.aload_n 0, 1) := by decide +kernel
theorem dX4_init_123 : decode cX4_init 123 = .ok (.bipush 40, 2) := by decide +kernel
theorem dX4_init_125 : decode cX4_init 125 = .ok (.newarray .int, 2) := by decide +kernel
theorem dX4_init_127 : decode cX4_init 127 = .ok (.putfield 61, 3) := by decide +kernel
theorem dX4_init_130 : decode cX4_init 130 = .ok (.aload_n 0, 1) := by decide +kernel
theorem dX4_init_131 : decode cX4_init 131 = .ok (.iconst 5, 1) := by decide +kernel
theorem dX4_init_132 : decode cX4_init 132 = .ok (.newarray .boolean, 2) := by decide +kernel
theorem dX4_init_134 : decode cX4_init 134 = .ok (.putfield 64, 3) := by decide +kernel
theorem dX4_init_137 : decode cX4_init 137 = .ok (.aload_n 0, 1) := by decide +kernel
theorem dX4_init_138 : decode cX4_init 138 = .ok (.bipush 12, 2) := by decide +kernel
theorem dX4_init_140 : decode cX4_init 140 = .ok (.newarray .int, 2) := by decide +kernel
theorem dX4_init_142 : decode cX4_init 142 = .ok (.putfield 67, 3) := by decide +kernel
theorem dX4_init_145 : decode cX4_init 145 = .ok (.aload_n 0, 1) := by decide +kernel
theorem dX4_init_146 : decode cX4_init 146 = .ok (.bipush 12, 2) := by decide +kernel
theorem dX4_init_148 : decode cX4_init 148 = .ok (.newarray .int, 2) := by decide +kernel
theorem dX4_init_150 : decode cX4_init 150 = .ok (.putfield 70, 3) := by decide +kernel
theorem dX4_init_153 : decode cX4_init 153 = .ok (.aload_n 0, 1) := by decide +kernel
theorem dX4_init_154 : decode cX4_init 154 = .ok (.bipush 12, 2) := by decide +kernel
theorem dX4_init_156 : decode cX4_init 156 = .ok (.newarray .int, 2) := by decide +kernel
theorem dX4_init_158 : decode cX4_init 158 = .ok (.putfield 73, 3) := by decide +kernel
theorem dX4_init_161 : decode cX4_init 161 = .ok (.aload_n 0, 1) := by decide +kernel
theorem dX4_init_162 : decode cX4_init 162 = .ok (.sipush 480, 3) := by decide +kernel
theorem dX4_init_165 : decode cX4_init 165 = .ok (.newarray .int, 2) := by decide +kernel
theorem dX4_init_167 : decode cX4_init 167 = .ok (.putfield 76, 3) := by decide +kernel
theorem dX4_init_170 : decode cX4_init 170 = .ok (.aload_n 0, 1) := by decide +kernel
theorem dX4_init_171 : decode cX4_init 171 = .ok (.iconst 5, 1) := by decide +kernel
theorem dX4_init_172 : decode cX4_init 172 = .ok (.newarray .boolean, 2) := by decide +kernel
theorem dX4_init_174 : decode cX4_init 174 = .ok (.putfield 79, 3) := by decide +kernel
theorem dX4_init_177 : decode cX4_init 177 = .ok (.aload_n 0, 1) := by decide +kernel
theorem dX4_init_178 : decode cX4_init 178 = .ok (.iconst 5, 1) := by decide +kernel
theorem dX4_init_179 : decode cX4_init 179 = .ok (.newarray .long, 2) := by decide +kernel
theorem dX4_init_181 : decode cX4_init 181 = .ok (.putfield 82, 3) := by decide +kernel
theorem dX4_init_184 : decode cX4_init 184 = .ok (.aload_n 0, 1) := by decide +kernel
theorem dX4_init_185 : decode cX4_init 185 = .ok (.iconst 5, 1) := by decide +kernel
theorem dX4_init_186 : decode cX4_init 186 = .ok (.newarray .long, 2) := by decide +kernel
theorem dX4_init_188 : decode cX4_init 188 = .ok (.putfield 85, 3) := by decide +kernel
theorem dX4_init_191 : decode cX4_init 191 = .ok (.aload_n 0, 1) := by decide +kernel
theorem dX4_init_192 : decode cX4_init 192 = .ok (.bipush 10, 2) := by decide +kernel
theorem dX4_init_194 : decode cX4_init 194 = .ok (.newarray .int, 2) := by decide +kernel
theorem dX4_init_196 : decode cX4_init 196 = .ok (.putfield 88, 3) := by decide +kernel
theorem dX4_init_199 : decode cX4_init 199 = .ok (.aload_n 0, 1) := by decide +kernel
theorem dX4_init_200 : decode cX4_init 200 = .ok (.bipush 10, 2) := by decide +kernel
theorem dX4_init_202 : decode cX4_init 202 = .ok (.newarray .boolean, 2) := by decide +kernel
theorem dX4_init_204 : decode cX4_init 204 = .ok (.putfield 91, 3) := by decide +kernel
theorem dX4_init_207 : decode cX4_init 207 = .ok (.aload_n 0, 1) := by decide +kernel
theorem dX4_init_208 : decode cX4_init 208 = .ok (.bipush 8, 2) := by decide +kernel
theorem dX4_init_210 : decode cX4_init 210 = .ok (.newarray .boolean, 2) := by decide +kernel
theorem dX4_init_212 : decode cX4_init 212 = .ok (.putfield 94, 3) := by decide +kernel
theorem dX4_init_215 : decode cX4_init 215 = .ok (.return_, 1) := by decide +kernel
theorem dX4_thrown_0 : decode cX4_thrown 0 = .ok (.aload_n 0, 1) := by decide +kernel
theorem dX4_thrown_1 : decode cX4_thrown 1 = .ok (.getfield 97, 3) := by decide +kernel
theorem dX4_thrown_4 : decode cX4_thrown 4 = .ok (.ireturn, 1) := by decide +kernel
theorem dX4_holds_0 : decode cX4_holds 0 = .ok (.aload_n 0, 1) := by decide +kernel
theorem dX4_holds_1 : decode cX4_holds 1 = .ok (.iload_n 1, 1) := by decide +kernel
theorem dX4_holds_2 : decode cX4_holds 2 = .ok (.putfield 97, 3) := by decide +kernel
theorem dX4_holds_5 : decode cX4_holds 5 = .ok (.iload_n 1, 1) := by decide +kernel
theorem dX4_holds_6 : decode cX4_holds 6 = .ok (.ifCond .ne 7, 3) := by decide +kernel
theorem dX4_holds_9 : decode cX4_holds 9 = .ok (.iconst 1, 1) := by decide +kernel
theorem dX4_holds_10 : decode cX4_holds 10 = .ok (.goto 4, 3) := by decide +kernel
theorem dX4_holds_13 : decode cX4_holds 13 = .ok (.iconst 0, 1) := by decide +kernel
theorem dX4_holds_14 : decode cX4_holds 14 = .ok (.ireturn, 1) := by decide +kernel
theorem dX4_isIn_0 : decode cX4_isIn 0 = .ok (.iload_n 0, 1) := by decide +kernel
theorem dX4_isIn_1 : decode cX4_isIn 1 = .ok (.iload_n 1, 1) := by decide +kernel
theorem dX4_isIn_2 : decode cX4_isIn 2 = .ok (.if_icmp .lt 12, 3) := by decide +kernel
theorem dX4_isIn_5 : decode cX4_isIn 5 = .ok (.iload_n 0, 1) := by decide +kernel
theorem dX4_isIn_6 : decode cX4_isIn 6 = .ok (.iload_n 2, 1) := by decide +kernel
theorem dX4_isIn_7 : decode cX4_isIn 7 = .ok (.if_icmp .gt 7, 3) := by decide +kernel
theorem dX4_isIn_10 : decode cX4_isIn 10 = .ok (.iconst 1, 1) := by decide +kernel
theorem dX4_isIn_11 : decode cX4_isIn 11 = .ok (.goto 4, 3) := by decide +kernel
theorem dX4_isIn_14 : decode cX4_isIn 14 = .ok (.iconst 0, 1) := by decide +kernel
theorem dX4_isIn_15 : decode cX4_isIn 15 = .ok (.ireturn, 1) := by decide +kernel
theorem dX4_isClaim_0 : decode cX4_isClaim 0 = .ok (.iload_n 1, 1) := by decide +kernel
theorem dX4_isClaim_1 : decode cX4_isClaim 1 = .ok (.iconst 0, 1) := by decide +kernel
theorem dX4_isClaim_2 : decode cX4_isClaim 2 = .ok (.aload_n 0, 1) := by decide +kernel
theorem dX4_isClaim_3 : decode cX4_isClaim 3 = .ok (.getfield 100, 3) := by decide +kernel
theorem dX4_isClaim_6 : decode cX4_isClaim 6 = .ok (.iconst 1, 1) := by decide +kernel
theorem dX4_isClaim_7 : decode cX4_isClaim 7 = .ok (.isub, 1) := by decide +kernel
theorem dX4_isClaim_8 : decode cX4_isClaim 8 = .ok (.invokestatic 103, 3) := by decide +kernel
theorem dX4_isClaim_11 : decode cX4_isClaim 11 = .ok (.ireturn, 1) := by decide +kernel
theorem dX4_isOffer_0 : decode cX4_isOffer 0 = .ok (.iload_n 1, 1) := by decide +kernel
theorem dX4_isOffer_1 : decode cX4_isOffer 1 = .ok (.iconst 0, 1) := by decide +kernel
theorem dX4_isOffer_2 : decode cX4_isOffer 2 = .ok (.aload_n 0, 1) := by decide +kernel
theorem dX4_isOffer_3 : decode cX4_isOffer 3 = .ok (.getfield 107, 3) := by decide +kernel
theorem dX4_isOffer_6 : decode cX4_isOffer 6 = .ok (.iconst 1, 1) := by decide +kernel
theorem dX4_isOffer_7 : decode cX4_isOffer 7 = .ok (.isub, 1) := by decide +kernel
theorem dX4_isOffer_8 : decode cX4_isOffer 8 = .ok (.invokestatic 103, 3) := by decide +kernel
theorem dX4_isOffer_11 : decode cX4_isOffer 11 = .ok (.ireturn, 1) := by decide +kernel
theorem dX4_isKind_0 : decode cX4_isKind 0 = .ok (.iload_n 0, 1) := by decide +kernel
theorem dX4_isKind_1 : decode cX4_isKind 1 = .ok (.iconst 0, 1) := by decide +kernel
theorem dX4_isKind_2 : decode cX4_isKind 2 = .ok (.iconst 4, 1) := by decide +kernel
theorem dX4_isKind_3 : decode cX4_isKind 3 = .ok (.invokestatic 103, 3) := by decide +kernel
theorem dX4_isKind_6 : decode cX4_isKind 6 = .ok (.ireturn, 1) := by decide +kernel
theorem dX4_down_0 : decode cX4_down 0 = .ok (.lload_n 0, 1) := by decide +kernel
theorem dX4_down_1 : decode cX4_down 1 = .ok (.lconst 0, 1) := by decide +kernel
theorem dX4_down_2 : decode cX4_down 2 = .ok (.lcmp, 1) := by decide +kernel
theorem dX4_down_3 : decode cX4_down 3 = .ok (.ifCond .ge 11, 3) := by decide +kernel
theorem dX4_down_6 : decode cX4_down 6 = .ok (.lload_n 0, 1) := by decide +kernel
theorem dX4_down_7 : decode cX4_down 7 = .ok (.lload_n 2, 1) := by decide +kernel
theorem dX4_down_8 : decode cX4_down 8 = .ok (.lrem, 1) := by decide +kernel
theorem dX4_down_9 : decode cX4_down 9 = .ok (.lconst 0, 1) := by decide +kernel
theorem dX4_down_10 : decode cX4_down 10 = .ok (.lcmp, 1) := by decide +kernel
theorem dX4_down_11 : decode cX4_down 11 = .ok (.ifCond .ne 9, 3) := by decide +kernel
theorem dX4_down_14 : decode cX4_down 14 = .ok (.lload_n 0, 1) := by decide +kernel
theorem dX4_down_15 : decode cX4_down 15 = .ok (.lload_n 2, 1) := by decide +kernel
theorem dX4_down_16 : decode cX4_down 16 = .ok (.ldiv, 1) := by decide +kernel
theorem dX4_down_17 : decode cX4_down 17 = .ok (.goto 8, 3) := by decide +kernel
theorem dX4_down_20 : decode cX4_down 20 = .ok (.lload_n 0, 1) := by decide +kernel
theorem dX4_down_21 : decode cX4_down 21 = .ok (.lload_n 2, 1) := by decide +kernel
theorem dX4_down_22 : decode cX4_down 22 = .ok (.ldiv, 1) := by decide +kernel
theorem dX4_down_23 : decode cX4_down 23 = .ok (.lconst 1, 1) := by decide +kernel
theorem dX4_down_24 : decode cX4_down 24 = .ok (.lsub, 1) := by decide +kernel
theorem dX4_down_25 : decode cX4_down 25 = .ok (.lreturn, 1) := by decide +kernel
theorem dX4_adds_0 : decode cX4_adds 0 = .ok (.aload_n 0, 1) := by decide +kernel
theorem dX4_adds_1 : decode cX4_adds 1 = .ok (.getfield 100, 3) := by decide +kernel
theorem dX4_adds_4 : decode cX4_adds 4 = .ok (.istore 7, 2) := by decide +kernel
theorem dX4_adds_6 : decode cX4_adds 6 = .ok (.aload_n 0, 1) := by decide +kernel
theorem dX4_adds_7 : decode cX4_adds 7 = .ok (.dup, 1) := by decide +kernel
theorem dX4_adds_8 : decode cX4_adds 8 = .ok (.getfield 100, 3) := by decide +kernel
theorem dX4_adds_11 : decode cX4_adds 11 = .ok (.iconst 1, 1) := by decide +kernel
theorem dX4_adds_12 : decode cX4_adds 12 = .ok (.iadd, 1) := by decide +kernel
theorem dX4_adds_13 : decode cX4_adds 13 = .ok (.putfield 100, 3) := by decide +kernel
theorem dX4_adds_16 : decode cX4_adds 16 = .ok (.aload_n 0, 1) := by decide +kernel
theorem dX4_adds_17 : decode cX4_adds 17 = .ok (.getfield 19, 3) := by decide +kernel
theorem dX4_adds_20 : decode cX4_adds 20 = .ok (.iload 7, 2) := by decide +kernel
theorem dX4_adds_22 : decode cX4_adds 22 = .ok (.iload_n 1, 1) := by decide +kernel
theorem dX4_adds_23 : decode cX4_adds 23 = .ok (.iastore, 1) := by decide +kernel
theorem dX4_adds_24 : decode cX4_adds 24 = .ok (.aload_n 0, 1) := by decide +kernel
theorem dX4_adds_25 : decode cX4_adds 25 = .ok (.getfield 23, 3) := by decide +kernel
theorem dX4_adds_28 : decode cX4_adds 28 = .ok (.iload 7, 2) := by decide +kernel
theorem dX4_adds_30 : decode cX4_adds 30 = .ok (.iload_n 2, 1) := by decide +kernel
theorem dX4_adds_31 : decode cX4_adds 31 = .ok (.iastore, 1) := by decide +kernel
theorem dX4_adds_32 : decode cX4_adds 32 = .ok (.aload_n 0, 1) := by decide +kernel
theorem dX4_adds_33 : decode cX4_adds 33 = .ok (.getfield 26, 3) := by decide +kernel
theorem dX4_adds_36 : decode cX4_adds 36 = .ok (.iload 7, 2) := by decide +kernel
theorem dX4_adds_38 : decode cX4_adds 38 = .ok (.lload_n 3, 1) := by decide +kernel
theorem dX4_adds_39 : decode cX4_adds 39 = .ok (.lastore, 1) := by decide +kernel
theorem dX4_adds_40 : decode cX4_adds 40 = .ok (.aload_n 0, 1) := by decide +kernel
theorem dX4_adds_41 : decode cX4_adds 41 = .ok (.getfield 30, 3) := by decide +kernel
theorem dX4_adds_44 : decode cX4_adds 44 = .ok (.iload 7, 2) := by decide +kernel
theorem dX4_adds_46 : decode cX4_adds 46 = .ok (.iload 5, 2) := by decide +kernel
theorem dX4_adds_48 : decode cX4_adds 48 = .ok (.iastore, 1) := by decide +kernel
theorem dX4_adds_49 : decode cX4_adds 49 = .ok (.aload_n 0, 1) := by decide +kernel
theorem dX4_adds_50 : decode cX4_adds 50 = .ok (.getfield 33, 3) := by decide +kernel
theorem dX4_adds_53 : decode cX4_adds 53 = .ok (.iload 7, 2) := by decide +kernel
theorem dX4_adds_55 : decode cX4_adds 55 = .ok (.aload_n 0, 1) := by decide +kernel
theorem dX4_adds_56 : decode cX4_adds 56 = .ok (.getfield 110, 3) := by decide +kernel
theorem dX4_adds_59 : decode cX4_adds 59 = .ok (.iload 6, 2) := by decide +kernel
theorem dX4_adds_61 : decode cX4_adds 61 = .ok (.iadd, 1) := by decide +kernel
theorem dX4_adds_62 : decode cX4_adds 62 = .ok (.iastore, 1) := by decide +kernel
theorem dX4_adds_63 : decode cX4_adds 63 = .ok (.aload_n 0, 1) := by decide +kernel
theorem dX4_adds_64 : decode cX4_adds 64 = .ok (.getfield 39, 3) := by decide +kernel
theorem dX4_adds_67 : decode cX4_adds 67 = .ok (.iload 7, 2) := by decide +kernel
theorem dX4_adds_69 : decode cX4_adds 69 = .ok (.iconst (-1), 1) := by decide +kernel
theorem dX4_adds_70 : decode cX4_adds 70 = .ok (.iastore, 1) := by decide +kernel
theorem dX4_adds_71 : decode cX4_adds 71 = .ok (.aload_n 0, 1) := by decide +kernel
theorem dX4_adds_72 : decode cX4_adds 72 = .ok (.getfield 61, 3) := by decide +kernel
theorem dX4_adds_75 : decode cX4_adds 75 = .ok (.iload 7, 2) := by decide +kernel
theorem dX4_adds_77 : decode cX4_adds 77 = .ok (.iconst (-1), 1) := by decide +kernel
theorem dX4_adds_78 : decode cX4_adds 78 = .ok (.iastore, 1) := by decide +kernel
theorem dX4_adds_79 : decode cX4_adds 79 = .ok (.iload 7, 2) := by decide +kernel
theorem dX4_adds_81 : decode cX4_adds 81 = .ok (.ireturn, 1) := by decide +kernel
theorem dX4_claim_0 : decode cX4_claim 0 = .ok (.iload_n 1, 1) := by decide +kernel
theorem dX4_claim_1 : decode cX4_claim 1 = .ok (.invokestatic 113, 3) := by decide +kernel
theorem dX4_claim_4 : decode cX4_claim 4 = .ok (.ifCond .eq 39, 3) := by decide +kernel
theorem dX4_claim_7 : decode cX4_claim 7 = .ok (.iload_n 2, 1) := by decide +kernel
theorem dX4_claim_8 : decode cX4_claim 8 = .ok (.iconst 0, 1) := by decide +kernel
theorem dX4_claim_9 : decode cX4_claim 9 = .ok (.bipush 7, 2) := by decide +kernel
theorem dX4_claim_11 : decode cX4_claim 11 = .ok (.invokestatic 103, 3) := by decide +kernel
theorem dX4_claim_14 : decode cX4_claim 14 = .ok (.ifCond .eq 29, 3) := by decide +kernel
theorem dX4_claim_17 : decode cX4_claim 17 = .ok (.iload_n 3, 1) := by decide +kernel
theorem dX4_claim_18 : decode cX4_claim 18 = .ok (.iconst 1, 1) := by decide +kernel
theorem dX4_claim_19 : decode cX4_claim 19 = .ok (.ldc 117, 2) := by decide +kernel
theorem dX4_claim_21 : decode cX4_claim 21 = .ok (.invokestatic 103, 3) := by decide +kernel
theorem dX4_claim_24 : decode cX4_claim 24 = .ok (.ifCond .eq 19, 3) := by decide +kernel
theorem dX4_claim_27 : decode cX4_claim 27 = .ok (.iload 4, 2) := by decide +kernel
theorem dX4_claim_29 : decode cX4_claim 29 = .ok (.iconst 0, 1) := by decide +kernel
theorem dX4_claim_30 : decode cX4_claim 30 = .ok (.sipush 1000, 3) := by decide +kernel
theorem dX4_claim_33 : decode cX4_claim 33 = .ok (.invokestatic 103, 3) := by decide +kernel
theorem dX4_claim_36 : decode cX4_claim 36 = .ok (.ifCond .eq 7, 3) := by decide +kernel
theorem dX4_claim_39 : decode cX4_claim 39 = .ok (.iconst 1, 1) := by decide +kernel
theorem dX4_claim_40 : decode cX4_claim 40 = .ok (.goto 4, 3) := by decide +kernel
theorem dX4_claim_43 : decode cX4_claim 43 = .ok (.iconst 0, 1) := by decide +kernel
theorem dX4_claim_44 : decode cX4_claim 44 = .ok (.istore 9, 2) := by decide +kernel
theorem dX4_claim_46 : decode cX4_claim 46 = .ok (.iload 9, 2) := by decide +kernel
theorem dX4_claim_48 : decode cX4_claim 48 = .ok (.ifCond .eq 52, 3) := by decide +kernel
theorem dX4_claim_51 : decode cX4_claim 51 = .ok (.iload 5, 2) := by decide +kernel
theorem dX4_claim_53 : decode cX4_claim 53 = .ok (.iconst 1, 1) := by decide +kernel
theorem dX4_claim_54 : decode cX4_claim 54 = .ok (.bipush 30, 2) := by decide +kernel
theorem dX4_claim_56 : decode cX4_claim 56 = .ok (.invokestatic 103, 3) := by decide +kernel
theorem dX4_claim_59 : decode cX4_claim 59 = .ok (.ifCond .eq 41, 3) := by decide +kernel
theorem dX4_claim_62 : decode cX4_claim 62 = .ok (.iload 6, 2) := by decide +kernel
theorem dX4_claim_64 : decode cX4_claim 64 = .ok (.iconst 0, 1) := by decide +kernel
theorem dX4_claim_65 : decode cX4_claim 65 = .ok (.iconst 2, 1) := by decide +kernel
theorem dX4_claim_66 : decode cX4_claim 66 = .ok (.invokestatic 103, 3) := by decide +kernel
theorem dX4_claim_69 : decode cX4_claim 69 = .ok (.ifCond .eq 31, 3) := by decide +kernel
theorem dX4_claim_72 : decode cX4_claim 72 = .ok (.iload_n 1, 1) := by decide +kernel
theorem dX4_claim_73 : decode cX4_claim 73 = .ok (.iconst 1, 1) := by decide +kernel
theorem dX4_claim_74 : decode cX4_claim 74 = .ok (.if_icmp .ne 16, 3) := by decide +kernel
theorem dX4_claim_77 : decode cX4_claim 77 = .ok (.iload 7, 2) := by decide +kernel
theorem dX4_claim_79 : decode cX4_claim 79 = .ok (.iconst 0, 1) := by decide +kernel
theorem dX4_claim_80 : decode cX4_claim 80 = .ok (.iconst 3, 1) := by decide +kernel
theorem dX4_claim_81 : decode cX4_claim 81 = .ok (.invokestatic 103, 3) := by decide +kernel
theorem dX4_claim_84 : decode cX4_claim 84 = .ok (.ifCond .eq 16, 3) := by decide +kernel
theorem dX4_claim_87 : decode cX4_claim 87 = .ok (.goto 9, 3) := by decide +kernel
theorem dX4_claim_90 : decode cX4_claim 90 = .ok (.iload 7, 2) := by decide +kernel
theorem dX4_claim_92 : decode cX4_claim 92 = .ok (.iconst (-1), 1) := by decide +kernel
theorem dX4_claim_93 : decode cX4_claim 93 = .ok (.if_icmp .ne 7, 3) := by decide +kernel
theorem dX4_claim_96 : decode cX4_claim 96 = .ok (.iconst 1, 1) := by decide +kernel
theorem dX4_claim_97 : decode cX4_claim 97 = .ok (.goto 4, 3) := by decide +kernel
theorem dX4_claim_100 : decode cX4_claim 100 = .ok (.iconst 0, 1) := by decide +kernel
theorem dX4_claim_101 : decode cX4_claim 101 = .ok (.istore 10, 2) := by decide +kernel
theorem dX4_claim_103 : decode cX4_claim 103 = .ok (.aload_n 0, 1) := by decide +kernel
theorem dX4_claim_104 : decode cX4_claim 104 = .ok (.iload 10, 2) := by decide +kernel
theorem dX4_claim_106 : decode cX4_claim 106 = .ok (.ifCond .ne 7, 3) := by decide +kernel
theorem dX4_claim_109 : decode cX4_claim 109 = .ok (.iconst 1, 1) := by decide +kernel
theorem dX4_claim_110 : decode cX4_claim 110 = .ok (.goto 17, 3) := by decide +kernel
theorem dX4_claim_113 : decode cX4_claim 113 = .ok (.aload_n 0, 1) := by decide +kernel
theorem dX4_claim_114 : decode cX4_claim 114 = .ok (.getfield 100, 3) := by decide +kernel
theorem dX4_claim_117 : decode cX4_claim 117 = .ok (.bipush 40, 2) := by decide +kernel
theorem dX4_claim_119 : decode cX4_claim 119 = .ok (.if_icmp .ne 7, 3) := by decide +kernel
theorem dX4_claim_122 : decode cX4_claim 122 = .ok (.iconst 2, 1) := by decide +kernel
theorem dX4_claim_123 : decode cX4_claim 123 = .ok (.goto 4, 3) := by decide +kernel
theorem dX4_claim_126 : decode cX4_claim 126 = .ok (.iconst 0, 1) := by decide +kernel
theorem dX4_claim_127 : decode cX4_claim 127 = .ok (.invokevirtual 118, 3) := by decide +kernel
theorem dX4_claim_130 : decode cX4_claim 130 = .ok (.ifCond .ne 5, 3) := by decide +kernel
theorem dX4_claim_133 : decode cX4_claim 133 = .ok (.iconst 0, 1) := by decide +kernel
theorem dX4_claim_134 : decode cX4_claim 134 = .ok (.ireturn, 1) := by decide +kernel
theorem dX4_claim_135 : decode cX4_claim 135 = .ok (.aload_n 0, 1) := by decide +kernel
theorem dX4_claim_136 : decode cX4_claim 136 = .ok (.iload_n 1, 1) := by decide +kernel
theorem dX4_claim_137 : decode cX4_claim 137 = .ok (.iload_n 2, 1) := by decide +kernel
theorem dX4_claim_138 : decode cX4_claim 138 = .ok (.iload_n 3, 1) := by decide +kernel
theorem dX4_claim_139 : decode cX4_claim 139 = .ok (.i2l, 1) := by decide +kernel
theorem dX4_claim_140 : decode cX4_claim 140 = .ok (.iload 4, 2) := by decide +kernel
theorem dX4_claim_142 : decode cX4_claim 142 = .ok (.iload 5, 2) := by decide +kernel
theorem dX4_claim_144 : decode cX4_claim 144 = .ok (.invokevirtual 121, 3) := by decide +kernel
theorem dX4_claim_147 : decode cX4_claim 147 = .ok (.istore 11, 2) := by decide +kernel
theorem dX4_claim_149 : decode cX4_claim 149 = .ok (.aload_n 0, 1) := by decide +kernel
theorem dX4_claim_150 : decode cX4_claim 150 = .ok (.getfield 36, 3) := by decide +kernel
theorem dX4_claim_153 : decode cX4_claim 153 = .ok (.iload 11, 2) := by decide +kernel
theorem dX4_claim_155 : decode cX4_claim 155 = .ok (.iload 6, 2) := by decide +kernel
theorem dX4_claim_157 : decode cX4_claim 157 = .ok (.iastore, 1) := by decide +kernel
theorem dX4_claim_158 : decode cX4_claim 158 = .ok (.aload_n 0, 1) := by decide +kernel
theorem dX4_claim_159 : decode cX4_claim 159 = .ok (.getfield 39, 3) := by decide +kernel
theorem dX4_claim_162 : decode cX4_claim 162 = .ok (.iload 11, 2) := by decide +kernel
theorem dX4_claim_164 : decode cX4_claim 164 = .ok (.iload 7, 2) := by decide +kernel
theorem dX4_claim_166 : decode cX4_claim 166 = .ok (.iastore, 1) := by decide +kernel
theorem dX4_claim_167 : decode cX4_claim 167 = .ok (.aload_n 0, 1) := by decide +kernel
theorem dX4_claim_168 : decode cX4_claim 168 = .ok (.getfield 42, 3) := by decide +kernel
theorem dX4_claim_171 : decode cX4_claim 171 = .ok (.iload 11, 2) := by decide +kernel
theorem dX4_claim_173 : decode cX4_claim 173 = .ok (.iload 8, 2) := by decide +kernel
theorem dX4_claim_175 : decode cX4_claim 175 = .ok (.bastore, 1) := by decide +kernel
theorem dX4_claim_176 : decode cX4_claim 176 = .ok (.iload 11, 2) := by decide +kernel
theorem dX4_claim_178 : decode cX4_claim 178 = .ok (.ireturn, 1) := by decide +kernel
theorem dX4_pledge_0 : decode cX4_pledge 0 = .ok (.aload_n 0, 1) := by decide +kernel
theorem dX4_pledge_1 : decode cX4_pledge 1 = .ok (.iload_n 1, 1) := by decide +kernel
theorem dX4_pledge_2 : decode cX4_pledge 2 = .ok (.invokevirtual 125, 3) := by decide +kernel
theorem dX4_pledge_5 : decode cX4_pledge 5 = .ok (.istore_n 3, 1) := by decide +kernel
theorem dX4_pledge_6 : decode cX4_pledge 6 = .ok (.aload_n 0, 1) := by decide +kernel
theorem dX4_pledge_7 : decode cX4_pledge 7 = .ok (.iload_n 3, 1) := by decide +kernel
theorem dX4_pledge_8 : decode cX4_pledge 8 = .ok (.ifCond .ne 7, 3) := by decide +kernel
theorem dX4_pledge_11 : decode cX4_pledge 11 = .ok (.iconst 1, 1) := by decide +kernel
theorem dX4_pledge_12 : decode cX4_pledge 12 = .ok (.goto 41, 3) := by decide +kernel
theorem dX4_pledge_15 : decode cX4_pledge 15 = .ok (.iload_n 2, 1) := by decide +kernel
theorem dX4_pledge_16 : decode cX4_pledge 16 = .ok (.iconst 1, 1) := by decide +kernel
theorem dX4_pledge_17 : decode cX4_pledge 17 = .ok (.ldc 117, 2) := by decide +kernel
theorem dX4_pledge_19 : decode cX4_pledge 19 = .ok (.invokestatic 103, 3) := by decide +kernel
theorem dX4_pledge_22 : decode cX4_pledge 22 = .ok (.ifCond .ne 7, 3) := by decide +kernel
theorem dX4_pledge_25 : decode cX4_pledge 25 = .ok (.iconst 2, 1) := by decide +kernel
theorem dX4_pledge_26 : decode cX4_pledge 26 = .ok (.goto 27, 3) := by decide +kernel
theorem dX4_pledge_29 : decode cX4_pledge 29 = .ok (.aload_n 0, 1) := by decide +kernel
theorem dX4_pledge_30 : decode cX4_pledge 30 = .ok (.getfield 46, 3) := by decide +kernel
theorem dX4_pledge_33 : decode cX4_pledge 33 = .ok (.iload_n 1, 1) := by decide +kernel
theorem dX4_pledge_34 : decode cX4_pledge 34 = .ok (.iaload, 1) := by decide +kernel
theorem dX4_pledge_35 : decode cX4_pledge 35 = .ok (.ifCond .ne 13, 3) := by decide +kernel
theorem dX4_pledge_38 : decode cX4_pledge 38 = .ok (.aload_n 0, 1) := by decide +kernel
theorem dX4_pledge_39 : decode cX4_pledge 39 = .ok (.getfield 128, 3) := by decide +kernel
theorem dX4_pledge_42 : decode cX4_pledge 42 = .ok (.iload_n 2, 1) := by decide +kernel
theorem dX4_pledge_43 : decode cX4_pledge 43 = .ok (.i2l, 1) := by decide +kernel
theorem dX4_pledge_44 : decode cX4_pledge 44 = .ok (.lcmp, 1) := by decide +kernel
theorem dX4_pledge_45 : decode cX4_pledge 45 = .ok (.ifCond .ge 7, 3) := by decide +kernel
theorem dX4_pledge_48 : decode cX4_pledge 48 = .ok (.iconst 3, 1) := by decide +kernel
theorem dX4_pledge_49 : decode cX4_pledge 49 = .ok (.goto 4, 3) := by decide +kernel
theorem dX4_pledge_52 : decode cX4_pledge 52 = .ok (.iconst 0, 1) := by decide +kernel
theorem dX4_pledge_53 : decode cX4_pledge 53 = .ok (.invokevirtual 118, 3) := by decide +kernel
theorem dX4_pledge_56 : decode cX4_pledge 56 = .ok (.ifCond .ne 5, 3) := by decide +kernel
theorem dX4_pledge_59 : decode cX4_pledge 59 = .ok (.lconst 0, 1) := by decide +kernel
theorem dX4_pledge_60 : decode cX4_pledge 60 = .ok (.lreturn, 1) := by decide +kernel
theorem dX4_pledge_61 : decode cX4_pledge 61 = .ok (.aload_n 0, 1) := by decide +kernel
theorem dX4_pledge_62 : decode cX4_pledge 62 = .ok (.dup, 1) := by decide +kernel
theorem dX4_pledge_63 : decode cX4_pledge 63 = .ok (.getfield 128, 3) := by decide +kernel
theorem dX4_pledge_66 : decode cX4_pledge 66 = .ok (.iload_n 2, 1) := by decide +kernel
theorem dX4_pledge_67 : decode cX4_pledge 67 = .ok (.i2l, 1) := by decide +kernel
theorem dX4_pledge_68 : decode cX4_pledge 68 = .ok (.lsub, 1) := by decide +kernel
theorem dX4_pledge_69 : decode cX4_pledge 69 = .ok (.putfield 128, 3) := by decide +kernel
theorem dX4_pledge_72 : decode cX4_pledge 72 = .ok (.aload_n 0, 1) := by decide +kernel
theorem dX4_pledge_73 : decode cX4_pledge 73 = .ok (.getfield 52, 3) := by decide +kernel
theorem dX4_pledge_76 : decode cX4_pledge 76 = .ok (.iload_n 1, 1) := by decide +kernel
theorem dX4_pledge_77 : decode cX4_pledge 77 = .ok (.dup2, 1) := by decide +kernel
theorem dX4_pledge_78 : decode cX4_pledge 78 = .ok (.laload, 1) := by decide +kernel
theorem dX4_pledge_79 : decode cX4_pledge 79 = .ok (.iload_n 2, 1) := by decide +kernel
theorem dX4_pledge_80 : decode cX4_pledge 80 = .ok (.i2l, 1) := by decide +kernel
theorem dX4_pledge_81 : decode cX4_pledge 81 = .ok (.ladd, 1) := by decide +kernel
theorem dX4_pledge_82 : decode cX4_pledge 82 = .ok (.lastore, 1) := by decide +kernel
theorem dX4_pledge_83 : decode cX4_pledge 83 = .ok (.aload_n 0, 1) := by decide +kernel
theorem dX4_pledge_84 : decode cX4_pledge 84 = .ok (.getfield 52, 3) := by decide +kernel
theorem dX4_pledge_87 : decode cX4_pledge 87 = .ok (.iload_n 1, 1) := by decide +kernel
theorem dX4_pledge_88 : decode cX4_pledge 88 = .ok (.laload, 1) := by decide +kernel
theorem dX4_pledge_89 : decode cX4_pledge 89 = .ok (.lreturn, 1) := by decide +kernel
theorem dX4_owed_0 : decode cX4_owed 0 = .ok (.aload_n 0, 1) := by decide +kernel
theorem dX4_owed_1 : decode cX4_owed 1 = .ok (.getfield 26, 3) := by decide +kernel
theorem dX4_owed_4 : decode cX4_owed 4 = .ok (.iload_n 1, 1) := by decide +kernel
theorem dX4_owed_5 : decode cX4_owed 5 = .ok (.laload, 1) := by decide +kernel
theorem dX4_owed_6 : decode cX4_owed 6 = .ok (.aload_n 0, 1) := by decide +kernel
theorem dX4_owed_7 : decode cX4_owed 7 = .ok (.getfield 49, 3) := by decide +kernel
theorem dX4_owed_10 : decode cX4_owed 10 = .ok (.iload_n 1, 1) := by decide +kernel
theorem dX4_owed_11 : decode cX4_owed 11 = .ok (.laload, 1) := by decide +kernel
theorem dX4_owed_12 : decode cX4_owed 12 = .ok (.ladd, 1) := by decide +kernel
theorem dX4_owed_13 : decode cX4_owed 13 = .ok (.lreturn, 1) := by decide +kernel
theorem dX4_debt_0 : decode cX4_debt 0 = .ok (.lconst 0, 1) := by decide +kernel
theorem dX4_debt_1 : decode cX4_debt 1 = .ok (.lstore_n 1, 1) := by decide +kernel
theorem dX4_debt_2 : decode cX4_debt 2 = .ok (.iconst 0, 1) := by decide +kernel
theorem dX4_debt_3 : decode cX4_debt 3 = .ok (.istore_n 3, 1) := by decide +kernel
theorem dX4_debt_4 : decode cX4_debt 4 = .ok (.iload_n 3, 1) := by decide +kernel
theorem dX4_debt_5 : decode cX4_debt 5 = .ok (.aload_n 0, 1) := by decide +kernel
theorem dX4_debt_6 : decode cX4_debt 6 = .ok (.getfield 100, 3) := by decide +kernel
theorem dX4_debt_9 : decode cX4_debt 9 = .ok (.if_icmp .ge 48, 3) := by decide +kernel
theorem dX4_debt_12 : decode cX4_debt 12 = .ok (.lload_n 1, 1) := by decide +kernel
theorem dX4_debt_13 : decode cX4_debt 13 = .ok (.aload_n 0, 1) := by decide +kernel
theorem dX4_debt_14 : decode cX4_debt 14 = .ok (.getfield 46, 3) := by decide +kernel
theorem dX4_debt_17 : decode cX4_debt 17 = .ok (.iload_n 3, 1) := by decide +kernel
theorem dX4_debt_18 : decode cX4_debt 18 = .ok (.iaload, 1) := by decide +kernel
theorem dX4_debt_19 : decode cX4_debt 19 = .ok (.ifCond .ne 29, 3) := by decide +kernel
theorem dX4_debt_22 : decode cX4_debt 22 = .ok (.aload_n 0, 1) := by decide +kernel
theorem dX4_debt_23 : decode cX4_debt 23 = .ok (.getfield 42, 3) := by decide +kernel
theorem dX4_debt_26 : decode cX4_debt 26 = .ok (.iload_n 3, 1) := by decide +kernel
theorem dX4_debt_27 : decode cX4_debt 27 = .ok (.baload, 1) := by decide +kernel
theorem dX4_debt_28 : decode cX4_debt 28 = .ok (.ifCond .ne 20, 3) := by decide +kernel
theorem dX4_debt_31 : decode cX4_debt 31 = .ok (.aload_n 0, 1) := by decide +kernel
theorem dX4_debt_32 : decode cX4_debt 32 = .ok (.getfield 23, 3) := by decide +kernel
theorem dX4_debt_35 : decode cX4_debt 35 = .ok (.iload_n 3, 1) := by decide +kernel
theorem dX4_debt_36 : decode cX4_debt 36 = .ok (.iaload, 1) := by decide +kernel
theorem dX4_debt_37 : decode cX4_debt 37 = .ok (.ifCond .eq 11, 3) := by decide +kernel
theorem dX4_debt_40 : decode cX4_debt 40 = .ok (.aload_n 0, 1) := by decide +kernel
theorem dX4_debt_41 : decode cX4_debt 41 = .ok (.iload_n 3, 1) := by decide +kernel
theorem dX4_debt_42 : decode cX4_debt 42 = .ok (.invokevirtual 131, 3) := by decide +kernel
theorem dX4_debt_45 : decode cX4_debt 45 = .ok (.goto 4, 3) := by decide +kernel
theorem dX4_debt_48 : decode cX4_debt 48 = .ok (.lconst 0, 1) := by decide +kernel
theorem dX4_debt_49 : decode cX4_debt 49 = .ok (.ladd, 1) := by decide +kernel
theorem dX4_debt_50 : decode cX4_debt 50 = .ok (.lstore_n 1, 1) := by decide +kernel
theorem dX4_debt_51 : decode cX4_debt 51 = .ok (.iinc 3 1, 3) := by decide +kernel
theorem dX4_debt_54 : decode cX4_debt 54 = .ok (.goto (-50), 3) := by decide +kernel
theorem dX4_debt_57 : decode cX4_debt 57 = .ok (.lload_n 1, 1) := by decide +kernel
theorem dX4_debt_58 : decode cX4_debt 58 = .ok (.lreturn, 1) := by decide +kernel
theorem dX4_reveal_0 : decode cX4_reveal 0 = .ok (.aload_n 0, 1) := by decide +kernel
theorem dX4_reveal_1 : decode cX4_reveal 1 = .ok (.iload_n 1, 1) := by decide +kernel
theorem dX4_reveal_2 : decode cX4_reveal 2 = .ok (.invokevirtual 125, 3) := by decide +kernel
theorem dX4_reveal_5 : decode cX4_reveal 5 = .ok (.istore_n 2, 1) := by decide +kernel
theorem dX4_reveal_6 : decode cX4_reveal 6 = .ok (.aload_n 0, 1) := by decide +kernel
theorem dX4_reveal_7 : decode cX4_reveal 7 = .ok (.iload_n 2, 1) := by decide +kernel
theorem dX4_reveal_8 : decode cX4_reveal 8 = .ok (.ifCond .ne 7, 3) := by decide +kernel
theorem dX4_reveal_11 : decode cX4_reveal 11 = .ok (.iconst 1, 1) := by decide +kernel
theorem dX4_reveal_12 : decode cX4_reveal 12 = .ok (.goto 17, 3) := by decide +kernel
theorem dX4_reveal_15 : decode cX4_reveal 15 = .ok (.aload_n 0, 1) := by decide +kernel
theorem dX4_reveal_16 : decode cX4_reveal 16 = .ok (.getfield 42, 3) := by decide +kernel
theorem dX4_reveal_19 : decode cX4_reveal 19 = .ok (.iload_n 1, 1) := by decide +kernel
theorem dX4_reveal_20 : decode cX4_reveal 20 = .ok (.baload, 1) := by decide +kernel
theorem dX4_reveal_21 : decode cX4_reveal 21 = .ok (.ifCond .eq 7, 3) := by decide +kernel
theorem dX4_reveal_24 : decode cX4_reveal 24 = .ok (.iconst 0, 1) := by decide +kernel
theorem dX4_reveal_25 : decode cX4_reveal 25 = .ok (.goto 4, 3) := by decide +kernel
theorem dX4_reveal_28 : decode cX4_reveal 28 = .ok (.iconst 2, 1) := by decide +kernel
theorem dX4_reveal_29 : decode cX4_reveal 29 = .ok (.invokevirtual 118, 3) := by decide +kernel
theorem dX4_reveal_32 : decode cX4_reveal 32 = .ok (.ifCond .ne 5, 3) := by decide +kernel
theorem dX4_reveal_35 : decode cX4_reveal 35 = .ok (.lconst 0, 1) := by decide +kernel
theorem dX4_reveal_36 : decode cX4_reveal 36 = .ok (.lreturn, 1) := by decide +kernel
theorem dX4_reveal_37 : decode cX4_reveal 37 = .ok (.aload_n 0, 1) := by decide +kernel
theorem dX4_reveal_38 : decode cX4_reveal 38 = .ok (.getfield 42, 3) := by decide +kernel
theorem dX4_reveal_41 : decode cX4_reveal 41 = .ok (.iload_n 1, 1) := by decide +kernel
theorem dX4_reveal_42 : decode cX4_reveal 42 = .ok (.iconst 0, 1) := by decide +kernel
theorem dX4_reveal_43 : decode cX4_reveal 43 = .ok (.bastore, 1) := by decide +kernel
theorem dX4_reveal_44 : decode cX4_reveal 44 = .ok (.aload_n 0, 1) := by decide +kernel
theorem dX4_reveal_45 : decode cX4_reveal 45 = .ok (.invokevirtual 135, 3) := by decide +kernel
theorem dX4_reveal_48 : decode cX4_reveal 48 = .ok (.lreturn, 1) := by decide +kernel
theorem dX4_economy_0 : decode cX4_economy 0 = .ok (.aload_n 0, 1) := by decide +kernel
theorem dX4_economy_1 : decode cX4_economy 1 = .ok (.iload_n 1, 1) := by decide +kernel
theorem dX4_economy_2 : decode cX4_economy 2 = .ok (.sipush (-1000), 3) := by decide +kernel
theorem dX4_economy_5 : decode cX4_economy 5 = .ok (.sipush 1000, 3) := by decide +kernel
theorem dX4_economy_8 : decode cX4_economy 8 = .ok (.invokestatic 103, 3) := by decide +kernel
theorem dX4_economy_11 : decode cX4_economy 11 = .ok (.ifCond .eq 30, 3) := by decide +kernel
theorem dX4_economy_14 : decode cX4_economy 14 = .ok (.iload_n 2, 1) := by decide +kernel
theorem dX4_economy_15 : decode cX4_economy 15 = .ok (.sipush (-200), 3) := by decide +kernel
theorem dX4_economy_18 : decode cX4_economy 18 = .ok (.sipush 200, 3) := by decide +kernel
theorem dX4_economy_21 : decode cX4_economy 21 = .ok (.invokestatic 103, 3) := by decide +kernel
theorem dX4_economy_24 : decode cX4_economy 24 = .ok (.ifCond .eq 17, 3) := by decide +kernel
theorem dX4_economy_27 : decode cX4_economy 27 = .ok (.iload_n 3, 1) := by decide +kernel
theorem dX4_economy_28 : decode cX4_economy 28 = .ok (.iconst 0, 1) := by decide +kernel
theorem dX4_economy_29 : decode cX4_economy 29 = .ok (.ldc 139, 2) := by decide +kernel
theorem dX4_economy_31 : decode cX4_economy 31 = .ok (.invokestatic 103, 3) := by decide +kernel
theorem dX4_economy_34 : decode cX4_economy 34 = .ok (.ifCond .eq 7, 3) := by decide +kernel
theorem dX4_economy_37 : decode cX4_economy 37 = .ok (.iconst 0, 1) := by decide +kernel
theorem dX4_economy_38 : decode cX4_economy 38 = .ok (.goto 4, 3) := by decide +kernel
theorem dX4_economy_41 : decode cX4_economy 41 = .ok (.iconst 1, 1) := by decide +kernel
theorem dX4_economy_42 : decode cX4_economy 42 = .ok (.invokevirtual 118, 3) := by decide +kernel
theorem dX4_economy_45 : decode cX4_economy 45 = .ok (.ifCond .ne 5, 3) := by decide +kernel
theorem dX4_economy_48 : decode cX4_economy 48 = .ok (.lconst 0, 1) := by decide +kernel
theorem dX4_economy_49 : decode cX4_economy 49 = .ok (.lreturn, 1) := by decide +kernel
theorem dX4_economy_50 : decode cX4_economy 50 = .ok (.aload_n 0, 1) := by decide +kernel
theorem dX4_economy_51 : decode cX4_economy 51 = .ok (.iload_n 1, 1) := by decide +kernel
theorem dX4_economy_52 : decode cX4_economy 52 = .ok (.putfield 140, 3) := by decide +kernel
theorem dX4_economy_55 : decode cX4_economy 55 = .ok (.aload_n 0, 1) := by decide +kernel
theorem dX4_economy_56 : decode cX4_economy 56 = .ok (.iload_n 2, 1) := by decide +kernel
theorem dX4_economy_57 : decode cX4_economy 57 = .ok (.putfield 143, 3) := by decide +kernel
theorem dX4_economy_60 : decode cX4_economy 60 = .ok (.aload_n 0, 1) := by decide +kernel
theorem dX4_economy_61 : decode cX4_economy 61 = .ok (.dup, 1) := by decide +kernel
theorem dX4_economy_62 : decode cX4_economy 62 = .ok (.getfield 128, 3) := by decide +kernel
theorem dX4_economy_65 : decode cX4_economy 65 = .ok (.iload_n 3, 1) := by decide +kernel
theorem dX4_economy_66 : decode cX4_economy 66 = .ok (.i2l, 1) := by decide +kernel
theorem dX4_economy_67 : decode cX4_economy 67 = .ok (.ladd, 1) := by decide +kernel
theorem dX4_economy_68 : decode cX4_economy 68 = .ok (.putfield 128, 3) := by decide +kernel
theorem dX4_economy_71 : decode cX4_economy 71 = .ok (.aload_n 0, 1) := by decide +kernel
theorem dX4_economy_72 : decode cX4_economy 72 = .ok (.getfield 128, 3) := by decide +kernel
theorem dX4_economy_75 : decode cX4_economy 75 = .ok (.lreturn, 1) := by decide +kernel
theorem dX4_moratorium_0 : decode cX4_moratorium 0 = .ok (.aload_n 0, 1) := by decide +kernel
theorem dX4_moratorium_1 : decode cX4_moratorium 1 = .ok (.iload_n 1, 1) := by decide +kernel
theorem dX4_moratorium_2 : decode cX4_moratorium 2 = .ok (.invokestatic 113, 3) := by decide +kernel
theorem dX4_moratorium_5 : decode cX4_moratorium 5 = .ok (.ifCond .eq 7, 3) := by decide +kernel
theorem dX4_moratorium_8 : decode cX4_moratorium 8 = .ok (.iconst 0, 1) := by decide +kernel
theorem dX4_moratorium_9 : decode cX4_moratorium 9 = .ok (.goto 4, 3) := by decide +kernel
theorem dX4_moratorium_12 : decode cX4_moratorium 12 = .ok (.iconst 1, 1) := by decide +kernel
theorem dX4_moratorium_13 : decode cX4_moratorium 13 = .ok (.invokevirtual 118, 3) := by decide +kernel
theorem dX4_moratorium_16 : decode cX4_moratorium 16 = .ok (.ifCond .ne 5, 3) := by decide +kernel
theorem dX4_moratorium_19 : decode cX4_moratorium 19 = .ok (.iconst 0, 1) := by decide +kernel
theorem dX4_moratorium_20 : decode cX4_moratorium 20 = .ok (.ireturn, 1) := by decide +kernel
theorem dX4_moratorium_21 : decode cX4_moratorium 21 = .ok (.aload_n 0, 1) := by decide +kernel
theorem dX4_moratorium_22 : decode cX4_moratorium 22 = .ok (.getfield 64, 3) := by decide +kernel
theorem dX4_moratorium_25 : decode cX4_moratorium 25 = .ok (.iload_n 1, 1) := by decide +kernel
theorem dX4_moratorium_26 : decode cX4_moratorium 26 = .ok (.baload, 1) := by decide +kernel
theorem dX4_moratorium_27 : decode cX4_moratorium 27 = .ok (.iload_n 2, 1) := by decide +kernel
theorem dX4_moratorium_28 : decode cX4_moratorium 28 = .ok (.if_icmp .eq 7, 3) := by decide +kernel
theorem dX4_moratorium_31 : decode cX4_moratorium 31 = .ok (.iconst 1, 1) := by decide +kernel
theorem dX4_moratorium_32 : decode cX4_moratorium 32 = .ok (.goto 4, 3) := by decide +kernel
theorem dX4_moratorium_35 : decode cX4_moratorium 35 = .ok (.iconst 0, 1) := by decide +kernel
theorem dX4_moratorium_36 : decode cX4_moratorium 36 = .ok (.istore_n 3, 1) := by decide +kernel
theorem dX4_moratorium_37 : decode cX4_moratorium 37 = .ok (.aload_n 0, 1) := by decide +kernel
theorem dX4_moratorium_38 : decode cX4_moratorium 38 = .ok (.getfield 64, 3) := by decide +kernel
theorem dX4_moratorium_41 : decode cX4_moratorium 41 = .ok (.iload_n 1, 1) := by decide +kernel
theorem dX4_moratorium_42 : decode cX4_moratorium 42 = .ok (.iload_n 2, 1) := by decide +kernel
theorem dX4_moratorium_43 : decode cX4_moratorium 43 = .ok (.bastore, 1) := by decide +kernel
theorem dX4_moratorium_44 : decode cX4_moratorium 44 = .ok (.iload_n 3, 1) := by decide +kernel
theorem dX4_moratorium_45 : decode cX4_moratorium 45 = .ok (.ireturn, 1) := by decide +kernel
theorem dX4_ends_0 : decode cX4_ends 0 = .ok (.aload_n 0, 1) := by decide +kernel
theorem dX4_ends_1 : decode cX4_ends 1 = .ok (.getfield 46, 3) := by decide +kernel
theorem dX4_ends_4 : decode cX4_ends 4 = .ok (.iload_n 1, 1) := by decide +kernel
theorem dX4_ends_5 : decode cX4_ends 5 = .ok (.iconst 1, 1) := by decide +kernel
theorem dX4_ends_6 : decode cX4_ends 6 = .ok (.iastore, 1) := by decide +kernel
theorem dX4_ends_7 : decode cX4_ends 7 = .ok (.aload_n 0, 1) := by decide +kernel
theorem dX4_ends_8 : decode cX4_ends 8 = .ok (.dup, 1) := by decide +kernel
theorem dX4_ends_9 : decode cX4_ends 9 = .ok (.getfield 128, 3) := by decide +kernel
theorem dX4_ends_12 : decode cX4_ends 12 = .ok (.aload_n 0, 1) := by decide +kernel
theorem dX4_ends_13 : decode cX4_ends 13 = .ok (.getfield 52, 3) := by decide +kernel
theorem dX4_ends_16 : decode cX4_ends 16 = .ok (.iload_n 1, 1) := by decide +kernel
theorem dX4_ends_17 : decode cX4_ends 17 = .ok (.laload, 1) := by decide +kernel
theorem dX4_ends_18 : decode cX4_ends 18 = .ok (.ladd, 1) := by decide +kernel
theorem dX4_ends_19 : decode cX4_ends 19 = .ok (.putfield 128, 3) := by decide +kernel
theorem dX4_ends_22 : decode cX4_ends 22 = .ok (.aload_n 0, 1) := by decide +kernel
theorem dX4_ends_23 : decode cX4_ends 23 = .ok (.getfield 52, 3) := by decide +kernel
theorem dX4_ends_26 : decode cX4_ends 26 = .ok (.iload_n 1, 1) := by decide +kernel
theorem dX4_ends_27 : decode cX4_ends 27 = .ok (.lconst 0, 1) := by decide +kernel
theorem dX4_ends_28 : decode cX4_ends 28 = .ok (.lastore, 1) := by decide +kernel
theorem dX4_ends_29 : decode cX4_ends 29 = .ok (.return_, 1) := by decide +kernel
theorem dX4_flow_0 : decode cX4_flow 0 = .ok (.iload_n 2, 1) := by decide +kernel
theorem dX4_flow_1 : decode cX4_flow 1 = .ok (.aload_n 0, 1) := by decide +kernel
theorem dX4_flow_2 : decode cX4_flow 2 = .ok (.getfield 33, 3) := by decide +kernel
theorem dX4_flow_5 : decode cX4_flow 5 = .ok (.iload_n 1, 1) := by decide +kernel
theorem dX4_flow_6 : decode cX4_flow 6 = .ok (.iaload, 1) := by decide +kernel
theorem dX4_flow_7 : decode cX4_flow 7 = .ok (.if_icmp .le 7, 3) := by decide +kernel
theorem dX4_flow_10 : decode cX4_flow 10 = .ok (.lconst 0, 1) := by decide +kernel
theorem dX4_flow_11 : decode cX4_flow 11 = .ok (.goto 42, 3) := by decide +kernel
theorem dX4_flow_14 : decode cX4_flow 14 = .ok (.aload_n 0, 1) := by decide +kernel
theorem dX4_flow_15 : decode cX4_flow 15 = .ok (.getfield 26, 3) := by decide +kernel
theorem dX4_flow_18 : decode cX4_flow 18 = .ok (.iload_n 1, 1) := by decide +kernel
theorem dX4_flow_19 : decode cX4_flow 19 = .ok (.laload, 1) := by decide +kernel
theorem dX4_flow_20 : decode cX4_flow 20 = .ok (.aload_n 0, 1) := by decide +kernel
theorem dX4_flow_21 : decode cX4_flow 21 = .ok (.getfield 30, 3) := by decide +kernel
theorem dX4_flow_24 : decode cX4_flow 24 = .ok (.iload_n 1, 1) := by decide +kernel
theorem dX4_flow_25 : decode cX4_flow 25 = .ok (.iaload, 1) := by decide +kernel
theorem dX4_flow_26 : decode cX4_flow 26 = .ok (.i2l, 1) := by decide +kernel
theorem dX4_flow_27 : decode cX4_flow 27 = .ok (.lmul, 1) := by decide +kernel
theorem dX4_flow_28 : decode cX4_flow 28 = .ok (.ldc2_w 146, 3) := by decide +kernel
theorem dX4_flow_31 : decode cX4_flow 31 = .ok (.ldiv, 1) := by decide +kernel
theorem dX4_flow_32 : decode cX4_flow 32 = .ok (.iload_n 2, 1) := by decide +kernel
theorem dX4_flow_33 : decode cX4_flow 33 = .ok (.aload_n 0, 1) := by decide +kernel
theorem dX4_flow_34 : decode cX4_flow 34 = .ok (.getfield 33, 3) := by decide +kernel
theorem dX4_flow_37 : decode cX4_flow 37 = .ok (.iload_n 1, 1) := by decide +kernel
theorem dX4_flow_38 : decode cX4_flow 38 = .ok (.iaload, 1) := by decide +kernel
theorem dX4_flow_39 : decode cX4_flow 39 = .ok (.if_icmp .ne 12, 3) := by decide +kernel
theorem dX4_flow_42 : decode cX4_flow 42 = .ok (.aload_n 0, 1) := by decide +kernel
theorem dX4_flow_43 : decode cX4_flow 43 = .ok (.getfield 26, 3) := by decide +kernel
theorem dX4_flow_46 : decode cX4_flow 46 = .ok (.iload_n 1, 1) := by decide +kernel
theorem dX4_flow_47 : decode cX4_flow 47 = .ok (.laload, 1) := by decide +kernel
theorem dX4_flow_48 : decode cX4_flow 48 = .ok (.goto 4, 3) := by decide +kernel
theorem dX4_flow_51 : decode cX4_flow 51 = .ok (.lconst 0, 1) := by decide +kernel
theorem dX4_flow_52 : decode cX4_flow 52 = .ok (.ladd, 1) := by decide +kernel
theorem dX4_flow_53 : decode cX4_flow 53 = .ok (.lreturn, 1) := by decide +kernel
theorem dX4_looksAt_0 : decode cX4_looksAt 0 = .ok (.lconst 0, 1) := by decide +kernel
theorem dX4_looksAt_1 : decode cX4_looksAt 1 = .ok (.lstore_n 2, 1) := by decide +kernel
theorem dX4_looksAt_2 : decode cX4_looksAt 2 = .ok (.aload_n 0, 1) := by decide +kernel
theorem dX4_looksAt_3 : decode cX4_looksAt 3 = .ok (.getfield 23, 3) := by decide +kernel
theorem dX4_looksAt_6 : decode cX4_looksAt 6 = .ok (.iload_n 1, 1) := by decide +kernel
theorem dX4_looksAt_7 : decode cX4_looksAt 7 = .ok (.iaload, 1) := by decide +kernel
theorem dX4_looksAt_8 : decode cX4_looksAt 8 = .ok (.ifCond .eq 222, 3) := by decide +kernel
theorem dX4_looksAt_11 : decode cX4_looksAt 11 = .ok (.aload_n 0, 1) := by decide +kernel
theorem dX4_looksAt_12 : decode cX4_looksAt 12 = .ok (.getfield 49, 3) := by decide +kernel
theorem dX4_looksAt_15 : decode cX4_looksAt 15 = .ok (.iload_n 1, 1) := by decide +kernel
theorem dX4_looksAt_16 : decode cX4_looksAt 16 = .ok (.dup2, 1) := by decide +kernel
theorem dX4_looksAt_17 : decode cX4_looksAt 17 = .ok (.laload, 1) := by decide +kernel
theorem dX4_looksAt_18 : decode cX4_looksAt 18 = .ok (.aload_n 0, 1) := by decide +kernel
theorem dX4_looksAt_19 : decode cX4_looksAt 19 = .ok (.getfield 49, 3) := by decide +kernel
theorem dX4_looksAt_22 : decode cX4_looksAt 22 = .ok (.iload_n 1, 1) := by decide +kernel
theorem dX4_looksAt_23 : decode cX4_looksAt 23 = .ok (.laload, 1) := by decide +kernel
theorem dX4_looksAt_24 : decode cX4_looksAt 24 = .ok (.ldc2_w 148, 3) := by decide +kernel
theorem dX4_looksAt_27 : decode cX4_looksAt 27 = .ok (.lmul, 1) := by decide +kernel
theorem dX4_looksAt_28 : decode cX4_looksAt 28 = .ok (.ldc2_w 146, 3) := by decide +kernel
theorem dX4_looksAt_31 : decode cX4_looksAt 31 = .ok (.ldiv, 1) := by decide +kernel
theorem dX4_looksAt_32 : decode cX4_looksAt 32 = .ok (.ladd, 1) := by decide +kernel
theorem dX4_looksAt_33 : decode cX4_looksAt 33 = .ok (.lastore, 1) := by decide +kernel
theorem dX4_looksAt_34 : decode cX4_looksAt 34 = .ok (.aload_n 0, 1) := by decide +kernel
theorem dX4_looksAt_35 : decode cX4_looksAt 35 = .ok (.getfield 49, 3) := by decide +kernel
theorem dX4_looksAt_38 : decode cX4_looksAt 38 = .ok (.iload_n 1, 1) := by decide +kernel
theorem dX4_looksAt_39 : decode cX4_looksAt 39 = .ok (.dup2, 1) := by decide +kernel
theorem dX4_looksAt_40 : decode cX4_looksAt 40 = .ok (.laload, 1) := by decide +kernel
theorem dX4_looksAt_41 : decode cX4_looksAt 41 = .ok (.aload_n 0, 1) := by decide +kernel
theorem dX4_looksAt_42 : decode cX4_looksAt 42 = .ok (.iload_n 1, 1) := by decide +kernel
theorem dX4_looksAt_43 : decode cX4_looksAt 43 = .ok (.aload_n 0, 1) := by decide +kernel
theorem dX4_looksAt_44 : decode cX4_looksAt 44 = .ok (.getfield 110, 3) := by decide +kernel
theorem dX4_looksAt_47 : decode cX4_looksAt 47 = .ok (.invokevirtual 150, 3) := by decide +kernel
theorem dX4_looksAt_50 : decode cX4_looksAt 50 = .ok (.ladd, 1) := by decide +kernel
theorem dX4_looksAt_51 : decode cX4_looksAt 51 = .ok (.lastore, 1) := by decide +kernel
theorem dX4_looksAt_52 : decode cX4_looksAt 52 = .ok (.aload_n 0, 1) := by decide +kernel
theorem dX4_looksAt_53 : decode cX4_looksAt 53 = .ok (.getfield 26, 3) := by decide +kernel
theorem dX4_looksAt_56 : decode cX4_looksAt 56 = .ok (.iload_n 1, 1) := by decide +kernel
theorem dX4_looksAt_57 : decode cX4_looksAt 57 = .ok (.aload_n 0, 1) := by decide +kernel
theorem dX4_looksAt_58 : decode cX4_looksAt 58 = .ok (.getfield 110, 3) := by decide +kernel
theorem dX4_looksAt_61 : decode cX4_looksAt 61 = .ok (.aload_n 0, 1) := by decide +kernel
theorem dX4_looksAt_62 : decode cX4_looksAt 62 = .ok (.getfield 33, 3) := by decide +kernel
theorem dX4_looksAt_65 : decode cX4_looksAt 65 = .ok (.iload_n 1, 1) := by decide +kernel
theorem dX4_looksAt_66 : decode cX4_looksAt 66 = .ok (.iaload, 1) := by decide +kernel
theorem dX4_looksAt_67 : decode cX4_looksAt 67 = .ok (.if_icmp .ne 7, 3) := by decide +kernel
theorem dX4_looksAt_70 : decode cX4_looksAt 70 = .ok (.lconst 0, 1) := by decide +kernel
theorem dX4_looksAt_71 : decode cX4_looksAt 71 = .ok (.goto 9, 3) := by decide +kernel
theorem dX4_looksAt_74 : decode cX4_looksAt 74 = .ok (.aload_n 0, 1) := by decide +kernel
theorem dX4_looksAt_75 : decode cX4_looksAt 75 = .ok (.getfield 26, 3) := by decide +kernel
theorem dX4_looksAt_78 : decode cX4_looksAt 78 = .ok (.iload_n 1, 1) := by decide +kernel
theorem dX4_looksAt_79 : decode cX4_looksAt 79 = .ok (.laload, 1) := by decide +kernel
theorem dX4_looksAt_80 : decode cX4_looksAt 80 = .ok (.lastore, 1) := by decide +kernel
theorem dX4_looksAt_81 : decode cX4_looksAt 81 = .ok (.aload_n 0, 1) := by decide +kernel
theorem dX4_looksAt_82 : decode cX4_looksAt 82 = .ok (.getfield 49, 3) := by decide +kernel
theorem dX4_looksAt_85 : decode cX4_looksAt 85 = .ok (.iload_n 1, 1) := by decide +kernel
theorem dX4_looksAt_86 : decode cX4_looksAt 86 = .ok (.laload, 1) := by decide +kernel
theorem dX4_looksAt_87 : decode cX4_looksAt 87 = .ok (.aload_n 0, 1) := by decide +kernel
theorem dX4_looksAt_88 : decode cX4_looksAt 88 = .ok (.getfield 52, 3) := by decide +kernel
theorem dX4_looksAt_91 : decode cX4_looksAt 91 = .ok (.iload_n 1, 1) := by decide +kernel
theorem dX4_looksAt_92 : decode cX4_looksAt 92 = .ok (.laload, 1) := by decide +kernel
theorem dX4_looksAt_93 : decode cX4_looksAt 93 = .ok (.lcmp, 1) := by decide +kernel
theorem dX4_looksAt_94 : decode cX4_looksAt 94 = .ok (.ifCond .ge 12, 3) := by decide +kernel
theorem dX4_looksAt_97 : decode cX4_looksAt 97 = .ok (.aload_n 0, 1) := by decide +kernel
theorem dX4_looksAt_98 : decode cX4_looksAt 98 = .ok (.getfield 49, 3) := by decide +kernel
theorem dX4_looksAt_101 : decode cX4_looksAt 101 = .ok (.iload_n 1, 1) := by decide +kernel
theorem dX4_looksAt_102 : decode cX4_looksAt 102 = .ok (.laload, 1) := by decide +kernel
theorem dX4_looksAt_103 : decode cX4_looksAt 103 = .ok (.goto 9, 3) := by decide +kernel
theorem dX4_looksAt_106 : decode cX4_looksAt 106 = .ok (.aload_n 0, 1) := by decide +kernel
theorem dX4_looksAt_107 : decode cX4_looksAt 107 = .ok (.getfield 52, 3) := by decide +kernel
theorem dX4_looksAt_110 : decode cX4_looksAt 110 = .ok (.iload_n 1, 1) := by decide +kernel
theorem dX4_looksAt_111 : decode cX4_looksAt 111 = .ok (.laload, 1) := by decide +kernel
theorem dX4_looksAt_112 : decode cX4_looksAt 112 = .ok (.lstore 4, 2) := by decide +kernel
theorem dX4_looksAt_114 : decode cX4_looksAt 114 = .ok (.aload_n 0, 1) := by decide +kernel
theorem dX4_looksAt_115 : decode cX4_looksAt 115 = .ok (.getfield 52, 3) := by decide +kernel
theorem dX4_looksAt_118 : decode cX4_looksAt 118 = .ok (.iload_n 1, 1) := by decide +kernel
theorem dX4_looksAt_119 : decode cX4_looksAt 119 = .ok (.dup2, 1) := by decide +kernel
theorem dX4_looksAt_120 : decode cX4_looksAt 120 = .ok (.laload, 1) := by decide +kernel
theorem dX4_looksAt_121 : decode cX4_looksAt 121 = .ok (.lload 4, 2) := by decide +kernel
theorem dX4_looksAt_123 : decode cX4_looksAt 123 = .ok (.lsub, 1) := by decide +kernel
theorem dX4_looksAt_124 : decode cX4_looksAt 124 = .ok (.lastore, 1) := by decide +kernel
theorem dX4_looksAt_125 : decode cX4_looksAt 125 = .ok (.aload_n 0, 1) := by decide +kernel
theorem dX4_looksAt_126 : decode cX4_looksAt 126 = .ok (.getfield 49, 3) := by decide +kernel
theorem dX4_looksAt_129 : decode cX4_looksAt 129 = .ok (.iload_n 1, 1) := by decide +kernel
theorem dX4_looksAt_130 : decode cX4_looksAt 130 = .ok (.dup2, 1) := by decide +kernel
theorem dX4_looksAt_131 : decode cX4_looksAt 131 = .ok (.laload, 1) := by decide +kernel
theorem dX4_looksAt_132 : decode cX4_looksAt 132 = .ok (.lload 4, 2) := by decide +kernel
theorem dX4_looksAt_134 : decode cX4_looksAt 134 = .ok (.lsub, 1) := by decide +kernel
theorem dX4_looksAt_135 : decode cX4_looksAt 135 = .ok (.lastore, 1) := by decide +kernel
theorem dX4_looksAt_136 : decode cX4_looksAt 136 = .ok (.aload_n 0, 1) := by decide +kernel
theorem dX4_looksAt_137 : decode cX4_looksAt 137 = .ok (.getfield 64, 3) := by decide +kernel
theorem dX4_looksAt_140 : decode cX4_looksAt 140 = .ok (.aload_n 0, 1) := by decide +kernel
theorem dX4_looksAt_141 : decode cX4_looksAt 141 = .ok (.getfield 19, 3) := by decide +kernel
theorem dX4_looksAt_144 : decode cX4_looksAt 144 = .ok (.iload_n 1, 1) := by decide +kernel
theorem dX4_looksAt_145 : decode cX4_looksAt 145 = .ok (.iaload, 1) := by decide +kernel
theorem dX4_looksAt_146 : decode cX4_looksAt 146 = .ok (.baload, 1) := by decide +kernel
theorem dX4_looksAt_147 : decode cX4_looksAt 147 = .ok (.ifCond .ne 12, 3) := by decide +kernel
theorem dX4_looksAt_150 : decode cX4_looksAt 150 = .ok (.aload_n 0, 1) := by decide +kernel
theorem dX4_looksAt_151 : decode cX4_looksAt 151 = .ok (.getfield 128, 3) := by decide +kernel
theorem dX4_looksAt_154 : decode cX4_looksAt 154 = .ok (.lconst 0, 1) := by decide +kernel
theorem dX4_looksAt_155 : decode cX4_looksAt 155 = .ok (.lcmp, 1) := by decide +kernel
theorem dX4_looksAt_156 : decode cX4_looksAt 156 = .ok (.ifCond .ge 7, 3) := by decide +kernel
theorem dX4_looksAt_159 : decode cX4_looksAt 159 = .ok (.lconst 0, 1) := by decide +kernel
theorem dX4_looksAt_160 : decode cX4_looksAt 160 = .ok (.goto 30, 3) := by decide +kernel
theorem dX4_looksAt_163 : decode cX4_looksAt 163 = .ok (.aload_n 0, 1) := by decide +kernel
theorem dX4_looksAt_164 : decode cX4_looksAt 164 = .ok (.getfield 49, 3) := by decide +kernel
theorem dX4_looksAt_167 : decode cX4_looksAt 167 = .ok (.iload_n 1, 1) := by decide +kernel
theorem dX4_looksAt_168 : decode cX4_looksAt 168 = .ok (.laload, 1) := by decide +kernel
theorem dX4_looksAt_169 : decode cX4_looksAt 169 = .ok (.aload_n 0, 1) := by decide +kernel
theorem dX4_looksAt_170 : decode cX4_looksAt 170 = .ok (.getfield 128, 3) := by decide +kernel
theorem dX4_looksAt_173 : decode cX4_looksAt 173 = .ok (.lcmp, 1) := by decide +kernel
theorem dX4_looksAt_174 : decode cX4_looksAt 174 = .ok (.ifCond .ge 12, 3) := by decide +kernel
theorem dX4_looksAt_177 : decode cX4_looksAt 177 = .ok (.aload_n 0, 1) := by decide +kernel
theorem dX4_looksAt_178 : decode cX4_looksAt 178 = .ok (.getfield 49, 3) := by decide +kernel
theorem dX4_looksAt_181 : decode cX4_looksAt 181 = .ok (.iload_n 1, 1) := by decide +kernel
theorem dX4_looksAt_182 : decode cX4_looksAt 182 = .ok (.laload, 1) := by decide +kernel
theorem dX4_looksAt_183 : decode cX4_looksAt 183 = .ok (.goto 7, 3) := by decide +kernel
theorem dX4_looksAt_186 : decode cX4_looksAt 186 = .ok (.aload_n 0, 1) := by decide +kernel
theorem dX4_looksAt_187 : decode cX4_looksAt 187 = .ok (.getfield 128, 3) := by decide +kernel
theorem dX4_looksAt_190 : decode cX4_looksAt 190 = .ok (.lstore 6, 2) := by decide +kernel
theorem dX4_looksAt_192 : decode cX4_looksAt 192 = .ok (.aload_n 0, 1) := by decide +kernel
theorem dX4_looksAt_193 : decode cX4_looksAt 193 = .ok (.dup, 1) := by decide +kernel
theorem dX4_looksAt_194 : decode cX4_looksAt 194 = .ok (.getfield 128, 3) := by decide +kernel
theorem dX4_looksAt_197 : decode cX4_looksAt 197 = .ok (.lload 6, 2) := by decide +kernel
theorem dX4_looksAt_199 : decode cX4_looksAt 199 = .ok (.lsub, 1) := by decide +kernel
theorem dX4_looksAt_200 : decode cX4_looksAt 200 = .ok (.putfield 128, 3) := by decide +kernel
theorem dX4_looksAt_203 : decode cX4_looksAt 203 = .ok (.aload_n 0, 1) := by decide +kernel
theorem dX4_looksAt_204 : decode cX4_looksAt 204 = .ok (.getfield 49, 3) := by decide +kernel
theorem dX4_looksAt_207 : decode cX4_looksAt 207 = .ok (.iload_n 1, 1) := by decide +kernel
theorem dX4_looksAt_208 : decode cX4_looksAt 208 = .ok (.dup2, 1) := by decide +kernel
theorem dX4_looksAt_209 : decode cX4_looksAt 209 = .ok (.laload, 1) := by decide +kernel
theorem dX4_looksAt_210 : decode cX4_looksAt 210 = .ok (.lload 6, 2) := by decide +kernel
theorem dX4_looksAt_212 : decode cX4_looksAt 212 = .ok (.lsub, 1) := by decide +kernel
theorem dX4_looksAt_213 : decode cX4_looksAt 213 = .ok (.lastore, 1) := by decide +kernel
theorem dX4_looksAt_214 : decode cX4_looksAt 214 = .ok (.lload 4, 2) := by decide +kernel
theorem dX4_looksAt_216 : decode cX4_looksAt 216 = .ok (.lload 6, 2) := by decide +kernel
theorem dX4_looksAt_218 : decode cX4_looksAt 218 = .ok (.ladd, 1) := by decide +kernel
theorem dX4_looksAt_219 : decode cX4_looksAt 219 = .ok (.lstore_n 2, 1) := by decide +kernel
theorem dX4_looksAt_220 : decode cX4_looksAt 220 = .ok (.aload_n 0, 1) := by decide +kernel
theorem dX4_looksAt_221 : decode cX4_looksAt 221 = .ok (.getfield 55, 3) := by decide +kernel
theorem dX4_looksAt_224 : decode cX4_looksAt 224 = .ok (.iload_n 1, 1) := by decide +kernel
theorem dX4_looksAt_225 : decode cX4_looksAt 225 = .ok (.dup2, 1) := by decide +kernel
theorem dX4_looksAt_226 : decode cX4_looksAt 226 = .ok (.laload, 1) := by decide +kernel
theorem dX4_looksAt_227 : decode cX4_looksAt 227 = .ok (.lload_n 2, 1) := by decide +kernel
theorem dX4_looksAt_228 : decode cX4_looksAt 228 = .ok (.ladd, 1) := by decide +kernel
theorem dX4_looksAt_229 : decode cX4_looksAt 229 = .ok (.lastore, 1) := by decide +kernel
theorem dX4_looksAt_230 : decode cX4_looksAt 230 = .ok (.aload_n 0, 1) := by decide +kernel
theorem dX4_looksAt_231 : decode cX4_looksAt 231 = .ok (.getfield 33, 3) := by decide +kernel
theorem dX4_looksAt_234 : decode cX4_looksAt 234 = .ok (.iload_n 1, 1) := by decide +kernel
theorem dX4_looksAt_235 : decode cX4_looksAt 235 = .ok (.iaload, 1) := by decide +kernel
theorem dX4_looksAt_236 : decode cX4_looksAt 236 = .ok (.aload_n 0, 1) := by decide +kernel
theorem dX4_looksAt_237 : decode cX4_looksAt 237 = .ok (.getfield 110, 3) := by decide +kernel
theorem dX4_looksAt_240 : decode cX4_looksAt 240 = .ok (.if_icmp .gt 19, 3) := by decide +kernel
theorem dX4_looksAt_243 : decode cX4_looksAt 243 = .ok (.aload_n 0, 1) := by decide +kernel
theorem dX4_looksAt_244 : decode cX4_looksAt 244 = .ok (.getfield 49, 3) := by decide +kernel
theorem dX4_looksAt_247 : decode cX4_looksAt 247 = .ok (.iload_n 1, 1) := by decide +kernel
theorem dX4_looksAt_248 : decode cX4_looksAt 248 = .ok (.laload, 1) := by decide +kernel
theorem dX4_looksAt_249 : decode cX4_looksAt 249 = .ok (.lconst 0, 1) := by decide +kernel
theorem dX4_looksAt_250 : decode cX4_looksAt 250 = .ok (.lcmp, 1) := by decide +kernel
theorem dX4_looksAt_251 : decode cX4_looksAt 251 = .ok (.ifCond .ne 8, 3) := by decide +kernel
theorem dX4_looksAt_254 : decode cX4_looksAt 254 = .ok (.aload_n 0, 1) := by decide +kernel
theorem dX4_looksAt_255 : decode cX4_looksAt 255 = .ok (.iload_n 1, 1) := by decide +kernel
theorem dX4_looksAt_256 : decode cX4_looksAt 256 = .ok (.invokevirtual 154, 3) := by decide +kernel
theorem dX4_looksAt_259 : decode cX4_looksAt 259 = .ok (.lload_n 2, 1) := by decide +kernel
theorem dX4_looksAt_260 : decode cX4_looksAt 260 = .ok (.lreturn, 1) := by decide +kernel
theorem dX4_goesBy_0 : decode cX4_goesBy 0 = .ok (.aload_n 0, 1) := by decide +kernel
theorem dX4_goesBy_1 : decode cX4_goesBy 1 = .ok (.dup, 1) := by decide +kernel
theorem dX4_goesBy_2 : decode cX4_goesBy 2 = .ok (.getfield 128, 3) := by decide +kernel
theorem dX4_goesBy_5 : decode cX4_goesBy 5 = .ok (.aload_n 0, 1) := by decide +kernel
theorem dX4_goesBy_6 : decode cX4_goesBy 6 = .ok (.getfield 9, 3) := by decide +kernel
theorem dX4_goesBy_9 : decode cX4_goesBy 9 = .ok (.aload_n 0, 1) := by decide +kernel
theorem dX4_goesBy_10 : decode cX4_goesBy 10 = .ok (.getfield 143, 3) := by decide +kernel
theorem dX4_goesBy_13 : decode cX4_goesBy 13 = .ok (.i2l, 1) := by decide +kernel
theorem dX4_goesBy_14 : decode cX4_goesBy 14 = .ok (.lmul, 1) := by decide +kernel
theorem dX4_goesBy_15 : decode cX4_goesBy 15 = .ok (.ldc2_w 158, 3) := by decide +kernel
theorem dX4_goesBy_18 : decode cX4_goesBy 18 = .ok (.invokestatic 160, 3) := by decide +kernel
theorem dX4_goesBy_21 : decode cX4_goesBy 21 = .ok (.ladd, 1) := by decide +kernel
theorem dX4_goesBy_22 : decode cX4_goesBy 22 = .ok (.putfield 128, 3) := by decide +kernel
theorem dX4_goesBy_25 : decode cX4_goesBy 25 = .ok (.aload_n 0, 1) := by decide +kernel
theorem dX4_goesBy_26 : decode cX4_goesBy 26 = .ok (.dup, 1) := by decide +kernel
theorem dX4_goesBy_27 : decode cX4_goesBy 27 = .ok (.getfield 9, 3) := by decide +kernel
theorem dX4_goesBy_30 : decode cX4_goesBy 30 = .ok (.aload_n 0, 1) := by decide +kernel
theorem dX4_goesBy_31 : decode cX4_goesBy 31 = .ok (.getfield 9, 3) := by decide +kernel
theorem dX4_goesBy_34 : decode cX4_goesBy 34 = .ok (.aload_n 0, 1) := by decide +kernel
theorem dX4_goesBy_35 : decode cX4_goesBy 35 = .ok (.getfield 140, 3) := by decide +kernel
theorem dX4_goesBy_38 : decode cX4_goesBy 38 = .ok (.i2l, 1) := by decide +kernel
theorem dX4_goesBy_39 : decode cX4_goesBy 39 = .ok (.lmul, 1) := by decide +kernel
theorem dX4_goesBy_40 : decode cX4_goesBy 40 = .ok (.ldc2_w 146, 3) := by decide +kernel
theorem dX4_goesBy_43 : decode cX4_goesBy 43 = .ok (.invokestatic 160, 3) := by decide +kernel
theorem dX4_goesBy_46 : decode cX4_goesBy 46 = .ok (.ladd, 1) := by decide +kernel
theorem dX4_goesBy_47 : decode cX4_goesBy 47 = .ok (.putfield 9, 3) := by decide +kernel
theorem dX4_goesBy_50 : decode cX4_goesBy 50 = .ok (.aload_n 0, 1) := by decide +kernel
theorem dX4_goesBy_51 : decode cX4_goesBy 51 = .ok (.dup, 1) := by decide +kernel
theorem dX4_goesBy_52 : decode cX4_goesBy 52 = .ok (.getfield 110, 3) := by decide +kernel
theorem dX4_goesBy_55 : decode cX4_goesBy 55 = .ok (.iconst 1, 1) := by decide +kernel
theorem dX4_goesBy_56 : decode cX4_goesBy 56 = .ok (.iadd, 1) := by decide +kernel
theorem dX4_goesBy_57 : decode cX4_goesBy 57 = .ok (.putfield 110, 3) := by decide +kernel
theorem dX4_goesBy_60 : decode cX4_goesBy 60 = .ok (.iconst 0, 1) := by decide +kernel
theorem dX4_goesBy_61 : decode cX4_goesBy 61 = .ok (.istore_n 1, 1) := by decide +kernel
theorem dX4_goesBy_62 : decode cX4_goesBy 62 = .ok (.iload_n 1, 1) := by decide +kernel
theorem dX4_goesBy_63 : decode cX4_goesBy 63 = .ok (.aload_n 0, 1) := by decide +kernel
theorem dX4_goesBy_64 : decode cX4_goesBy 64 = .ok (.getfield 100, 3) := by decide +kernel
theorem dX4_goesBy_67 : decode cX4_goesBy 67 = .ok (.if_icmp .ge 44, 3) := by decide +kernel
theorem dX4_goesBy_70 : decode cX4_goesBy 70 = .ok (.aload_n 0, 1) := by decide +kernel
theorem dX4_goesBy_71 : decode cX4_goesBy 71 = .ok (.getfield 58, 3) := by decide +kernel
theorem dX4_goesBy_74 : decode cX4_goesBy 74 = .ok (.iload_n 1, 1) := by decide +kernel
theorem dX4_goesBy_75 : decode cX4_goesBy 75 = .ok (.aload_n 0, 1) := by decide +kernel
theorem dX4_goesBy_76 : decode cX4_goesBy 76 = .ok (.getfield 58, 3) := by decide +kernel
theorem dX4_goesBy_79 : decode cX4_goesBy 79 = .ok (.iload_n 1, 1) := by decide +kernel
theorem dX4_goesBy_80 : decode cX4_goesBy 80 = .ok (.iaload, 1) := by decide +kernel
theorem dX4_goesBy_81 : decode cX4_goesBy 81 = .ok (.iconst 1, 1) := by decide +kernel
theorem dX4_goesBy_82 : decode cX4_goesBy 82 = .ok (.if_icmp .ne 16, 3) := by decide +kernel
theorem dX4_goesBy_85 : decode cX4_goesBy 85 = .ok (.aload_n 0, 1) := by decide +kernel
theorem dX4_goesBy_86 : decode cX4_goesBy 86 = .ok (.getfield 46, 3) := by decide +kernel
theorem dX4_goesBy_89 : decode cX4_goesBy 89 = .ok (.iload_n 1, 1) := by decide +kernel
theorem dX4_goesBy_90 : decode cX4_goesBy 90 = .ok (.iaload, 1) := by decide +kernel
theorem dX4_goesBy_91 : decode cX4_goesBy 91 = .ok (.ifCond .ne 7, 3) := by decide +kernel
theorem dX4_goesBy_94 : decode cX4_goesBy 94 = .ok (.iconst 2, 1) := by decide +kernel
theorem dX4_goesBy_95 : decode cX4_goesBy 95 = .ok (.goto 9, 3) := by decide +kernel
theorem dX4_goesBy_98 : decode cX4_goesBy 98 = .ok (.aload_n 0, 1) := by decide +kernel
theorem dX4_goesBy_99 : decode cX4_goesBy 99 = .ok (.getfield 58, 3) := by decide +kernel
theorem dX4_goesBy_102 : decode cX4_goesBy 102 = .ok (.iload_n 1, 1) := by decide +kernel
theorem dX4_goesBy_103 : decode cX4_goesBy 103 = .ok (.iaload, 1) := by decide +kernel
theorem dX4_goesBy_104 : decode cX4_goesBy 104 = .ok (.iastore, 1) := by decide +kernel
theorem dX4_goesBy_105 : decode cX4_goesBy 105 = .ok (.iinc 1 1, 3) := by decide +kernel
theorem dX4_goesBy_108 : decode cX4_goesBy 108 = .ok (.goto (-46), 3) := by decide +kernel
theorem dX4_goesBy_111 : decode cX4_goesBy 111 = .ok (.lconst 0, 1) := by decide +kernel
theorem dX4_goesBy_112 : decode cX4_goesBy 112 = .ok (.lstore_n 1, 1) := by decide +kernel
theorem dX4_goesBy_113 : decode cX4_goesBy 113 = .ok (.iconst 0, 1) := by decide +kernel
theorem dX4_goesBy_114 : decode cX4_goesBy 114 = .ok (.istore_n 3, 1) := by decide +kernel
theorem dX4_goesBy_115 : decode cX4_goesBy 115 = .ok (.iload_n 3, 1) := by decide +kernel
theorem dX4_goesBy_116 : decode cX4_goesBy 116 = .ok (.iconst 3, 1) := by decide +kernel
theorem dX4_goesBy_117 : decode cX4_goesBy 117 = .ok (.aload_n 0, 1) := by decide +kernel
theorem dX4_goesBy_118 : decode cX4_goesBy 118 = .ok (.getfield 100, 3) := by decide +kernel
theorem dX4_goesBy_121 : decode cX4_goesBy 121 = .ok (.imul, 1) := by decide +kernel
theorem dX4_goesBy_122 : decode cX4_goesBy 122 = .ok (.if_icmp .ge 56, 3) := by decide +kernel
theorem dX4_goesBy_125 : decode cX4_goesBy 125 = .ok (.iload_n 3, 1) := by decide +kernel
theorem dX4_goesBy_126 : decode cX4_goesBy 126 = .ok (.aload_n 0, 1) := by decide +kernel
theorem dX4_goesBy_127 : decode cX4_goesBy 127 = .ok (.getfield 100, 3) := by decide +kernel
theorem dX4_goesBy_130 : decode cX4_goesBy 130 = .ok (.irem, 1) := by decide +kernel
theorem dX4_goesBy_131 : decode cX4_goesBy 131 = .ok (.istore 4, 2) := by decide +kernel
theorem dX4_goesBy_133 : decode cX4_goesBy 133 = .ok (.lload_n 1, 1) := by decide +kernel
theorem dX4_goesBy_134 : decode cX4_goesBy 134 = .ok (.aload_n 0, 1) := by decide +kernel
theorem dX4_goesBy_135 : decode cX4_goesBy 135 = .ok (.getfield 46, 3) := by decide +kernel
theorem dX4_goesBy_138 : decode cX4_goesBy 138 = .ok (.iload 4, 2) := by decide +kernel
theorem dX4_goesBy_140 : decode cX4_goesBy 140 = .ok (.iaload, 1) := by decide +kernel
theorem dX4_goesBy_141 : decode cX4_goesBy 141 = .ok (.ifCond .ne 28, 3) := by decide +kernel
theorem dX4_goesBy_144 : decode cX4_goesBy 144 = .ok (.aload_n 0, 1) := by decide +kernel
theorem dX4_goesBy_145 : decode cX4_goesBy 145 = .ok (.getfield 36, 3) := by decide +kernel
theorem dX4_goesBy_148 : decode cX4_goesBy 148 = .ok (.iload 4, 2) := by decide +kernel
theorem dX4_goesBy_150 : decode cX4_goesBy 150 = .ok (.iaload, 1) := by decide +kernel
theorem dX4_goesBy_151 : decode cX4_goesBy 151 = .ok (.iload_n 3, 1) := by decide +kernel
theorem dX4_goesBy_152 : decode cX4_goesBy 152 = .ok (.aload_n 0, 1) := by decide +kernel
theorem dX4_goesBy_153 : decode cX4_goesBy 153 = .ok (.getfield 100, 3) := by decide +kernel
theorem dX4_goesBy_156 : decode cX4_goesBy 156 = .ok (.idiv, 1) := by decide +kernel
theorem dX4_goesBy_157 : decode cX4_goesBy 157 = .ok (.if_icmp .ne 12, 3) := by decide +kernel
theorem dX4_goesBy_160 : decode cX4_goesBy 160 = .ok (.aload_n 0, 1) := by decide +kernel
theorem dX4_goesBy_161 : decode cX4_goesBy 161 = .ok (.iload 4, 2) := by decide +kernel
theorem dX4_goesBy_163 : decode cX4_goesBy 163 = .ok (.invokevirtual 164, 3) := by decide +kernel
theorem dX4_goesBy_166 : decode cX4_goesBy 166 = .ok (.goto 4, 3) := by decide +kernel
theorem dX4_goesBy_169 : decode cX4_goesBy 169 = .ok (.lconst 0, 1) := by decide +kernel
theorem dX4_goesBy_170 : decode cX4_goesBy 170 = .ok (.ladd, 1) := by decide +kernel
theorem dX4_goesBy_171 : decode cX4_goesBy 171 = .ok (.lstore_n 1, 1) := by decide +kernel
theorem dX4_goesBy_172 : decode cX4_goesBy 172 = .ok (.iinc 3 1, 3) := by decide +kernel
theorem dX4_goesBy_175 : decode cX4_goesBy 175 = .ok (.goto (-60), 3) := by decide +kernel
theorem dX4_goesBy_178 : decode cX4_goesBy 178 = .ok (.lload_n 1, 1) := by decide +kernel
theorem dX4_goesBy_179 : decode cX4_goesBy 179 = .ok (.lreturn, 1) := by decide +kernel
theorem dX4_year_0 : decode cX4_year 0 = .ok (.aload_n 0, 1) := by decide +kernel
theorem dX4_year_1 : decode cX4_year 1 = .ok (.iload_n 1, 1) := by decide +kernel
theorem dX4_year_2 : decode cX4_year 2 = .ok (.iconst 1, 1) := by decide +kernel
theorem dX4_year_3 : decode cX4_year 3 = .ok (.bipush 10, 2) := by decide +kernel
theorem dX4_year_5 : decode cX4_year 5 = .ok (.invokestatic 103, 3) := by decide +kernel
theorem dX4_year_8 : decode cX4_year 8 = .ok (.ifCond .ne 7, 3) := by decide +kernel
theorem dX4_year_11 : decode cX4_year 11 = .ok (.iconst 1, 1) := by decide +kernel
theorem dX4_year_12 : decode cX4_year 12 = .ok (.goto 19, 3) := by decide +kernel
theorem dX4_year_15 : decode cX4_year 15 = .ok (.aload_n 0, 1) := by decide +kernel
theorem dX4_year_16 : decode cX4_year 16 = .ok (.getfield 110, 3) := by decide +kernel
theorem dX4_year_19 : decode cX4_year 19 = .ok (.iload_n 1, 1) := by decide +kernel
theorem dX4_year_20 : decode cX4_year 20 = .ok (.iadd, 1) := by decide +kernel
theorem dX4_year_21 : decode cX4_year 21 = .ok (.bipush 60, 2) := by decide +kernel
theorem dX4_year_23 : decode cX4_year 23 = .ok (.if_icmp .le 7, 3) := by decide +kernel
theorem dX4_year_26 : decode cX4_year 26 = .ok (.iconst 2, 1) := by decide +kernel
theorem dX4_year_27 : decode cX4_year 27 = .ok (.goto 4, 3) := by decide +kernel
theorem dX4_year_30 : decode cX4_year 30 = .ok (.iconst 0, 1) := by decide +kernel
theorem dX4_year_31 : decode cX4_year 31 = .ok (.invokevirtual 118, 3) := by decide +kernel
theorem dX4_year_34 : decode cX4_year 34 = .ok (.ifCond .ne 5, 3) := by decide +kernel
theorem dX4_year_37 : decode cX4_year 37 = .ok (.lconst 0, 1) := by decide +kernel
theorem dX4_year_38 : decode cX4_year 38 = .ok (.lreturn, 1) := by decide +kernel
theorem dX4_year_39 : decode cX4_year 39 = .ok (.lconst 0, 1) := by decide +kernel
theorem dX4_year_40 : decode cX4_year 40 = .ok (.lstore_n 2, 1) := by decide +kernel
theorem dX4_year_41 : decode cX4_year 41 = .ok (.iconst 0, 1) := by decide +kernel
theorem dX4_year_42 : decode cX4_year 42 = .ok (.istore 4, 2) := by decide +kernel
theorem dX4_year_44 : decode cX4_year 44 = .ok (.iload 4, 2) := by decide +kernel
theorem dX4_year_46 : decode cX4_year 46 = .ok (.iload_n 1, 1) := by decide +kernel
theorem dX4_year_47 : decode cX4_year 47 = .ok (.if_icmp .ge 16, 3) := by decide +kernel
theorem dX4_year_50 : decode cX4_year 50 = .ok (.lload_n 2, 1) := by decide +kernel
theorem dX4_year_51 : decode cX4_year 51 = .ok (.aload_n 0, 1) := by decide +kernel
theorem dX4_year_52 : decode cX4_year 52 = .ok (.invokevirtual 167, 3) := by decide +kernel
theorem dX4_year_55 : decode cX4_year 55 = .ok (.ladd, 1) := by decide +kernel
theorem dX4_year_56 : decode cX4_year 56 = .ok (.lstore_n 2, 1) := by decide +kernel
theorem dX4_year_57 : decode cX4_year 57 = .ok (.iinc 4 1, 3) := by decide +kernel
theorem dX4_year_60 : decode cX4_year 60 = .ok (.goto (-16), 3) := by decide +kernel
theorem dX4_year_63 : decode cX4_year 63 = .ok (.lload_n 2, 1) := by decide +kernel
theorem dX4_year_64 : decode cX4_year 64 = .ok (.lreturn, 1) := by decide +kernel
theorem dX4_valueBy_0 : decode cX4_valueBy 0 = .ok (.lconst 0, 1) := by decide +kernel
theorem dX4_valueBy_1 : decode cX4_valueBy 1 = .ok (.lstore 6, 2) := by decide +kernel
theorem dX4_valueBy_3 : decode cX4_valueBy 3 = .ok (.iload 4, 2) := by decide +kernel
theorem dX4_valueBy_5 : decode cX4_valueBy 5 = .ok (.istore 8, 2) := by decide +kernel
theorem dX4_valueBy_7 : decode cX4_valueBy 7 = .ok (.iload 8, 2) := by decide +kernel
theorem dX4_valueBy_9 : decode cX4_valueBy 9 = .ok (.aload_n 0, 1) := by decide +kernel
theorem dX4_valueBy_10 : decode cX4_valueBy 10 = .ok (.getfield 110, 3) := by decide +kernel
theorem dX4_valueBy_13 : decode cX4_valueBy 13 = .ok (.if_icmp .le 51, 3) := by decide +kernel
theorem dX4_valueBy_16 : decode cX4_valueBy 16 = .ok (.lload_n 1, 1) := by decide +kernel
theorem dX4_valueBy_17 : decode cX4_valueBy 17 = .ok (.iload_n 3, 1) := by decide +kernel
theorem dX4_valueBy_18 : decode cX4_valueBy 18 = .ok (.i2l, 1) := by decide +kernel
theorem dX4_valueBy_19 : decode cX4_valueBy 19 = .ok (.lmul, 1) := by decide +kernel
theorem dX4_valueBy_20 : decode cX4_valueBy 20 = .ok (.ldc2_w 146, 3) := by decide +kernel
theorem dX4_valueBy_23 : decode cX4_valueBy 23 = .ok (.ldiv, 1) := by decide +kernel
theorem dX4_valueBy_24 : decode cX4_valueBy 24 = .ok (.iload 8, 2) := by decide +kernel
theorem dX4_valueBy_26 : decode cX4_valueBy 26 = .ok (.iload 4, 2) := by decide +kernel
theorem dX4_valueBy_28 : decode cX4_valueBy 28 = .ok (.if_icmp .ne 7, 3) := by decide +kernel
theorem dX4_valueBy_31 : decode cX4_valueBy 31 = .ok (.lload_n 1, 1) := by decide +kernel
theorem dX4_valueBy_32 : decode cX4_valueBy 32 = .ok (.goto 4, 3) := by decide +kernel
theorem dX4_valueBy_35 : decode cX4_valueBy 35 = .ok (.lconst 0, 1) := by decide +kernel
theorem dX4_valueBy_36 : decode cX4_valueBy 36 = .ok (.ladd, 1) := by decide +kernel
theorem dX4_valueBy_37 : decode cX4_valueBy 37 = .ok (.lstore 9, 2) := by decide +kernel
theorem dX4_valueBy_39 : decode cX4_valueBy 39 = .ok (.lload 6, 2) := by decide +kernel
theorem dX4_valueBy_41 : decode cX4_valueBy 41 = .ok (.lload 9, 2) := by decide +kernel
theorem dX4_valueBy_43 : decode cX4_valueBy 43 = .ok (.ladd, 1) := by decide +kernel
theorem dX4_valueBy_44 : decode cX4_valueBy 44 = .ok (.ldc2_w 146, 3) := by decide +kernel
theorem dX4_valueBy_47 : decode cX4_valueBy 47 = .ok (.lmul, 1) := by decide +kernel
theorem dX4_valueBy_48 : decode cX4_valueBy 48 = .ok (.sipush 10000, 3) := by decide +kernel
theorem dX4_valueBy_51 : decode cX4_valueBy 51 = .ok (.iload 5, 2) := by decide +kernel
theorem dX4_valueBy_53 : decode cX4_valueBy 53 = .ok (.iadd, 1) := by decide +kernel
theorem dX4_valueBy_54 : decode cX4_valueBy 54 = .ok (.i2l, 1) := by decide +kernel
theorem dX4_valueBy_55 : decode cX4_valueBy 55 = .ok (.ldiv, 1) := by decide +kernel
theorem dX4_valueBy_56 : decode cX4_valueBy 56 = .ok (.lstore 6, 2) := by decide +kernel
theorem dX4_valueBy_58 : decode cX4_valueBy 58 = .ok (.iinc 8 (-1), 3) := by decide +kernel
theorem dX4_valueBy_61 : decode cX4_valueBy 61 = .ok (.goto (-54), 3) := by decide +kernel
theorem dX4_valueBy_64 : decode cX4_valueBy 64 = .ok (.lload 6, 2) := by decide +kernel
theorem dX4_valueBy_66 : decode cX4_valueBy 66 = .ok (.lreturn, 1) := by decide +kernel
theorem dX4_valueOf_0 : decode cX4_valueOf 0 = .ok (.aload_n 0, 1) := by decide +kernel
theorem dX4_valueOf_1 : decode cX4_valueOf 1 = .ok (.getfield 46, 3) := by decide +kernel
theorem dX4_valueOf_4 : decode cX4_valueOf 4 = .ok (.iload_n 1, 1) := by decide +kernel
theorem dX4_valueOf_5 : decode cX4_valueOf 5 = .ok (.iaload, 1) := by decide +kernel
theorem dX4_valueOf_6 : decode cX4_valueOf 6 = .ok (.ifCond .ne 36, 3) := by decide +kernel
theorem dX4_valueOf_9 : decode cX4_valueOf 9 = .ok (.aload_n 0, 1) := by decide +kernel
theorem dX4_valueOf_10 : decode cX4_valueOf 10 = .ok (.aload_n 0, 1) := by decide +kernel
theorem dX4_valueOf_11 : decode cX4_valueOf 11 = .ok (.getfield 26, 3) := by decide +kernel
theorem dX4_valueOf_14 : decode cX4_valueOf 14 = .ok (.iload_n 1, 1) := by decide +kernel
theorem dX4_valueOf_15 : decode cX4_valueOf 15 = .ok (.laload, 1) := by decide +kernel
theorem dX4_valueOf_16 : decode cX4_valueOf 16 = .ok (.aload_n 0, 1) := by decide +kernel
theorem dX4_valueOf_17 : decode cX4_valueOf 17 = .ok (.getfield 30, 3) := by decide +kernel
theorem dX4_valueOf_20 : decode cX4_valueOf 20 = .ok (.iload_n 1, 1) := by decide +kernel
theorem dX4_valueOf_21 : decode cX4_valueOf 21 = .ok (.iaload, 1) := by decide +kernel
theorem dX4_valueOf_22 : decode cX4_valueOf 22 = .ok (.aload_n 0, 1) := by decide +kernel
theorem dX4_valueOf_23 : decode cX4_valueOf 23 = .ok (.getfield 33, 3) := by decide +kernel
theorem dX4_valueOf_26 : decode cX4_valueOf 26 = .ok (.iload_n 1, 1) := by decide +kernel
theorem dX4_valueOf_27 : decode cX4_valueOf 27 = .ok (.iaload, 1) := by decide +kernel
theorem dX4_valueOf_28 : decode cX4_valueOf 28 = .ok (.iload_n 2, 1) := by decide +kernel
theorem dX4_valueOf_29 : decode cX4_valueOf 29 = .ok (.invokevirtual 170, 3) := by decide +kernel
theorem dX4_valueOf_32 : decode cX4_valueOf 32 = .ok (.aload_n 0, 1) := by decide +kernel
theorem dX4_valueOf_33 : decode cX4_valueOf 33 = .ok (.getfield 49, 3) := by decide +kernel
theorem dX4_valueOf_36 : decode cX4_valueOf 36 = .ok (.iload_n 1, 1) := by decide +kernel
theorem dX4_valueOf_37 : decode cX4_valueOf 37 = .ok (.laload, 1) := by decide +kernel
theorem dX4_valueOf_38 : decode cX4_valueOf 38 = .ok (.ladd, 1) := by decide +kernel
theorem dX4_valueOf_39 : decode cX4_valueOf 39 = .ok (.goto 4, 3) := by decide +kernel
theorem dX4_valueOf_42 : decode cX4_valueOf 42 = .ok (.lconst 0, 1) := by decide +kernel
theorem dX4_valueOf_43 : decode cX4_valueOf 43 = .ok (.lreturn, 1) := by decide +kernel
theorem dX4_cutOf_0 : decode cX4_cutOf 0 = .ok (.aload_n 0, 1) := by decide +kernel
theorem dX4_cutOf_1 : decode cX4_cutOf 1 = .ok (.iload_n 1, 1) := by decide +kernel
theorem dX4_cutOf_2 : decode cX4_cutOf 2 = .ok (.invokevirtual 131, 3) := by decide +kernel
theorem dX4_cutOf_5 : decode cX4_cutOf 5 = .ok (.bipush 100, 2) := by decide +kernel
theorem dX4_cutOf_7 : decode cX4_cutOf 7 = .ok (.aload_n 0, 1) := by decide +kernel
theorem dX4_cutOf_8 : decode cX4_cutOf 8 = .ok (.getfield 67, 3) := by decide +kernel
theorem dX4_cutOf_11 : decode cX4_cutOf 11 = .ok (.iload_n 2, 1) := by decide +kernel
theorem dX4_cutOf_12 : decode cX4_cutOf 12 = .ok (.iaload, 1) := by decide +kernel
theorem dX4_cutOf_13 : decode cX4_cutOf 13 = .ok (.isub, 1) := by decide +kernel
theorem dX4_cutOf_14 : decode cX4_cutOf 14 = .ok (.i2l, 1) := by decide +kernel
theorem dX4_cutOf_15 : decode cX4_cutOf 15 = .ok (.lmul, 1) := by decide +kernel
theorem dX4_cutOf_16 : decode cX4_cutOf 16 = .ok (.ldc2_w 174, 3) := by decide +kernel
theorem dX4_cutOf_19 : decode cX4_cutOf 19 = .ok (.ldiv, 1) := by decide +kernel
theorem dX4_cutOf_20 : decode cX4_cutOf 20 = .ok (.lreturn, 1) := by decide +kernel
theorem dX4_discount_0 : decode cX4_discount 0 = .ok (.aload_n 0, 1) := by decide +kernel
theorem dX4_discount_1 : decode cX4_discount 1 = .ok (.iload_n 1, 1) := by decide +kernel
theorem dX4_discount_2 : decode cX4_discount 2 = .ok (.iconst 0, 1) := by decide +kernel
theorem dX4_discount_3 : decode cX4_discount 3 = .ok (.sipush 1500, 3) := by decide +kernel
theorem dX4_discount_6 : decode cX4_discount 6 = .ok (.invokestatic 103, 3) := by decide +kernel
theorem dX4_discount_9 : decode cX4_discount 9 = .ok (.ifCond .eq 7, 3) := by decide +kernel
theorem dX4_discount_12 : decode cX4_discount 12 = .ok (.iconst 0, 1) := by decide +kernel
theorem dX4_discount_13 : decode cX4_discount 13 = .ok (.goto 4, 3) := by decide +kernel
theorem dX4_discount_16 : decode cX4_discount 16 = .ok (.iconst 1, 1) := by decide +kernel
theorem dX4_discount_17 : decode cX4_discount 17 = .ok (.invokevirtual 118, 3) := by decide +kernel
theorem dX4_discount_20 : decode cX4_discount 20 = .ok (.ifCond .ne 5, 3) := by decide +kernel
theorem dX4_discount_23 : decode cX4_discount 23 = .ok (.iconst 0, 1) := by decide +kernel
theorem dX4_discount_24 : decode cX4_discount 24 = .ok (.ireturn, 1) := by decide +kernel
theorem dX4_discount_25 : decode cX4_discount 25 = .ok (.aload_n 0, 1) := by decide +kernel
theorem dX4_discount_26 : decode cX4_discount 26 = .ok (.getfield 15, 3) := by decide +kernel
theorem dX4_discount_29 : decode cX4_discount 29 = .ok (.istore_n 2, 1) := by decide +kernel
theorem dX4_discount_30 : decode cX4_discount 30 = .ok (.aload_n 0, 1) := by decide +kernel
theorem dX4_discount_31 : decode cX4_discount 31 = .ok (.iload_n 1, 1) := by decide +kernel
theorem dX4_discount_32 : decode cX4_discount 32 = .ok (.putfield 15, 3) := by decide +kernel
theorem dX4_discount_35 : decode cX4_discount 35 = .ok (.iload_n 2, 1) := by decide +kernel
theorem dX4_discount_36 : decode cX4_discount 36 = .ok (.ireturn, 1) := by decide +kernel
theorem dX4_offer_0 : decode cX4_offer 0 = .ok (.iload_n 1, 1) := by decide +kernel
theorem dX4_offer_1 : decode cX4_offer 1 = .ok (.iconst 0, 1) := by decide +kernel
theorem dX4_offer_2 : decode cX4_offer 2 = .ok (.bipush 99, 2) := by decide +kernel
theorem dX4_offer_4 : decode cX4_offer 4 = .ok (.invokestatic 103, 3) := by decide +kernel
theorem dX4_offer_7 : decode cX4_offer 7 = .ok (.ifCond .eq 28, 3) := by decide +kernel
theorem dX4_offer_10 : decode cX4_offer 10 = .ok (.iload_n 2, 1) := by decide +kernel
theorem dX4_offer_11 : decode cX4_offer 11 = .ok (.iconst 0, 1) := by decide +kernel
theorem dX4_offer_12 : decode cX4_offer 12 = .ok (.sipush 1000, 3) := by decide +kernel
theorem dX4_offer_15 : decode cX4_offer 15 = .ok (.invokestatic 103, 3) := by decide +kernel
theorem dX4_offer_18 : decode cX4_offer 18 = .ok (.ifCond .eq 17, 3) := by decide +kernel
theorem dX4_offer_21 : decode cX4_offer 21 = .ok (.iload_n 3, 1) := by decide +kernel
theorem dX4_offer_22 : decode cX4_offer 22 = .ok (.iconst 1, 1) := by decide +kernel
theorem dX4_offer_23 : decode cX4_offer 23 = .ok (.bipush 30, 2) := by decide +kernel
theorem dX4_offer_25 : decode cX4_offer 25 = .ok (.invokestatic 103, 3) := by decide +kernel
theorem dX4_offer_28 : decode cX4_offer 28 = .ok (.ifCond .eq 7, 3) := by decide +kernel
theorem dX4_offer_31 : decode cX4_offer 31 = .ok (.iconst 1, 1) := by decide +kernel
theorem dX4_offer_32 : decode cX4_offer 32 = .ok (.goto 4, 3) := by decide +kernel
theorem dX4_offer_35 : decode cX4_offer 35 = .ok (.iconst 0, 1) := by decide +kernel
theorem dX4_offer_36 : decode cX4_offer 36 = .ok (.istore 4, 2) := by decide +kernel
theorem dX4_offer_38 : decode cX4_offer 38 = .ok (.aload_n 0, 1) := by decide +kernel
theorem dX4_offer_39 : decode cX4_offer 39 = .ok (.iload 4, 2) := by decide +kernel
theorem dX4_offer_41 : decode cX4_offer 41 = .ok (.ifCond .ne 7, 3) := by decide +kernel
theorem dX4_offer_44 : decode cX4_offer 44 = .ok (.iconst 1, 1) := by decide +kernel
theorem dX4_offer_45 : decode cX4_offer 45 = .ok (.goto 17, 3) := by decide +kernel
theorem dX4_offer_48 : decode cX4_offer 48 = .ok (.aload_n 0, 1) := by decide +kernel
theorem dX4_offer_49 : decode cX4_offer 49 = .ok (.getfield 107, 3) := by decide +kernel
theorem dX4_offer_52 : decode cX4_offer 52 = .ok (.bipush 12, 2) := by decide +kernel
theorem dX4_offer_54 : decode cX4_offer 54 = .ok (.if_icmp .ne 7, 3) := by decide +kernel
theorem dX4_offer_57 : decode cX4_offer 57 = .ok (.iconst 2, 1) := by decide +kernel
theorem dX4_offer_58 : decode cX4_offer 58 = .ok (.goto 4, 3) := by decide +kernel
theorem dX4_offer_61 : decode cX4_offer 61 = .ok (.iconst 0, 1) := by decide +kernel
theorem dX4_offer_62 : decode cX4_offer 62 = .ok (.invokevirtual 118, 3) := by decide +kernel
theorem dX4_offer_65 : decode cX4_offer 65 = .ok (.ifCond .ne 5, 3) := by decide +kernel
