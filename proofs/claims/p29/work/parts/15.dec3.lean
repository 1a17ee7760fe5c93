theorem dX3_thingAt_31 : decode cX3_thingAt 31 = .ok (.invokevirtual 148, 3) := by decide +kernel
theorem dX3_thingAt_34 : decode cX3_thingAt 34 = .ok (.checkcast 294, 3) := by decide +kernel
theorem dX3_thingAt_37 : decode cX3_thingAt 37 = .ok (.areturn, 1) := by decide +kernel
theorem dX3_needRoom_0 : decode cX3_needRoom 0 = .ok (.aload_n 0, 1) := by decide +kernel
theorem dX3_needRoom_1 : decode cX3_needRoom 1 = .ok (.getfield 10, 3) := by decide +kernel
theorem dX3_needRoom_4 : decode cX3_needRoom 4 = .ok (.invokevirtual 81, 3) := by decide +kernel
theorem dX3_needRoom_7 : decode cX3_needRoom 7 = .ok (.iload_n 1, 1) := by decide +kernel
theorem dX3_needRoom_8 : decode cX3_needRoom 8 = .ok (.iadd, 1) := by decide +kernel
theorem dX3_needRoom_9 : decode cX3_needRoom 9 = .ok (.bipush 40, 2) := by decide +kernel
theorem dX3_needRoom_11 : decode cX3_needRoom 11 = .ok (.if_icmp .le 14, 3) := by decide +kernel
theorem dX3_needRoom_14 : decode cX3_needRoom 14 = .ok (.new 93, 3) := by decide +kernel
theorem dX3_needRoom_17 : decode cX3_needRoom 17 = .ok (.dup, 1) := by decide +kernel
theorem dX3_needRoom_18 : decode cX3_needRoom 18 = .ok (.ldc_w 379, 3) := by decide +kernel
theorem dX3_needRoom_21 : decode cX3_needRoom 21 = .ok (.invokespecial 97, 3) := by decide +kernel
theorem dX3_needRoom_24 : decode cX3_needRoom 24 = .ok (.athrow, 1) := by decide +kernel
theorem dX3_needRoom_25 : decode cX3_needRoom 25 = .ok (.return_, 1) := by decide +kernel
theorem dX3_needKind_0 : decode cX3_needKind 0 = .ok (.iload_n 0, 1) := by decide +kernel
theorem dX3_needKind_1 : decode cX3_needKind 1 = .ok (.ifCond .lt 8, 3) := by decide +kernel
theorem dX3_needKind_4 : decode cX3_needKind 4 = .ok (.iload_n 0, 1) := by decide +kernel
theorem dX3_needKind_5 : decode cX3_needKind 5 = .ok (.iconst 4, 1) := by decide +kernel
theorem dX3_needKind_6 : decode cX3_needKind 6 = .ok (.if_icmp .le 14, 3) := by decide +kernel
theorem dX3_needKind_9 : decode cX3_needKind 9 = .ok (.new 311, 3) := by decide +kernel
theorem dX3_needKind_12 : decode cX3_needKind 12 = .ok (.dup, 1) := by decide +kernel
theorem dX3_needKind_13 : decode cX3_needKind 13 = .ok (.ldc_w 381, 3) := by decide +kernel
theorem dX3_needKind_16 : decode cX3_needKind 16 = .ok (.invokespecial 315, 3) := by decide +kernel
theorem dX3_needKind_19 : decode cX3_needKind 19 = .ok (.athrow, 1) := by decide +kernel
theorem dX3_needKind_20 : decode cX3_needKind 20 = .ok (.return_, 1) := by decide +kernel
theorem dX3_needRange_0 : decode cX3_needRange 0 = .ok (.iload_n 0, 1) := by decide +kernel
theorem dX3_needRange_1 : decode cX3_needRange 1 = .ok (.iload_n 1, 1) := by decide +kernel
theorem dX3_needRange_2 : decode cX3_needRange 2 = .ok (.if_icmp .lt 8, 3) := by decide +kernel
theorem dX3_needRange_5 : decode cX3_needRange 5 = .ok (.iload_n 0, 1) := by decide +kernel
theorem dX3_needRange_6 : decode cX3_needRange 6 = .ok (.iload_n 2, 1) := by decide +kernel
theorem dX3_needRange_7 : decode cX3_needRange 7 = .ok (.if_icmp .le 14, 3) := by decide +kernel
theorem dX3_needRange_10 : decode cX3_needRange 10 = .ok (.new 363, 3) := by decide +kernel
theorem dX3_needRange_13 : decode cX3_needRange 13 = .ok (.dup, 1) := by decide +kernel
theorem dX3_needRange_14 : decode cX3_needRange 14 = .ok (.ldc_w 383, 3) := by decide +kernel
theorem dX3_needRange_17 : decode cX3_needRange 17 = .ok (.invokespecial 367, 3) := by decide +kernel
theorem dX3_needRange_20 : decode cX3_needRange 20 = .ok (.athrow, 1) := by decide +kernel
theorem dX3_needRange_21 : decode cX3_needRange 21 = .ok (.return_, 1) := by decide +kernel
theorem dX3_hasBit_0 : decode cX3_hasBit 0 = .ok (.lload_n 0, 1) := by decide +kernel
theorem dX3_hasBit_1 : decode cX3_hasBit 1 = .ok (.iload_n 2, 1) := by decide +kernel
theorem dX3_hasBit_2 : decode cX3_hasBit 2 = .ok (.lshr, 1) := by decide +kernel
theorem dX3_hasBit_3 : decode cX3_hasBit 3 = .ok (.lconst 1, 1) := by decide +kernel
theorem dX3_hasBit_4 : decode cX3_hasBit 4 = .ok (.land, 1) := by decide +kernel
theorem dX3_hasBit_5 : decode cX3_hasBit 5 = .ok (.lconst 1, 1) := by decide +kernel
theorem dX3_hasBit_6 : decode cX3_hasBit 6 = .ok (.lcmp, 1) := by decide +kernel
theorem dX3_hasBit_7 : decode cX3_hasBit 7 = .ok (.ifCond .ne 7, 3) := by decide +kernel
theorem dX3_hasBit_10 : decode cX3_hasBit 10 = .ok (.iconst 1, 1) := by decide +kernel
theorem dX3_hasBit_11 : decode cX3_hasBit 11 = .ok (.goto 4, 3) := by decide +kernel
theorem dX3_hasBit_14 : decode cX3_hasBit 14 = .ok (.iconst 0, 1) := by decide +kernel
theorem dX3_hasBit_15 : decode cX3_hasBit 15 = .ok (.ireturn, 1) := by decide +kernel
theorem dX3_withBit_0 : decode cX3_withBit 0 = .ok (.iload_n 2, 1) := by decide +kernel
theorem dX3_withBit_1 : decode cX3_withBit 1 = .ok (.ifCond .eq 11, 3) := by decide +kernel
theorem dX3_withBit_4 : decode cX3_withBit 4 = .ok (.iload_n 0, 1) := by decide +kernel
theorem dX3_withBit_5 : decode cX3_withBit 5 = .ok (.iconst 1, 1) := by decide +kernel
theorem dX3_withBit_6 : decode cX3_withBit 6 = .ok (.iload_n 1, 1) := by decide +kernel
theorem dX3_withBit_7 : decode cX3_withBit 7 = .ok (.ishl, 1) := by decide +kernel
theorem dX3_withBit_8 : decode cX3_withBit 8 = .ok (.ior, 1) := by decide +kernel
theorem dX3_withBit_9 : decode cX3_withBit 9 = .ok (.goto 10, 3) := by decide +kernel
theorem dX3_withBit_12 : decode cX3_withBit 12 = .ok (.iload_n 0, 1) := by decide +kernel
theorem dX3_withBit_13 : decode cX3_withBit 13 = .ok (.iconst 1, 1) := by decide +kernel
theorem dX3_withBit_14 : decode cX3_withBit 14 = .ok (.iload_n 1, 1) := by decide +kernel
theorem dX3_withBit_15 : decode cX3_withBit 15 = .ok (.ishl, 1) := by decide +kernel
theorem dX3_withBit_16 : decode cX3_withBit 16 = .ok (.iconst (-1), 1) := by decide +kernel
theorem dX3_withBit_17 : decode cX3_withBit 17 = .ok (.ixor, 1) := by decide +kernel
theorem dX3_withBit_18 : decode cX3_withBit 18 = .ok (.iand, 1) := by decide +kernel
theorem dX3_withBit_19 : decode cX3_withBit 19 = .ok (.ireturn, 1) := by decide +kernel
theorem dX3_quotient_0 : decode cX3_quotient 0 = .ok (.lload_n 2, 1) := by decide +kernel
theorem dX3_quotient_1 : decode cX3_quotient 1 = .ok (.lconst 0, 1) := by decide +kernel
theorem dX3_quotient_2 : decode cX3_quotient 2 = .ok (.lcmp, 1) := by decide +kernel
theorem dX3_quotient_3 : decode cX3_quotient 3 = .ok (.ifCond .ne 7, 3) := by decide +kernel
theorem dX3_quotient_6 : decode cX3_quotient 6 = .ok (.lconst 0, 1) := by decide +kernel
theorem dX3_quotient_7 : decode cX3_quotient 7 = .ok (.goto 8, 3) := by decide +kernel
theorem dX3_quotient_10 : decode cX3_quotient 10 = .ok (.lload_n 0, 1) := by decide +kernel
theorem dX3_quotient_11 : decode cX3_quotient 11 = .ok (.lload_n 2, 1) := by decide +kernel
theorem dX3_quotient_12 : decode cX3_quotient 12 = .ok (.invokestatic 385, 3) := by decide +kernel
theorem dX3_quotient_15 : decode cX3_quotient 15 = .ok (.lreturn, 1) := by decide +kernel
theorem dX3_couponOf_0 : decode cX3_couponOf 0 = .ok (.lload_n 0, 1) := by decide +kernel
theorem dX3_couponOf_1 : decode cX3_couponOf 1 = .ok (.iload_n 2, 1) := by decide +kernel
theorem dX3_couponOf_2 : decode cX3_couponOf 2 = .ok (.i2l, 1) := by decide +kernel
theorem dX3_couponOf_3 : decode cX3_couponOf 3 = .ok (.lmul, 1) := by decide +kernel
theorem dX3_couponOf_4 : decode cX3_couponOf 4 = .ok (.ldc2_w 146, 3) := by decide +kernel
theorem dX3_couponOf_7 : decode cX3_couponOf 7 = .ok (.invokestatic 142, 3) := by decide +kernel
theorem dX3_couponOf_10 : decode cX3_couponOf 10 = .ok (.lreturn, 1) := by decide +kernel
theorem dX3_discounted_0 : decode cX3_discounted 0 = .ok (.lconst 0, 1) := by decide +kernel
theorem dX3_discounted_1 : decode cX3_discounted 1 = .ok (.lstore 5, 2) := by decide +kernel
theorem dX3_discounted_3 : decode cX3_discounted 3 = .ok (.lload_n 0, 1) := by decide +kernel
theorem dX3_discounted_4 : decode cX3_discounted 4 = .ok (.lload_n 0, 1) := by decide +kernel
theorem dX3_discounted_5 : decode cX3_discounted 5 = .ok (.iload_n 2, 1) := by decide +kernel
theorem dX3_discounted_6 : decode cX3_discounted 6 = .ok (.invokestatic 388, 3) := by decide +kernel
theorem dX3_discounted_9 : decode cX3_discounted 9 = .ok (.ladd, 1) := by decide +kernel
theorem dX3_discounted_10 : decode cX3_discounted 10 = .ok (.lstore 7, 2) := by decide +kernel
theorem dX3_discounted_12 : decode cX3_discounted 12 = .ok (.iload_n 3, 1) := by decide +kernel
theorem dX3_discounted_13 : decode cX3_discounted 13 = .ok (.istore 9, 2) := by decide +kernel
theorem dX3_discounted_15 : decode cX3_discounted 15 = .ok (.iload 9, 2) := by decide +kernel
theorem dX3_discounted_17 : decode cX3_discounted 17 = .ok (.ifCond .le 37, 3) := by decide +kernel
theorem dX3_discounted_20 : decode cX3_discounted 20 = .ok (.lload 5, 2) := by decide +kernel
theorem dX3_discounted_22 : decode cX3_discounted 22 = .ok (.lload 7, 2) := by decide +kernel
theorem dX3_discounted_24 : decode cX3_discounted 24 = .ok (.ladd, 1) := by decide +kernel
theorem dX3_discounted_25 : decode cX3_discounted 25 = .ok (.ldc2_w 146, 3) := by decide +kernel
theorem dX3_discounted_28 : decode cX3_discounted 28 = .ok (.lmul, 1) := by decide +kernel
theorem dX3_discounted_29 : decode cX3_discounted 29 = .ok (.sipush 10000, 3) := by decide +kernel
theorem dX3_discounted_32 : decode cX3_discounted 32 = .ok (.iload 4, 2) := by decide +kernel
theorem dX3_discounted_34 : decode cX3_discounted 34 = .ok (.iadd, 1) := by decide +kernel
theorem dX3_discounted_35 : decode cX3_discounted 35 = .ok (.i2l, 1) := by decide +kernel
theorem dX3_discounted_36 : decode cX3_discounted 36 = .ok (.invokestatic 142, 3) := by decide +kernel
theorem dX3_discounted_39 : decode cX3_discounted 39 = .ok (.lstore 5, 2) := by decide +kernel
theorem dX3_discounted_41 : decode cX3_discounted 41 = .ok (.lload_n 0, 1) := by decide +kernel
theorem dX3_discounted_42 : decode cX3_discounted 42 = .ok (.iload_n 2, 1) := by decide +kernel
theorem dX3_discounted_43 : decode cX3_discounted 43 = .ok (.invokestatic 388, 3) := by decide +kernel
theorem dX3_discounted_46 : decode cX3_discounted 46 = .ok (.lstore 7, 2) := by decide +kernel
theorem dX3_discounted_48 : decode cX3_discounted 48 = .ok (.iinc 9 (-1), 3) := by decide +kernel
theorem dX3_discounted_51 : decode cX3_discounted 51 = .ok (.goto (-36), 3) := by decide +kernel
theorem dX3_discounted_54 : decode cX3_discounted 54 = .ok (.lload 5, 2) := by decide +kernel
theorem dX3_discounted_56 : decode cX3_discounted 56 = .ok (.lreturn, 1) := by decide +kernel
theorem dJ9_floorDiv_f86c9_0 : decode cJ9_floorDiv_f86c9 0 = .ok (.lload_n 0, 1) := by decide +kernel
theorem dJ9_floorDiv_f86c9_1 : decode cJ9_floorDiv_f86c9 1 = .ok (.lload_n 2, 1) := by decide +kernel
theorem dJ9_floorDiv_f86c9_2 : decode cJ9_floorDiv_f86c9 2 = .ok (.ldiv, 1) := by decide +kernel
theorem dJ9_floorDiv_f86c9_3 : decode cJ9_floorDiv_f86c9 3 = .ok (.lstore 4, 2) := by decide +kernel
theorem dJ9_floorDiv_f86c9_5 : decode cJ9_floorDiv_f86c9 5 = .ok (.lload_n 0, 1) := by decide +kernel
theorem dJ9_floorDiv_f86c9_6 : decode cJ9_floorDiv_f86c9 6 = .ok (.lload_n 2, 1) := by decide +kernel
theorem dJ9_floorDiv_f86c9_7 : decode cJ9_floorDiv_f86c9 7 = .ok (.lxor, 1) := by decide +kernel
theorem dJ9_floorDiv_f86c9_8 : decode cJ9_floorDiv_f86c9 8 = .ok (.lconst 0, 1) := by decide +kernel
theorem dJ9_floorDiv_f86c9_9 : decode cJ9_floorDiv_f86c9 9 = .ok (.lcmp, 1) := by decide +kernel
theorem dJ9_floorDiv_f86c9_10 : decode cJ9_floorDiv_f86c9 10 = .ok (.ifCond .ge 17, 3) := by decide +kernel
theorem dJ9_floorDiv_f86c9_13 : decode cJ9_floorDiv_f86c9 13 = .ok (.lload 4, 2) := by decide +kernel
theorem dJ9_floorDiv_f86c9_15 : decode cJ9_floorDiv_f86c9 15 = .ok (.lload_n 2, 1) := by decide +kernel
theorem dJ9_floorDiv_f86c9_16 : decode cJ9_floorDiv_f86c9 16 = .ok (.lmul, 1) := by decide +kernel
theorem dJ9_floorDiv_f86c9_17 : decode cJ9_floorDiv_f86c9 17 = .ok (.lload_n 0, 1) := by decide +kernel
theorem dJ9_floorDiv_f86c9_18 : decode cJ9_floorDiv_f86c9 18 = .ok (.lcmp, 1) := by decide +kernel
theorem dJ9_floorDiv_f86c9_19 : decode cJ9_floorDiv_f86c9 19 = .ok (.ifCond .eq 8, 3) := by decide +kernel
theorem dJ9_floorDiv_f86c9_22 : decode cJ9_floorDiv_f86c9 22 = .ok (.lload 4, 2) := by decide +kernel
theorem dJ9_floorDiv_f86c9_24 : decode cJ9_floorDiv_f86c9 24 = .ok (.lconst 1, 1) := by decide +kernel
theorem dJ9_floorDiv_f86c9_25 : decode cJ9_floorDiv_f86c9 25 = .ok (.lsub, 1) := by decide +kernel
theorem dJ9_floorDiv_f86c9_26 : decode cJ9_floorDiv_f86c9 26 = .ok (.lreturn, 1) := by decide +kernel
theorem dJ9_floorDiv_f86c9_27 : decode cJ9_floorDiv_f86c9 27 = .ok (.lload 4, 2) := by decide +kernel
theorem dJ9_floorDiv_f86c9_29 : decode cJ9_floorDiv_f86c9 29 = .ok (.lreturn, 1) := by decide +kernel
theorem dJ9_max_7cf53_0 : decode cJ9_max_7cf53 0 = .ok (.iload_n 0, 1) := by decide +kernel
theorem dJ9_max_7cf53_1 : decode cJ9_max_7cf53 1 = .ok (.iload_n 1, 1) := by decide +kernel
theorem dJ9_max_7cf53_2 : decode cJ9_max_7cf53 2 = .ok (.if_icmp .lt 7, 3) := by decide +kernel
theorem dJ9_max_7cf53_5 : decode cJ9_max_7cf53 5 = .ok (.iload_n 0, 1) := by decide +kernel
theorem dJ9_max_7cf53_6 : decode cJ9_max_7cf53 6 = .ok (.goto 4, 3) := by decide +kernel
theorem dJ9_max_7cf53_9 : decode cJ9_max_7cf53 9 = .ok (.iload_n 1, 1) := by decide +kernel
theorem dJ9_max_7cf53_10 : decode cJ9_max_7cf53 10 = .ok (.ireturn, 1) := by decide +kernel
theorem dJ9_max_f86c9_0 : decode cJ9_max_f86c9 0 = .ok (.lload_n 0, 1) := by decide +kernel
theorem dJ9_max_f86c9_1 : decode cJ9_max_f86c9 1 = .ok (.lload_n 2, 1) := by decide +kernel
theorem dJ9_max_f86c9_2 : decode cJ9_max_f86c9 2 = .ok (.lcmp, 1) := by decide +kernel
theorem dJ9_max_f86c9_3 : decode cJ9_max_f86c9 3 = .ok (.ifCond .lt 7, 3) := by decide +kernel
theorem dJ9_max_f86c9_6 : decode cJ9_max_f86c9 6 = .ok (.lload_n 0, 1) := by decide +kernel
theorem dJ9_max_f86c9_7 : decode cJ9_max_f86c9 7 = .ok (.goto 4, 3) := by decide +kernel
theorem dJ9_max_f86c9_10 : decode cJ9_max_f86c9 10 = .ok (.lload_n 2, 1) := by decide +kernel
theorem dJ9_max_f86c9_11 : decode cJ9_max_f86c9 11 = .ok (.lreturn, 1) := by decide +kernel
theorem dJ9_min_7cf53_0 : decode cJ9_min_7cf53 0 = .ok (.iload_n 0, 1) := by decide +kernel
theorem dJ9_min_7cf53_1 : decode cJ9_min_7cf53 1 = .ok (.iload_n 1, 1) := by decide +kernel
theorem dJ9_min_7cf53_2 : decode cJ9_min_7cf53 2 = .ok (.if_icmp .gt 7, 3) := by decide +kernel
theorem dJ9_min_7cf53_5 : decode cJ9_min_7cf53 5 = .ok (.iload_n 0, 1) := by decide +kernel
theorem dJ9_min_7cf53_6 : decode cJ9_min_7cf53 6 = .ok (.goto 4, 3) := by decide +kernel
theorem dJ9_min_7cf53_9 : decode cJ9_min_7cf53 9 = .ok (.iload_n 1, 1) := by decide +kernel
theorem dJ9_min_7cf53_10 : decode cJ9_min_7cf53 10 = .ok (.ireturn, 1) := by decide +kernel
theorem dJ9_min_f86c9_0 : decode cJ9_min_f86c9 0 = .ok (.lload_n 0, 1) := by decide +kernel
theorem dJ9_min_f86c9_1 : decode cJ9_min_f86c9 1 = .ok (.lload_n 2, 1) := by decide +kernel
theorem dJ9_min_f86c9_2 : decode cJ9_min_f86c9 2 = .ok (.lcmp, 1) := by decide +kernel
theorem dJ9_min_f86c9_3 : decode cJ9_min_f86c9 3 = .ok (.ifCond .gt 7, 3) := by decide +kernel
theorem dJ9_min_f86c9_6 : decode cJ9_min_f86c9 6 = .ok (.lload_n 0, 1) := by decide +kernel
theorem dJ9_min_f86c9_7 : decode cJ9_min_f86c9 7 = .ok (.goto 4, 3) := by decide +kernel
theorem dJ9_min_f86c9_10 : decode cJ9_min_f86c9 10 = .ok (.lload_n 2, 1) := by decide +kernel
theorem dJ9_min_f86c9_11 : decode cJ9_min_f86c9 11 = .ok (.lreturn, 1) := by decide +kernel
theorem dJxa1e45_init_da8c8_0 : decode cJxa1e45_init_da8c8 0 = .ok (.aload_n 0, 1) := by decide +kernel
theorem dJxa1e45_init_da8c8_1 : decode cJxa1e45_init_da8c8 1 = .ok (.invokespecial 1, 3) := by decide +kernel
theorem dJxa1e45_init_da8c8_4 : decode cJxa1e45_init_da8c8 4 = .ok (.return_, 1) := by decide +kernel
theorem dJxc12de_init_da8c8_0 : decode cJxc12de_init_da8c8 0 = .ok (.aload_n 0, 1) := by decide +kernel
theorem dJxc12de_init_da8c8_1 : decode cJxc12de_init_da8c8 1 = .ok (.invokespecial 1, 3) := by decide +kernel
theorem dJxc12de_init_da8c8_4 : decode cJxc12de_init_da8c8 4 = .ok (.aload_n 0, 1) := by decide +kernel
theorem dJxc12de_init_da8c8_5 : decode cJxc12de_init_da8c8 5 = .ok (.iconst 0, 1) := by decide +kernel
theorem dJxc12de_init_da8c8_6 : decode cJxc12de_init_da8c8 6 = .ok (.putfield 7, 3) := by decide +kernel
theorem dJxc12de_init_da8c8_9 : decode cJxc12de_init_da8c8 9 = .ok (.return_, 1) := by decide +kernel
theorem dJx4a65c_init_da8c8_0 : decode cJx4a65c_init_da8c8 0 = .ok (.aload_n 0, 1) := by decide +kernel
theorem dJx4a65c_init_da8c8_1 : decode cJx4a65c_init_da8c8 1 = .ok (.invokespecial 1, 3) := by decide +kernel
theorem dJx4a65c_init_da8c8_4 : decode cJx4a65c_init_da8c8 4 = .ok (.aload_n 0, 1) := by decide +kernel
theorem dJx4a65c_init_da8c8_5 : decode cJx4a65c_init_da8c8 5 = .ok (.getstatic 39, 3) := by decide +kernel
theorem dJx4a65c_init_da8c8_8 : decode cJx4a65c_init_da8c8 8 = .ok (.putfield 9, 3) := by decide +kernel
theorem dJx4a65c_init_da8c8_11 : decode cJx4a65c_init_da8c8 11 = .ok (.return_, 1) := by decide +kernel
theorem dJx4a65c_grow_92f84_0 : decode cJx4a65c_grow_92f84 0 = .ok (.aload_n 0, 1) := by decide +kernel
theorem dJx4a65c_grow_92f84_1 : decode cJx4a65c_grow_92f84 1 = .ok (.getfield 9, 3) := by decide +kernel
theorem dJx4a65c_grow_92f84_4 : decode cJx4a65c_grow_92f84 4 = .ok (.arraylength, 1) := by decide +kernel
theorem dJx4a65c_grow_92f84_5 : decode cJx4a65c_grow_92f84 5 = .ok (.istore_n 2, 1) := by decide +kernel
theorem dJx4a65c_grow_92f84_6 : decode cJx4a65c_grow_92f84 6 = .ok (.iload_n 2, 1) := by decide +kernel
theorem dJx4a65c_grow_92f84_7 : decode cJx4a65c_grow_92f84 7 = .ok (.ifCond .gt 13, 3) := by decide +kernel
theorem dJx4a65c_grow_92f84_10 : decode cJx4a65c_grow_92f84 10 = .ok (.aload_n 0, 1) := by decide +kernel
theorem dJx4a65c_grow_92f84_11 : decode cJx4a65c_grow_92f84 11 = .ok (.getfield 9, 3) := by decide +kernel
theorem dJx4a65c_grow_92f84_14 : decode cJx4a65c_grow_92f84 14 = .ok (.getstatic 39, 3) := by decide +kernel
theorem dJx4a65c_grow_92f84_17 : decode cJx4a65c_grow_92f84 17 = .ok (.if_acmp .eq 28, 3) := by decide +kernel
theorem dJx4a65c_grow_92f84_20 : decode cJx4a65c_grow_92f84 20 = .ok (.iload_n 2, 1) := by decide +kernel
theorem dJx4a65c_grow_92f84_21 : decode cJx4a65c_grow_92f84 21 = .ok (.iload_n 1, 1) := by decide +kernel
theorem dJx4a65c_grow_92f84_22 : decode cJx4a65c_grow_92f84 22 = .ok (.iload_n 2, 1) := by decide +kernel
theorem dJx4a65c_grow_92f84_23 : decode cJx4a65c_grow_92f84 23 = .ok (.isub, 1) := by decide +kernel
theorem dJx4a65c_grow_92f84_24 : decode cJx4a65c_grow_92f84 24 = .ok (.iload_n 2, 1) := by decide +kernel
theorem dJx4a65c_grow_92f84_25 : decode cJx4a65c_grow_92f84 25 = .ok (.iconst 1, 1) := by decide +kernel
theorem dJx4a65c_grow_92f84_26 : decode cJx4a65c_grow_92f84 26 = .ok (.ishr, 1) := by decide +kernel
theorem dJx4a65c_grow_92f84_27 : decode cJx4a65c_grow_92f84 27 = .ok (.invokestatic 73, 3) := by decide +kernel
theorem dJx4a65c_grow_92f84_30 : decode cJx4a65c_grow_92f84 30 = .ok (.istore_n 3, 1) := by decide +kernel
theorem dJx4a65c_grow_92f84_31 : decode cJx4a65c_grow_92f84 31 = .ok (.aload_n 0, 1) := by decide +kernel
theorem dJx4a65c_grow_92f84_32 : decode cJx4a65c_grow_92f84 32 = .ok (.aload_n 0, 1) := by decide +kernel
theorem dJx4a65c_grow_92f84_33 : decode cJx4a65c_grow_92f84 33 = .ok (.getfield 9, 3) := by decide +kernel
theorem dJx4a65c_grow_92f84_36 : decode cJx4a65c_grow_92f84 36 = .ok (.iload_n 3, 1) := by decide +kernel
theorem dJx4a65c_grow_92f84_37 : decode cJx4a65c_grow_92f84 37 = .ok (.invokestatic 66, 3) := by decide +kernel
theorem dJx4a65c_grow_92f84_40 : decode cJx4a65c_grow_92f84 40 = .ok (.dup_x1, 1) := by decide +kernel
theorem dJx4a65c_grow_92f84_41 : decode cJx4a65c_grow_92f84 41 = .ok (.putfield 9, 3) := by decide +kernel
theorem dJx4a65c_grow_92f84_44 : decode cJx4a65c_grow_92f84 44 = .ok (.areturn, 1) := by decide +kernel
theorem dJx4a65c_grow_92f84_45 : decode cJx4a65c_grow_92f84 45 = .ok (.aload_n 0, 1) := by decide +kernel
theorem dJx4a65c_grow_92f84_46 : decode cJx4a65c_grow_92f84 46 = .ok (.bipush 10, 2) := by decide +kernel
theorem dJx4a65c_grow_92f84_48 : decode cJx4a65c_grow_92f84 48 = .ok (.iload_n 1, 1) := by decide +kernel
theorem dJx4a65c_grow_92f84_49 : decode cJx4a65c_grow_92f84 49 = .ok (.invokestatic 79, 3) := by decide +kernel
theorem dJx4a65c_grow_92f84_52 : decode cJx4a65c_grow_92f84 52 = .ok (.anewarray 7, 3) := by decide +kernel
theorem dJx4a65c_grow_92f84_55 : decode cJx4a65c_grow_92f84 55 = .ok (.dup_x1, 1) := by decide +kernel
theorem dJx4a65c_grow_92f84_56 : decode cJx4a65c_grow_92f84 56 = .ok (.putfield 9, 3) := by decide +kernel
theorem dJx4a65c_grow_92f84_59 : decode cJx4a65c_grow_92f84 59 = .ok (.areturn, 1) := by decide +kernel
theorem dJx4a65c_grow_d5877_0 : decode cJx4a65c_grow_d5877 0 = .ok (.aload_n 0, 1) := by decide +kernel
theorem dJx4a65c_grow_d5877_1 : decode cJx4a65c_grow_d5877 1 = .ok (.aload_n 0, 1) := by decide +kernel
theorem dJx4a65c_grow_d5877_2 : decode cJx4a65c_grow_d5877 2 = .ok (.getfield 48, 3) := by decide +kernel
theorem dJx4a65c_grow_d5877_5 : decode cJx4a65c_grow_d5877 5 = .ok (.iconst 1, 1) := by decide +kernel
theorem dJx4a65c_grow_d5877_6 : decode cJx4a65c_grow_d5877 6 = .ok (.iadd, 1) := by decide +kernel
theorem dJx4a65c_grow_d5877_7 : decode cJx4a65c_grow_d5877 7 = .ok (.invokevirtual 69, 3) := by decide +kernel
theorem dJx4a65c_grow_d5877_10 : decode cJx4a65c_grow_d5877 10 = .ok (.areturn, 1) := by decide +kernel
theorem dJx4a65c_size_8abf5_0 : decode cJx4a65c_size_8abf5 0 = .ok (.aload_n 0, 1) := by decide +kernel
theorem dJx4a65c_size_8abf5_1 : decode cJx4a65c_size_8abf5 1 = .ok (.getfield 48, 3) := by decide +kernel
theorem dJx4a65c_size_8abf5_4 : decode cJx4a65c_size_8abf5 4 = .ok (.ireturn, 1) := by decide +kernel
theorem dJx4a65c_elementData_915e3_0 : decode cJx4a65c_elementData_915e3 0 = .ok (.aload_n 0, 1) := by decide +kernel
theorem dJx4a65c_elementData_915e3_1 : decode cJx4a65c_elementData_915e3 1 = .ok (.getfield 9, 3) := by decide +kernel
theorem dJx4a65c_elementData_915e3_4 : decode cJx4a65c_elementData_915e3 4 = .ok (.iload_n 1, 1) := by decide +kernel
theorem dJx4a65c_elementData_915e3_5 : decode cJx4a65c_elementData_915e3 5 = .ok (.aaload, 1) := by decide +kernel
theorem dJx4a65c_elementData_915e3_6 : decode cJx4a65c_elementData_915e3 6 = .ok (.areturn, 1) := by decide +kernel
theorem dJx4a65c_get_915e3_0 : decode cJx4a65c_get_915e3 0 = .ok (.iload_n 1, 1) := by decide +kernel
theorem dJx4a65c_get_915e3_1 : decode cJx4a65c_get_915e3 1 = .ok (.aload_n 0, 1) := by decide +kernel
theorem dJx4a65c_get_915e3_2 : decode cJx4a65c_get_915e3 2 = .ok (.getfield 48, 3) := by decide +kernel
theorem dJx4a65c_get_915e3_5 : decode cJx4a65c_get_915e3 5 = .ok (.invokestatic 118, 3) := by decide +kernel
theorem dJx4a65c_get_915e3_8 : decode cJx4a65c_get_915e3 8 = .ok (.pop, 1) := by decide +kernel
theorem dJx4a65c_get_915e3_9 : decode cJx4a65c_get_915e3 9 = .ok (.aload_n 0, 1) := by decide +kernel
theorem dJx4a65c_get_915e3_10 : decode cJx4a65c_get_915e3 10 = .ok (.iload_n 1, 1) := by decide +kernel
theorem dJx4a65c_get_915e3_11 : decode cJx4a65c_get_915e3 11 = .ok (.invokevirtual 123, 3) := by decide +kernel
theorem dJx4a65c_get_915e3_14 : decode cJx4a65c_get_915e3 14 = .ok (.areturn, 1) := by decide +kernel
theorem dJx4a65c_add_72be8_0 : decode cJx4a65c_add_72be8 0 = .ok (.iload_n 3, 1) := by decide +kernel
theorem dJx4a65c_add_72be8_1 : decode cJx4a65c_add_72be8 1 = .ok (.aload_n 2, 1) := by decide +kernel
theorem dJx4a65c_add_72be8_2 : decode cJx4a65c_add_72be8 2 = .ok (.arraylength, 1) := by decide +kernel
theorem dJx4a65c_add_72be8_3 : decode cJx4a65c_add_72be8 3 = .ok (.if_icmp .ne 8, 3) := by decide +kernel
theorem dJx4a65c_add_72be8_6 : decode cJx4a65c_add_72be8 6 = .ok (.aload_n 0, 1) := by decide +kernel
theorem dJx4a65c_add_72be8_7 : decode cJx4a65c_add_72be8 7 = .ok (.invokevirtual 129, 3) := by decide +kernel
theorem dJx4a65c_add_72be8_10 : decode cJx4a65c_add_72be8 10 = .ok (.astore_n 2, 1) := by decide +kernel
theorem dJx4a65c_add_72be8_11 : decode cJx4a65c_add_72be8 11 = .ok (.aload_n 2, 1) := by decide +kernel
theorem dJx4a65c_add_72be8_12 : decode cJx4a65c_add_72be8 12 = .ok (.iload_n 3, 1) := by decide +kernel
theorem dJx4a65c_add_72be8_13 : decode cJx4a65c_add_72be8 13 = .ok (.aload_n 1, 1) := by decide +kernel
theorem dJx4a65c_add_72be8_14 : decode cJx4a65c_add_72be8 14 = .ok (.aastore, 1) := by decide +kernel
theorem dJx4a65c_add_72be8_15 : decode cJx4a65c_add_72be8 15 = .ok (.aload_n 0, 1) := by decide +kernel
theorem dJx4a65c_add_72be8_16 : decode cJx4a65c_add_72be8 16 = .ok (.iload_n 3, 1) := by decide +kernel
theorem dJx4a65c_add_72be8_17 : decode cJx4a65c_add_72be8 17 = .ok (.iconst 1, 1) := by decide +kernel
theorem dJx4a65c_add_72be8_18 : decode cJx4a65c_add_72be8 18 = .ok (.iadd, 1) := by decide +kernel
theorem dJx4a65c_add_72be8_19 : decode cJx4a65c_add_72be8 19 = .ok (.putfield 48, 3) := by decide +kernel
theorem dJx4a65c_add_72be8_22 : decode cJx4a65c_add_72be8 22 = .ok (.return_, 1) := by decide +kernel
theorem dJx4a65c_add_9ea2d_0 : decode cJx4a65c_add_9ea2d 0 = .ok (.aload_n 0, 1) := by decide +kernel
theorem dJx4a65c_add_9ea2d_1 : decode cJx4a65c_add_9ea2d 1 = .ok (.dup, 1) := by decide +kernel
theorem dJx4a65c_add_9ea2d_2 : decode cJx4a65c_add_9ea2d 2 = .ok (.getfield 63, 3) := by decide +kernel
theorem dJx4a65c_add_9ea2d_5 : decode cJx4a65c_add_9ea2d 5 = .ok (.iconst 1, 1) := by decide +kernel
theorem dJx4a65c_add_9ea2d_6 : decode cJx4a65c_add_9ea2d 6 = .ok (.iadd, 1) := by decide +kernel
theorem dJx4a65c_add_9ea2d_7 : decode cJx4a65c_add_9ea2d 7 = .ok (.putfield 63, 3) := by decide +kernel
theorem dJx4a65c_add_9ea2d_10 : decode cJx4a65c_add_9ea2d 10 = .ok (.aload_n 0, 1) := by decide +kernel
theorem dJx4a65c_add_9ea2d_11 : decode cJx4a65c_add_9ea2d 11 = .ok (.aload_n 1, 1) := by decide +kernel
theorem dJx4a65c_add_9ea2d_12 : decode cJx4a65c_add_9ea2d 12 = .ok (.aload_n 0, 1) := by decide +kernel
theorem dJx4a65c_add_9ea2d_13 : decode cJx4a65c_add_9ea2d 13 = .ok (.getfield 9, 3) := by decide +kernel
theorem dJx4a65c_add_9ea2d_16 : decode cJx4a65c_add_9ea2d 16 = .ok (.aload_n 0, 1) := by decide +kernel
theorem dJx4a65c_add_9ea2d_17 : decode cJx4a65c_add_9ea2d 17 = .ok (.getfield 48, 3) := by decide +kernel
theorem dJx4a65c_add_9ea2d_20 : decode cJx4a65c_add_9ea2d 20 = .ok (.invokevirtual 131, 3) := by decide +kernel
theorem dJx4a65c_add_9ea2d_23 : decode cJx4a65c_add_9ea2d 23 = .ok (.iconst 1, 1) := by decide +kernel
theorem dJx4a65c_add_9ea2d_24 : decode cJx4a65c_add_9ea2d 24 = .ok (.ireturn, 1) := by decide +kernel
theorem dJ7_copyOf_1904c_0 : decode cJ7_copyOf_1904c 0 = .ok (.aload_n 0, 1) := by decide +kernel
theorem dJ7_copyOf_1904c_1 : decode cJ7_copyOf_1904c 1 = .ok (.iload_n 1, 1) := by decide +kernel
theorem dJ7_copyOf_1904c_2 : decode cJ7_copyOf_1904c 2 = .ok (.aload_n 0, 1) := by decide +kernel
theorem dJ7_copyOf_1904c_3 : decode cJ7_copyOf_1904c 3 = .ok (.invokevirtual 86, 3) := by decide +kernel
theorem dJ7_copyOf_1904c_6 : decode cJ7_copyOf_1904c 6 = .ok (.invokestatic 300, 3) := by decide +kernel
theorem dJ7_copyOf_1904c_9 : decode cJ7_copyOf_1904c 9 = .ok (.areturn, 1) := by decide +kernel
theorem dJ7_copyOf_6403c_0 : decode cJ7_copyOf_6403c 0 = .ok (.aload_n 2, 1) := by decide +kernel
theorem dJ7_copyOf_6403c_1 : decode cJ7_copyOf_6403c 1 = .ok (.ldc 110, 2) := by decide +kernel
theorem dJ7_copyOf_6403c_3 : decode cJ7_copyOf_6403c 3 = .ok (.if_acmp .ne 10, 3) := by decide +kernel
theorem dJ7_copyOf_6403c_6 : decode cJ7_copyOf_6403c 6 = .ok (.iload_n 1, 1) := by decide +kernel
theorem dJ7_copyOf_6403c_7 : decode cJ7_copyOf_6403c 7 = .ok (.anewarray 2, 3) := by decide +kernel
theorem dJ7_copyOf_6403c_10 : decode cJ7_copyOf_6403c 10 = .ok (.goto 14, 3) := by decide +kernel
theorem dJ7_copyOf_6403c_13 : decode cJ7_copyOf_6403c 13 = .ok (.aload_n 2, 1) := by decide +kernel
theorem dJ7_copyOf_6403c_14 : decode cJ7_copyOf_6403c 14 = .ok (.invokevirtual 90, 3) := by decide +kernel
theorem dJ7_copyOf_6403c_17 : decode cJ7_copyOf_6403c 17 = .ok (.iload_n 1, 1) := by decide +kernel
theorem dJ7_copyOf_6403c_18 : decode cJ7_copyOf_6403c 18 = .ok (.invokestatic 95, 3) := by decide +kernel
theorem dJ7_copyOf_6403c_21 : decode cJ7_copyOf_6403c 21 = .ok (.checkcast 110, 3) := by decide +kernel
theorem dJ7_copyOf_6403c_24 : decode cJ7_copyOf_6403c 24 = .ok (.astore_n 3, 1) := by decide +kernel
theorem dJ7_copyOf_6403c_25 : decode cJ7_copyOf_6403c 25 = .ok (.aload_n 0, 1) := by decide +kernel
theorem dJ7_copyOf_6403c_26 : decode cJ7_copyOf_6403c 26 = .ok (.iconst 0, 1) := by decide +kernel
theorem dJ7_copyOf_6403c_27 : decode cJ7_copyOf_6403c 27 = .ok (.aload_n 3, 1) := by decide +kernel
theorem dJ7_copyOf_6403c_28 : decode cJ7_copyOf_6403c 28 = .ok (.iconst 0, 1) := by decide +kernel
theorem dJ7_copyOf_6403c_29 : decode cJ7_copyOf_6403c 29 = .ok (.aload_n 0, 1) := by decide +kernel
theorem dJ7_copyOf_6403c_30 : decode cJ7_copyOf_6403c 30 = .ok (.arraylength, 1) := by decide +kernel
theorem dJ7_copyOf_6403c_31 : decode cJ7_copyOf_6403c 31 = .ok (.iload_n 1, 1) := by decide +kernel
theorem dJ7_copyOf_6403c_32 : decode cJ7_copyOf_6403c 32 = .ok (.invokestatic 304, 3) := by decide +kernel
theorem dJ7_copyOf_6403c_35 : decode cJ7_copyOf_6403c 35 = .ok (.invokestatic 150, 3) := by decide +kernel
theorem dJ7_copyOf_6403c_38 : decode cJ7_copyOf_6403c 38 = .ok (.aload_n 3, 1) := by decide +kernel
theorem dJ7_copyOf_6403c_39 : decode cJ7_copyOf_6403c 39 = .ok (.areturn, 1) := by decide +kernel
theorem dJ15_checkIndex_7cf53_0 : decode cJ15_checkIndex_7cf53 0 = .ok (.iload_n 0, 1) := by decide +kernel
theorem dJ15_checkIndex_7cf53_1 : decode cJ15_checkIndex_7cf53 1 = .ok (.iload_n 1, 1) := by decide +kernel
theorem dJ15_checkIndex_7cf53_2 : decode cJ15_checkIndex_7cf53 2 = .ok (.aconst_null, 1) := by decide +kernel
theorem dJ15_checkIndex_7cf53_3 : decode cJ15_checkIndex_7cf53 3 = .ok (.invokestatic 105, 3) := by decide +kernel
theorem dJ15_checkIndex_7cf53_6 : decode cJ15_checkIndex_7cf53 6 = .ok (.ireturn, 1) := by decide +kernel
theorem dJ8_newLength_cabcc_0 : decode cJ8_newLength_cabcc 0 = .ok (.iload_n 0, 1) := by decide +kernel
theorem dJ8_newLength_cabcc_1 : decode cJ8_newLength_cabcc 1 = .ok (.iload_n 1, 1) := by decide +kernel
theorem dJ8_newLength_cabcc_2 : decode cJ8_newLength_cabcc 2 = .ok (.iload_n 2, 1) := by decide +kernel
theorem dJ8_newLength_cabcc_3 : decode cJ8_newLength_cabcc 3 = .ok (.invokestatic 194, 3) := by decide +kernel
theorem dJ8_newLength_cabcc_6 : decode cJ8_newLength_cabcc 6 = .ok (.iadd, 1) := by decide +kernel
theorem dJ8_newLength_cabcc_7 : decode cJ8_newLength_cabcc 7 = .ok (.istore_n 3, 1) := by decide +kernel
theorem dJ8_newLength_cabcc_8 : decode cJ8_newLength_cabcc 8 = .ok (.iconst 0, 1) := by decide +kernel
theorem dJ8_newLength_cabcc_9 : decode cJ8_newLength_cabcc 9 = .ok (.iload_n 3, 1) := by decide +kernel
theorem dJ8_newLength_cabcc_10 : decode cJ8_newLength_cabcc 10 = .ok (.if_icmp .ge 11, 3) := by decide +kernel
theorem dJ8_newLength_cabcc_13 : decode cJ8_newLength_cabcc 13 = .ok (.iload_n 3, 1) := by decide +kernel
theorem dJ8_newLength_cabcc_14 : decode cJ8_newLength_cabcc 14 = .ok (.ldc 200, 2) := by decide +kernel
theorem dJ8_newLength_cabcc_16 : decode cJ8_newLength_cabcc 16 = .ok (.if_icmp .gt 5, 3) := by decide +kernel
theorem dJ8_newLength_cabcc_19 : decode cJ8_newLength_cabcc 19 = .ok (.iload_n 3, 1) := by decide +kernel
theorem dJ8_newLength_cabcc_20 : decode cJ8_newLength_cabcc 20 = .ok (.ireturn, 1) := by decide +kernel
theorem dJ8_newLength_cabcc_21 : decode cJ8_newLength_cabcc 21 = .ok (.iload_n 0, 1) := by decide +kernel
theorem dJ8_newLength_cabcc_22 : decode cJ8_newLength_cabcc 22 = .ok (.iload_n 1, 1) := by decide +kernel
theorem dJ8_newLength_cabcc_23 : decode cJ8_newLength_cabcc 23 = .ok (.invokestatic 201, 3) := by decide +kernel
theorem dJ8_newLength_cabcc_26 : decode cJ8_newLength_cabcc 26 = .ok (.ireturn, 1) := by decide +kernel
theorem dJ8_hugeLength_7cf53_0 : decode cJ8_hugeLength_7cf53 0 = .ok (.iload_n 0, 1) := by decide +kernel
theorem dJ8_hugeLength_7cf53_1 : decode cJ8_hugeLength_7cf53 1 = .ok (.iload_n 1, 1) := by decide +kernel
theorem dJ8_hugeLength_7cf53_2 : decode cJ8_hugeLength_7cf53 2 = .ok (.iadd, 1) := by decide +kernel
theorem dJ8_hugeLength_7cf53_3 : decode cJ8_hugeLength_7cf53 3 = .ok (.istore_n 2, 1) := by decide +kernel
theorem dJ8_hugeLength_7cf53_4 : decode cJ8_hugeLength_7cf53 4 = .ok (.iload_n 2, 1) := by decide +kernel
theorem dJ8_hugeLength_7cf53_5 : decode cJ8_hugeLength_7cf53 5 = .ok (.ifCond .ge 44, 3) := by decide +kernel
theorem dJ8_hugeLength_7cf53_8 : decode cJ8_hugeLength_7cf53 8 = .ok (.new 204, 3) := by decide +kernel
theorem dJ8_hugeLength_7cf53_11 : decode cJ8_hugeLength_7cf53 11 = .ok (.dup, 1) := by decide +kernel
theorem dJ8_hugeLength_7cf53_12 : decode cJ8_hugeLength_7cf53 12 = .ok (.new 89, 3) := by decide +kernel
theorem dJ8_hugeLength_7cf53_15 : decode cJ8_hugeLength_7cf53 15 = .ok (.dup, 1) := by decide +kernel
theorem dJ8_hugeLength_7cf53_16 : decode cJ8_hugeLength_7cf53 16 = .ok (.invokespecial 91, 3) := by decide +kernel
theorem dJ8_hugeLength_7cf53_19 : decode cJ8_hugeLength_7cf53 19 = .ok (.ldc 206, 2) := by decide +kernel
theorem dJ8_hugeLength_7cf53_21 : decode cJ8_hugeLength_7cf53 21 = .ok (.invokevirtual 94, 3) := by decide +kernel
theorem dJ8_hugeLength_7cf53_24 : decode cJ8_hugeLength_7cf53 24 = .ok (.iload_n 0, 1) := by decide +kernel
theorem dJ8_hugeLength_7cf53_25 : decode cJ8_hugeLength_7cf53 25 = .ok (.invokevirtual 98, 3) := by decide +kernel
theorem dJ8_hugeLength_7cf53_28 : decode cJ8_hugeLength_7cf53 28 = .ok (.ldc 208, 2) := by decide +kernel
theorem dJ8_hugeLength_7cf53_30 : decode cJ8_hugeLength_7cf53 30 = .ok (.invokevirtual 94, 3) := by decide +kernel
theorem dJ8_hugeLength_7cf53_33 : decode cJ8_hugeLength_7cf53 33 = .ok (.iload_n 1, 1) := by decide +kernel
theorem dJ8_hugeLength_7cf53_34 : decode cJ8_hugeLength_7cf53 34 = .ok (.invokevirtual 98, 3) := by decide +kernel
theorem dJ8_hugeLength_7cf53_37 : decode cJ8_hugeLength_7cf53 37 = .ok (.ldc 210, 2) := by decide +kernel
theorem dJ8_hugeLength_7cf53_39 : decode cJ8_hugeLength_7cf53 39 = .ok (.invokevirtual 94, 3) := by decide +kernel
theorem dJ8_hugeLength_7cf53_42 : decode cJ8_hugeLength_7cf53 42 = .ok (.invokevirtual 101, 3) := by decide +kernel
theorem dJ8_hugeLength_7cf53_45 : decode cJ8_hugeLength_7cf53 45 = .ok (.invokespecial 212, 3) := by decide +kernel
theorem dJ8_hugeLength_7cf53_48 : decode cJ8_hugeLength_7cf53 48 = .ok (.athrow, 1) := by decide +kernel
theorem dJ8_hugeLength_7cf53_49 : decode cJ8_hugeLength_7cf53 49 = .ok (.iload_n 2, 1) := by decide +kernel
theorem dJ8_hugeLength_7cf53_50 : decode cJ8_hugeLength_7cf53 50 = .ok (.ldc 200, 2) := by decide +kernel
theorem dJ8_hugeLength_7cf53_52 : decode cJ8_hugeLength_7cf53 52 = .ok (.if_icmp .gt 6, 3) := by decide +kernel
theorem dJ8_hugeLength_7cf53_55 : decode cJ8_hugeLength_7cf53 55 = .ok (.ldc 200, 2) := by decide +kernel
theorem dJ8_hugeLength_7cf53_57 : decode cJ8_hugeLength_7cf53 57 = .ok (.ireturn, 1) := by decide +kernel
theorem dJ8_hugeLength_7cf53_58 : decode cJ8_hugeLength_7cf53 58 = .ok (.iload_n 2, 1) := by decide +kernel
theorem dJ8_hugeLength_7cf53_59 : decode cJ8_hugeLength_7cf53 59 = .ok (.ireturn, 1) := by decide +kernel
theorem dJ3_checkIndex_8e157_0 : decode cJ3_checkIndex_8e157 0 = .ok (.iload_n 0, 1) := by decide +kernel
theorem dJ3_checkIndex_8e157_1 : decode cJ3_checkIndex_8e157 1 = .ok (.ifCond .lt 8, 3) := by decide +kernel
theorem dJ3_checkIndex_8e157_4 : decode cJ3_checkIndex_8e157 4 = .ok (.iload_n 0, 1) := by decide +kernel
theorem dJ3_checkIndex_8e157_5 : decode cJ3_checkIndex_8e157 5 = .ok (.iload_n 1, 1) := by decide +kernel
theorem dJ3_checkIndex_8e157_6 : decode cJ3_checkIndex_8e157 6 = .ok (.if_icmp .lt 10, 3) := by decide +kernel
theorem dJ3_checkIndex_8e157_9 : decode cJ3_checkIndex_8e157 9 = .ok (.aload_n 2, 1) := by decide +kernel
theorem dJ3_checkIndex_8e157_10 : decode cJ3_checkIndex_8e157 10 = .ok (.iload_n 0, 1) := by decide +kernel
theorem dJ3_checkIndex_8e157_11 : decode cJ3_checkIndex_8e157 11 = .ok (.iload_n 1, 1) := by decide +kernel
theorem dJ3_checkIndex_8e157_12 : decode cJ3_checkIndex_8e157 12 = .ok (.invokestatic 95, 3) := by decide +kernel
theorem dJ3_checkIndex_8e157_15 : decode cJ3_checkIndex_8e157 15 = .ok (.athrow, 1) := by decide +kernel
theorem dJ3_checkIndex_8e157_16 : decode cJ3_checkIndex_8e157 16 = .ok (.iload_n 0, 1) := by decide +kernel
theorem dJ3_checkIndex_8e157_17 : decode cJ3_checkIndex_8e157 17 = .ok (.ireturn, 1) := by decide +kernel
theorem dL_draw_0 : decode cL_draw 0 = .ok (.iload_n 1, 1) := by decide +kernel
theorem dL_draw_1 : decode cL_draw 1 = .ok (.aload_n 0, 1) := by decide +kernel
theorem dL_draw_2 : decode cL_draw 2 = .ok (.arraylength, 1) := by decide +kernel
theorem dL_draw_3 : decode cL_draw 3 = .ok (.if_icmp .ge 12, 3) := by decide +kernel
theorem dL_draw_6 : decode cL_draw 6 = .ok (.aload_n 0, 1) := by decide +kernel
theorem dL_draw_7 : decode cL_draw 7 = .ok (.iload_n 1, 1) := by decide +kernel
theorem dL_draw_8 : decode cL_draw 8 = .ok (.iaload, 1) := by decide +kernel
theorem dL_draw_9 : decode cL_draw 9 = .ok (.ldc 7, 2) := by decide +kernel
theorem dL_draw_11 : decode cL_draw 11 = .ok (.iand, 1) := by decide +kernel
theorem dL_draw_12 : decode cL_draw 12 = .ok (.goto 12, 3) := by decide +kernel
theorem dL_draw_15 : decode cL_draw 15 = .ok (.ldc 8, 2) := by decide +kernel
theorem dL_draw_17 : decode cL_draw 17 = .ok (.iload_n 1, 1) := by decide +kernel
theorem dL_draw_18 : decode cL_draw 18 = .ok (.iconst 2, 1) := by decide +kernel
theorem dL_draw_19 : decode cL_draw 19 = .ok (.iadd, 1) := by decide +kernel
theorem dL_draw_20 : decode cL_draw 20 = .ok (.imul, 1) := by decide +kernel
theorem dL_draw_21 : decode cL_draw 21 = .ok (.ldc 9, 2) := by decide +kernel
theorem dL_draw_23 : decode cL_draw 23 = .ok (.irem, 1) := by decide +kernel
theorem dL_draw_24 : decode cL_draw 24 = .ok (.ireturn, 1) := by decide +kernel
theorem dL_claims_0 : decode cL_claims 0 = .ok (.aload_n 0, 1) := by decide +kernel
theorem dL_claims_1 : decode cL_claims 1 = .ok (.iload_n 1, 1) := by decide +kernel
theorem dL_claims_2 : decode cL_claims 2 = .ok (.iload_n 2, 1) := by decide +kernel
theorem dL_claims_3 : decode cL_claims 3 = .ok (.iload_n 3, 1) := by decide +kernel
theorem dL_claims_4 : decode cL_claims 4 = .ok (.iload 4, 2) := by decide +kernel
theorem dL_claims_6 : decode cL_claims 6 = .ok (.iload 5, 2) := by decide +kernel
theorem dL_claims_8 : decode cL_claims 8 = .ok (.iload 6, 2) := by decide +kernel
theorem dL_claims_10 : decode cL_claims 10 = .ok (.iload_n 1, 1) := by decide +kernel
theorem dL_claims_11 : decode cL_claims 11 = .ok (.iconst 1, 1) := by decide +kernel
theorem dL_claims_12 : decode cL_claims 12 = .ok (.if_icmp .ne 9, 3) := by decide +kernel
theorem dL_claims_15 : decode cL_claims 15 = .ok (.iload_n 2, 1) := by decide +kernel
theorem dL_claims_16 : decode cL_claims 16 = .ok (.iconst 4, 1) := by decide +kernel
theorem dL_claims_17 : decode cL_claims 17 = .ok (.irem, 1) := by decide +kernel
theorem dL_claims_18 : decode cL_claims 18 = .ok (.goto 4, 3) := by decide +kernel
theorem dL_claims_21 : decode cL_claims 21 = .ok (.iconst (-1), 1) := by decide +kernel
theorem dL_claims_22 : decode cL_claims 22 = .ok (.iload 7, 2) := by decide +kernel
theorem dL_claims_24 : decode cL_claims 24 = .ok (.invokevirtual 12, 3) := by decide +kernel
theorem dL_claims_27 : decode cL_claims 27 = .ok (.ireturn, 1) := by decide +kernel
theorem dL_claims_28 : decode cL_claims 28 = .ok (.astore 8, 2) := by decide +kernel
theorem dL_claims_30 : decode cL_claims 30 = .ok (.bipush (-2), 2) := by decide +kernel
theorem dL_claims_32 : decode cL_claims 32 = .ok (.ireturn, 1) := by decide +kernel
theorem dL_pledges_0 : decode cL_pledges 0 = .ok (.aload_n 0, 1) := by decide +kernel
theorem dL_pledges_1 : decode cL_pledges 1 = .ok (.iload_n 1, 1) := by decide +kernel
theorem dL_pledges_2 : decode cL_pledges 2 = .ok (.iload_n 2, 1) := by decide +kernel
theorem dL_pledges_3 : decode cL_pledges 3 = .ok (.invokevirtual 20, 3) := by decide +kernel
theorem dL_pledges_6 : decode cL_pledges 6 = .ok (.lreturn, 1) := by decide +kernel
theorem dL_pledges_7 : decode cL_pledges 7 = .ok (.astore_n 3, 1) := by decide +kernel
theorem dL_pledges_8 : decode cL_pledges 8 = .ok (.ldc2_w 24, 3) := by decide +kernel
theorem dL_pledges_11 : decode cL_pledges 11 = .ok (.lreturn, 1) := by decide +kernel
theorem dL_years_0 : decode cL_years 0 = .ok (.aload_n 0, 1) := by decide +kernel
theorem dL_years_1 : decode cL_years 1 = .ok (.iconst 1, 1) := by decide +kernel
theorem dL_years_2 : decode cL_years 2 = .ok (.invokevirtual 26, 3) := by decide +kernel
theorem dL_years_5 : decode cL_years 5 = .ok (.lreturn, 1) := by decide +kernel
theorem dL_years_6 : decode cL_years 6 = .ok (.astore_n 1, 1) := by decide +kernel
theorem dL_years_7 : decode cL_years 7 = .ok (.ldc2_w 24, 3) := by decide +kernel
theorem dL_years_10 : decode cL_years 10 = .ok (.lreturn, 1) := by decide +kernel
theorem dL_acts_0 : decode cL_acts 0 = .ok (.iload_n 3, 1) := by decide +kernel
theorem dL_acts_1 : decode cL_acts 1 = .ok (.ifCond .ne 28, 3) := by decide +kernel
theorem dL_acts_4 : decode cL_acts 4 = .ok (.aload_n 0, 1) := by decide +kernel
theorem dL_acts_5 : decode cL_acts 5 = .ok (.iload_n 1, 1) := by decide +kernel
theorem dL_acts_6 : decode cL_acts 6 = .ok (.bipush 100, 2) := by decide +kernel
theorem dL_acts_8 : decode cL_acts 8 = .ok (.irem, 1) := by decide +kernel
theorem dL_acts_9 : decode cL_acts 9 = .ok (.iload_n 2, 1) := by decide +kernel
theorem dL_acts_10 : decode cL_acts 10 = .ok (.sipush 1001, 3) := by decide +kernel
theorem dL_acts_13 : decode cL_acts 13 = .ok (.irem, 1) := by decide +kernel
theorem dL_acts_14 : decode cL_acts 14 = .ok (.iconst 1, 1) := by decide +kernel
theorem dL_acts_15 : decode cL_acts 15 = .ok (.iload_n 2, 1) := by decide +kernel
theorem dL_acts_16 : decode cL_acts 16 = .ok (.bipush 7, 2) := by decide +kernel
theorem dL_acts_18 : decode cL_acts 18 = .ok (.idiv, 1) := by decide +kernel
theorem dL_acts_19 : decode cL_acts 19 = .ok (.bipush 30, 2) := by decide +kernel
theorem dL_acts_21 : decode cL_acts 21 = .ok (.irem, 1) := by decide +kernel
theorem dL_acts_22 : decode cL_acts 22 = .ok (.iadd, 1) := by decide +kernel
theorem dL_acts_23 : decode cL_acts 23 = .ok (.invokevirtual 30, 3) := by decide +kernel
theorem dL_acts_26 : decode cL_acts 26 = .ok (.goto 47, 3) := by decide +kernel
theorem dL_acts_29 : decode cL_acts 29 = .ok (.iload_n 3, 1) := by decide +kernel
theorem dL_acts_30 : decode cL_acts 30 = .ok (.iconst 1, 1) := by decide +kernel
theorem dL_acts_31 : decode cL_acts 31 = .ok (.if_icmp .ne 12, 3) := by decide +kernel
theorem dL_acts_34 : decode cL_acts 34 = .ok (.aload_n 0, 1) := by decide +kernel
theorem dL_acts_35 : decode cL_acts 35 = .ok (.iload_n 1, 1) := by decide +kernel
theorem dL_acts_36 : decode cL_acts 36 = .ok (.iload_n 2, 1) := by decide +kernel
theorem dL_acts_37 : decode cL_acts 37 = .ok (.invokevirtual 34, 3) := by decide +kernel
theorem dL_acts_40 : decode cL_acts 40 = .ok (.goto 33, 3) := by decide +kernel
theorem dL_acts_43 : decode cL_acts 43 = .ok (.iload_n 3, 1) := by decide +kernel
theorem dL_acts_44 : decode cL_acts 44 = .ok (.iconst 2, 1) := by decide +kernel
theorem dL_acts_45 : decode cL_acts 45 = .ok (.if_icmp .ne 11, 3) := by decide +kernel
theorem dL_acts_48 : decode cL_acts 48 = .ok (.aload_n 0, 1) := by decide +kernel
theorem dL_acts_49 : decode cL_acts 49 = .ok (.iload_n 1, 1) := by decide +kernel
theorem dL_acts_50 : decode cL_acts 50 = .ok (.invokevirtual 38, 3) := by decide +kernel
theorem dL_acts_53 : decode cL_acts 53 = .ok (.goto 20, 3) := by decide +kernel
theorem dL_acts_56 : decode cL_acts 56 = .ok (.iload_n 3, 1) := by decide +kernel
theorem dL_acts_57 : decode cL_acts 57 = .ok (.iconst 3, 1) := by decide +kernel
theorem dL_acts_58 : decode cL_acts 58 = .ok (.if_icmp .ne 11, 3) := by decide +kernel
theorem dL_acts_61 : decode cL_acts 61 = .ok (.aload_n 0, 1) := by decide +kernel
theorem dL_acts_62 : decode cL_acts 62 = .ok (.iload_n 1, 1) := by decide +kernel
theorem dL_acts_63 : decode cL_acts 63 = .ok (.invokevirtual 42, 3) := by decide +kernel
theorem dL_acts_66 : decode cL_acts 66 = .ok (.goto 7, 3) := by decide +kernel
theorem dL_acts_69 : decode cL_acts 69 = .ok (.aload_n 0, 1) := by decide +kernel
theorem dL_acts_70 : decode cL_acts 70 = .ok (.invokevirtual 45, 3) := by decide +kernel
theorem dL_acts_73 : decode cL_acts 73 = .ok (.ireturn, 1) := by decide +kernel
theorem dL_acts_74 : decode cL_acts 74 = .ok (.astore 4, 2) := by decide +kernel
theorem dL_acts_76 : decode cL_acts 76 = .ok (.bipush (-2), 2) := by decide +kernel
theorem dL_acts_78 : decode cL_acts 78 = .ok (.ireturn, 1) := by decide +kernel
theorem dL_votes_0 : decode cL_votes 0 = .ok (.aload_n 0, 1) := by decide +kernel
theorem dL_votes_1 : decode cL_votes 1 = .ok (.iload_n 1, 1) := by decide +kernel
theorem dL_votes_2 : decode cL_votes 2 = .ok (.iload_n 2, 1) := by decide +kernel
theorem dL_votes_3 : decode cL_votes 3 = .ok (.iload_n 3, 1) := by decide +kernel
theorem dL_votes_4 : decode cL_votes 4 = .ok (.invokevirtual 49, 3) := by decide +kernel
theorem dL_votes_7 : decode cL_votes 7 = .ok (.iconst 1, 1) := by decide +kernel
theorem dL_votes_8 : decode cL_votes 8 = .ok (.ireturn, 1) := by decide +kernel
theorem dL_votes_9 : decode cL_votes 9 = .ok (.astore 4, 2) := by decide +kernel
theorem dL_votes_11 : decode cL_votes 11 = .ok (.iconst 0, 1) := by decide +kernel
theorem dL_votes_12 : decode cL_votes 12 = .ok (.ireturn, 1) := by decide +kernel
theorem dL_sues_0 : decode cL_sues 0 = .ok (.aload_n 0, 1) := by decide +kernel
theorem dL_sues_1 : decode cL_sues 1 = .ok (.iload_n 1, 1) := by decide +kernel
theorem dL_sues_2 : decode cL_sues 2 = .ok (.invokevirtual 53, 3) := by decide +kernel
theorem dL_sues_5 : decode cL_sues 5 = .ok (.iconst 1, 1) := by decide +kernel
theorem dL_sues_6 : decode cL_sues 6 = .ok (.ireturn, 1) := by decide +kernel
theorem dL_sues_7 : decode cL_sues 7 = .ok (.astore_n 2, 1) := by decide +kernel
theorem dL_sues_8 : decode cL_sues 8 = .ok (.iconst 0, 1) := by decide +kernel
theorem dL_sues_9 : decode cL_sues 9 = .ok (.ireturn, 1) := by decide +kernel
theorem dL_seizes_0 : decode cL_seizes 0 = .ok (.aload_n 0, 1) := by decide +kernel
theorem dL_seizes_1 : decode cL_seizes 1 = .ok (.iload_n 1, 1) := by decide +kernel
theorem dL_seizes_2 : decode cL_seizes 2 = .ok (.iload_n 2, 1) := by decide +kernel
theorem dL_seizes_3 : decode cL_seizes 3 = .ok (.invokevirtual 57, 3) := by decide +kernel
theorem dL_seizes_6 : decode cL_seizes 6 = .ok (.lreturn, 1) := by decide +kernel
theorem dL_seizes_7 : decode cL_seizes 7 = .ok (.astore_n 3, 1) := by decide +kernel
theorem dL_seizes_8 : decode cL_seizes 8 = .ok (.ldc2_w 24, 3) := by decide +kernel
theorem dL_seizes_11 : decode cL_seizes 11 = .ok (.lreturn, 1) := by decide +kernel
theorem dL_reveals_0 : decode cL_reveals 0 = .ok (.aload_n 0, 1) := by decide +kernel
theorem dL_reveals_1 : decode cL_reveals 1 = .ok (.iload_n 1, 1) := by decide +kernel
theorem dL_reveals_2 : decode cL_reveals 2 = .ok (.invokevirtual 60, 3) := by decide +kernel
theorem dL_reveals_5 : decode cL_reveals 5 = .ok (.lreturn, 1) := by decide +kernel
theorem dL_reveals_6 : decode cL_reveals 6 = .ok (.astore_n 2, 1) := by decide +kernel
theorem dL_reveals_7 : decode cL_reveals 7 = .ok (.ldc2_w 24, 3) := by decide +kernel
theorem dL_reveals_10 : decode cL_reveals 10 = .ok (.lreturn, 1) := by decide +kernel
theorem dL_down_0 : decode cL_down 0 = .ok (.lload_n 0, 1) := by decide +kernel
theorem dL_down_1 : decode cL_down 1 = .ok (.lconst 0, 1) := by decide +kernel
theorem dL_down_2 : decode cL_down 2 = .ok (.lcmp, 1) := by decide +kernel
theorem dL_down_3 : decode cL_down 3 = .ok (.ifCond .ge 11, 3) := by decide +kernel
theorem dL_down_6 : decode cL_down 6 = .ok (.lload_n 0, 1) := by decide +kernel
theorem dL_down_7 : decode cL_down 7 = .ok (.lload_n 2, 1) := by decide +kernel
theorem dL_down_8 : decode cL_down 8 = .ok (.lrem, 1) := by decide +kernel
theorem dL_down_9 : decode cL_down 9 = .ok (.lconst 0, 1) := by decide +kernel
theorem dL_down_10 : decode cL_down 10 = .ok (.lcmp, 1) := by decide +kernel
theorem dL_down_11 : decode cL_down 11 = .ok (.ifCond .ne 9, 3) := by decide +kernel
theorem dL_down_14 : decode cL_down 14 = .ok (.lload_n 0, 1) := by decide +kernel
theorem dL_down_15 : decode cL_down 15 = .ok (.lload_n 2, 1) := by decide +kernel
theorem dL_down_16 : decode cL_down 16 = .ok (.ldiv, 1) := by decide +kernel
theorem dL_down_17 : decode cL_down 17 = .ok (.goto 8, 3) := by decide +kernel
theorem dL_down_20 : decode cL_down 20 = .ok (.lload_n 0, 1) := by decide +kernel
theorem dL_down_21 : decode cL_down 21 = .ok (.lload_n 2, 1) := by decide +kernel
theorem dL_down_22 : decode cL_down 22 = .ok (.ldiv, 1) := by decide +kernel
theorem dL_down_23 : decode cL_down 23 = .ok (.lconst 1, 1) := by decide +kernel
theorem dL_down_24 : decode cL_down 24 = .ok (.lsub, 1) := by decide +kernel
theorem dL_down_25 : decode cL_down 25 = .ok (.lreturn, 1) := by decide +kernel
theorem dL_step_0 : decode cL_step 0 = .ok (.aload_n 1, 1) := by decide +kernel
theorem dL_step_1 : decode cL_step 1 = .ok (.iconst 0, 1) := by decide +kernel
theorem dL_step_2 : decode cL_step 2 = .ok (.iaload, 1) := by decide +kernel
theorem dL_step_3 : decode cL_step 3 = .ok (.ifCond .ne 7, 3) := by decide +kernel
theorem dL_step_6 : decode cL_step 6 = .ok (.iconst 0, 1) := by decide +kernel
theorem dL_step_7 : decode cL_step 7 = .ok (.goto 9, 3) := by decide +kernel
theorem dL_step_10 : decode cL_step 10 = .ok (.iload 4, 2) := by decide +kernel
theorem dL_step_12 : decode cL_step 12 = .ok (.aload_n 1, 1) := by decide +kernel
theorem dL_step_13 : decode cL_step 13 = .ok (.iconst 0, 1) := by decide +kernel
theorem dL_step_14 : decode cL_step 14 = .ok (.iaload, 1) := by decide +kernel
theorem dL_step_15 : decode cL_step 15 = .ok (.irem, 1) := by decide +kernel
theorem dL_step_16 : decode cL_step 16 = .ok (.istore 6, 2) := by decide +kernel
theorem dL_step_18 : decode cL_step 18 = .ok (.aload_n 1, 1) := by decide +kernel
theorem dL_step_19 : decode cL_step 19 = .ok (.iconst 1, 1) := by decide +kernel
theorem dL_step_20 : decode cL_step 20 = .ok (.iaload, 1) := by decide +kernel
theorem dL_step_21 : decode cL_step 21 = .ok (.ifCond .ne 7, 3) := by decide +kernel
theorem dL_step_24 : decode cL_step 24 = .ok (.iconst 0, 1) := by decide +kernel
theorem dL_step_25 : decode cL_step 25 = .ok (.goto 9, 3) := by decide +kernel
theorem dL_step_28 : decode cL_step 28 = .ok (.iload 5, 2) := by decide +kernel
theorem dL_step_30 : decode cL_step 30 = .ok (.aload_n 1, 1) := by decide +kernel
theorem dL_step_31 : decode cL_step 31 = .ok (.iconst 1, 1) := by decide +kernel
theorem dL_step_32 : decode cL_step 32 = .ok (.iaload, 1) := by decide +kernel
theorem dL_step_33 : decode cL_step 33 = .ok (.irem, 1) := by decide +kernel
theorem dL_step_34 : decode cL_step 34 = .ok (.istore 7, 2) := by decide +kernel
theorem dL_step_36 : decode cL_step 36 = .ok (.aload_n 1, 1) := by decide +kernel
theorem dL_step_37 : decode cL_step 37 = .ok (.iconst 0, 1) := by decide +kernel
theorem dL_step_38 : decode cL_step 38 = .ok (.iaload, 1) := by decide +kernel
theorem dL_step_39 : decode cL_step 39 = .ok (.ifCond .ne 7, 3) := by decide +kernel
theorem dL_step_42 : decode cL_step 42 = .ok (.iconst 0, 1) := by decide +kernel
theorem dL_step_43 : decode cL_step 43 = .ok (.goto 18, 3) := by decide +kernel
theorem dL_step_46 : decode cL_step 46 = .ok (.aload_n 1, 1) := by decide +kernel
theorem dL_step_47 : decode cL_step 47 = .ok (.iconst 1, 1) := by decide +kernel
theorem dL_step_48 : decode cL_step 48 = .ok (.iaload, 1) := by decide +kernel
theorem dL_step_49 : decode cL_step 49 = .ok (.ifCond .ne 8, 3) := by decide +kernel
theorem dL_step_52 : decode cL_step 52 = .ok (.bipush 8, 2) := by decide +kernel
theorem dL_step_54 : decode cL_step 54 = .ok (.goto 7, 3) := by decide +kernel
theorem dL_step_57 : decode cL_step 57 = .ok (.iload_n 3, 1) := by decide +kernel
theorem dL_step_58 : decode cL_step 58 = .ok (.bipush 20, 2) := by decide +kernel
theorem dL_step_60 : decode cL_step 60 = .ok (.irem, 1) := by decide +kernel
theorem dL_step_61 : decode cL_step 61 = .ok (.tableswitch 965 0 18 #[91, 91, 260, 377, 424, 497, 566, 566, 566, 566, 591, 601, 611, 611, 655, 718, 790, 878, 908], 91) := by decide +kernel
theorem dL_step_152 : decode cL_step 152 = .ok (.aload_n 0, 1) := by decide +kernel
theorem dL_step_153 : decode cL_step 153 = .ok (.iload 4, 2) := by decide +kernel
theorem dL_step_155 : decode cL_step 155 = .ok (.iconst 5, 1) := by decide +kernel
theorem dL_step_156 : decode cL_step 156 = .ok (.irem, 1) := by decide +kernel
theorem dL_step_157 : decode cL_step 157 = .ok (.iload 5, 2) := by decide +kernel
theorem dL_step_159 : decode cL_step 159 = .ok (.bipush 8, 2) := by decide +kernel
theorem dL_step_161 : decode cL_step 161 = .ok (.irem, 1) := by decide +kernel
theorem dL_step_162 : decode cL_step 162 = .ok (.iconst 1, 1) := by decide +kernel
theorem dL_step_163 : decode cL_step 163 = .ok (.iload 5, 2) := by decide +kernel
theorem dL_step_165 : decode cL_step 165 = .ok (.bipush 8, 2) := by decide +kernel
theorem dL_step_167 : decode cL_step 167 = .ok (.idiv, 1) := by decide +kernel
theorem dL_step_168 : decode cL_step 168 = .ok (.ldc 63, 2) := by decide +kernel
theorem dL_step_170 : decode cL_step 170 = .ok (.irem, 1) := by decide +kernel
theorem dL_step_171 : decode cL_step 171 = .ok (.iadd, 1) := by decide +kernel
theorem dL_step_172 : decode cL_step 172 = .ok (.iload 4, 2) := by decide +kernel
theorem dL_step_174 : decode cL_step 174 = .ok (.iconst 5, 1) := by decide +kernel
theorem dL_step_175 : decode cL_step 175 = .ok (.idiv, 1) := by decide +kernel
theorem dL_step_176 : decode cL_step 176 = .ok (.sipush 1001, 3) := by decide +kernel
theorem dL_step_179 : decode cL_step 179 = .ok (.irem, 1) := by decide +kernel
theorem dL_step_180 : decode cL_step 180 = .ok (.iconst 1, 1) := by decide +kernel
theorem dL_step_181 : decode cL_step 181 = .ok (.iload 4, 2) := by decide +kernel
theorem dL_step_183 : decode cL_step 183 = .ok (.sipush 5005, 3) := by decide +kernel
theorem dL_step_186 : decode cL_step 186 = .ok (.idiv, 1) := by decide +kernel
theorem dL_step_187 : decode cL_step 187 = .ok (.bipush 30, 2) := by decide +kernel
theorem dL_step_189 : decode cL_step 189 = .ok (.irem, 1) := by decide +kernel
theorem dL_step_190 : decode cL_step 190 = .ok (.iadd, 1) := by decide +kernel
theorem dL_step_191 : decode cL_step 191 = .ok (.iload 5, 2) := by decide +kernel
theorem dL_step_193 : decode cL_step 193 = .ok (.iconst 3, 1) := by decide +kernel
theorem dL_step_194 : decode cL_step 194 = .ok (.irem, 1) := by decide +kernel
theorem dL_step_195 : decode cL_step 195 = .ok (.iload 4, 2) := by decide +kernel
theorem dL_step_197 : decode cL_step 197 = .ok (.bipush 64, 2) := by decide +kernel
theorem dL_step_199 : decode cL_step 199 = .ok (.idiv, 1) := by decide +kernel
theorem dL_step_200 : decode cL_step 200 = .ok (.iconst 4, 1) := by decide +kernel
theorem dL_step_201 : decode cL_step 201 = .ok (.irem, 1) := by decide +kernel
theorem dL_step_202 : decode cL_step 202 = .ok (.ifCond .ne 7, 3) := by decide +kernel
theorem dL_step_205 : decode cL_step 205 = .ok (.iconst 1, 1) := by decide +kernel
theorem dL_step_206 : decode cL_step 206 = .ok (.goto 4, 3) := by decide +kernel
theorem dL_step_209 : decode cL_step 209 = .ok (.iconst 0, 1) := by decide +kernel
theorem dL_step_210 : decode cL_step 210 = .ok (.invokestatic 64, 3) := by decide +kernel
theorem dL_step_213 : decode cL_step 213 = .ok (.istore 8, 2) := by decide +kernel
theorem dL_step_215 : decode cL_step 215 = .ok (.aload_n 1, 1) := by decide +kernel
theorem dL_step_216 : decode cL_step 216 = .ok (.iconst 0, 1) := by decide +kernel
theorem dL_step_217 : decode cL_step 217 = .ok (.dup2, 1) := by decide +kernel
theorem dL_step_218 : decode cL_step 218 = .ok (.iaload, 1) := by decide +kernel
theorem dL_step_219 : decode cL_step 219 = .ok (.iload 8, 2) := by decide +kernel
theorem dL_step_221 : decode cL_step 221 = .ok (.bipush (-2), 2) := by decide +kernel
theorem dL_step_223 : decode cL_step 223 = .ok (.if_icmp .ne 7, 3) := by decide +kernel
theorem dL_step_226 : decode cL_step 226 = .ok (.iconst 0, 1) := by decide +kernel
theorem dL_step_227 : decode cL_step 227 = .ok (.goto 4, 3) := by decide +kernel
theorem dL_step_230 : decode cL_step 230 = .ok (.iconst 1, 1) := by decide +kernel
theorem dL_step_231 : decode cL_step 231 = .ok (.iadd, 1) := by decide +kernel
theorem dL_step_232 : decode cL_step 232 = .ok (.iastore, 1) := by decide +kernel
theorem dL_step_233 : decode cL_step 233 = .ok (.iload 8, 2) := by decide +kernel
theorem dL_step_235 : decode cL_step 235 = .ok (.bipush (-2), 2) := by decide +kernel
theorem dL_step_237 : decode cL_step 237 = .ok (.if_icmp .ne 19, 3) := by decide +kernel
theorem dL_step_240 : decode cL_step 240 = .ok (.aload_n 1, 1) := by decide +kernel
theorem dL_step_241 : decode cL_step 241 = .ok (.iconst 0, 1) := by decide +kernel
theorem dL_step_242 : decode cL_step 242 = .ok (.iaload, 1) := by decide +kernel
theorem dL_step_243 : decode cL_step 243 = .ok (.bipush 40, 2) := by decide +kernel
theorem dL_step_245 : decode cL_step 245 = .ok (.if_icmp .ne 7, 3) := by decide +kernel
theorem dL_step_248 : decode cL_step 248 = .ok (.iconst 1, 1) := by decide +kernel
theorem dL_step_249 : decode cL_step 249 = .ok (.goto 71, 3) := by decide +kernel
theorem dL_step_252 : decode cL_step 252 = .ok (.iconst 0, 1) := by decide +kernel
theorem dL_step_253 : decode cL_step 253 = .ok (.goto 67, 3) := by decide +kernel
theorem dL_step_256 : decode cL_step 256 = .ok (.iload 8, 2) := by decide +kernel
theorem dL_step_258 : decode cL_step 258 = .ok (.aload_n 1, 1) := by decide +kernel
theorem dL_step_259 : decode cL_step 259 = .ok (.iconst 0, 1) := by decide +kernel
theorem dL_step_260 : decode cL_step 260 = .ok (.iaload, 1) := by decide +kernel
theorem dL_step_261 : decode cL_step 261 = .ok (.iconst 1, 1) := by decide +kernel
theorem dL_step_262 : decode cL_step 262 = .ok (.isub, 1) := by decide +kernel
theorem dL_step_263 : decode cL_step 263 = .ok (.if_icmp .ne 56, 3) := by decide +kernel
theorem dL_step_266 : decode cL_step 266 = .ok (.aload_n 0, 1) := by decide +kernel
theorem dL_step_267 : decode cL_step 267 = .ok (.iload 8, 2) := by decide +kernel
theorem dL_step_269 : decode cL_step 269 = .ok (.iconst 0, 1) := by decide +kernel
theorem dL_step_270 : decode cL_step 270 = .ok (.invokevirtual 68, 3) := by decide +kernel
theorem dL_step_273 : decode cL_step 273 = .ok (.lconst 0, 1) := by decide +kernel
theorem dL_step_274 : decode cL_step 274 = .ok (.lcmp, 1) := by decide +kernel
theorem dL_step_275 : decode cL_step 275 = .ok (.ifCond .ne 44, 3) := by decide +kernel
theorem dL_step_278 : decode cL_step 278 = .ok (.aload_n 0, 1) := by decide +kernel
theorem dL_step_279 : decode cL_step 279 = .ok (.iload 8, 2) := by decide +kernel
