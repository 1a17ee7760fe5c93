theorem dX3_judgeSuits_32 : decode cX3_judgeSuits 32 = .ok (.aload_n 2, 1) := by decide +kernel
theorem dX3_judgeSuits_33 : decode cX3_judgeSuits 33 = .ok (.getfield 152, 3) := by decide +kernel
theorem dX3_judgeSuits_36 : decode cX3_judgeSuits 36 = .ok (.iconst 1, 1) := by decide +kernel
theorem dX3_judgeSuits_37 : decode cX3_judgeSuits 37 = .ok (.if_icmp .ne 8, 3) := by decide +kernel
theorem dX3_judgeSuits_40 : decode cX3_judgeSuits 40 = .ok (.aload_n 2, 1) := by decide +kernel
theorem dX3_judgeSuits_41 : decode cX3_judgeSuits 41 = .ok (.iconst 2, 1) := by decide +kernel
theorem dX3_judgeSuits_42 : decode cX3_judgeSuits 42 = .ok (.putfield 152, 3) := by decide +kernel
theorem dX3_judgeSuits_45 : decode cX3_judgeSuits 45 = .ok (.iinc 1 1, 3) := by decide +kernel
theorem dX3_judgeSuits_48 : decode cX3_judgeSuits 48 = .ok (.goto (-46), 3) := by decide +kernel
theorem dX3_judgeSuits_51 : decode cX3_judgeSuits 51 = .ok (.return_, 1) := by decide +kernel
theorem dX3_serveRank_0 : decode cX3_serveRank 0 = .ok (.lconst 0, 1) := by decide +kernel
theorem dX3_serveRank_1 : decode cX3_serveRank 1 = .ok (.lstore_n 2, 1) := by decide +kernel
theorem dX3_serveRank_2 : decode cX3_serveRank 2 = .ok (.iconst 0, 1) := by decide +kernel
theorem dX3_serveRank_3 : decode cX3_serveRank 3 = .ok (.istore 4, 2) := by decide +kernel
theorem dX3_serveRank_5 : decode cX3_serveRank 5 = .ok (.iload 4, 2) := by decide +kernel
theorem dX3_serveRank_7 : decode cX3_serveRank 7 = .ok (.aload_n 0, 1) := by decide +kernel
theorem dX3_serveRank_8 : decode cX3_serveRank 8 = .ok (.getfield 10, 3) := by decide +kernel
theorem dX3_serveRank_11 : decode cX3_serveRank 11 = .ok (.invokevirtual 81, 3) := by decide +kernel
theorem dX3_serveRank_14 : decode cX3_serveRank 14 = .ok (.if_icmp .ge 49, 3) := by decide +kernel
theorem dX3_serveRank_17 : decode cX3_serveRank 17 = .ok (.aload_n 0, 1) := by decide +kernel
theorem dX3_serveRank_18 : decode cX3_serveRank 18 = .ok (.getfield 10, 3) := by decide +kernel
theorem dX3_serveRank_21 : decode cX3_serveRank 21 = .ok (.iload 4, 2) := by decide +kernel
theorem dX3_serveRank_23 : decode cX3_serveRank 23 = .ok (.invokevirtual 148, 3) := by decide +kernel
theorem dX3_serveRank_26 : decode cX3_serveRank 26 = .ok (.checkcast 68, 3) := by decide +kernel
theorem dX3_serveRank_29 : decode cX3_serveRank 29 = .ok (.astore 5, 2) := by decide +kernel
theorem dX3_serveRank_31 : decode cX3_serveRank 31 = .ok (.aload 5, 2) := by decide +kernel
theorem dX3_serveRank_33 : decode cX3_serveRank 33 = .ok (.invokevirtual 89, 3) := by decide +kernel
theorem dX3_serveRank_36 : decode cX3_serveRank 36 = .ok (.ifCond .eq 21, 3) := by decide +kernel
theorem dX3_serveRank_39 : decode cX3_serveRank 39 = .ok (.aload 5, 2) := by decide +kernel
theorem dX3_serveRank_41 : decode cX3_serveRank 41 = .ok (.getfield 155, 3) := by decide +kernel
theorem dX3_serveRank_44 : decode cX3_serveRank 44 = .ok (.iload_n 1, 1) := by decide +kernel
theorem dX3_serveRank_45 : decode cX3_serveRank 45 = .ok (.if_icmp .ne 12, 3) := by decide +kernel
theorem dX3_serveRank_48 : decode cX3_serveRank 48 = .ok (.lload_n 2, 1) := by decide +kernel
theorem dX3_serveRank_49 : decode cX3_serveRank 49 = .ok (.aload_n 0, 1) := by decide +kernel
theorem dX3_serveRank_50 : decode cX3_serveRank 50 = .ok (.aload 5, 2) := by decide +kernel
theorem dX3_serveRank_52 : decode cX3_serveRank 52 = .ok (.invokevirtual 158, 3) := by decide +kernel
theorem dX3_serveRank_55 : decode cX3_serveRank 55 = .ok (.ladd, 1) := by decide +kernel
theorem dX3_serveRank_56 : decode cX3_serveRank 56 = .ok (.lstore_n 2, 1) := by decide +kernel
theorem dX3_serveRank_57 : decode cX3_serveRank 57 = .ok (.iinc 4 1, 3) := by decide +kernel
theorem dX3_serveRank_60 : decode cX3_serveRank 60 = .ok (.goto (-55), 3) := by decide +kernel
theorem dX3_serveRank_63 : decode cX3_serveRank 63 = .ok (.lload_n 2, 1) := by decide +kernel
theorem dX3_serveRank_64 : decode cX3_serveRank 64 = .ok (.lreturn, 1) := by decide +kernel
theorem dX3_serve_0 : decode cX3_serve 0 = .ok (.lconst 0, 1) := by decide +kernel
theorem dX3_serve_1 : decode cX3_serve 1 = .ok (.lstore_n 2, 1) := by decide +kernel
theorem dX3_serve_2 : decode cX3_serve 2 = .ok (.aload_n 1, 1) := by decide +kernel
theorem dX3_serve_3 : decode cX3_serve 3 = .ok (.invokevirtual 162, 3) := by decide +kernel
theorem dX3_serve_6 : decode cX3_serve 6 = .ok (.ifCond .ne 17, 3) := by decide +kernel
theorem dX3_serve_9 : decode cX3_serve 9 = .ok (.aload_n 1, 1) := by decide +kernel
theorem dX3_serve_10 : decode cX3_serve 10 = .ok (.aload_n 0, 1) := by decide +kernel
theorem dX3_serve_11 : decode cX3_serve 11 = .ok (.getfield 22, 3) := by decide +kernel
theorem dX3_serve_14 : decode cX3_serve 14 = .ok (.invokevirtual 165, 3) := by decide +kernel
theorem dX3_serve_17 : decode cX3_serve 17 = .ok (.aload_n 0, 1) := by decide +kernel
theorem dX3_serve_18 : decode cX3_serve 18 = .ok (.aload_n 1, 1) := by decide +kernel
theorem dX3_serve_19 : decode cX3_serve 19 = .ok (.invokevirtual 168, 3) := by decide +kernel
theorem dX3_serve_22 : decode cX3_serve 22 = .ok (.lstore_n 2, 1) := by decide +kernel
theorem dX3_serve_23 : decode cX3_serve 23 = .ok (.aload_n 1, 1) := by decide +kernel
theorem dX3_serve_24 : decode cX3_serve 24 = .ok (.getfield 171, 3) := by decide +kernel
theorem dX3_serve_27 : decode cX3_serve 27 = .ok (.aload_n 0, 1) := by decide +kernel
theorem dX3_serve_28 : decode cX3_serve 28 = .ok (.getfield 22, 3) := by decide +kernel
theorem dX3_serve_31 : decode cX3_serve 31 = .ok (.if_icmp .gt 17, 3) := by decide +kernel
theorem dX3_serve_34 : decode cX3_serve 34 = .ok (.aload_n 1, 1) := by decide +kernel
theorem dX3_serve_35 : decode cX3_serve 35 = .ok (.getfield 174, 3) := by decide +kernel
theorem dX3_serve_38 : decode cX3_serve 38 = .ok (.lconst 0, 1) := by decide +kernel
theorem dX3_serve_39 : decode cX3_serve 39 = .ok (.lcmp, 1) := by decide +kernel
theorem dX3_serve_40 : decode cX3_serve 40 = .ok (.ifCond .ne 8, 3) := by decide +kernel
theorem dX3_serve_43 : decode cX3_serve 43 = .ok (.aload_n 0, 1) := by decide +kernel
theorem dX3_serve_44 : decode cX3_serve 44 = .ok (.aload_n 1, 1) := by decide +kernel
theorem dX3_serve_45 : decode cX3_serve 45 = .ok (.invokevirtual 177, 3) := by decide +kernel
theorem dX3_serve_48 : decode cX3_serve 48 = .ok (.lload_n 2, 1) := by decide +kernel
theorem dX3_serve_49 : decode cX3_serve 49 = .ok (.lreturn, 1) := by decide +kernel
theorem dX3_payArrears_0 : decode cX3_payArrears 0 = .ok (.aload_n 1, 1) := by decide +kernel
theorem dX3_payArrears_1 : decode cX3_payArrears 1 = .ok (.getfield 174, 3) := by decide +kernel
theorem dX3_payArrears_4 : decode cX3_payArrears 4 = .ok (.aload_n 1, 1) := by decide +kernel
theorem dX3_payArrears_5 : decode cX3_payArrears 5 = .ok (.getfield 100, 3) := by decide +kernel
theorem dX3_payArrears_8 : decode cX3_payArrears 8 = .ok (.invokestatic 181, 3) := by decide +kernel
theorem dX3_payArrears_11 : decode cX3_payArrears 11 = .ok (.lstore_n 2, 1) := by decide +kernel
theorem dX3_payArrears_12 : decode cX3_payArrears 12 = .ok (.lconst 0, 1) := by decide +kernel
theorem dX3_payArrears_13 : decode cX3_payArrears 13 = .ok (.lstore 4, 2) := by decide +kernel
theorem dX3_payArrears_15 : decode cX3_payArrears 15 = .ok (.aload_n 0, 1) := by decide +kernel
theorem dX3_payArrears_16 : decode cX3_payArrears 16 = .ok (.getfield 26, 3) := by decide +kernel
theorem dX3_payArrears_19 : decode cX3_payArrears 19 = .ok (.lconst 0, 1) := by decide +kernel
theorem dX3_payArrears_20 : decode cX3_payArrears 20 = .ok (.lcmp, 1) := by decide +kernel
theorem dX3_payArrears_21 : decode cX3_payArrears 21 = .ok (.ifCond .le 33, 3) := by decide +kernel
theorem dX3_payArrears_24 : decode cX3_payArrears 24 = .ok (.aload_n 0, 1) := by decide +kernel
theorem dX3_payArrears_25 : decode cX3_payArrears 25 = .ok (.getfield 44, 3) := by decide +kernel
theorem dX3_payArrears_28 : decode cX3_payArrears 28 = .ok (.i2l, 1) := by decide +kernel
theorem dX3_payArrears_29 : decode cX3_payArrears 29 = .ok (.aload_n 1, 1) := by decide +kernel
theorem dX3_payArrears_30 : decode cX3_payArrears 30 = .ok (.getfield 186, 3) := by decide +kernel
theorem dX3_payArrears_33 : decode cX3_payArrears 33 = .ok (.invokestatic 189, 3) := by decide +kernel
theorem dX3_payArrears_36 : decode cX3_payArrears 36 = .ok (.ifCond .ne 18, 3) := by decide +kernel
theorem dX3_payArrears_39 : decode cX3_payArrears 39 = .ok (.aload_n 1, 1) := by decide +kernel
theorem dX3_payArrears_40 : decode cX3_payArrears 40 = .ok (.getfield 174, 3) := by decide +kernel
theorem dX3_payArrears_43 : decode cX3_payArrears 43 = .ok (.lload_n 2, 1) := by decide +kernel
theorem dX3_payArrears_44 : decode cX3_payArrears 44 = .ok (.lsub, 1) := by decide +kernel
theorem dX3_payArrears_45 : decode cX3_payArrears 45 = .ok (.aload_n 0, 1) := by decide +kernel
theorem dX3_payArrears_46 : decode cX3_payArrears 46 = .ok (.getfield 26, 3) := by decide +kernel
theorem dX3_payArrears_49 : decode cX3_payArrears 49 = .ok (.invokestatic 181, 3) := by decide +kernel
theorem dX3_payArrears_52 : decode cX3_payArrears 52 = .ok (.lstore 4, 2) := by decide +kernel
theorem dX3_payArrears_54 : decode cX3_payArrears 54 = .ok (.aload_n 1, 1) := by decide +kernel
theorem dX3_payArrears_55 : decode cX3_payArrears 55 = .ok (.dup, 1) := by decide +kernel
theorem dX3_payArrears_56 : decode cX3_payArrears 56 = .ok (.getfield 100, 3) := by decide +kernel
theorem dX3_payArrears_59 : decode cX3_payArrears 59 = .ok (.lload_n 2, 1) := by decide +kernel
theorem dX3_payArrears_60 : decode cX3_payArrears 60 = .ok (.lsub, 1) := by decide +kernel
theorem dX3_payArrears_61 : decode cX3_payArrears 61 = .ok (.putfield 100, 3) := by decide +kernel
theorem dX3_payArrears_64 : decode cX3_payArrears 64 = .ok (.aload_n 0, 1) := by decide +kernel
theorem dX3_payArrears_65 : decode cX3_payArrears 65 = .ok (.dup, 1) := by decide +kernel
theorem dX3_payArrears_66 : decode cX3_payArrears 66 = .ok (.getfield 26, 3) := by decide +kernel
theorem dX3_payArrears_69 : decode cX3_payArrears 69 = .ok (.lload 4, 2) := by decide +kernel
theorem dX3_payArrears_71 : decode cX3_payArrears 71 = .ok (.lsub, 1) := by decide +kernel
theorem dX3_payArrears_72 : decode cX3_payArrears 72 = .ok (.putfield 26, 3) := by decide +kernel
theorem dX3_payArrears_75 : decode cX3_payArrears 75 = .ok (.aload_n 1, 1) := by decide +kernel
theorem dX3_payArrears_76 : decode cX3_payArrears 76 = .ok (.lload_n 2, 1) := by decide +kernel
theorem dX3_payArrears_77 : decode cX3_payArrears 77 = .ok (.lload 4, 2) := by decide +kernel
theorem dX3_payArrears_79 : decode cX3_payArrears 79 = .ok (.ladd, 1) := by decide +kernel
theorem dX3_payArrears_80 : decode cX3_payArrears 80 = .ok (.invokevirtual 193, 3) := by decide +kernel
theorem dX3_payArrears_83 : decode cX3_payArrears 83 = .ok (.lload_n 2, 1) := by decide +kernel
theorem dX3_payArrears_84 : decode cX3_payArrears 84 = .ok (.lload 4, 2) := by decide +kernel
theorem dX3_payArrears_86 : decode cX3_payArrears 86 = .ok (.ladd, 1) := by decide +kernel
theorem dX3_payArrears_87 : decode cX3_payArrears 87 = .ok (.lreturn, 1) := by decide +kernel
theorem dX3_close_0 : decode cX3_close 0 = .ok (.aload_n 1, 1) := by decide +kernel
theorem dX3_close_1 : decode cX3_close 1 = .ok (.iconst 1, 1) := by decide +kernel
theorem dX3_close_2 : decode cX3_close 2 = .ok (.putfield 197, 3) := by decide +kernel
theorem dX3_close_5 : decode cX3_close 5 = .ok (.aload_n 0, 1) := by decide +kernel
theorem dX3_close_6 : decode cX3_close 6 = .ok (.dup, 1) := by decide +kernel
theorem dX3_close_7 : decode cX3_close 7 = .ok (.getfield 26, 3) := by decide +kernel
theorem dX3_close_10 : decode cX3_close 10 = .ok (.aload_n 1, 1) := by decide +kernel
theorem dX3_close_11 : decode cX3_close 11 = .ok (.getfield 100, 3) := by decide +kernel
theorem dX3_close_14 : decode cX3_close 14 = .ok (.ladd, 1) := by decide +kernel
theorem dX3_close_15 : decode cX3_close 15 = .ok (.putfield 26, 3) := by decide +kernel
theorem dX3_close_18 : decode cX3_close 18 = .ok (.aload_n 1, 1) := by decide +kernel
theorem dX3_close_19 : decode cX3_close 19 = .ok (.lconst 0, 1) := by decide +kernel
theorem dX3_close_20 : decode cX3_close 20 = .ok (.putfield 100, 3) := by decide +kernel
theorem dX3_close_23 : decode cX3_close 23 = .ok (.return_, 1) := by decide +kernel
theorem dX3_discount_0 : decode cX3_discount 0 = .ok (.iload_n 1, 1) := by decide +kernel
theorem dX3_discount_1 : decode cX3_discount 1 = .ok (.iconst 0, 1) := by decide +kernel
theorem dX3_discount_2 : decode cX3_discount 2 = .ok (.sipush 1500, 3) := by decide +kernel
theorem dX3_discount_5 : decode cX3_discount 5 = .ok (.invokestatic 59, 3) := by decide +kernel
theorem dX3_discount_8 : decode cX3_discount 8 = .ok (.aload_n 0, 1) := by decide +kernel
theorem dX3_discount_9 : decode cX3_discount 9 = .ok (.getfield 41, 3) := by decide +kernel
theorem dX3_discount_12 : decode cX3_discount 12 = .ok (.istore_n 2, 1) := by decide +kernel
theorem dX3_discount_13 : decode cX3_discount 13 = .ok (.aload_n 0, 1) := by decide +kernel
theorem dX3_discount_14 : decode cX3_discount 14 = .ok (.iload_n 1, 1) := by decide +kernel
theorem dX3_discount_15 : decode cX3_discount 15 = .ok (.putfield 41, 3) := by decide +kernel
theorem dX3_discount_18 : decode cX3_discount 18 = .ok (.iload_n 2, 1) := by decide +kernel
theorem dX3_discount_19 : decode cX3_discount 19 = .ok (.ireturn, 1) := by decide +kernel
theorem dX3_offer_0 : decode cX3_offer 0 = .ok (.iload_n 1, 1) := by decide +kernel
theorem dX3_offer_1 : decode cX3_offer 1 = .ok (.iconst 0, 1) := by decide +kernel
theorem dX3_offer_2 : decode cX3_offer 2 = .ok (.bipush 99, 2) := by decide +kernel
theorem dX3_offer_4 : decode cX3_offer 4 = .ok (.invokestatic 59, 3) := by decide +kernel
theorem dX3_offer_7 : decode cX3_offer 7 = .ok (.iload_n 2, 1) := by decide +kernel
theorem dX3_offer_8 : decode cX3_offer 8 = .ok (.iconst 0, 1) := by decide +kernel
theorem dX3_offer_9 : decode cX3_offer 9 = .ok (.sipush 1000, 3) := by decide +kernel
theorem dX3_offer_12 : decode cX3_offer 12 = .ok (.invokestatic 59, 3) := by decide +kernel
theorem dX3_offer_15 : decode cX3_offer 15 = .ok (.iload_n 3, 1) := by decide +kernel
theorem dX3_offer_16 : decode cX3_offer 16 = .ok (.iconst 1, 1) := by decide +kernel
theorem dX3_offer_17 : decode cX3_offer 17 = .ok (.bipush 30, 2) := by decide +kernel
theorem dX3_offer_19 : decode cX3_offer 19 = .ok (.invokestatic 59, 3) := by decide +kernel
theorem dX3_offer_22 : decode cX3_offer 22 = .ok (.aload_n 0, 1) := by decide +kernel
theorem dX3_offer_23 : decode cX3_offer 23 = .ok (.getfield 16, 3) := by decide +kernel
theorem dX3_offer_26 : decode cX3_offer 26 = .ok (.invokevirtual 81, 3) := by decide +kernel
theorem dX3_offer_29 : decode cX3_offer 29 = .ok (.bipush 12, 2) := by decide +kernel
theorem dX3_offer_31 : decode cX3_offer 31 = .ok (.if_icmp .lt 13, 3) := by decide +kernel
theorem dX3_offer_34 : decode cX3_offer 34 = .ok (.new 93, 3) := by decide +kernel
theorem dX3_offer_37 : decode cX3_offer 37 = .ok (.dup, 1) := by decide +kernel
theorem dX3_offer_38 : decode cX3_offer 38 = .ok (.ldc 200, 2) := by decide +kernel
theorem dX3_offer_40 : decode cX3_offer 40 = .ok (.invokespecial 97, 3) := by decide +kernel
theorem dX3_offer_43 : decode cX3_offer 43 = .ok (.athrow, 1) := by decide +kernel
theorem dX3_offer_44 : decode cX3_offer 44 = .ok (.aload_n 0, 1) := by decide +kernel
theorem dX3_offer_45 : decode cX3_offer 45 = .ok (.getfield 16, 3) := by decide +kernel
theorem dX3_offer_48 : decode cX3_offer 48 = .ok (.new 202, 3) := by decide +kernel
theorem dX3_offer_51 : decode cX3_offer 51 = .ok (.dup, 1) := by decide +kernel
theorem dX3_offer_52 : decode cX3_offer 52 = .ok (.iload_n 1, 1) := by decide +kernel
theorem dX3_offer_53 : decode cX3_offer 53 = .ok (.iload_n 2, 1) := by decide +kernel
theorem dX3_offer_54 : decode cX3_offer 54 = .ok (.iload_n 3, 1) := by decide +kernel
theorem dX3_offer_55 : decode cX3_offer 55 = .ok (.invokespecial 204, 3) := by decide +kernel
theorem dX3_offer_58 : decode cX3_offer 58 = .ok (.invokevirtual 77, 3) := by decide +kernel
theorem dX3_offer_61 : decode cX3_offer 61 = .ok (.pop, 1) := by decide +kernel
theorem dX3_offer_62 : decode cX3_offer 62 = .ok (.aload_n 0, 1) := by decide +kernel
theorem dX3_offer_63 : decode cX3_offer 63 = .ok (.getfield 16, 3) := by decide +kernel
theorem dX3_offer_66 : decode cX3_offer 66 = .ok (.invokevirtual 81, 3) := by decide +kernel
theorem dX3_offer_69 : decode cX3_offer 69 = .ok (.iconst 1, 1) := by decide +kernel
theorem dX3_offer_70 : decode cX3_offer 70 = .ok (.isub, 1) := by decide +kernel
theorem dX3_offer_71 : decode cX3_offer 71 = .ok (.ireturn, 1) := by decide +kernel
theorem dX3_accept_0 : decode cX3_accept 0 = .ok (.aload_n 0, 1) := by decide +kernel
theorem dX3_accept_1 : decode cX3_accept 1 = .ok (.iload_n 1, 1) := by decide +kernel
theorem dX3_accept_2 : decode cX3_accept 2 = .ok (.invokevirtual 85, 3) := by decide +kernel
theorem dX3_accept_5 : decode cX3_accept 5 = .ok (.astore_n 3, 1) := by decide +kernel
theorem dX3_accept_6 : decode cX3_accept 6 = .ok (.aload_n 0, 1) := by decide +kernel
theorem dX3_accept_7 : decode cX3_accept 7 = .ok (.iload_n 2, 1) := by decide +kernel
theorem dX3_accept_8 : decode cX3_accept 8 = .ok (.invokevirtual 206, 3) := by decide +kernel
theorem dX3_accept_11 : decode cX3_accept 11 = .ok (.astore 4, 2) := by decide +kernel
theorem dX3_accept_13 : decode cX3_accept 13 = .ok (.aload_n 3, 1) := by decide +kernel
theorem dX3_accept_14 : decode cX3_accept 14 = .ok (.getfield 186, 3) := by decide +kernel
theorem dX3_accept_17 : decode cX3_accept 17 = .ok (.iconst 1, 1) := by decide +kernel
theorem dX3_accept_18 : decode cX3_accept 18 = .ok (.if_icmp .eq 10, 3) := by decide +kernel
theorem dX3_accept_21 : decode cX3_accept 21 = .ok (.aload_n 3, 1) := by decide +kernel
theorem dX3_accept_22 : decode cX3_accept 22 = .ok (.invokevirtual 89, 3) := by decide +kernel
theorem dX3_accept_25 : decode cX3_accept 25 = .ok (.ifCond .ne 13, 3) := by decide +kernel
theorem dX3_accept_28 : decode cX3_accept 28 = .ok (.new 93, 3) := by decide +kernel
theorem dX3_accept_31 : decode cX3_accept 31 = .ok (.dup, 1) := by decide +kernel
theorem dX3_accept_32 : decode cX3_accept 32 = .ok (.ldc 210, 2) := by decide +kernel
theorem dX3_accept_34 : decode cX3_accept 34 = .ok (.invokespecial 97, 3) := by decide +kernel
theorem dX3_accept_37 : decode cX3_accept 37 = .ok (.athrow, 1) := by decide +kernel
theorem dX3_accept_38 : decode cX3_accept 38 = .ok (.aload_n 0, 1) := by decide +kernel
theorem dX3_accept_39 : decode cX3_accept 39 = .ok (.iconst 1, 1) := by decide +kernel
theorem dX3_accept_40 : decode cX3_accept 40 = .ok (.invokevirtual 64, 3) := by decide +kernel
theorem dX3_accept_43 : decode cX3_accept 43 = .ok (.aload_n 0, 1) := by decide +kernel
theorem dX3_accept_44 : decode cX3_accept 44 = .ok (.aload_n 3, 1) := by decide +kernel
theorem dX3_accept_45 : decode cX3_accept 45 = .ok (.iload_n 1, 1) := by decide +kernel
theorem dX3_accept_46 : decode cX3_accept 46 = .ok (.aload 4, 2) := by decide +kernel
theorem dX3_accept_48 : decode cX3_accept 48 = .ok (.invokevirtual 212, 3) := by decide +kernel
theorem dX3_accept_51 : decode cX3_accept 51 = .ok (.aload_n 0, 1) := by decide +kernel
theorem dX3_accept_52 : decode cX3_accept 52 = .ok (.getfield 10, 3) := by decide +kernel
theorem dX3_accept_55 : decode cX3_accept 55 = .ok (.invokevirtual 81, 3) := by decide +kernel
theorem dX3_accept_58 : decode cX3_accept 58 = .ok (.iconst 1, 1) := by decide +kernel
theorem dX3_accept_59 : decode cX3_accept 59 = .ok (.isub, 1) := by decide +kernel
theorem dX3_accept_60 : decode cX3_accept 60 = .ok (.ireturn, 1) := by decide +kernel
theorem dX3_swap_0 : decode cX3_swap 0 = .ok (.new 68, 3) := by decide +kernel
theorem dX3_swap_3 : decode cX3_swap 3 = .ok (.dup, 1) := by decide +kernel
theorem dX3_swap_4 : decode cX3_swap 4 = .ok (.aload_n 1, 1) := by decide +kernel
theorem dX3_swap_5 : decode cX3_swap 5 = .ok (.getfield 186, 3) := by decide +kernel
theorem dX3_swap_8 : decode cX3_swap 8 = .ok (.aload_n 1, 1) := by decide +kernel
theorem dX3_swap_9 : decode cX3_swap 9 = .ok (.getfield 216, 3) := by decide +kernel
theorem dX3_swap_12 : decode cX3_swap 12 = .ok (.aload_n 1, 1) := by decide +kernel
theorem dX3_swap_13 : decode cX3_swap 13 = .ok (.getfield 155, 3) := by decide +kernel
theorem dX3_swap_16 : decode cX3_swap 16 = .ok (.aload_n 1, 1) := by decide +kernel
theorem dX3_swap_17 : decode cX3_swap 17 = .ok (.getfield 219, 3) := by decide +kernel
theorem dX3_swap_20 : decode cX3_swap 20 = .ok (.aload_n 1, 1) := by decide +kernel
theorem dX3_swap_21 : decode cX3_swap 21 = .ok (.getfield 103, 3) := by decide +kernel
theorem dX3_swap_24 : decode cX3_swap 24 = .ok (.invokespecial 70, 3) := by decide +kernel
theorem dX3_swap_27 : decode cX3_swap 27 = .ok (.astore 4, 2) := by decide +kernel
theorem dX3_swap_29 : decode cX3_swap 29 = .ok (.aload 4, 2) := by decide +kernel
theorem dX3_swap_31 : decode cX3_swap 31 = .ok (.aload_n 3, 1) := by decide +kernel
theorem dX3_swap_32 : decode cX3_swap 32 = .ok (.aload_n 1, 1) := by decide +kernel
theorem dX3_swap_33 : decode cX3_swap 33 = .ok (.invokevirtual 222, 3) := by decide +kernel
theorem dX3_swap_36 : decode cX3_swap 36 = .ok (.aload_n 3, 1) := by decide +kernel
theorem dX3_swap_37 : decode cX3_swap 37 = .ok (.getfield 225, 3) := by decide +kernel
theorem dX3_swap_40 : decode cX3_swap 40 = .ok (.aload_n 0, 1) := by decide +kernel
theorem dX3_swap_41 : decode cX3_swap 41 = .ok (.getfield 22, 3) := by decide +kernel
theorem dX3_swap_44 : decode cX3_swap 44 = .ok (.aload_n 3, 1) := by decide +kernel
theorem dX3_swap_45 : decode cX3_swap 45 = .ok (.getfield 228, 3) := by decide +kernel
theorem dX3_swap_48 : decode cX3_swap 48 = .ok (.iadd, 1) := by decide +kernel
theorem dX3_swap_49 : decode cX3_swap 49 = .ok (.invokevirtual 73, 3) := by decide +kernel
theorem dX3_swap_52 : decode cX3_swap 52 = .ok (.aload 4, 2) := by decide +kernel
theorem dX3_swap_54 : decode cX3_swap 54 = .ok (.iload_n 2, 1) := by decide +kernel
theorem dX3_swap_55 : decode cX3_swap 55 = .ok (.putfield 231, 3) := by decide +kernel
theorem dX3_swap_58 : decode cX3_swap 58 = .ok (.aload 4, 2) := by decide +kernel
theorem dX3_swap_60 : decode cX3_swap 60 = .ok (.aload_n 1, 1) := by decide +kernel
theorem dX3_swap_61 : decode cX3_swap 61 = .ok (.aload_n 0, 1) := by decide +kernel
theorem dX3_swap_62 : decode cX3_swap 62 = .ok (.getfield 22, 3) := by decide +kernel
theorem dX3_swap_65 : decode cX3_swap 65 = .ok (.aload_n 0, 1) := by decide +kernel
theorem dX3_swap_66 : decode cX3_swap 66 = .ok (.getfield 41, 3) := by decide +kernel
theorem dX3_swap_69 : decode cX3_swap 69 = .ok (.invokevirtual 234, 3) := by decide +kernel
theorem dX3_swap_72 : decode cX3_swap 72 = .ok (.putfield 238, 3) := by decide +kernel
theorem dX3_swap_75 : decode cX3_swap 75 = .ok (.aload 4, 2) := by decide +kernel
theorem dX3_swap_77 : decode cX3_swap 77 = .ok (.aload 4, 2) := by decide +kernel
theorem dX3_swap_79 : decode cX3_swap 79 = .ok (.aload_n 0, 1) := by decide +kernel
theorem dX3_swap_80 : decode cX3_swap 80 = .ok (.getfield 22, 3) := by decide +kernel
theorem dX3_swap_83 : decode cX3_swap 83 = .ok (.aload_n 0, 1) := by decide +kernel
theorem dX3_swap_84 : decode cX3_swap 84 = .ok (.getfield 41, 3) := by decide +kernel
theorem dX3_swap_87 : decode cX3_swap 87 = .ok (.invokevirtual 234, 3) := by decide +kernel
theorem dX3_swap_90 : decode cX3_swap 90 = .ok (.putfield 241, 3) := by decide +kernel
theorem dX3_swap_93 : decode cX3_swap 93 = .ok (.aload 4, 2) := by decide +kernel
theorem dX3_swap_95 : decode cX3_swap 95 = .ok (.aload_n 1, 1) := by decide +kernel
theorem dX3_swap_96 : decode cX3_swap 96 = .ok (.getfield 100, 3) := by decide +kernel
theorem dX3_swap_99 : decode cX3_swap 99 = .ok (.putfield 100, 3) := by decide +kernel
theorem dX3_swap_102 : decode cX3_swap 102 = .ok (.aload_n 1, 1) := by decide +kernel
theorem dX3_swap_103 : decode cX3_swap 103 = .ok (.lconst 0, 1) := by decide +kernel
theorem dX3_swap_104 : decode cX3_swap 104 = .ok (.putfield 100, 3) := by decide +kernel
theorem dX3_swap_107 : decode cX3_swap 107 = .ok (.aload_n 1, 1) := by decide +kernel
theorem dX3_swap_108 : decode cX3_swap 108 = .ok (.iconst 2, 1) := by decide +kernel
theorem dX3_swap_109 : decode cX3_swap 109 = .ok (.putfield 197, 3) := by decide +kernel
theorem dX3_swap_112 : decode cX3_swap 112 = .ok (.aload_n 0, 1) := by decide +kernel
theorem dX3_swap_113 : decode cX3_swap 113 = .ok (.getfield 10, 3) := by decide +kernel
theorem dX3_swap_116 : decode cX3_swap 116 = .ok (.aload 4, 2) := by decide +kernel
theorem dX3_swap_118 : decode cX3_swap 118 = .ok (.invokevirtual 77, 3) := by decide +kernel
theorem dX3_swap_121 : decode cX3_swap 121 = .ok (.pop, 1) := by decide +kernel
theorem dX3_swap_122 : decode cX3_swap 122 = .ok (.return_, 1) := by decide +kernel
theorem dX3_vote_0 : decode cX3_vote 0 = .ok (.aload_n 0, 1) := by decide +kernel
theorem dX3_vote_1 : decode cX3_vote 1 = .ok (.iload_n 1, 1) := by decide +kernel
theorem dX3_vote_2 : decode cX3_vote 2 = .ok (.invokevirtual 85, 3) := by decide +kernel
theorem dX3_vote_5 : decode cX3_vote 5 = .ok (.astore 4, 2) := by decide +kernel
theorem dX3_vote_7 : decode cX3_vote 7 = .ok (.aload_n 0, 1) := by decide +kernel
theorem dX3_vote_8 : decode cX3_vote 8 = .ok (.iload_n 2, 1) := by decide +kernel
theorem dX3_vote_9 : decode cX3_vote 9 = .ok (.invokevirtual 206, 3) := by decide +kernel
theorem dX3_vote_12 : decode cX3_vote 12 = .ok (.astore 5, 2) := by decide +kernel
theorem dX3_vote_14 : decode cX3_vote 14 = .ok (.aload 4, 2) := by decide +kernel
theorem dX3_vote_16 : decode cX3_vote 16 = .ok (.invokevirtual 244, 3) := by decide +kernel
theorem dX3_vote_19 : decode cX3_vote 19 = .ok (.ifCond .ne 13, 3) := by decide +kernel
theorem dX3_vote_22 : decode cX3_vote 22 = .ok (.new 93, 3) := by decide +kernel
theorem dX3_vote_25 : decode cX3_vote 25 = .ok (.dup, 1) := by decide +kernel
theorem dX3_vote_26 : decode cX3_vote 26 = .ok (.ldc 247, 2) := by decide +kernel
theorem dX3_vote_28 : decode cX3_vote 28 = .ok (.invokespecial 97, 3) := by decide +kernel
theorem dX3_vote_31 : decode cX3_vote 31 = .ok (.athrow, 1) := by decide +kernel
theorem dX3_vote_32 : decode cX3_vote 32 = .ok (.aload 5, 2) := by decide +kernel
theorem dX3_vote_34 : decode cX3_vote 34 = .ok (.iload_n 1, 1) := by decide +kernel
theorem dX3_vote_35 : decode cX3_vote 35 = .ok (.iload_n 3, 1) := by decide +kernel
theorem dX3_vote_36 : decode cX3_vote 36 = .ok (.invokevirtual 249, 3) := by decide +kernel
theorem dX3_vote_39 : decode cX3_vote 39 = .ok (.return_, 1) := by decide +kernel
theorem dX3_settle_0 : decode cX3_settle 0 = .ok (.aload_n 0, 1) := by decide +kernel
theorem dX3_settle_1 : decode cX3_settle 1 = .ok (.iload_n 1, 1) := by decide +kernel
theorem dX3_settle_2 : decode cX3_settle 2 = .ok (.invokevirtual 206, 3) := by decide +kernel
theorem dX3_settle_5 : decode cX3_settle 5 = .ok (.astore_n 2, 1) := by decide +kernel
theorem dX3_settle_6 : decode cX3_settle 6 = .ok (.aload_n 0, 1) := by decide +kernel
theorem dX3_settle_7 : decode cX3_settle 7 = .ok (.aload_n 2, 1) := by decide +kernel
theorem dX3_settle_8 : decode cX3_settle 8 = .ok (.invokevirtual 253, 3) := by decide +kernel
theorem dX3_settle_11 : decode cX3_settle 11 = .ok (.istore_n 3, 1) := by decide +kernel
theorem dX3_settle_12 : decode cX3_settle 12 = .ok (.iconst 0, 1) := by decide +kernel
theorem dX3_settle_13 : decode cX3_settle 13 = .ok (.istore 4, 2) := by decide +kernel
theorem dX3_settle_15 : decode cX3_settle 15 = .ok (.iconst 0, 1) := by decide +kernel
theorem dX3_settle_16 : decode cX3_settle 16 = .ok (.istore 5, 2) := by decide +kernel
theorem dX3_settle_18 : decode cX3_settle 18 = .ok (.iload 5, 2) := by decide +kernel
theorem dX3_settle_20 : decode cX3_settle 20 = .ok (.aload_n 0, 1) := by decide +kernel
theorem dX3_settle_21 : decode cX3_settle 21 = .ok (.getfield 10, 3) := by decide +kernel
theorem dX3_settle_24 : decode cX3_settle 24 = .ok (.invokevirtual 81, 3) := by decide +kernel
theorem dX3_settle_27 : decode cX3_settle 27 = .ok (.if_icmp .ge 38, 3) := by decide +kernel
theorem dX3_settle_30 : decode cX3_settle 30 = .ok (.iload 4, 2) := by decide +kernel
theorem dX3_settle_32 : decode cX3_settle 32 = .ok (.aload_n 0, 1) := by decide +kernel
theorem dX3_settle_33 : decode cX3_settle 33 = .ok (.getfield 10, 3) := by decide +kernel
theorem dX3_settle_36 : decode cX3_settle 36 = .ok (.iload 5, 2) := by decide +kernel
theorem dX3_settle_38 : decode cX3_settle 38 = .ok (.invokevirtual 148, 3) := by decide +kernel
theorem dX3_settle_41 : decode cX3_settle 41 = .ok (.checkcast 68, 3) := by decide +kernel
theorem dX3_settle_44 : decode cX3_settle 44 = .ok (.iload_n 3, 1) := by decide +kernel
theorem dX3_settle_45 : decode cX3_settle 45 = .ok (.invokestatic 257, 3) := by decide +kernel
theorem dX3_settle_48 : decode cX3_settle 48 = .ok (.ifCond .eq 7, 3) := by decide +kernel
theorem dX3_settle_51 : decode cX3_settle 51 = .ok (.iconst 1, 1) := by decide +kernel
theorem dX3_settle_52 : decode cX3_settle 52 = .ok (.goto 4, 3) := by decide +kernel
theorem dX3_settle_55 : decode cX3_settle 55 = .ok (.iconst 0, 1) := by decide +kernel
theorem dX3_settle_56 : decode cX3_settle 56 = .ok (.iadd, 1) := by decide +kernel
theorem dX3_settle_57 : decode cX3_settle 57 = .ok (.istore 4, 2) := by decide +kernel
theorem dX3_settle_59 : decode cX3_settle 59 = .ok (.iinc 5 1, 3) := by decide +kernel
theorem dX3_settle_62 : decode cX3_settle 62 = .ok (.goto (-44), 3) := by decide +kernel
theorem dX3_settle_65 : decode cX3_settle 65 = .ok (.aload_n 0, 1) := by decide +kernel
theorem dX3_settle_66 : decode cX3_settle 66 = .ok (.iload 4, 2) := by decide +kernel
theorem dX3_settle_68 : decode cX3_settle 68 = .ok (.invokevirtual 64, 3) := by decide +kernel
theorem dX3_settle_71 : decode cX3_settle 71 = .ok (.aload_n 0, 1) := by decide +kernel
theorem dX3_settle_72 : decode cX3_settle 72 = .ok (.getfield 10, 3) := by decide +kernel
theorem dX3_settle_75 : decode cX3_settle 75 = .ok (.invokevirtual 81, 3) := by decide +kernel
theorem dX3_settle_78 : decode cX3_settle 78 = .ok (.istore 5, 2) := by decide +kernel
theorem dX3_settle_80 : decode cX3_settle 80 = .ok (.iconst 0, 1) := by decide +kernel
theorem dX3_settle_81 : decode cX3_settle 81 = .ok (.istore 6, 2) := by decide +kernel
theorem dX3_settle_83 : decode cX3_settle 83 = .ok (.iload 6, 2) := by decide +kernel
theorem dX3_settle_85 : decode cX3_settle 85 = .ok (.iload 5, 2) := by decide +kernel
theorem dX3_settle_87 : decode cX3_settle 87 = .ok (.if_icmp .ge 41, 3) := by decide +kernel
theorem dX3_settle_90 : decode cX3_settle 90 = .ok (.aload_n 0, 1) := by decide +kernel
theorem dX3_settle_91 : decode cX3_settle 91 = .ok (.getfield 10, 3) := by decide +kernel
theorem dX3_settle_94 : decode cX3_settle 94 = .ok (.iload 6, 2) := by decide +kernel
theorem dX3_settle_96 : decode cX3_settle 96 = .ok (.invokevirtual 148, 3) := by decide +kernel
theorem dX3_settle_99 : decode cX3_settle 99 = .ok (.checkcast 68, 3) := by decide +kernel
theorem dX3_settle_102 : decode cX3_settle 102 = .ok (.astore 7, 2) := by decide +kernel
theorem dX3_settle_104 : decode cX3_settle 104 = .ok (.aload 7, 2) := by decide +kernel
theorem dX3_settle_106 : decode cX3_settle 106 = .ok (.iload_n 3, 1) := by decide +kernel
theorem dX3_settle_107 : decode cX3_settle 107 = .ok (.invokestatic 257, 3) := by decide +kernel
theorem dX3_settle_110 : decode cX3_settle 110 = .ok (.ifCond .eq 12, 3) := by decide +kernel
theorem dX3_settle_113 : decode cX3_settle 113 = .ok (.aload_n 0, 1) := by decide +kernel
theorem dX3_settle_114 : decode cX3_settle 114 = .ok (.aload 7, 2) := by decide +kernel
theorem dX3_settle_116 : decode cX3_settle 116 = .ok (.iload 6, 2) := by decide +kernel
theorem dX3_settle_118 : decode cX3_settle 118 = .ok (.aload_n 2, 1) := by decide +kernel
theorem dX3_settle_119 : decode cX3_settle 119 = .ok (.invokevirtual 212, 3) := by decide +kernel
theorem dX3_settle_122 : decode cX3_settle 122 = .ok (.iinc 6 1, 3) := by decide +kernel
theorem dX3_settle_125 : decode cX3_settle 125 = .ok (.goto (-42), 3) := by decide +kernel
theorem dX3_settle_128 : decode cX3_settle 128 = .ok (.aload_n 2, 1) := by decide +kernel
theorem dX3_settle_129 : decode cX3_settle 129 = .ok (.invokevirtual 261, 3) := by decide +kernel
theorem dX3_settle_132 : decode cX3_settle 132 = .ok (.iload 4, 2) := by decide +kernel
theorem dX3_settle_134 : decode cX3_settle 134 = .ok (.ireturn, 1) := by decide +kernel
theorem dX3_seriesToSwap_0 : decode cX3_seriesToSwap 0 = .ok (.aload_n 0, 1) := by decide +kernel
theorem dX3_seriesToSwap_1 : decode cX3_seriesToSwap 1 = .ok (.aload_n 1, 1) := by decide +kernel
theorem dX3_seriesToSwap_2 : decode cX3_seriesToSwap 2 = .ok (.invokevirtual 264, 3) := by decide +kernel
theorem dX3_seriesToSwap_5 : decode cX3_seriesToSwap 5 = .ok (.istore_n 2, 1) := by decide +kernel
theorem dX3_seriesToSwap_6 : decode cX3_seriesToSwap 6 = .ok (.iconst 0, 1) := by decide +kernel
theorem dX3_seriesToSwap_7 : decode cX3_seriesToSwap 7 = .ok (.istore_n 3, 1) := by decide +kernel
theorem dX3_seriesToSwap_8 : decode cX3_seriesToSwap 8 = .ok (.iconst 0, 1) := by decide +kernel
theorem dX3_seriesToSwap_9 : decode cX3_seriesToSwap 9 = .ok (.istore 4, 2) := by decide +kernel
theorem dX3_seriesToSwap_11 : decode cX3_seriesToSwap 11 = .ok (.iload 4, 2) := by decide +kernel
theorem dX3_seriesToSwap_13 : decode cX3_seriesToSwap 13 = .ok (.iconst 3, 1) := by decide +kernel
theorem dX3_seriesToSwap_14 : decode cX3_seriesToSwap 14 = .ok (.if_icmp .gt 37, 3) := by decide +kernel
theorem dX3_seriesToSwap_17 : decode cX3_seriesToSwap 17 = .ok (.iload_n 3, 1) := by decide +kernel
theorem dX3_seriesToSwap_18 : decode cX3_seriesToSwap 18 = .ok (.iload 4, 2) := by decide +kernel
theorem dX3_seriesToSwap_20 : decode cX3_seriesToSwap 20 = .ok (.iload_n 2, 1) := by decide +kernel
theorem dX3_seriesToSwap_21 : decode cX3_seriesToSwap 21 = .ok (.ifCond .ne 15, 3) := by decide +kernel
theorem dX3_seriesToSwap_24 : decode cX3_seriesToSwap 24 = .ok (.aload_n 0, 1) := by decide +kernel
theorem dX3_seriesToSwap_25 : decode cX3_seriesToSwap 25 = .ok (.aload_n 1, 1) := by decide +kernel
theorem dX3_seriesToSwap_26 : decode cX3_seriesToSwap 26 = .ok (.iload 4, 2) := by decide +kernel
theorem dX3_seriesToSwap_28 : decode cX3_seriesToSwap 28 = .ok (.bipush 75, 2) := by decide +kernel
theorem dX3_seriesToSwap_30 : decode cX3_seriesToSwap 30 = .ok (.invokevirtual 268, 3) := by decide +kernel
theorem dX3_seriesToSwap_33 : decode cX3_seriesToSwap 33 = .ok (.ifCond .eq 7, 3) := by decide +kernel
theorem dX3_seriesToSwap_36 : decode cX3_seriesToSwap 36 = .ok (.iconst 1, 1) := by decide +kernel
theorem dX3_seriesToSwap_37 : decode cX3_seriesToSwap 37 = .ok (.goto 4, 3) := by decide +kernel
theorem dX3_seriesToSwap_40 : decode cX3_seriesToSwap 40 = .ok (.iconst 0, 1) := by decide +kernel
theorem dX3_seriesToSwap_41 : decode cX3_seriesToSwap 41 = .ok (.invokestatic 117, 3) := by decide +kernel
theorem dX3_seriesToSwap_44 : decode cX3_seriesToSwap 44 = .ok (.istore_n 3, 1) := by decide +kernel
theorem dX3_seriesToSwap_45 : decode cX3_seriesToSwap 45 = .ok (.iinc 4 1, 3) := by decide +kernel
theorem dX3_seriesToSwap_48 : decode cX3_seriesToSwap 48 = .ok (.goto (-37), 3) := by decide +kernel
theorem dX3_seriesToSwap_51 : decode cX3_seriesToSwap 51 = .ok (.iload_n 3, 1) := by decide +kernel
theorem dX3_seriesToSwap_52 : decode cX3_seriesToSwap 52 = .ok (.ireturn, 1) := by decide +kernel
theorem dX3_isInSeries_0 : decode cX3_isInSeries 0 = .ok (.aload_n 0, 1) := by decide +kernel
theorem dX3_isInSeries_1 : decode cX3_isInSeries 1 = .ok (.getfield 186, 3) := by decide +kernel
theorem dX3_isInSeries_4 : decode cX3_isInSeries 4 = .ok (.iconst 1, 1) := by decide +kernel
theorem dX3_isInSeries_5 : decode cX3_isInSeries 5 = .ok (.if_icmp .ne 26, 3) := by decide +kernel
theorem dX3_isInSeries_8 : decode cX3_isInSeries 8 = .ok (.aload_n 0, 1) := by decide +kernel
theorem dX3_isInSeries_9 : decode cX3_isInSeries 9 = .ok (.invokevirtual 89, 3) := by decide +kernel
theorem dX3_isInSeries_12 : decode cX3_isInSeries 12 = .ok (.ifCond .eq 19, 3) := by decide +kernel
theorem dX3_isInSeries_15 : decode cX3_isInSeries 15 = .ok (.iload_n 1, 1) := by decide +kernel
theorem dX3_isInSeries_16 : decode cX3_isInSeries 16 = .ok (.i2l, 1) := by decide +kernel
theorem dX3_isInSeries_17 : decode cX3_isInSeries 17 = .ok (.aload_n 0, 1) := by decide +kernel
theorem dX3_isInSeries_18 : decode cX3_isInSeries 18 = .ok (.getfield 219, 3) := by decide +kernel
theorem dX3_isInSeries_21 : decode cX3_isInSeries 21 = .ok (.invokestatic 189, 3) := by decide +kernel
theorem dX3_isInSeries_24 : decode cX3_isInSeries 24 = .ok (.ifCond .eq 7, 3) := by decide +kernel
theorem dX3_isInSeries_27 : decode cX3_isInSeries 27 = .ok (.iconst 1, 1) := by decide +kernel
theorem dX3_isInSeries_28 : decode cX3_isInSeries 28 = .ok (.goto 4, 3) := by decide +kernel
theorem dX3_isInSeries_31 : decode cX3_isInSeries 31 = .ok (.iconst 0, 1) := by decide +kernel
theorem dX3_isInSeries_32 : decode cX3_isInSeries 32 = .ok (.ireturn, 1) := by decide +kernel
theorem dX3_arePooled_0 : decode cX3_arePooled 0 = .ok (.aload_n 0, 1) := by decide +kernel
theorem dX3_arePooled_1 : decode cX3_arePooled 1 = .ok (.aload_n 1, 1) := by decide +kernel
theorem dX3_arePooled_2 : decode cX3_arePooled 2 = .ok (.iconst (-1), 1) := by decide +kernel
theorem dX3_arePooled_3 : decode cX3_arePooled 3 = .ok (.bipush 66, 2) := by decide +kernel
theorem dX3_arePooled_5 : decode cX3_arePooled 5 = .ok (.invokevirtual 268, 3) := by decide +kernel
theorem dX3_arePooled_8 : decode cX3_arePooled 8 = .ok (.istore_n 2, 1) := by decide +kernel
theorem dX3_arePooled_9 : decode cX3_arePooled 9 = .ok (.iconst 0, 1) := by decide +kernel
theorem dX3_arePooled_10 : decode cX3_arePooled 10 = .ok (.istore_n 3, 1) := by decide +kernel
theorem dX3_arePooled_11 : decode cX3_arePooled 11 = .ok (.iload_n 3, 1) := by decide +kernel
theorem dX3_arePooled_12 : decode cX3_arePooled 12 = .ok (.iconst 3, 1) := by decide +kernel
theorem dX3_arePooled_13 : decode cX3_arePooled 13 = .ok (.if_icmp .gt 40, 3) := by decide +kernel
theorem dX3_arePooled_16 : decode cX3_arePooled 16 = .ok (.iload_n 2, 1) := by decide +kernel
theorem dX3_arePooled_17 : decode cX3_arePooled 17 = .ok (.ifCond .eq 28, 3) := by decide +kernel
theorem dX3_arePooled_20 : decode cX3_arePooled 20 = .ok (.aload_n 0, 1) := by decide +kernel
theorem dX3_arePooled_21 : decode cX3_arePooled 21 = .ok (.iload_n 3, 1) := by decide +kernel
theorem dX3_arePooled_22 : decode cX3_arePooled 22 = .ok (.invokevirtual 272, 3) := by decide +kernel
theorem dX3_arePooled_25 : decode cX3_arePooled 25 = .ok (.lconst 0, 1) := by decide +kernel
theorem dX3_arePooled_26 : decode cX3_arePooled 26 = .ok (.lcmp, 1) := by decide +kernel
theorem dX3_arePooled_27 : decode cX3_arePooled 27 = .ok (.ifCond .eq 14, 3) := by decide +kernel
theorem dX3_arePooled_30 : decode cX3_arePooled 30 = .ok (.aload_n 0, 1) := by decide +kernel
theorem dX3_arePooled_31 : decode cX3_arePooled 31 = .ok (.aload_n 1, 1) := by decide +kernel
theorem dX3_arePooled_32 : decode cX3_arePooled 32 = .ok (.iload_n 3, 1) := by decide +kernel
theorem dX3_arePooled_33 : decode cX3_arePooled 33 = .ok (.bipush 50, 2) := by decide +kernel
theorem dX3_arePooled_35 : decode cX3_arePooled 35 = .ok (.invokevirtual 268, 3) := by decide +kernel
theorem dX3_arePooled_38 : decode cX3_arePooled 38 = .ok (.ifCond .eq 7, 3) := by decide +kernel
theorem dX3_arePooled_41 : decode cX3_arePooled 41 = .ok (.iconst 1, 1) := by decide +kernel
theorem dX3_arePooled_42 : decode cX3_arePooled 42 = .ok (.goto 4, 3) := by decide +kernel
theorem dX3_arePooled_45 : decode cX3_arePooled 45 = .ok (.iconst 0, 1) := by decide +kernel
theorem dX3_arePooled_46 : decode cX3_arePooled 46 = .ok (.istore_n 2, 1) := by decide +kernel
theorem dX3_arePooled_47 : decode cX3_arePooled 47 = .ok (.iinc 3 1, 3) := by decide +kernel
theorem dX3_arePooled_50 : decode cX3_arePooled 50 = .ok (.goto (-39), 3) := by decide +kernel
theorem dX3_arePooled_53 : decode cX3_arePooled 53 = .ok (.iload_n 2, 1) := by decide +kernel
theorem dX3_arePooled_54 : decode cX3_arePooled 54 = .ok (.ireturn, 1) := by decide +kernel
theorem dX3_hasMajority_0 : decode cX3_hasMajority 0 = .ok (.aload_n 0, 1) := by decide +kernel
theorem dX3_hasMajority_1 : decode cX3_hasMajority 1 = .ok (.iload_n 2, 1) := by decide +kernel
theorem dX3_hasMajority_2 : decode cX3_hasMajority 2 = .ok (.invokevirtual 272, 3) := by decide +kernel
theorem dX3_hasMajority_5 : decode cX3_hasMajority 5 = .ok (.lstore 4, 2) := by decide +kernel
theorem dX3_hasMajority_7 : decode cX3_hasMajority 7 = .ok (.lload 4, 2) := by decide +kernel
theorem dX3_hasMajority_9 : decode cX3_hasMajority 9 = .ok (.lconst 0, 1) := by decide +kernel
theorem dX3_hasMajority_10 : decode cX3_hasMajority 10 = .ok (.lcmp, 1) := by decide +kernel
theorem dX3_hasMajority_11 : decode cX3_hasMajority 11 = .ok (.ifCond .le 26, 3) := by decide +kernel
theorem dX3_hasMajority_14 : decode cX3_hasMajority 14 = .ok (.aload_n 0, 1) := by decide +kernel
theorem dX3_hasMajority_15 : decode cX3_hasMajority 15 = .ok (.aload_n 1, 1) := by decide +kernel
theorem dX3_hasMajority_16 : decode cX3_hasMajority 16 = .ok (.iload_n 2, 1) := by decide +kernel
theorem dX3_hasMajority_17 : decode cX3_hasMajority 17 = .ok (.invokevirtual 275, 3) := by decide +kernel
theorem dX3_hasMajority_20 : decode cX3_hasMajority 20 = .ok (.ldc2_w 279, 3) := by decide +kernel
theorem dX3_hasMajority_23 : decode cX3_hasMajority 23 = .ok (.lmul, 1) := by decide +kernel
theorem dX3_hasMajority_24 : decode cX3_hasMajority 24 = .ok (.iload_n 3, 1) := by decide +kernel
theorem dX3_hasMajority_25 : decode cX3_hasMajority 25 = .ok (.i2l, 1) := by decide +kernel
theorem dX3_hasMajority_26 : decode cX3_hasMajority 26 = .ok (.lload 4, 2) := by decide +kernel
theorem dX3_hasMajority_28 : decode cX3_hasMajority 28 = .ok (.lmul, 1) := by decide +kernel
theorem dX3_hasMajority_29 : decode cX3_hasMajority 29 = .ok (.lcmp, 1) := by decide +kernel
theorem dX3_hasMajority_30 : decode cX3_hasMajority 30 = .ok (.ifCond .lt 7, 3) := by decide +kernel
theorem dX3_hasMajority_33 : decode cX3_hasMajority 33 = .ok (.iconst 1, 1) := by decide +kernel
theorem dX3_hasMajority_34 : decode cX3_hasMajority 34 = .ok (.goto 4, 3) := by decide +kernel
theorem dX3_hasMajority_37 : decode cX3_hasMajority 37 = .ok (.iconst 0, 1) := by decide +kernel
theorem dX3_hasMajority_38 : decode cX3_hasMajority 38 = .ok (.ireturn, 1) := by decide +kernel
theorem dX3_bondsOwed_0 : decode cX3_bondsOwed 0 = .ok (.lconst 0, 1) := by decide +kernel
theorem dX3_bondsOwed_1 : decode cX3_bondsOwed 1 = .ok (.lstore_n 2, 1) := by decide +kernel
theorem dX3_bondsOwed_2 : decode cX3_bondsOwed 2 = .ok (.iconst 0, 1) := by decide +kernel
theorem dX3_bondsOwed_3 : decode cX3_bondsOwed 3 = .ok (.istore 4, 2) := by decide +kernel
theorem dX3_bondsOwed_5 : decode cX3_bondsOwed 5 = .ok (.iload 4, 2) := by decide +kernel
theorem dX3_bondsOwed_7 : decode cX3_bondsOwed 7 = .ok (.aload_n 0, 1) := by decide +kernel
theorem dX3_bondsOwed_8 : decode cX3_bondsOwed 8 = .ok (.getfield 10, 3) := by decide +kernel
theorem dX3_bondsOwed_11 : decode cX3_bondsOwed 11 = .ok (.invokevirtual 81, 3) := by decide +kernel
theorem dX3_bondsOwed_14 : decode cX3_bondsOwed 14 = .ok (.if_icmp .ge 28, 3) := by decide +kernel
theorem dX3_bondsOwed_17 : decode cX3_bondsOwed 17 = .ok (.lload_n 2, 1) := by decide +kernel
theorem dX3_bondsOwed_18 : decode cX3_bondsOwed 18 = .ok (.aload_n 0, 1) := by decide +kernel
theorem dX3_bondsOwed_19 : decode cX3_bondsOwed 19 = .ok (.getfield 10, 3) := by decide +kernel
theorem dX3_bondsOwed_22 : decode cX3_bondsOwed 22 = .ok (.iload 4, 2) := by decide +kernel
theorem dX3_bondsOwed_24 : decode cX3_bondsOwed 24 = .ok (.invokevirtual 148, 3) := by decide +kernel
theorem dX3_bondsOwed_27 : decode cX3_bondsOwed 27 = .ok (.checkcast 68, 3) := by decide +kernel
theorem dX3_bondsOwed_30 : decode cX3_bondsOwed 30 = .ok (.iload_n 1, 1) := by decide +kernel
theorem dX3_bondsOwed_31 : decode cX3_bondsOwed 31 = .ok (.invokestatic 281, 3) := by decide +kernel
theorem dX3_bondsOwed_34 : decode cX3_bondsOwed 34 = .ok (.ladd, 1) := by decide +kernel
theorem dX3_bondsOwed_35 : decode cX3_bondsOwed 35 = .ok (.lstore_n 2, 1) := by decide +kernel
theorem dX3_bondsOwed_36 : decode cX3_bondsOwed 36 = .ok (.iinc 4 1, 3) := by decide +kernel
theorem dX3_bondsOwed_39 : decode cX3_bondsOwed 39 = .ok (.goto (-34), 3) := by decide +kernel
theorem dX3_bondsOwed_42 : decode cX3_bondsOwed 42 = .ok (.lload_n 2, 1) := by decide +kernel
theorem dX3_bondsOwed_43 : decode cX3_bondsOwed 43 = .ok (.lreturn, 1) := by decide +kernel
theorem dX3_bondsOwedWithYes_0 : decode cX3_bondsOwedWithYes 0 = .ok (.lconst 0, 1) := by decide +kernel
theorem dX3_bondsOwedWithYes_1 : decode cX3_bondsOwedWithYes 1 = .ok (.lstore_n 3, 1) := by decide +kernel
theorem dX3_bondsOwedWithYes_2 : decode cX3_bondsOwedWithYes 2 = .ok (.iconst 0, 1) := by decide +kernel
theorem dX3_bondsOwedWithYes_3 : decode cX3_bondsOwedWithYes 3 = .ok (.istore 5, 2) := by decide +kernel
theorem dX3_bondsOwedWithYes_5 : decode cX3_bondsOwedWithYes 5 = .ok (.iload 5, 2) := by decide +kernel
theorem dX3_bondsOwedWithYes_7 : decode cX3_bondsOwedWithYes 7 = .ok (.aload_n 0, 1) := by decide +kernel
theorem dX3_bondsOwedWithYes_8 : decode cX3_bondsOwedWithYes 8 = .ok (.getfield 10, 3) := by decide +kernel
theorem dX3_bondsOwedWithYes_11 : decode cX3_bondsOwedWithYes 11 = .ok (.invokevirtual 81, 3) := by decide +kernel
theorem dX3_bondsOwedWithYes_14 : decode cX3_bondsOwedWithYes 14 = .ok (.if_icmp .ge 41, 3) := by decide +kernel
theorem dX3_bondsOwedWithYes_17 : decode cX3_bondsOwedWithYes 17 = .ok (.lload_n 3, 1) := by decide +kernel
theorem dX3_bondsOwedWithYes_18 : decode cX3_bondsOwedWithYes 18 = .ok (.aload_n 1, 1) := by decide +kernel
theorem dX3_bondsOwedWithYes_19 : decode cX3_bondsOwedWithYes 19 = .ok (.iload 5, 2) := by decide +kernel
theorem dX3_bondsOwedWithYes_21 : decode cX3_bondsOwedWithYes 21 = .ok (.invokevirtual 285, 3) := by decide +kernel
theorem dX3_bondsOwedWithYes_24 : decode cX3_bondsOwedWithYes 24 = .ok (.ifCond .eq 22, 3) := by decide +kernel
theorem dX3_bondsOwedWithYes_27 : decode cX3_bondsOwedWithYes 27 = .ok (.aload_n 0, 1) := by decide +kernel
theorem dX3_bondsOwedWithYes_28 : decode cX3_bondsOwedWithYes 28 = .ok (.getfield 10, 3) := by decide +kernel
theorem dX3_bondsOwedWithYes_31 : decode cX3_bondsOwedWithYes 31 = .ok (.iload 5, 2) := by decide +kernel
theorem dX3_bondsOwedWithYes_33 : decode cX3_bondsOwedWithYes 33 = .ok (.invokevirtual 148, 3) := by decide +kernel
theorem dX3_bondsOwedWithYes_36 : decode cX3_bondsOwedWithYes 36 = .ok (.checkcast 68, 3) := by decide +kernel
theorem dX3_bondsOwedWithYes_39 : decode cX3_bondsOwedWithYes 39 = .ok (.iload_n 2, 1) := by decide +kernel
theorem dX3_bondsOwedWithYes_40 : decode cX3_bondsOwedWithYes 40 = .ok (.invokestatic 281, 3) := by decide +kernel
theorem dX3_bondsOwedWithYes_43 : decode cX3_bondsOwedWithYes 43 = .ok (.goto 4, 3) := by decide +kernel
theorem dX3_bondsOwedWithYes_46 : decode cX3_bondsOwedWithYes 46 = .ok (.lconst 0, 1) := by decide +kernel
theorem dX3_bondsOwedWithYes_47 : decode cX3_bondsOwedWithYes 47 = .ok (.ladd, 1) := by decide +kernel
theorem dX3_bondsOwedWithYes_48 : decode cX3_bondsOwedWithYes 48 = .ok (.lstore_n 3, 1) := by decide +kernel
theorem dX3_bondsOwedWithYes_49 : decode cX3_bondsOwedWithYes 49 = .ok (.iinc 5 1, 3) := by decide +kernel
theorem dX3_bondsOwedWithYes_52 : decode cX3_bondsOwedWithYes 52 = .ok (.goto (-47), 3) := by decide +kernel
theorem dX3_bondsOwedWithYes_55 : decode cX3_bondsOwedWithYes 55 = .ok (.lload_n 3, 1) := by decide +kernel
theorem dX3_bondsOwedWithYes_56 : decode cX3_bondsOwedWithYes 56 = .ok (.lreturn, 1) := by decide +kernel
theorem dX3_votingWeight_0 : decode cX3_votingWeight 0 = .ok (.aload_n 0, 1) := by decide +kernel
theorem dX3_votingWeight_1 : decode cX3_votingWeight 1 = .ok (.invokevirtual 244, 3) := by decide +kernel
theorem dX3_votingWeight_4 : decode cX3_votingWeight 4 = .ok (.ifCond .eq 20, 3) := by decide +kernel
theorem dX3_votingWeight_7 : decode cX3_votingWeight 7 = .ok (.iload_n 1, 1) := by decide +kernel
theorem dX3_votingWeight_8 : decode cX3_votingWeight 8 = .ok (.iconst (-1), 1) := by decide +kernel
theorem dX3_votingWeight_9 : decode cX3_votingWeight 9 = .ok (.if_icmp .eq 11, 3) := by decide +kernel
theorem dX3_votingWeight_12 : decode cX3_votingWeight 12 = .ok (.iload_n 1, 1) := by decide +kernel
theorem dX3_votingWeight_13 : decode cX3_votingWeight 13 = .ok (.aload_n 0, 1) := by decide +kernel
theorem dX3_votingWeight_14 : decode cX3_votingWeight 14 = .ok (.getfield 219, 3) := by decide +kernel
theorem dX3_votingWeight_17 : decode cX3_votingWeight 17 = .ok (.if_icmp .ne 7, 3) := by decide +kernel
theorem dX3_votingWeight_20 : decode cX3_votingWeight 20 = .ok (.iconst 1, 1) := by decide +kernel
theorem dX3_votingWeight_21 : decode cX3_votingWeight 21 = .ok (.goto 4, 3) := by decide +kernel
theorem dX3_votingWeight_24 : decode cX3_votingWeight 24 = .ok (.iconst 0, 1) := by decide +kernel
theorem dX3_votingWeight_25 : decode cX3_votingWeight 25 = .ok (.istore_n 2, 1) := by decide +kernel
theorem dX3_votingWeight_26 : decode cX3_votingWeight 26 = .ok (.iload_n 2, 1) := by decide +kernel
theorem dX3_votingWeight_27 : decode cX3_votingWeight 27 = .ok (.ifCond .eq 10, 3) := by decide +kernel
theorem dX3_votingWeight_30 : decode cX3_votingWeight 30 = .ok (.aload_n 0, 1) := by decide +kernel
theorem dX3_votingWeight_31 : decode cX3_votingWeight 31 = .ok (.invokevirtual 289, 3) := by decide +kernel
theorem dX3_votingWeight_34 : decode cX3_votingWeight 34 = .ok (.goto 4, 3) := by decide +kernel
theorem dX3_votingWeight_37 : decode cX3_votingWeight 37 = .ok (.lconst 0, 1) := by decide +kernel
theorem dX3_votingWeight_38 : decode cX3_votingWeight 38 = .ok (.lreturn, 1) := by decide +kernel
theorem dX3_thing_0 : decode cX3_thing 0 = .ok (.iload_n 1, 1) := by decide +kernel
theorem dX3_thing_1 : decode cX3_thing 1 = .ok (.iconst 1, 1) := by decide +kernel
theorem dX3_thing_2 : decode cX3_thing 2 = .ok (.ldc 63, 2) := by decide +kernel
theorem dX3_thing_4 : decode cX3_thing 4 = .ok (.invokestatic 59, 3) := by decide +kernel
theorem dX3_thing_7 : decode cX3_thing 7 = .ok (.aload_n 0, 1) := by decide +kernel
theorem dX3_thing_8 : decode cX3_thing 8 = .ok (.getfield 19, 3) := by decide +kernel
theorem dX3_thing_11 : decode cX3_thing 11 = .ok (.invokevirtual 81, 3) := by decide +kernel
theorem dX3_thing_14 : decode cX3_thing 14 = .ok (.bipush 10, 2) := by decide +kernel
theorem dX3_thing_16 : decode cX3_thing 16 = .ok (.if_icmp .lt 14, 3) := by decide +kernel
theorem dX3_thing_19 : decode cX3_thing 19 = .ok (.new 93, 3) := by decide +kernel
theorem dX3_thing_22 : decode cX3_thing 22 = .ok (.dup, 1) := by decide +kernel
theorem dX3_thing_23 : decode cX3_thing 23 = .ok (.ldc_w 292, 3) := by decide +kernel
theorem dX3_thing_26 : decode cX3_thing 26 = .ok (.invokespecial 97, 3) := by decide +kernel
theorem dX3_thing_29 : decode cX3_thing 29 = .ok (.athrow, 1) := by decide +kernel
theorem dX3_thing_30 : decode cX3_thing 30 = .ok (.aload_n 0, 1) := by decide +kernel
theorem dX3_thing_31 : decode cX3_thing 31 = .ok (.getfield 19, 3) := by decide +kernel
theorem dX3_thing_34 : decode cX3_thing 34 = .ok (.new 294, 3) := by decide +kernel
theorem dX3_thing_37 : decode cX3_thing 37 = .ok (.dup, 1) := by decide +kernel
theorem dX3_thing_38 : decode cX3_thing 38 = .ok (.iload_n 1, 1) := by decide +kernel
theorem dX3_thing_39 : decode cX3_thing 39 = .ok (.invokespecial 296, 3) := by decide +kernel
theorem dX3_thing_42 : decode cX3_thing 42 = .ok (.invokevirtual 77, 3) := by decide +kernel
theorem dX3_thing_45 : decode cX3_thing 45 = .ok (.pop, 1) := by decide +kernel
theorem dX3_thing_46 : decode cX3_thing 46 = .ok (.aload_n 0, 1) := by decide +kernel
theorem dX3_thing_47 : decode cX3_thing 47 = .ok (.getfield 19, 3) := by decide +kernel
theorem dX3_thing_50 : decode cX3_thing 50 = .ok (.invokevirtual 81, 3) := by decide +kernel
theorem dX3_thing_53 : decode cX3_thing 53 = .ok (.iconst 1, 1) := by decide +kernel
theorem dX3_thing_54 : decode cX3_thing 54 = .ok (.isub, 1) := by decide +kernel
theorem dX3_thing_55 : decode cX3_thing 55 = .ok (.ireturn, 1) := by decide +kernel
theorem dX3_sue_0 : decode cX3_sue 0 = .ok (.aload_n 0, 1) := by decide +kernel
theorem dX3_sue_1 : decode cX3_sue 1 = .ok (.iload_n 1, 1) := by decide +kernel
theorem dX3_sue_2 : decode cX3_sue 2 = .ok (.invokevirtual 85, 3) := by decide +kernel
theorem dX3_sue_5 : decode cX3_sue 5 = .ok (.astore_n 2, 1) := by decide +kernel
theorem dX3_sue_6 : decode cX3_sue 6 = .ok (.aload_n 2, 1) := by decide +kernel
theorem dX3_sue_7 : decode cX3_sue 7 = .ok (.invokevirtual 89, 3) := by decide +kernel
theorem dX3_sue_10 : decode cX3_sue 10 = .ok (.ifCond .eq 19, 3) := by decide +kernel
theorem dX3_sue_13 : decode cX3_sue 13 = .ok (.aload_n 2, 1) := by decide +kernel
theorem dX3_sue_14 : decode cX3_sue 14 = .ok (.getfield 174, 3) := by decide +kernel
theorem dX3_sue_17 : decode cX3_sue 17 = .ok (.lconst 0, 1) := by decide +kernel
theorem dX3_sue_18 : decode cX3_sue 18 = .ok (.lcmp, 1) := by decide +kernel
theorem dX3_sue_19 : decode cX3_sue 19 = .ok (.ifCond .eq 10, 3) := by decide +kernel
theorem dX3_sue_22 : decode cX3_sue 22 = .ok (.aload_n 2, 1) := by decide +kernel
theorem dX3_sue_23 : decode cX3_sue 23 = .ok (.getfield 152, 3) := by decide +kernel
theorem dX3_sue_26 : decode cX3_sue 26 = .ok (.ifCond .eq 14, 3) := by decide +kernel
theorem dX3_sue_29 : decode cX3_sue 29 = .ok (.new 93, 3) := by decide +kernel
theorem dX3_sue_32 : decode cX3_sue 32 = .ok (.dup, 1) := by decide +kernel
theorem dX3_sue_33 : decode cX3_sue 33 = .ok (.ldc_w 298, 3) := by decide +kernel
theorem dX3_sue_36 : decode cX3_sue 36 = .ok (.invokespecial 97, 3) := by decide +kernel
theorem dX3_sue_39 : decode cX3_sue 39 = .ok (.athrow, 1) := by decide +kernel
theorem dX3_sue_40 : decode cX3_sue 40 = .ok (.aload_n 2, 1) := by decide +kernel
theorem dX3_sue_41 : decode cX3_sue 41 = .ok (.iconst 1, 1) := by decide +kernel
theorem dX3_sue_42 : decode cX3_sue 42 = .ok (.putfield 152, 3) := by decide +kernel
theorem dX3_sue_45 : decode cX3_sue 45 = .ok (.return_, 1) := by decide +kernel
theorem dX3_seize_0 : decode cX3_seize 0 = .ok (.aload_n 0, 1) := by decide +kernel
theorem dX3_seize_1 : decode cX3_seize 1 = .ok (.iload_n 1, 1) := by decide +kernel
theorem dX3_seize_2 : decode cX3_seize 2 = .ok (.invokevirtual 85, 3) := by decide +kernel
theorem dX3_seize_5 : decode cX3_seize 5 = .ok (.astore_n 3, 1) := by decide +kernel
theorem dX3_seize_6 : decode cX3_seize 6 = .ok (.aload_n 0, 1) := by decide +kernel
theorem dX3_seize_7 : decode cX3_seize 7 = .ok (.iload_n 2, 1) := by decide +kernel
theorem dX3_seize_8 : decode cX3_seize 8 = .ok (.invokevirtual 300, 3) := by decide +kernel
theorem dX3_seize_11 : decode cX3_seize 11 = .ok (.astore 4, 2) := by decide +kernel
theorem dX3_seize_13 : decode cX3_seize 13 = .ok (.aload_n 3, 1) := by decide +kernel
theorem dX3_seize_14 : decode cX3_seize 14 = .ok (.invokevirtual 89, 3) := by decide +kernel
theorem dX3_seize_17 : decode cX3_seize 17 = .ok (.ifCond .eq 19, 3) := by decide +kernel
theorem dX3_seize_20 : decode cX3_seize 20 = .ok (.aload_n 3, 1) := by decide +kernel
theorem dX3_seize_21 : decode cX3_seize 21 = .ok (.getfield 152, 3) := by decide +kernel
theorem dX3_seize_24 : decode cX3_seize 24 = .ok (.iconst 2, 1) := by decide +kernel
theorem dX3_seize_25 : decode cX3_seize 25 = .ok (.if_icmp .ne 11, 3) := by decide +kernel
theorem dX3_seize_28 : decode cX3_seize 28 = .ok (.aload 4, 2) := by decide +kernel
theorem dX3_seize_30 : decode cX3_seize 30 = .ok (.getfield 304, 3) := by decide +kernel
theorem dX3_seize_33 : decode cX3_seize 33 = .ok (.ifCond .eq 14, 3) := by decide +kernel
theorem dX3_seize_36 : decode cX3_seize 36 = .ok (.new 93, 3) := by decide +kernel
theorem dX3_seize_39 : decode cX3_seize 39 = .ok (.dup, 1) := by decide +kernel
theorem dX3_seize_40 : decode cX3_seize 40 = .ok (.ldc_w 307, 3) := by decide +kernel
theorem dX3_seize_43 : decode cX3_seize 43 = .ok (.invokespecial 97, 3) := by decide +kernel
theorem dX3_seize_46 : decode cX3_seize 46 = .ok (.athrow, 1) := by decide +kernel
theorem dX3_seize_47 : decode cX3_seize 47 = .ok (.aload 4, 2) := by decide +kernel
theorem dX3_seize_49 : decode cX3_seize 49 = .ok (.getfield 309, 3) := by decide +kernel
theorem dX3_seize_52 : decode cX3_seize 52 = .ok (.i2l, 1) := by decide +kernel
theorem dX3_seize_53 : decode cX3_seize 53 = .ok (.aload_n 3, 1) := by decide +kernel
theorem dX3_seize_54 : decode cX3_seize 54 = .ok (.invokevirtual 289, 3) := by decide +kernel
theorem dX3_seize_57 : decode cX3_seize 57 = .ok (.invokestatic 181, 3) := by decide +kernel
theorem dX3_seize_60 : decode cX3_seize 60 = .ok (.lstore 5, 2) := by decide +kernel
theorem dX3_seize_62 : decode cX3_seize 62 = .ok (.aload 4, 2) := by decide +kernel
theorem dX3_seize_64 : decode cX3_seize 64 = .ok (.iconst 1, 1) := by decide +kernel
theorem dX3_seize_65 : decode cX3_seize 65 = .ok (.putfield 304, 3) := by decide +kernel
theorem dX3_seize_68 : decode cX3_seize 68 = .ok (.aload_n 3, 1) := by decide +kernel
theorem dX3_seize_69 : decode cX3_seize 69 = .ok (.lload 5, 2) := by decide +kernel
theorem dX3_seize_71 : decode cX3_seize 71 = .ok (.invokevirtual 193, 3) := by decide +kernel
theorem dX3_seize_74 : decode cX3_seize 74 = .ok (.aload_n 0, 1) := by decide +kernel
theorem dX3_seize_75 : decode cX3_seize 75 = .ok (.dup, 1) := by decide +kernel
theorem dX3_seize_76 : decode cX3_seize 76 = .ok (.getfield 26, 3) := by decide +kernel
theorem dX3_seize_79 : decode cX3_seize 79 = .ok (.aload 4, 2) := by decide +kernel
theorem dX3_seize_81 : decode cX3_seize 81 = .ok (.getfield 309, 3) := by decide +kernel
theorem dX3_seize_84 : decode cX3_seize 84 = .ok (.i2l, 1) := by decide +kernel
theorem dX3_seize_85 : decode cX3_seize 85 = .ok (.lload 5, 2) := by decide +kernel
theorem dX3_seize_87 : decode cX3_seize 87 = .ok (.lsub, 1) := by decide +kernel
theorem dX3_seize_88 : decode cX3_seize 88 = .ok (.ladd, 1) := by decide +kernel
theorem dX3_seize_89 : decode cX3_seize 89 = .ok (.putfield 26, 3) := by decide +kernel
theorem dX3_seize_92 : decode cX3_seize 92 = .ok (.aload_n 3, 1) := by decide +kernel
