theorem dX3_seize_93 : decode cX3_seize 93 = .ok (.invokevirtual 289, 3) := by decide +kernel
theorem dX3_seize_96 : decode cX3_seize 96 = .ok (.lconst 0, 1) := by decide +kernel
theorem dX3_seize_97 : decode cX3_seize 97 = .ok (.lcmp, 1) := by decide +kernel
theorem dX3_seize_98 : decode cX3_seize 98 = .ok (.ifCond .ne 8, 3) := by decide +kernel
theorem dX3_seize_101 : decode cX3_seize 101 = .ok (.aload_n 0, 1) := by decide +kernel
theorem dX3_seize_102 : decode cX3_seize 102 = .ok (.aload_n 3, 1) := by decide +kernel
theorem dX3_seize_103 : decode cX3_seize 103 = .ok (.invokevirtual 177, 3) := by decide +kernel
theorem dX3_seize_106 : decode cX3_seize 106 = .ok (.lload 5, 2) := by decide +kernel
theorem dX3_seize_108 : decode cX3_seize 108 = .ok (.lreturn, 1) := by decide +kernel
theorem dX3_programme_0 : decode cX3_programme 0 = .ok (.iload_n 1, 1) := by decide +kernel
theorem dX3_programme_1 : decode cX3_programme 1 = .ok (.iconst 1, 1) := by decide +kernel
theorem dX3_programme_2 : decode cX3_programme 2 = .ok (.ldc 63, 2) := by decide +kernel
theorem dX3_programme_4 : decode cX3_programme 4 = .ok (.invokestatic 59, 3) := by decide +kernel
theorem dX3_programme_7 : decode cX3_programme 7 = .ok (.iload_n 2, 1) := by decide +kernel
theorem dX3_programme_8 : decode cX3_programme 8 = .ok (.sipush (-200), 3) := by decide +kernel
theorem dX3_programme_11 : decode cX3_programme 11 = .ok (.sipush 200, 3) := by decide +kernel
theorem dX3_programme_14 : decode cX3_programme 14 = .ok (.invokestatic 59, 3) := by decide +kernel
theorem dX3_programme_17 : decode cX3_programme 17 = .ok (.iload_n 3, 1) := by decide +kernel
theorem dX3_programme_18 : decode cX3_programme 18 = .ok (.iconst 1, 1) := by decide +kernel
theorem dX3_programme_19 : decode cX3_programme 19 = .ok (.bipush 10, 2) := by decide +kernel
theorem dX3_programme_21 : decode cX3_programme 21 = .ok (.invokestatic 59, 3) := by decide +kernel
theorem dX3_programme_24 : decode cX3_programme 24 = .ok (.aload_n 0, 1) := by decide +kernel
theorem dX3_programme_25 : decode cX3_programme 25 = .ok (.iload_n 1, 1) := by decide +kernel
theorem dX3_programme_26 : decode cX3_programme 26 = .ok (.putfield 50, 3) := by decide +kernel
theorem dX3_programme_29 : decode cX3_programme 29 = .ok (.aload_n 0, 1) := by decide +kernel
theorem dX3_programme_30 : decode cX3_programme 30 = .ok (.iload_n 2, 1) := by decide +kernel
theorem dX3_programme_31 : decode cX3_programme 31 = .ok (.putfield 53, 3) := by decide +kernel
theorem dX3_programme_34 : decode cX3_programme 34 = .ok (.aload_n 0, 1) := by decide +kernel
theorem dX3_programme_35 : decode cX3_programme 35 = .ok (.iload_n 3, 1) := by decide +kernel
theorem dX3_programme_36 : decode cX3_programme 36 = .ok (.putfield 56, 3) := by decide +kernel
theorem dX3_programme_39 : decode cX3_programme 39 = .ok (.return_, 1) := by decide +kernel
theorem dX3_assure_0 : decode cX3_assure 0 = .ok (.iload_n 1, 1) := by decide +kernel
theorem dX3_assure_1 : decode cX3_assure 1 = .ok (.ifCond .lt 9, 3) := by decide +kernel
theorem dX3_assure_4 : decode cX3_assure 4 = .ok (.iload_n 1, 1) := by decide +kernel
theorem dX3_assure_5 : decode cX3_assure 5 = .ok (.bipush 7, 2) := by decide +kernel
theorem dX3_assure_7 : decode cX3_assure 7 = .ok (.if_icmp .le 14, 3) := by decide +kernel
theorem dX3_assure_10 : decode cX3_assure 10 = .ok (.new 311, 3) := by decide +kernel
theorem dX3_assure_13 : decode cX3_assure 13 = .ok (.dup, 1) := by decide +kernel
theorem dX3_assure_14 : decode cX3_assure 14 = .ok (.ldc_w 313, 3) := by decide +kernel
theorem dX3_assure_17 : decode cX3_assure 17 = .ok (.invokespecial 315, 3) := by decide +kernel
theorem dX3_assure_20 : decode cX3_assure 20 = .ok (.athrow, 1) := by decide +kernel
theorem dX3_assure_21 : decode cX3_assure 21 = .ok (.aload_n 0, 1) := by decide +kernel
theorem dX3_assure_22 : decode cX3_assure 22 = .ok (.getfield 47, 3) := by decide +kernel
theorem dX3_assure_25 : decode cX3_assure 25 = .ok (.istore_n 3, 1) := by decide +kernel
theorem dX3_assure_26 : decode cX3_assure 26 = .ok (.aload_n 0, 1) := by decide +kernel
theorem dX3_assure_27 : decode cX3_assure 27 = .ok (.iload_n 3, 1) := by decide +kernel
theorem dX3_assure_28 : decode cX3_assure 28 = .ok (.iload_n 1, 1) := by decide +kernel
theorem dX3_assure_29 : decode cX3_assure 29 = .ok (.iload_n 2, 1) := by decide +kernel
theorem dX3_assure_30 : decode cX3_assure 30 = .ok (.invokestatic 117, 3) := by decide +kernel
theorem dX3_assure_33 : decode cX3_assure 33 = .ok (.putfield 47, 3) := by decide +kernel
theorem dX3_assure_36 : decode cX3_assure 36 = .ok (.aload_n 0, 1) := by decide +kernel
theorem dX3_assure_37 : decode cX3_assure 37 = .ok (.getfield 47, 3) := by decide +kernel
theorem dX3_assure_40 : decode cX3_assure 40 = .ok (.iload_n 3, 1) := by decide +kernel
theorem dX3_assure_41 : decode cX3_assure 41 = .ok (.if_icmp .eq 7, 3) := by decide +kernel
theorem dX3_assure_44 : decode cX3_assure 44 = .ok (.iconst 1, 1) := by decide +kernel
theorem dX3_assure_45 : decode cX3_assure 45 = .ok (.goto 4, 3) := by decide +kernel
theorem dX3_assure_48 : decode cX3_assure 48 = .ok (.iconst 0, 1) := by decide +kernel
theorem dX3_assure_49 : decode cX3_assure 49 = .ok (.ireturn, 1) := by decide +kernel
theorem dX3_review_0 : decode cX3_review 0 = .ok (.aload_n 0, 1) := by decide +kernel
theorem dX3_review_1 : decode cX3_review 1 = .ok (.getfield 56, 3) := by decide +kernel
theorem dX3_review_4 : decode cX3_review 4 = .ok (.ifCond .ne 14, 3) := by decide +kernel
theorem dX3_review_7 : decode cX3_review 7 = .ok (.new 93, 3) := by decide +kernel
theorem dX3_review_10 : decode cX3_review 10 = .ok (.dup, 1) := by decide +kernel
theorem dX3_review_11 : decode cX3_review 11 = .ok (.ldc_w 316, 3) := by decide +kernel
theorem dX3_review_14 : decode cX3_review 14 = .ok (.invokespecial 97, 3) := by decide +kernel
theorem dX3_review_17 : decode cX3_review 17 = .ok (.athrow, 1) := by decide +kernel
theorem dX3_review_18 : decode cX3_review 18 = .ok (.aload_n 0, 1) := by decide +kernel
theorem dX3_review_19 : decode cX3_review 19 = .ok (.iconst 1, 1) := by decide +kernel
theorem dX3_review_20 : decode cX3_review 20 = .ok (.invokevirtual 64, 3) := by decide +kernel
theorem dX3_review_23 : decode cX3_review 23 = .ok (.aload_n 0, 1) := by decide +kernel
theorem dX3_review_24 : decode cX3_review 24 = .ok (.invokevirtual 318, 3) := by decide +kernel
theorem dX3_review_27 : decode cX3_review 27 = .ok (.istore_n 1, 1) := by decide +kernel
theorem dX3_review_28 : decode cX3_review 28 = .ok (.iload_n 1, 1) := by decide +kernel
theorem dX3_review_29 : decode cX3_review 29 = .ok (.ifCond .ne 7, 3) := by decide +kernel
theorem dX3_review_32 : decode cX3_review 32 = .ok (.aload_n 0, 1) := by decide +kernel
theorem dX3_review_33 : decode cX3_review 33 = .ok (.invokevirtual 321, 3) := by decide +kernel
theorem dX3_review_36 : decode cX3_review 36 = .ok (.iload_n 1, 1) := by decide +kernel
theorem dX3_review_37 : decode cX3_review 37 = .ok (.ireturn, 1) := by decide +kernel
theorem dX3_reasonToFail_0 : decode cX3_reasonToFail 0 = .ok (.aload_n 0, 1) := by decide +kernel
theorem dX3_reasonToFail_1 : decode cX3_reasonToFail 1 = .ok (.getfield 38, 3) := by decide +kernel
theorem dX3_reasonToFail_4 : decode cX3_reasonToFail 4 = .ok (.aload_n 0, 1) := by decide +kernel
theorem dX3_reasonToFail_5 : decode cX3_reasonToFail 5 = .ok (.getfield 53, 3) := by decide +kernel
theorem dX3_reasonToFail_8 : decode cX3_reasonToFail 8 = .ok (.if_icmp .ge 5, 3) := by decide +kernel
theorem dX3_reasonToFail_11 : decode cX3_reasonToFail 11 = .ok (.iconst 1, 1) := by decide +kernel
theorem dX3_reasonToFail_12 : decode cX3_reasonToFail 12 = .ok (.ireturn, 1) := by decide +kernel
theorem dX3_reasonToFail_13 : decode cX3_reasonToFail 13 = .ok (.aload_n 0, 1) := by decide +kernel
theorem dX3_reasonToFail_14 : decode cX3_reasonToFail 14 = .ok (.invokevirtual 324, 3) := by decide +kernel
theorem dX3_reasonToFail_17 : decode cX3_reasonToFail 17 = .ok (.ifCond .eq 5, 3) := by decide +kernel
theorem dX3_reasonToFail_20 : decode cX3_reasonToFail 20 = .ok (.iconst 2, 1) := by decide +kernel
theorem dX3_reasonToFail_21 : decode cX3_reasonToFail 21 = .ok (.ireturn, 1) := by decide +kernel
theorem dX3_reasonToFail_22 : decode cX3_reasonToFail 22 = .ok (.aload_n 0, 1) := by decide +kernel
theorem dX3_reasonToFail_23 : decode cX3_reasonToFail 23 = .ok (.iconst 1, 1) := by decide +kernel
theorem dX3_reasonToFail_24 : decode cX3_reasonToFail 24 = .ok (.invokevirtual 327, 3) := by decide +kernel
theorem dX3_reasonToFail_27 : decode cX3_reasonToFail 27 = .ok (.ldc2_w 331, 3) := by decide +kernel
theorem dX3_reasonToFail_30 : decode cX3_reasonToFail 30 = .ok (.lmul, 1) := by decide +kernel
theorem dX3_reasonToFail_31 : decode cX3_reasonToFail 31 = .ok (.aload_n 0, 1) := by decide +kernel
theorem dX3_reasonToFail_32 : decode cX3_reasonToFail 32 = .ok (.iconst 0, 1) := by decide +kernel
theorem dX3_reasonToFail_33 : decode cX3_reasonToFail 33 = .ok (.invokevirtual 327, 3) := by decide +kernel
theorem dX3_reasonToFail_36 : decode cX3_reasonToFail 36 = .ok (.lcmp, 1) := by decide +kernel
theorem dX3_reasonToFail_37 : decode cX3_reasonToFail 37 = .ok (.ifCond .ge 7, 3) := by decide +kernel
theorem dX3_reasonToFail_40 : decode cX3_reasonToFail 40 = .ok (.iconst 3, 1) := by decide +kernel
theorem dX3_reasonToFail_41 : decode cX3_reasonToFail 41 = .ok (.goto 4, 3) := by decide +kernel
theorem dX3_reasonToFail_44 : decode cX3_reasonToFail 44 = .ok (.iconst 0, 1) := by decide +kernel
theorem dX3_reasonToFail_45 : decode cX3_reasonToFail 45 = .ok (.ireturn, 1) := by decide +kernel
theorem dX3_hasFundArrears_0 : decode cX3_hasFundArrears 0 = .ok (.iconst 0, 1) := by decide +kernel
theorem dX3_hasFundArrears_1 : decode cX3_hasFundArrears 1 = .ok (.istore_n 1, 1) := by decide +kernel
theorem dX3_hasFundArrears_2 : decode cX3_hasFundArrears 2 = .ok (.iconst 0, 1) := by decide +kernel
theorem dX3_hasFundArrears_3 : decode cX3_hasFundArrears 3 = .ok (.istore_n 2, 1) := by decide +kernel
theorem dX3_hasFundArrears_4 : decode cX3_hasFundArrears 4 = .ok (.iload_n 2, 1) := by decide +kernel
theorem dX3_hasFundArrears_5 : decode cX3_hasFundArrears 5 = .ok (.aload_n 0, 1) := by decide +kernel
theorem dX3_hasFundArrears_6 : decode cX3_hasFundArrears 6 = .ok (.getfield 10, 3) := by decide +kernel
theorem dX3_hasFundArrears_9 : decode cX3_hasFundArrears 9 = .ok (.invokevirtual 81, 3) := by decide +kernel
theorem dX3_hasFundArrears_12 : decode cX3_hasFundArrears 12 = .ok (.if_icmp .ge 55, 3) := by decide +kernel
theorem dX3_hasFundArrears_15 : decode cX3_hasFundArrears 15 = .ok (.aload_n 0, 1) := by decide +kernel
theorem dX3_hasFundArrears_16 : decode cX3_hasFundArrears 16 = .ok (.getfield 10, 3) := by decide +kernel
theorem dX3_hasFundArrears_19 : decode cX3_hasFundArrears 19 = .ok (.iload_n 2, 1) := by decide +kernel
theorem dX3_hasFundArrears_20 : decode cX3_hasFundArrears 20 = .ok (.invokevirtual 148, 3) := by decide +kernel
theorem dX3_hasFundArrears_23 : decode cX3_hasFundArrears 23 = .ok (.checkcast 68, 3) := by decide +kernel
theorem dX3_hasFundArrears_26 : decode cX3_hasFundArrears 26 = .ok (.astore_n 3, 1) := by decide +kernel
theorem dX3_hasFundArrears_27 : decode cX3_hasFundArrears 27 = .ok (.iload_n 1, 1) := by decide +kernel
theorem dX3_hasFundArrears_28 : decode cX3_hasFundArrears 28 = .ok (.ifCond .ne 27, 3) := by decide +kernel
theorem dX3_hasFundArrears_31 : decode cX3_hasFundArrears 31 = .ok (.aload_n 3, 1) := by decide +kernel
theorem dX3_hasFundArrears_32 : decode cX3_hasFundArrears 32 = .ok (.getfield 186, 3) := by decide +kernel
theorem dX3_hasFundArrears_35 : decode cX3_hasFundArrears 35 = .ok (.iconst 4, 1) := by decide +kernel
theorem dX3_hasFundArrears_36 : decode cX3_hasFundArrears 36 = .ok (.if_icmp .ne 23, 3) := by decide +kernel
theorem dX3_hasFundArrears_39 : decode cX3_hasFundArrears 39 = .ok (.aload_n 3, 1) := by decide +kernel
theorem dX3_hasFundArrears_40 : decode cX3_hasFundArrears 40 = .ok (.invokevirtual 89, 3) := by decide +kernel
theorem dX3_hasFundArrears_43 : decode cX3_hasFundArrears 43 = .ok (.ifCond .eq 16, 3) := by decide +kernel
theorem dX3_hasFundArrears_46 : decode cX3_hasFundArrears 46 = .ok (.aload_n 3, 1) := by decide +kernel
theorem dX3_hasFundArrears_47 : decode cX3_hasFundArrears 47 = .ok (.getfield 174, 3) := by decide +kernel
theorem dX3_hasFundArrears_50 : decode cX3_hasFundArrears 50 = .ok (.lconst 0, 1) := by decide +kernel
theorem dX3_hasFundArrears_51 : decode cX3_hasFundArrears 51 = .ok (.lcmp, 1) := by decide +kernel
theorem dX3_hasFundArrears_52 : decode cX3_hasFundArrears 52 = .ok (.ifCond .le 7, 3) := by decide +kernel
theorem dX3_hasFundArrears_55 : decode cX3_hasFundArrears 55 = .ok (.iconst 1, 1) := by decide +kernel
theorem dX3_hasFundArrears_56 : decode cX3_hasFundArrears 56 = .ok (.goto 4, 3) := by decide +kernel
theorem dX3_hasFundArrears_59 : decode cX3_hasFundArrears 59 = .ok (.iconst 0, 1) := by decide +kernel
theorem dX3_hasFundArrears_60 : decode cX3_hasFundArrears 60 = .ok (.istore_n 1, 1) := by decide +kernel
theorem dX3_hasFundArrears_61 : decode cX3_hasFundArrears 61 = .ok (.iinc 2 1, 3) := by decide +kernel
theorem dX3_hasFundArrears_64 : decode cX3_hasFundArrears 64 = .ok (.goto (-60), 3) := by decide +kernel
theorem dX3_hasFundArrears_67 : decode cX3_hasFundArrears 67 = .ok (.iload_n 1, 1) := by decide +kernel
theorem dX3_hasFundArrears_68 : decode cX3_hasFundArrears 68 = .ok (.ireturn, 1) := by decide +kernel
theorem dX3_owedToOfficials_0 : decode cX3_owedToOfficials 0 = .ok (.lconst 0, 1) := by decide +kernel
theorem dX3_owedToOfficials_1 : decode cX3_owedToOfficials 1 = .ok (.lstore_n 2, 1) := by decide +kernel
theorem dX3_owedToOfficials_2 : decode cX3_owedToOfficials 2 = .ok (.iconst 0, 1) := by decide +kernel
theorem dX3_owedToOfficials_3 : decode cX3_owedToOfficials 3 = .ok (.istore 4, 2) := by decide +kernel
theorem dX3_owedToOfficials_5 : decode cX3_owedToOfficials 5 = .ok (.iload 4, 2) := by decide +kernel
theorem dX3_owedToOfficials_7 : decode cX3_owedToOfficials 7 = .ok (.aload_n 0, 1) := by decide +kernel
theorem dX3_owedToOfficials_8 : decode cX3_owedToOfficials 8 = .ok (.getfield 10, 3) := by decide +kernel
theorem dX3_owedToOfficials_11 : decode cX3_owedToOfficials 11 = .ok (.invokevirtual 81, 3) := by decide +kernel
theorem dX3_owedToOfficials_14 : decode cX3_owedToOfficials 14 = .ok (.if_icmp .ge 75, 3) := by decide +kernel
theorem dX3_owedToOfficials_17 : decode cX3_owedToOfficials 17 = .ok (.aload_n 0, 1) := by decide +kernel
theorem dX3_owedToOfficials_18 : decode cX3_owedToOfficials 18 = .ok (.getfield 10, 3) := by decide +kernel
theorem dX3_owedToOfficials_21 : decode cX3_owedToOfficials 21 = .ok (.iload 4, 2) := by decide +kernel
theorem dX3_owedToOfficials_23 : decode cX3_owedToOfficials 23 = .ok (.invokevirtual 148, 3) := by decide +kernel
theorem dX3_owedToOfficials_26 : decode cX3_owedToOfficials 26 = .ok (.checkcast 68, 3) := by decide +kernel
theorem dX3_owedToOfficials_29 : decode cX3_owedToOfficials 29 = .ok (.astore 5, 2) := by decide +kernel
theorem dX3_owedToOfficials_31 : decode cX3_owedToOfficials 31 = .ok (.iload_n 1, 1) := by decide +kernel
theorem dX3_owedToOfficials_32 : decode cX3_owedToOfficials 32 = .ok (.ifCond .eq 19, 3) := by decide +kernel
theorem dX3_owedToOfficials_35 : decode cX3_owedToOfficials 35 = .ok (.aload_n 0, 1) := by decide +kernel
theorem dX3_owedToOfficials_36 : decode cX3_owedToOfficials 36 = .ok (.getfield 47, 3) := by decide +kernel
theorem dX3_owedToOfficials_39 : decode cX3_owedToOfficials 39 = .ok (.i2l, 1) := by decide +kernel
theorem dX3_owedToOfficials_40 : decode cX3_owedToOfficials 40 = .ok (.aload 5, 2) := by decide +kernel
theorem dX3_owedToOfficials_42 : decode cX3_owedToOfficials 42 = .ok (.getfield 216, 3) := by decide +kernel
theorem dX3_owedToOfficials_45 : decode cX3_owedToOfficials 45 = .ok (.invokestatic 189, 3) := by decide +kernel
theorem dX3_owedToOfficials_48 : decode cX3_owedToOfficials 48 = .ok (.ifCond .eq 7, 3) := by decide +kernel
theorem dX3_owedToOfficials_51 : decode cX3_owedToOfficials 51 = .ok (.iconst 1, 1) := by decide +kernel
theorem dX3_owedToOfficials_52 : decode cX3_owedToOfficials 52 = .ok (.goto 4, 3) := by decide +kernel
theorem dX3_owedToOfficials_55 : decode cX3_owedToOfficials 55 = .ok (.iconst 0, 1) := by decide +kernel
theorem dX3_owedToOfficials_56 : decode cX3_owedToOfficials 56 = .ok (.istore 6, 2) := by decide +kernel
theorem dX3_owedToOfficials_58 : decode cX3_owedToOfficials 58 = .ok (.lload_n 2, 1) := by decide +kernel
theorem dX3_owedToOfficials_59 : decode cX3_owedToOfficials 59 = .ok (.iload 6, 2) := by decide +kernel
theorem dX3_owedToOfficials_61 : decode cX3_owedToOfficials 61 = .ok (.ifCond .eq 19, 3) := by decide +kernel
theorem dX3_owedToOfficials_64 : decode cX3_owedToOfficials 64 = .ok (.aload 5, 2) := by decide +kernel
theorem dX3_owedToOfficials_66 : decode cX3_owedToOfficials 66 = .ok (.invokevirtual 333, 3) := by decide +kernel
theorem dX3_owedToOfficials_69 : decode cX3_owedToOfficials 69 = .ok (.ifCond .eq 11, 3) := by decide +kernel
theorem dX3_owedToOfficials_72 : decode cX3_owedToOfficials 72 = .ok (.aload 5, 2) := by decide +kernel
theorem dX3_owedToOfficials_74 : decode cX3_owedToOfficials 74 = .ok (.invokevirtual 289, 3) := by decide +kernel
theorem dX3_owedToOfficials_77 : decode cX3_owedToOfficials 77 = .ok (.goto 4, 3) := by decide +kernel
theorem dX3_owedToOfficials_80 : decode cX3_owedToOfficials 80 = .ok (.lconst 0, 1) := by decide +kernel
theorem dX3_owedToOfficials_81 : decode cX3_owedToOfficials 81 = .ok (.ladd, 1) := by decide +kernel
theorem dX3_owedToOfficials_82 : decode cX3_owedToOfficials 82 = .ok (.lstore_n 2, 1) := by decide +kernel
theorem dX3_owedToOfficials_83 : decode cX3_owedToOfficials 83 = .ok (.iinc 4 1, 3) := by decide +kernel
theorem dX3_owedToOfficials_86 : decode cX3_owedToOfficials 86 = .ok (.goto (-81), 3) := by decide +kernel
theorem dX3_owedToOfficials_89 : decode cX3_owedToOfficials 89 = .ok (.lload_n 2, 1) := by decide +kernel
theorem dX3_owedToOfficials_90 : decode cX3_owedToOfficials 90 = .ok (.lreturn, 1) := by decide +kernel
theorem dX3_payTranche_0 : decode cX3_payTranche 0 = .ok (.new 68, 3) := by decide +kernel
theorem dX3_payTranche_3 : decode cX3_payTranche 3 = .ok (.dup, 1) := by decide +kernel
theorem dX3_payTranche_4 : decode cX3_payTranche 4 = .ok (.iconst 4, 1) := by decide +kernel
theorem dX3_payTranche_5 : decode cX3_payTranche 5 = .ok (.bipush 7, 2) := by decide +kernel
theorem dX3_payTranche_7 : decode cX3_payTranche 7 = .ok (.iconst 0, 1) := by decide +kernel
theorem dX3_payTranche_8 : decode cX3_payTranche 8 = .ok (.iconst (-1), 1) := by decide +kernel
theorem dX3_payTranche_9 : decode cX3_payTranche 9 = .ok (.iconst 0, 1) := by decide +kernel
theorem dX3_payTranche_10 : decode cX3_payTranche 10 = .ok (.invokespecial 70, 3) := by decide +kernel
theorem dX3_payTranche_13 : decode cX3_payTranche 13 = .ok (.astore_n 1, 1) := by decide +kernel
theorem dX3_payTranche_14 : decode cX3_payTranche 14 = .ok (.aload_n 1, 1) := by decide +kernel
theorem dX3_payTranche_15 : decode cX3_payTranche 15 = .ok (.aload_n 0, 1) := by decide +kernel
theorem dX3_payTranche_16 : decode cX3_payTranche 16 = .ok (.getfield 50, 3) := by decide +kernel
theorem dX3_payTranche_19 : decode cX3_payTranche 19 = .ok (.i2l, 1) := by decide +kernel
theorem dX3_payTranche_20 : decode cX3_payTranche 20 = .ok (.sipush 300, 3) := by decide +kernel
theorem dX3_payTranche_23 : decode cX3_payTranche 23 = .ok (.aload_n 0, 1) := by decide +kernel
theorem dX3_payTranche_24 : decode cX3_payTranche 24 = .ok (.getfield 22, 3) := by decide +kernel
theorem dX3_payTranche_27 : decode cX3_payTranche 27 = .ok (.iconst 5, 1) := by decide +kernel
theorem dX3_payTranche_28 : decode cX3_payTranche 28 = .ok (.iadd, 1) := by decide +kernel
theorem dX3_payTranche_29 : decode cX3_payTranche 29 = .ok (.invokevirtual 73, 3) := by decide +kernel
theorem dX3_payTranche_32 : decode cX3_payTranche 32 = .ok (.aload_n 0, 1) := by decide +kernel
theorem dX3_payTranche_33 : decode cX3_payTranche 33 = .ok (.getfield 10, 3) := by decide +kernel
theorem dX3_payTranche_36 : decode cX3_payTranche 36 = .ok (.aload_n 1, 1) := by decide +kernel
theorem dX3_payTranche_37 : decode cX3_payTranche 37 = .ok (.invokevirtual 77, 3) := by decide +kernel
theorem dX3_payTranche_40 : decode cX3_payTranche 40 = .ok (.pop, 1) := by decide +kernel
theorem dX3_payTranche_41 : decode cX3_payTranche 41 = .ok (.aload_n 0, 1) := by decide +kernel
theorem dX3_payTranche_42 : decode cX3_payTranche 42 = .ok (.dup, 1) := by decide +kernel
theorem dX3_payTranche_43 : decode cX3_payTranche 43 = .ok (.getfield 26, 3) := by decide +kernel
theorem dX3_payTranche_46 : decode cX3_payTranche 46 = .ok (.aload_n 0, 1) := by decide +kernel
theorem dX3_payTranche_47 : decode cX3_payTranche 47 = .ok (.getfield 50, 3) := by decide +kernel
theorem dX3_payTranche_50 : decode cX3_payTranche 50 = .ok (.i2l, 1) := by decide +kernel
theorem dX3_payTranche_51 : decode cX3_payTranche 51 = .ok (.ladd, 1) := by decide +kernel
theorem dX3_payTranche_52 : decode cX3_payTranche 52 = .ok (.putfield 26, 3) := by decide +kernel
theorem dX3_payTranche_55 : decode cX3_payTranche 55 = .ok (.aload_n 0, 1) := by decide +kernel
theorem dX3_payTranche_56 : decode cX3_payTranche 56 = .ok (.dup, 1) := by decide +kernel
theorem dX3_payTranche_57 : decode cX3_payTranche 57 = .ok (.getfield 56, 3) := by decide +kernel
theorem dX3_payTranche_60 : decode cX3_payTranche 60 = .ok (.iconst 1, 1) := by decide +kernel
theorem dX3_payTranche_61 : decode cX3_payTranche 61 = .ok (.isub, 1) := by decide +kernel
theorem dX3_payTranche_62 : decode cX3_payTranche 62 = .ok (.putfield 56, 3) := by decide +kernel
theorem dX3_payTranche_65 : decode cX3_payTranche 65 = .ok (.return_, 1) := by decide +kernel
theorem dX3_value_0 : decode cX3_value 0 = .ok (.aload_n 0, 1) := by decide +kernel
theorem dX3_value_1 : decode cX3_value 1 = .ok (.iload_n 1, 1) := by decide +kernel
theorem dX3_value_2 : decode cX3_value 2 = .ok (.invokevirtual 85, 3) := by decide +kernel
theorem dX3_value_5 : decode cX3_value 5 = .ok (.astore_n 3, 1) := by decide +kernel
theorem dX3_value_6 : decode cX3_value 6 = .ok (.iload_n 2, 1) := by decide +kernel
theorem dX3_value_7 : decode cX3_value 7 = .ok (.iconst 0, 1) := by decide +kernel
theorem dX3_value_8 : decode cX3_value 8 = .ok (.sipush 1500, 3) := by decide +kernel
theorem dX3_value_11 : decode cX3_value 11 = .ok (.invokestatic 59, 3) := by decide +kernel
theorem dX3_value_14 : decode cX3_value 14 = .ok (.aload_n 3, 1) := by decide +kernel
theorem dX3_value_15 : decode cX3_value 15 = .ok (.aload_n 0, 1) := by decide +kernel
theorem dX3_value_16 : decode cX3_value 16 = .ok (.getfield 22, 3) := by decide +kernel
theorem dX3_value_19 : decode cX3_value 19 = .ok (.iload_n 2, 1) := by decide +kernel
theorem dX3_value_20 : decode cX3_value 20 = .ok (.invokevirtual 234, 3) := by decide +kernel
theorem dX3_value_23 : decode cX3_value 23 = .ok (.lreturn, 1) := by decide +kernel
theorem dX3_offered_0 : decode cX3_offered 0 = .ok (.aload_n 0, 1) := by decide +kernel
theorem dX3_offered_1 : decode cX3_offered 1 = .ok (.iload_n 1, 1) := by decide +kernel
theorem dX3_offered_2 : decode cX3_offered 2 = .ok (.invokevirtual 85, 3) := by decide +kernel
theorem dX3_offered_5 : decode cX3_offered 5 = .ok (.astore 4, 2) := by decide +kernel
theorem dX3_offered_7 : decode cX3_offered 7 = .ok (.aload_n 0, 1) := by decide +kernel
theorem dX3_offered_8 : decode cX3_offered 8 = .ok (.iload_n 2, 1) := by decide +kernel
theorem dX3_offered_9 : decode cX3_offered 9 = .ok (.invokevirtual 206, 3) := by decide +kernel
theorem dX3_offered_12 : decode cX3_offered 12 = .ok (.astore 5, 2) := by decide +kernel
theorem dX3_offered_14 : decode cX3_offered 14 = .ok (.iload_n 3, 1) := by decide +kernel
theorem dX3_offered_15 : decode cX3_offered 15 = .ok (.iconst 0, 1) := by decide +kernel
theorem dX3_offered_16 : decode cX3_offered 16 = .ok (.sipush 1500, 3) := by decide +kernel
theorem dX3_offered_19 : decode cX3_offered 19 = .ok (.invokestatic 59, 3) := by decide +kernel
theorem dX3_offered_22 : decode cX3_offered 22 = .ok (.aload 4, 2) := by decide +kernel
theorem dX3_offered_24 : decode cX3_offered 24 = .ok (.invokevirtual 89, 3) := by decide +kernel
theorem dX3_offered_27 : decode cX3_offered 27 = .ok (.ifCond .eq 27, 3) := by decide +kernel
theorem dX3_offered_30 : decode cX3_offered 30 = .ok (.aload 5, 2) := by decide +kernel
theorem dX3_offered_32 : decode cX3_offered 32 = .ok (.aload 4, 2) := by decide +kernel
theorem dX3_offered_34 : decode cX3_offered 34 = .ok (.invokevirtual 222, 3) := by decide +kernel
theorem dX3_offered_37 : decode cX3_offered 37 = .ok (.aload 5, 2) := by decide +kernel
theorem dX3_offered_39 : decode cX3_offered 39 = .ok (.getfield 225, 3) := by decide +kernel
theorem dX3_offered_42 : decode cX3_offered 42 = .ok (.aload 5, 2) := by decide +kernel
theorem dX3_offered_44 : decode cX3_offered 44 = .ok (.getfield 228, 3) := by decide +kernel
theorem dX3_offered_47 : decode cX3_offered 47 = .ok (.iload_n 3, 1) := by decide +kernel
theorem dX3_offered_48 : decode cX3_offered 48 = .ok (.invokestatic 336, 3) := by decide +kernel
theorem dX3_offered_51 : decode cX3_offered 51 = .ok (.goto 4, 3) := by decide +kernel
theorem dX3_offered_54 : decode cX3_offered 54 = .ok (.lconst 0, 1) := by decide +kernel
theorem dX3_offered_55 : decode cX3_offered 55 = .ok (.lreturn, 1) := by decide +kernel
theorem dX3_effort_0 : decode cX3_effort 0 = .ok (.iload_n 1, 1) := by decide +kernel
theorem dX3_effort_1 : decode cX3_effort 1 = .ok (.invokestatic 114, 3) := by decide +kernel
theorem dX3_effort_4 : decode cX3_effort 4 = .ok (.aload_n 0, 1) := by decide +kernel
theorem dX3_effort_5 : decode cX3_effort 5 = .ok (.iload_n 1, 1) := by decide +kernel
theorem dX3_effort_6 : decode cX3_effort 6 = .ok (.invokevirtual 340, 3) := by decide +kernel
theorem dX3_effort_9 : decode cX3_effort 9 = .ok (.ireturn, 1) := by decide +kernel
theorem dX3_effortOf_0 : decode cX3_effortOf 0 = .ok (.lconst 0, 1) := by decide +kernel
theorem dX3_effortOf_1 : decode cX3_effortOf 1 = .ok (.lstore_n 2, 1) := by decide +kernel
theorem dX3_effortOf_2 : decode cX3_effortOf 2 = .ok (.lconst 0, 1) := by decide +kernel
theorem dX3_effortOf_3 : decode cX3_effortOf 3 = .ok (.lstore 4, 2) := by decide +kernel
theorem dX3_effortOf_5 : decode cX3_effortOf 5 = .ok (.iconst 0, 1) := by decide +kernel
theorem dX3_effortOf_6 : decode cX3_effortOf 6 = .ok (.istore 6, 2) := by decide +kernel
theorem dX3_effortOf_8 : decode cX3_effortOf 8 = .ok (.iload 6, 2) := by decide +kernel
theorem dX3_effortOf_10 : decode cX3_effortOf 10 = .ok (.aload_n 0, 1) := by decide +kernel
theorem dX3_effortOf_11 : decode cX3_effortOf 11 = .ok (.getfield 10, 3) := by decide +kernel
theorem dX3_effortOf_14 : decode cX3_effortOf 14 = .ok (.invokevirtual 81, 3) := by decide +kernel
theorem dX3_effortOf_17 : decode cX3_effortOf 17 = .ok (.if_icmp .ge 50, 3) := by decide +kernel
theorem dX3_effortOf_20 : decode cX3_effortOf 20 = .ok (.aload_n 0, 1) := by decide +kernel
theorem dX3_effortOf_21 : decode cX3_effortOf 21 = .ok (.getfield 10, 3) := by decide +kernel
theorem dX3_effortOf_24 : decode cX3_effortOf 24 = .ok (.iload 6, 2) := by decide +kernel
theorem dX3_effortOf_26 : decode cX3_effortOf 26 = .ok (.invokevirtual 148, 3) := by decide +kernel
theorem dX3_effortOf_29 : decode cX3_effortOf 29 = .ok (.checkcast 68, 3) := by decide +kernel
theorem dX3_effortOf_32 : decode cX3_effortOf 32 = .ok (.astore 7, 2) := by decide +kernel
theorem dX3_effortOf_34 : decode cX3_effortOf 34 = .ok (.aload 7, 2) := by decide +kernel
theorem dX3_effortOf_36 : decode cX3_effortOf 36 = .ok (.getfield 186, 3) := by decide +kernel
theorem dX3_effortOf_39 : decode cX3_effortOf 39 = .ok (.iload_n 1, 1) := by decide +kernel
theorem dX3_effortOf_40 : decode cX3_effortOf 40 = .ok (.if_icmp .ne 21, 3) := by decide +kernel
theorem dX3_effortOf_43 : decode cX3_effortOf 43 = .ok (.lload_n 2, 1) := by decide +kernel
theorem dX3_effortOf_44 : decode cX3_effortOf 44 = .ok (.aload 7, 2) := by decide +kernel
theorem dX3_effortOf_46 : decode cX3_effortOf 46 = .ok (.getfield 238, 3) := by decide +kernel
theorem dX3_effortOf_49 : decode cX3_effortOf 49 = .ok (.ladd, 1) := by decide +kernel
theorem dX3_effortOf_50 : decode cX3_effortOf 50 = .ok (.lstore_n 2, 1) := by decide +kernel
theorem dX3_effortOf_51 : decode cX3_effortOf 51 = .ok (.lload 4, 2) := by decide +kernel
theorem dX3_effortOf_53 : decode cX3_effortOf 53 = .ok (.aload 7, 2) := by decide +kernel
theorem dX3_effortOf_55 : decode cX3_effortOf 55 = .ok (.getfield 241, 3) := by decide +kernel
theorem dX3_effortOf_58 : decode cX3_effortOf 58 = .ok (.ladd, 1) := by decide +kernel
theorem dX3_effortOf_59 : decode cX3_effortOf 59 = .ok (.lstore 4, 2) := by decide +kernel
theorem dX3_effortOf_61 : decode cX3_effortOf 61 = .ok (.iinc 6 1, 3) := by decide +kernel
theorem dX3_effortOf_64 : decode cX3_effortOf 64 = .ok (.goto (-56), 3) := by decide +kernel
theorem dX3_effortOf_67 : decode cX3_effortOf 67 = .ok (.lload_n 2, 1) := by decide +kernel
theorem dX3_effortOf_68 : decode cX3_effortOf 68 = .ok (.lconst 0, 1) := by decide +kernel
theorem dX3_effortOf_69 : decode cX3_effortOf 69 = .ok (.lcmp, 1) := by decide +kernel
theorem dX3_effortOf_70 : decode cX3_effortOf 70 = .ok (.ifCond .ne 7, 3) := by decide +kernel
theorem dX3_effortOf_73 : decode cX3_effortOf 73 = .ok (.iconst 0, 1) := by decide +kernel
theorem dX3_effortOf_74 : decode cX3_effortOf 74 = .ok (.goto 18, 3) := by decide +kernel
theorem dX3_effortOf_77 : decode cX3_effortOf 77 = .ok (.ldc2_w 146, 3) := by decide +kernel
theorem dX3_effortOf_80 : decode cX3_effortOf 80 = .ok (.ldc2_w 146, 3) := by decide +kernel
theorem dX3_effortOf_83 : decode cX3_effortOf 83 = .ok (.lload 4, 2) := by decide +kernel
theorem dX3_effortOf_85 : decode cX3_effortOf 85 = .ok (.lmul, 1) := by decide +kernel
theorem dX3_effortOf_86 : decode cX3_effortOf 86 = .ok (.lload_n 2, 1) := by decide +kernel
theorem dX3_effortOf_87 : decode cX3_effortOf 87 = .ok (.invokestatic 142, 3) := by decide +kernel
theorem dX3_effortOf_90 : decode cX3_effortOf 90 = .ok (.lsub, 1) := by decide +kernel
theorem dX3_effortOf_91 : decode cX3_effortOf 91 = .ok (.l2i, 1) := by decide +kernel
theorem dX3_effortOf_92 : decode cX3_effortOf 92 = .ok (.ireturn, 1) := by decide +kernel
theorem dX3_areAlike_0 : decode cX3_areAlike 0 = .ok (.iconst 1, 1) := by decide +kernel
theorem dX3_areAlike_1 : decode cX3_areAlike 1 = .ok (.istore_n 1, 1) := by decide +kernel
theorem dX3_areAlike_2 : decode cX3_areAlike 2 = .ok (.iconst 1, 1) := by decide +kernel
theorem dX3_areAlike_3 : decode cX3_areAlike 3 = .ok (.istore_n 2, 1) := by decide +kernel
theorem dX3_areAlike_4 : decode cX3_areAlike 4 = .ok (.iload_n 2, 1) := by decide +kernel
theorem dX3_areAlike_5 : decode cX3_areAlike 5 = .ok (.iconst 4, 1) := by decide +kernel
theorem dX3_areAlike_6 : decode cX3_areAlike 6 = .ok (.if_icmp .gt 44, 3) := by decide +kernel
theorem dX3_areAlike_9 : decode cX3_areAlike 9 = .ok (.iload_n 1, 1) := by decide +kernel
theorem dX3_areAlike_10 : decode cX3_areAlike 10 = .ok (.ifCond .eq 32, 3) := by decide +kernel
theorem dX3_areAlike_13 : decode cX3_areAlike 13 = .ok (.aload_n 0, 1) := by decide +kernel
theorem dX3_areAlike_14 : decode cX3_areAlike 14 = .ok (.iload_n 2, 1) := by decide +kernel
theorem dX3_areAlike_15 : decode cX3_areAlike 15 = .ok (.invokevirtual 344, 3) := by decide +kernel
theorem dX3_areAlike_18 : decode cX3_areAlike 18 = .ok (.ifCond .eq 20, 3) := by decide +kernel
theorem dX3_areAlike_21 : decode cX3_areAlike 21 = .ok (.aload_n 0, 1) := by decide +kernel
theorem dX3_areAlike_22 : decode cX3_areAlike 22 = .ok (.iconst 0, 1) := by decide +kernel
theorem dX3_areAlike_23 : decode cX3_areAlike 23 = .ok (.invokevirtual 340, 3) := by decide +kernel
theorem dX3_areAlike_26 : decode cX3_areAlike 26 = .ok (.aload_n 0, 1) := by decide +kernel
theorem dX3_areAlike_27 : decode cX3_areAlike 27 = .ok (.iload_n 2, 1) := by decide +kernel
theorem dX3_areAlike_28 : decode cX3_areAlike 28 = .ok (.invokevirtual 340, 3) := by decide +kernel
theorem dX3_areAlike_31 : decode cX3_areAlike 31 = .ok (.isub, 1) := by decide +kernel
theorem dX3_areAlike_32 : decode cX3_areAlike 32 = .ok (.sipush 200, 3) := by decide +kernel
theorem dX3_areAlike_35 : decode cX3_areAlike 35 = .ok (.if_icmp .gt 7, 3) := by decide +kernel
theorem dX3_areAlike_38 : decode cX3_areAlike 38 = .ok (.iconst 1, 1) := by decide +kernel
theorem dX3_areAlike_39 : decode cX3_areAlike 39 = .ok (.goto 4, 3) := by decide +kernel
theorem dX3_areAlike_42 : decode cX3_areAlike 42 = .ok (.iconst 0, 1) := by decide +kernel
theorem dX3_areAlike_43 : decode cX3_areAlike 43 = .ok (.istore_n 1, 1) := by decide +kernel
theorem dX3_areAlike_44 : decode cX3_areAlike 44 = .ok (.iinc 2 1, 3) := by decide +kernel
theorem dX3_areAlike_47 : decode cX3_areAlike 47 = .ok (.goto (-43), 3) := by decide +kernel
theorem dX3_areAlike_50 : decode cX3_areAlike 50 = .ok (.iload_n 1, 1) := by decide +kernel
theorem dX3_areAlike_51 : decode cX3_areAlike 51 = .ok (.ireturn, 1) := by decide +kernel
theorem dX3_wasSwapped_0 : decode cX3_wasSwapped 0 = .ok (.iconst 0, 1) := by decide +kernel
theorem dX3_wasSwapped_1 : decode cX3_wasSwapped 1 = .ok (.istore_n 2, 1) := by decide +kernel
theorem dX3_wasSwapped_2 : decode cX3_wasSwapped 2 = .ok (.iconst 0, 1) := by decide +kernel
theorem dX3_wasSwapped_3 : decode cX3_wasSwapped 3 = .ok (.istore_n 3, 1) := by decide +kernel
theorem dX3_wasSwapped_4 : decode cX3_wasSwapped 4 = .ok (.iload_n 3, 1) := by decide +kernel
theorem dX3_wasSwapped_5 : decode cX3_wasSwapped 5 = .ok (.aload_n 0, 1) := by decide +kernel
theorem dX3_wasSwapped_6 : decode cX3_wasSwapped 6 = .ok (.getfield 10, 3) := by decide +kernel
theorem dX3_wasSwapped_9 : decode cX3_wasSwapped 9 = .ok (.invokevirtual 81, 3) := by decide +kernel
theorem dX3_wasSwapped_12 : decode cX3_wasSwapped 12 = .ok (.if_icmp .ge 50, 3) := by decide +kernel
theorem dX3_wasSwapped_15 : decode cX3_wasSwapped 15 = .ok (.aload_n 0, 1) := by decide +kernel
theorem dX3_wasSwapped_16 : decode cX3_wasSwapped 16 = .ok (.getfield 10, 3) := by decide +kernel
theorem dX3_wasSwapped_19 : decode cX3_wasSwapped 19 = .ok (.iload_n 3, 1) := by decide +kernel
theorem dX3_wasSwapped_20 : decode cX3_wasSwapped 20 = .ok (.invokevirtual 148, 3) := by decide +kernel
theorem dX3_wasSwapped_23 : decode cX3_wasSwapped 23 = .ok (.checkcast 68, 3) := by decide +kernel
theorem dX3_wasSwapped_26 : decode cX3_wasSwapped 26 = .ok (.astore 4, 2) := by decide +kernel
theorem dX3_wasSwapped_28 : decode cX3_wasSwapped 28 = .ok (.iload_n 2, 1) := by decide +kernel
theorem dX3_wasSwapped_29 : decode cX3_wasSwapped 29 = .ok (.ifCond .ne 21, 3) := by decide +kernel
theorem dX3_wasSwapped_32 : decode cX3_wasSwapped 32 = .ok (.aload 4, 2) := by decide +kernel
theorem dX3_wasSwapped_34 : decode cX3_wasSwapped 34 = .ok (.getfield 186, 3) := by decide +kernel
theorem dX3_wasSwapped_37 : decode cX3_wasSwapped 37 = .ok (.iload_n 1, 1) := by decide +kernel
theorem dX3_wasSwapped_38 : decode cX3_wasSwapped 38 = .ok (.if_icmp .ne 16, 3) := by decide +kernel
theorem dX3_wasSwapped_41 : decode cX3_wasSwapped 41 = .ok (.aload 4, 2) := by decide +kernel
theorem dX3_wasSwapped_43 : decode cX3_wasSwapped 43 = .ok (.getfield 197, 3) := by decide +kernel
theorem dX3_wasSwapped_46 : decode cX3_wasSwapped 46 = .ok (.iconst 2, 1) := by decide +kernel
theorem dX3_wasSwapped_47 : decode cX3_wasSwapped 47 = .ok (.if_icmp .ne 7, 3) := by decide +kernel
theorem dX3_wasSwapped_50 : decode cX3_wasSwapped 50 = .ok (.iconst 1, 1) := by decide +kernel
theorem dX3_wasSwapped_51 : decode cX3_wasSwapped 51 = .ok (.goto 4, 3) := by decide +kernel
theorem dX3_wasSwapped_54 : decode cX3_wasSwapped 54 = .ok (.iconst 0, 1) := by decide +kernel
theorem dX3_wasSwapped_55 : decode cX3_wasSwapped 55 = .ok (.istore_n 2, 1) := by decide +kernel
theorem dX3_wasSwapped_56 : decode cX3_wasSwapped 56 = .ok (.iinc 3 1, 3) := by decide +kernel
theorem dX3_wasSwapped_59 : decode cX3_wasSwapped 59 = .ok (.goto (-55), 3) := by decide +kernel
theorem dX3_wasSwapped_62 : decode cX3_wasSwapped 62 = .ok (.iload_n 2, 1) := by decide +kernel
theorem dX3_wasSwapped_63 : decode cX3_wasSwapped 63 = .ok (.ireturn, 1) := by decide +kernel
theorem dX3_passes_0 : decode cX3_passes 0 = .ok (.aload_n 0, 1) := by decide +kernel
theorem dX3_passes_1 : decode cX3_passes 1 = .ok (.iload_n 1, 1) := by decide +kernel
theorem dX3_passes_2 : decode cX3_passes 2 = .ok (.invokevirtual 206, 3) := by decide +kernel
theorem dX3_passes_5 : decode cX3_passes 5 = .ok (.astore_n 3, 1) := by decide +kernel
theorem dX3_passes_6 : decode cX3_passes 6 = .ok (.iload_n 2, 1) := by decide +kernel
theorem dX3_passes_7 : decode cX3_passes 7 = .ok (.iconst (-1), 1) := by decide +kernel
theorem dX3_passes_8 : decode cX3_passes 8 = .ok (.if_icmp .eq 23, 3) := by decide +kernel
theorem dX3_passes_11 : decode cX3_passes 11 = .ok (.iload_n 2, 1) := by decide +kernel
theorem dX3_passes_12 : decode cX3_passes 12 = .ok (.ifCond .lt 8, 3) := by decide +kernel
theorem dX3_passes_15 : decode cX3_passes 15 = .ok (.iload_n 2, 1) := by decide +kernel
theorem dX3_passes_16 : decode cX3_passes 16 = .ok (.iconst 3, 1) := by decide +kernel
theorem dX3_passes_17 : decode cX3_passes 17 = .ok (.if_icmp .le 14, 3) := by decide +kernel
theorem dX3_passes_20 : decode cX3_passes 20 = .ok (.new 311, 3) := by decide +kernel
theorem dX3_passes_23 : decode cX3_passes 23 = .ok (.dup, 1) := by decide +kernel
theorem dX3_passes_24 : decode cX3_passes 24 = .ok (.ldc_w 347, 3) := by decide +kernel
theorem dX3_passes_27 : decode cX3_passes 27 = .ok (.invokespecial 315, 3) := by decide +kernel
theorem dX3_passes_30 : decode cX3_passes 30 = .ok (.athrow, 1) := by decide +kernel
theorem dX3_passes_31 : decode cX3_passes 31 = .ok (.iload_n 2, 1) := by decide +kernel
theorem dX3_passes_32 : decode cX3_passes 32 = .ok (.iconst (-1), 1) := by decide +kernel
theorem dX3_passes_33 : decode cX3_passes 33 = .ok (.if_icmp .ne 11, 3) := by decide +kernel
theorem dX3_passes_36 : decode cX3_passes 36 = .ok (.aload_n 0, 1) := by decide +kernel
theorem dX3_passes_37 : decode cX3_passes 37 = .ok (.aload_n 3, 1) := by decide +kernel
theorem dX3_passes_38 : decode cX3_passes 38 = .ok (.invokevirtual 264, 3) := by decide +kernel
theorem dX3_passes_41 : decode cX3_passes 41 = .ok (.goto 11, 3) := by decide +kernel
theorem dX3_passes_44 : decode cX3_passes 44 = .ok (.aload_n 0, 1) := by decide +kernel
theorem dX3_passes_45 : decode cX3_passes 45 = .ok (.aload_n 3, 1) := by decide +kernel
theorem dX3_passes_46 : decode cX3_passes 46 = .ok (.iload_n 2, 1) := by decide +kernel
theorem dX3_passes_47 : decode cX3_passes 47 = .ok (.bipush 75, 2) := by decide +kernel
theorem dX3_passes_49 : decode cX3_passes 49 = .ok (.invokevirtual 268, 3) := by decide +kernel
theorem dX3_passes_52 : decode cX3_passes 52 = .ok (.ireturn, 1) := by decide +kernel
theorem dX3_isBearable_0 : decode cX3_isBearable 0 = .ok (.iload_n 1, 1) := by decide +kernel
theorem dX3_isBearable_1 : decode cX3_isBearable 1 = .ok (.iconst 1, 1) := by decide +kernel
theorem dX3_isBearable_2 : decode cX3_isBearable 2 = .ok (.bipush 30, 2) := by decide +kernel
theorem dX3_isBearable_4 : decode cX3_isBearable 4 = .ok (.invokestatic 59, 3) := by decide +kernel
theorem dX3_isBearable_7 : decode cX3_isBearable 7 = .ok (.aload_n 0, 1) := by decide +kernel
theorem dX3_isBearable_8 : decode cX3_isBearable 8 = .ok (.invokevirtual 109, 3) := by decide +kernel
theorem dX3_isBearable_11 : decode cX3_isBearable 11 = .ok (.lstore_n 2, 1) := by decide +kernel
theorem dX3_isBearable_12 : decode cX3_isBearable 12 = .ok (.aload_n 0, 1) := by decide +kernel
theorem dX3_isBearable_13 : decode cX3_isBearable 13 = .ok (.getfield 32, 3) := by decide +kernel
theorem dX3_isBearable_16 : decode cX3_isBearable 16 = .ok (.lstore 4, 2) := by decide +kernel
theorem dX3_isBearable_18 : decode cX3_isBearable 18 = .ok (.iconst 0, 1) := by decide +kernel
theorem dX3_isBearable_19 : decode cX3_isBearable 19 = .ok (.istore 6, 2) := by decide +kernel
theorem dX3_isBearable_21 : decode cX3_isBearable 21 = .ok (.iload 6, 2) := by decide +kernel
theorem dX3_isBearable_23 : decode cX3_isBearable 23 = .ok (.iload_n 1, 1) := by decide +kernel
theorem dX3_isBearable_24 : decode cX3_isBearable 24 = .ok (.if_icmp .ge 65, 3) := by decide +kernel
theorem dX3_isBearable_27 : decode cX3_isBearable 27 = .ok (.lload_n 2, 1) := by decide +kernel
theorem dX3_isBearable_28 : decode cX3_isBearable 28 = .ok (.aload_n 0, 1) := by decide +kernel
theorem dX3_isBearable_29 : decode cX3_isBearable 29 = .ok (.getfield 41, 3) := by decide +kernel
theorem dX3_isBearable_32 : decode cX3_isBearable 32 = .ok (.i2l, 1) := by decide +kernel
theorem dX3_isBearable_33 : decode cX3_isBearable 33 = .ok (.lmul, 1) := by decide +kernel
theorem dX3_isBearable_34 : decode cX3_isBearable 34 = .ok (.ldc2_w 146, 3) := by decide +kernel
theorem dX3_isBearable_37 : decode cX3_isBearable 37 = .ok (.invokestatic 142, 3) := by decide +kernel
theorem dX3_isBearable_40 : decode cX3_isBearable 40 = .ok (.lstore 7, 2) := by decide +kernel
theorem dX3_isBearable_42 : decode cX3_isBearable 42 = .ok (.lload_n 2, 1) := by decide +kernel
theorem dX3_isBearable_43 : decode cX3_isBearable 43 = .ok (.lload 7, 2) := by decide +kernel
theorem dX3_isBearable_45 : decode cX3_isBearable 45 = .ok (.ladd, 1) := by decide +kernel
theorem dX3_isBearable_46 : decode cX3_isBearable 46 = .ok (.aload_n 0, 1) := by decide +kernel
theorem dX3_isBearable_47 : decode cX3_isBearable 47 = .ok (.lload 4, 2) := by decide +kernel
theorem dX3_isBearable_49 : decode cX3_isBearable 49 = .ok (.invokevirtual 126, 3) := by decide +kernel
theorem dX3_isBearable_52 : decode cX3_isBearable 52 = .ok (.lsub, 1) := by decide +kernel
theorem dX3_isBearable_53 : decode cX3_isBearable 53 = .ok (.lconst 0, 1) := by decide +kernel
theorem dX3_isBearable_54 : decode cX3_isBearable 54 = .ok (.invokestatic 349, 3) := by decide +kernel
theorem dX3_isBearable_57 : decode cX3_isBearable 57 = .ok (.lstore_n 2, 1) := by decide +kernel
theorem dX3_isBearable_58 : decode cX3_isBearable 58 = .ok (.aload_n 0, 1) := by decide +kernel
theorem dX3_isBearable_59 : decode cX3_isBearable 59 = .ok (.lload 4, 2) := by decide +kernel
theorem dX3_isBearable_61 : decode cX3_isBearable 61 = .ok (.invokevirtual 130, 3) := by decide +kernel
theorem dX3_isBearable_64 : decode cX3_isBearable 64 = .ok (.lstore 4, 2) := by decide +kernel
theorem dX3_isBearable_66 : decode cX3_isBearable 66 = .ok (.lload_n 2, 1) := by decide +kernel
theorem dX3_isBearable_67 : decode cX3_isBearable 67 = .ok (.ldc2_w 279, 3) := by decide +kernel
theorem dX3_isBearable_70 : decode cX3_isBearable 70 = .ok (.lmul, 1) := by decide +kernel
theorem dX3_isBearable_71 : decode cX3_isBearable 71 = .ok (.lload 4, 2) := by decide +kernel
theorem dX3_isBearable_73 : decode cX3_isBearable 73 = .ok (.ldc2_w 352, 3) := by decide +kernel
theorem dX3_isBearable_76 : decode cX3_isBearable 76 = .ok (.lmul, 1) := by decide +kernel
theorem dX3_isBearable_77 : decode cX3_isBearable 77 = .ok (.lcmp, 1) := by decide +kernel
theorem dX3_isBearable_78 : decode cX3_isBearable 78 = .ok (.ifCond .le 5, 3) := by decide +kernel
theorem dX3_isBearable_81 : decode cX3_isBearable 81 = .ok (.iconst 0, 1) := by decide +kernel
theorem dX3_isBearable_82 : decode cX3_isBearable 82 = .ok (.ireturn, 1) := by decide +kernel
theorem dX3_isBearable_83 : decode cX3_isBearable 83 = .ok (.iinc 6 1, 3) := by decide +kernel
theorem dX3_isBearable_86 : decode cX3_isBearable 86 = .ok (.goto (-65), 3) := by decide +kernel
theorem dX3_isBearable_89 : decode cX3_isBearable 89 = .ok (.lload_n 2, 1) := by decide +kernel
theorem dX3_isBearable_90 : decode cX3_isBearable 90 = .ok (.lload 4, 2) := by decide +kernel
theorem dX3_isBearable_92 : decode cX3_isBearable 92 = .ok (.invokestatic 354, 3) := by decide +kernel
theorem dX3_isBearable_95 : decode cX3_isBearable 95 = .ok (.aload_n 0, 1) := by decide +kernel
theorem dX3_isBearable_96 : decode cX3_isBearable 96 = .ok (.invokevirtual 109, 3) := by decide +kernel
theorem dX3_isBearable_99 : decode cX3_isBearable 99 = .ok (.aload_n 0, 1) := by decide +kernel
theorem dX3_isBearable_100 : decode cX3_isBearable 100 = .ok (.getfield 32, 3) := by decide +kernel
theorem dX3_isBearable_103 : decode cX3_isBearable 103 = .ok (.invokestatic 354, 3) := by decide +kernel
theorem dX3_isBearable_106 : decode cX3_isBearable 106 = .ok (.lcmp, 1) := by decide +kernel
theorem dX3_isBearable_107 : decode cX3_isBearable 107 = .ok (.ifCond .gt 7, 3) := by decide +kernel
theorem dX3_isBearable_110 : decode cX3_isBearable 110 = .ok (.iconst 1, 1) := by decide +kernel
theorem dX3_isBearable_111 : decode cX3_isBearable 111 = .ok (.goto 4, 3) := by decide +kernel
theorem dX3_isBearable_114 : decode cX3_isBearable 114 = .ok (.iconst 0, 1) := by decide +kernel
theorem dX3_isBearable_115 : decode cX3_isBearable 115 = .ok (.ireturn, 1) := by decide +kernel
theorem dX3_burden_0 : decode cX3_burden 0 = .ok (.lload_n 0, 1) := by decide +kernel
theorem dX3_burden_1 : decode cX3_burden 1 = .ok (.ldc2_w 30, 3) := by decide +kernel
theorem dX3_burden_4 : decode cX3_burden 4 = .ok (.lmul, 1) := by decide +kernel
theorem dX3_burden_5 : decode cX3_burden 5 = .ok (.lload_n 2, 1) := by decide +kernel
theorem dX3_burden_6 : decode cX3_burden 6 = .ok (.invokestatic 142, 3) := by decide +kernel
theorem dX3_burden_9 : decode cX3_burden 9 = .ok (.lreturn, 1) := by decide +kernel
theorem dX3_debt_0 : decode cX3_debt 0 = .ok (.lconst 0, 1) := by decide +kernel
theorem dX3_debt_1 : decode cX3_debt 1 = .ok (.lstore_n 1, 1) := by decide +kernel
theorem dX3_debt_2 : decode cX3_debt 2 = .ok (.iconst 0, 1) := by decide +kernel
theorem dX3_debt_3 : decode cX3_debt 3 = .ok (.istore_n 3, 1) := by decide +kernel
theorem dX3_debt_4 : decode cX3_debt 4 = .ok (.iload_n 3, 1) := by decide +kernel
theorem dX3_debt_5 : decode cX3_debt 5 = .ok (.aload_n 0, 1) := by decide +kernel
theorem dX3_debt_6 : decode cX3_debt 6 = .ok (.getfield 10, 3) := by decide +kernel
theorem dX3_debt_9 : decode cX3_debt 9 = .ok (.invokevirtual 81, 3) := by decide +kernel
theorem dX3_debt_12 : decode cX3_debt 12 = .ok (.if_icmp .ge 70, 3) := by decide +kernel
theorem dX3_debt_15 : decode cX3_debt 15 = .ok (.aload_n 0, 1) := by decide +kernel
theorem dX3_debt_16 : decode cX3_debt 16 = .ok (.getfield 10, 3) := by decide +kernel
theorem dX3_debt_19 : decode cX3_debt 19 = .ok (.iload_n 3, 1) := by decide +kernel
theorem dX3_debt_20 : decode cX3_debt 20 = .ok (.invokevirtual 148, 3) := by decide +kernel
theorem dX3_debt_23 : decode cX3_debt 23 = .ok (.checkcast 68, 3) := by decide +kernel
theorem dX3_debt_26 : decode cX3_debt 26 = .ok (.astore 4, 2) := by decide +kernel
theorem dX3_debt_28 : decode cX3_debt 28 = .ok (.aload 4, 2) := by decide +kernel
theorem dX3_debt_30 : decode cX3_debt 30 = .ok (.invokevirtual 89, 3) := by decide +kernel
theorem dX3_debt_33 : decode cX3_debt 33 = .ok (.ifCond .eq 23, 3) := by decide +kernel
theorem dX3_debt_36 : decode cX3_debt 36 = .ok (.aload 4, 2) := by decide +kernel
theorem dX3_debt_38 : decode cX3_debt 38 = .ok (.getfield 103, 3) := by decide +kernel
theorem dX3_debt_41 : decode cX3_debt 41 = .ok (.ifCond .ne 15, 3) := by decide +kernel
theorem dX3_debt_44 : decode cX3_debt 44 = .ok (.aload 4, 2) := by decide +kernel
theorem dX3_debt_46 : decode cX3_debt 46 = .ok (.invokevirtual 162, 3) := by decide +kernel
theorem dX3_debt_49 : decode cX3_debt 49 = .ok (.ifCond .ne 7, 3) := by decide +kernel
theorem dX3_debt_52 : decode cX3_debt 52 = .ok (.iconst 1, 1) := by decide +kernel
theorem dX3_debt_53 : decode cX3_debt 53 = .ok (.goto 4, 3) := by decide +kernel
theorem dX3_debt_56 : decode cX3_debt 56 = .ok (.iconst 0, 1) := by decide +kernel
theorem dX3_debt_57 : decode cX3_debt 57 = .ok (.istore 5, 2) := by decide +kernel
theorem dX3_debt_59 : decode cX3_debt 59 = .ok (.lload_n 1, 1) := by decide +kernel
theorem dX3_debt_60 : decode cX3_debt 60 = .ok (.iload 5, 2) := by decide +kernel
theorem dX3_debt_62 : decode cX3_debt 62 = .ok (.ifCond .eq 11, 3) := by decide +kernel
theorem dX3_debt_65 : decode cX3_debt 65 = .ok (.aload 4, 2) := by decide +kernel
theorem dX3_debt_67 : decode cX3_debt 67 = .ok (.invokevirtual 289, 3) := by decide +kernel
theorem dX3_debt_70 : decode cX3_debt 70 = .ok (.goto 4, 3) := by decide +kernel
theorem dX3_debt_73 : decode cX3_debt 73 = .ok (.lconst 0, 1) := by decide +kernel
theorem dX3_debt_74 : decode cX3_debt 74 = .ok (.ladd, 1) := by decide +kernel
theorem dX3_debt_75 : decode cX3_debt 75 = .ok (.lstore_n 1, 1) := by decide +kernel
theorem dX3_debt_76 : decode cX3_debt 76 = .ok (.iinc 3 1, 3) := by decide +kernel
theorem dX3_debt_79 : decode cX3_debt 79 = .ok (.goto (-75), 3) := by decide +kernel
theorem dX3_debt_82 : decode cX3_debt 82 = .ok (.lload_n 1, 1) := by decide +kernel
theorem dX3_debt_83 : decode cX3_debt 83 = .ok (.lreturn, 1) := by decide +kernel
theorem dX3_ofClaim_0 : decode cX3_ofClaim 0 = .ok (.aload_n 0, 1) := by decide +kernel
theorem dX3_ofClaim_1 : decode cX3_ofClaim 1 = .ok (.iload_n 1, 1) := by decide +kernel
theorem dX3_ofClaim_2 : decode cX3_ofClaim 2 = .ok (.invokevirtual 85, 3) := by decide +kernel
theorem dX3_ofClaim_5 : decode cX3_ofClaim 5 = .ok (.astore_n 3, 1) := by decide +kernel
theorem dX3_ofClaim_6 : decode cX3_ofClaim 6 = .ok (.iload_n 2, 1) := by decide +kernel
theorem dX3_ofClaim_7 : decode cX3_ofClaim 7 = .ok (.tableswitch 89 0 7 #[45, 51, 56, 61, 67, 72, 77, 83], 45) := by decide +kernel
theorem dX3_ofClaim_52 : decode cX3_ofClaim 52 = .ok (.aload_n 3, 1) := by decide +kernel
theorem dX3_ofClaim_53 : decode cX3_ofClaim 53 = .ok (.getfield 197, 3) := by decide +kernel
theorem dX3_ofClaim_56 : decode cX3_ofClaim 56 = .ok (.i2l, 1) := by decide +kernel
theorem dX3_ofClaim_57 : decode cX3_ofClaim 57 = .ok (.lreturn, 1) := by decide +kernel
theorem dX3_ofClaim_58 : decode cX3_ofClaim 58 = .ok (.aload_n 3, 1) := by decide +kernel
theorem dX3_ofClaim_59 : decode cX3_ofClaim 59 = .ok (.getfield 357, 3) := by decide +kernel
theorem dX3_ofClaim_62 : decode cX3_ofClaim 62 = .ok (.lreturn, 1) := by decide +kernel
theorem dX3_ofClaim_63 : decode cX3_ofClaim 63 = .ok (.aload_n 3, 1) := by decide +kernel
theorem dX3_ofClaim_64 : decode cX3_ofClaim 64 = .ok (.getfield 174, 3) := by decide +kernel
theorem dX3_ofClaim_67 : decode cX3_ofClaim 67 = .ok (.lreturn, 1) := by decide +kernel
theorem dX3_ofClaim_68 : decode cX3_ofClaim 68 = .ok (.aload_n 3, 1) := by decide +kernel
theorem dX3_ofClaim_69 : decode cX3_ofClaim 69 = .ok (.getfield 171, 3) := by decide +kernel
theorem dX3_ofClaim_72 : decode cX3_ofClaim 72 = .ok (.i2l, 1) := by decide +kernel
theorem dX3_ofClaim_73 : decode cX3_ofClaim 73 = .ok (.lreturn, 1) := by decide +kernel
theorem dX3_ofClaim_74 : decode cX3_ofClaim 74 = .ok (.aload_n 3, 1) := by decide +kernel
theorem dX3_ofClaim_75 : decode cX3_ofClaim 75 = .ok (.getfield 360, 3) := by decide +kernel
theorem dX3_ofClaim_78 : decode cX3_ofClaim 78 = .ok (.lreturn, 1) := by decide +kernel
theorem dX3_ofClaim_79 : decode cX3_ofClaim 79 = .ok (.aload_n 3, 1) := by decide +kernel
theorem dX3_ofClaim_80 : decode cX3_ofClaim 80 = .ok (.getfield 100, 3) := by decide +kernel
theorem dX3_ofClaim_83 : decode cX3_ofClaim 83 = .ok (.lreturn, 1) := by decide +kernel
theorem dX3_ofClaim_84 : decode cX3_ofClaim 84 = .ok (.aload_n 3, 1) := by decide +kernel
theorem dX3_ofClaim_85 : decode cX3_ofClaim 85 = .ok (.getfield 152, 3) := by decide +kernel
theorem dX3_ofClaim_88 : decode cX3_ofClaim 88 = .ok (.i2l, 1) := by decide +kernel
theorem dX3_ofClaim_89 : decode cX3_ofClaim 89 = .ok (.lreturn, 1) := by decide +kernel
theorem dX3_ofClaim_90 : decode cX3_ofClaim 90 = .ok (.aload_n 3, 1) := by decide +kernel
theorem dX3_ofClaim_91 : decode cX3_ofClaim 91 = .ok (.getfield 231, 3) := by decide +kernel
theorem dX3_ofClaim_94 : decode cX3_ofClaim 94 = .ok (.i2l, 1) := by decide +kernel
theorem dX3_ofClaim_95 : decode cX3_ofClaim 95 = .ok (.lreturn, 1) := by decide +kernel
theorem dX3_ofClaim_96 : decode cX3_ofClaim 96 = .ok (.new 363, 3) := by decide +kernel
theorem dX3_ofClaim_99 : decode cX3_ofClaim 99 = .ok (.dup, 1) := by decide +kernel
theorem dX3_ofClaim_100 : decode cX3_ofClaim 100 = .ok (.ldc_w 365, 3) := by decide +kernel
theorem dX3_ofClaim_103 : decode cX3_ofClaim 103 = .ok (.invokespecial 367, 3) := by decide +kernel
theorem dX3_ofClaim_106 : decode cX3_ofClaim 106 = .ok (.athrow, 1) := by decide +kernel
theorem dX3_paidAnew_0 : decode cX3_paidAnew 0 = .ok (.aload_n 0, 1) := by decide +kernel
theorem dX3_paidAnew_1 : decode cX3_paidAnew 1 = .ok (.iload_n 1, 1) := by decide +kernel
theorem dX3_paidAnew_2 : decode cX3_paidAnew 2 = .ok (.invokevirtual 85, 3) := by decide +kernel
theorem dX3_paidAnew_5 : decode cX3_paidAnew 5 = .ok (.invokevirtual 368, 3) := by decide +kernel
theorem dX3_paidAnew_8 : decode cX3_paidAnew 8 = .ok (.lreturn, 1) := by decide +kernel
theorem dX3_ofState_0 : decode cX3_ofState 0 = .ok (.iload_n 1, 1) := by decide +kernel
theorem dX3_ofState_1 : decode cX3_ofState 1 = .ok (.tableswitch 62 0 4 #[35, 41, 46, 51, 56], 35) := by decide +kernel
theorem dX3_ofState_36 : decode cX3_ofState 36 = .ok (.aload_n 0, 1) := by decide +kernel
theorem dX3_ofState_37 : decode cX3_ofState 37 = .ok (.getfield 22, 3) := by decide +kernel
theorem dX3_ofState_40 : decode cX3_ofState 40 = .ok (.i2l, 1) := by decide +kernel
theorem dX3_ofState_41 : decode cX3_ofState 41 = .ok (.lreturn, 1) := by decide +kernel
theorem dX3_ofState_42 : decode cX3_ofState 42 = .ok (.aload_n 0, 1) := by decide +kernel
theorem dX3_ofState_43 : decode cX3_ofState 43 = .ok (.getfield 26, 3) := by decide +kernel
theorem dX3_ofState_46 : decode cX3_ofState 46 = .ok (.lreturn, 1) := by decide +kernel
theorem dX3_ofState_47 : decode cX3_ofState 47 = .ok (.aload_n 0, 1) := by decide +kernel
theorem dX3_ofState_48 : decode cX3_ofState 48 = .ok (.getfield 32, 3) := by decide +kernel
theorem dX3_ofState_51 : decode cX3_ofState 51 = .ok (.lreturn, 1) := by decide +kernel
theorem dX3_ofState_52 : decode cX3_ofState 52 = .ok (.aload_n 0, 1) := by decide +kernel
theorem dX3_ofState_53 : decode cX3_ofState 53 = .ok (.invokevirtual 109, 3) := by decide +kernel
theorem dX3_ofState_56 : decode cX3_ofState 56 = .ok (.lreturn, 1) := by decide +kernel
theorem dX3_ofState_57 : decode cX3_ofState 57 = .ok (.aload_n 0, 1) := by decide +kernel
theorem dX3_ofState_58 : decode cX3_ofState 58 = .ok (.getfield 56, 3) := by decide +kernel
theorem dX3_ofState_61 : decode cX3_ofState 61 = .ok (.i2l, 1) := by decide +kernel
theorem dX3_ofState_62 : decode cX3_ofState 62 = .ok (.lreturn, 1) := by decide +kernel
theorem dX3_ofState_63 : decode cX3_ofState 63 = .ok (.new 363, 3) := by decide +kernel
theorem dX3_ofState_66 : decode cX3_ofState 66 = .ok (.dup, 1) := by decide +kernel
theorem dX3_ofState_67 : decode cX3_ofState 67 = .ok (.ldc_w 371, 3) := by decide +kernel
theorem dX3_ofState_70 : decode cX3_ofState 70 = .ok (.invokespecial 367, 3) := by decide +kernel
theorem dX3_ofState_73 : decode cX3_ofState 73 = .ok (.athrow, 1) := by decide +kernel
theorem dX3_claimAt_0 : decode cX3_claimAt 0 = .ok (.iload_n 1, 1) := by decide +kernel
theorem dX3_claimAt_1 : decode cX3_claimAt 1 = .ok (.ifCond .lt 14, 3) := by decide +kernel
theorem dX3_claimAt_4 : decode cX3_claimAt 4 = .ok (.iload_n 1, 1) := by decide +kernel
theorem dX3_claimAt_5 : decode cX3_claimAt 5 = .ok (.aload_n 0, 1) := by decide +kernel
theorem dX3_claimAt_6 : decode cX3_claimAt 6 = .ok (.getfield 10, 3) := by decide +kernel
theorem dX3_claimAt_9 : decode cX3_claimAt 9 = .ok (.invokevirtual 81, 3) := by decide +kernel
theorem dX3_claimAt_12 : decode cX3_claimAt 12 = .ok (.if_icmp .lt 14, 3) := by decide +kernel
theorem dX3_claimAt_15 : decode cX3_claimAt 15 = .ok (.new 311, 3) := by decide +kernel
theorem dX3_claimAt_18 : decode cX3_claimAt 18 = .ok (.dup, 1) := by decide +kernel
theorem dX3_claimAt_19 : decode cX3_claimAt 19 = .ok (.ldc_w 373, 3) := by decide +kernel
theorem dX3_claimAt_22 : decode cX3_claimAt 22 = .ok (.invokespecial 315, 3) := by decide +kernel
theorem dX3_claimAt_25 : decode cX3_claimAt 25 = .ok (.athrow, 1) := by decide +kernel
theorem dX3_claimAt_26 : decode cX3_claimAt 26 = .ok (.aload_n 0, 1) := by decide +kernel
theorem dX3_claimAt_27 : decode cX3_claimAt 27 = .ok (.getfield 10, 3) := by decide +kernel
theorem dX3_claimAt_30 : decode cX3_claimAt 30 = .ok (.iload_n 1, 1) := by decide +kernel
theorem dX3_claimAt_31 : decode cX3_claimAt 31 = .ok (.invokevirtual 148, 3) := by decide +kernel
theorem dX3_claimAt_34 : decode cX3_claimAt 34 = .ok (.checkcast 68, 3) := by decide +kernel
theorem dX3_claimAt_37 : decode cX3_claimAt 37 = .ok (.areturn, 1) := by decide +kernel
theorem dX3_offerAt_0 : decode cX3_offerAt 0 = .ok (.iload_n 1, 1) := by decide +kernel
theorem dX3_offerAt_1 : decode cX3_offerAt 1 = .ok (.ifCond .lt 14, 3) := by decide +kernel
theorem dX3_offerAt_4 : decode cX3_offerAt 4 = .ok (.iload_n 1, 1) := by decide +kernel
theorem dX3_offerAt_5 : decode cX3_offerAt 5 = .ok (.aload_n 0, 1) := by decide +kernel
theorem dX3_offerAt_6 : decode cX3_offerAt 6 = .ok (.getfield 16, 3) := by decide +kernel
theorem dX3_offerAt_9 : decode cX3_offerAt 9 = .ok (.invokevirtual 81, 3) := by decide +kernel
theorem dX3_offerAt_12 : decode cX3_offerAt 12 = .ok (.if_icmp .lt 14, 3) := by decide +kernel
theorem dX3_offerAt_15 : decode cX3_offerAt 15 = .ok (.new 311, 3) := by decide +kernel
theorem dX3_offerAt_18 : decode cX3_offerAt 18 = .ok (.dup, 1) := by decide +kernel
theorem dX3_offerAt_19 : decode cX3_offerAt 19 = .ok (.ldc_w 375, 3) := by decide +kernel
theorem dX3_offerAt_22 : decode cX3_offerAt 22 = .ok (.invokespecial 315, 3) := by decide +kernel
theorem dX3_offerAt_25 : decode cX3_offerAt 25 = .ok (.athrow, 1) := by decide +kernel
theorem dX3_offerAt_26 : decode cX3_offerAt 26 = .ok (.aload_n 0, 1) := by decide +kernel
theorem dX3_offerAt_27 : decode cX3_offerAt 27 = .ok (.getfield 16, 3) := by decide +kernel
theorem dX3_offerAt_30 : decode cX3_offerAt 30 = .ok (.iload_n 1, 1) := by decide +kernel
theorem dX3_offerAt_31 : decode cX3_offerAt 31 = .ok (.invokevirtual 148, 3) := by decide +kernel
theorem dX3_offerAt_34 : decode cX3_offerAt 34 = .ok (.checkcast 202, 3) := by decide +kernel
theorem dX3_offerAt_37 : decode cX3_offerAt 37 = .ok (.areturn, 1) := by decide +kernel
theorem dX3_thingAt_0 : decode cX3_thingAt 0 = .ok (.iload_n 1, 1) := by decide +kernel
theorem dX3_thingAt_1 : decode cX3_thingAt 1 = .ok (.ifCond .lt 14, 3) := by decide +kernel
theorem dX3_thingAt_4 : decode cX3_thingAt 4 = .ok (.iload_n 1, 1) := by decide +kernel
theorem dX3_thingAt_5 : decode cX3_thingAt 5 = .ok (.aload_n 0, 1) := by decide +kernel
theorem dX3_thingAt_6 : decode cX3_thingAt 6 = .ok (.getfield 19, 3) := by decide +kernel
theorem dX3_thingAt_9 : decode cX3_thingAt 9 = .ok (.invokevirtual 81, 3) := by decide +kernel
theorem dX3_thingAt_12 : decode cX3_thingAt 12 = .ok (.if_icmp .lt 14, 3) := by decide +kernel
theorem dX3_thingAt_15 : decode cX3_thingAt 15 = .ok (.new 311, 3) := by decide +kernel
theorem dX3_thingAt_18 : decode cX3_thingAt 18 = .ok (.dup, 1) := by decide +kernel
theorem dX3_thingAt_19 : decode cX3_thingAt 19 = .ok (.ldc_w 377, 3) := by decide +kernel
theorem dX3_thingAt_22 : decode cX3_thingAt 22 = .ok (.invokespecial 315, 3) := by decide +kernel
theorem dX3_thingAt_25 : decode cX3_thingAt 25 = .ok (.athrow, 1) := by decide +kernel
theorem dX3_thingAt_26 : decode cX3_thingAt 26 = .ok (.aload_n 0, 1) := by decide +kernel
theorem dX3_thingAt_27 : decode cX3_thingAt 27 = .ok (.getfield 19, 3) := by decide +kernel
theorem dX3_thingAt_30 : decode cX3_thingAt 30 = .ok (.iload_n 1, 1) := by decide +kernel
