theorem dX0_init_0 : decode cX0_init 0 = .ok (.aload_n 0, 1) := by decide +kernel
theorem dX0_init_1 : decode cX0_init 1 = .ok (.invokespecial 3, 3) := by decide +kernel
theorem dX0_init_4 : decode cX0_init 4 = .ok (.aload_n 0, 1) := by decide +kernel
theorem dX0_init_5 : decode cX0_init 5 = .ok (.lconst 0, 1) := by decide +kernel
theorem dX0_init_6 : decode cX0_init 6 = .ok (.putfield 9, 3) := by decide +kernel
theorem dX0_init_9 : decode cX0_init 9 = .ok (.aload_n 0, 1) := by decide +kernel
theorem dX0_init_10 : decode cX0_init 10 = .ok (.iconst 0, 1) := by decide +kernel
theorem dX0_init_11 : decode cX0_init 11 = .ok (.putfield 15, 3) := by decide +kernel
theorem dX0_init_14 : decode cX0_init 14 = .ok (.aload_n 0, 1) := by decide +kernel
theorem dX0_init_15 : decode cX0_init 15 = .ok (.iconst 0, 1) := by decide +kernel
theorem dX0_init_16 : decode cX0_init 16 = .ok (.putfield 19, 3) := by decide +kernel
theorem dX0_init_19 : decode cX0_init 19 = .ok (.aload_n 0, 1) := by decide +kernel
theorem dX0_init_20 : decode cX0_init 20 = .ok (.iconst 0, 1) := by decide +kernel
theorem dX0_init_21 : decode cX0_init 21 = .ok (.putfield 22, 3) := by decide +kernel
theorem dX0_init_24 : decode cX0_init 24 = .ok (.aload_n 0, 1) := by decide +kernel
theorem dX0_init_25 : decode cX0_init 25 = .ok (.lconst 0, 1) := by decide +kernel
theorem dX0_init_26 : decode cX0_init 26 = .ok (.putfield 25, 3) := by decide +kernel
theorem dX0_init_29 : decode cX0_init 29 = .ok (.aload_n 0, 1) := by decide +kernel
theorem dX0_init_30 : decode cX0_init 30 = .ok (.lconst 0, 1) := by decide +kernel
theorem dX0_init_31 : decode cX0_init 31 = .ok (.putfield 28, 3) := by decide +kernel
theorem dX0_init_34 : decode cX0_init 34 = .ok (.aload_n 0, 1) := by decide +kernel
theorem dX0_init_35 : decode cX0_init 35 = .ok (.iconst 0, 1) := by decide +kernel
theorem dX0_init_36 : decode cX0_init 36 = .ok (.putfield 31, 3) := by decide +kernel
theorem dX0_init_39 : decode cX0_init 39 = .ok (.aload_n 0, 1) := by decide +kernel
theorem dX0_init_40 : decode cX0_init 40 = .ok (.iconst (-1), 1) := by decide +kernel
theorem dX0_init_41 : decode cX0_init 41 = .ok (.putfield 34, 3) := by decide +kernel
theorem dX0_init_44 : decode cX0_init 44 = .ok (.aload_n 0, 1) := by decide +kernel
theorem dX0_init_45 : decode cX0_init 45 = .ok (.lconst 0, 1) := by decide +kernel
theorem dX0_init_46 : decode cX0_init 46 = .ok (.putfield 37, 3) := by decide +kernel
theorem dX0_init_49 : decode cX0_init 49 = .ok (.aload_n 0, 1) := by decide +kernel
theorem dX0_init_50 : decode cX0_init 50 = .ok (.lconst 0, 1) := by decide +kernel
theorem dX0_init_51 : decode cX0_init 51 = .ok (.putfield 40, 3) := by decide +kernel
theorem dX0_init_54 : decode cX0_init 54 = .ok (.aload_n 0, 1) := by decide +kernel
theorem dX0_init_55 : decode cX0_init 55 = .ok (.lconst 0, 1) := by decide +kernel
theorem dX0_init_56 : decode cX0_init 56 = .ok (.putfield 43, 3) := by decide +kernel
theorem dX0_init_59 : decode cX0_init 59 = .ok (.aload_n 0, 1) := by decide +kernel
theorem dX0_init_60 : decode cX0_init 60 = .ok (.bipush 70, 2) := by decide +kernel
theorem dX0_init_62 : decode cX0_init 62 = .ok (.newarray .long, 2) := by decide +kernel
theorem dX0_init_64 : decode cX0_init 64 = .ok (.putfield 46, 3) := by decide +kernel
theorem dX0_init_67 : decode cX0_init 67 = .ok (.aload_n 0, 1) := by decide +kernel
theorem dX0_init_68 : decode cX0_init 68 = .ok (.iconst 0, 1) := by decide +kernel
theorem dX0_init_69 : decode cX0_init 69 = .ok (.putfield 50, 3) := by decide +kernel
theorem dX0_init_72 : decode cX0_init 72 = .ok (.aload_n 0, 1) := by decide +kernel
theorem dX0_init_73 : decode cX0_init 73 = .ok (.iload_n 1, 1) := by decide +kernel
theorem dX0_init_74 : decode cX0_init 74 = .ok (.putfield 53, 3) := by decide +kernel
theorem dX0_init_77 : decode cX0_init 77 = .ok (.aload_n 0, 1) := by decide +kernel
theorem dX0_init_78 : decode cX0_init 78 = .ok (.iload_n 2, 1) := by decide +kernel
theorem dX0_init_79 : decode cX0_init 79 = .ok (.putfield 56, 3) := by decide +kernel
theorem dX0_init_82 : decode cX0_init 82 = .ok (.aload_n 0, 1) := by decide +kernel
theorem dX0_init_83 : decode cX0_init 83 = .ok (.iload_n 3, 1) := by decide +kernel
theorem dX0_init_84 : decode cX0_init 84 = .ok (.putfield 59, 3) := by decide +kernel
theorem dX0_init_87 : decode cX0_init 87 = .ok (.aload_n 0, 1) := by decide +kernel
theorem dX0_init_88 : decode cX0_init 88 = .ok (.iload 4, 2) := by decide +kernel
theorem dX0_init_90 : decode cX0_init 90 = .ok (.putfield 62, 3) := by decide +kernel
theorem dX0_init_93 : decode cX0_init 93 = .ok (.aload_n 0, 1) := by decide +kernel
theorem dX0_init_94 : decode cX0_init 94 = .ok (.iload 5, 2) := by decide +kernel
theorem dX0_init_96 : decode cX0_init 96 = .ok (.putfield 65, 3) := by decide +kernel
theorem dX0_init_99 : decode cX0_init 99 = .ok (.return_, 1) := by decide +kernel
theorem dX0_setTerms_0 : decode cX0_setTerms 0 = .ok (.aload_n 0, 1) := by decide +kernel
theorem dX0_setTerms_1 : decode cX0_setTerms 1 = .ok (.lload_n 1, 1) := by decide +kernel
theorem dX0_setTerms_2 : decode cX0_setTerms 2 = .ok (.putfield 9, 3) := by decide +kernel
theorem dX0_setTerms_5 : decode cX0_setTerms 5 = .ok (.aload_n 0, 1) := by decide +kernel
theorem dX0_setTerms_6 : decode cX0_setTerms 6 = .ok (.iload_n 3, 1) := by decide +kernel
theorem dX0_setTerms_7 : decode cX0_setTerms 7 = .ok (.putfield 15, 3) := by decide +kernel
theorem dX0_setTerms_10 : decode cX0_setTerms 10 = .ok (.aload_n 0, 1) := by decide +kernel
theorem dX0_setTerms_11 : decode cX0_setTerms 11 = .ok (.iload 4, 2) := by decide +kernel
theorem dX0_setTerms_13 : decode cX0_setTerms 13 = .ok (.putfield 19, 3) := by decide +kernel
theorem dX0_setTerms_16 : decode cX0_setTerms 16 = .ok (.return_, 1) := by decide +kernel
theorem dX0_isOpen_0 : decode cX0_isOpen 0 = .ok (.aload_n 0, 1) := by decide +kernel
theorem dX0_isOpen_1 : decode cX0_isOpen 1 = .ok (.getfield 22, 3) := by decide +kernel
theorem dX0_isOpen_4 : decode cX0_isOpen 4 = .ok (.ifCond .ne 7, 3) := by decide +kernel
theorem dX0_isOpen_7 : decode cX0_isOpen 7 = .ok (.iconst 1, 1) := by decide +kernel
theorem dX0_isOpen_8 : decode cX0_isOpen 8 = .ok (.goto 4, 3) := by decide +kernel
theorem dX0_isOpen_11 : decode cX0_isOpen 11 = .ok (.iconst 0, 1) := by decide +kernel
theorem dX0_isOpen_12 : decode cX0_isOpen 12 = .ok (.ireturn, 1) := by decide +kernel
theorem dX0_isOfState_0 : decode cX0_isOfState 0 = .ok (.aload_n 0, 1) := by decide +kernel
theorem dX0_isOfState_1 : decode cX0_isOfState 1 = .ok (.getfield 56, 3) := by decide +kernel
theorem dX0_isOfState_4 : decode cX0_isOfState 4 = .ok (.ifCond .ne 7, 3) := by decide +kernel
theorem dX0_isOfState_7 : decode cX0_isOfState 7 = .ok (.iconst 1, 1) := by decide +kernel
theorem dX0_isOfState_8 : decode cX0_isOfState 8 = .ok (.goto 4, 3) := by decide +kernel
theorem dX0_isOfState_11 : decode cX0_isOfState 11 = .ok (.iconst 0, 1) := by decide +kernel
theorem dX0_isOfState_12 : decode cX0_isOfState 12 = .ok (.ireturn, 1) := by decide +kernel
theorem dX0_isVoter_0 : decode cX0_isVoter 0 = .ok (.aload_n 0, 1) := by decide +kernel
theorem dX0_isVoter_1 : decode cX0_isVoter 1 = .ok (.getfield 53, 3) := by decide +kernel
theorem dX0_isVoter_4 : decode cX0_isVoter 4 = .ok (.iconst 1, 1) := by decide +kernel
theorem dX0_isVoter_5 : decode cX0_isVoter 5 = .ok (.if_icmp .ne 21, 3) := by decide +kernel
theorem dX0_isVoter_8 : decode cX0_isVoter 8 = .ok (.aload_n 0, 1) := by decide +kernel
theorem dX0_isVoter_9 : decode cX0_isVoter 9 = .ok (.invokevirtual 69, 3) := by decide +kernel
theorem dX0_isVoter_12 : decode cX0_isVoter 12 = .ok (.ifCond .eq 14, 3) := by decide +kernel
theorem dX0_isVoter_15 : decode cX0_isVoter 15 = .ok (.aload_n 0, 1) := by decide +kernel
theorem dX0_isVoter_16 : decode cX0_isVoter 16 = .ok (.invokevirtual 73, 3) := by decide +kernel
theorem dX0_isVoter_19 : decode cX0_isVoter 19 = .ok (.ifCond .ne 7, 3) := by decide +kernel
theorem dX0_isVoter_22 : decode cX0_isVoter 22 = .ok (.iconst 1, 1) := by decide +kernel
theorem dX0_isVoter_23 : decode cX0_isVoter 23 = .ok (.goto 4, 3) := by decide +kernel
theorem dX0_isVoter_26 : decode cX0_isVoter 26 = .ok (.iconst 0, 1) := by decide +kernel
theorem dX0_isVoter_27 : decode cX0_isVoter 27 = .ok (.ireturn, 1) := by decide +kernel
theorem dX0_isOfficial_0 : decode cX0_isOfficial 0 = .ok (.aload_n 0, 1) := by decide +kernel
theorem dX0_isOfficial_1 : decode cX0_isOfficial 1 = .ok (.getfield 53, 3) := by decide +kernel
theorem dX0_isOfficial_4 : decode cX0_isOfficial 4 = .ok (.ifCond .eq 11, 3) := by decide +kernel
theorem dX0_isOfficial_7 : decode cX0_isOfficial 7 = .ok (.aload_n 0, 1) := by decide +kernel
theorem dX0_isOfficial_8 : decode cX0_isOfficial 8 = .ok (.getfield 53, 3) := by decide +kernel
theorem dX0_isOfficial_11 : decode cX0_isOfficial 11 = .ok (.iconst 2, 1) := by decide +kernel
theorem dX0_isOfficial_12 : decode cX0_isOfficial 12 = .ok (.if_icmp .ne 21, 3) := by decide +kernel
theorem dX0_isOfficial_15 : decode cX0_isOfficial 15 = .ok (.aload_n 0, 1) := by decide +kernel
theorem dX0_isOfficial_16 : decode cX0_isOfficial 16 = .ok (.invokevirtual 69, 3) := by decide +kernel
theorem dX0_isOfficial_19 : decode cX0_isOfficial 19 = .ok (.ifCond .eq 14, 3) := by decide +kernel
theorem dX0_isOfficial_22 : decode cX0_isOfficial 22 = .ok (.aload_n 0, 1) := by decide +kernel
theorem dX0_isOfficial_23 : decode cX0_isOfficial 23 = .ok (.getfield 65, 3) := by decide +kernel
theorem dX0_isOfficial_26 : decode cX0_isOfficial 26 = .ok (.ifCond .ne 7, 3) := by decide +kernel
theorem dX0_isOfficial_29 : decode cX0_isOfficial 29 = .ok (.iconst 1, 1) := by decide +kernel
theorem dX0_isOfficial_30 : decode cX0_isOfficial 30 = .ok (.goto 4, 3) := by decide +kernel
theorem dX0_isOfficial_33 : decode cX0_isOfficial 33 = .ok (.iconst 0, 1) := by decide +kernel
theorem dX0_isOfficial_34 : decode cX0_isOfficial 34 = .ok (.ireturn, 1) := by decide +kernel
theorem dX0_owed_0 : decode cX0_owed 0 = .ok (.aload_n 0, 1) := by decide +kernel
theorem dX0_owed_1 : decode cX0_owed 1 = .ok (.getfield 9, 3) := by decide +kernel
theorem dX0_owed_4 : decode cX0_owed 4 = .ok (.aload_n 0, 1) := by decide +kernel
theorem dX0_owed_5 : decode cX0_owed 5 = .ok (.getfield 25, 3) := by decide +kernel
theorem dX0_owed_8 : decode cX0_owed 8 = .ok (.ladd, 1) := by decide +kernel
theorem dX0_owed_9 : decode cX0_owed 9 = .ok (.lreturn, 1) := by decide +kernel
theorem dX0_fallDue_0 : decode cX0_fallDue 0 = .ok (.aload_n 0, 1) := by decide +kernel
theorem dX0_fallDue_1 : decode cX0_fallDue 1 = .ok (.dup, 1) := by decide +kernel
theorem dX0_fallDue_2 : decode cX0_fallDue 2 = .ok (.getfield 25, 3) := by decide +kernel
theorem dX0_fallDue_5 : decode cX0_fallDue 5 = .ok (.aload_n 0, 1) := by decide +kernel
theorem dX0_fallDue_6 : decode cX0_fallDue 6 = .ok (.getfield 25, 3) := by decide +kernel
theorem dX0_fallDue_9 : decode cX0_fallDue 9 = .ok (.ldc2_w 76, 3) := by decide +kernel
theorem dX0_fallDue_12 : decode cX0_fallDue 12 = .ok (.lmul, 1) := by decide +kernel
theorem dX0_fallDue_13 : decode cX0_fallDue 13 = .ok (.ldc2_w 78, 3) := by decide +kernel
theorem dX0_fallDue_16 : decode cX0_fallDue 16 = .ok (.invokestatic 80, 3) := by decide +kernel
theorem dX0_fallDue_19 : decode cX0_fallDue 19 = .ok (.ladd, 1) := by decide +kernel
theorem dX0_fallDue_20 : decode cX0_fallDue 20 = .ok (.putfield 25, 3) := by decide +kernel
theorem dX0_fallDue_23 : decode cX0_fallDue 23 = .ok (.iload_n 1, 1) := by decide +kernel
theorem dX0_fallDue_24 : decode cX0_fallDue 24 = .ok (.aload_n 0, 1) := by decide +kernel
theorem dX0_fallDue_25 : decode cX0_fallDue 25 = .ok (.getfield 19, 3) := by decide +kernel
theorem dX0_fallDue_28 : decode cX0_fallDue 28 = .ok (.if_icmp .gt 23, 3) := by decide +kernel
theorem dX0_fallDue_31 : decode cX0_fallDue 31 = .ok (.aload_n 0, 1) := by decide +kernel
theorem dX0_fallDue_32 : decode cX0_fallDue 32 = .ok (.dup, 1) := by decide +kernel
theorem dX0_fallDue_33 : decode cX0_fallDue 33 = .ok (.getfield 25, 3) := by decide +kernel
theorem dX0_fallDue_36 : decode cX0_fallDue 36 = .ok (.aload_n 0, 1) := by decide +kernel
theorem dX0_fallDue_37 : decode cX0_fallDue 37 = .ok (.getfield 9, 3) := by decide +kernel
theorem dX0_fallDue_40 : decode cX0_fallDue 40 = .ok (.aload_n 0, 1) := by decide +kernel
theorem dX0_fallDue_41 : decode cX0_fallDue 41 = .ok (.getfield 15, 3) := by decide +kernel
theorem dX0_fallDue_44 : decode cX0_fallDue 44 = .ok (.invokestatic 84, 3) := by decide +kernel
theorem dX0_fallDue_47 : decode cX0_fallDue 47 = .ok (.ladd, 1) := by decide +kernel
theorem dX0_fallDue_48 : decode cX0_fallDue 48 = .ok (.putfield 25, 3) := by decide +kernel
theorem dX0_fallDue_51 : decode cX0_fallDue 51 = .ok (.iload_n 1, 1) := by decide +kernel
theorem dX0_fallDue_52 : decode cX0_fallDue 52 = .ok (.aload_n 0, 1) := by decide +kernel
theorem dX0_fallDue_53 : decode cX0_fallDue 53 = .ok (.getfield 19, 3) := by decide +kernel
theorem dX0_fallDue_56 : decode cX0_fallDue 56 = .ok (.if_icmp .ne 21, 3) := by decide +kernel
theorem dX0_fallDue_59 : decode cX0_fallDue 59 = .ok (.aload_n 0, 1) := by decide +kernel
theorem dX0_fallDue_60 : decode cX0_fallDue 60 = .ok (.dup, 1) := by decide +kernel
theorem dX0_fallDue_61 : decode cX0_fallDue 61 = .ok (.getfield 25, 3) := by decide +kernel
theorem dX0_fallDue_64 : decode cX0_fallDue 64 = .ok (.aload_n 0, 1) := by decide +kernel
theorem dX0_fallDue_65 : decode cX0_fallDue 65 = .ok (.getfield 9, 3) := by decide +kernel
theorem dX0_fallDue_68 : decode cX0_fallDue 68 = .ok (.ladd, 1) := by decide +kernel
theorem dX0_fallDue_69 : decode cX0_fallDue 69 = .ok (.putfield 25, 3) := by decide +kernel
theorem dX0_fallDue_72 : decode cX0_fallDue 72 = .ok (.aload_n 0, 1) := by decide +kernel
theorem dX0_fallDue_73 : decode cX0_fallDue 73 = .ok (.lconst 0, 1) := by decide +kernel
theorem dX0_fallDue_74 : decode cX0_fallDue 74 = .ok (.putfield 9, 3) := by decide +kernel
theorem dX0_fallDue_77 : decode cX0_fallDue 77 = .ok (.return_, 1) := by decide +kernel
theorem dX0_receive_0 : decode cX0_receive 0 = .ok (.lload_n 1, 1) := by decide +kernel
theorem dX0_receive_1 : decode cX0_receive 1 = .ok (.aload_n 0, 1) := by decide +kernel
theorem dX0_receive_2 : decode cX0_receive 2 = .ok (.getfield 25, 3) := by decide +kernel
theorem dX0_receive_5 : decode cX0_receive 5 = .ok (.invokestatic 88, 3) := by decide +kernel
theorem dX0_receive_8 : decode cX0_receive 8 = .ok (.lstore_n 3, 1) := by decide +kernel
theorem dX0_receive_9 : decode cX0_receive 9 = .ok (.aload_n 0, 1) := by decide +kernel
theorem dX0_receive_10 : decode cX0_receive 10 = .ok (.dup, 1) := by decide +kernel
theorem dX0_receive_11 : decode cX0_receive 11 = .ok (.getfield 25, 3) := by decide +kernel
theorem dX0_receive_14 : decode cX0_receive 14 = .ok (.lload_n 3, 1) := by decide +kernel
theorem dX0_receive_15 : decode cX0_receive 15 = .ok (.lsub, 1) := by decide +kernel
theorem dX0_receive_16 : decode cX0_receive 16 = .ok (.putfield 25, 3) := by decide +kernel
theorem dX0_receive_19 : decode cX0_receive 19 = .ok (.aload_n 0, 1) := by decide +kernel
theorem dX0_receive_20 : decode cX0_receive 20 = .ok (.dup, 1) := by decide +kernel
theorem dX0_receive_21 : decode cX0_receive 21 = .ok (.getfield 9, 3) := by decide +kernel
theorem dX0_receive_24 : decode cX0_receive 24 = .ok (.lload_n 1, 1) := by decide +kernel
theorem dX0_receive_25 : decode cX0_receive 25 = .ok (.lload_n 3, 1) := by decide +kernel
theorem dX0_receive_26 : decode cX0_receive 26 = .ok (.lsub, 1) := by decide +kernel
theorem dX0_receive_27 : decode cX0_receive 27 = .ok (.lsub, 1) := by decide +kernel
theorem dX0_receive_28 : decode cX0_receive 28 = .ok (.putfield 9, 3) := by decide +kernel
theorem dX0_receive_31 : decode cX0_receive 31 = .ok (.aload_n 0, 1) := by decide +kernel
theorem dX0_receive_32 : decode cX0_receive 32 = .ok (.dup, 1) := by decide +kernel
theorem dX0_receive_33 : decode cX0_receive 33 = .ok (.getfield 43, 3) := by decide +kernel
theorem dX0_receive_36 : decode cX0_receive 36 = .ok (.lload_n 1, 1) := by decide +kernel
theorem dX0_receive_37 : decode cX0_receive 37 = .ok (.ladd, 1) := by decide +kernel
theorem dX0_receive_38 : decode cX0_receive 38 = .ok (.putfield 43, 3) := by decide +kernel
theorem dX0_receive_41 : decode cX0_receive 41 = .ok (.aload_n 0, 1) := by decide +kernel
theorem dX0_receive_42 : decode cX0_receive 42 = .ok (.getfield 50, 3) := by decide +kernel
theorem dX0_receive_45 : decode cX0_receive 45 = .ok (.aload_n 0, 1) := by decide +kernel
theorem dX0_receive_46 : decode cX0_receive 46 = .ok (.getfield 46, 3) := by decide +kernel
theorem dX0_receive_49 : decode cX0_receive 49 = .ok (.arraylength, 1) := by decide +kernel
theorem dX0_receive_50 : decode cX0_receive 50 = .ok (.if_icmp .ge 23, 3) := by decide +kernel
theorem dX0_receive_53 : decode cX0_receive 53 = .ok (.aload_n 0, 1) := by decide +kernel
theorem dX0_receive_54 : decode cX0_receive 54 = .ok (.getfield 46, 3) := by decide +kernel
theorem dX0_receive_57 : decode cX0_receive 57 = .ok (.aload_n 0, 1) := by decide +kernel
theorem dX0_receive_58 : decode cX0_receive 58 = .ok (.getfield 50, 3) := by decide +kernel
theorem dX0_receive_61 : decode cX0_receive 61 = .ok (.lload_n 1, 1) := by decide +kernel
theorem dX0_receive_62 : decode cX0_receive 62 = .ok (.lastore, 1) := by decide +kernel
theorem dX0_receive_63 : decode cX0_receive 63 = .ok (.aload_n 0, 1) := by decide +kernel
theorem dX0_receive_64 : decode cX0_receive 64 = .ok (.dup, 1) := by decide +kernel
theorem dX0_receive_65 : decode cX0_receive 65 = .ok (.getfield 50, 3) := by decide +kernel
theorem dX0_receive_68 : decode cX0_receive 68 = .ok (.iconst 1, 1) := by decide +kernel
theorem dX0_receive_69 : decode cX0_receive 69 = .ok (.iadd, 1) := by decide +kernel
theorem dX0_receive_70 : decode cX0_receive 70 = .ok (.putfield 50, 3) := by decide +kernel
theorem dX0_receive_73 : decode cX0_receive 73 = .ok (.return_, 1) := by decide +kernel
theorem dX0_paymentsAdded_0 : decode cX0_paymentsAdded 0 = .ok (.lconst 0, 1) := by decide +kernel
theorem dX0_paymentsAdded_1 : decode cX0_paymentsAdded 1 = .ok (.lstore_n 1, 1) := by decide +kernel
theorem dX0_paymentsAdded_2 : decode cX0_paymentsAdded 2 = .ok (.aload_n 0, 1) := by decide +kernel
theorem dX0_paymentsAdded_3 : decode cX0_paymentsAdded 3 = .ok (.getfield 46, 3) := by decide +kernel
theorem dX0_paymentsAdded_6 : decode cX0_paymentsAdded 6 = .ok (.astore_n 3, 1) := by decide +kernel
theorem dX0_paymentsAdded_7 : decode cX0_paymentsAdded 7 = .ok (.aload_n 3, 1) := by decide +kernel
theorem dX0_paymentsAdded_8 : decode cX0_paymentsAdded 8 = .ok (.arraylength, 1) := by decide +kernel
theorem dX0_paymentsAdded_9 : decode cX0_paymentsAdded 9 = .ok (.istore 4, 2) := by decide +kernel
theorem dX0_paymentsAdded_11 : decode cX0_paymentsAdded 11 = .ok (.iconst 0, 1) := by decide +kernel
theorem dX0_paymentsAdded_12 : decode cX0_paymentsAdded 12 = .ok (.istore 5, 2) := by decide +kernel
theorem dX0_paymentsAdded_14 : decode cX0_paymentsAdded 14 = .ok (.iload 5, 2) := by decide +kernel
theorem dX0_paymentsAdded_16 : decode cX0_paymentsAdded 16 = .ok (.iload 4, 2) := by decide +kernel
theorem dX0_paymentsAdded_18 : decode cX0_paymentsAdded 18 = .ok (.if_icmp .ge 20, 3) := by decide +kernel
theorem dX0_paymentsAdded_21 : decode cX0_paymentsAdded 21 = .ok (.aload_n 3, 1) := by decide +kernel
theorem dX0_paymentsAdded_22 : decode cX0_paymentsAdded 22 = .ok (.iload 5, 2) := by decide +kernel
theorem dX0_paymentsAdded_24 : decode cX0_paymentsAdded 24 = .ok (.laload, 1) := by decide +kernel
theorem dX0_paymentsAdded_25 : decode cX0_paymentsAdded 25 = .ok (.lstore 6, 2) := by decide +kernel
theorem dX0_paymentsAdded_27 : decode cX0_paymentsAdded 27 = .ok (.lload_n 1, 1) := by decide +kernel
theorem dX0_paymentsAdded_28 : decode cX0_paymentsAdded 28 = .ok (.lload 6, 2) := by decide +kernel
theorem dX0_paymentsAdded_30 : decode cX0_paymentsAdded 30 = .ok (.ladd, 1) := by decide +kernel
theorem dX0_paymentsAdded_31 : decode cX0_paymentsAdded 31 = .ok (.lstore_n 1, 1) := by decide +kernel
theorem dX0_paymentsAdded_32 : decode cX0_paymentsAdded 32 = .ok (.iinc 5 1, 3) := by decide +kernel
theorem dX0_paymentsAdded_35 : decode cX0_paymentsAdded 35 = .ok (.goto (-21), 3) := by decide +kernel
theorem dX0_paymentsAdded_38 : decode cX0_paymentsAdded 38 = .ok (.lload_n 1, 1) := by decide +kernel
theorem dX0_paymentsAdded_39 : decode cX0_paymentsAdded 39 = .ok (.lreturn, 1) := by decide +kernel
theorem dX0_worth_0 : decode cX0_worth 0 = .ok (.aload_n 0, 1) := by decide +kernel
theorem dX0_worth_1 : decode cX0_worth 1 = .ok (.invokevirtual 69, 3) := by decide +kernel
theorem dX0_worth_4 : decode cX0_worth 4 = .ok (.ifCond .eq 29, 3) := by decide +kernel
theorem dX0_worth_7 : decode cX0_worth 7 = .ok (.aload_n 0, 1) := by decide +kernel
theorem dX0_worth_8 : decode cX0_worth 8 = .ok (.getfield 9, 3) := by decide +kernel
theorem dX0_worth_11 : decode cX0_worth 11 = .ok (.aload_n 0, 1) := by decide +kernel
theorem dX0_worth_12 : decode cX0_worth 12 = .ok (.getfield 15, 3) := by decide +kernel
theorem dX0_worth_15 : decode cX0_worth 15 = .ok (.aload_n 0, 1) := by decide +kernel
theorem dX0_worth_16 : decode cX0_worth 16 = .ok (.getfield 19, 3) := by decide +kernel
theorem dX0_worth_19 : decode cX0_worth 19 = .ok (.iload_n 1, 1) := by decide +kernel
theorem dX0_worth_20 : decode cX0_worth 20 = .ok (.isub, 1) := by decide +kernel
theorem dX0_worth_21 : decode cX0_worth 21 = .ok (.iload_n 2, 1) := by decide +kernel
theorem dX0_worth_22 : decode cX0_worth 22 = .ok (.invokestatic 93, 3) := by decide +kernel
theorem dX0_worth_25 : decode cX0_worth 25 = .ok (.aload_n 0, 1) := by decide +kernel
theorem dX0_worth_26 : decode cX0_worth 26 = .ok (.getfield 25, 3) := by decide +kernel
theorem dX0_worth_29 : decode cX0_worth 29 = .ok (.ladd, 1) := by decide +kernel
theorem dX0_worth_30 : decode cX0_worth 30 = .ok (.goto 4, 3) := by decide +kernel
theorem dX0_worth_33 : decode cX0_worth 33 = .ok (.lconst 0, 1) := by decide +kernel
theorem dX0_worth_34 : decode cX0_worth 34 = .ok (.lreturn, 1) := by decide +kernel
theorem dX1_init_0 : decode cX1_init 0 = .ok (.aload_n 0, 1) := by decide +kernel
theorem dX1_init_1 : decode cX1_init 1 = .ok (.invokespecial 1, 3) := by decide +kernel
theorem dX1_init_4 : decode cX1_init 4 = .ok (.aload_n 0, 1) := by decide +kernel
theorem dX1_init_5 : decode cX1_init 5 = .ok (.lconst 0, 1) := by decide +kernel
theorem dX1_init_6 : decode cX1_init 6 = .ok (.putfield 7, 3) := by decide +kernel
theorem dX1_init_9 : decode cX1_init 9 = .ok (.aload_n 0, 1) := by decide +kernel
theorem dX1_init_10 : decode cX1_init 10 = .ok (.iload_n 1, 1) := by decide +kernel
theorem dX1_init_11 : decode cX1_init 11 = .ok (.putfield 13, 3) := by decide +kernel
theorem dX1_init_14 : decode cX1_init 14 = .ok (.aload_n 0, 1) := by decide +kernel
theorem dX1_init_15 : decode cX1_init 15 = .ok (.iload_n 2, 1) := by decide +kernel
theorem dX1_init_16 : decode cX1_init 16 = .ok (.putfield 17, 3) := by decide +kernel
theorem dX1_init_19 : decode cX1_init 19 = .ok (.aload_n 0, 1) := by decide +kernel
theorem dX1_init_20 : decode cX1_init 20 = .ok (.iload_n 3, 1) := by decide +kernel
theorem dX1_init_21 : decode cX1_init 21 = .ok (.putfield 20, 3) := by decide +kernel
theorem dX1_init_24 : decode cX1_init 24 = .ok (.return_, 1) := by decide +kernel
theorem dX1_principalFor_0 : decode cX1_principalFor 0 = .ok (.aload_n 1, 1) := by decide +kernel
theorem dX1_principalFor_1 : decode cX1_principalFor 1 = .ok (.invokevirtual 23, 3) := by decide +kernel
theorem dX1_principalFor_4 : decode cX1_principalFor 4 = .ok (.bipush 100, 2) := by decide +kernel
theorem dX1_principalFor_6 : decode cX1_principalFor 6 = .ok (.aload_n 0, 1) := by decide +kernel
theorem dX1_principalFor_7 : decode cX1_principalFor 7 = .ok (.getfield 13, 3) := by decide +kernel
theorem dX1_principalFor_10 : decode cX1_principalFor 10 = .ok (.isub, 1) := by decide +kernel
theorem dX1_principalFor_11 : decode cX1_principalFor 11 = .ok (.i2l, 1) := by decide +kernel
theorem dX1_principalFor_12 : decode cX1_principalFor 12 = .ok (.lmul, 1) := by decide +kernel
theorem dX1_principalFor_13 : decode cX1_principalFor 13 = .ok (.ldc2_w 29, 3) := by decide +kernel
theorem dX1_principalFor_16 : decode cX1_principalFor 16 = .ok (.invokestatic 31, 3) := by decide +kernel
theorem dX1_principalFor_19 : decode cX1_principalFor 19 = .ok (.lreturn, 1) := by decide +kernel
theorem dX1_tell_0 : decode cX1_tell 0 = .ok (.aload_n 0, 1) := by decide +kernel
theorem dX1_tell_1 : decode cX1_tell 1 = .ok (.iload_n 2, 1) := by decide +kernel
theorem dX1_tell_2 : decode cX1_tell 2 = .ok (.ifCond .eq 14, 3) := by decide +kernel
theorem dX1_tell_5 : decode cX1_tell 5 = .ok (.aload_n 0, 1) := by decide +kernel
theorem dX1_tell_6 : decode cX1_tell 6 = .ok (.getfield 7, 3) := by decide +kernel
theorem dX1_tell_9 : decode cX1_tell 9 = .ok (.lconst 1, 1) := by decide +kernel
theorem dX1_tell_10 : decode cX1_tell 10 = .ok (.iload_n 1, 1) := by decide +kernel
theorem dX1_tell_11 : decode cX1_tell 11 = .ok (.lshl, 1) := by decide +kernel
theorem dX1_tell_12 : decode cX1_tell 12 = .ok (.lor, 1) := by decide +kernel
theorem dX1_tell_13 : decode cX1_tell 13 = .ok (.goto 15, 3) := by decide +kernel
theorem dX1_tell_16 : decode cX1_tell 16 = .ok (.aload_n 0, 1) := by decide +kernel
theorem dX1_tell_17 : decode cX1_tell 17 = .ok (.getfield 7, 3) := by decide +kernel
theorem dX1_tell_20 : decode cX1_tell 20 = .ok (.lconst 1, 1) := by decide +kernel
theorem dX1_tell_21 : decode cX1_tell 21 = .ok (.iload_n 1, 1) := by decide +kernel
theorem dX1_tell_22 : decode cX1_tell 22 = .ok (.lshl, 1) := by decide +kernel
theorem dX1_tell_23 : decode cX1_tell 23 = .ok (.ldc2_w 37, 3) := by decide +kernel
theorem dX1_tell_26 : decode cX1_tell 26 = .ok (.lxor, 1) := by decide +kernel
theorem dX1_tell_27 : decode cX1_tell 27 = .ok (.land, 1) := by decide +kernel
theorem dX1_tell_28 : decode cX1_tell 28 = .ok (.putfield 7, 3) := by decide +kernel
theorem dX1_tell_31 : decode cX1_tell 31 = .ok (.return_, 1) := by decide +kernel
theorem dX1_hasYesOf_0 : decode cX1_hasYesOf 0 = .ok (.aload_n 0, 1) := by decide +kernel
theorem dX1_hasYesOf_1 : decode cX1_hasYesOf 1 = .ok (.getfield 7, 3) := by decide +kernel
theorem dX1_hasYesOf_4 : decode cX1_hasYesOf 4 = .ok (.iload_n 1, 1) := by decide +kernel
theorem dX1_hasYesOf_5 : decode cX1_hasYesOf 5 = .ok (.invokestatic 39, 3) := by decide +kernel
theorem dX1_hasYesOf_8 : decode cX1_hasYesOf 8 = .ok (.ireturn, 1) := by decide +kernel
theorem dX1_forgetVotes_0 : decode cX1_forgetVotes 0 = .ok (.aload_n 0, 1) := by decide +kernel
theorem dX1_forgetVotes_1 : decode cX1_forgetVotes 1 = .ok (.lconst 0, 1) := by decide +kernel
theorem dX1_forgetVotes_2 : decode cX1_forgetVotes 2 = .ok (.putfield 7, 3) := by decide +kernel
theorem dX1_forgetVotes_5 : decode cX1_forgetVotes 5 = .ok (.return_, 1) := by decide +kernel
theorem dX2_init_0 : decode cX2_init 0 = .ok (.aload_n 0, 1) := by decide +kernel
theorem dX2_init_1 : decode cX2_init 1 = .ok (.invokespecial 1, 3) := by decide +kernel
theorem dX2_init_4 : decode cX2_init 4 = .ok (.aload_n 0, 1) := by decide +kernel
theorem dX2_init_5 : decode cX2_init 5 = .ok (.iconst 0, 1) := by decide +kernel
theorem dX2_init_6 : decode cX2_init 6 = .ok (.putfield 7, 3) := by decide +kernel
theorem dX2_init_9 : decode cX2_init 9 = .ok (.aload_n 0, 1) := by decide +kernel
theorem dX2_init_10 : decode cX2_init 10 = .ok (.iload_n 1, 1) := by decide +kernel
theorem dX2_init_11 : decode cX2_init 11 = .ok (.putfield 13, 3) := by decide +kernel
theorem dX2_init_14 : decode cX2_init 14 = .ok (.return_, 1) := by decide +kernel
theorem dX3_init_0 : decode cX3_init 0 = .ok (.aload_n 0, 1) := by decide +kernel
theorem dX3_init_1 : decode cX3_init 1 = .ok (.invokespecial 1, 3) := by decide +kernel
theorem dX3_init_4 : decode cX3_init 4 = .ok (.aload_n 0, 1) := by decide +kernel
theorem dX3_init_5 : decode cX3_init 5 = .ok (.new 7, 3) := by decide +kernel
theorem dX3_init_8 : decode cX3_init 8 = .ok (.dup, 1) := by decide +kernel
theorem dX3_init_9 : decode cX3_init 9 = .ok (.invokespecial 9, 3) := by decide +kernel
theorem dX3_init_12 : decode cX3_init 12 = .ok (.putfield 10, 3) := by decide +kernel
theorem dX3_init_15 : decode cX3_init 15 = .ok (.aload_n 0, 1) := by decide +kernel
theorem dX3_init_16 : decode cX3_init 16 = .ok (.new 7, 3) := by decide +kernel
theorem dX3_init_19 : decode cX3_init 19 = .ok (.dup, 1) := by decide +kernel
theorem dX3_init_20 : decode cX3_init 20 = .ok (.invokespecial 9, 3) := by decide +kernel
theorem dX3_init_23 : decode cX3_init 23 = .ok (.putfield 16, 3) := by decide +kernel
theorem dX3_init_26 : decode cX3_init 26 = .ok (.aload_n 0, 1) := by decide +kernel
theorem dX3_init_27 : decode cX3_init 27 = .ok (.new 7, 3) := by decide +kernel
theorem dX3_init_30 : decode cX3_init 30 = .ok (.dup, 1) := by decide +kernel
theorem dX3_init_31 : decode cX3_init 31 = .ok (.invokespecial 9, 3) := by decide +kernel
theorem dX3_init_34 : decode cX3_init 34 = .ok (.putfield 19, 3) := by decide +kernel
theorem dX3_init_37 : decode cX3_init 37 = .ok (.aload_n 0, 1) := by decide +kernel
theorem dX3_init_38 : decode cX3_init 38 = .ok (.iconst 0, 1) := by decide +kernel
theorem dX3_init_39 : decode cX3_init 39 = .ok (.putfield 22, 3) := by decide +kernel
theorem dX3_init_42 : decode cX3_init 42 = .ok (.aload_n 0, 1) := by decide +kernel
theorem dX3_init_43 : decode cX3_init 43 = .ok (.lconst 0, 1) := by decide +kernel
theorem dX3_init_44 : decode cX3_init 44 = .ok (.putfield 26, 3) := by decide +kernel
theorem dX3_init_47 : decode cX3_init 47 = .ok (.aload_n 0, 1) := by decide +kernel
theorem dX3_init_48 : decode cX3_init 48 = .ok (.ldc2_w 30, 3) := by decide +kernel
theorem dX3_init_51 : decode cX3_init 51 = .ok (.putfield 32, 3) := by decide +kernel
theorem dX3_init_54 : decode cX3_init 54 = .ok (.aload_n 0, 1) := by decide +kernel
theorem dX3_init_55 : decode cX3_init 55 = .ok (.iconst 0, 1) := by decide +kernel
theorem dX3_init_56 : decode cX3_init 56 = .ok (.putfield 35, 3) := by decide +kernel
theorem dX3_init_59 : decode cX3_init 59 = .ok (.aload_n 0, 1) := by decide +kernel
theorem dX3_init_60 : decode cX3_init 60 = .ok (.iconst 0, 1) := by decide +kernel
theorem dX3_init_61 : decode cX3_init 61 = .ok (.putfield 38, 3) := by decide +kernel
theorem dX3_init_64 : decode cX3_init 64 = .ok (.aload_n 0, 1) := by decide +kernel
theorem dX3_init_65 : decode cX3_init 65 = .ok (.sipush 800, 3) := by decide +kernel
theorem dX3_init_68 : decode cX3_init 68 = .ok (.putfield 41, 3) := by decide +kernel
theorem dX3_init_71 : decode cX3_init 71 = .ok (.aload_n 0, 1) := by decide +kernel
theorem dX3_init_72 : decode cX3_init 72 = .ok (.iconst 0, 1) := by decide +kernel
theorem dX3_init_73 : decode cX3_init 73 = .ok (.putfield 44, 3) := by decide +kernel
theorem dX3_init_76 : decode cX3_init 76 = .ok (.aload_n 0, 1) := by decide +kernel
theorem dX3_init_77 : decode cX3_init 77 = .ok (.iconst 0, 1) := by decide +kernel
theorem dX3_init_78 : decode cX3_init 78 = .ok (.putfield 47, 3) := by decide +kernel
theorem dX3_init_81 : decode cX3_init 81 = .ok (.aload_n 0, 1) := by decide +kernel
theorem dX3_init_82 : decode cX3_init 82 = .ok (.iconst 0, 1) := by decide +kernel
theorem dX3_init_83 : decode cX3_init 83 = .ok (.putfield 50, 3) := by decide +kernel
theorem dX3_init_86 : decode cX3_init 86 = .ok (.aload_n 0, 1) := by decide +kernel
theorem dX3_init_87 : decode cX3_init 87 = .ok (.iconst 0, 1) := by decide +kernel
theorem dX3_init_88 : decode cX3_init 88 = .ok (.putfield 53, 3) := by decide +kernel
theorem dX3_init_91 : decode cX3_init 91 = .ok (.aload_n 0, 1) := by decide +kernel
theorem dX3_init_92 : decode cX3_init 92 = .ok (.iconst 0, 1) := by decide +kernel
theorem dX3_init_93 : decode cX3_init 93 = .ok (.putfield 56, 3) := by decide +kernel
theorem dX3_init_96 : decode cX3_init 96 = .ok (.return_, 1) := by decide +kernel
theorem dX3_claim_0 : decode cX3_claim 0 = .ok (.iload_n 1, 1) := by decide +kernel
theorem dX3_claim_1 : decode cX3_claim 1 = .ok (.iconst 0, 1) := by decide +kernel
theorem dX3_claim_2 : decode cX3_claim 2 = .ok (.iconst 4, 1) := by decide +kernel
theorem dX3_claim_3 : decode cX3_claim 3 = .ok (.invokestatic 59, 3) := by decide +kernel
theorem dX3_claim_6 : decode cX3_claim 6 = .ok (.iload_n 2, 1) := by decide +kernel
theorem dX3_claim_7 : decode cX3_claim 7 = .ok (.iconst 0, 1) := by decide +kernel
theorem dX3_claim_8 : decode cX3_claim 8 = .ok (.bipush 7, 2) := by decide +kernel
theorem dX3_claim_10 : decode cX3_claim 10 = .ok (.invokestatic 59, 3) := by decide +kernel
theorem dX3_claim_13 : decode cX3_claim 13 = .ok (.iload_n 3, 1) := by decide +kernel
theorem dX3_claim_14 : decode cX3_claim 14 = .ok (.iconst 1, 1) := by decide +kernel
theorem dX3_claim_15 : decode cX3_claim 15 = .ok (.ldc 63, 2) := by decide +kernel
theorem dX3_claim_17 : decode cX3_claim 17 = .ok (.invokestatic 59, 3) := by decide +kernel
theorem dX3_claim_20 : decode cX3_claim 20 = .ok (.iload 4, 2) := by decide +kernel
theorem dX3_claim_22 : decode cX3_claim 22 = .ok (.iconst 0, 1) := by decide +kernel
theorem dX3_claim_23 : decode cX3_claim 23 = .ok (.sipush 1000, 3) := by decide +kernel
theorem dX3_claim_26 : decode cX3_claim 26 = .ok (.invokestatic 59, 3) := by decide +kernel
theorem dX3_claim_29 : decode cX3_claim 29 = .ok (.iload 5, 2) := by decide +kernel
theorem dX3_claim_31 : decode cX3_claim 31 = .ok (.iconst 1, 1) := by decide +kernel
theorem dX3_claim_32 : decode cX3_claim 32 = .ok (.bipush 30, 2) := by decide +kernel
theorem dX3_claim_34 : decode cX3_claim 34 = .ok (.invokestatic 59, 3) := by decide +kernel
theorem dX3_claim_37 : decode cX3_claim 37 = .ok (.iload 6, 2) := by decide +kernel
theorem dX3_claim_39 : decode cX3_claim 39 = .ok (.iconst 0, 1) := by decide +kernel
theorem dX3_claim_40 : decode cX3_claim 40 = .ok (.iconst 2, 1) := by decide +kernel
theorem dX3_claim_41 : decode cX3_claim 41 = .ok (.invokestatic 59, 3) := by decide +kernel
theorem dX3_claim_44 : decode cX3_claim 44 = .ok (.iload 7, 2) := by decide +kernel
theorem dX3_claim_46 : decode cX3_claim 46 = .ok (.iload_n 1, 1) := by decide +kernel
theorem dX3_claim_47 : decode cX3_claim 47 = .ok (.iconst 1, 1) := by decide +kernel
theorem dX3_claim_48 : decode cX3_claim 48 = .ok (.if_icmp .ne 7, 3) := by decide +kernel
theorem dX3_claim_51 : decode cX3_claim 51 = .ok (.iconst 0, 1) := by decide +kernel
theorem dX3_claim_52 : decode cX3_claim 52 = .ok (.goto 4, 3) := by decide +kernel
theorem dX3_claim_55 : decode cX3_claim 55 = .ok (.iconst (-1), 1) := by decide +kernel
theorem dX3_claim_56 : decode cX3_claim 56 = .ok (.iload_n 1, 1) := by decide +kernel
theorem dX3_claim_57 : decode cX3_claim 57 = .ok (.iconst 1, 1) := by decide +kernel
theorem dX3_claim_58 : decode cX3_claim 58 = .ok (.if_icmp .ne 7, 3) := by decide +kernel
theorem dX3_claim_61 : decode cX3_claim 61 = .ok (.iconst 3, 1) := by decide +kernel
theorem dX3_claim_62 : decode cX3_claim 62 = .ok (.goto 4, 3) := by decide +kernel
theorem dX3_claim_65 : decode cX3_claim 65 = .ok (.iconst (-1), 1) := by decide +kernel
theorem dX3_claim_66 : decode cX3_claim 66 = .ok (.invokestatic 59, 3) := by decide +kernel
theorem dX3_claim_69 : decode cX3_claim 69 = .ok (.aload_n 0, 1) := by decide +kernel
theorem dX3_claim_70 : decode cX3_claim 70 = .ok (.iconst 1, 1) := by decide +kernel
theorem dX3_claim_71 : decode cX3_claim 71 = .ok (.invokevirtual 64, 3) := by decide +kernel
theorem dX3_claim_74 : decode cX3_claim 74 = .ok (.new 68, 3) := by decide +kernel
theorem dX3_claim_77 : decode cX3_claim 77 = .ok (.dup, 1) := by decide +kernel
theorem dX3_claim_78 : decode cX3_claim 78 = .ok (.iload_n 1, 1) := by decide +kernel
theorem dX3_claim_79 : decode cX3_claim 79 = .ok (.iload_n 2, 1) := by decide +kernel
theorem dX3_claim_80 : decode cX3_claim 80 = .ok (.iload 6, 2) := by decide +kernel
theorem dX3_claim_82 : decode cX3_claim 82 = .ok (.iload 7, 2) := by decide +kernel
theorem dX3_claim_84 : decode cX3_claim 84 = .ok (.iload 8, 2) := by decide +kernel
theorem dX3_claim_86 : decode cX3_claim 86 = .ok (.invokespecial 70, 3) := by decide +kernel
theorem dX3_claim_89 : decode cX3_claim 89 = .ok (.astore 9, 2) := by decide +kernel
theorem dX3_claim_91 : decode cX3_claim 91 = .ok (.aload 9, 2) := by decide +kernel
theorem dX3_claim_93 : decode cX3_claim 93 = .ok (.iload_n 3, 1) := by decide +kernel
theorem dX3_claim_94 : decode cX3_claim 94 = .ok (.i2l, 1) := by decide +kernel
theorem dX3_claim_95 : decode cX3_claim 95 = .ok (.iload 4, 2) := by decide +kernel
theorem dX3_claim_97 : decode cX3_claim 97 = .ok (.aload_n 0, 1) := by decide +kernel
theorem dX3_claim_98 : decode cX3_claim 98 = .ok (.getfield 22, 3) := by decide +kernel
theorem dX3_claim_101 : decode cX3_claim 101 = .ok (.iload 5, 2) := by decide +kernel
theorem dX3_claim_103 : decode cX3_claim 103 = .ok (.iadd, 1) := by decide +kernel
theorem dX3_claim_104 : decode cX3_claim 104 = .ok (.invokevirtual 73, 3) := by decide +kernel
theorem dX3_claim_107 : decode cX3_claim 107 = .ok (.aload_n 0, 1) := by decide +kernel
theorem dX3_claim_108 : decode cX3_claim 108 = .ok (.getfield 10, 3) := by decide +kernel
theorem dX3_claim_111 : decode cX3_claim 111 = .ok (.aload 9, 2) := by decide +kernel
theorem dX3_claim_113 : decode cX3_claim 113 = .ok (.invokevirtual 77, 3) := by decide +kernel
theorem dX3_claim_116 : decode cX3_claim 116 = .ok (.pop, 1) := by decide +kernel
theorem dX3_claim_117 : decode cX3_claim 117 = .ok (.aload_n 0, 1) := by decide +kernel
theorem dX3_claim_118 : decode cX3_claim 118 = .ok (.getfield 10, 3) := by decide +kernel
theorem dX3_claim_121 : decode cX3_claim 121 = .ok (.invokevirtual 81, 3) := by decide +kernel
theorem dX3_claim_124 : decode cX3_claim 124 = .ok (.iconst 1, 1) := by decide +kernel
theorem dX3_claim_125 : decode cX3_claim 125 = .ok (.isub, 1) := by decide +kernel
theorem dX3_claim_126 : decode cX3_claim 126 = .ok (.ireturn, 1) := by decide +kernel
theorem dX3_pledge_0 : decode cX3_pledge 0 = .ok (.aload_n 0, 1) := by decide +kernel
theorem dX3_pledge_1 : decode cX3_pledge 1 = .ok (.iload_n 1, 1) := by decide +kernel
theorem dX3_pledge_2 : decode cX3_pledge 2 = .ok (.invokevirtual 85, 3) := by decide +kernel
theorem dX3_pledge_5 : decode cX3_pledge 5 = .ok (.astore_n 3, 1) := by decide +kernel
theorem dX3_pledge_6 : decode cX3_pledge 6 = .ok (.iload_n 2, 1) := by decide +kernel
theorem dX3_pledge_7 : decode cX3_pledge 7 = .ok (.iconst 1, 1) := by decide +kernel
theorem dX3_pledge_8 : decode cX3_pledge 8 = .ok (.ldc 63, 2) := by decide +kernel
theorem dX3_pledge_10 : decode cX3_pledge 10 = .ok (.invokestatic 59, 3) := by decide +kernel
theorem dX3_pledge_13 : decode cX3_pledge 13 = .ok (.aload_n 3, 1) := by decide +kernel
theorem dX3_pledge_14 : decode cX3_pledge 14 = .ok (.invokevirtual 89, 3) := by decide +kernel
theorem dX3_pledge_17 : decode cX3_pledge 17 = .ok (.ifCond .eq 13, 3) := by decide +kernel
theorem dX3_pledge_20 : decode cX3_pledge 20 = .ok (.aload_n 0, 1) := by decide +kernel
theorem dX3_pledge_21 : decode cX3_pledge 21 = .ok (.getfield 26, 3) := by decide +kernel
theorem dX3_pledge_24 : decode cX3_pledge 24 = .ok (.iload_n 2, 1) := by decide +kernel
theorem dX3_pledge_25 : decode cX3_pledge 25 = .ok (.i2l, 1) := by decide +kernel
theorem dX3_pledge_26 : decode cX3_pledge 26 = .ok (.lcmp, 1) := by decide +kernel
theorem dX3_pledge_27 : decode cX3_pledge 27 = .ok (.ifCond .ge 13, 3) := by decide +kernel
theorem dX3_pledge_30 : decode cX3_pledge 30 = .ok (.new 93, 3) := by decide +kernel
theorem dX3_pledge_33 : decode cX3_pledge 33 = .ok (.dup, 1) := by decide +kernel
theorem dX3_pledge_34 : decode cX3_pledge 34 = .ok (.ldc 95, 2) := by decide +kernel
theorem dX3_pledge_36 : decode cX3_pledge 36 = .ok (.invokespecial 97, 3) := by decide +kernel
theorem dX3_pledge_39 : decode cX3_pledge 39 = .ok (.athrow, 1) := by decide +kernel
theorem dX3_pledge_40 : decode cX3_pledge 40 = .ok (.aload_n 0, 1) := by decide +kernel
theorem dX3_pledge_41 : decode cX3_pledge 41 = .ok (.dup, 1) := by decide +kernel
theorem dX3_pledge_42 : decode cX3_pledge 42 = .ok (.getfield 26, 3) := by decide +kernel
theorem dX3_pledge_45 : decode cX3_pledge 45 = .ok (.iload_n 2, 1) := by decide +kernel
theorem dX3_pledge_46 : decode cX3_pledge 46 = .ok (.i2l, 1) := by decide +kernel
theorem dX3_pledge_47 : decode cX3_pledge 47 = .ok (.lsub, 1) := by decide +kernel
theorem dX3_pledge_48 : decode cX3_pledge 48 = .ok (.putfield 26, 3) := by decide +kernel
theorem dX3_pledge_51 : decode cX3_pledge 51 = .ok (.aload_n 3, 1) := by decide +kernel
theorem dX3_pledge_52 : decode cX3_pledge 52 = .ok (.dup, 1) := by decide +kernel
theorem dX3_pledge_53 : decode cX3_pledge 53 = .ok (.getfield 100, 3) := by decide +kernel
theorem dX3_pledge_56 : decode cX3_pledge 56 = .ok (.iload_n 2, 1) := by decide +kernel
theorem dX3_pledge_57 : decode cX3_pledge 57 = .ok (.i2l, 1) := by decide +kernel
theorem dX3_pledge_58 : decode cX3_pledge 58 = .ok (.ladd, 1) := by decide +kernel
theorem dX3_pledge_59 : decode cX3_pledge 59 = .ok (.putfield 100, 3) := by decide +kernel
theorem dX3_pledge_62 : decode cX3_pledge 62 = .ok (.aload_n 3, 1) := by decide +kernel
theorem dX3_pledge_63 : decode cX3_pledge 63 = .ok (.getfield 100, 3) := by decide +kernel
theorem dX3_pledge_66 : decode cX3_pledge 66 = .ok (.lreturn, 1) := by decide +kernel
theorem dX3_reveal_0 : decode cX3_reveal 0 = .ok (.aload_n 0, 1) := by decide +kernel
theorem dX3_reveal_1 : decode cX3_reveal 1 = .ok (.iload_n 1, 1) := by decide +kernel
theorem dX3_reveal_2 : decode cX3_reveal 2 = .ok (.invokevirtual 85, 3) := by decide +kernel
theorem dX3_reveal_5 : decode cX3_reveal 5 = .ok (.astore_n 2, 1) := by decide +kernel
theorem dX3_reveal_6 : decode cX3_reveal 6 = .ok (.aload_n 2, 1) := by decide +kernel
theorem dX3_reveal_7 : decode cX3_reveal 7 = .ok (.getfield 103, 3) := by decide +kernel
theorem dX3_reveal_10 : decode cX3_reveal 10 = .ok (.ifCond .ne 13, 3) := by decide +kernel
theorem dX3_reveal_13 : decode cX3_reveal 13 = .ok (.new 93, 3) := by decide +kernel
theorem dX3_reveal_16 : decode cX3_reveal 16 = .ok (.dup, 1) := by decide +kernel
theorem dX3_reveal_17 : decode cX3_reveal 17 = .ok (.ldc 107, 2) := by decide +kernel
theorem dX3_reveal_19 : decode cX3_reveal 19 = .ok (.invokespecial 97, 3) := by decide +kernel
theorem dX3_reveal_22 : decode cX3_reveal 22 = .ok (.athrow, 1) := by decide +kernel
theorem dX3_reveal_23 : decode cX3_reveal 23 = .ok (.aload_n 2, 1) := by decide +kernel
theorem dX3_reveal_24 : decode cX3_reveal 24 = .ok (.iconst 0, 1) := by decide +kernel
theorem dX3_reveal_25 : decode cX3_reveal 25 = .ok (.putfield 103, 3) := by decide +kernel
theorem dX3_reveal_28 : decode cX3_reveal 28 = .ok (.aload_n 0, 1) := by decide +kernel
theorem dX3_reveal_29 : decode cX3_reveal 29 = .ok (.invokevirtual 109, 3) := by decide +kernel
theorem dX3_reveal_32 : decode cX3_reveal 32 = .ok (.lreturn, 1) := by decide +kernel
theorem dX3_economy_0 : decode cX3_economy 0 = .ok (.iload_n 1, 1) := by decide +kernel
theorem dX3_economy_1 : decode cX3_economy 1 = .ok (.sipush (-1000), 3) := by decide +kernel
theorem dX3_economy_4 : decode cX3_economy 4 = .ok (.sipush 1000, 3) := by decide +kernel
theorem dX3_economy_7 : decode cX3_economy 7 = .ok (.invokestatic 59, 3) := by decide +kernel
theorem dX3_economy_10 : decode cX3_economy 10 = .ok (.iload_n 2, 1) := by decide +kernel
theorem dX3_economy_11 : decode cX3_economy 11 = .ok (.sipush (-200), 3) := by decide +kernel
theorem dX3_economy_14 : decode cX3_economy 14 = .ok (.sipush 200, 3) := by decide +kernel
theorem dX3_economy_17 : decode cX3_economy 17 = .ok (.invokestatic 59, 3) := by decide +kernel
theorem dX3_economy_20 : decode cX3_economy 20 = .ok (.iload_n 3, 1) := by decide +kernel
theorem dX3_economy_21 : decode cX3_economy 21 = .ok (.iconst 0, 1) := by decide +kernel
theorem dX3_economy_22 : decode cX3_economy 22 = .ok (.ldc 113, 2) := by decide +kernel
theorem dX3_economy_24 : decode cX3_economy 24 = .ok (.invokestatic 59, 3) := by decide +kernel
theorem dX3_economy_27 : decode cX3_economy 27 = .ok (.aload_n 0, 1) := by decide +kernel
theorem dX3_economy_28 : decode cX3_economy 28 = .ok (.iload_n 1, 1) := by decide +kernel
theorem dX3_economy_29 : decode cX3_economy 29 = .ok (.putfield 35, 3) := by decide +kernel
theorem dX3_economy_32 : decode cX3_economy 32 = .ok (.aload_n 0, 1) := by decide +kernel
theorem dX3_economy_33 : decode cX3_economy 33 = .ok (.iload_n 2, 1) := by decide +kernel
theorem dX3_economy_34 : decode cX3_economy 34 = .ok (.putfield 38, 3) := by decide +kernel
theorem dX3_economy_37 : decode cX3_economy 37 = .ok (.aload_n 0, 1) := by decide +kernel
theorem dX3_economy_38 : decode cX3_economy 38 = .ok (.dup, 1) := by decide +kernel
theorem dX3_economy_39 : decode cX3_economy 39 = .ok (.getfield 26, 3) := by decide +kernel
theorem dX3_economy_42 : decode cX3_economy 42 = .ok (.iload_n 3, 1) := by decide +kernel
theorem dX3_economy_43 : decode cX3_economy 43 = .ok (.i2l, 1) := by decide +kernel
theorem dX3_economy_44 : decode cX3_economy 44 = .ok (.ladd, 1) := by decide +kernel
theorem dX3_economy_45 : decode cX3_economy 45 = .ok (.putfield 26, 3) := by decide +kernel
theorem dX3_economy_48 : decode cX3_economy 48 = .ok (.aload_n 0, 1) := by decide +kernel
theorem dX3_economy_49 : decode cX3_economy 49 = .ok (.getfield 26, 3) := by decide +kernel
theorem dX3_economy_52 : decode cX3_economy 52 = .ok (.lreturn, 1) := by decide +kernel
theorem dX3_moratorium_0 : decode cX3_moratorium 0 = .ok (.iload_n 1, 1) := by decide +kernel
theorem dX3_moratorium_1 : decode cX3_moratorium 1 = .ok (.invokestatic 114, 3) := by decide +kernel
theorem dX3_moratorium_4 : decode cX3_moratorium 4 = .ok (.aload_n 0, 1) := by decide +kernel
theorem dX3_moratorium_5 : decode cX3_moratorium 5 = .ok (.getfield 44, 3) := by decide +kernel
theorem dX3_moratorium_8 : decode cX3_moratorium 8 = .ok (.istore_n 3, 1) := by decide +kernel
theorem dX3_moratorium_9 : decode cX3_moratorium 9 = .ok (.aload_n 0, 1) := by decide +kernel
theorem dX3_moratorium_10 : decode cX3_moratorium 10 = .ok (.iload_n 3, 1) := by decide +kernel
theorem dX3_moratorium_11 : decode cX3_moratorium 11 = .ok (.iload_n 1, 1) := by decide +kernel
theorem dX3_moratorium_12 : decode cX3_moratorium 12 = .ok (.iload_n 2, 1) := by decide +kernel
theorem dX3_moratorium_13 : decode cX3_moratorium 13 = .ok (.invokestatic 117, 3) := by decide +kernel
theorem dX3_moratorium_16 : decode cX3_moratorium 16 = .ok (.putfield 44, 3) := by decide +kernel
theorem dX3_moratorium_19 : decode cX3_moratorium 19 = .ok (.aload_n 0, 1) := by decide +kernel
theorem dX3_moratorium_20 : decode cX3_moratorium 20 = .ok (.getfield 44, 3) := by decide +kernel
theorem dX3_moratorium_23 : decode cX3_moratorium 23 = .ok (.iload_n 3, 1) := by decide +kernel
theorem dX3_moratorium_24 : decode cX3_moratorium 24 = .ok (.if_icmp .eq 7, 3) := by decide +kernel
theorem dX3_moratorium_27 : decode cX3_moratorium 27 = .ok (.iconst 1, 1) := by decide +kernel
theorem dX3_moratorium_28 : decode cX3_moratorium 28 = .ok (.goto 4, 3) := by decide +kernel
theorem dX3_moratorium_31 : decode cX3_moratorium 31 = .ok (.iconst 0, 1) := by decide +kernel
theorem dX3_moratorium_32 : decode cX3_moratorium 32 = .ok (.ireturn, 1) := by decide +kernel
theorem dX3_year_0 : decode cX3_year 0 = .ok (.iload_n 1, 1) := by decide +kernel
theorem dX3_year_1 : decode cX3_year 1 = .ok (.iconst 1, 1) := by decide +kernel
theorem dX3_year_2 : decode cX3_year 2 = .ok (.bipush 10, 2) := by decide +kernel
theorem dX3_year_4 : decode cX3_year 4 = .ok (.invokestatic 59, 3) := by decide +kernel
theorem dX3_year_7 : decode cX3_year 7 = .ok (.aload_n 0, 1) := by decide +kernel
theorem dX3_year_8 : decode cX3_year 8 = .ok (.getfield 22, 3) := by decide +kernel
theorem dX3_year_11 : decode cX3_year 11 = .ok (.iload_n 1, 1) := by decide +kernel
theorem dX3_year_12 : decode cX3_year 12 = .ok (.iadd, 1) := by decide +kernel
theorem dX3_year_13 : decode cX3_year 13 = .ok (.bipush 60, 2) := by decide +kernel
theorem dX3_year_15 : decode cX3_year 15 = .ok (.if_icmp .le 13, 3) := by decide +kernel
theorem dX3_year_18 : decode cX3_year 18 = .ok (.new 93, 3) := by decide +kernel
theorem dX3_year_21 : decode cX3_year 21 = .ok (.dup, 1) := by decide +kernel
theorem dX3_year_22 : decode cX3_year 22 = .ok (.ldc 121, 2) := by decide +kernel
theorem dX3_year_24 : decode cX3_year 24 = .ok (.invokespecial 97, 3) := by decide +kernel
theorem dX3_year_27 : decode cX3_year 27 = .ok (.athrow, 1) := by decide +kernel
theorem dX3_year_28 : decode cX3_year 28 = .ok (.lconst 0, 1) := by decide +kernel
theorem dX3_year_29 : decode cX3_year 29 = .ok (.lstore_n 2, 1) := by decide +kernel
theorem dX3_year_30 : decode cX3_year 30 = .ok (.iconst 0, 1) := by decide +kernel
theorem dX3_year_31 : decode cX3_year 31 = .ok (.istore 4, 2) := by decide +kernel
theorem dX3_year_33 : decode cX3_year 33 = .ok (.iload 4, 2) := by decide +kernel
theorem dX3_year_35 : decode cX3_year 35 = .ok (.iload_n 1, 1) := by decide +kernel
theorem dX3_year_36 : decode cX3_year 36 = .ok (.if_icmp .ge 16, 3) := by decide +kernel
theorem dX3_year_39 : decode cX3_year 39 = .ok (.lload_n 2, 1) := by decide +kernel
theorem dX3_year_40 : decode cX3_year 40 = .ok (.aload_n 0, 1) := by decide +kernel
theorem dX3_year_41 : decode cX3_year 41 = .ok (.invokevirtual 123, 3) := by decide +kernel
theorem dX3_year_44 : decode cX3_year 44 = .ok (.ladd, 1) := by decide +kernel
theorem dX3_year_45 : decode cX3_year 45 = .ok (.lstore_n 2, 1) := by decide +kernel
theorem dX3_year_46 : decode cX3_year 46 = .ok (.iinc 4 1, 3) := by decide +kernel
theorem dX3_year_49 : decode cX3_year 49 = .ok (.goto (-16), 3) := by decide +kernel
theorem dX3_year_52 : decode cX3_year 52 = .ok (.lload_n 2, 1) := by decide +kernel
theorem dX3_year_53 : decode cX3_year 53 = .ok (.lreturn, 1) := by decide +kernel
theorem dX3_passYear_0 : decode cX3_passYear 0 = .ok (.aload_n 0, 1) := by decide +kernel
theorem dX3_passYear_1 : decode cX3_passYear 1 = .ok (.dup, 1) := by decide +kernel
theorem dX3_passYear_2 : decode cX3_passYear 2 = .ok (.getfield 26, 3) := by decide +kernel
theorem dX3_passYear_5 : decode cX3_passYear 5 = .ok (.aload_n 0, 1) := by decide +kernel
theorem dX3_passYear_6 : decode cX3_passYear 6 = .ok (.aload_n 0, 1) := by decide +kernel
theorem dX3_passYear_7 : decode cX3_passYear 7 = .ok (.getfield 32, 3) := by decide +kernel
theorem dX3_passYear_10 : decode cX3_passYear 10 = .ok (.invokevirtual 126, 3) := by decide +kernel
theorem dX3_passYear_13 : decode cX3_passYear 13 = .ok (.ladd, 1) := by decide +kernel
theorem dX3_passYear_14 : decode cX3_passYear 14 = .ok (.putfield 26, 3) := by decide +kernel
theorem dX3_passYear_17 : decode cX3_passYear 17 = .ok (.aload_n 0, 1) := by decide +kernel
theorem dX3_passYear_18 : decode cX3_passYear 18 = .ok (.aload_n 0, 1) := by decide +kernel
theorem dX3_passYear_19 : decode cX3_passYear 19 = .ok (.aload_n 0, 1) := by decide +kernel
theorem dX3_passYear_20 : decode cX3_passYear 20 = .ok (.getfield 32, 3) := by decide +kernel
theorem dX3_passYear_23 : decode cX3_passYear 23 = .ok (.invokevirtual 130, 3) := by decide +kernel
theorem dX3_passYear_26 : decode cX3_passYear 26 = .ok (.putfield 32, 3) := by decide +kernel
theorem dX3_passYear_29 : decode cX3_passYear 29 = .ok (.aload_n 0, 1) := by decide +kernel
theorem dX3_passYear_30 : decode cX3_passYear 30 = .ok (.dup, 1) := by decide +kernel
theorem dX3_passYear_31 : decode cX3_passYear 31 = .ok (.getfield 22, 3) := by decide +kernel
theorem dX3_passYear_34 : decode cX3_passYear 34 = .ok (.iconst 1, 1) := by decide +kernel
theorem dX3_passYear_35 : decode cX3_passYear 35 = .ok (.iadd, 1) := by decide +kernel
theorem dX3_passYear_36 : decode cX3_passYear 36 = .ok (.putfield 22, 3) := by decide +kernel
theorem dX3_passYear_39 : decode cX3_passYear 39 = .ok (.aload_n 0, 1) := by decide +kernel
theorem dX3_passYear_40 : decode cX3_passYear 40 = .ok (.invokevirtual 133, 3) := by decide +kernel
theorem dX3_passYear_43 : decode cX3_passYear 43 = .ok (.lconst 0, 1) := by decide +kernel
theorem dX3_passYear_44 : decode cX3_passYear 44 = .ok (.lstore_n 1, 1) := by decide +kernel
theorem dX3_passYear_45 : decode cX3_passYear 45 = .ok (.iconst 0, 1) := by decide +kernel
theorem dX3_passYear_46 : decode cX3_passYear 46 = .ok (.istore_n 3, 1) := by decide +kernel
theorem dX3_passYear_47 : decode cX3_passYear 47 = .ok (.iload_n 3, 1) := by decide +kernel
theorem dX3_passYear_48 : decode cX3_passYear 48 = .ok (.iconst 2, 1) := by decide +kernel
theorem dX3_passYear_49 : decode cX3_passYear 49 = .ok (.if_icmp .gt 17, 3) := by decide +kernel
theorem dX3_passYear_52 : decode cX3_passYear 52 = .ok (.lload_n 1, 1) := by decide +kernel
theorem dX3_passYear_53 : decode cX3_passYear 53 = .ok (.aload_n 0, 1) := by decide +kernel
theorem dX3_passYear_54 : decode cX3_passYear 54 = .ok (.iload_n 3, 1) := by decide +kernel
theorem dX3_passYear_55 : decode cX3_passYear 55 = .ok (.invokevirtual 136, 3) := by decide +kernel
theorem dX3_passYear_58 : decode cX3_passYear 58 = .ok (.ladd, 1) := by decide +kernel
theorem dX3_passYear_59 : decode cX3_passYear 59 = .ok (.lstore_n 1, 1) := by decide +kernel
theorem dX3_passYear_60 : decode cX3_passYear 60 = .ok (.iinc 3 1, 3) := by decide +kernel
theorem dX3_passYear_63 : decode cX3_passYear 63 = .ok (.goto (-16), 3) := by decide +kernel
theorem dX3_passYear_66 : decode cX3_passYear 66 = .ok (.lload_n 1, 1) := by decide +kernel
theorem dX3_passYear_67 : decode cX3_passYear 67 = .ok (.lreturn, 1) := by decide +kernel
theorem dX3_broughtBy_0 : decode cX3_broughtBy 0 = .ok (.lload_n 1, 1) := by decide +kernel
theorem dX3_broughtBy_1 : decode cX3_broughtBy 1 = .ok (.aload_n 0, 1) := by decide +kernel
theorem dX3_broughtBy_2 : decode cX3_broughtBy 2 = .ok (.getfield 38, 3) := by decide +kernel
theorem dX3_broughtBy_5 : decode cX3_broughtBy 5 = .ok (.i2l, 1) := by decide +kernel
theorem dX3_broughtBy_6 : decode cX3_broughtBy 6 = .ok (.lmul, 1) := by decide +kernel
theorem dX3_broughtBy_7 : decode cX3_broughtBy 7 = .ok (.ldc2_w 140, 3) := by decide +kernel
theorem dX3_broughtBy_10 : decode cX3_broughtBy 10 = .ok (.invokestatic 142, 3) := by decide +kernel
theorem dX3_broughtBy_13 : decode cX3_broughtBy 13 = .ok (.lreturn, 1) := by decide +kernel
theorem dX3_grown_0 : decode cX3_grown 0 = .ok (.lload_n 1, 1) := by decide +kernel
theorem dX3_grown_1 : decode cX3_grown 1 = .ok (.lload_n 1, 1) := by decide +kernel
theorem dX3_grown_2 : decode cX3_grown 2 = .ok (.aload_n 0, 1) := by decide +kernel
theorem dX3_grown_3 : decode cX3_grown 3 = .ok (.getfield 35, 3) := by decide +kernel
theorem dX3_grown_6 : decode cX3_grown 6 = .ok (.i2l, 1) := by decide +kernel
theorem dX3_grown_7 : decode cX3_grown 7 = .ok (.lmul, 1) := by decide +kernel
theorem dX3_grown_8 : decode cX3_grown 8 = .ok (.ldc2_w 146, 3) := by decide +kernel
theorem dX3_grown_11 : decode cX3_grown 11 = .ok (.invokestatic 142, 3) := by decide +kernel
theorem dX3_grown_14 : decode cX3_grown 14 = .ok (.ladd, 1) := by decide +kernel
theorem dX3_grown_15 : decode cX3_grown 15 = .ok (.lreturn, 1) := by decide +kernel
theorem dX3_judgeSuits_0 : decode cX3_judgeSuits 0 = .ok (.iconst 0, 1) := by decide +kernel
theorem dX3_judgeSuits_1 : decode cX3_judgeSuits 1 = .ok (.istore_n 1, 1) := by decide +kernel
theorem dX3_judgeSuits_2 : decode cX3_judgeSuits 2 = .ok (.iload_n 1, 1) := by decide +kernel
theorem dX3_judgeSuits_3 : decode cX3_judgeSuits 3 = .ok (.aload_n 0, 1) := by decide +kernel
theorem dX3_judgeSuits_4 : decode cX3_judgeSuits 4 = .ok (.getfield 10, 3) := by decide +kernel
theorem dX3_judgeSuits_7 : decode cX3_judgeSuits 7 = .ok (.invokevirtual 81, 3) := by decide +kernel
theorem dX3_judgeSuits_10 : decode cX3_judgeSuits 10 = .ok (.if_icmp .ge 41, 3) := by decide +kernel
theorem dX3_judgeSuits_13 : decode cX3_judgeSuits 13 = .ok (.aload_n 0, 1) := by decide +kernel
theorem dX3_judgeSuits_14 : decode cX3_judgeSuits 14 = .ok (.getfield 10, 3) := by decide +kernel
theorem dX3_judgeSuits_17 : decode cX3_judgeSuits 17 = .ok (.iload_n 1, 1) := by decide +kernel
theorem dX3_judgeSuits_18 : decode cX3_judgeSuits 18 = .ok (.invokevirtual 148, 3) := by decide +kernel
theorem dX3_judgeSuits_21 : decode cX3_judgeSuits 21 = .ok (.checkcast 68, 3) := by decide +kernel
theorem dX3_judgeSuits_24 : decode cX3_judgeSuits 24 = .ok (.astore_n 2, 1) := by decide +kernel
theorem dX3_judgeSuits_25 : decode cX3_judgeSuits 25 = .ok (.aload_n 2, 1) := by decide +kernel
theorem dX3_judgeSuits_26 : decode cX3_judgeSuits 26 = .ok (.invokevirtual 89, 3) := by decide +kernel
theorem dX3_judgeSuits_29 : decode cX3_judgeSuits 29 = .ok (.ifCond .eq 16, 3) := by decide +kernel
