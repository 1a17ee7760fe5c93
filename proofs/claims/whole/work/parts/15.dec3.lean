theorem dX4_offer_68 : decode cX4_offer 68 = .ok (.iconst 0, 1) := by decide +kernel
theorem dX4_offer_69 : decode cX4_offer 69 = .ok (.ireturn, 1) := by decide +kernel
theorem dX4_offer_70 : decode cX4_offer 70 = .ok (.aload_n 0, 1) := by decide +kernel
theorem dX4_offer_71 : decode cX4_offer 71 = .ok (.getfield 67, 3) := by decide +kernel
theorem dX4_offer_74 : decode cX4_offer 74 = .ok (.aload_n 0, 1) := by decide +kernel
theorem dX4_offer_75 : decode cX4_offer 75 = .ok (.getfield 107, 3) := by decide +kernel
theorem dX4_offer_78 : decode cX4_offer 78 = .ok (.iload_n 1, 1) := by decide +kernel
theorem dX4_offer_79 : decode cX4_offer 79 = .ok (.iastore, 1) := by decide +kernel
theorem dX4_offer_80 : decode cX4_offer 80 = .ok (.aload_n 0, 1) := by decide +kernel
theorem dX4_offer_81 : decode cX4_offer 81 = .ok (.getfield 70, 3) := by decide +kernel
theorem dX4_offer_84 : decode cX4_offer 84 = .ok (.aload_n 0, 1) := by decide +kernel
theorem dX4_offer_85 : decode cX4_offer 85 = .ok (.getfield 107, 3) := by decide +kernel
theorem dX4_offer_88 : decode cX4_offer 88 = .ok (.iload_n 2, 1) := by decide +kernel
theorem dX4_offer_89 : decode cX4_offer 89 = .ok (.iastore, 1) := by decide +kernel
theorem dX4_offer_90 : decode cX4_offer 90 = .ok (.aload_n 0, 1) := by decide +kernel
theorem dX4_offer_91 : decode cX4_offer 91 = .ok (.getfield 73, 3) := by decide +kernel
theorem dX4_offer_94 : decode cX4_offer 94 = .ok (.aload_n 0, 1) := by decide +kernel
theorem dX4_offer_95 : decode cX4_offer 95 = .ok (.getfield 107, 3) := by decide +kernel
theorem dX4_offer_98 : decode cX4_offer 98 = .ok (.iload_n 3, 1) := by decide +kernel
theorem dX4_offer_99 : decode cX4_offer 99 = .ok (.iastore, 1) := by decide +kernel
theorem dX4_offer_100 : decode cX4_offer 100 = .ok (.aload_n 0, 1) := by decide +kernel
theorem dX4_offer_101 : decode cX4_offer 101 = .ok (.dup, 1) := by decide +kernel
theorem dX4_offer_102 : decode cX4_offer 102 = .ok (.getfield 107, 3) := by decide +kernel
theorem dX4_offer_105 : decode cX4_offer 105 = .ok (.iconst 1, 1) := by decide +kernel
theorem dX4_offer_106 : decode cX4_offer 106 = .ok (.iadd, 1) := by decide +kernel
theorem dX4_offer_107 : decode cX4_offer 107 = .ok (.putfield 107, 3) := by decide +kernel
theorem dX4_offer_110 : decode cX4_offer 110 = .ok (.aload_n 0, 1) := by decide +kernel
theorem dX4_offer_111 : decode cX4_offer 111 = .ok (.getfield 107, 3) := by decide +kernel
theorem dX4_offer_114 : decode cX4_offer 114 = .ok (.iconst 1, 1) := by decide +kernel
theorem dX4_offer_115 : decode cX4_offer 115 = .ok (.isub, 1) := by decide +kernel
theorem dX4_offer_116 : decode cX4_offer 116 = .ok (.ireturn, 1) := by decide +kernel
theorem dX4_swaps_0 : decode cX4_swaps 0 = .ok (.aload_n 0, 1) := by decide +kernel
theorem dX4_swaps_1 : decode cX4_swaps 1 = .ok (.getfield 82, 3) := by decide +kernel
theorem dX4_swaps_4 : decode cX4_swaps 4 = .ok (.aload_n 0, 1) := by decide +kernel
theorem dX4_swaps_5 : decode cX4_swaps 5 = .ok (.getfield 19, 3) := by decide +kernel
theorem dX4_swaps_8 : decode cX4_swaps 8 = .ok (.iload_n 1, 1) := by decide +kernel
theorem dX4_swaps_9 : decode cX4_swaps 9 = .ok (.iaload, 1) := by decide +kernel
theorem dX4_swaps_10 : decode cX4_swaps 10 = .ok (.dup2, 1) := by decide +kernel
theorem dX4_swaps_11 : decode cX4_swaps 11 = .ok (.laload, 1) := by decide +kernel
theorem dX4_swaps_12 : decode cX4_swaps 12 = .ok (.aload_n 0, 1) := by decide +kernel
theorem dX4_swaps_13 : decode cX4_swaps 13 = .ok (.iload_n 1, 1) := by decide +kernel
theorem dX4_swaps_14 : decode cX4_swaps 14 = .ok (.aload_n 0, 1) := by decide +kernel
theorem dX4_swaps_15 : decode cX4_swaps 15 = .ok (.getfield 15, 3) := by decide +kernel
theorem dX4_swaps_18 : decode cX4_swaps 18 = .ok (.invokevirtual 176, 3) := by decide +kernel
theorem dX4_swaps_21 : decode cX4_swaps 21 = .ok (.ladd, 1) := by decide +kernel
theorem dX4_swaps_22 : decode cX4_swaps 22 = .ok (.lastore, 1) := by decide +kernel
theorem dX4_swaps_23 : decode cX4_swaps 23 = .ok (.aload_n 0, 1) := by decide +kernel
theorem dX4_swaps_24 : decode cX4_swaps 24 = .ok (.getfield 79, 3) := by decide +kernel
theorem dX4_swaps_27 : decode cX4_swaps 27 = .ok (.aload_n 0, 1) := by decide +kernel
theorem dX4_swaps_28 : decode cX4_swaps 28 = .ok (.getfield 19, 3) := by decide +kernel
theorem dX4_swaps_31 : decode cX4_swaps 31 = .ok (.iload_n 1, 1) := by decide +kernel
theorem dX4_swaps_32 : decode cX4_swaps 32 = .ok (.iaload, 1) := by decide +kernel
theorem dX4_swaps_33 : decode cX4_swaps 33 = .ok (.iconst 1, 1) := by decide +kernel
theorem dX4_swaps_34 : decode cX4_swaps 34 = .ok (.bastore, 1) := by decide +kernel
theorem dX4_swaps_35 : decode cX4_swaps 35 = .ok (.aload_n 0, 1) := by decide +kernel
theorem dX4_swaps_36 : decode cX4_swaps 36 = .ok (.aload_n 0, 1) := by decide +kernel
theorem dX4_swaps_37 : decode cX4_swaps 37 = .ok (.getfield 19, 3) := by decide +kernel
theorem dX4_swaps_40 : decode cX4_swaps 40 = .ok (.iload_n 1, 1) := by decide +kernel
theorem dX4_swaps_41 : decode cX4_swaps 41 = .ok (.iaload, 1) := by decide +kernel
theorem dX4_swaps_42 : decode cX4_swaps 42 = .ok (.aload_n 0, 1) := by decide +kernel
theorem dX4_swaps_43 : decode cX4_swaps 43 = .ok (.getfield 23, 3) := by decide +kernel
theorem dX4_swaps_46 : decode cX4_swaps 46 = .ok (.iload_n 1, 1) := by decide +kernel
theorem dX4_swaps_47 : decode cX4_swaps 47 = .ok (.iaload, 1) := by decide +kernel
theorem dX4_swaps_48 : decode cX4_swaps 48 = .ok (.aload_n 0, 1) := by decide +kernel
theorem dX4_swaps_49 : decode cX4_swaps 49 = .ok (.iload_n 1, 1) := by decide +kernel
theorem dX4_swaps_50 : decode cX4_swaps 50 = .ok (.iload_n 2, 1) := by decide +kernel
theorem dX4_swaps_51 : decode cX4_swaps 51 = .ok (.invokevirtual 179, 3) := by decide +kernel
theorem dX4_swaps_54 : decode cX4_swaps 54 = .ok (.aload_n 0, 1) := by decide +kernel
theorem dX4_swaps_55 : decode cX4_swaps 55 = .ok (.getfield 70, 3) := by decide +kernel
theorem dX4_swaps_58 : decode cX4_swaps 58 = .ok (.iload_n 2, 1) := by decide +kernel
theorem dX4_swaps_59 : decode cX4_swaps 59 = .ok (.iaload, 1) := by decide +kernel
theorem dX4_swaps_60 : decode cX4_swaps 60 = .ok (.aload_n 0, 1) := by decide +kernel
theorem dX4_swaps_61 : decode cX4_swaps 61 = .ok (.getfield 73, 3) := by decide +kernel
theorem dX4_swaps_64 : decode cX4_swaps 64 = .ok (.iload_n 2, 1) := by decide +kernel
theorem dX4_swaps_65 : decode cX4_swaps 65 = .ok (.iaload, 1) := by decide +kernel
theorem dX4_swaps_66 : decode cX4_swaps 66 = .ok (.invokevirtual 121, 3) := by decide +kernel
theorem dX4_swaps_69 : decode cX4_swaps 69 = .ok (.istore_n 3, 1) := by decide +kernel
theorem dX4_swaps_70 : decode cX4_swaps 70 = .ok (.aload_n 0, 1) := by decide +kernel
theorem dX4_swaps_71 : decode cX4_swaps 71 = .ok (.getfield 36, 3) := by decide +kernel
theorem dX4_swaps_74 : decode cX4_swaps 74 = .ok (.iload_n 3, 1) := by decide +kernel
theorem dX4_swaps_75 : decode cX4_swaps 75 = .ok (.aload_n 0, 1) := by decide +kernel
theorem dX4_swaps_76 : decode cX4_swaps 76 = .ok (.getfield 36, 3) := by decide +kernel
theorem dX4_swaps_79 : decode cX4_swaps 79 = .ok (.iload_n 1, 1) := by decide +kernel
theorem dX4_swaps_80 : decode cX4_swaps 80 = .ok (.iaload, 1) := by decide +kernel
theorem dX4_swaps_81 : decode cX4_swaps 81 = .ok (.iastore, 1) := by decide +kernel
theorem dX4_swaps_82 : decode cX4_swaps 82 = .ok (.aload_n 0, 1) := by decide +kernel
theorem dX4_swaps_83 : decode cX4_swaps 83 = .ok (.getfield 39, 3) := by decide +kernel
theorem dX4_swaps_86 : decode cX4_swaps 86 = .ok (.iload_n 3, 1) := by decide +kernel
theorem dX4_swaps_87 : decode cX4_swaps 87 = .ok (.aload_n 0, 1) := by decide +kernel
theorem dX4_swaps_88 : decode cX4_swaps 88 = .ok (.getfield 39, 3) := by decide +kernel
theorem dX4_swaps_91 : decode cX4_swaps 91 = .ok (.iload_n 1, 1) := by decide +kernel
theorem dX4_swaps_92 : decode cX4_swaps 92 = .ok (.iaload, 1) := by decide +kernel
theorem dX4_swaps_93 : decode cX4_swaps 93 = .ok (.iastore, 1) := by decide +kernel
theorem dX4_swaps_94 : decode cX4_swaps 94 = .ok (.aload_n 0, 1) := by decide +kernel
theorem dX4_swaps_95 : decode cX4_swaps 95 = .ok (.getfield 42, 3) := by decide +kernel
theorem dX4_swaps_98 : decode cX4_swaps 98 = .ok (.iload_n 3, 1) := by decide +kernel
theorem dX4_swaps_99 : decode cX4_swaps 99 = .ok (.aload_n 0, 1) := by decide +kernel
theorem dX4_swaps_100 : decode cX4_swaps 100 = .ok (.getfield 42, 3) := by decide +kernel
theorem dX4_swaps_103 : decode cX4_swaps 103 = .ok (.iload_n 1, 1) := by decide +kernel
theorem dX4_swaps_104 : decode cX4_swaps 104 = .ok (.baload, 1) := by decide +kernel
theorem dX4_swaps_105 : decode cX4_swaps 105 = .ok (.bastore, 1) := by decide +kernel
theorem dX4_swaps_106 : decode cX4_swaps 106 = .ok (.aload_n 0, 1) := by decide +kernel
theorem dX4_swaps_107 : decode cX4_swaps 107 = .ok (.getfield 52, 3) := by decide +kernel
theorem dX4_swaps_110 : decode cX4_swaps 110 = .ok (.iload_n 3, 1) := by decide +kernel
theorem dX4_swaps_111 : decode cX4_swaps 111 = .ok (.aload_n 0, 1) := by decide +kernel
theorem dX4_swaps_112 : decode cX4_swaps 112 = .ok (.getfield 52, 3) := by decide +kernel
theorem dX4_swaps_115 : decode cX4_swaps 115 = .ok (.iload_n 1, 1) := by decide +kernel
theorem dX4_swaps_116 : decode cX4_swaps 116 = .ok (.laload, 1) := by decide +kernel
theorem dX4_swaps_117 : decode cX4_swaps 117 = .ok (.lastore, 1) := by decide +kernel
theorem dX4_swaps_118 : decode cX4_swaps 118 = .ok (.aload_n 0, 1) := by decide +kernel
theorem dX4_swaps_119 : decode cX4_swaps 119 = .ok (.getfield 52, 3) := by decide +kernel
theorem dX4_swaps_122 : decode cX4_swaps 122 = .ok (.iload_n 1, 1) := by decide +kernel
theorem dX4_swaps_123 : decode cX4_swaps 123 = .ok (.lconst 0, 1) := by decide +kernel
theorem dX4_swaps_124 : decode cX4_swaps 124 = .ok (.lastore, 1) := by decide +kernel
theorem dX4_swaps_125 : decode cX4_swaps 125 = .ok (.aload_n 0, 1) := by decide +kernel
theorem dX4_swaps_126 : decode cX4_swaps 126 = .ok (.getfield 61, 3) := by decide +kernel
theorem dX4_swaps_129 : decode cX4_swaps 129 = .ok (.iload_n 3, 1) := by decide +kernel
theorem dX4_swaps_130 : decode cX4_swaps 130 = .ok (.iload_n 1, 1) := by decide +kernel
theorem dX4_swaps_131 : decode cX4_swaps 131 = .ok (.iastore, 1) := by decide +kernel
theorem dX4_swaps_132 : decode cX4_swaps 132 = .ok (.aload_n 0, 1) := by decide +kernel
theorem dX4_swaps_133 : decode cX4_swaps 133 = .ok (.getfield 46, 3) := by decide +kernel
theorem dX4_swaps_136 : decode cX4_swaps 136 = .ok (.iload_n 1, 1) := by decide +kernel
theorem dX4_swaps_137 : decode cX4_swaps 137 = .ok (.iconst 2, 1) := by decide +kernel
theorem dX4_swaps_138 : decode cX4_swaps 138 = .ok (.iastore, 1) := by decide +kernel
theorem dX4_swaps_139 : decode cX4_swaps 139 = .ok (.aload_n 0, 1) := by decide +kernel
theorem dX4_swaps_140 : decode cX4_swaps 140 = .ok (.getfield 85, 3) := by decide +kernel
theorem dX4_swaps_143 : decode cX4_swaps 143 = .ok (.aload_n 0, 1) := by decide +kernel
theorem dX4_swaps_144 : decode cX4_swaps 144 = .ok (.getfield 19, 3) := by decide +kernel
theorem dX4_swaps_147 : decode cX4_swaps 147 = .ok (.iload_n 1, 1) := by decide +kernel
theorem dX4_swaps_148 : decode cX4_swaps 148 = .ok (.iaload, 1) := by decide +kernel
theorem dX4_swaps_149 : decode cX4_swaps 149 = .ok (.dup2, 1) := by decide +kernel
theorem dX4_swaps_150 : decode cX4_swaps 150 = .ok (.laload, 1) := by decide +kernel
theorem dX4_swaps_151 : decode cX4_swaps 151 = .ok (.aload_n 0, 1) := by decide +kernel
theorem dX4_swaps_152 : decode cX4_swaps 152 = .ok (.iload_n 3, 1) := by decide +kernel
theorem dX4_swaps_153 : decode cX4_swaps 153 = .ok (.aload_n 0, 1) := by decide +kernel
theorem dX4_swaps_154 : decode cX4_swaps 154 = .ok (.getfield 15, 3) := by decide +kernel
theorem dX4_swaps_157 : decode cX4_swaps 157 = .ok (.invokevirtual 176, 3) := by decide +kernel
theorem dX4_swaps_160 : decode cX4_swaps 160 = .ok (.ladd, 1) := by decide +kernel
theorem dX4_swaps_161 : decode cX4_swaps 161 = .ok (.lastore, 1) := by decide +kernel
theorem dX4_swaps_162 : decode cX4_swaps 162 = .ok (.iload_n 3, 1) := by decide +kernel
theorem dX4_swaps_163 : decode cX4_swaps 163 = .ok (.ireturn, 1) := by decide +kernel
theorem dX4_accept_0 : decode cX4_accept 0 = .ok (.aload_n 0, 1) := by decide +kernel
theorem dX4_accept_1 : decode cX4_accept 1 = .ok (.iload_n 1, 1) := by decide +kernel
theorem dX4_accept_2 : decode cX4_accept 2 = .ok (.invokevirtual 125, 3) := by decide +kernel
theorem dX4_accept_5 : decode cX4_accept 5 = .ok (.ifCond .eq 15, 3) := by decide +kernel
theorem dX4_accept_8 : decode cX4_accept 8 = .ok (.aload_n 0, 1) := by decide +kernel
theorem dX4_accept_9 : decode cX4_accept 9 = .ok (.iload_n 2, 1) := by decide +kernel
theorem dX4_accept_10 : decode cX4_accept 10 = .ok (.invokevirtual 182, 3) := by decide +kernel
theorem dX4_accept_13 : decode cX4_accept 13 = .ok (.ifCond .eq 7, 3) := by decide +kernel
theorem dX4_accept_16 : decode cX4_accept 16 = .ok (.iconst 1, 1) := by decide +kernel
theorem dX4_accept_17 : decode cX4_accept 17 = .ok (.goto 4, 3) := by decide +kernel
theorem dX4_accept_20 : decode cX4_accept 20 = .ok (.iconst 0, 1) := by decide +kernel
theorem dX4_accept_21 : decode cX4_accept 21 = .ok (.istore_n 3, 1) := by decide +kernel
theorem dX4_accept_22 : decode cX4_accept 22 = .ok (.aload_n 0, 1) := by decide +kernel
theorem dX4_accept_23 : decode cX4_accept 23 = .ok (.iload_n 3, 1) := by decide +kernel
theorem dX4_accept_24 : decode cX4_accept 24 = .ok (.ifCond .ne 7, 3) := by decide +kernel
theorem dX4_accept_27 : decode cX4_accept 27 = .ok (.iconst 1, 1) := by decide +kernel
theorem dX4_accept_28 : decode cX4_accept 28 = .ok (.goto 36, 3) := by decide +kernel
theorem dX4_accept_31 : decode cX4_accept 31 = .ok (.aload_n 0, 1) := by decide +kernel
theorem dX4_accept_32 : decode cX4_accept 32 = .ok (.getfield 19, 3) := by decide +kernel
theorem dX4_accept_35 : decode cX4_accept 35 = .ok (.iload_n 1, 1) := by decide +kernel
theorem dX4_accept_36 : decode cX4_accept 36 = .ok (.iaload, 1) := by decide +kernel
theorem dX4_accept_37 : decode cX4_accept 37 = .ok (.iconst 1, 1) := by decide +kernel
theorem dX4_accept_38 : decode cX4_accept 38 = .ok (.if_icmp .eq 21, 3) := by decide +kernel
theorem dX4_accept_41 : decode cX4_accept 41 = .ok (.aload_n 0, 1) := by decide +kernel
theorem dX4_accept_42 : decode cX4_accept 42 = .ok (.getfield 46, 3) := by decide +kernel
theorem dX4_accept_45 : decode cX4_accept 45 = .ok (.iload_n 1, 1) := by decide +kernel
theorem dX4_accept_46 : decode cX4_accept 46 = .ok (.iaload, 1) := by decide +kernel
theorem dX4_accept_47 : decode cX4_accept 47 = .ok (.ifCond .ne 12, 3) := by decide +kernel
theorem dX4_accept_50 : decode cX4_accept 50 = .ok (.aload_n 0, 1) := by decide +kernel
theorem dX4_accept_51 : decode cX4_accept 51 = .ok (.getfield 100, 3) := by decide +kernel
theorem dX4_accept_54 : decode cX4_accept 54 = .ok (.bipush 40, 2) := by decide +kernel
theorem dX4_accept_56 : decode cX4_accept 56 = .ok (.if_icmp .ne 7, 3) := by decide +kernel
theorem dX4_accept_59 : decode cX4_accept 59 = .ok (.iconst 2, 1) := by decide +kernel
theorem dX4_accept_60 : decode cX4_accept 60 = .ok (.goto 4, 3) := by decide +kernel
theorem dX4_accept_63 : decode cX4_accept 63 = .ok (.iconst 0, 1) := by decide +kernel
theorem dX4_accept_64 : decode cX4_accept 64 = .ok (.invokevirtual 118, 3) := by decide +kernel
theorem dX4_accept_67 : decode cX4_accept 67 = .ok (.ifCond .ne 5, 3) := by decide +kernel
theorem dX4_accept_70 : decode cX4_accept 70 = .ok (.iconst 0, 1) := by decide +kernel
theorem dX4_accept_71 : decode cX4_accept 71 = .ok (.ireturn, 1) := by decide +kernel
theorem dX4_accept_72 : decode cX4_accept 72 = .ok (.aload_n 0, 1) := by decide +kernel
theorem dX4_accept_73 : decode cX4_accept 73 = .ok (.iload_n 1, 1) := by decide +kernel
theorem dX4_accept_74 : decode cX4_accept 74 = .ok (.iload_n 2, 1) := by decide +kernel
theorem dX4_accept_75 : decode cX4_accept 75 = .ok (.invokevirtual 185, 3) := by decide +kernel
theorem dX4_accept_78 : decode cX4_accept 78 = .ok (.ireturn, 1) := by decide +kernel
theorem dX4_isVoter_0 : decode cX4_isVoter 0 = .ok (.aload_n 0, 1) := by decide +kernel
theorem dX4_isVoter_1 : decode cX4_isVoter 1 = .ok (.getfield 19, 3) := by decide +kernel
theorem dX4_isVoter_4 : decode cX4_isVoter 4 = .ok (.iload_n 1, 1) := by decide +kernel
theorem dX4_isVoter_5 : decode cX4_isVoter 5 = .ok (.iaload, 1) := by decide +kernel
theorem dX4_isVoter_6 : decode cX4_isVoter 6 = .ok (.iconst 1, 1) := by decide +kernel
theorem dX4_isVoter_7 : decode cX4_isVoter 7 = .ok (.if_icmp .ne 25, 3) := by decide +kernel
theorem dX4_isVoter_10 : decode cX4_isVoter 10 = .ok (.aload_n 0, 1) := by decide +kernel
theorem dX4_isVoter_11 : decode cX4_isVoter 11 = .ok (.getfield 23, 3) := by decide +kernel
theorem dX4_isVoter_14 : decode cX4_isVoter 14 = .ok (.iload_n 1, 1) := by decide +kernel
theorem dX4_isVoter_15 : decode cX4_isVoter 15 = .ok (.iaload, 1) := by decide +kernel
theorem dX4_isVoter_16 : decode cX4_isVoter 16 = .ok (.ifCond .eq 16, 3) := by decide +kernel
theorem dX4_isVoter_19 : decode cX4_isVoter 19 = .ok (.aload_n 0, 1) := by decide +kernel
theorem dX4_isVoter_20 : decode cX4_isVoter 20 = .ok (.getfield 46, 3) := by decide +kernel
theorem dX4_isVoter_23 : decode cX4_isVoter 23 = .ok (.iload_n 1, 1) := by decide +kernel
theorem dX4_isVoter_24 : decode cX4_isVoter 24 = .ok (.iaload, 1) := by decide +kernel
theorem dX4_isVoter_25 : decode cX4_isVoter 25 = .ok (.ifCond .ne 7, 3) := by decide +kernel
theorem dX4_isVoter_28 : decode cX4_isVoter 28 = .ok (.iconst 1, 1) := by decide +kernel
theorem dX4_isVoter_29 : decode cX4_isVoter 29 = .ok (.goto 4, 3) := by decide +kernel
theorem dX4_isVoter_32 : decode cX4_isVoter 32 = .ok (.iconst 0, 1) := by decide +kernel
theorem dX4_isVoter_33 : decode cX4_isVoter 33 = .ok (.ireturn, 1) := by decide +kernel
theorem dX4_vote_0 : decode cX4_vote 0 = .ok (.aload_n 0, 1) := by decide +kernel
theorem dX4_vote_1 : decode cX4_vote 1 = .ok (.iload_n 1, 1) := by decide +kernel
theorem dX4_vote_2 : decode cX4_vote 2 = .ok (.invokevirtual 125, 3) := by decide +kernel
theorem dX4_vote_5 : decode cX4_vote 5 = .ok (.ifCond .eq 15, 3) := by decide +kernel
theorem dX4_vote_8 : decode cX4_vote 8 = .ok (.aload_n 0, 1) := by decide +kernel
theorem dX4_vote_9 : decode cX4_vote 9 = .ok (.iload_n 2, 1) := by decide +kernel
theorem dX4_vote_10 : decode cX4_vote 10 = .ok (.invokevirtual 182, 3) := by decide +kernel
theorem dX4_vote_13 : decode cX4_vote 13 = .ok (.ifCond .eq 7, 3) := by decide +kernel
theorem dX4_vote_16 : decode cX4_vote 16 = .ok (.iconst 1, 1) := by decide +kernel
theorem dX4_vote_17 : decode cX4_vote 17 = .ok (.goto 4, 3) := by decide +kernel
theorem dX4_vote_20 : decode cX4_vote 20 = .ok (.iconst 0, 1) := by decide +kernel
theorem dX4_vote_21 : decode cX4_vote 21 = .ok (.istore 4, 2) := by decide +kernel
theorem dX4_vote_23 : decode cX4_vote 23 = .ok (.aload_n 0, 1) := by decide +kernel
theorem dX4_vote_24 : decode cX4_vote 24 = .ok (.iload 4, 2) := by decide +kernel
theorem dX4_vote_26 : decode cX4_vote 26 = .ok (.ifCond .ne 7, 3) := by decide +kernel
theorem dX4_vote_29 : decode cX4_vote 29 = .ok (.iconst 1, 1) := by decide +kernel
theorem dX4_vote_30 : decode cX4_vote 30 = .ok (.goto 16, 3) := by decide +kernel
theorem dX4_vote_33 : decode cX4_vote 33 = .ok (.aload_n 0, 1) := by decide +kernel
theorem dX4_vote_34 : decode cX4_vote 34 = .ok (.iload_n 1, 1) := by decide +kernel
theorem dX4_vote_35 : decode cX4_vote 35 = .ok (.invokevirtual 189, 3) := by decide +kernel
theorem dX4_vote_38 : decode cX4_vote 38 = .ok (.ifCond .eq 7, 3) := by decide +kernel
theorem dX4_vote_41 : decode cX4_vote 41 = .ok (.iconst 0, 1) := by decide +kernel
theorem dX4_vote_42 : decode cX4_vote 42 = .ok (.goto 4, 3) := by decide +kernel
theorem dX4_vote_45 : decode cX4_vote 45 = .ok (.iconst 2, 1) := by decide +kernel
theorem dX4_vote_46 : decode cX4_vote 46 = .ok (.invokevirtual 118, 3) := by decide +kernel
theorem dX4_vote_49 : decode cX4_vote 49 = .ok (.ifCond .eq 23, 3) := by decide +kernel
theorem dX4_vote_52 : decode cX4_vote 52 = .ok (.aload_n 0, 1) := by decide +kernel
theorem dX4_vote_53 : decode cX4_vote 53 = .ok (.getfield 76, 3) := by decide +kernel
theorem dX4_vote_56 : decode cX4_vote 56 = .ok (.bipush 40, 2) := by decide +kernel
theorem dX4_vote_58 : decode cX4_vote 58 = .ok (.iload_n 2, 1) := by decide +kernel
theorem dX4_vote_59 : decode cX4_vote 59 = .ok (.imul, 1) := by decide +kernel
theorem dX4_vote_60 : decode cX4_vote 60 = .ok (.iload_n 1, 1) := by decide +kernel
theorem dX4_vote_61 : decode cX4_vote 61 = .ok (.iadd, 1) := by decide +kernel
theorem dX4_vote_62 : decode cX4_vote 62 = .ok (.iload_n 3, 1) := by decide +kernel
theorem dX4_vote_63 : decode cX4_vote 63 = .ok (.ifCond .eq 7, 3) := by decide +kernel
theorem dX4_vote_66 : decode cX4_vote 66 = .ok (.iconst 1, 1) := by decide +kernel
theorem dX4_vote_67 : decode cX4_vote 67 = .ok (.goto 4, 3) := by decide +kernel
theorem dX4_vote_70 : decode cX4_vote 70 = .ok (.iconst 2, 1) := by decide +kernel
theorem dX4_vote_71 : decode cX4_vote 71 = .ok (.iastore, 1) := by decide +kernel
theorem dX4_vote_72 : decode cX4_vote 72 = .ok (.return_, 1) := by decide +kernel
theorem dX4_votes_0 : decode cX4_votes 0 = .ok (.lconst 0, 1) := by decide +kernel
theorem dX4_votes_1 : decode cX4_votes 1 = .ok (.lstore 4, 2) := by decide +kernel
theorem dX4_votes_3 : decode cX4_votes 3 = .ok (.iconst 0, 1) := by decide +kernel
theorem dX4_votes_4 : decode cX4_votes 4 = .ok (.istore 6, 2) := by decide +kernel
theorem dX4_votes_6 : decode cX4_votes 6 = .ok (.iload 6, 2) := by decide +kernel
theorem dX4_votes_8 : decode cX4_votes 8 = .ok (.aload_n 0, 1) := by decide +kernel
theorem dX4_votes_9 : decode cX4_votes 9 = .ok (.getfield 100, 3) := by decide +kernel
theorem dX4_votes_12 : decode cX4_votes 12 = .ok (.if_icmp .ge 81, 3) := by decide +kernel
theorem dX4_votes_15 : decode cX4_votes 15 = .ok (.aload_n 0, 1) := by decide +kernel
theorem dX4_votes_16 : decode cX4_votes 16 = .ok (.iload 6, 2) := by decide +kernel
theorem dX4_votes_18 : decode cX4_votes 18 = .ok (.invokevirtual 189, 3) := by decide +kernel
theorem dX4_votes_21 : decode cX4_votes 21 = .ok (.ifCond .eq 23, 3) := by decide +kernel
theorem dX4_votes_24 : decode cX4_votes 24 = .ok (.iload_n 2, 1) := by decide +kernel
theorem dX4_votes_25 : decode cX4_votes 25 = .ok (.iconst (-1), 1) := by decide +kernel
theorem dX4_votes_26 : decode cX4_votes 26 = .ok (.if_icmp .eq 14, 3) := by decide +kernel
theorem dX4_votes_29 : decode cX4_votes 29 = .ok (.aload_n 0, 1) := by decide +kernel
theorem dX4_votes_30 : decode cX4_votes 30 = .ok (.getfield 39, 3) := by decide +kernel
theorem dX4_votes_33 : decode cX4_votes 33 = .ok (.iload 6, 2) := by decide +kernel
theorem dX4_votes_35 : decode cX4_votes 35 = .ok (.iaload, 1) := by decide +kernel
theorem dX4_votes_36 : decode cX4_votes 36 = .ok (.iload_n 2, 1) := by decide +kernel
theorem dX4_votes_37 : decode cX4_votes 37 = .ok (.if_icmp .ne 7, 3) := by decide +kernel
theorem dX4_votes_40 : decode cX4_votes 40 = .ok (.iconst 1, 1) := by decide +kernel
theorem dX4_votes_41 : decode cX4_votes 41 = .ok (.goto 4, 3) := by decide +kernel
theorem dX4_votes_44 : decode cX4_votes 44 = .ok (.iconst 0, 1) := by decide +kernel
theorem dX4_votes_45 : decode cX4_votes 45 = .ok (.istore 7, 2) := by decide +kernel
theorem dX4_votes_47 : decode cX4_votes 47 = .ok (.lload 4, 2) := by decide +kernel
theorem dX4_votes_49 : decode cX4_votes 49 = .ok (.iload 7, 2) := by decide +kernel
theorem dX4_votes_51 : decode cX4_votes 51 = .ok (.ifCond .eq 32, 3) := by decide +kernel
theorem dX4_votes_54 : decode cX4_votes 54 = .ok (.iload_n 3, 1) := by decide +kernel
theorem dX4_votes_55 : decode cX4_votes 55 = .ok (.ifCond .eq 19, 3) := by decide +kernel
theorem dX4_votes_58 : decode cX4_votes 58 = .ok (.aload_n 0, 1) := by decide +kernel
theorem dX4_votes_59 : decode cX4_votes 59 = .ok (.getfield 76, 3) := by decide +kernel
theorem dX4_votes_62 : decode cX4_votes 62 = .ok (.bipush 40, 2) := by decide +kernel
theorem dX4_votes_64 : decode cX4_votes 64 = .ok (.iload_n 1, 1) := by decide +kernel
theorem dX4_votes_65 : decode cX4_votes 65 = .ok (.imul, 1) := by decide +kernel
theorem dX4_votes_66 : decode cX4_votes 66 = .ok (.iload 6, 2) := by decide +kernel
theorem dX4_votes_68 : decode cX4_votes 68 = .ok (.iadd, 1) := by decide +kernel
theorem dX4_votes_69 : decode cX4_votes 69 = .ok (.iaload, 1) := by decide +kernel
theorem dX4_votes_70 : decode cX4_votes 70 = .ok (.iconst 1, 1) := by decide +kernel
theorem dX4_votes_71 : decode cX4_votes 71 = .ok (.if_icmp .ne 12, 3) := by decide +kernel
theorem dX4_votes_74 : decode cX4_votes 74 = .ok (.aload_n 0, 1) := by decide +kernel
theorem dX4_votes_75 : decode cX4_votes 75 = .ok (.iload 6, 2) := by decide +kernel
theorem dX4_votes_77 : decode cX4_votes 77 = .ok (.invokevirtual 131, 3) := by decide +kernel
theorem dX4_votes_80 : decode cX4_votes 80 = .ok (.goto 4, 3) := by decide +kernel
theorem dX4_votes_83 : decode cX4_votes 83 = .ok (.lconst 0, 1) := by decide +kernel
theorem dX4_votes_84 : decode cX4_votes 84 = .ok (.ladd, 1) := by decide +kernel
theorem dX4_votes_85 : decode cX4_votes 85 = .ok (.lstore 4, 2) := by decide +kernel
theorem dX4_votes_87 : decode cX4_votes 87 = .ok (.iinc 6 1, 3) := by decide +kernel
theorem dX4_votes_90 : decode cX4_votes 90 = .ok (.goto (-84), 3) := by decide +kernel
theorem dX4_votes_93 : decode cX4_votes 93 = .ok (.lload 4, 2) := by decide +kernel
theorem dX4_votes_95 : decode cX4_votes 95 = .ok (.lreturn, 1) := by decide +kernel
theorem dX4_isPart_0 : decode cX4_isPart 0 = .ok (.aload_n 0, 1) := by decide +kernel
theorem dX4_isPart_1 : decode cX4_isPart 1 = .ok (.iload_n 1, 1) := by decide +kernel
theorem dX4_isPart_2 : decode cX4_isPart 2 = .ok (.iload_n 2, 1) := by decide +kernel
theorem dX4_isPart_3 : decode cX4_isPart 3 = .ok (.iconst 0, 1) := by decide +kernel
theorem dX4_isPart_4 : decode cX4_isPart 4 = .ok (.invokevirtual 192, 3) := by decide +kernel
theorem dX4_isPart_7 : decode cX4_isPart 7 = .ok (.lstore 4, 2) := by decide +kernel
theorem dX4_isPart_9 : decode cX4_isPart 9 = .ok (.lload 4, 2) := by decide +kernel
theorem dX4_isPart_11 : decode cX4_isPart 11 = .ok (.lconst 0, 1) := by decide +kernel
theorem dX4_isPart_12 : decode cX4_isPart 12 = .ok (.lcmp, 1) := by decide +kernel
theorem dX4_isPart_13 : decode cX4_isPart 13 = .ok (.ifCond .le 27, 3) := by decide +kernel
theorem dX4_isPart_16 : decode cX4_isPart 16 = .ok (.ldc2_w 174, 3) := by decide +kernel
theorem dX4_isPart_19 : decode cX4_isPart 19 = .ok (.aload_n 0, 1) := by decide +kernel
theorem dX4_isPart_20 : decode cX4_isPart 20 = .ok (.iload_n 1, 1) := by decide +kernel
theorem dX4_isPart_21 : decode cX4_isPart 21 = .ok (.iload_n 2, 1) := by decide +kernel
theorem dX4_isPart_22 : decode cX4_isPart 22 = .ok (.iconst 1, 1) := by decide +kernel
theorem dX4_isPart_23 : decode cX4_isPart 23 = .ok (.invokevirtual 192, 3) := by decide +kernel
theorem dX4_isPart_26 : decode cX4_isPart 26 = .ok (.lmul, 1) := by decide +kernel
theorem dX4_isPart_27 : decode cX4_isPart 27 = .ok (.iload_n 3, 1) := by decide +kernel
theorem dX4_isPart_28 : decode cX4_isPart 28 = .ok (.i2l, 1) := by decide +kernel
theorem dX4_isPart_29 : decode cX4_isPart 29 = .ok (.lload 4, 2) := by decide +kernel
theorem dX4_isPart_31 : decode cX4_isPart 31 = .ok (.lmul, 1) := by decide +kernel
theorem dX4_isPart_32 : decode cX4_isPart 32 = .ok (.lcmp, 1) := by decide +kernel
theorem dX4_isPart_33 : decode cX4_isPart 33 = .ok (.ifCond .lt 7, 3) := by decide +kernel
theorem dX4_isPart_36 : decode cX4_isPart 36 = .ok (.iconst 1, 1) := by decide +kernel
theorem dX4_isPart_37 : decode cX4_isPart 37 = .ok (.goto 4, 3) := by decide +kernel
theorem dX4_isPart_40 : decode cX4_isPart 40 = .ok (.iconst 0, 1) := by decide +kernel
theorem dX4_isPart_41 : decode cX4_isPart 41 = .ok (.ireturn, 1) := by decide +kernel
theorem dX4_arePooled_0 : decode cX4_arePooled 0 = .ok (.aload_n 0, 1) := by decide +kernel
theorem dX4_arePooled_1 : decode cX4_arePooled 1 = .ok (.iload_n 1, 1) := by decide +kernel
theorem dX4_arePooled_2 : decode cX4_arePooled 2 = .ok (.iconst (-1), 1) := by decide +kernel
theorem dX4_arePooled_3 : decode cX4_arePooled 3 = .ok (.bipush 66, 2) := by decide +kernel
theorem dX4_arePooled_5 : decode cX4_arePooled 5 = .ok (.invokevirtual 196, 3) := by decide +kernel
theorem dX4_arePooled_8 : decode cX4_arePooled 8 = .ok (.istore_n 2, 1) := by decide +kernel
theorem dX4_arePooled_9 : decode cX4_arePooled 9 = .ok (.iconst 0, 1) := by decide +kernel
theorem dX4_arePooled_10 : decode cX4_arePooled 10 = .ok (.istore_n 3, 1) := by decide +kernel
theorem dX4_arePooled_11 : decode cX4_arePooled 11 = .ok (.iload_n 3, 1) := by decide +kernel
theorem dX4_arePooled_12 : decode cX4_arePooled 12 = .ok (.iconst 4, 1) := by decide +kernel
theorem dX4_arePooled_13 : decode cX4_arePooled 13 = .ok (.if_icmp .ge 42, 3) := by decide +kernel
theorem dX4_arePooled_16 : decode cX4_arePooled 16 = .ok (.iload_n 2, 1) := by decide +kernel
theorem dX4_arePooled_17 : decode cX4_arePooled 17 = .ok (.ifCond .eq 30, 3) := by decide +kernel
theorem dX4_arePooled_20 : decode cX4_arePooled 20 = .ok (.aload_n 0, 1) := by decide +kernel
theorem dX4_arePooled_21 : decode cX4_arePooled 21 = .ok (.iload_n 1, 1) := by decide +kernel
theorem dX4_arePooled_22 : decode cX4_arePooled 22 = .ok (.iload_n 3, 1) := by decide +kernel
theorem dX4_arePooled_23 : decode cX4_arePooled 23 = .ok (.iconst 0, 1) := by decide +kernel
theorem dX4_arePooled_24 : decode cX4_arePooled 24 = .ok (.invokevirtual 192, 3) := by decide +kernel
theorem dX4_arePooled_27 : decode cX4_arePooled 27 = .ok (.lconst 0, 1) := by decide +kernel
theorem dX4_arePooled_28 : decode cX4_arePooled 28 = .ok (.lcmp, 1) := by decide +kernel
theorem dX4_arePooled_29 : decode cX4_arePooled 29 = .ok (.ifCond .eq 14, 3) := by decide +kernel
theorem dX4_arePooled_32 : decode cX4_arePooled 32 = .ok (.aload_n 0, 1) := by decide +kernel
theorem dX4_arePooled_33 : decode cX4_arePooled 33 = .ok (.iload_n 1, 1) := by decide +kernel
theorem dX4_arePooled_34 : decode cX4_arePooled 34 = .ok (.iload_n 3, 1) := by decide +kernel
theorem dX4_arePooled_35 : decode cX4_arePooled 35 = .ok (.bipush 50, 2) := by decide +kernel
theorem dX4_arePooled_37 : decode cX4_arePooled 37 = .ok (.invokevirtual 196, 3) := by decide +kernel
theorem dX4_arePooled_40 : decode cX4_arePooled 40 = .ok (.ifCond .eq 7, 3) := by decide +kernel
theorem dX4_arePooled_43 : decode cX4_arePooled 43 = .ok (.iconst 1, 1) := by decide +kernel
theorem dX4_arePooled_44 : decode cX4_arePooled 44 = .ok (.goto 4, 3) := by decide +kernel
theorem dX4_arePooled_47 : decode cX4_arePooled 47 = .ok (.iconst 0, 1) := by decide +kernel
theorem dX4_arePooled_48 : decode cX4_arePooled 48 = .ok (.istore_n 2, 1) := by decide +kernel
theorem dX4_arePooled_49 : decode cX4_arePooled 49 = .ok (.iinc 3 1, 3) := by decide +kernel
theorem dX4_arePooled_52 : decode cX4_arePooled 52 = .ok (.goto (-41), 3) := by decide +kernel
theorem dX4_arePooled_55 : decode cX4_arePooled 55 = .ok (.iload_n 2, 1) := by decide +kernel
theorem dX4_arePooled_56 : decode cX4_arePooled 56 = .ok (.ireturn, 1) := by decide +kernel
theorem dX4_isPassed_0 : decode cX4_isPassed 0 = .ok (.iload_n 2, 1) := by decide +kernel
theorem dX4_isPassed_1 : decode cX4_isPassed 1 = .ok (.iconst (-1), 1) := by decide +kernel
theorem dX4_isPassed_2 : decode cX4_isPassed 2 = .ok (.if_icmp .ne 11, 3) := by decide +kernel
theorem dX4_isPassed_5 : decode cX4_isPassed 5 = .ok (.aload_n 0, 1) := by decide +kernel
theorem dX4_isPassed_6 : decode cX4_isPassed 6 = .ok (.iload_n 1, 1) := by decide +kernel
theorem dX4_isPassed_7 : decode cX4_isPassed 7 = .ok (.invokevirtual 199, 3) := by decide +kernel
theorem dX4_isPassed_10 : decode cX4_isPassed 10 = .ok (.goto 11, 3) := by decide +kernel
theorem dX4_isPassed_13 : decode cX4_isPassed 13 = .ok (.aload_n 0, 1) := by decide +kernel
theorem dX4_isPassed_14 : decode cX4_isPassed 14 = .ok (.iload_n 1, 1) := by decide +kernel
theorem dX4_isPassed_15 : decode cX4_isPassed 15 = .ok (.iload_n 2, 1) := by decide +kernel
theorem dX4_isPassed_16 : decode cX4_isPassed 16 = .ok (.bipush 75, 2) := by decide +kernel
theorem dX4_isPassed_18 : decode cX4_isPassed 18 = .ok (.invokevirtual 196, 3) := by decide +kernel
theorem dX4_isPassed_21 : decode cX4_isPassed 21 = .ok (.ireturn, 1) := by decide +kernel
theorem dX4_passed_0 : decode cX4_passed 0 = .ok (.aload_n 0, 1) := by decide +kernel
theorem dX4_passed_1 : decode cX4_passed 1 = .ok (.iload_n 1, 1) := by decide +kernel
theorem dX4_passed_2 : decode cX4_passed 2 = .ok (.invokevirtual 199, 3) := by decide +kernel
theorem dX4_passed_5 : decode cX4_passed 5 = .ok (.ifCond .eq 8, 3) := by decide +kernel
theorem dX4_passed_8 : decode cX4_passed 8 = .ok (.bipush 15, 2) := by decide +kernel
theorem dX4_passed_10 : decode cX4_passed 10 = .ok (.goto 4, 3) := by decide +kernel
theorem dX4_passed_13 : decode cX4_passed 13 = .ok (.iconst 0, 1) := by decide +kernel
theorem dX4_passed_14 : decode cX4_passed 14 = .ok (.istore_n 2, 1) := by decide +kernel
theorem dX4_passed_15 : decode cX4_passed 15 = .ok (.iconst 0, 1) := by decide +kernel
theorem dX4_passed_16 : decode cX4_passed 16 = .ok (.istore_n 3, 1) := by decide +kernel
theorem dX4_passed_17 : decode cX4_passed 17 = .ok (.iload_n 3, 1) := by decide +kernel
theorem dX4_passed_18 : decode cX4_passed 18 = .ok (.iconst 4, 1) := by decide +kernel
theorem dX4_passed_19 : decode cX4_passed 19 = .ok (.if_icmp .ge 28, 3) := by decide +kernel
theorem dX4_passed_22 : decode cX4_passed 22 = .ok (.iload_n 2, 1) := by decide +kernel
theorem dX4_passed_23 : decode cX4_passed 23 = .ok (.aload_n 0, 1) := by decide +kernel
theorem dX4_passed_24 : decode cX4_passed 24 = .ok (.iload_n 1, 1) := by decide +kernel
theorem dX4_passed_25 : decode cX4_passed 25 = .ok (.iload_n 3, 1) := by decide +kernel
theorem dX4_passed_26 : decode cX4_passed 26 = .ok (.invokevirtual 202, 3) := by decide +kernel
theorem dX4_passed_29 : decode cX4_passed 29 = .ok (.ifCond .eq 9, 3) := by decide +kernel
theorem dX4_passed_32 : decode cX4_passed 32 = .ok (.iconst 1, 1) := by decide +kernel
theorem dX4_passed_33 : decode cX4_passed 33 = .ok (.iload_n 3, 1) := by decide +kernel
theorem dX4_passed_34 : decode cX4_passed 34 = .ok (.ishl, 1) := by decide +kernel
theorem dX4_passed_35 : decode cX4_passed 35 = .ok (.goto 4, 3) := by decide +kernel
theorem dX4_passed_38 : decode cX4_passed 38 = .ok (.iconst 0, 1) := by decide +kernel
theorem dX4_passed_39 : decode cX4_passed 39 = .ok (.ior, 1) := by decide +kernel
theorem dX4_passed_40 : decode cX4_passed 40 = .ok (.istore_n 2, 1) := by decide +kernel
theorem dX4_passed_41 : decode cX4_passed 41 = .ok (.iinc 3 1, 3) := by decide +kernel
theorem dX4_passed_44 : decode cX4_passed 44 = .ok (.goto (-27), 3) := by decide +kernel
theorem dX4_passed_47 : decode cX4_passed 47 = .ok (.iload_n 2, 1) := by decide +kernel
theorem dX4_passed_48 : decode cX4_passed 48 = .ok (.ireturn, 1) := by decide +kernel
theorem dX4_goes_0 : decode cX4_goes 0 = .ok (.aload_n 0, 1) := by decide +kernel
theorem dX4_goes_1 : decode cX4_goes 1 = .ok (.getfield 19, 3) := by decide +kernel
theorem dX4_goes_4 : decode cX4_goes 4 = .ok (.iload_n 1, 1) := by decide +kernel
theorem dX4_goes_5 : decode cX4_goes 5 = .ok (.iaload, 1) := by decide +kernel
theorem dX4_goes_6 : decode cX4_goes 6 = .ok (.iconst 1, 1) := by decide +kernel
theorem dX4_goes_7 : decode cX4_goes 7 = .ok (.if_icmp .ne 30, 3) := by decide +kernel
theorem dX4_goes_10 : decode cX4_goes 10 = .ok (.aload_n 0, 1) := by decide +kernel
theorem dX4_goes_11 : decode cX4_goes 11 = .ok (.getfield 46, 3) := by decide +kernel
theorem dX4_goes_14 : decode cX4_goes 14 = .ok (.iload_n 1, 1) := by decide +kernel
theorem dX4_goes_15 : decode cX4_goes 15 = .ok (.iaload, 1) := by decide +kernel
theorem dX4_goes_16 : decode cX4_goes 16 = .ok (.ifCond .ne 21, 3) := by decide +kernel
theorem dX4_goes_19 : decode cX4_goes 19 = .ok (.iload_n 2, 1) := by decide +kernel
theorem dX4_goes_20 : decode cX4_goes 20 = .ok (.aload_n 0, 1) := by decide +kernel
theorem dX4_goes_21 : decode cX4_goes 21 = .ok (.getfield 39, 3) := by decide +kernel
theorem dX4_goes_24 : decode cX4_goes 24 = .ok (.iload_n 1, 1) := by decide +kernel
theorem dX4_goes_25 : decode cX4_goes 25 = .ok (.iaload, 1) := by decide +kernel
theorem dX4_goes_26 : decode cX4_goes 26 = .ok (.ishr, 1) := by decide +kernel
theorem dX4_goes_27 : decode cX4_goes 27 = .ok (.iconst 1, 1) := by decide +kernel
theorem dX4_goes_28 : decode cX4_goes 28 = .ok (.iand, 1) := by decide +kernel
theorem dX4_goes_29 : decode cX4_goes 29 = .ok (.iconst 1, 1) := by decide +kernel
theorem dX4_goes_30 : decode cX4_goes 30 = .ok (.if_icmp .ne 7, 3) := by decide +kernel
theorem dX4_goes_33 : decode cX4_goes 33 = .ok (.iconst 1, 1) := by decide +kernel
theorem dX4_goes_34 : decode cX4_goes 34 = .ok (.goto 4, 3) := by decide +kernel
theorem dX4_goes_37 : decode cX4_goes 37 = .ok (.iconst 0, 1) := by decide +kernel
theorem dX4_goes_38 : decode cX4_goes 38 = .ok (.ireturn, 1) := by decide +kernel
theorem dX4_settle_0 : decode cX4_settle 0 = .ok (.aload_n 0, 1) := by decide +kernel
theorem dX4_settle_1 : decode cX4_settle 1 = .ok (.iload_n 1, 1) := by decide +kernel
theorem dX4_settle_2 : decode cX4_settle 2 = .ok (.invokevirtual 182, 3) := by decide +kernel
theorem dX4_settle_5 : decode cX4_settle 5 = .ok (.istore_n 2, 1) := by decide +kernel
theorem dX4_settle_6 : decode cX4_settle 6 = .ok (.iload_n 2, 1) := by decide +kernel
theorem dX4_settle_7 : decode cX4_settle 7 = .ok (.ifCond .eq 11, 3) := by decide +kernel
theorem dX4_settle_10 : decode cX4_settle 10 = .ok (.aload_n 0, 1) := by decide +kernel
theorem dX4_settle_11 : decode cX4_settle 11 = .ok (.iload_n 1, 1) := by decide +kernel
theorem dX4_settle_12 : decode cX4_settle 12 = .ok (.invokevirtual 206, 3) := by decide +kernel
theorem dX4_settle_15 : decode cX4_settle 15 = .ok (.goto 4, 3) := by decide +kernel
theorem dX4_settle_18 : decode cX4_settle 18 = .ok (.iconst 0, 1) := by decide +kernel
theorem dX4_settle_19 : decode cX4_settle 19 = .ok (.istore_n 3, 1) := by decide +kernel
theorem dX4_settle_20 : decode cX4_settle 20 = .ok (.iconst 0, 1) := by decide +kernel
theorem dX4_settle_21 : decode cX4_settle 21 = .ok (.istore 4, 2) := by decide +kernel
theorem dX4_settle_23 : decode cX4_settle 23 = .ok (.iconst 0, 1) := by decide +kernel
theorem dX4_settle_24 : decode cX4_settle 24 = .ok (.istore 5, 2) := by decide +kernel
theorem dX4_settle_26 : decode cX4_settle 26 = .ok (.iload 5, 2) := by decide +kernel
theorem dX4_settle_28 : decode cX4_settle 28 = .ok (.aload_n 0, 1) := by decide +kernel
theorem dX4_settle_29 : decode cX4_settle 29 = .ok (.getfield 100, 3) := by decide +kernel
theorem dX4_settle_32 : decode cX4_settle 32 = .ok (.if_icmp .ge 33, 3) := by decide +kernel
theorem dX4_settle_35 : decode cX4_settle 35 = .ok (.iload 4, 2) := by decide +kernel
theorem dX4_settle_37 : decode cX4_settle 37 = .ok (.iload_n 2, 1) := by decide +kernel
theorem dX4_settle_38 : decode cX4_settle 38 = .ok (.ifCond .eq 17, 3) := by decide +kernel
theorem dX4_settle_41 : decode cX4_settle 41 = .ok (.aload_n 0, 1) := by decide +kernel
theorem dX4_settle_42 : decode cX4_settle 42 = .ok (.iload 5, 2) := by decide +kernel
theorem dX4_settle_44 : decode cX4_settle 44 = .ok (.iload_n 3, 1) := by decide +kernel
theorem dX4_settle_45 : decode cX4_settle 45 = .ok (.invokevirtual 210, 3) := by decide +kernel
theorem dX4_settle_48 : decode cX4_settle 48 = .ok (.ifCond .eq 7, 3) := by decide +kernel
theorem dX4_settle_51 : decode cX4_settle 51 = .ok (.iconst 1, 1) := by decide +kernel
theorem dX4_settle_52 : decode cX4_settle 52 = .ok (.goto 4, 3) := by decide +kernel
theorem dX4_settle_55 : decode cX4_settle 55 = .ok (.iconst 0, 1) := by decide +kernel
theorem dX4_settle_56 : decode cX4_settle 56 = .ok (.iadd, 1) := by decide +kernel
theorem dX4_settle_57 : decode cX4_settle 57 = .ok (.istore 4, 2) := by decide +kernel
theorem dX4_settle_59 : decode cX4_settle 59 = .ok (.iinc 5 1, 3) := by decide +kernel
theorem dX4_settle_62 : decode cX4_settle 62 = .ok (.goto (-36), 3) := by decide +kernel
theorem dX4_settle_65 : decode cX4_settle 65 = .ok (.aload_n 0, 1) := by decide +kernel
theorem dX4_settle_66 : decode cX4_settle 66 = .ok (.iload_n 2, 1) := by decide +kernel
theorem dX4_settle_67 : decode cX4_settle 67 = .ok (.ifCond .ne 7, 3) := by decide +kernel
theorem dX4_settle_70 : decode cX4_settle 70 = .ok (.iconst 1, 1) := by decide +kernel
theorem dX4_settle_71 : decode cX4_settle 71 = .ok (.goto 20, 3) := by decide +kernel
theorem dX4_settle_74 : decode cX4_settle 74 = .ok (.aload_n 0, 1) := by decide +kernel
theorem dX4_settle_75 : decode cX4_settle 75 = .ok (.getfield 100, 3) := by decide +kernel
theorem dX4_settle_78 : decode cX4_settle 78 = .ok (.iload 4, 2) := by decide +kernel
theorem dX4_settle_80 : decode cX4_settle 80 = .ok (.iadd, 1) := by decide +kernel
theorem dX4_settle_81 : decode cX4_settle 81 = .ok (.bipush 40, 2) := by decide +kernel
theorem dX4_settle_83 : decode cX4_settle 83 = .ok (.if_icmp .le 7, 3) := by decide +kernel
theorem dX4_settle_86 : decode cX4_settle 86 = .ok (.iconst 2, 1) := by decide +kernel
theorem dX4_settle_87 : decode cX4_settle 87 = .ok (.goto 4, 3) := by decide +kernel
theorem dX4_settle_90 : decode cX4_settle 90 = .ok (.iconst 0, 1) := by decide +kernel
theorem dX4_settle_91 : decode cX4_settle 91 = .ok (.invokevirtual 118, 3) := by decide +kernel
theorem dX4_settle_94 : decode cX4_settle 94 = .ok (.ifCond .ne 5, 3) := by decide +kernel
theorem dX4_settle_97 : decode cX4_settle 97 = .ok (.iconst 0, 1) := by decide +kernel
theorem dX4_settle_98 : decode cX4_settle 98 = .ok (.ireturn, 1) := by decide +kernel
theorem dX4_settle_99 : decode cX4_settle 99 = .ok (.aload_n 0, 1) := by decide +kernel
theorem dX4_settle_100 : decode cX4_settle 100 = .ok (.getfield 100, 3) := by decide +kernel
theorem dX4_settle_103 : decode cX4_settle 103 = .ok (.istore 5, 2) := by decide +kernel
theorem dX4_settle_105 : decode cX4_settle 105 = .ok (.iconst 0, 1) := by decide +kernel
theorem dX4_settle_106 : decode cX4_settle 106 = .ok (.istore 6, 2) := by decide +kernel
theorem dX4_settle_108 : decode cX4_settle 108 = .ok (.iload 6, 2) := by decide +kernel
theorem dX4_settle_110 : decode cX4_settle 110 = .ok (.iload 5, 2) := by decide +kernel
theorem dX4_settle_112 : decode cX4_settle 112 = .ok (.if_icmp .ge 40, 3) := by decide +kernel
theorem dX4_settle_115 : decode cX4_settle 115 = .ok (.aload_n 0, 1) := by decide +kernel
theorem dX4_settle_116 : decode cX4_settle 116 = .ok (.getfield 76, 3) := by decide +kernel
theorem dX4_settle_119 : decode cX4_settle 119 = .ok (.bipush 40, 2) := by decide +kernel
theorem dX4_settle_121 : decode cX4_settle 121 = .ok (.iload_n 1, 1) := by decide +kernel
theorem dX4_settle_122 : decode cX4_settle 122 = .ok (.imul, 1) := by decide +kernel
theorem dX4_settle_123 : decode cX4_settle 123 = .ok (.iload 6, 2) := by decide +kernel
theorem dX4_settle_125 : decode cX4_settle 125 = .ok (.iadd, 1) := by decide +kernel
theorem dX4_settle_126 : decode cX4_settle 126 = .ok (.iconst 0, 1) := by decide +kernel
theorem dX4_settle_127 : decode cX4_settle 127 = .ok (.iastore, 1) := by decide +kernel
theorem dX4_settle_128 : decode cX4_settle 128 = .ok (.aload_n 0, 1) := by decide +kernel
theorem dX4_settle_129 : decode cX4_settle 129 = .ok (.iload 6, 2) := by decide +kernel
theorem dX4_settle_131 : decode cX4_settle 131 = .ok (.iload_n 3, 1) := by decide +kernel
theorem dX4_settle_132 : decode cX4_settle 132 = .ok (.invokevirtual 210, 3) := by decide +kernel
theorem dX4_settle_135 : decode cX4_settle 135 = .ok (.ifCond .eq 11, 3) := by decide +kernel
theorem dX4_settle_138 : decode cX4_settle 138 = .ok (.aload_n 0, 1) := by decide +kernel
theorem dX4_settle_139 : decode cX4_settle 139 = .ok (.iload 6, 2) := by decide +kernel
theorem dX4_settle_141 : decode cX4_settle 141 = .ok (.iload_n 1, 1) := by decide +kernel
theorem dX4_settle_142 : decode cX4_settle 142 = .ok (.invokevirtual 185, 3) := by decide +kernel
theorem dX4_settle_145 : decode cX4_settle 145 = .ok (.pop, 1) := by decide +kernel
theorem dX4_settle_146 : decode cX4_settle 146 = .ok (.iinc 6 1, 3) := by decide +kernel
theorem dX4_settle_149 : decode cX4_settle 149 = .ok (.goto (-41), 3) := by decide +kernel
theorem dX4_settle_152 : decode cX4_settle 152 = .ok (.iload 4, 2) := by decide +kernel
theorem dX4_settle_154 : decode cX4_settle 154 = .ok (.ireturn, 1) := by decide +kernel
theorem dX4_thing_0 : decode cX4_thing 0 = .ok (.aload_n 0, 1) := by decide +kernel
theorem dX4_thing_1 : decode cX4_thing 1 = .ok (.iload_n 1, 1) := by decide +kernel
theorem dX4_thing_2 : decode cX4_thing 2 = .ok (.iconst 1, 1) := by decide +kernel
theorem dX4_thing_3 : decode cX4_thing 3 = .ok (.ldc 117, 2) := by decide +kernel
theorem dX4_thing_5 : decode cX4_thing 5 = .ok (.invokestatic 103, 3) := by decide +kernel
theorem dX4_thing_8 : decode cX4_thing 8 = .ok (.ifCond .ne 7, 3) := by decide +kernel
theorem dX4_thing_11 : decode cX4_thing 11 = .ok (.iconst 1, 1) := by decide +kernel
theorem dX4_thing_12 : decode cX4_thing 12 = .ok (.goto 17, 3) := by decide +kernel
theorem dX4_thing_15 : decode cX4_thing 15 = .ok (.aload_n 0, 1) := by decide +kernel
theorem dX4_thing_16 : decode cX4_thing 16 = .ok (.getfield 213, 3) := by decide +kernel
theorem dX4_thing_19 : decode cX4_thing 19 = .ok (.bipush 10, 2) := by decide +kernel
theorem dX4_thing_21 : decode cX4_thing 21 = .ok (.if_icmp .ne 7, 3) := by decide +kernel
theorem dX4_thing_24 : decode cX4_thing 24 = .ok (.iconst 2, 1) := by decide +kernel
theorem dX4_thing_25 : decode cX4_thing 25 = .ok (.goto 4, 3) := by decide +kernel
theorem dX4_thing_28 : decode cX4_thing 28 = .ok (.iconst 0, 1) := by decide +kernel
theorem dX4_thing_29 : decode cX4_thing 29 = .ok (.invokevirtual 118, 3) := by decide +kernel
theorem dX4_thing_32 : decode cX4_thing 32 = .ok (.ifCond .ne 5, 3) := by decide +kernel
theorem dX4_thing_35 : decode cX4_thing 35 = .ok (.iconst 0, 1) := by decide +kernel
theorem dX4_thing_36 : decode cX4_thing 36 = .ok (.ireturn, 1) := by decide +kernel
theorem dX4_thing_37 : decode cX4_thing 37 = .ok (.aload_n 0, 1) := by decide +kernel
theorem dX4_thing_38 : decode cX4_thing 38 = .ok (.getfield 88, 3) := by decide +kernel
theorem dX4_thing_41 : decode cX4_thing 41 = .ok (.aload_n 0, 1) := by decide +kernel
theorem dX4_thing_42 : decode cX4_thing 42 = .ok (.getfield 213, 3) := by decide +kernel
theorem dX4_thing_45 : decode cX4_thing 45 = .ok (.iload_n 1, 1) := by decide +kernel
theorem dX4_thing_46 : decode cX4_thing 46 = .ok (.iastore, 1) := by decide +kernel
theorem dX4_thing_47 : decode cX4_thing 47 = .ok (.aload_n 0, 1) := by decide +kernel
theorem dX4_thing_48 : decode cX4_thing 48 = .ok (.dup, 1) := by decide +kernel
theorem dX4_thing_49 : decode cX4_thing 49 = .ok (.getfield 213, 3) := by decide +kernel
theorem dX4_thing_52 : decode cX4_thing 52 = .ok (.iconst 1, 1) := by decide +kernel
theorem dX4_thing_53 : decode cX4_thing 53 = .ok (.iadd, 1) := by decide +kernel
theorem dX4_thing_54 : decode cX4_thing 54 = .ok (.putfield 213, 3) := by decide +kernel
theorem dX4_thing_57 : decode cX4_thing 57 = .ok (.aload_n 0, 1) := by decide +kernel
theorem dX4_thing_58 : decode cX4_thing 58 = .ok (.getfield 213, 3) := by decide +kernel
theorem dX4_thing_61 : decode cX4_thing 61 = .ok (.iconst 1, 1) := by decide +kernel
theorem dX4_thing_62 : decode cX4_thing 62 = .ok (.isub, 1) := by decide +kernel
theorem dX4_thing_63 : decode cX4_thing 63 = .ok (.ireturn, 1) := by decide +kernel
theorem dX4_sue_0 : decode cX4_sue 0 = .ok (.aload_n 0, 1) := by decide +kernel
theorem dX4_sue_1 : decode cX4_sue 1 = .ok (.iload_n 1, 1) := by decide +kernel
theorem dX4_sue_2 : decode cX4_sue 2 = .ok (.invokevirtual 125, 3) := by decide +kernel
theorem dX4_sue_5 : decode cX4_sue 5 = .ok (.istore_n 2, 1) := by decide +kernel
theorem dX4_sue_6 : decode cX4_sue 6 = .ok (.aload_n 0, 1) := by decide +kernel
theorem dX4_sue_7 : decode cX4_sue 7 = .ok (.iload_n 2, 1) := by decide +kernel
theorem dX4_sue_8 : decode cX4_sue 8 = .ok (.ifCond .ne 7, 3) := by decide +kernel
theorem dX4_sue_11 : decode cX4_sue 11 = .ok (.iconst 1, 1) := by decide +kernel
theorem dX4_sue_12 : decode cX4_sue 12 = .ok (.goto 37, 3) := by decide +kernel
theorem dX4_sue_15 : decode cX4_sue 15 = .ok (.aload_n 0, 1) := by decide +kernel
theorem dX4_sue_16 : decode cX4_sue 16 = .ok (.getfield 46, 3) := by decide +kernel
theorem dX4_sue_19 : decode cX4_sue 19 = .ok (.iload_n 1, 1) := by decide +kernel
theorem dX4_sue_20 : decode cX4_sue 20 = .ok (.iaload, 1) := by decide +kernel
theorem dX4_sue_21 : decode cX4_sue 21 = .ok (.ifCond .ne 27, 3) := by decide +kernel
theorem dX4_sue_24 : decode cX4_sue 24 = .ok (.aload_n 0, 1) := by decide +kernel
theorem dX4_sue_25 : decode cX4_sue 25 = .ok (.getfield 49, 3) := by decide +kernel
theorem dX4_sue_28 : decode cX4_sue 28 = .ok (.iload_n 1, 1) := by decide +kernel
theorem dX4_sue_29 : decode cX4_sue 29 = .ok (.laload, 1) := by decide +kernel
theorem dX4_sue_30 : decode cX4_sue 30 = .ok (.lconst 0, 1) := by decide +kernel
theorem dX4_sue_31 : decode cX4_sue 31 = .ok (.lcmp, 1) := by decide +kernel
theorem dX4_sue_32 : decode cX4_sue 32 = .ok (.ifCond .le 16, 3) := by decide +kernel
theorem dX4_sue_35 : decode cX4_sue 35 = .ok (.aload_n 0, 1) := by decide +kernel
theorem dX4_sue_36 : decode cX4_sue 36 = .ok (.getfield 58, 3) := by decide +kernel
theorem dX4_sue_39 : decode cX4_sue 39 = .ok (.iload_n 1, 1) := by decide +kernel
theorem dX4_sue_40 : decode cX4_sue 40 = .ok (.iaload, 1) := by decide +kernel
theorem dX4_sue_41 : decode cX4_sue 41 = .ok (.ifCond .ne 7, 3) := by decide +kernel
theorem dX4_sue_44 : decode cX4_sue 44 = .ok (.iconst 0, 1) := by decide +kernel
theorem dX4_sue_45 : decode cX4_sue 45 = .ok (.goto 4, 3) := by decide +kernel
theorem dX4_sue_48 : decode cX4_sue 48 = .ok (.iconst 2, 1) := by decide +kernel
theorem dX4_sue_49 : decode cX4_sue 49 = .ok (.invokevirtual 118, 3) := by decide +kernel
theorem dX4_sue_52 : decode cX4_sue 52 = .ok (.ifCond .eq 10, 3) := by decide +kernel
theorem dX4_sue_55 : decode cX4_sue 55 = .ok (.aload_n 0, 1) := by decide +kernel
theorem dX4_sue_56 : decode cX4_sue 56 = .ok (.getfield 58, 3) := by decide +kernel
theorem dX4_sue_59 : decode cX4_sue 59 = .ok (.iload_n 1, 1) := by decide +kernel
theorem dX4_sue_60 : decode cX4_sue 60 = .ok (.iconst 1, 1) := by decide +kernel
theorem dX4_sue_61 : decode cX4_sue 61 = .ok (.iastore, 1) := by decide +kernel
theorem dX4_sue_62 : decode cX4_sue 62 = .ok (.return_, 1) := by decide +kernel
theorem dX4_seize_0 : decode cX4_seize 0 = .ok (.aload_n 0, 1) := by decide +kernel
theorem dX4_seize_1 : decode cX4_seize 1 = .ok (.iload_n 1, 1) := by decide +kernel
theorem dX4_seize_2 : decode cX4_seize 2 = .ok (.invokevirtual 125, 3) := by decide +kernel
theorem dX4_seize_5 : decode cX4_seize 5 = .ok (.ifCond .eq 21, 3) := by decide +kernel
theorem dX4_seize_8 : decode cX4_seize 8 = .ok (.iload_n 2, 1) := by decide +kernel
theorem dX4_seize_9 : decode cX4_seize 9 = .ok (.iconst 0, 1) := by decide +kernel
theorem dX4_seize_10 : decode cX4_seize 10 = .ok (.aload_n 0, 1) := by decide +kernel
theorem dX4_seize_11 : decode cX4_seize 11 = .ok (.getfield 213, 3) := by decide +kernel
theorem dX4_seize_14 : decode cX4_seize 14 = .ok (.iconst 1, 1) := by decide +kernel
theorem dX4_seize_15 : decode cX4_seize 15 = .ok (.isub, 1) := by decide +kernel
theorem dX4_seize_16 : decode cX4_seize 16 = .ok (.invokestatic 103, 3) := by decide +kernel
theorem dX4_seize_19 : decode cX4_seize 19 = .ok (.ifCond .eq 7, 3) := by decide +kernel
theorem dX4_seize_22 : decode cX4_seize 22 = .ok (.iconst 1, 1) := by decide +kernel
theorem dX4_seize_23 : decode cX4_seize 23 = .ok (.goto 4, 3) := by decide +kernel
theorem dX4_seize_26 : decode cX4_seize 26 = .ok (.iconst 0, 1) := by decide +kernel
theorem dX4_seize_27 : decode cX4_seize 27 = .ok (.istore_n 3, 1) := by decide +kernel
theorem dX4_seize_28 : decode cX4_seize 28 = .ok (.aload_n 0, 1) := by decide +kernel
theorem dX4_seize_29 : decode cX4_seize 29 = .ok (.iload_n 3, 1) := by decide +kernel
theorem dX4_seize_30 : decode cX4_seize 30 = .ok (.ifCond .ne 7, 3) := by decide +kernel
theorem dX4_seize_33 : decode cX4_seize 33 = .ok (.iconst 1, 1) := by decide +kernel
theorem dX4_seize_34 : decode cX4_seize 34 = .ok (.goto 36, 3) := by decide +kernel
theorem dX4_seize_37 : decode cX4_seize 37 = .ok (.aload_n 0, 1) := by decide +kernel
theorem dX4_seize_38 : decode cX4_seize 38 = .ok (.getfield 46, 3) := by decide +kernel
theorem dX4_seize_41 : decode cX4_seize 41 = .ok (.iload_n 1, 1) := by decide +kernel
theorem dX4_seize_42 : decode cX4_seize 42 = .ok (.iaload, 1) := by decide +kernel
theorem dX4_seize_43 : decode cX4_seize 43 = .ok (.ifCond .ne 26, 3) := by decide +kernel
theorem dX4_seize_46 : decode cX4_seize 46 = .ok (.aload_n 0, 1) := by decide +kernel
theorem dX4_seize_47 : decode cX4_seize 47 = .ok (.getfield 58, 3) := by decide +kernel
theorem dX4_seize_50 : decode cX4_seize 50 = .ok (.iload_n 1, 1) := by decide +kernel
theorem dX4_seize_51 : decode cX4_seize 51 = .ok (.iaload, 1) := by decide +kernel
theorem dX4_seize_52 : decode cX4_seize 52 = .ok (.iconst 2, 1) := by decide +kernel
theorem dX4_seize_53 : decode cX4_seize 53 = .ok (.if_icmp .ne 16, 3) := by decide +kernel
theorem dX4_seize_56 : decode cX4_seize 56 = .ok (.aload_n 0, 1) := by decide +kernel
theorem dX4_seize_57 : decode cX4_seize 57 = .ok (.getfield 91, 3) := by decide +kernel
theorem dX4_seize_60 : decode cX4_seize 60 = .ok (.iload_n 2, 1) := by decide +kernel
theorem dX4_seize_61 : decode cX4_seize 61 = .ok (.baload, 1) := by decide +kernel
theorem dX4_seize_62 : decode cX4_seize 62 = .ok (.ifCond .ne 7, 3) := by decide +kernel
theorem dX4_seize_65 : decode cX4_seize 65 = .ok (.iconst 0, 1) := by decide +kernel
theorem dX4_seize_66 : decode cX4_seize 66 = .ok (.goto 4, 3) := by decide +kernel
theorem dX4_seize_69 : decode cX4_seize 69 = .ok (.iconst 2, 1) := by decide +kernel
theorem dX4_seize_70 : decode cX4_seize 70 = .ok (.invokevirtual 118, 3) := by decide +kernel
theorem dX4_seize_73 : decode cX4_seize 73 = .ok (.ifCond .ne 5, 3) := by decide +kernel
theorem dX4_seize_76 : decode cX4_seize 76 = .ok (.lconst 0, 1) := by decide +kernel
theorem dX4_seize_77 : decode cX4_seize 77 = .ok (.lreturn, 1) := by decide +kernel
theorem dX4_seize_78 : decode cX4_seize 78 = .ok (.aload_n 0, 1) := by decide +kernel
theorem dX4_seize_79 : decode cX4_seize 79 = .ok (.getfield 91, 3) := by decide +kernel
theorem dX4_seize_82 : decode cX4_seize 82 = .ok (.iload_n 2, 1) := by decide +kernel
theorem dX4_seize_83 : decode cX4_seize 83 = .ok (.iconst 1, 1) := by decide +kernel
theorem dX4_seize_84 : decode cX4_seize 84 = .ok (.bastore, 1) := by decide +kernel
theorem dX4_seize_85 : decode cX4_seize 85 = .ok (.aload_n 0, 1) := by decide +kernel
theorem dX4_seize_86 : decode cX4_seize 86 = .ok (.getfield 88, 3) := by decide +kernel
theorem dX4_seize_89 : decode cX4_seize 89 = .ok (.iload_n 2, 1) := by decide +kernel
theorem dX4_seize_90 : decode cX4_seize 90 = .ok (.iaload, 1) := by decide +kernel
theorem dX4_seize_91 : decode cX4_seize 91 = .ok (.i2l, 1) := by decide +kernel
theorem dX4_seize_92 : decode cX4_seize 92 = .ok (.aload_n 0, 1) := by decide +kernel
theorem dX4_seize_93 : decode cX4_seize 93 = .ok (.getfield 49, 3) := by decide +kernel
theorem dX4_seize_96 : decode cX4_seize 96 = .ok (.iload_n 1, 1) := by decide +kernel
theorem dX4_seize_97 : decode cX4_seize 97 = .ok (.laload, 1) := by decide +kernel
theorem dX4_seize_98 : decode cX4_seize 98 = .ok (.lcmp, 1) := by decide +kernel
theorem dX4_seize_99 : decode cX4_seize 99 = .ok (.ifCond .ge 13, 3) := by decide +kernel
theorem dX4_seize_102 : decode cX4_seize 102 = .ok (.aload_n 0, 1) := by decide +kernel
theorem dX4_seize_103 : decode cX4_seize 103 = .ok (.getfield 88, 3) := by decide +kernel
theorem dX4_seize_106 : decode cX4_seize 106 = .ok (.iload_n 2, 1) := by decide +kernel
theorem dX4_seize_107 : decode cX4_seize 107 = .ok (.iaload, 1) := by decide +kernel
theorem dX4_seize_108 : decode cX4_seize 108 = .ok (.i2l, 1) := by decide +kernel
theorem dX4_seize_109 : decode cX4_seize 109 = .ok (.goto 9, 3) := by decide +kernel
theorem dX4_seize_112 : decode cX4_seize 112 = .ok (.aload_n 0, 1) := by decide +kernel
theorem dX4_seize_113 : decode cX4_seize 113 = .ok (.getfield 49, 3) := by decide +kernel
theorem dX4_seize_116 : decode cX4_seize 116 = .ok (.iload_n 1, 1) := by decide +kernel
theorem dX4_seize_117 : decode cX4_seize 117 = .ok (.laload, 1) := by decide +kernel
theorem dX4_seize_118 : decode cX4_seize 118 = .ok (.lstore 4, 2) := by decide +kernel
theorem dX4_seize_120 : decode cX4_seize 120 = .ok (.aload_n 0, 1) := by decide +kernel
theorem dX4_seize_121 : decode cX4_seize 121 = .ok (.getfield 88, 3) := by decide +kernel
theorem dX4_seize_124 : decode cX4_seize 124 = .ok (.iload_n 2, 1) := by decide +kernel
theorem dX4_seize_125 : decode cX4_seize 125 = .ok (.iaload, 1) := by decide +kernel
theorem dX4_seize_126 : decode cX4_seize 126 = .ok (.i2l, 1) := by decide +kernel
theorem dX4_seize_127 : decode cX4_seize 127 = .ok (.lload 4, 2) := by decide +kernel
theorem dX4_seize_129 : decode cX4_seize 129 = .ok (.lsub, 1) := by decide +kernel
theorem dX4_seize_130 : decode cX4_seize 130 = .ok (.lstore 6, 2) := by decide +kernel
theorem dX4_seize_132 : decode cX4_seize 132 = .ok (.lload 6, 2) := by decide +kernel
theorem dX4_seize_134 : decode cX4_seize 134 = .ok (.aload_n 0, 1) := by decide +kernel
theorem dX4_seize_135 : decode cX4_seize 135 = .ok (.getfield 26, 3) := by decide +kernel
theorem dX4_seize_138 : decode cX4_seize 138 = .ok (.iload_n 1, 1) := by decide +kernel
theorem dX4_seize_139 : decode cX4_seize 139 = .ok (.laload, 1) := by decide +kernel
theorem dX4_seize_140 : decode cX4_seize 140 = .ok (.lcmp, 1) := by decide +kernel
theorem dX4_seize_141 : decode cX4_seize 141 = .ok (.ifCond .ge 8, 3) := by decide +kernel
theorem dX4_seize_144 : decode cX4_seize 144 = .ok (.lload 6, 2) := by decide +kernel
theorem dX4_seize_146 : decode cX4_seize 146 = .ok (.goto 9, 3) := by decide +kernel
theorem dX4_seize_149 : decode cX4_seize 149 = .ok (.aload_n 0, 1) := by decide +kernel
theorem dX4_seize_150 : decode cX4_seize 150 = .ok (.getfield 26, 3) := by decide +kernel
theorem dX4_seize_153 : decode cX4_seize 153 = .ok (.iload_n 1, 1) := by decide +kernel
theorem dX4_seize_154 : decode cX4_seize 154 = .ok (.laload, 1) := by decide +kernel
theorem dX4_seize_155 : decode cX4_seize 155 = .ok (.lstore 8, 2) := by decide +kernel
theorem dX4_seize_157 : decode cX4_seize 157 = .ok (.aload_n 0, 1) := by decide +kernel
theorem dX4_seize_158 : decode cX4_seize 158 = .ok (.getfield 49, 3) := by decide +kernel
theorem dX4_seize_161 : decode cX4_seize 161 = .ok (.iload_n 1, 1) := by decide +kernel
theorem dX4_seize_162 : decode cX4_seize 162 = .ok (.dup2, 1) := by decide +kernel
theorem dX4_seize_163 : decode cX4_seize 163 = .ok (.laload, 1) := by decide +kernel
theorem dX4_seize_164 : decode cX4_seize 164 = .ok (.lload 4, 2) := by decide +kernel
theorem dX4_seize_166 : decode cX4_seize 166 = .ok (.lsub, 1) := by decide +kernel
theorem dX4_seize_167 : decode cX4_seize 167 = .ok (.lastore, 1) := by decide +kernel
theorem dX4_seize_168 : decode cX4_seize 168 = .ok (.aload_n 0, 1) := by decide +kernel
theorem dX4_seize_169 : decode cX4_seize 169 = .ok (.getfield 26, 3) := by decide +kernel
theorem dX4_seize_172 : decode cX4_seize 172 = .ok (.iload_n 1, 1) := by decide +kernel
theorem dX4_seize_173 : decode cX4_seize 173 = .ok (.dup2, 1) := by decide +kernel
theorem dX4_seize_174 : decode cX4_seize 174 = .ok (.laload, 1) := by decide +kernel
theorem dX4_seize_175 : decode cX4_seize 175 = .ok (.lload 8, 2) := by decide +kernel
theorem dX4_seize_177 : decode cX4_seize 177 = .ok (.lsub, 1) := by decide +kernel
theorem dX4_seize_178 : decode cX4_seize 178 = .ok (.lastore, 1) := by decide +kernel
theorem dX4_seize_179 : decode cX4_seize 179 = .ok (.aload_n 0, 1) := by decide +kernel
theorem dX4_seize_180 : decode cX4_seize 180 = .ok (.getfield 55, 3) := by decide +kernel
theorem dX4_seize_183 : decode cX4_seize 183 = .ok (.iload_n 1, 1) := by decide +kernel
theorem dX4_seize_184 : decode cX4_seize 184 = .ok (.dup2, 1) := by decide +kernel
theorem dX4_seize_185 : decode cX4_seize 185 = .ok (.laload, 1) := by decide +kernel
theorem dX4_seize_186 : decode cX4_seize 186 = .ok (.lload 4, 2) := by decide +kernel
theorem dX4_seize_188 : decode cX4_seize 188 = .ok (.lload 8, 2) := by decide +kernel
theorem dX4_seize_190 : decode cX4_seize 190 = .ok (.ladd, 1) := by decide +kernel
theorem dX4_seize_191 : decode cX4_seize 191 = .ok (.ladd, 1) := by decide +kernel
theorem dX4_seize_192 : decode cX4_seize 192 = .ok (.lastore, 1) := by decide +kernel
theorem dX4_seize_193 : decode cX4_seize 193 = .ok (.aload_n 0, 1) := by decide +kernel
theorem dX4_seize_194 : decode cX4_seize 194 = .ok (.dup, 1) := by decide +kernel
theorem dX4_seize_195 : decode cX4_seize 195 = .ok (.getfield 128, 3) := by decide +kernel
theorem dX4_seize_198 : decode cX4_seize 198 = .ok (.lload 6, 2) := by decide +kernel
theorem dX4_seize_200 : decode cX4_seize 200 = .ok (.lload 8, 2) := by decide +kernel
theorem dX4_seize_202 : decode cX4_seize 202 = .ok (.lsub, 1) := by decide +kernel
theorem dX4_seize_203 : decode cX4_seize 203 = .ok (.ladd, 1) := by decide +kernel
theorem dX4_seize_204 : decode cX4_seize 204 = .ok (.putfield 128, 3) := by decide +kernel
theorem dX4_seize_207 : decode cX4_seize 207 = .ok (.aload_n 0, 1) := by decide +kernel
theorem dX4_seize_208 : decode cX4_seize 208 = .ok (.iload_n 1, 1) := by decide +kernel
theorem dX4_seize_209 : decode cX4_seize 209 = .ok (.invokevirtual 131, 3) := by decide +kernel
theorem dX4_seize_212 : decode cX4_seize 212 = .ok (.lconst 0, 1) := by decide +kernel
theorem dX4_seize_213 : decode cX4_seize 213 = .ok (.lcmp, 1) := by decide +kernel
theorem dX4_seize_214 : decode cX4_seize 214 = .ok (.ifCond .ne 8, 3) := by decide +kernel
theorem dX4_seize_217 : decode cX4_seize 217 = .ok (.aload_n 0, 1) := by decide +kernel
theorem dX4_seize_218 : decode cX4_seize 218 = .ok (.iload_n 1, 1) := by decide +kernel
theorem dX4_seize_219 : decode cX4_seize 219 = .ok (.invokevirtual 154, 3) := by decide +kernel
theorem dX4_seize_222 : decode cX4_seize 222 = .ok (.lload 4, 2) := by decide +kernel
theorem dX4_seize_224 : decode cX4_seize 224 = .ok (.lload 8, 2) := by decide +kernel
theorem dX4_seize_226 : decode cX4_seize 226 = .ok (.ladd, 1) := by decide +kernel
theorem dX4_seize_227 : decode cX4_seize 227 = .ok (.lreturn, 1) := by decide +kernel
theorem dX4_programme_0 : decode cX4_programme 0 = .ok (.aload_n 0, 1) := by decide +kernel
theorem dX4_programme_1 : decode cX4_programme 1 = .ok (.iload_n 1, 1) := by decide +kernel
theorem dX4_programme_2 : decode cX4_programme 2 = .ok (.iconst 1, 1) := by decide +kernel
theorem dX4_programme_3 : decode cX4_programme 3 = .ok (.ldc 117, 2) := by decide +kernel
theorem dX4_programme_5 : decode cX4_programme 5 = .ok (.invokestatic 103, 3) := by decide +kernel
theorem dX4_programme_8 : decode cX4_programme 8 = .ok (.ifCond .eq 30, 3) := by decide +kernel
theorem dX4_programme_11 : decode cX4_programme 11 = .ok (.iload_n 2, 1) := by decide +kernel
theorem dX4_programme_12 : decode cX4_programme 12 = .ok (.sipush (-200), 3) := by decide +kernel
theorem dX4_programme_15 : decode cX4_programme 15 = .ok (.sipush 200, 3) := by decide +kernel
theorem dX4_programme_18 : decode cX4_programme 18 = .ok (.invokestatic 103, 3) := by decide +kernel
theorem dX4_programme_21 : decode cX4_programme 21 = .ok (.ifCond .eq 17, 3) := by decide +kernel
theorem dX4_programme_24 : decode cX4_programme 24 = .ok (.iload_n 3, 1) := by decide +kernel
theorem dX4_programme_25 : decode cX4_programme 25 = .ok (.iconst 1, 1) := by decide +kernel
theorem dX4_programme_26 : decode cX4_programme 26 = .ok (.bipush 10, 2) := by decide +kernel
theorem dX4_programme_28 : decode cX4_programme 28 = .ok (.invokestatic 103, 3) := by decide +kernel
theorem dX4_programme_31 : decode cX4_programme 31 = .ok (.ifCond .eq 7, 3) := by decide +kernel
theorem dX4_programme_34 : decode cX4_programme 34 = .ok (.iconst 0, 1) := by decide +kernel
theorem dX4_programme_35 : decode cX4_programme 35 = .ok (.goto 4, 3) := by decide +kernel
theorem dX4_programme_38 : decode cX4_programme 38 = .ok (.iconst 1, 1) := by decide +kernel
theorem dX4_programme_39 : decode cX4_programme 39 = .ok (.invokevirtual 118, 3) := by decide +kernel
theorem dX4_programme_42 : decode cX4_programme 42 = .ok (.ifCond .eq 18, 3) := by decide +kernel
theorem dX4_programme_45 : decode cX4_programme 45 = .ok (.aload_n 0, 1) := by decide +kernel
theorem dX4_programme_46 : decode cX4_programme 46 = .ok (.iload_n 1, 1) := by decide +kernel
theorem dX4_programme_47 : decode cX4_programme 47 = .ok (.putfield 216, 3) := by decide +kernel
theorem dX4_programme_50 : decode cX4_programme 50 = .ok (.aload_n 0, 1) := by decide +kernel
theorem dX4_programme_51 : decode cX4_programme 51 = .ok (.iload_n 2, 1) := by decide +kernel
theorem dX4_programme_52 : decode cX4_programme 52 = .ok (.putfield 219, 3) := by decide +kernel
theorem dX4_programme_55 : decode cX4_programme 55 = .ok (.aload_n 0, 1) := by decide +kernel
theorem dX4_programme_56 : decode cX4_programme 56 = .ok (.iload_n 3, 1) := by decide +kernel
theorem dX4_programme_57 : decode cX4_programme 57 = .ok (.putfield 222, 3) := by decide +kernel
theorem dX4_programme_60 : decode cX4_programme 60 = .ok (.return_, 1) := by decide +kernel
theorem dX4_assure_0 : decode cX4_assure 0 = .ok (.aload_n 0, 1) := by decide +kernel
theorem dX4_assure_1 : decode cX4_assure 1 = .ok (.iload_n 1, 1) := by decide +kernel
theorem dX4_assure_2 : decode cX4_assure 2 = .ok (.iconst 0, 1) := by decide +kernel
theorem dX4_assure_3 : decode cX4_assure 3 = .ok (.bipush 7, 2) := by decide +kernel
theorem dX4_assure_5 : decode cX4_assure 5 = .ok (.invokestatic 103, 3) := by decide +kernel
theorem dX4_assure_8 : decode cX4_assure 8 = .ok (.ifCond .eq 7, 3) := by decide +kernel
theorem dX4_assure_11 : decode cX4_assure 11 = .ok (.iconst 0, 1) := by decide +kernel
theorem dX4_assure_12 : decode cX4_assure 12 = .ok (.goto 4, 3) := by decide +kernel
theorem dX4_assure_15 : decode cX4_assure 15 = .ok (.iconst 1, 1) := by decide +kernel
theorem dX4_assure_16 : decode cX4_assure 16 = .ok (.invokevirtual 118, 3) := by decide +kernel
theorem dX4_assure_19 : decode cX4_assure 19 = .ok (.ifCond .ne 5, 3) := by decide +kernel
theorem dX4_assure_22 : decode cX4_assure 22 = .ok (.iconst 0, 1) := by decide +kernel
theorem dX4_assure_23 : decode cX4_assure 23 = .ok (.ireturn, 1) := by decide +kernel
theorem dX4_assure_24 : decode cX4_assure 24 = .ok (.aload_n 0, 1) := by decide +kernel
theorem dX4_assure_25 : decode cX4_assure 25 = .ok (.getfield 94, 3) := by decide +kernel
theorem dX4_assure_28 : decode cX4_assure 28 = .ok (.iload_n 1, 1) := by decide +kernel
theorem dX4_assure_29 : decode cX4_assure 29 = .ok (.baload, 1) := by decide +kernel
theorem dX4_assure_30 : decode cX4_assure 30 = .ok (.iload_n 2, 1) := by decide +kernel
theorem dX4_assure_31 : decode cX4_assure 31 = .ok (.if_icmp .eq 7, 3) := by decide +kernel
theorem dX4_assure_34 : decode cX4_assure 34 = .ok (.iconst 1, 1) := by decide +kernel
theorem dX4_assure_35 : decode cX4_assure 35 = .ok (.goto 4, 3) := by decide +kernel
theorem dX4_assure_38 : decode cX4_assure 38 = .ok (.iconst 0, 1) := by decide +kernel
theorem dX4_assure_39 : decode cX4_assure 39 = .ok (.istore_n 3, 1) := by decide +kernel
theorem dX4_assure_40 : decode cX4_assure 40 = .ok (.aload_n 0, 1) := by decide +kernel
theorem dX4_assure_41 : decode cX4_assure 41 = .ok (.getfield 94, 3) := by decide +kernel
theorem dX4_assure_44 : decode cX4_assure 44 = .ok (.iload_n 1, 1) := by decide +kernel
theorem dX4_assure_45 : decode cX4_assure 45 = .ok (.iload_n 2, 1) := by decide +kernel
theorem dX4_assure_46 : decode cX4_assure 46 = .ok (.bastore, 1) := by decide +kernel
theorem dX4_assure_47 : decode cX4_assure 47 = .ok (.iload_n 3, 1) := by decide +kernel
theorem dX4_assure_48 : decode cX4_assure 48 = .ok (.ireturn, 1) := by decide +kernel
theorem dX4_failing_0 : decode cX4_failing 0 = .ok (.iconst 0, 1) := by decide +kernel
theorem dX4_failing_1 : decode cX4_failing 1 = .ok (.istore_n 1, 1) := by decide +kernel
theorem dX4_failing_2 : decode cX4_failing 2 = .ok (.lconst 0, 1) := by decide +kernel
theorem dX4_failing_3 : decode cX4_failing 3 = .ok (.lstore_n 2, 1) := by decide +kernel
theorem dX4_failing_4 : decode cX4_failing 4 = .ok (.lconst 0, 1) := by decide +kernel
theorem dX4_failing_5 : decode cX4_failing 5 = .ok (.lstore 4, 2) := by decide +kernel
theorem dX4_failing_7 : decode cX4_failing 7 = .ok (.iconst 0, 1) := by decide +kernel
theorem dX4_failing_8 : decode cX4_failing 8 = .ok (.istore 6, 2) := by decide +kernel
theorem dX4_failing_10 : decode cX4_failing 10 = .ok (.iload 6, 2) := by decide +kernel
theorem dX4_failing_12 : decode cX4_failing 12 = .ok (.aload_n 0, 1) := by decide +kernel
theorem dX4_failing_13 : decode cX4_failing 13 = .ok (.getfield 100, 3) := by decide +kernel
theorem dX4_failing_16 : decode cX4_failing 16 = .ok (.if_icmp .ge 132, 3) := by decide +kernel
theorem dX4_failing_19 : decode cX4_failing 19 = .ok (.iload_n 1, 1) := by decide +kernel
theorem dX4_failing_20 : decode cX4_failing 20 = .ok (.ifCond .ne 36, 3) := by decide +kernel
theorem dX4_failing_23 : decode cX4_failing 23 = .ok (.aload_n 0, 1) := by decide +kernel
theorem dX4_failing_24 : decode cX4_failing 24 = .ok (.getfield 46, 3) := by decide +kernel
theorem dX4_failing_27 : decode cX4_failing 27 = .ok (.iload 6, 2) := by decide +kernel
theorem dX4_failing_29 : decode cX4_failing 29 = .ok (.iaload, 1) := by decide +kernel
theorem dX4_failing_30 : decode cX4_failing 30 = .ok (.ifCond .ne 30, 3) := by decide +kernel
theorem dX4_failing_33 : decode cX4_failing 33 = .ok (.aload_n 0, 1) := by decide +kernel
theorem dX4_failing_34 : decode cX4_failing 34 = .ok (.getfield 19, 3) := by decide +kernel
theorem dX4_failing_37 : decode cX4_failing 37 = .ok (.iload 6, 2) := by decide +kernel
theorem dX4_failing_39 : decode cX4_failing 39 = .ok (.iaload, 1) := by decide +kernel
theorem dX4_failing_40 : decode cX4_failing 40 = .ok (.iconst 4, 1) := by decide +kernel
theorem dX4_failing_41 : decode cX4_failing 41 = .ok (.if_icmp .ne 19, 3) := by decide +kernel
theorem dX4_failing_44 : decode cX4_failing 44 = .ok (.aload_n 0, 1) := by decide +kernel
theorem dX4_failing_45 : decode cX4_failing 45 = .ok (.getfield 49, 3) := by decide +kernel
theorem dX4_failing_48 : decode cX4_failing 48 = .ok (.iload 6, 2) := by decide +kernel
theorem dX4_failing_50 : decode cX4_failing 50 = .ok (.laload, 1) := by decide +kernel
theorem dX4_failing_51 : decode cX4_failing 51 = .ok (.lconst 0, 1) := by decide +kernel
theorem dX4_failing_52 : decode cX4_failing 52 = .ok (.lcmp, 1) := by decide +kernel
theorem dX4_failing_53 : decode cX4_failing 53 = .ok (.ifCond .le 7, 3) := by decide +kernel
theorem dX4_failing_56 : decode cX4_failing 56 = .ok (.iconst 1, 1) := by decide +kernel
theorem dX4_failing_57 : decode cX4_failing 57 = .ok (.goto 4, 3) := by decide +kernel
theorem dX4_failing_60 : decode cX4_failing 60 = .ok (.iconst 0, 1) := by decide +kernel
theorem dX4_failing_61 : decode cX4_failing 61 = .ok (.istore_n 1, 1) := by decide +kernel
theorem dX4_failing_62 : decode cX4_failing 62 = .ok (.aload_n 0, 1) := by decide +kernel
theorem dX4_failing_63 : decode cX4_failing 63 = .ok (.getfield 46, 3) := by decide +kernel
theorem dX4_failing_66 : decode cX4_failing 66 = .ok (.iload 6, 2) := by decide +kernel
theorem dX4_failing_68 : decode cX4_failing 68 = .ok (.iaload, 1) := by decide +kernel
theorem dX4_failing_69 : decode cX4_failing 69 = .ok (.ifCond .ne 73, 3) := by decide +kernel
theorem dX4_failing_72 : decode cX4_failing 72 = .ok (.aload_n 0, 1) := by decide +kernel
theorem dX4_failing_73 : decode cX4_failing 73 = .ok (.getfield 19, 3) := by decide +kernel
theorem dX4_failing_76 : decode cX4_failing 76 = .ok (.iload 6, 2) := by decide +kernel
theorem dX4_failing_78 : decode cX4_failing 78 = .ok (.iaload, 1) := by decide +kernel
theorem dX4_failing_79 : decode cX4_failing 79 = .ok (.ifCond .eq 14, 3) := by decide +kernel
theorem dX4_failing_82 : decode cX4_failing 82 = .ok (.aload_n 0, 1) := by decide +kernel
theorem dX4_failing_83 : decode cX4_failing 83 = .ok (.getfield 19, 3) := by decide +kernel
theorem dX4_failing_86 : decode cX4_failing 86 = .ok (.iload 6, 2) := by decide +kernel
theorem dX4_failing_88 : decode cX4_failing 88 = .ok (.iaload, 1) := by decide +kernel
theorem dX4_failing_89 : decode cX4_failing 89 = .ok (.iconst 2, 1) := by decide +kernel
theorem dX4_failing_90 : decode cX4_failing 90 = .ok (.if_icmp .ne 52, 3) := by decide +kernel
theorem dX4_failing_93 : decode cX4_failing 93 = .ok (.aload_n 0, 1) := by decide +kernel
theorem dX4_failing_94 : decode cX4_failing 94 = .ok (.getfield 42, 3) := by decide +kernel
theorem dX4_failing_97 : decode cX4_failing 97 = .ok (.iload 6, 2) := by decide +kernel
theorem dX4_failing_99 : decode cX4_failing 99 = .ok (.baload, 1) := by decide +kernel
theorem dX4_failing_100 : decode cX4_failing 100 = .ok (.ifCond .ne 42, 3) := by decide +kernel
theorem dX4_failing_103 : decode cX4_failing 103 = .ok (.lload_n 2, 1) := by decide +kernel
theorem dX4_failing_104 : decode cX4_failing 104 = .ok (.aload_n 0, 1) := by decide +kernel
theorem dX4_failing_105 : decode cX4_failing 105 = .ok (.iload 6, 2) := by decide +kernel
theorem dX4_failing_107 : decode cX4_failing 107 = .ok (.invokevirtual 131, 3) := by decide +kernel
theorem dX4_failing_110 : decode cX4_failing 110 = .ok (.ladd, 1) := by decide +kernel
theorem dX4_failing_111 : decode cX4_failing 111 = .ok (.lstore_n 2, 1) := by decide +kernel
theorem dX4_failing_112 : decode cX4_failing 112 = .ok (.lload 4, 2) := by decide +kernel
theorem dX4_failing_114 : decode cX4_failing 114 = .ok (.aload_n 0, 1) := by decide +kernel
theorem dX4_failing_115 : decode cX4_failing 115 = .ok (.getfield 94, 3) := by decide +kernel
theorem dX4_failing_118 : decode cX4_failing 118 = .ok (.aload_n 0, 1) := by decide +kernel
theorem dX4_failing_119 : decode cX4_failing 119 = .ok (.getfield 23, 3) := by decide +kernel
theorem dX4_failing_122 : decode cX4_failing 122 = .ok (.iload 6, 2) := by decide +kernel
theorem dX4_failing_124 : decode cX4_failing 124 = .ok (.iaload, 1) := by decide +kernel
theorem dX4_failing_125 : decode cX4_failing 125 = .ok (.baload, 1) := by decide +kernel
theorem dX4_failing_126 : decode cX4_failing 126 = .ok (.ifCond .eq 12, 3) := by decide +kernel
theorem dX4_failing_129 : decode cX4_failing 129 = .ok (.aload_n 0, 1) := by decide +kernel
theorem dX4_failing_130 : decode cX4_failing 130 = .ok (.iload 6, 2) := by decide +kernel
theorem dX4_failing_132 : decode cX4_failing 132 = .ok (.invokevirtual 131, 3) := by decide +kernel
theorem dX4_failing_135 : decode cX4_failing 135 = .ok (.goto 4, 3) := by decide +kernel
theorem dX4_failing_138 : decode cX4_failing 138 = .ok (.lconst 0, 1) := by decide +kernel
theorem dX4_failing_139 : decode cX4_failing 139 = .ok (.ladd, 1) := by decide +kernel
theorem dX4_failing_140 : decode cX4_failing 140 = .ok (.lstore 4, 2) := by decide +kernel
theorem dX4_failing_142 : decode cX4_failing 142 = .ok (.iinc 6 1, 3) := by decide +kernel
theorem dX4_failing_145 : decode cX4_failing 145 = .ok (.goto (-135), 3) := by decide +kernel
theorem dX4_failing_148 : decode cX4_failing 148 = .ok (.aload_n 0, 1) := by decide +kernel
theorem dX4_failing_149 : decode cX4_failing 149 = .ok (.getfield 143, 3) := by decide +kernel
theorem dX4_failing_152 : decode cX4_failing 152 = .ok (.aload_n 0, 1) := by decide +kernel
theorem dX4_failing_153 : decode cX4_failing 153 = .ok (.getfield 219, 3) := by decide +kernel
theorem dX4_failing_156 : decode cX4_failing 156 = .ok (.if_icmp .ge 7, 3) := by decide +kernel
theorem dX4_failing_159 : decode cX4_failing 159 = .ok (.iconst 1, 1) := by decide +kernel
theorem dX4_failing_160 : decode cX4_failing 160 = .ok (.goto 27, 3) := by decide +kernel
theorem dX4_failing_163 : decode cX4_failing 163 = .ok (.iload_n 1, 1) := by decide +kernel
theorem dX4_failing_164 : decode cX4_failing 164 = .ok (.ifCond .eq 7, 3) := by decide +kernel
theorem dX4_failing_167 : decode cX4_failing 167 = .ok (.iconst 2, 1) := by decide +kernel
theorem dX4_failing_168 : decode cX4_failing 168 = .ok (.goto 19, 3) := by decide +kernel
theorem dX4_failing_171 : decode cX4_failing 171 = .ok (.ldc2_w 225, 3) := by decide +kernel
theorem dX4_failing_174 : decode cX4_failing 174 = .ok (.lload 4, 2) := by decide +kernel
theorem dX4_failing_176 : decode cX4_failing 176 = .ok (.lmul, 1) := by decide +kernel
theorem dX4_failing_177 : decode cX4_failing 177 = .ok (.lload_n 2, 1) := by decide +kernel
theorem dX4_failing_178 : decode cX4_failing 178 = .ok (.lcmp, 1) := by decide +kernel
theorem dX4_failing_179 : decode cX4_failing 179 = .ok (.ifCond .ge 7, 3) := by decide +kernel
theorem dX4_failing_182 : decode cX4_failing 182 = .ok (.iconst 3, 1) := by decide +kernel
theorem dX4_failing_183 : decode cX4_failing 183 = .ok (.goto 4, 3) := by decide +kernel
theorem dX4_failing_186 : decode cX4_failing 186 = .ok (.iconst 0, 1) := by decide +kernel
theorem dX4_failing_187 : decode cX4_failing 187 = .ok (.ireturn, 1) := by decide +kernel
theorem dX4_review_0 : decode cX4_review 0 = .ok (.aload_n 0, 1) := by decide +kernel
theorem dX4_review_1 : decode cX4_review 1 = .ok (.aload_n 0, 1) := by decide +kernel
theorem dX4_review_2 : decode cX4_review 2 = .ok (.getfield 222, 3) := by decide +kernel
theorem dX4_review_5 : decode cX4_review 5 = .ok (.ifCond .eq 12, 3) := by decide +kernel
theorem dX4_review_8 : decode cX4_review 8 = .ok (.aload_n 0, 1) := by decide +kernel
theorem dX4_review_9 : decode cX4_review 9 = .ok (.getfield 100, 3) := by decide +kernel
theorem dX4_review_12 : decode cX4_review 12 = .ok (.bipush 40, 2) := by decide +kernel
theorem dX4_review_14 : decode cX4_review 14 = .ok (.if_icmp .ne 7, 3) := by decide +kernel
theorem dX4_review_17 : decode cX4_review 17 = .ok (.iconst 1, 1) := by decide +kernel
theorem dX4_review_18 : decode cX4_review 18 = .ok (.goto 4, 3) := by decide +kernel
theorem dX4_review_21 : decode cX4_review 21 = .ok (.iconst 0, 1) := by decide +kernel
theorem dX4_review_22 : decode cX4_review 22 = .ok (.invokevirtual 118, 3) := by decide +kernel
theorem dX4_review_25 : decode cX4_review 25 = .ok (.ifCond .ne 5, 3) := by decide +kernel
theorem dX4_review_28 : decode cX4_review 28 = .ok (.iconst 0, 1) := by decide +kernel
theorem dX4_review_29 : decode cX4_review 29 = .ok (.ireturn, 1) := by decide +kernel
theorem dX4_review_30 : decode cX4_review 30 = .ok (.aload_n 0, 1) := by decide +kernel
theorem dX4_review_31 : decode cX4_review 31 = .ok (.invokevirtual 227, 3) := by decide +kernel
theorem dX4_review_34 : decode cX4_review 34 = .ok (.istore_n 1, 1) := by decide +kernel
theorem dX4_review_35 : decode cX4_review 35 = .ok (.iload_n 1, 1) := by decide +kernel
theorem dX4_review_36 : decode cX4_review 36 = .ok (.ifCond .ne 51, 3) := by decide +kernel
theorem dX4_review_39 : decode cX4_review 39 = .ok (.aload_n 0, 1) := by decide +kernel
theorem dX4_review_40 : decode cX4_review 40 = .ok (.dup, 1) := by decide +kernel
theorem dX4_review_41 : decode cX4_review 41 = .ok (.getfield 222, 3) := by decide +kernel
theorem dX4_review_44 : decode cX4_review 44 = .ok (.iconst 1, 1) := by decide +kernel
theorem dX4_review_45 : decode cX4_review 45 = .ok (.isub, 1) := by decide +kernel
theorem dX4_review_46 : decode cX4_review 46 = .ok (.putfield 222, 3) := by decide +kernel
theorem dX4_review_49 : decode cX4_review 49 = .ok (.aload_n 0, 1) := by decide +kernel
theorem dX4_review_50 : decode cX4_review 50 = .ok (.dup, 1) := by decide +kernel
theorem dX4_review_51 : decode cX4_review 51 = .ok (.getfield 128, 3) := by decide +kernel
theorem dX4_review_54 : decode cX4_review 54 = .ok (.aload_n 0, 1) := by decide +kernel
theorem dX4_review_55 : decode cX4_review 55 = .ok (.getfield 216, 3) := by decide +kernel
theorem dX4_review_58 : decode cX4_review 58 = .ok (.i2l, 1) := by decide +kernel
theorem dX4_review_59 : decode cX4_review 59 = .ok (.ladd, 1) := by decide +kernel
theorem dX4_review_60 : decode cX4_review 60 = .ok (.putfield 128, 3) := by decide +kernel
theorem dX4_review_63 : decode cX4_review 63 = .ok (.aload_n 0, 1) := by decide +kernel
theorem dX4_review_64 : decode cX4_review 64 = .ok (.iconst 4, 1) := by decide +kernel
theorem dX4_review_65 : decode cX4_review 65 = .ok (.bipush 7, 2) := by decide +kernel
theorem dX4_review_67 : decode cX4_review 67 = .ok (.aload_n 0, 1) := by decide +kernel
theorem dX4_review_68 : decode cX4_review 68 = .ok (.getfield 216, 3) := by decide +kernel
theorem dX4_review_71 : decode cX4_review 71 = .ok (.i2l, 1) := by decide +kernel
theorem dX4_review_72 : decode cX4_review 72 = .ok (.sipush 300, 3) := by decide +kernel
theorem dX4_review_75 : decode cX4_review 75 = .ok (.iconst 5, 1) := by decide +kernel
theorem dX4_review_76 : decode cX4_review 76 = .ok (.invokevirtual 121, 3) := by decide +kernel
theorem dX4_review_79 : decode cX4_review 79 = .ok (.istore_n 2, 1) := by decide +kernel
theorem dX4_review_80 : decode cX4_review 80 = .ok (.aload_n 0, 1) := by decide +kernel
theorem dX4_review_81 : decode cX4_review 81 = .ok (.getfield 36, 3) := by decide +kernel
theorem dX4_review_84 : decode cX4_review 84 = .ok (.iload_n 2, 1) := by decide +kernel
theorem dX4_review_85 : decode cX4_review 85 = .ok (.iconst 0, 1) := by decide +kernel
theorem dX4_review_86 : decode cX4_review 86 = .ok (.iastore, 1) := by decide +kernel
theorem dX4_review_87 : decode cX4_review 87 = .ok (.iload_n 1, 1) := by decide +kernel
theorem dX4_review_88 : decode cX4_review 88 = .ok (.ireturn, 1) := by decide +kernel
theorem dX4_value_0 : decode cX4_value 0 = .ok (.aload_n 0, 1) := by decide +kernel
theorem dX4_value_1 : decode cX4_value 1 = .ok (.aload_n 0, 1) := by decide +kernel
theorem dX4_value_2 : decode cX4_value 2 = .ok (.iload_n 1, 1) := by decide +kernel
theorem dX4_value_3 : decode cX4_value 3 = .ok (.invokevirtual 125, 3) := by decide +kernel
theorem dX4_value_6 : decode cX4_value 6 = .ok (.ifCond .ne 7, 3) := by decide +kernel
theorem dX4_value_9 : decode cX4_value 9 = .ok (.iconst 1, 1) := by decide +kernel
theorem dX4_value_10 : decode cX4_value 10 = .ok (.goto 19, 3) := by decide +kernel
theorem dX4_value_13 : decode cX4_value 13 = .ok (.iload_n 2, 1) := by decide +kernel
theorem dX4_value_14 : decode cX4_value 14 = .ok (.iconst 0, 1) := by decide +kernel
theorem dX4_value_15 : decode cX4_value 15 = .ok (.sipush 1500, 3) := by decide +kernel
theorem dX4_value_18 : decode cX4_value 18 = .ok (.invokestatic 103, 3) := by decide +kernel
theorem dX4_value_21 : decode cX4_value 21 = .ok (.ifCond .eq 7, 3) := by decide +kernel
theorem dX4_value_24 : decode cX4_value 24 = .ok (.iconst 0, 1) := by decide +kernel
theorem dX4_value_25 : decode cX4_value 25 = .ok (.goto 4, 3) := by decide +kernel
theorem dX4_value_28 : decode cX4_value 28 = .ok (.iconst 2, 1) := by decide +kernel
theorem dX4_value_29 : decode cX4_value 29 = .ok (.invokevirtual 118, 3) := by decide +kernel
theorem dX4_value_32 : decode cX4_value 32 = .ok (.ifCond .eq 12, 3) := by decide +kernel
theorem dX4_value_35 : decode cX4_value 35 = .ok (.aload_n 0, 1) := by decide +kernel
theorem dX4_value_36 : decode cX4_value 36 = .ok (.iload_n 1, 1) := by decide +kernel
theorem dX4_value_37 : decode cX4_value 37 = .ok (.iload_n 2, 1) := by decide +kernel
theorem dX4_value_38 : decode cX4_value 38 = .ok (.invokevirtual 176, 3) := by decide +kernel
theorem dX4_value_41 : decode cX4_value 41 = .ok (.goto 4, 3) := by decide +kernel
theorem dX4_value_44 : decode cX4_value 44 = .ok (.lconst 0, 1) := by decide +kernel
theorem dX4_value_45 : decode cX4_value 45 = .ok (.lreturn, 1) := by decide +kernel
theorem dX4_offered_0 : decode cX4_offered 0 = .ok (.aload_n 0, 1) := by decide +kernel
theorem dX4_offered_1 : decode cX4_offered 1 = .ok (.aload_n 0, 1) := by decide +kernel
theorem dX4_offered_2 : decode cX4_offered 2 = .ok (.iload_n 1, 1) := by decide +kernel
theorem dX4_offered_3 : decode cX4_offered 3 = .ok (.invokevirtual 125, 3) := by decide +kernel
theorem dX4_offered_6 : decode cX4_offered 6 = .ok (.ifCond .eq 11, 3) := by decide +kernel
theorem dX4_offered_9 : decode cX4_offered 9 = .ok (.aload_n 0, 1) := by decide +kernel
theorem dX4_offered_10 : decode cX4_offered 10 = .ok (.iload_n 2, 1) := by decide +kernel
theorem dX4_offered_11 : decode cX4_offered 11 = .ok (.invokevirtual 182, 3) := by decide +kernel
theorem dX4_offered_14 : decode cX4_offered 14 = .ok (.ifCond .ne 7, 3) := by decide +kernel
theorem dX4_offered_17 : decode cX4_offered 17 = .ok (.iconst 1, 1) := by decide +kernel
theorem dX4_offered_18 : decode cX4_offered 18 = .ok (.goto 19, 3) := by decide +kernel
theorem dX4_offered_21 : decode cX4_offered 21 = .ok (.iload_n 3, 1) := by decide +kernel
theorem dX4_offered_22 : decode cX4_offered 22 = .ok (.iconst 0, 1) := by decide +kernel
theorem dX4_offered_23 : decode cX4_offered 23 = .ok (.sipush 1500, 3) := by decide +kernel
theorem dX4_offered_26 : decode cX4_offered 26 = .ok (.invokestatic 103, 3) := by decide +kernel
theorem dX4_offered_29 : decode cX4_offered 29 = .ok (.ifCond .eq 7, 3) := by decide +kernel
theorem dX4_offered_32 : decode cX4_offered 32 = .ok (.iconst 0, 1) := by decide +kernel
theorem dX4_offered_33 : decode cX4_offered 33 = .ok (.goto 4, 3) := by decide +kernel
theorem dX4_offered_36 : decode cX4_offered 36 = .ok (.iconst 2, 1) := by decide +kernel
theorem dX4_offered_37 : decode cX4_offered 37 = .ok (.invokevirtual 118, 3) := by decide +kernel
theorem dX4_offered_40 : decode cX4_offered 40 = .ok (.ifCond .ne 5, 3) := by decide +kernel
theorem dX4_offered_43 : decode cX4_offered 43 = .ok (.lconst 0, 1) := by decide +kernel
theorem dX4_offered_44 : decode cX4_offered 44 = .ok (.lreturn, 1) := by decide +kernel
theorem dX4_offered_45 : decode cX4_offered 45 = .ok (.aload_n 0, 1) := by decide +kernel
theorem dX4_offered_46 : decode cX4_offered 46 = .ok (.getfield 46, 3) := by decide +kernel
theorem dX4_offered_49 : decode cX4_offered 49 = .ok (.iload_n 1, 1) := by decide +kernel
theorem dX4_offered_50 : decode cX4_offered 50 = .ok (.iaload, 1) := by decide +kernel
theorem dX4_offered_51 : decode cX4_offered 51 = .ok (.ifCond .ne 34, 3) := by decide +kernel
theorem dX4_offered_54 : decode cX4_offered 54 = .ok (.aload_n 0, 1) := by decide +kernel
theorem dX4_offered_55 : decode cX4_offered 55 = .ok (.aload_n 0, 1) := by decide +kernel
theorem dX4_offered_56 : decode cX4_offered 56 = .ok (.iload_n 1, 1) := by decide +kernel
theorem dX4_offered_57 : decode cX4_offered 57 = .ok (.iload_n 2, 1) := by decide +kernel
theorem dX4_offered_58 : decode cX4_offered 58 = .ok (.invokevirtual 179, 3) := by decide +kernel
theorem dX4_offered_61 : decode cX4_offered 61 = .ok (.aload_n 0, 1) := by decide +kernel
theorem dX4_offered_62 : decode cX4_offered 62 = .ok (.getfield 70, 3) := by decide +kernel
theorem dX4_offered_65 : decode cX4_offered 65 = .ok (.iload_n 2, 1) := by decide +kernel
theorem dX4_offered_66 : decode cX4_offered 66 = .ok (.iaload, 1) := by decide +kernel
theorem dX4_offered_67 : decode cX4_offered 67 = .ok (.aload_n 0, 1) := by decide +kernel
theorem dX4_offered_68 : decode cX4_offered 68 = .ok (.getfield 110, 3) := by decide +kernel
theorem dX4_offered_71 : decode cX4_offered 71 = .ok (.aload_n 0, 1) := by decide +kernel
theorem dX4_offered_72 : decode cX4_offered 72 = .ok (.getfield 73, 3) := by decide +kernel
theorem dX4_offered_75 : decode cX4_offered 75 = .ok (.iload_n 2, 1) := by decide +kernel
theorem dX4_offered_76 : decode cX4_offered 76 = .ok (.iaload, 1) := by decide +kernel
theorem dX4_offered_77 : decode cX4_offered 77 = .ok (.iadd, 1) := by decide +kernel
theorem dX4_offered_78 : decode cX4_offered 78 = .ok (.iload_n 3, 1) := by decide +kernel
theorem dX4_offered_79 : decode cX4_offered 79 = .ok (.invokevirtual 170, 3) := by decide +kernel
theorem dX4_offered_82 : decode cX4_offered 82 = .ok (.goto 4, 3) := by decide +kernel
theorem dX4_offered_85 : decode cX4_offered 85 = .ok (.lconst 0, 1) := by decide +kernel
theorem dX4_offered_86 : decode cX4_offered 86 = .ok (.lreturn, 1) := by decide +kernel
theorem dX4_effortOf_0 : decode cX4_effortOf 0 = .ok (.aload_n 0, 1) := by decide +kernel
theorem dX4_effortOf_1 : decode cX4_effortOf 1 = .ok (.getfield 82, 3) := by decide +kernel
theorem dX4_effortOf_4 : decode cX4_effortOf 4 = .ok (.iload_n 1, 1) := by decide +kernel
theorem dX4_effortOf_5 : decode cX4_effortOf 5 = .ok (.laload, 1) := by decide +kernel
theorem dX4_effortOf_6 : decode cX4_effortOf 6 = .ok (.lconst 0, 1) := by decide +kernel
theorem dX4_effortOf_7 : decode cX4_effortOf 7 = .ok (.lcmp, 1) := by decide +kernel
theorem dX4_effortOf_8 : decode cX4_effortOf 8 = .ok (.ifCond .ne 7, 3) := by decide +kernel
theorem dX4_effortOf_11 : decode cX4_effortOf 11 = .ok (.iconst 0, 1) := by decide +kernel
theorem dX4_effortOf_12 : decode cX4_effortOf 12 = .ok (.goto 25, 3) := by decide +kernel
theorem dX4_effortOf_15 : decode cX4_effortOf 15 = .ok (.ldc2_w 146, 3) := by decide +kernel
theorem dX4_effortOf_18 : decode cX4_effortOf 18 = .ok (.ldc2_w 146, 3) := by decide +kernel
theorem dX4_effortOf_21 : decode cX4_effortOf 21 = .ok (.aload_n 0, 1) := by decide +kernel
theorem dX4_effortOf_22 : decode cX4_effortOf 22 = .ok (.getfield 85, 3) := by decide +kernel
theorem dX4_effortOf_25 : decode cX4_effortOf 25 = .ok (.iload_n 1, 1) := by decide +kernel
theorem dX4_effortOf_26 : decode cX4_effortOf 26 = .ok (.laload, 1) := by decide +kernel
theorem dX4_effortOf_27 : decode cX4_effortOf 27 = .ok (.lmul, 1) := by decide +kernel
theorem dX4_effortOf_28 : decode cX4_effortOf 28 = .ok (.aload_n 0, 1) := by decide +kernel
theorem dX4_effortOf_29 : decode cX4_effortOf 29 = .ok (.getfield 82, 3) := by decide +kernel
theorem dX4_effortOf_32 : decode cX4_effortOf 32 = .ok (.iload_n 1, 1) := by decide +kernel
theorem dX4_effortOf_33 : decode cX4_effortOf 33 = .ok (.laload, 1) := by decide +kernel
theorem dX4_effortOf_34 : decode cX4_effortOf 34 = .ok (.ldiv, 1) := by decide +kernel
theorem dX4_effortOf_35 : decode cX4_effortOf 35 = .ok (.lsub, 1) := by decide +kernel
theorem dX4_effortOf_36 : decode cX4_effortOf 36 = .ok (.l2i, 1) := by decide +kernel
theorem dX4_effortOf_37 : decode cX4_effortOf 37 = .ok (.ireturn, 1) := by decide +kernel
theorem dX4_effort_0 : decode cX4_effort 0 = .ok (.aload_n 0, 1) := by decide +kernel
theorem dX4_effort_1 : decode cX4_effort 1 = .ok (.iload_n 1, 1) := by decide +kernel
