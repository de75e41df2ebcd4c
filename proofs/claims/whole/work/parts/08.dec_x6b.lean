theorem dX6_atom0_77 : decode cX6_atom0 77 = .ok (.isub, 1) := by decide +kernel
theorem dX6_atom0_78 : decode cX6_atom0 78 = .ok (.putfield 171, 3) := by decide +kernel
theorem dX6_atom0_81 : decode cX6_atom0 81 = .ok (.aload_n 0, 1) := by decide +kernel
theorem dX6_atom0_82 : decode cX6_atom0 82 = .ok (.getfield 161, 3) := by decide +kernel
theorem dX6_atom0_85 : decode cX6_atom0 85 = .ok (.ifCond .ne 76, 3) := by decide +kernel
theorem dX6_atom0_88 : decode cX6_atom0 88 = .ok (.aload_n 0, 1) := by decide +kernel
theorem dX6_atom0_89 : decode cX6_atom0 89 = .ok (.invokevirtual 177, 3) := by decide +kernel
theorem dX6_atom0_92 : decode cX6_atom0 92 = .ok (.goto 69, 3) := by decide +kernel
theorem dX6_atom0_95 : decode cX6_atom0 95 = .ok (.aload_n 0, 1) := by decide +kernel
theorem dX6_atom0_96 : decode cX6_atom0 96 = .ok (.getfield 161, 3) := by decide +kernel
theorem dX6_atom0_99 : decode cX6_atom0 99 = .ok (.ifCond .ne 24, 3) := by decide +kernel
theorem dX6_atom0_102 : decode cX6_atom0 102 = .ok (.aload_n 0, 1) := by decide +kernel
theorem dX6_atom0_103 : decode cX6_atom0 103 = .ok (.getfield 144, 3) := by decide +kernel
theorem dX6_atom0_106 : decode cX6_atom0 106 = .ok (.iconst 2, 1) := by decide +kernel
theorem dX6_atom0_107 : decode cX6_atom0 107 = .ok (.if_icmp .ne 16, 3) := by decide +kernel
theorem dX6_atom0_110 : decode cX6_atom0 110 = .ok (.aload_n 0, 1) := by decide +kernel
theorem dX6_atom0_111 : decode cX6_atom0 111 = .ok (.getfield 155, 3) := by decide +kernel
theorem dX6_atom0_114 : decode cX6_atom0 114 = .ok (.l2i, 1) := by decide +kernel
theorem dX6_atom0_115 : decode cX6_atom0 115 = .ok (.istore_n 1, 1) := by decide +kernel
theorem dX6_atom0_116 : decode cX6_atom0 116 = .ok (.aload_n 0, 1) := by decide +kernel
theorem dX6_atom0_117 : decode cX6_atom0 117 = .ok (.invokevirtual 177, 3) := by decide +kernel
theorem dX6_atom0_120 : decode cX6_atom0 120 = .ok (.goto 41, 3) := by decide +kernel
theorem dX6_atom0_123 : decode cX6_atom0 123 = .ok (.aload_n 0, 1) := by decide +kernel
theorem dX6_atom0_124 : decode cX6_atom0 124 = .ok (.getfield 161, 3) := by decide +kernel
theorem dX6_atom0_127 : decode cX6_atom0 127 = .ok (.ifCond .ne 30, 3) := by decide +kernel
theorem dX6_atom0_130 : decode cX6_atom0 130 = .ok (.aload_n 0, 1) := by decide +kernel
theorem dX6_atom0_131 : decode cX6_atom0 131 = .ok (.getfield 144, 3) := by decide +kernel
theorem dX6_atom0_134 : decode cX6_atom0 134 = .ok (.iconst 1, 1) := by decide +kernel
theorem dX6_atom0_135 : decode cX6_atom0 135 = .ok (.if_icmp .ne 22, 3) := by decide +kernel
theorem dX6_atom0_138 : decode cX6_atom0 138 = .ok (.aload_n 0, 1) := by decide +kernel
theorem dX6_atom0_139 : decode cX6_atom0 139 = .ok (.invokevirtual 209, 3) := by decide +kernel
theorem dX6_atom0_142 : decode cX6_atom0 142 = .ok (.istore_n 1, 1) := by decide +kernel
theorem dX6_atom0_143 : decode cX6_atom0 143 = .ok (.aload_n 0, 1) := by decide +kernel
theorem dX6_atom0_144 : decode cX6_atom0 144 = .ok (.getfield 161, 3) := by decide +kernel
theorem dX6_atom0_147 : decode cX6_atom0 147 = .ok (.ifCond .ne 14, 3) := by decide +kernel
theorem dX6_atom0_150 : decode cX6_atom0 150 = .ok (.aload_n 0, 1) := by decide +kernel
theorem dX6_atom0_151 : decode cX6_atom0 151 = .ok (.invokevirtual 177, 3) := by decide +kernel
theorem dX6_atom0_154 : decode cX6_atom0 154 = .ok (.goto 7, 3) := by decide +kernel
theorem dX6_atom0_157 : decode cX6_atom0 157 = .ok (.aload_n 0, 1) := by decide +kernel
theorem dX6_atom0_158 : decode cX6_atom0 158 = .ok (.invokevirtual 174, 3) := by decide +kernel
theorem dX6_atom0_161 : decode cX6_atom0 161 = .ok (.iload_n 1, 1) := by decide +kernel
theorem dX6_atom0_162 : decode cX6_atom0 162 = .ok (.ireturn, 1) := by decide +kernel
theorem dX6_term0_0 : decode cX6_term0 0 = .ok (.aload_n 0, 1) := by decide +kernel
theorem dX6_term0_1 : decode cX6_term0 1 = .ok (.invokevirtual 307, 3) := by decide +kernel
theorem dX6_term0_4 : decode cX6_term0 4 = .ok (.istore_n 1, 1) := by decide +kernel
theorem dX6_term0_5 : decode cX6_term0 5 = .ok (.aload_n 0, 1) := by decide +kernel
theorem dX6_term0_6 : decode cX6_term0 6 = .ok (.bipush 42, 2) := by decide +kernel
theorem dX6_term0_8 : decode cX6_term0 8 = .ok (.invokevirtual 202, 3) := by decide +kernel
theorem dX6_term0_11 : decode cX6_term0 11 = .ok (.ifCond .eq 17, 3) := by decide +kernel
theorem dX6_term0_14 : decode cX6_term0 14 = .ok (.aload_n 0, 1) := by decide +kernel
theorem dX6_term0_15 : decode cX6_term0 15 = .ok (.invokevirtual 177, 3) := by decide +kernel
theorem dX6_term0_18 : decode cX6_term0 18 = .ok (.iload_n 1, 1) := by decide +kernel
theorem dX6_term0_19 : decode cX6_term0 19 = .ok (.aload_n 0, 1) := by decide +kernel
theorem dX6_term0_20 : decode cX6_term0 20 = .ok (.invokevirtual 307, 3) := by decide +kernel
theorem dX6_term0_23 : decode cX6_term0 23 = .ok (.imul, 1) := by decide +kernel
theorem dX6_term0_24 : decode cX6_term0 24 = .ok (.istore_n 1, 1) := by decide +kernel
theorem dX6_term0_25 : decode cX6_term0 25 = .ok (.goto (-20), 3) := by decide +kernel
theorem dX6_term0_28 : decode cX6_term0 28 = .ok (.iload_n 1, 1) := by decide +kernel
theorem dX6_term0_29 : decode cX6_term0 29 = .ok (.ireturn, 1) := by decide +kernel
theorem dX6_added0_0 : decode cX6_added0 0 = .ok (.aload_n 0, 1) := by decide +kernel
theorem dX6_added0_1 : decode cX6_added0 1 = .ok (.invokevirtual 310, 3) := by decide +kernel
theorem dX6_added0_4 : decode cX6_added0 4 = .ok (.istore_n 1, 1) := by decide +kernel
theorem dX6_added0_5 : decode cX6_added0 5 = .ok (.aload_n 0, 1) := by decide +kernel
theorem dX6_added0_6 : decode cX6_added0 6 = .ok (.bipush 43, 2) := by decide +kernel
theorem dX6_added0_8 : decode cX6_added0 8 = .ok (.invokevirtual 202, 3) := by decide +kernel
theorem dX6_added0_11 : decode cX6_added0 11 = .ok (.ifCond .ne 12, 3) := by decide +kernel
theorem dX6_added0_14 : decode cX6_added0 14 = .ok (.aload_n 0, 1) := by decide +kernel
theorem dX6_added0_15 : decode cX6_added0 15 = .ok (.bipush 45, 2) := by decide +kernel
theorem dX6_added0_17 : decode cX6_added0 17 = .ok (.invokevirtual 202, 3) := by decide +kernel
theorem dX6_added0_20 : decode cX6_added0 20 = .ok (.ifCond .eq 46, 3) := by decide +kernel
theorem dX6_added0_23 : decode cX6_added0 23 = .ok (.aload_n 0, 1) := by decide +kernel
theorem dX6_added0_24 : decode cX6_added0 24 = .ok (.getfield 155, 3) := by decide +kernel
theorem dX6_added0_27 : decode cX6_added0 27 = .ok (.ldc2_w 219, 3) := by decide +kernel
theorem dX6_added0_30 : decode cX6_added0 30 = .ok (.lcmp, 1) := by decide +kernel
theorem dX6_added0_31 : decode cX6_added0 31 = .ok (.ifCond .ne 7, 3) := by decide +kernel
theorem dX6_added0_34 : decode cX6_added0 34 = .ok (.iconst 1, 1) := by decide +kernel
theorem dX6_added0_35 : decode cX6_added0 35 = .ok (.goto 4, 3) := by decide +kernel
theorem dX6_added0_38 : decode cX6_added0 38 = .ok (.iconst 0, 1) := by decide +kernel
theorem dX6_added0_39 : decode cX6_added0 39 = .ok (.istore_n 2, 1) := by decide +kernel
theorem dX6_added0_40 : decode cX6_added0 40 = .ok (.aload_n 0, 1) := by decide +kernel
theorem dX6_added0_41 : decode cX6_added0 41 = .ok (.invokevirtual 177, 3) := by decide +kernel
theorem dX6_added0_44 : decode cX6_added0 44 = .ok (.aload_n 0, 1) := by decide +kernel
theorem dX6_added0_45 : decode cX6_added0 45 = .ok (.invokevirtual 310, 3) := by decide +kernel
theorem dX6_added0_48 : decode cX6_added0 48 = .ok (.istore_n 3, 1) := by decide +kernel
theorem dX6_added0_49 : decode cX6_added0 49 = .ok (.iload_n 2, 1) := by decide +kernel
theorem dX6_added0_50 : decode cX6_added0 50 = .ok (.ifCond .eq 9, 3) := by decide +kernel
theorem dX6_added0_53 : decode cX6_added0 53 = .ok (.iload_n 1, 1) := by decide +kernel
theorem dX6_added0_54 : decode cX6_added0 54 = .ok (.iload_n 3, 1) := by decide +kernel
theorem dX6_added0_55 : decode cX6_added0 55 = .ok (.iadd, 1) := by decide +kernel
theorem dX6_added0_56 : decode cX6_added0 56 = .ok (.goto 6, 3) := by decide +kernel
theorem dX6_added0_59 : decode cX6_added0 59 = .ok (.iload_n 1, 1) := by decide +kernel
theorem dX6_added0_60 : decode cX6_added0 60 = .ok (.iload_n 3, 1) := by decide +kernel
theorem dX6_added0_61 : decode cX6_added0 61 = .ok (.isub, 1) := by decide +kernel
theorem dX6_added0_62 : decode cX6_added0 62 = .ok (.istore_n 1, 1) := by decide +kernel
theorem dX6_added0_63 : decode cX6_added0 63 = .ok (.goto (-58), 3) := by decide +kernel
theorem dX6_added0_66 : decode cX6_added0 66 = .ok (.iload_n 1, 1) := by decide +kernel
theorem dX6_added0_67 : decode cX6_added0 67 = .ok (.ireturn, 1) := by decide +kernel
theorem dX6_not0_0 : decode cX6_not0 0 = .ok (.aload_n 0, 1) := by decide +kernel
theorem dX6_not0_1 : decode cX6_not0 1 = .ok (.bipush 110, 2) := by decide +kernel
theorem dX6_not0_3 : decode cX6_not0 3 = .ok (.bipush 111, 2) := by decide +kernel
theorem dX6_not0_5 : decode cX6_not0 5 = .ok (.bipush 116, 2) := by decide +kernel
theorem dX6_not0_7 : decode cX6_not0 7 = .ok (.iconst 0, 1) := by decide +kernel
theorem dX6_not0_8 : decode cX6_not0 8 = .ok (.iconst 0, 1) := by decide +kernel
theorem dX6_not0_9 : decode cX6_not0 9 = .ok (.iconst 0, 1) := by decide +kernel
theorem dX6_not0_10 : decode cX6_not0 10 = .ok (.iconst 0, 1) := by decide +kernel
theorem dX6_not0_11 : decode cX6_not0 11 = .ok (.iconst 0, 1) := by decide +kernel
theorem dX6_not0_12 : decode cX6_not0 12 = .ok (.invokevirtual 180, 3) := by decide +kernel
theorem dX6_not0_15 : decode cX6_not0 15 = .ok (.ifCond .eq 37, 3) := by decide +kernel
theorem dX6_not0_18 : decode cX6_not0 18 = .ok (.aload_n 0, 1) := by decide +kernel
theorem dX6_not0_19 : decode cX6_not0 19 = .ok (.invokevirtual 205, 3) := by decide +kernel
theorem dX6_not0_22 : decode cX6_not0 22 = .ok (.ifCond .ne 5, 3) := by decide +kernel
theorem dX6_not0_25 : decode cX6_not0 25 = .ok (.iconst 0, 1) := by decide +kernel
theorem dX6_not0_26 : decode cX6_not0 26 = .ok (.ireturn, 1) := by decide +kernel
theorem dX6_not0_27 : decode cX6_not0 27 = .ok (.aload_n 0, 1) := by decide +kernel
theorem dX6_not0_28 : decode cX6_not0 28 = .ok (.invokevirtual 298, 3) := by decide +kernel
theorem dX6_not0_31 : decode cX6_not0 31 = .ok (.istore_n 1, 1) := by decide +kernel
theorem dX6_not0_32 : decode cX6_not0 32 = .ok (.aload_n 0, 1) := by decide +kernel
theorem dX6_not0_33 : decode cX6_not0 33 = .ok (.dup, 1) := by decide +kernel
theorem dX6_not0_34 : decode cX6_not0 34 = .ok (.getfield 171, 3) := by decide +kernel
theorem dX6_not0_37 : decode cX6_not0 37 = .ok (.iconst 1, 1) := by decide +kernel
theorem dX6_not0_38 : decode cX6_not0 38 = .ok (.isub, 1) := by decide +kernel
theorem dX6_not0_39 : decode cX6_not0 39 = .ok (.putfield 171, 3) := by decide +kernel
theorem dX6_not0_42 : decode cX6_not0 42 = .ok (.iload_n 1, 1) := by decide +kernel
theorem dX6_not0_43 : decode cX6_not0 43 = .ok (.ifCond .ne 7, 3) := by decide +kernel
theorem dX6_not0_46 : decode cX6_not0 46 = .ok (.iconst 1, 1) := by decide +kernel
theorem dX6_not0_47 : decode cX6_not0 47 = .ok (.goto 4, 3) := by decide +kernel
theorem dX6_not0_50 : decode cX6_not0 50 = .ok (.iconst 0, 1) := by decide +kernel
theorem dX6_not0_51 : decode cX6_not0 51 = .ok (.ireturn, 1) := by decide +kernel
theorem dX6_not0_52 : decode cX6_not0 52 = .ok (.aload_n 0, 1) := by decide +kernel
theorem dX6_not0_53 : decode cX6_not0 53 = .ok (.invokevirtual 313, 3) := by decide +kernel
theorem dX6_not0_56 : decode cX6_not0 56 = .ok (.istore_n 1, 1) := by decide +kernel
theorem dX6_not0_57 : decode cX6_not0 57 = .ok (.aload_n 0, 1) := by decide +kernel
theorem dX6_not0_58 : decode cX6_not0 58 = .ok (.bipush 60, 2) := by decide +kernel
theorem dX6_not0_60 : decode cX6_not0 60 = .ok (.invokevirtual 202, 3) := by decide +kernel
theorem dX6_not0_63 : decode cX6_not0 63 = .ok (.ifCond .ne 14, 3) := by decide +kernel
theorem dX6_not0_66 : decode cX6_not0 66 = .ok (.aload_n 0, 1) := by decide +kernel
theorem dX6_not0_67 : decode cX6_not0 67 = .ok (.bipush 61, 2) := by decide +kernel
theorem dX6_not0_69 : decode cX6_not0 69 = .ok (.invokevirtual 202, 3) := by decide +kernel
theorem dX6_not0_72 : decode cX6_not0 72 = .ok (.ifCond .ne 5, 3) := by decide +kernel
theorem dX6_not0_75 : decode cX6_not0 75 = .ok (.iload_n 1, 1) := by decide +kernel
theorem dX6_not0_76 : decode cX6_not0 76 = .ok (.ireturn, 1) := by decide +kernel
theorem dX6_not0_77 : decode cX6_not0 77 = .ok (.aload_n 0, 1) := by decide +kernel
theorem dX6_not0_78 : decode cX6_not0 78 = .ok (.getfield 155, 3) := by decide +kernel
theorem dX6_not0_81 : decode cX6_not0 81 = .ok (.ldc2_w 224, 3) := by decide +kernel
theorem dX6_not0_84 : decode cX6_not0 84 = .ok (.lcmp, 1) := by decide +kernel
theorem dX6_not0_85 : decode cX6_not0 85 = .ok (.ifCond .ne 7, 3) := by decide +kernel
theorem dX6_not0_88 : decode cX6_not0 88 = .ok (.iconst 1, 1) := by decide +kernel
theorem dX6_not0_89 : decode cX6_not0 89 = .ok (.goto 4, 3) := by decide +kernel
theorem dX6_not0_92 : decode cX6_not0 92 = .ok (.iconst 0, 1) := by decide +kernel
theorem dX6_not0_93 : decode cX6_not0 93 = .ok (.istore_n 2, 1) := by decide +kernel
theorem dX6_not0_94 : decode cX6_not0 94 = .ok (.aload_n 0, 1) := by decide +kernel
theorem dX6_not0_95 : decode cX6_not0 95 = .ok (.invokevirtual 177, 3) := by decide +kernel
theorem dX6_not0_98 : decode cX6_not0 98 = .ok (.aload_n 0, 1) := by decide +kernel
theorem dX6_not0_99 : decode cX6_not0 99 = .ok (.invokevirtual 313, 3) := by decide +kernel
theorem dX6_not0_102 : decode cX6_not0 102 = .ok (.istore_n 3, 1) := by decide +kernel
theorem dX6_not0_103 : decode cX6_not0 103 = .ok (.iload_n 2, 1) := by decide +kernel
theorem dX6_not0_104 : decode cX6_not0 104 = .ok (.ifCond .eq 11, 3) := by decide +kernel
theorem dX6_not0_107 : decode cX6_not0 107 = .ok (.iload_n 1, 1) := by decide +kernel
theorem dX6_not0_108 : decode cX6_not0 108 = .ok (.iload_n 3, 1) := by decide +kernel
theorem dX6_not0_109 : decode cX6_not0 109 = .ok (.if_icmp .ge 15, 3) := by decide +kernel
theorem dX6_not0_112 : decode cX6_not0 112 = .ok (.goto 8, 3) := by decide +kernel
theorem dX6_not0_115 : decode cX6_not0 115 = .ok (.iload_n 1, 1) := by decide +kernel
theorem dX6_not0_116 : decode cX6_not0 116 = .ok (.iload_n 3, 1) := by decide +kernel
theorem dX6_not0_117 : decode cX6_not0 117 = .ok (.if_icmp .ne 7, 3) := by decide +kernel
theorem dX6_not0_120 : decode cX6_not0 120 = .ok (.iconst 1, 1) := by decide +kernel
theorem dX6_not0_121 : decode cX6_not0 121 = .ok (.goto 4, 3) := by decide +kernel
theorem dX6_not0_124 : decode cX6_not0 124 = .ok (.iconst 0, 1) := by decide +kernel
theorem dX6_not0_125 : decode cX6_not0 125 = .ok (.ireturn, 1) := by decide +kernel
theorem dX6_both0_0 : decode cX6_both0 0 = .ok (.aload_n 0, 1) := by decide +kernel
theorem dX6_both0_1 : decode cX6_both0 1 = .ok (.invokevirtual 316, 3) := by decide +kernel
theorem dX6_both0_4 : decode cX6_both0 4 = .ok (.istore_n 1, 1) := by decide +kernel
theorem dX6_both0_5 : decode cX6_both0 5 = .ok (.aload_n 0, 1) := by decide +kernel
theorem dX6_both0_6 : decode cX6_both0 6 = .ok (.bipush 97, 2) := by decide +kernel
theorem dX6_both0_8 : decode cX6_both0 8 = .ok (.bipush 110, 2) := by decide +kernel
theorem dX6_both0_10 : decode cX6_both0 10 = .ok (.bipush 100, 2) := by decide +kernel
theorem dX6_both0_12 : decode cX6_both0 12 = .ok (.iconst 0, 1) := by decide +kernel
theorem dX6_both0_13 : decode cX6_both0 13 = .ok (.iconst 0, 1) := by decide +kernel
theorem dX6_both0_14 : decode cX6_both0 14 = .ok (.iconst 0, 1) := by decide +kernel
theorem dX6_both0_15 : decode cX6_both0 15 = .ok (.iconst 0, 1) := by decide +kernel
theorem dX6_both0_16 : decode cX6_both0 16 = .ok (.iconst 0, 1) := by decide +kernel
theorem dX6_both0_17 : decode cX6_both0 17 = .ok (.invokevirtual 180, 3) := by decide +kernel
theorem dX6_both0_20 : decode cX6_both0 20 = .ok (.ifCond .eq 29, 3) := by decide +kernel
theorem dX6_both0_23 : decode cX6_both0 23 = .ok (.aload_n 0, 1) := by decide +kernel
theorem dX6_both0_24 : decode cX6_both0 24 = .ok (.invokevirtual 177, 3) := by decide +kernel
theorem dX6_both0_27 : decode cX6_both0 27 = .ok (.aload_n 0, 1) := by decide +kernel
theorem dX6_both0_28 : decode cX6_both0 28 = .ok (.invokevirtual 316, 3) := by decide +kernel
theorem dX6_both0_31 : decode cX6_both0 31 = .ok (.istore_n 2, 1) := by decide +kernel
theorem dX6_both0_32 : decode cX6_both0 32 = .ok (.iload_n 1, 1) := by decide +kernel
theorem dX6_both0_33 : decode cX6_both0 33 = .ok (.ifCond .eq 11, 3) := by decide +kernel
theorem dX6_both0_36 : decode cX6_both0 36 = .ok (.iload_n 2, 1) := by decide +kernel
theorem dX6_both0_37 : decode cX6_both0 37 = .ok (.ifCond .eq 7, 3) := by decide +kernel
theorem dX6_both0_40 : decode cX6_both0 40 = .ok (.iconst 1, 1) := by decide +kernel
theorem dX6_both0_41 : decode cX6_both0 41 = .ok (.goto 4, 3) := by decide +kernel
theorem dX6_both0_44 : decode cX6_both0 44 = .ok (.iconst 0, 1) := by decide +kernel
theorem dX6_both0_45 : decode cX6_both0 45 = .ok (.istore_n 1, 1) := by decide +kernel
theorem dX6_both0_46 : decode cX6_both0 46 = .ok (.goto (-41), 3) := by decide +kernel
theorem dX6_both0_49 : decode cX6_both0 49 = .ok (.iload_n 1, 1) := by decide +kernel
theorem dX6_both0_50 : decode cX6_both0 50 = .ok (.ireturn, 1) := by decide +kernel
theorem dX6_either0_0 : decode cX6_either0 0 = .ok (.aload_n 0, 1) := by decide +kernel
theorem dX6_either0_1 : decode cX6_either0 1 = .ok (.invokevirtual 319, 3) := by decide +kernel
theorem dX6_either0_4 : decode cX6_either0 4 = .ok (.istore_n 1, 1) := by decide +kernel
theorem dX6_either0_5 : decode cX6_either0 5 = .ok (.aload_n 0, 1) := by decide +kernel
theorem dX6_either0_6 : decode cX6_either0 6 = .ok (.bipush 111, 2) := by decide +kernel
theorem dX6_either0_8 : decode cX6_either0 8 = .ok (.bipush 114, 2) := by decide +kernel
theorem dX6_either0_10 : decode cX6_either0 10 = .ok (.iconst 0, 1) := by decide +kernel
theorem dX6_either0_11 : decode cX6_either0 11 = .ok (.iconst 0, 1) := by decide +kernel
theorem dX6_either0_12 : decode cX6_either0 12 = .ok (.iconst 0, 1) := by decide +kernel
theorem dX6_either0_13 : decode cX6_either0 13 = .ok (.iconst 0, 1) := by decide +kernel
theorem dX6_either0_14 : decode cX6_either0 14 = .ok (.iconst 0, 1) := by decide +kernel
theorem dX6_either0_15 : decode cX6_either0 15 = .ok (.iconst 0, 1) := by decide +kernel
theorem dX6_either0_16 : decode cX6_either0 16 = .ok (.invokevirtual 180, 3) := by decide +kernel
theorem dX6_either0_19 : decode cX6_either0 19 = .ok (.ifCond .eq 29, 3) := by decide +kernel
theorem dX6_either0_22 : decode cX6_either0 22 = .ok (.aload_n 0, 1) := by decide +kernel
theorem dX6_either0_23 : decode cX6_either0 23 = .ok (.invokevirtual 177, 3) := by decide +kernel
theorem dX6_either0_26 : decode cX6_either0 26 = .ok (.aload_n 0, 1) := by decide +kernel
theorem dX6_either0_27 : decode cX6_either0 27 = .ok (.invokevirtual 319, 3) := by decide +kernel
theorem dX6_either0_30 : decode cX6_either0 30 = .ok (.istore_n 2, 1) := by decide +kernel
theorem dX6_either0_31 : decode cX6_either0 31 = .ok (.iload_n 1, 1) := by decide +kernel
theorem dX6_either0_32 : decode cX6_either0 32 = .ok (.ifCond .ne 7, 3) := by decide +kernel
theorem dX6_either0_35 : decode cX6_either0 35 = .ok (.iload_n 2, 1) := by decide +kernel
theorem dX6_either0_36 : decode cX6_either0 36 = .ok (.ifCond .eq 7, 3) := by decide +kernel
theorem dX6_either0_39 : decode cX6_either0 39 = .ok (.iconst 1, 1) := by decide +kernel
theorem dX6_either0_40 : decode cX6_either0 40 = .ok (.goto 4, 3) := by decide +kernel
theorem dX6_either0_43 : decode cX6_either0 43 = .ok (.iconst 0, 1) := by decide +kernel
theorem dX6_either0_44 : decode cX6_either0 44 = .ok (.istore_n 1, 1) := by decide +kernel
theorem dX6_either0_45 : decode cX6_either0 45 = .ok (.goto (-40), 3) := by decide +kernel
theorem dX6_either0_48 : decode cX6_either0 48 = .ok (.iload_n 1, 1) := by decide +kernel
theorem dX6_either0_49 : decode cX6_either0 49 = .ok (.ireturn, 1) := by decide +kernel
theorem dX6_part_0 : decode cX6_part 0 = .ok (.iload_n 1, 1) := by decide +kernel
theorem dX6_part_1 : decode cX6_part 1 = .ok (.ifCond .ne 7, 3) := by decide +kernel
theorem dX6_part_4 : decode cX6_part 4 = .ok (.aload_n 0, 1) := by decide +kernel
theorem dX6_part_5 : decode cX6_part 5 = .ok (.invokevirtual 174, 3) := by decide +kernel
theorem dX6_part_8 : decode cX6_part 8 = .ok (.aload_n 0, 1) := by decide +kernel
theorem dX6_part_9 : decode cX6_part 9 = .ok (.getfield 161, 3) := by decide +kernel
theorem dX6_part_12 : decode cX6_part 12 = .ok (.ifCond .ne 7, 3) := by decide +kernel
theorem dX6_part_15 : decode cX6_part 15 = .ok (.aload_n 0, 1) := by decide +kernel
theorem dX6_part_16 : decode cX6_part 16 = .ok (.invokevirtual 177, 3) := by decide +kernel
theorem dX6_part_19 : decode cX6_part 19 = .ok (.aload_n 0, 1) := by decide +kernel
theorem dX6_part_20 : decode cX6_part 20 = .ok (.getfield 161, 3) := by decide +kernel
theorem dX6_part_23 : decode cX6_part 23 = .ok (.ifCond .eq 7, 3) := by decide +kernel
theorem dX6_part_26 : decode cX6_part 26 = .ok (.iconst 0, 1) := by decide +kernel
theorem dX6_part_27 : decode cX6_part 27 = .ok (.goto 7, 3) := by decide +kernel
theorem dX6_part_30 : decode cX6_part 30 = .ok (.aload_n 0, 1) := by decide +kernel
theorem dX6_part_31 : decode cX6_part 31 = .ok (.invokevirtual 322, 3) := by decide +kernel
theorem dX6_part_34 : decode cX6_part 34 = .ok (.istore_n 2, 1) := by decide +kernel
theorem dX6_part_35 : decode cX6_part 35 = .ok (.aload_n 0, 1) := by decide +kernel
theorem dX6_part_36 : decode cX6_part 36 = .ok (.bipush 59, 2) := by decide +kernel
theorem dX6_part_38 : decode cX6_part 38 = .ok (.invokevirtual 202, 3) := by decide +kernel
theorem dX6_part_41 : decode cX6_part 41 = .ok (.ifCond .ne 7, 3) := by decide +kernel
theorem dX6_part_44 : decode cX6_part 44 = .ok (.aload_n 0, 1) := by decide +kernel
theorem dX6_part_45 : decode cX6_part 45 = .ok (.invokevirtual 174, 3) := by decide +kernel
theorem dX6_part_48 : decode cX6_part 48 = .ok (.aload_n 0, 1) := by decide +kernel
theorem dX6_part_49 : decode cX6_part 49 = .ok (.getfield 161, 3) := by decide +kernel
theorem dX6_part_52 : decode cX6_part 52 = .ok (.ifCond .ne 7, 3) := by decide +kernel
theorem dX6_part_55 : decode cX6_part 55 = .ok (.aload_n 0, 1) := by decide +kernel
theorem dX6_part_56 : decode cX6_part 56 = .ok (.invokevirtual 177, 3) := by decide +kernel
theorem dX6_part_59 : decode cX6_part 59 = .ok (.iload_n 2, 1) := by decide +kernel
theorem dX6_part_60 : decode cX6_part 60 = .ok (.ireturn, 1) := by decide +kernel
theorem dX6_read_0 : decode cX6_read 0 = .ok (.aload_n 0, 1) := by decide +kernel
theorem dX6_read_1 : decode cX6_read 1 = .ok (.sipush 160, 3) := by decide +kernel
theorem dX6_read_4 : decode cX6_read 4 = .ok (.iload_n 1, 1) := by decide +kernel
theorem dX6_read_5 : decode cX6_read 5 = .ok (.imul, 1) := by decide +kernel
theorem dX6_read_6 : decode cX6_read 6 = .ok (.putfield 131, 3) := by decide +kernel
theorem dX6_read_9 : decode cX6_read 9 = .ok (.aload_n 0, 1) := by decide +kernel
theorem dX6_read_10 : decode cX6_read 10 = .ok (.aload_n 0, 1) := by decide +kernel
theorem dX6_read_11 : decode cX6_read 11 = .ok (.getfield 17, 3) := by decide +kernel
theorem dX6_read_14 : decode cX6_read 14 = .ok (.iload_n 1, 1) := by decide +kernel
theorem dX6_read_15 : decode cX6_read 15 = .ok (.iaload, 1) := by decide +kernel
theorem dX6_read_16 : decode cX6_read 16 = .ok (.putfield 128, 3) := by decide +kernel
theorem dX6_read_19 : decode cX6_read 19 = .ok (.aload_n 0, 1) := by decide +kernel
theorem dX6_read_20 : decode cX6_read 20 = .ok (.iconst 0, 1) := by decide +kernel
theorem dX6_read_21 : decode cX6_read 21 = .ok (.putfield 134, 3) := by decide +kernel
theorem dX6_read_24 : decode cX6_read 24 = .ok (.aload_n 0, 1) := by decide +kernel
theorem dX6_read_25 : decode cX6_read 25 = .ok (.iconst 0, 1) := by decide +kernel
theorem dX6_read_26 : decode cX6_read 26 = .ok (.putfield 171, 3) := by decide +kernel
theorem dX6_read_29 : decode cX6_read 29 = .ok (.aload_n 0, 1) := by decide +kernel
theorem dX6_read_30 : decode cX6_read 30 = .ok (.iconst 0, 1) := by decide +kernel
theorem dX6_read_31 : decode cX6_read 31 = .ok (.putfield 161, 3) := by decide +kernel
theorem dX6_read_34 : decode cX6_read 34 = .ok (.aload_n 0, 1) := by decide +kernel
theorem dX6_read_35 : decode cX6_read 35 = .ok (.invokevirtual 177, 3) := by decide +kernel
theorem dX6_read_38 : decode cX6_read 38 = .ok (.aload_n 0, 1) := by decide +kernel
theorem dX6_read_39 : decode cX6_read 39 = .ok (.aload_n 0, 1) := by decide +kernel
theorem dX6_read_40 : decode cX6_read 40 = .ok (.bipush 103, 2) := by decide +kernel
theorem dX6_read_42 : decode cX6_read 42 = .ok (.bipush 97, 2) := by decide +kernel
theorem dX6_read_44 : decode cX6_read 44 = .ok (.bipush 105, 2) := by decide +kernel
theorem dX6_read_46 : decode cX6_read 46 = .ok (.bipush 110, 2) := by decide +kernel
theorem dX6_read_48 : decode cX6_read 48 = .ok (.bipush 115, 2) := by decide +kernel
theorem dX6_read_50 : decode cX6_read 50 = .ok (.iconst 0, 1) := by decide +kernel
theorem dX6_read_51 : decode cX6_read 51 = .ok (.iconst 0, 1) := by decide +kernel
theorem dX6_read_52 : decode cX6_read 52 = .ok (.iconst 0, 1) := by decide +kernel
theorem dX6_read_53 : decode cX6_read 53 = .ok (.invokevirtual 180, 3) := by decide +kernel
theorem dX6_read_56 : decode cX6_read 56 = .ok (.invokevirtual 325, 3) := by decide +kernel
theorem dX6_read_59 : decode cX6_read 59 = .ok (.istore_n 3, 1) := by decide +kernel
theorem dX6_read_60 : decode cX6_read 60 = .ok (.aload_n 0, 1) := by decide +kernel
theorem dX6_read_61 : decode cX6_read 61 = .ok (.getfield 161, 3) := by decide +kernel
theorem dX6_read_64 : decode cX6_read 64 = .ok (.ifCond .eq 7, 3) := by decide +kernel
theorem dX6_read_67 : decode cX6_read 67 = .ok (.iconst 0, 1) := by decide +kernel
theorem dX6_read_68 : decode cX6_read 68 = .ok (.goto 23, 3) := by decide +kernel
theorem dX6_read_71 : decode cX6_read 71 = .ok (.aload_n 0, 1) := by decide +kernel
theorem dX6_read_72 : decode cX6_read 72 = .ok (.aload_n 0, 1) := by decide +kernel
theorem dX6_read_73 : decode cX6_read 73 = .ok (.bipush 109, 2) := by decide +kernel
theorem dX6_read_75 : decode cX6_read 75 = .ok (.bipush 105, 2) := by decide +kernel
theorem dX6_read_77 : decode cX6_read 77 = .ok (.bipush 108, 2) := by decide +kernel
theorem dX6_read_79 : decode cX6_read 79 = .ok (.bipush 100, 2) := by decide +kernel
theorem dX6_read_81 : decode cX6_read 81 = .ok (.iconst 0, 1) := by decide +kernel
theorem dX6_read_82 : decode cX6_read 82 = .ok (.iconst 0, 1) := by decide +kernel
theorem dX6_read_83 : decode cX6_read 83 = .ok (.iconst 0, 1) := by decide +kernel
theorem dX6_read_84 : decode cX6_read 84 = .ok (.iconst 0, 1) := by decide +kernel
theorem dX6_read_85 : decode cX6_read 85 = .ok (.invokevirtual 180, 3) := by decide +kernel
theorem dX6_read_88 : decode cX6_read 88 = .ok (.invokevirtual 325, 3) := by decide +kernel
theorem dX6_read_91 : decode cX6_read 91 = .ok (.istore 4, 2) := by decide +kernel
theorem dX6_read_93 : decode cX6_read 93 = .ok (.aload_n 0, 1) := by decide +kernel
theorem dX6_read_94 : decode cX6_read 94 = .ok (.getfield 161, 3) := by decide +kernel
theorem dX6_read_97 : decode cX6_read 97 = .ok (.ifCond .eq 7, 3) := by decide +kernel
theorem dX6_read_100 : decode cX6_read 100 = .ok (.iconst 0, 1) := by decide +kernel
theorem dX6_read_101 : decode cX6_read 101 = .ok (.goto 23, 3) := by decide +kernel
theorem dX6_read_104 : decode cX6_read 104 = .ok (.aload_n 0, 1) := by decide +kernel
theorem dX6_read_105 : decode cX6_read 105 = .ok (.aload_n 0, 1) := by decide +kernel
theorem dX6_read_106 : decode cX6_read 106 = .ok (.bipush 109, 2) := by decide +kernel
theorem dX6_read_108 : decode cX6_read 108 = .ok (.bipush 111, 2) := by decide +kernel
theorem dX6_read_110 : decode cX6_read 110 = .ok (.bipush 115, 2) := by decide +kernel
theorem dX6_read_112 : decode cX6_read 112 = .ok (.bipush 116, 2) := by decide +kernel
theorem dX6_read_114 : decode cX6_read 114 = .ok (.iconst 0, 1) := by decide +kernel
theorem dX6_read_115 : decode cX6_read 115 = .ok (.iconst 0, 1) := by decide +kernel
theorem dX6_read_116 : decode cX6_read 116 = .ok (.iconst 0, 1) := by decide +kernel
theorem dX6_read_117 : decode cX6_read 117 = .ok (.iconst 0, 1) := by decide +kernel
theorem dX6_read_118 : decode cX6_read 118 = .ok (.invokevirtual 180, 3) := by decide +kernel
theorem dX6_read_121 : decode cX6_read 121 = .ok (.invokevirtual 325, 3) := by decide +kernel
theorem dX6_read_124 : decode cX6_read 124 = .ok (.istore 5, 2) := by decide +kernel
theorem dX6_read_126 : decode cX6_read 126 = .ok (.aload_n 0, 1) := by decide +kernel
theorem dX6_read_127 : decode cX6_read 127 = .ok (.getfield 161, 3) := by decide +kernel
theorem dX6_read_130 : decode cX6_read 130 = .ok (.ifCond .ne 14, 3) := by decide +kernel
theorem dX6_read_133 : decode cX6_read 133 = .ok (.aload_n 0, 1) := by decide +kernel
theorem dX6_read_134 : decode cX6_read 134 = .ok (.getfield 144, 3) := by decide +kernel
theorem dX6_read_137 : decode cX6_read 137 = .ok (.ifCond .eq 7, 3) := by decide +kernel
theorem dX6_read_140 : decode cX6_read 140 = .ok (.aload_n 0, 1) := by decide +kernel
theorem dX6_read_141 : decode cX6_read 141 = .ok (.invokevirtual 174, 3) := by decide +kernel
theorem dX6_read_144 : decode cX6_read 144 = .ok (.iload_n 2, 1) := by decide +kernel
theorem dX6_read_145 : decode cX6_read 145 = .ok (.ifCond .ne 7, 3) := by decide +kernel
theorem dX6_read_148 : decode cX6_read 148 = .ok (.iload_n 3, 1) := by decide +kernel
theorem dX6_read_149 : decode cX6_read 149 = .ok (.goto 15, 3) := by decide +kernel
theorem dX6_read_152 : decode cX6_read 152 = .ok (.iload_n 2, 1) := by decide +kernel
theorem dX6_read_153 : decode cX6_read 153 = .ok (.iconst 1, 1) := by decide +kernel
theorem dX6_read_154 : decode cX6_read 154 = .ok (.if_icmp .ne 8, 3) := by decide +kernel
theorem dX6_read_157 : decode cX6_read 157 = .ok (.iload 4, 2) := by decide +kernel
theorem dX6_read_159 : decode cX6_read 159 = .ok (.goto 5, 3) := by decide +kernel
theorem dX6_read_162 : decode cX6_read 162 = .ok (.iload 5, 2) := by decide +kernel
theorem dX6_read_164 : decode cX6_read 164 = .ok (.ireturn, 1) := by decide +kernel
theorem dX6_text_0 : decode cX6_text 0 = .ok (.aload_n 0, 1) := by decide +kernel
theorem dX6_text_1 : decode cX6_text 1 = .ok (.getfield 67, 3) := by decide +kernel
theorem dX6_text_4 : decode cX6_text 4 = .ok (.bipush 6, 2) := by decide +kernel
theorem dX6_text_6 : decode cX6_text 6 = .ok (.if_icmp .ne 6, 3) := by decide +kernel
theorem dX6_text_9 : decode cX6_text 9 = .ok (.bipush (-4), 2) := by decide +kernel
theorem dX6_text_11 : decode cX6_text 11 = .ok (.ireturn, 1) := by decide +kernel
theorem dX6_text_12 : decode cX6_text 12 = .ok (.iconst 0, 1) := by decide +kernel
theorem dX6_text_13 : decode cX6_text 13 = .ok (.istore_n 1, 1) := by decide +kernel
theorem dX6_text_14 : decode cX6_text 14 = .ok (.iload_n 1, 1) := by decide +kernel
theorem dX6_text_15 : decode cX6_text 15 = .ok (.aload_n 0, 1) := by decide +kernel
theorem dX6_text_16 : decode cX6_text 16 = .ok (.getfield 125, 3) := by decide +kernel
theorem dX6_text_19 : decode cX6_text 19 = .ok (.if_icmp .ge 30, 3) := by decide +kernel
theorem dX6_text_22 : decode cX6_text 22 = .ok (.aload_n 0, 1) := by decide +kernel
theorem dX6_text_23 : decode cX6_text 23 = .ok (.getfield 13, 3) := by decide +kernel
theorem dX6_text_26 : decode cX6_text 26 = .ok (.sipush 160, 3) := by decide +kernel
theorem dX6_text_29 : decode cX6_text 29 = .ok (.aload_n 0, 1) := by decide +kernel
theorem dX6_text_30 : decode cX6_text 30 = .ok (.getfield 67, 3) := by decide +kernel
theorem dX6_text_33 : decode cX6_text 33 = .ok (.imul, 1) := by decide +kernel
theorem dX6_text_34 : decode cX6_text 34 = .ok (.iload_n 1, 1) := by decide +kernel
theorem dX6_text_35 : decode cX6_text 35 = .ok (.iadd, 1) := by decide +kernel
theorem dX6_text_36 : decode cX6_text 36 = .ok (.aload_n 0, 1) := by decide +kernel
theorem dX6_text_37 : decode cX6_text 37 = .ok (.getfield 20, 3) := by decide +kernel
theorem dX6_text_40 : decode cX6_text 40 = .ok (.iload_n 1, 1) := by decide +kernel
theorem dX6_text_41 : decode cX6_text 41 = .ok (.iaload, 1) := by decide +kernel
theorem dX6_text_42 : decode cX6_text 42 = .ok (.iastore, 1) := by decide +kernel
theorem dX6_text_43 : decode cX6_text 43 = .ok (.iinc 1 1, 3) := by decide +kernel
theorem dX6_text_46 : decode cX6_text 46 = .ok (.goto (-32), 3) := by decide +kernel
theorem dX6_text_49 : decode cX6_text 49 = .ok (.aload_n 0, 1) := by decide +kernel
theorem dX6_text_50 : decode cX6_text 50 = .ok (.getfield 17, 3) := by decide +kernel
theorem dX6_text_53 : decode cX6_text 53 = .ok (.aload_n 0, 1) := by decide +kernel
theorem dX6_text_54 : decode cX6_text 54 = .ok (.getfield 67, 3) := by decide +kernel
theorem dX6_text_57 : decode cX6_text 57 = .ok (.aload_n 0, 1) := by decide +kernel
theorem dX6_text_58 : decode cX6_text 58 = .ok (.getfield 125, 3) := by decide +kernel
theorem dX6_text_61 : decode cX6_text 61 = .ok (.iastore, 1) := by decide +kernel
theorem dX6_text_62 : decode cX6_text 62 = .ok (.aload_n 0, 1) := by decide +kernel
theorem dX6_text_63 : decode cX6_text 63 = .ok (.iconst 0, 1) := by decide +kernel
theorem dX6_text_64 : decode cX6_text 64 = .ok (.putfield 125, 3) := by decide +kernel
theorem dX6_text_67 : decode cX6_text 67 = .ok (.aload_n 0, 1) := by decide +kernel
theorem dX6_text_68 : decode cX6_text 68 = .ok (.aload_n 0, 1) := by decide +kernel
theorem dX6_text_69 : decode cX6_text 69 = .ok (.getfield 67, 3) := by decide +kernel
theorem dX6_text_72 : decode cX6_text 72 = .ok (.iconst 0, 1) := by decide +kernel
theorem dX6_text_73 : decode cX6_text 73 = .ok (.invokevirtual 329, 3) := by decide +kernel
theorem dX6_text_76 : decode cX6_text 76 = .ok (.istore_n 1, 1) := by decide +kernel
theorem dX6_text_77 : decode cX6_text 77 = .ok (.aload_n 0, 1) := by decide +kernel
theorem dX6_text_78 : decode cX6_text 78 = .ok (.getfield 161, 3) := by decide +kernel
theorem dX6_text_81 : decode cX6_text 81 = .ok (.ifCond .eq 11, 3) := by decide +kernel
theorem dX6_text_84 : decode cX6_text 84 = .ok (.bipush (-100), 2) := by decide +kernel
theorem dX6_text_86 : decode cX6_text 86 = .ok (.aload_n 0, 1) := by decide +kernel
theorem dX6_text_87 : decode cX6_text 87 = .ok (.getfield 165, 3) := by decide +kernel
theorem dX6_text_90 : decode cX6_text 90 = .ok (.isub, 1) := by decide +kernel
theorem dX6_text_91 : decode cX6_text 91 = .ok (.ireturn, 1) := by decide +kernel
theorem dX6_text_92 : decode cX6_text 92 = .ok (.aload_n 0, 1) := by decide +kernel
theorem dX6_text_93 : decode cX6_text 93 = .ok (.dup, 1) := by decide +kernel
theorem dX6_text_94 : decode cX6_text 94 = .ok (.getfield 67, 3) := by decide +kernel
theorem dX6_text_97 : decode cX6_text 97 = .ok (.iconst 1, 1) := by decide +kernel
theorem dX6_text_98 : decode cX6_text 98 = .ok (.iadd, 1) := by decide +kernel
theorem dX6_text_99 : decode cX6_text 99 = .ok (.putfield 67, 3) := by decide +kernel
theorem dX6_text_102 : decode cX6_text 102 = .ok (.aload_n 0, 1) := by decide +kernel
theorem dX6_text_103 : decode cX6_text 103 = .ok (.getfield 67, 3) := by decide +kernel
theorem dX6_text_106 : decode cX6_text 106 = .ok (.iconst 1, 1) := by decide +kernel
theorem dX6_text_107 : decode cX6_text 107 = .ok (.isub, 1) := by decide +kernel
theorem dX6_text_108 : decode cX6_text 108 = .ok (.ireturn, 1) := by decide +kernel
theorem dX6_force_0 : decode cX6_force 0 = .ok (.iload_n 1, 1) := by decide +kernel
theorem dX6_force_1 : decode cX6_force 1 = .ok (.i2l, 1) := by decide +kernel
theorem dX6_force_2 : decode cX6_force 2 = .ok (.lconst 0, 1) := by decide +kernel
theorem dX6_force_3 : decode cX6_force 3 = .ok (.aload_n 0, 1) := by decide +kernel
theorem dX6_force_4 : decode cX6_force 4 = .ok (.getfield 67, 3) := by decide +kernel
theorem dX6_force_7 : decode cX6_force 7 = .ok (.iconst 1, 1) := by decide +kernel
theorem dX6_force_8 : decode cX6_force 8 = .ok (.isub, 1) := by decide +kernel
theorem dX6_force_9 : decode cX6_force 9 = .ok (.i2l, 1) := by decide +kernel
theorem dX6_force_10 : decode cX6_force 10 = .ok (.invokestatic 73, 3) := by decide +kernel
theorem dX6_force_13 : decode cX6_force 13 = .ok (.ifCond .ne 6, 3) := by decide +kernel
theorem dX6_force_16 : decode cX6_force 16 = .ok (.bipush (-2), 2) := by decide +kernel
theorem dX6_force_18 : decode cX6_force 18 = .ok (.ireturn, 1) := by decide +kernel
theorem dX6_force_19 : decode cX6_force 19 = .ok (.aload_n 0, 1) := by decide +kernel
theorem dX6_force_20 : decode cX6_force 20 = .ok (.getfield 107, 3) := by decide +kernel
theorem dX6_force_23 : decode cX6_force 23 = .ok (.istore_n 2, 1) := by decide +kernel
theorem dX6_force_24 : decode cX6_force 24 = .ok (.aload_n 0, 1) := by decide +kernel
theorem dX6_force_25 : decode cX6_force 25 = .ok (.iload_n 1, 1) := by decide +kernel
theorem dX6_force_26 : decode cX6_force 26 = .ok (.putfield 107, 3) := by decide +kernel
theorem dX6_force_29 : decode cX6_force 29 = .ok (.iload_n 2, 1) := by decide +kernel
theorem dX6_force_30 : decode cX6_force 30 = .ok (.ireturn, 1) := by decide +kernel
theorem dX6_says_0 : decode cX6_says 0 = .ok (.aload_n 0, 1) := by decide +kernel
theorem dX6_says_1 : decode cX6_says 1 = .ok (.aload_n 0, 1) := by decide +kernel
theorem dX6_says_2 : decode cX6_says 2 = .ok (.getfield 23, 3) := by decide +kernel
theorem dX6_says_5 : decode cX6_says 5 = .ok (.iload_n 2, 1) := by decide +kernel
theorem dX6_says_6 : decode cX6_says 6 = .ok (.iaload, 1) := by decide +kernel
theorem dX6_says_7 : decode cX6_says 7 = .ok (.putfield 184, 3) := by decide +kernel
theorem dX6_says_10 : decode cX6_says 10 = .ok (.aload_n 0, 1) := by decide +kernel
theorem dX6_says_11 : decode cX6_says 11 = .ok (.iload_n 2, 1) := by decide +kernel
theorem dX6_says_12 : decode cX6_says 12 = .ok (.putfield 187, 3) := by decide +kernel
theorem dX6_says_15 : decode cX6_says 15 = .ok (.aload_n 0, 1) := by decide +kernel
theorem dX6_says_16 : decode cX6_says 16 = .ok (.iload_n 3, 1) := by decide +kernel
theorem dX6_says_17 : decode cX6_says 17 = .ok (.putfield 190, 3) := by decide +kernel
theorem dX6_says_20 : decode cX6_says 20 = .ok (.aload_n 0, 1) := by decide +kernel
theorem dX6_says_21 : decode cX6_says 21 = .ok (.iload 4, 2) := by decide +kernel
theorem dX6_says_23 : decode cX6_says 23 = .ok (.putfield 193, 3) := by decide +kernel
theorem dX6_says_26 : decode cX6_says 26 = .ok (.aload_n 0, 1) := by decide +kernel
theorem dX6_says_27 : decode cX6_says 27 = .ok (.iload 5, 2) := by decide +kernel
theorem dX6_says_29 : decode cX6_says 29 = .ok (.putfield 196, 3) := by decide +kernel
theorem dX6_says_32 : decode cX6_says 32 = .ok (.aload_n 0, 1) := by decide +kernel
theorem dX6_says_33 : decode cX6_says 33 = .ok (.aload_n 0, 1) := by decide +kernel
theorem dX6_says_34 : decode cX6_says 34 = .ok (.getfield 70, 3) := by decide +kernel
theorem dX6_says_37 : decode cX6_says 37 = .ok (.putfield 199, 3) := by decide +kernel
theorem dX6_says_40 : decode cX6_says 40 = .ok (.aload_n 0, 1) := by decide +kernel
theorem dX6_says_41 : decode cX6_says 41 = .ok (.aload_n 0, 1) := by decide +kernel
theorem dX6_says_42 : decode cX6_says 42 = .ok (.getfield 107, 3) := by decide +kernel
theorem dX6_says_45 : decode cX6_says 45 = .ok (.iload_n 1, 1) := by decide +kernel
theorem dX6_says_46 : decode cX6_says 46 = .ok (.invokevirtual 329, 3) := by decide +kernel
theorem dX6_says_49 : decode cX6_says 49 = .ok (.istore 6, 2) := by decide +kernel
theorem dX6_says_51 : decode cX6_says 51 = .ok (.iload_n 1, 1) := by decide +kernel
theorem dX6_says_52 : decode cX6_says 52 = .ok (.iconst 2, 1) := by decide +kernel
theorem dX6_says_53 : decode cX6_says 53 = .ok (.if_icmp .ne 14, 3) := by decide +kernel
theorem dX6_says_56 : decode cX6_says 56 = .ok (.iload 6, 2) := by decide +kernel
theorem dX6_says_58 : decode cX6_says 58 = .ok (.iconst 1, 1) := by decide +kernel
theorem dX6_says_59 : decode cX6_says 59 = .ok (.bipush 30, 2) := by decide +kernel
theorem dX6_says_61 : decode cX6_says 61 = .ok (.invokestatic 332, 3) := by decide +kernel
theorem dX6_says_64 : decode cX6_says 64 = .ok (.goto 12, 3) := by decide +kernel
theorem dX6_says_67 : decode cX6_says 67 = .ok (.iload 6, 2) := by decide +kernel
theorem dX6_says_69 : decode cX6_says 69 = .ok (.bipush (-99), 2) := by decide +kernel
theorem dX6_says_71 : decode cX6_says 71 = .ok (.bipush 99, 2) := by decide +kernel
theorem dX6_says_73 : decode cX6_says 73 = .ok (.invokestatic 332, 3) := by decide +kernel
theorem dX6_says_76 : decode cX6_says 76 = .ok (.ireturn, 1) := by decide +kernel
theorem dX6_mostOf_0 : decode cX6_mostOf 0 = .ok (.aload_n 0, 1) := by decide +kernel
theorem dX6_mostOf_1 : decode cX6_mostOf 1 = .ok (.iconst 2, 1) := by decide +kernel
theorem dX6_mostOf_2 : decode cX6_mostOf 2 = .ok (.iload_n 1, 1) := by decide +kernel
theorem dX6_mostOf_3 : decode cX6_mostOf 3 = .ok (.iconst 0, 1) := by decide +kernel
theorem dX6_mostOf_4 : decode cX6_mostOf 4 = .ok (.iconst 0, 1) := by decide +kernel
theorem dX6_mostOf_5 : decode cX6_mostOf 5 = .ok (.iload_n 2, 1) := by decide +kernel
theorem dX6_mostOf_6 : decode cX6_mostOf 6 = .ok (.invokevirtual 336, 3) := by decide +kernel
theorem dX6_mostOf_9 : decode cX6_mostOf 9 = .ok (.ireturn, 1) := by decide +kernel
theorem dX6_hasBy_0 : decode cX6_hasBy 0 = .ok (.aload_n 0, 1) := by decide +kernel
theorem dX6_hasBy_1 : decode cX6_hasBy 1 = .ok (.getfield 26, 3) := by decide +kernel
theorem dX6_hasBy_4 : decode cX6_hasBy 4 = .ok (.iload_n 1, 1) := by decide +kernel
theorem dX6_hasBy_5 : decode cX6_hasBy 5 = .ok (.iaload, 1) := by decide +kernel
theorem dX6_hasBy_6 : decode cX6_hasBy 6 = .ok (.istore 5, 2) := by decide +kernel
theorem dX6_hasBy_8 : decode cX6_hasBy 8 = .ok (.aload_n 0, 1) := by decide +kernel
theorem dX6_hasBy_9 : decode cX6_hasBy 9 = .ok (.getfield 29, 3) := by decide +kernel
theorem dX6_hasBy_12 : decode cX6_hasBy 12 = .ok (.iconst 2, 1) := by decide +kernel
theorem dX6_hasBy_13 : decode cX6_hasBy 13 = .ok (.iload_n 1, 1) := by decide +kernel
theorem dX6_hasBy_14 : decode cX6_hasBy 14 = .ok (.imul, 1) := by decide +kernel
theorem dX6_hasBy_15 : decode cX6_hasBy 15 = .ok (.iaload, 1) := by decide +kernel
theorem dX6_hasBy_16 : decode cX6_hasBy 16 = .ok (.istore 6, 2) := by decide +kernel
theorem dX6_hasBy_18 : decode cX6_hasBy 18 = .ok (.aload_n 0, 1) := by decide +kernel
theorem dX6_hasBy_19 : decode cX6_hasBy 19 = .ok (.getfield 23, 3) := by decide +kernel
theorem dX6_hasBy_22 : decode cX6_hasBy 22 = .ok (.iload_n 2, 1) := by decide +kernel
theorem dX6_hasBy_23 : decode cX6_hasBy 23 = .ok (.iaload, 1) := by decide +kernel
theorem dX6_hasBy_24 : decode cX6_hasBy 24 = .ok (.istore 7, 2) := by decide +kernel
theorem dX6_hasBy_26 : decode cX6_hasBy 26 = .ok (.aload_n 0, 1) := by decide +kernel
theorem dX6_hasBy_27 : decode cX6_hasBy 27 = .ok (.getfield 29, 3) := by decide +kernel
theorem dX6_hasBy_30 : decode cX6_hasBy 30 = .ok (.iconst 2, 1) := by decide +kernel
theorem dX6_hasBy_31 : decode cX6_hasBy 31 = .ok (.iload_n 1, 1) := by decide +kernel
theorem dX6_hasBy_32 : decode cX6_hasBy 32 = .ok (.imul, 1) := by decide +kernel
theorem dX6_hasBy_33 : decode cX6_hasBy 33 = .ok (.iconst 1, 1) := by decide +kernel
theorem dX6_hasBy_34 : decode cX6_hasBy 34 = .ok (.iadd, 1) := by decide +kernel
theorem dX6_hasBy_35 : decode cX6_hasBy 35 = .ok (.iaload, 1) := by decide +kernel
theorem dX6_hasBy_36 : decode cX6_hasBy 36 = .ok (.iload_n 3, 1) := by decide +kernel
theorem dX6_hasBy_37 : decode cX6_hasBy 37 = .ok (.if_icmp .ne 117, 3) := by decide +kernel
theorem dX6_hasBy_40 : decode cX6_hasBy 40 = .ok (.iload 5, 2) := by decide +kernel
theorem dX6_hasBy_42 : decode cX6_hasBy 42 = .ok (.iconst 5, 1) := by decide +kernel
theorem dX6_hasBy_43 : decode cX6_hasBy 43 = .ok (.if_icmp .ne 7, 3) := by decide +kernel
theorem dX6_hasBy_46 : decode cX6_hasBy 46 = .ok (.iload 7, 2) := by decide +kernel
theorem dX6_hasBy_48 : decode cX6_hasBy 48 = .ok (.ineg, 1) := by decide +kernel
theorem dX6_hasBy_49 : decode cX6_hasBy 49 = .ok (.ireturn, 1) := by decide +kernel
theorem dX6_hasBy_50 : decode cX6_hasBy 50 = .ok (.aload_n 0, 1) := by decide +kernel
theorem dX6_hasBy_51 : decode cX6_hasBy 51 = .ok (.iconst 0, 1) := by decide +kernel
theorem dX6_hasBy_52 : decode cX6_hasBy 52 = .ok (.iload_n 2, 1) := by decide +kernel
theorem dX6_hasBy_53 : decode cX6_hasBy 53 = .ok (.iload 6, 2) := by decide +kernel
theorem dX6_hasBy_55 : decode cX6_hasBy 55 = .ok (.iload 4, 2) := by decide +kernel
theorem dX6_hasBy_57 : decode cX6_hasBy 57 = .ok (.iload_n 3, 1) := by decide +kernel
theorem dX6_hasBy_58 : decode cX6_hasBy 58 = .ok (.invokevirtual 336, 3) := by decide +kernel
theorem dX6_hasBy_61 : decode cX6_hasBy 61 = .ok (.istore 8, 2) := by decide +kernel
theorem dX6_hasBy_63 : decode cX6_hasBy 63 = .ok (.iload 5, 2) := by decide +kernel
theorem dX6_hasBy_65 : decode cX6_hasBy 65 = .ok (.iconst 2, 1) := by decide +kernel
theorem dX6_hasBy_66 : decode cX6_hasBy 66 = .ok (.if_icmp .eq 9, 3) := by decide +kernel
theorem dX6_hasBy_69 : decode cX6_hasBy 69 = .ok (.iload 5, 2) := by decide +kernel
theorem dX6_hasBy_71 : decode cX6_hasBy 71 = .ok (.iconst 4, 1) := by decide +kernel
theorem dX6_hasBy_72 : decode cX6_hasBy 72 = .ok (.if_icmp .ne 31, 3) := by decide +kernel
theorem dX6_hasBy_75 : decode cX6_hasBy 75 = .ok (.iload 7, 2) := by decide +kernel
theorem dX6_hasBy_77 : decode cX6_hasBy 77 = .ok (.iconst 4, 1) := by decide +kernel
theorem dX6_hasBy_78 : decode cX6_hasBy 78 = .ok (.if_icmp .le 23, 3) := by decide +kernel
theorem dX6_hasBy_81 : decode cX6_hasBy 81 = .ok (.iload 5, 2) := by decide +kernel
theorem dX6_hasBy_83 : decode cX6_hasBy 83 = .ok (.iconst 4, 1) := by decide +kernel
theorem dX6_hasBy_84 : decode cX6_hasBy 84 = .ok (.if_icmp .ne 11, 3) := by decide +kernel
theorem dX6_hasBy_87 : decode cX6_hasBy 87 = .ok (.bipush (-2), 2) := by decide +kernel
theorem dX6_hasBy_89 : decode cX6_hasBy 89 = .ok (.iload 8, 2) := by decide +kernel
theorem dX6_hasBy_91 : decode cX6_hasBy 91 = .ok (.imul, 1) := by decide +kernel
theorem dX6_hasBy_92 : decode cX6_hasBy 92 = .ok (.goto 10, 3) := by decide +kernel
theorem dX6_hasBy_95 : decode cX6_hasBy 95 = .ok (.iload 8, 2) := by decide +kernel
theorem dX6_hasBy_97 : decode cX6_hasBy 97 = .ok (.ineg, 1) := by decide +kernel
theorem dX6_hasBy_98 : decode cX6_hasBy 98 = .ok (.goto 4, 3) := by decide +kernel
theorem dX6_hasBy_101 : decode cX6_hasBy 101 = .ok (.iconst 0, 1) := by decide +kernel
theorem dX6_hasBy_102 : decode cX6_hasBy 102 = .ok (.ireturn, 1) := by decide +kernel
theorem dX6_hasBy_103 : decode cX6_hasBy 103 = .ok (.iload 4, 2) := by decide +kernel
theorem dX6_hasBy_105 : decode cX6_hasBy 105 = .ok (.iconst 1, 1) := by decide +kernel
theorem dX6_hasBy_106 : decode cX6_hasBy 106 = .ok (.if_icmp .le 10, 3) := by decide +kernel
theorem dX6_hasBy_109 : decode cX6_hasBy 109 = .ok (.iconst 2, 1) := by decide +kernel
theorem dX6_hasBy_110 : decode cX6_hasBy 110 = .ok (.iload 8, 2) := by decide +kernel
theorem dX6_hasBy_112 : decode cX6_hasBy 112 = .ok (.imul, 1) := by decide +kernel
theorem dX6_hasBy_113 : decode cX6_hasBy 113 = .ok (.goto 5, 3) := by decide +kernel
theorem dX6_hasBy_116 : decode cX6_hasBy 116 = .ok (.iload 8, 2) := by decide +kernel
theorem dX6_hasBy_118 : decode cX6_hasBy 118 = .ok (.istore 9, 2) := by decide +kernel
theorem dX6_hasBy_120 : decode cX6_hasBy 120 = .ok (.iload 5, 2) := by decide +kernel
theorem dX6_hasBy_122 : decode cX6_hasBy 122 = .ok (.ifCond .ne 8, 3) := by decide +kernel
theorem dX6_hasBy_125 : decode cX6_hasBy 125 = .ok (.iload 8, 2) := by decide +kernel
theorem dX6_hasBy_127 : decode cX6_hasBy 127 = .ok (.goto 26, 3) := by decide +kernel
theorem dX6_hasBy_130 : decode cX6_hasBy 130 = .ok (.iload 5, 2) := by decide +kernel
theorem dX6_hasBy_132 : decode cX6_hasBy 132 = .ok (.iconst 3, 1) := by decide +kernel
theorem dX6_hasBy_133 : decode cX6_hasBy 133 = .ok (.if_icmp .ne 18, 3) := by decide +kernel
theorem dX6_hasBy_136 : decode cX6_hasBy 136 = .ok (.iload 7, 2) := by decide +kernel
theorem dX6_hasBy_138 : decode cX6_hasBy 138 = .ok (.bipush 6, 2) := by decide +kernel
theorem dX6_hasBy_140 : decode cX6_hasBy 140 = .ok (.if_icmp .le 11, 3) := by decide +kernel
theorem dX6_hasBy_143 : decode cX6_hasBy 143 = .ok (.iload 9, 2) := by decide +kernel
theorem dX6_hasBy_145 : decode cX6_hasBy 145 = .ok (.iload 6, 2) := by decide +kernel
theorem dX6_hasBy_147 : decode cX6_hasBy 147 = .ok (.iadd, 1) := by decide +kernel
theorem dX6_hasBy_148 : decode cX6_hasBy 148 = .ok (.goto 5, 3) := by decide +kernel
theorem dX6_hasBy_151 : decode cX6_hasBy 151 = .ok (.iload 9, 2) := by decide +kernel
theorem dX6_hasBy_153 : decode cX6_hasBy 153 = .ok (.ireturn, 1) := by decide +kernel
theorem dX6_hasBy_154 : decode cX6_hasBy 154 = .ok (.iload 5, 2) := by decide +kernel
theorem dX6_hasBy_156 : decode cX6_hasBy 156 = .ok (.iconst 1, 1) := by decide +kernel
theorem dX6_hasBy_157 : decode cX6_hasBy 157 = .ok (.if_icmp .eq 9, 3) := by decide +kernel
theorem dX6_hasBy_160 : decode cX6_hasBy 160 = .ok (.iload 5, 2) := by decide +kernel
theorem dX6_hasBy_162 : decode cX6_hasBy 162 = .ok (.iconst 3, 1) := by decide +kernel
theorem dX6_hasBy_163 : decode cX6_hasBy 163 = .ok (.if_icmp .ne 17, 3) := by decide +kernel
theorem dX6_hasBy_166 : decode cX6_hasBy 166 = .ok (.iload 5, 2) := by decide +kernel
theorem dX6_hasBy_168 : decode cX6_hasBy 168 = .ok (.iconst 1, 1) := by decide +kernel
theorem dX6_hasBy_169 : decode cX6_hasBy 169 = .ok (.if_icmp .ne 7, 3) := by decide +kernel
theorem dX6_hasBy_172 : decode cX6_hasBy 172 = .ok (.iconst 0, 1) := by decide +kernel
theorem dX6_hasBy_173 : decode cX6_hasBy 173 = .ok (.goto 6, 3) := by decide +kernel
theorem dX6_hasBy_176 : decode cX6_hasBy 176 = .ok (.iload 6, 2) := by decide +kernel
theorem dX6_hasBy_178 : decode cX6_hasBy 178 = .ok (.ineg, 1) := by decide +kernel
theorem dX6_hasBy_179 : decode cX6_hasBy 179 = .ok (.ireturn, 1) := by decide +kernel
theorem dX6_hasBy_180 : decode cX6_hasBy 180 = .ok (.aload_n 0, 1) := by decide +kernel
theorem dX6_hasBy_181 : decode cX6_hasBy 181 = .ok (.iconst 1, 1) := by decide +kernel
theorem dX6_hasBy_182 : decode cX6_hasBy 182 = .ok (.iload_n 2, 1) := by decide +kernel
theorem dX6_hasBy_183 : decode cX6_hasBy 183 = .ok (.iload 6, 2) := by decide +kernel
theorem dX6_hasBy_185 : decode cX6_hasBy 185 = .ok (.iload 4, 2) := by decide +kernel
theorem dX6_hasBy_187 : decode cX6_hasBy 187 = .ok (.iload_n 3, 1) := by decide +kernel
theorem dX6_hasBy_188 : decode cX6_hasBy 188 = .ok (.invokevirtual 336, 3) := by decide +kernel
theorem dX6_hasBy_191 : decode cX6_hasBy 191 = .ok (.istore 8, 2) := by decide +kernel
theorem dX6_hasBy_193 : decode cX6_hasBy 193 = .ok (.iload 5, 2) := by decide +kernel
theorem dX6_hasBy_195 : decode cX6_hasBy 195 = .ok (.iconst 4, 1) := by decide +kernel
theorem dX6_hasBy_196 : decode cX6_hasBy 196 = .ok (.if_icmp .ne 11, 3) := by decide +kernel
theorem dX6_hasBy_199 : decode cX6_hasBy 199 = .ok (.iload 8, 2) := by decide +kernel
theorem dX6_hasBy_201 : decode cX6_hasBy 201 = .ok (.iload 6, 2) := by decide +kernel
theorem dX6_hasBy_203 : decode cX6_hasBy 203 = .ok (.iadd, 1) := by decide +kernel
theorem dX6_hasBy_204 : decode cX6_hasBy 204 = .ok (.goto 18, 3) := by decide +kernel
theorem dX6_hasBy_207 : decode cX6_hasBy 207 = .ok (.iload 5, 2) := by decide +kernel
theorem dX6_hasBy_209 : decode cX6_hasBy 209 = .ok (.iconst 5, 1) := by decide +kernel
theorem dX6_hasBy_210 : decode cX6_hasBy 210 = .ok (.if_icmp .ne 10, 3) := by decide +kernel
theorem dX6_hasBy_213 : decode cX6_hasBy 213 = .ok (.iload 8, 2) := by decide +kernel
theorem dX6_hasBy_215 : decode cX6_hasBy 215 = .ok (.iconst 2, 1) := by decide +kernel
theorem dX6_hasBy_216 : decode cX6_hasBy 216 = .ok (.iadd, 1) := by decide +kernel
theorem dX6_hasBy_217 : decode cX6_hasBy 217 = .ok (.goto 5, 3) := by decide +kernel
theorem dX6_hasBy_220 : decode cX6_hasBy 220 = .ok (.iload 8, 2) := by decide +kernel
theorem dX6_hasBy_222 : decode cX6_hasBy 222 = .ok (.ireturn, 1) := by decide +kernel
theorem dX6_hasOf_0 : decode cX6_hasOf 0 = .ok (.aload_n 0, 1) := by decide +kernel
theorem dX6_hasOf_1 : decode cX6_hasOf 1 = .ok (.iload_n 2, 1) := by decide +kernel
theorem dX6_hasOf_2 : decode cX6_hasOf 2 = .ok (.iload_n 3, 1) := by decide +kernel
theorem dX6_hasOf_3 : decode cX6_hasOf 3 = .ok (.iload_n 1, 1) := by decide +kernel
theorem dX6_hasOf_4 : decode cX6_hasOf 4 = .ok (.iload_n 3, 1) := by decide +kernel
theorem dX6_hasOf_5 : decode cX6_hasOf 5 = .ok (.invokestatic 117, 3) := by decide +kernel
theorem dX6_hasOf_8 : decode cX6_hasOf 8 = .ok (.iload_n 1, 1) := by decide +kernel
theorem dX6_hasOf_9 : decode cX6_hasOf 9 = .ok (.iload_n 3, 1) := by decide +kernel
theorem dX6_hasOf_10 : decode cX6_hasOf 10 = .ok (.invokestatic 114, 3) := by decide +kernel
theorem dX6_hasOf_13 : decode cX6_hasOf 13 = .ok (.invokevirtual 340, 3) := by decide +kernel
theorem dX6_hasOf_16 : decode cX6_hasOf 16 = .ok (.ireturn, 1) := by decide +kernel
theorem dX6_has_0 : decode cX6_has 0 = .ok (.aload_n 0, 1) := by decide +kernel
theorem dX6_has_1 : decode cX6_has 1 = .ok (.iload_n 1, 1) := by decide +kernel
theorem dX6_has_2 : decode cX6_has 2 = .ok (.invokevirtual 83, 3) := by decide +kernel
theorem dX6_has_5 : decode cX6_has 5 = .ok (.ifCond .eq 23, 3) := by decide +kernel
theorem dX6_has_8 : decode cX6_has 8 = .ok (.iload_n 2, 1) := by decide +kernel
theorem dX6_has_9 : decode cX6_has 9 = .ok (.invokestatic 79, 3) := by decide +kernel
theorem dX6_has_12 : decode cX6_has 12 = .ok (.ifCond .eq 16, 3) := by decide +kernel
theorem dX6_has_15 : decode cX6_has 15 = .ok (.aload_n 0, 1) := by decide +kernel
theorem dX6_has_16 : decode cX6_has 16 = .ok (.aload_n 0, 1) := by decide +kernel
theorem dX6_has_17 : decode cX6_has 17 = .ok (.getfield 104, 3) := by decide +kernel
theorem dX6_has_20 : decode cX6_has 20 = .ok (.iload_n 1, 1) := by decide +kernel
theorem dX6_has_21 : decode cX6_has 21 = .ok (.iload_n 2, 1) := by decide +kernel
theorem dX6_has_22 : decode cX6_has 22 = .ok (.invokevirtual 344, 3) := by decide +kernel
theorem dX6_has_25 : decode cX6_has 25 = .ok (.goto 6, 3) := by decide +kernel
theorem dX6_has_28 : decode cX6_has 28 = .ok (.ldc_w 347, 3) := by decide +kernel
theorem dX6_has_31 : decode cX6_has 31 = .ok (.ireturn, 1) := by decide +kernel
theorem dX6_hasAll_0 : decode cX6_hasAll 0 = .ok (.iconst 0, 1) := by decide +kernel
theorem dX6_hasAll_1 : decode cX6_hasAll 1 = .ok (.istore_n 3, 1) := by decide +kernel
theorem dX6_hasAll_2 : decode cX6_hasAll 2 = .ok (.iconst 0, 1) := by decide +kernel
theorem dX6_hasAll_3 : decode cX6_hasAll 3 = .ok (.istore 4, 2) := by decide +kernel
theorem dX6_hasAll_5 : decode cX6_hasAll 5 = .ok (.iload 4, 2) := by decide +kernel
theorem dX6_hasAll_7 : decode cX6_hasAll 7 = .ok (.bipush 30, 2) := by decide +kernel
theorem dX6_hasAll_9 : decode cX6_hasAll 9 = .ok (.if_icmp .ge 20, 3) := by decide +kernel
theorem dX6_hasAll_12 : decode cX6_hasAll 12 = .ok (.iload_n 3, 1) := by decide +kernel
theorem dX6_hasAll_13 : decode cX6_hasAll 13 = .ok (.aload_n 0, 1) := by decide +kernel
theorem dX6_hasAll_14 : decode cX6_hasAll 14 = .ok (.iload_n 1, 1) := by decide +kernel
theorem dX6_hasAll_15 : decode cX6_hasAll 15 = .ok (.iload_n 2, 1) := by decide +kernel
theorem dX6_hasAll_16 : decode cX6_hasAll 16 = .ok (.iload 4, 2) := by decide +kernel
theorem dX6_hasAll_18 : decode cX6_hasAll 18 = .ok (.invokevirtual 344, 3) := by decide +kernel
theorem dX6_hasAll_21 : decode cX6_hasAll 21 = .ok (.iadd, 1) := by decide +kernel
theorem dX6_hasAll_22 : decode cX6_hasAll 22 = .ok (.istore_n 3, 1) := by decide +kernel
theorem dX6_hasAll_23 : decode cX6_hasAll 23 = .ok (.iinc 4 1, 3) := by decide +kernel
theorem dX6_hasAll_26 : decode cX6_hasAll 26 = .ok (.goto (-21), 3) := by decide +kernel
theorem dX6_hasAll_29 : decode cX6_hasAll 29 = .ok (.iload_n 3, 1) := by decide +kernel
theorem dX6_hasAll_30 : decode cX6_hasAll 30 = .ok (.ireturn, 1) := by decide +kernel
theorem dX6_worthBy_0 : decode cX6_worthBy 0 = .ok (.iconst 0, 1) := by decide +kernel
theorem dX6_worthBy_1 : decode cX6_worthBy 1 = .ok (.istore_n 3, 1) := by decide +kernel
theorem dX6_worthBy_2 : decode cX6_worthBy 2 = .ok (.iconst 0, 1) := by decide +kernel
theorem dX6_worthBy_3 : decode cX6_worthBy 3 = .ok (.istore 4, 2) := by decide +kernel
theorem dX6_worthBy_5 : decode cX6_worthBy 5 = .ok (.iload 4, 2) := by decide +kernel
theorem dX6_worthBy_7 : decode cX6_worthBy 7 = .ok (.aload_n 0, 1) := by decide +kernel
theorem dX6_worthBy_8 : decode cX6_worthBy 8 = .ok (.getfield 70, 3) := by decide +kernel
theorem dX6_worthBy_11 : decode cX6_worthBy 11 = .ok (.if_icmp .ge 43, 3) := by decide +kernel
theorem dX6_worthBy_14 : decode cX6_worthBy 14 = .ok (.iload_n 3, 1) := by decide +kernel
theorem dX6_worthBy_15 : decode cX6_worthBy 15 = .ok (.iload_n 2, 1) := by decide +kernel
theorem dX6_worthBy_16 : decode cX6_worthBy 16 = .ok (.iconst 2, 1) := by decide +kernel
theorem dX6_worthBy_17 : decode cX6_worthBy 17 = .ok (.if_icmp .eq 18, 3) := by decide +kernel
theorem dX6_worthBy_20 : decode cX6_worthBy 20 = .ok (.aload_n 0, 1) := by decide +kernel
theorem dX6_worthBy_21 : decode cX6_worthBy 21 = .ok (.getfield 29, 3) := by decide +kernel
theorem dX6_worthBy_24 : decode cX6_worthBy 24 = .ok (.iconst 2, 1) := by decide +kernel
theorem dX6_worthBy_25 : decode cX6_worthBy 25 = .ok (.iload 4, 2) := by decide +kernel
theorem dX6_worthBy_27 : decode cX6_worthBy 27 = .ok (.imul, 1) := by decide +kernel
theorem dX6_worthBy_28 : decode cX6_worthBy 28 = .ok (.iconst 1, 1) := by decide +kernel
theorem dX6_worthBy_29 : decode cX6_worthBy 29 = .ok (.iadd, 1) := by decide +kernel
theorem dX6_worthBy_30 : decode cX6_worthBy 30 = .ok (.iaload, 1) := by decide +kernel
theorem dX6_worthBy_31 : decode cX6_worthBy 31 = .ok (.iload_n 2, 1) := by decide +kernel
theorem dX6_worthBy_32 : decode cX6_worthBy 32 = .ok (.if_icmp .ne 13, 3) := by decide +kernel
theorem dX6_worthBy_35 : decode cX6_worthBy 35 = .ok (.aload_n 0, 1) := by decide +kernel
theorem dX6_worthBy_36 : decode cX6_worthBy 36 = .ok (.iload_n 1, 1) := by decide +kernel
theorem dX6_worthBy_37 : decode cX6_worthBy 37 = .ok (.iload 4, 2) := by decide +kernel
theorem dX6_worthBy_39 : decode cX6_worthBy 39 = .ok (.invokevirtual 348, 3) := by decide +kernel
theorem dX6_worthBy_42 : decode cX6_worthBy 42 = .ok (.goto 4, 3) := by decide +kernel
theorem dX6_worthBy_45 : decode cX6_worthBy 45 = .ok (.iconst 0, 1) := by decide +kernel
theorem dX6_worthBy_46 : decode cX6_worthBy 46 = .ok (.iadd, 1) := by decide +kernel
theorem dX6_worthBy_47 : decode cX6_worthBy 47 = .ok (.istore_n 3, 1) := by decide +kernel
theorem dX6_worthBy_48 : decode cX6_worthBy 48 = .ok (.iinc 4 1, 3) := by decide +kernel
theorem dX6_worthBy_51 : decode cX6_worthBy 51 = .ok (.goto (-46), 3) := by decide +kernel
theorem dX6_worthBy_54 : decode cX6_worthBy 54 = .ok (.iload_n 3, 1) := by decide +kernel
theorem dX6_worthBy_55 : decode cX6_worthBy 55 = .ok (.ireturn, 1) := by decide +kernel
theorem dX6_worth_0 : decode cX6_worth 0 = .ok (.iload_n 1, 1) := by decide +kernel
theorem dX6_worth_1 : decode cX6_worth 1 = .ok (.i2l, 1) := by decide +kernel
theorem dX6_worth_2 : decode cX6_worth 2 = .ok (.lconst 0, 1) := by decide +kernel
theorem dX6_worth_3 : decode cX6_worth 3 = .ok (.ldc2_w 351, 3) := by decide +kernel
theorem dX6_worth_6 : decode cX6_worth 6 = .ok (.invokestatic 73, 3) := by decide +kernel
theorem dX6_worth_9 : decode cX6_worth 9 = .ok (.ifCond .eq 15, 3) := by decide +kernel
theorem dX6_worth_12 : decode cX6_worth 12 = .ok (.aload_n 0, 1) := by decide +kernel
theorem dX6_worth_13 : decode cX6_worth 13 = .ok (.aload_n 0, 1) := by decide +kernel
theorem dX6_worth_14 : decode cX6_worth 14 = .ok (.getfield 104, 3) := by decide +kernel
theorem dX6_worth_17 : decode cX6_worth 17 = .ok (.iload_n 1, 1) := by decide +kernel
theorem dX6_worth_18 : decode cX6_worth 18 = .ok (.invokevirtual 353, 3) := by decide +kernel
theorem dX6_worth_21 : decode cX6_worth 21 = .ok (.goto 6, 3) := by decide +kernel
theorem dX6_worth_24 : decode cX6_worth 24 = .ok (.ldc_w 356, 3) := by decide +kernel
theorem dX6_worth_27 : decode cX6_worth 27 = .ok (.ireturn, 1) := by decide +kernel
theorem dX6_tooMuch_0 : decode cX6_tooMuch 0 = .ok (.iconst 0, 1) := by decide +kernel
theorem dX6_tooMuch_1 : decode cX6_tooMuch 1 = .ok (.istore_n 2, 1) := by decide +kernel
theorem dX6_tooMuch_2 : decode cX6_tooMuch 2 = .ok (.iload_n 2, 1) := by decide +kernel
theorem dX6_tooMuch_3 : decode cX6_tooMuch 3 = .ok (.bipush 30, 2) := by decide +kernel
theorem dX6_tooMuch_5 : decode cX6_tooMuch 5 = .ok (.if_icmp .ge 29, 3) := by decide +kernel
theorem dX6_tooMuch_8 : decode cX6_tooMuch 8 = .ok (.iload_n 1, 1) := by decide +kernel
theorem dX6_tooMuch_9 : decode cX6_tooMuch 9 = .ok (.iload_n 2, 1) := by decide +kernel
theorem dX6_tooMuch_10 : decode cX6_tooMuch 10 = .ok (.invokestatic 114, 3) := by decide +kernel
theorem dX6_tooMuch_13 : decode cX6_tooMuch 13 = .ok (.aload_n 0, 1) := by decide +kernel
theorem dX6_tooMuch_14 : decode cX6_tooMuch 14 = .ok (.iload_n 2, 1) := by decide +kernel
theorem dX6_tooMuch_15 : decode cX6_tooMuch 15 = .ok (.iload_n 1, 1) := by decide +kernel
theorem dX6_tooMuch_16 : decode cX6_tooMuch 16 = .ok (.iload_n 2, 1) := by decide +kernel
theorem dX6_tooMuch_17 : decode cX6_tooMuch 17 = .ok (.invokestatic 117, 3) := by decide +kernel
theorem dX6_tooMuch_20 : decode cX6_tooMuch 20 = .ok (.invokevirtual 120, 3) := by decide +kernel
theorem dX6_tooMuch_23 : decode cX6_tooMuch 23 = .ok (.if_icmp .le 5, 3) := by decide +kernel
theorem dX6_tooMuch_26 : decode cX6_tooMuch 26 = .ok (.iload_n 2, 1) := by decide +kernel
theorem dX6_tooMuch_27 : decode cX6_tooMuch 27 = .ok (.ireturn, 1) := by decide +kernel
theorem dX6_tooMuch_28 : decode cX6_tooMuch 28 = .ok (.iinc 2 1, 3) := by decide +kernel
theorem dX6_tooMuch_31 : decode cX6_tooMuch 31 = .ok (.goto (-29), 3) := by decide +kernel
theorem dX6_tooMuch_34 : decode cX6_tooMuch 34 = .ok (.iconst (-1), 1) := by decide +kernel
theorem dX6_tooMuch_35 : decode cX6_tooMuch 35 = .ok (.ireturn, 1) := by decide +kernel
theorem dX6_share_0 : decode cX6_share 0 = .ok (.iload_n 1, 1) := by decide +kernel
theorem dX6_share_1 : decode cX6_share 1 = .ok (.i2l, 1) := by decide +kernel
theorem dX6_share_2 : decode cX6_share 2 = .ok (.lconst 0, 1) := by decide +kernel
theorem dX6_share_3 : decode cX6_share 3 = .ok (.ldc2_w 86, 3) := by decide +kernel
theorem dX6_share_6 : decode cX6_share 6 = .ok (.invokestatic 73, 3) := by decide +kernel
theorem dX6_share_9 : decode cX6_share 9 = .ok (.ifCond .ne 6, 3) := by decide +kernel
theorem dX6_share_12 : decode cX6_share 12 = .ok (.bipush (-2), 2) := by decide +kernel
theorem dX6_share_14 : decode cX6_share 14 = .ok (.ireturn, 1) := by decide +kernel
theorem dX6_share_15 : decode cX6_share 15 = .ok (.iload_n 1, 1) := by decide +kernel
theorem dX6_share_16 : decode cX6_share 16 = .ok (.iconst 2, 1) := by decide +kernel
theorem dX6_share_17 : decode cX6_share 17 = .ok (.if_icmp .ge 37, 3) := by decide +kernel
theorem dX6_share_20 : decode cX6_share 20 = .ok (.iload_n 1, 1) := by decide +kernel
theorem dX6_share_21 : decode cX6_share 21 = .ok (.iconst 1, 1) := by decide +kernel
theorem dX6_share_22 : decode cX6_share 22 = .ok (.if_icmp .ne 14, 3) := by decide +kernel
theorem dX6_share_25 : decode cX6_share 25 = .ok (.aload_n 0, 1) := by decide +kernel
theorem dX6_share_26 : decode cX6_share 26 = .ok (.aload_n 0, 1) := by decide +kernel
theorem dX6_share_27 : decode cX6_share 27 = .ok (.getfield 104, 3) := by decide +kernel
theorem dX6_share_30 : decode cX6_share 30 = .ok (.invokevirtual 357, 3) := by decide +kernel
theorem dX6_share_33 : decode cX6_share 33 = .ok (.goto 20, 3) := by decide +kernel
theorem dX6_share_36 : decode cX6_share 36 = .ok (.aload_n 0, 1) := by decide +kernel
theorem dX6_share_37 : decode cX6_share 37 = .ok (.aload_n 0, 1) := by decide +kernel
theorem dX6_share_38 : decode cX6_share 38 = .ok (.getfield 104, 3) := by decide +kernel
theorem dX6_share_41 : decode cX6_share 41 = .ok (.invokevirtual 357, 3) := by decide +kernel
theorem dX6_share_44 : decode cX6_share 44 = .ok (.iconst (-1), 1) := by decide +kernel
theorem dX6_share_45 : decode cX6_share 45 = .ok (.if_icmp .ne 7, 3) := by decide +kernel
theorem dX6_share_48 : decode cX6_share 48 = .ok (.iconst 1, 1) := by decide +kernel
theorem dX6_share_49 : decode cX6_share 49 = .ok (.goto 4, 3) := by decide +kernel
theorem dX6_share_52 : decode cX6_share 52 = .ok (.iconst 0, 1) := by decide +kernel
theorem dX6_share_53 : decode cX6_share 53 = .ok (.ireturn, 1) := by decide +kernel
theorem dX6_share_54 : decode cX6_share 54 = .ok (.iconst 0, 1) := by decide +kernel
theorem dX6_share_55 : decode cX6_share 55 = .ok (.istore_n 2, 1) := by decide +kernel
theorem dX6_share_56 : decode cX6_share 56 = .ok (.iconst 0, 1) := by decide +kernel
theorem dX6_share_57 : decode cX6_share 57 = .ok (.istore_n 3, 1) := by decide +kernel
theorem dX6_share_58 : decode cX6_share 58 = .ok (.iconst 0, 1) := by decide +kernel
theorem dX6_share_59 : decode cX6_share 59 = .ok (.istore 4, 2) := by decide +kernel
theorem dX6_share_61 : decode cX6_share 61 = .ok (.iload 4, 2) := by decide +kernel
theorem dX6_share_63 : decode cX6_share 63 = .ok (.bipush 30, 2) := by decide +kernel
theorem dX6_share_65 : decode cX6_share 65 = .ok (.if_icmp .ge 48, 3) := by decide +kernel
theorem dX6_share_68 : decode cX6_share 68 = .ok (.aload_n 0, 1) := by decide +kernel
theorem dX6_share_69 : decode cX6_share 69 = .ok (.getfield 104, 3) := by decide +kernel
theorem dX6_share_72 : decode cX6_share 72 = .ok (.iload 4, 2) := by decide +kernel
theorem dX6_share_74 : decode cX6_share 74 = .ok (.invokestatic 114, 3) := by decide +kernel
theorem dX6_share_77 : decode cX6_share 77 = .ok (.iload_n 2, 1) := by decide +kernel
theorem dX6_share_78 : decode cX6_share 78 = .ok (.if_icmp .le 15, 3) := by decide +kernel
theorem dX6_share_81 : decode cX6_share 81 = .ok (.aload_n 0, 1) := by decide +kernel
theorem dX6_share_82 : decode cX6_share 82 = .ok (.getfield 104, 3) := by decide +kernel
theorem dX6_share_85 : decode cX6_share 85 = .ok (.iload 4, 2) := by decide +kernel
theorem dX6_share_87 : decode cX6_share 87 = .ok (.invokestatic 114, 3) := by decide +kernel
theorem dX6_share_90 : decode cX6_share 90 = .ok (.goto 4, 3) := by decide +kernel
theorem dX6_share_93 : decode cX6_share 93 = .ok (.iload_n 2, 1) := by decide +kernel
theorem dX6_share_94 : decode cX6_share 94 = .ok (.istore_n 2, 1) := by decide +kernel
theorem dX6_share_95 : decode cX6_share 95 = .ok (.iload_n 3, 1) := by decide +kernel
theorem dX6_share_96 : decode cX6_share 96 = .ok (.aload_n 0, 1) := by decide +kernel
theorem dX6_share_97 : decode cX6_share 97 = .ok (.getfield 104, 3) := by decide +kernel
theorem dX6_share_100 : decode cX6_share 100 = .ok (.iload 4, 2) := by decide +kernel
theorem dX6_share_102 : decode cX6_share 102 = .ok (.invokestatic 117, 3) := by decide +kernel
theorem dX6_share_105 : decode cX6_share 105 = .ok (.iadd, 1) := by decide +kernel
theorem dX6_share_106 : decode cX6_share 106 = .ok (.istore_n 3, 1) := by decide +kernel
theorem dX6_share_107 : decode cX6_share 107 = .ok (.iinc 4 1, 3) := by decide +kernel
theorem dX6_share_110 : decode cX6_share 110 = .ok (.goto (-49), 3) := by decide +kernel
theorem dX6_share_113 : decode cX6_share 113 = .ok (.iload_n 1, 1) := by decide +kernel
theorem dX6_share_114 : decode cX6_share 114 = .ok (.iconst 2, 1) := by decide +kernel
theorem dX6_share_115 : decode cX6_share 115 = .ok (.if_icmp .ne 7, 3) := by decide +kernel
theorem dX6_share_118 : decode cX6_share 118 = .ok (.iload_n 2, 1) := by decide +kernel
theorem dX6_share_119 : decode cX6_share 119 = .ok (.goto 4, 3) := by decide +kernel
theorem dX6_share_122 : decode cX6_share 122 = .ok (.iload_n 3, 1) := by decide +kernel
theorem dX6_share_123 : decode cX6_share 123 = .ok (.ireturn, 1) := by decide +kernel
theorem dX6_mean_0 : decode cX6_mean 0 = .ok (.aload_n 0, 1) := by decide +kernel
theorem dX6_mean_1 : decode cX6_mean 1 = .ok (.iload_n 1, 1) := by decide +kernel
theorem dX6_mean_2 : decode cX6_mean 2 = .ok (.invokevirtual 83, 3) := by decide +kernel
theorem dX6_mean_5 : decode cX6_mean 5 = .ok (.ifCond .eq 13, 3) := by decide +kernel
theorem dX6_mean_8 : decode cX6_mean 8 = .ok (.iload_n 2, 1) := by decide +kernel
theorem dX6_mean_9 : decode cX6_mean 9 = .ok (.i2l, 1) := by decide +kernel
theorem dX6_mean_10 : decode cX6_mean 10 = .ok (.lconst 0, 1) := by decide +kernel
theorem dX6_mean_11 : decode cX6_mean 11 = .ok (.lconst 1, 1) := by decide +kernel
theorem dX6_mean_12 : decode cX6_mean 12 = .ok (.invokestatic 73, 3) := by decide +kernel
theorem dX6_mean_15 : decode cX6_mean 15 = .ok (.ifCond .ne 7, 3) := by decide +kernel
theorem dX6_mean_18 : decode cX6_mean 18 = .ok (.ldc2_w 360, 3) := by decide +kernel
theorem dX6_mean_21 : decode cX6_mean 21 = .ok (.lreturn, 1) := by decide +kernel
theorem dX6_mean_22 : decode cX6_mean 22 = .ok (.aload_n 0, 1) := by decide +kernel
theorem dX6_mean_23 : decode cX6_mean 23 = .ok (.aload_n 0, 1) := by decide +kernel
theorem dX6_mean_24 : decode cX6_mean 24 = .ok (.getfield 104, 3) := by decide +kernel
theorem dX6_mean_27 : decode cX6_mean 27 = .ok (.iload_n 1, 1) := by decide +kernel
theorem dX6_mean_28 : decode cX6_mean 28 = .ok (.invokevirtual 348, 3) := by decide +kernel
theorem dX6_mean_31 : decode cX6_mean 31 = .ok (.istore_n 3, 1) := by decide +kernel
theorem dX6_mean_32 : decode cX6_mean 32 = .ok (.iload_n 3, 1) := by decide +kernel
theorem dX6_mean_33 : decode cX6_mean 33 = .ok (.invokestatic 362, 3) := by decide +kernel
theorem dX6_mean_36 : decode cX6_mean 36 = .ok (.istore 4, 2) := by decide +kernel
theorem dX6_mean_38 : decode cX6_mean 38 = .ok (.bipush 30, 2) := by decide +kernel
theorem dX6_mean_40 : decode cX6_mean 40 = .ok (.istore 5, 2) := by decide +kernel
theorem dX6_mean_42 : decode cX6_mean 42 = .ok (.iload 5, 2) := by decide +kernel
theorem dX6_mean_44 : decode cX6_mean 44 = .ok (.ifCond .eq 21, 3) := by decide +kernel
theorem dX6_mean_47 : decode cX6_mean 47 = .ok (.iload 4, 2) := by decide +kernel
theorem dX6_mean_49 : decode cX6_mean 49 = .ok (.iload 5, 2) := by decide +kernel
theorem dX6_mean_51 : decode cX6_mean 51 = .ok (.irem, 1) := by decide +kernel
theorem dX6_mean_52 : decode cX6_mean 52 = .ok (.istore 6, 2) := by decide +kernel
theorem dX6_mean_54 : decode cX6_mean 54 = .ok (.iload 5, 2) := by decide +kernel
theorem dX6_mean_56 : decode cX6_mean 56 = .ok (.istore 4, 2) := by decide +kernel
theorem dX6_mean_58 : decode cX6_mean 58 = .ok (.iload 6, 2) := by decide +kernel
theorem dX6_mean_60 : decode cX6_mean 60 = .ok (.istore 5, 2) := by decide +kernel
theorem dX6_mean_62 : decode cX6_mean 62 = .ok (.goto (-20), 3) := by decide +kernel
theorem dX6_mean_65 : decode cX6_mean 65 = .ok (.iload_n 2, 1) := by decide +kernel
theorem dX6_mean_66 : decode cX6_mean 66 = .ok (.ifCond .ne 11, 3) := by decide +kernel
theorem dX6_mean_69 : decode cX6_mean 69 = .ok (.iload_n 3, 1) := by decide +kernel
theorem dX6_mean_70 : decode cX6_mean 70 = .ok (.iload 4, 2) := by decide +kernel
theorem dX6_mean_72 : decode cX6_mean 72 = .ok (.idiv, 1) := by decide +kernel
theorem dX6_mean_73 : decode cX6_mean 73 = .ok (.i2l, 1) := by decide +kernel
theorem dX6_mean_74 : decode cX6_mean 74 = .ok (.goto 9, 3) := by decide +kernel
theorem dX6_mean_77 : decode cX6_mean 77 = .ok (.bipush 30, 2) := by decide +kernel
theorem dX6_mean_79 : decode cX6_mean 79 = .ok (.iload 4, 2) := by decide +kernel
theorem dX6_mean_81 : decode cX6_mean 81 = .ok (.idiv, 1) := by decide +kernel
theorem dX6_mean_82 : decode cX6_mean 82 = .ok (.i2l, 1) := by decide +kernel
theorem dX6_mean_83 : decode cX6_mean 83 = .ok (.lreturn, 1) := by decide +kernel
theorem dX6_spot_0 : decode cX6_spot 0 = .ok (.bipush 60, 2) := by decide +kernel
theorem dX6_spot_2 : decode cX6_spot 2 = .ok (.iload_n 0, 1) := by decide +kernel
theorem dX6_spot_3 : decode cX6_spot 3 = .ok (.imul, 1) := by decide +kernel
theorem dX6_spot_4 : decode cX6_spot 4 = .ok (.bipush 30, 2) := by decide +kernel
theorem dX6_spot_6 : decode cX6_spot 6 = .ok (.iload_n 1, 1) := by decide +kernel
theorem dX6_spot_7 : decode cX6_spot 7 = .ok (.imul, 1) := by decide +kernel
theorem dX6_spot_8 : decode cX6_spot 8 = .ok (.iadd, 1) := by decide +kernel
theorem dX6_spot_9 : decode cX6_spot 9 = .ok (.iload_n 2, 1) := by decide +kernel
theorem dX6_spot_10 : decode cX6_spot 10 = .ok (.iadd, 1) := by decide +kernel
theorem dX6_spot_11 : decode cX6_spot 11 = .ok (.iconst 1, 1) := by decide +kernel
theorem dX6_spot_12 : decode cX6_spot 12 = .ok (.isub, 1) := by decide +kernel
theorem dX6_spot_13 : decode cX6_spot 13 = .ok (.ireturn, 1) := by decide +kernel
theorem dX6_spotBehind_0 : decode cX6_spotBehind 0 = .ok (.iload_n 1, 1) := by decide +kernel
theorem dX6_spotBehind_1 : decode cX6_spotBehind 1 = .ok (.iconst 1, 1) := by decide +kernel
theorem dX6_spotBehind_2 : decode cX6_spotBehind 2 = .ok (.iadd, 1) := by decide +kernel
theorem dX6_spotBehind_3 : decode cX6_spotBehind 3 = .ok (.iload 4, 2) := by decide +kernel
theorem dX6_spotBehind_5 : decode cX6_spotBehind 5 = .ok (.iload 4, 2) := by decide +kernel
theorem dX6_spotBehind_7 : decode cX6_spotBehind 7 = .ok (.iload_n 2, 1) := by decide +kernel
theorem dX6_spotBehind_8 : decode cX6_spotBehind 8 = .ok (.if_icmp .ne 9, 3) := by decide +kernel
theorem dX6_spotBehind_11 : decode cX6_spotBehind 11 = .ok (.iload_n 3, 1) := by decide +kernel
theorem dX6_spotBehind_12 : decode cX6_spotBehind 12 = .ok (.iconst 1, 1) := by decide +kernel
theorem dX6_spotBehind_13 : decode cX6_spotBehind 13 = .ok (.iadd, 1) := by decide +kernel
theorem dX6_spotBehind_14 : decode cX6_spotBehind 14 = .ok (.goto 4, 3) := by decide +kernel
theorem dX6_spotBehind_17 : decode cX6_spotBehind 17 = .ok (.iconst 1, 1) := by decide +kernel
theorem dX6_spotBehind_18 : decode cX6_spotBehind 18 = .ok (.invokestatic 365, 3) := by decide +kernel
theorem dX6_spotBehind_21 : decode cX6_spotBehind 21 = .ok (.ireturn, 1) := by decide +kernel
theorem dX6_fills_0 : decode cX6_fills 0 = .ok (.iload_n 1, 1) := by decide +kernel
theorem dX6_fills_1 : decode cX6_fills 1 = .ok (.iload_n 2, 1) := by decide +kernel
theorem dX6_fills_2 : decode cX6_fills 2 = .ok (.iload_n 3, 1) := by decide +kernel
theorem dX6_fills_3 : decode cX6_fills 3 = .ok (.invokestatic 365, 3) := by decide +kernel
theorem dX6_fills_6 : decode cX6_fills 6 = .ok (.istore 4, 2) := by decide +kernel
theorem dX6_fills_8 : decode cX6_fills 8 = .ok (.aload_n 0, 1) := by decide +kernel
theorem dX6_fills_9 : decode cX6_fills 9 = .ok (.getfield 35, 3) := by decide +kernel
theorem dX6_fills_12 : decode cX6_fills 12 = .ok (.iload 4, 2) := by decide +kernel
theorem dX6_fills_14 : decode cX6_fills 14 = .ok (.iload_n 3, 1) := by decide +kernel
theorem dX6_fills_15 : decode cX6_fills 15 = .ok (.aload_n 0, 1) := by decide +kernel
theorem dX6_fills_16 : decode cX6_fills 16 = .ok (.iload_n 1, 1) := by decide +kernel
theorem dX6_fills_17 : decode cX6_fills 17 = .ok (.iload_n 2, 1) := by decide +kernel
theorem dX6_fills_18 : decode cX6_fills 18 = .ok (.invokevirtual 120, 3) := by decide +kernel
theorem dX6_fills_21 : decode cX6_fills 21 = .ok (.if_icmp .gt 7, 3) := by decide +kernel
theorem dX6_fills_24 : decode cX6_fills 24 = .ok (.iconst 1, 1) := by decide +kernel
theorem dX6_fills_25 : decode cX6_fills 25 = .ok (.goto 4, 3) := by decide +kernel
theorem dX6_fills_28 : decode cX6_fills 28 = .ok (.iconst 0, 1) := by decide +kernel
theorem dX6_fills_29 : decode cX6_fills 29 = .ok (.bastore, 1) := by decide +kernel
theorem dX6_fills_30 : decode cX6_fills 30 = .ok (.aload_n 0, 1) := by decide +kernel
theorem dX6_fills_31 : decode cX6_fills 31 = .ok (.getfield 35, 3) := by decide +kernel
theorem dX6_fills_34 : decode cX6_fills 34 = .ok (.iload 4, 2) := by decide +kernel
theorem dX6_fills_36 : decode cX6_fills 36 = .ok (.baload, 1) := by decide +kernel
theorem dX6_fills_37 : decode cX6_fills 37 = .ok (.ifCond .ne 4, 3) := by decide +kernel
theorem dX6_fills_40 : decode cX6_fills 40 = .ok (.return_, 1) := by decide +kernel
theorem dX6_fills_41 : decode cX6_fills 41 = .ok (.iconst 0, 1) := by decide +kernel
theorem dX6_fills_42 : decode cX6_fills 42 = .ok (.istore 5, 2) := by decide +kernel
theorem dX6_fills_44 : decode cX6_fills 44 = .ok (.iconst 0, 1) := by decide +kernel
theorem dX6_fills_45 : decode cX6_fills 45 = .ok (.istore 6, 2) := by decide +kernel
theorem dX6_fills_47 : decode cX6_fills 47 = .ok (.iload 6, 2) := by decide +kernel
theorem dX6_fills_49 : decode cX6_fills 49 = .ok (.aload_n 0, 1) := by decide +kernel
theorem dX6_fills_50 : decode cX6_fills 50 = .ok (.getfield 70, 3) := by decide +kernel
theorem dX6_fills_53 : decode cX6_fills 53 = .ok (.if_icmp .ge 23, 3) := by decide +kernel
theorem dX6_fills_56 : decode cX6_fills 56 = .ok (.iload 5, 2) := by decide +kernel
theorem dX6_fills_58 : decode cX6_fills 58 = .ok (.aload_n 0, 1) := by decide +kernel
theorem dX6_fills_59 : decode cX6_fills 59 = .ok (.iload 6, 2) := by decide +kernel
theorem dX6_fills_61 : decode cX6_fills 61 = .ok (.iload_n 1, 1) := by decide +kernel
theorem dX6_fills_62 : decode cX6_fills 62 = .ok (.iload_n 2, 1) := by decide +kernel
theorem dX6_fills_63 : decode cX6_fills 63 = .ok (.iload_n 3, 1) := by decide +kernel
theorem dX6_fills_64 : decode cX6_fills 64 = .ok (.invokevirtual 340, 3) := by decide +kernel
theorem dX6_fills_67 : decode cX6_fills 67 = .ok (.iadd, 1) := by decide +kernel
theorem dX6_fills_68 : decode cX6_fills 68 = .ok (.istore 5, 2) := by decide +kernel
theorem dX6_fills_70 : decode cX6_fills 70 = .ok (.iinc 6 1, 3) := by decide +kernel
theorem dX6_fills_73 : decode cX6_fills 73 = .ok (.goto (-26), 3) := by decide +kernel
theorem dX6_fills_76 : decode cX6_fills 76 = .ok (.aload_n 0, 1) := by decide +kernel
theorem dX6_fills_77 : decode cX6_fills 77 = .ok (.getfield 32, 3) := by decide +kernel
theorem dX6_fills_80 : decode cX6_fills 80 = .ok (.iload 4, 2) := by decide +kernel
theorem dX6_fills_82 : decode cX6_fills 82 = .ok (.iload 5, 2) := by decide +kernel
theorem dX6_fills_84 : decode cX6_fills 84 = .ok (.iastore, 1) := by decide +kernel
theorem dX6_fills_85 : decode cX6_fills 85 = .ok (.iload_n 1, 1) := by decide +kernel
theorem dX6_fills_86 : decode cX6_fills 86 = .ok (.bipush 29, 2) := by decide +kernel
theorem dX6_fills_88 : decode cX6_fills 88 = .ok (.if_icmp .ne 4, 3) := by decide +kernel
theorem dX6_fills_91 : decode cX6_fills 91 = .ok (.return_, 1) := by decide +kernel
theorem dX6_fills_92 : decode cX6_fills 92 = .ok (.iconst 0, 1) := by decide +kernel
theorem dX6_fills_93 : decode cX6_fills 93 = .ok (.istore 6, 2) := by decide +kernel
theorem dX6_fills_95 : decode cX6_fills 95 = .ok (.iconst 0, 1) := by decide +kernel
theorem dX6_fills_96 : decode cX6_fills 96 = .ok (.istore 7, 2) := by decide +kernel
theorem dX6_fills_98 : decode cX6_fills 98 = .ok (.iconst 0, 1) := by decide +kernel
theorem dX6_fills_99 : decode cX6_fills 99 = .ok (.istore 8, 2) := by decide +kernel
theorem dX6_fills_101 : decode cX6_fills 101 = .ok (.iload 8, 2) := by decide +kernel
theorem dX6_fills_103 : decode cX6_fills 103 = .ok (.iconst 2, 1) := by decide +kernel
theorem dX6_fills_104 : decode cX6_fills 104 = .ok (.if_icmp .ge 59, 3) := by decide +kernel
theorem dX6_fills_107 : decode cX6_fills 107 = .ok (.aload_n 0, 1) := by decide +kernel
theorem dX6_fills_108 : decode cX6_fills 108 = .ok (.iload_n 1, 1) := by decide +kernel
theorem dX6_fills_109 : decode cX6_fills 109 = .ok (.iload_n 2, 1) := by decide +kernel
theorem dX6_fills_110 : decode cX6_fills 110 = .ok (.iload_n 3, 1) := by decide +kernel
theorem dX6_fills_111 : decode cX6_fills 111 = .ok (.iload 8, 2) := by decide +kernel
theorem dX6_fills_113 : decode cX6_fills 113 = .ok (.invokevirtual 368, 3) := by decide +kernel
theorem dX6_fills_116 : decode cX6_fills 116 = .ok (.istore 9, 2) := by decide +kernel
theorem dX6_fills_118 : decode cX6_fills 118 = .ok (.aload_n 0, 1) := by decide +kernel
theorem dX6_fills_119 : decode cX6_fills 119 = .ok (.getfield 35, 3) := by decide +kernel
theorem dX6_fills_122 : decode cX6_fills 122 = .ok (.iload 9, 2) := by decide +kernel
theorem dX6_fills_124 : decode cX6_fills 124 = .ok (.baload, 1) := by decide +kernel
theorem dX6_fills_125 : decode cX6_fills 125 = .ok (.ifCond .eq 32, 3) := by decide +kernel
theorem dX6_fills_128 : decode cX6_fills 128 = .ok (.iload 6, 2) := by decide +kernel
theorem dX6_fills_130 : decode cX6_fills 130 = .ok (.ifCond .eq 15, 3) := by decide +kernel
theorem dX6_fills_133 : decode cX6_fills 133 = .ok (.aload_n 0, 1) := by decide +kernel
theorem dX6_fills_134 : decode cX6_fills 134 = .ok (.getfield 32, 3) := by decide +kernel
theorem dX6_fills_137 : decode cX6_fills 137 = .ok (.iload 9, 2) := by decide +kernel
theorem dX6_fills_139 : decode cX6_fills 139 = .ok (.iaload, 1) := by decide +kernel
theorem dX6_fills_140 : decode cX6_fills 140 = .ok (.iload 7, 2) := by decide +kernel
theorem dX6_fills_142 : decode cX6_fills 142 = .ok (.if_icmp .le 15, 3) := by decide +kernel
theorem dX6_fills_145 : decode cX6_fills 145 = .ok (.iconst 1, 1) := by decide +kernel
theorem dX6_fills_146 : decode cX6_fills 146 = .ok (.istore 6, 2) := by decide +kernel
theorem dX6_fills_148 : decode cX6_fills 148 = .ok (.aload_n 0, 1) := by decide +kernel
theorem dX6_fills_149 : decode cX6_fills 149 = .ok (.getfield 32, 3) := by decide +kernel
theorem dX6_fills_152 : decode cX6_fills 152 = .ok (.iload 9, 2) := by decide +kernel
theorem dX6_fills_154 : decode cX6_fills 154 = .ok (.iaload, 1) := by decide +kernel
theorem dX6_fills_155 : decode cX6_fills 155 = .ok (.istore 7, 2) := by decide +kernel
theorem dX6_fills_157 : decode cX6_fills 157 = .ok (.iinc 8 1, 3) := by decide +kernel
theorem dX6_fills_160 : decode cX6_fills 160 = .ok (.goto (-59), 3) := by decide +kernel
theorem dX6_fills_163 : decode cX6_fills 163 = .ok (.aload_n 0, 1) := by decide +kernel
theorem dX6_fills_164 : decode cX6_fills 164 = .ok (.getfield 35, 3) := by decide +kernel
theorem dX6_fills_167 : decode cX6_fills 167 = .ok (.iload 4, 2) := by decide +kernel
theorem dX6_fills_169 : decode cX6_fills 169 = .ok (.iload 6, 2) := by decide +kernel
theorem dX6_fills_171 : decode cX6_fills 171 = .ok (.bastore, 1) := by decide +kernel
theorem dX6_fills_172 : decode cX6_fills 172 = .ok (.aload_n 0, 1) := by decide +kernel
theorem dX6_fills_173 : decode cX6_fills 173 = .ok (.getfield 32, 3) := by decide +kernel
theorem dX6_fills_176 : decode cX6_fills 176 = .ok (.iload 4, 2) := by decide +kernel
theorem dX6_fills_178 : decode cX6_fills 178 = .ok (.iload 5, 2) := by decide +kernel
theorem dX6_fills_180 : decode cX6_fills 180 = .ok (.iload 7, 2) := by decide +kernel
theorem dX6_fills_182 : decode cX6_fills 182 = .ok (.iadd, 1) := by decide +kernel
theorem dX6_fills_183 : decode cX6_fills 183 = .ok (.iastore, 1) := by decide +kernel
theorem dX6_fills_184 : decode cX6_fills 184 = .ok (.return_, 1) := by decide +kernel
theorem dX6_bestShare_0 : decode cX6_bestShare 0 = .ok (.bipush 29, 2) := by decide +kernel
theorem dX6_bestShare_2 : decode cX6_bestShare 2 = .ok (.istore_n 1, 1) := by decide +kernel
theorem dX6_bestShare_3 : decode cX6_bestShare 3 = .ok (.iload_n 1, 1) := by decide +kernel
theorem dX6_bestShare_4 : decode cX6_bestShare 4 = .ok (.ifCond .lt 38, 3) := by decide +kernel
theorem dX6_bestShare_7 : decode cX6_bestShare 7 = .ok (.iconst 1, 1) := by decide +kernel
theorem dX6_bestShare_8 : decode cX6_bestShare 8 = .ok (.istore_n 2, 1) := by decide +kernel
theorem dX6_bestShare_9 : decode cX6_bestShare 9 = .ok (.iload_n 2, 1) := by decide +kernel
theorem dX6_bestShare_10 : decode cX6_bestShare 10 = .ok (.iload_n 1, 1) := by decide +kernel
theorem dX6_bestShare_11 : decode cX6_bestShare 11 = .ok (.iconst 1, 1) := by decide +kernel
theorem dX6_bestShare_12 : decode cX6_bestShare 12 = .ok (.iadd, 1) := by decide +kernel
theorem dX6_bestShare_13 : decode cX6_bestShare 13 = .ok (.if_icmp .gt 23, 3) := by decide +kernel
theorem dX6_bestShare_16 : decode cX6_bestShare 16 = .ok (.aload_n 0, 1) := by decide +kernel
theorem dX6_bestShare_17 : decode cX6_bestShare 17 = .ok (.iload_n 1, 1) := by decide +kernel
theorem dX6_bestShare_18 : decode cX6_bestShare 18 = .ok (.iconst 0, 1) := by decide +kernel
theorem dX6_bestShare_19 : decode cX6_bestShare 19 = .ok (.iload_n 2, 1) := by decide +kernel
theorem dX6_bestShare_20 : decode cX6_bestShare 20 = .ok (.invokevirtual 371, 3) := by decide +kernel
theorem dX6_bestShare_23 : decode cX6_bestShare 23 = .ok (.aload_n 0, 1) := by decide +kernel
theorem dX6_bestShare_24 : decode cX6_bestShare 24 = .ok (.iload_n 1, 1) := by decide +kernel
theorem dX6_bestShare_25 : decode cX6_bestShare 25 = .ok (.iconst 1, 1) := by decide +kernel
theorem dX6_bestShare_26 : decode cX6_bestShare 26 = .ok (.iload_n 2, 1) := by decide +kernel
theorem dX6_bestShare_27 : decode cX6_bestShare 27 = .ok (.invokevirtual 371, 3) := by decide +kernel
theorem dX6_bestShare_30 : decode cX6_bestShare 30 = .ok (.iinc 2 1, 3) := by decide +kernel
theorem dX6_bestShare_33 : decode cX6_bestShare 33 = .ok (.goto (-24), 3) := by decide +kernel
theorem dX6_bestShare_36 : decode cX6_bestShare 36 = .ok (.iinc 1 (-1), 3) := by decide +kernel
theorem dX6_bestShare_39 : decode cX6_bestShare 39 = .ok (.goto (-36), 3) := by decide +kernel
theorem dX6_bestShare_42 : decode cX6_bestShare 42 = .ok (.aload_n 0, 1) := by decide +kernel
theorem dX6_bestShare_43 : decode cX6_bestShare 43 = .ok (.getfield 35, 3) := by decide +kernel
theorem dX6_bestShare_46 : decode cX6_bestShare 46 = .ok (.iconst 0, 1) := by decide +kernel
theorem dX6_bestShare_47 : decode cX6_bestShare 47 = .ok (.iconst 1, 1) := by decide +kernel
theorem dX6_bestShare_48 : decode cX6_bestShare 48 = .ok (.iconst 1, 1) := by decide +kernel
theorem dX6_bestShare_49 : decode cX6_bestShare 49 = .ok (.invokestatic 365, 3) := by decide +kernel
theorem dX6_bestShare_52 : decode cX6_bestShare 52 = .ok (.baload, 1) := by decide +kernel
theorem dX6_bestShare_53 : decode cX6_bestShare 53 = .ok (.ifCond .eq 46, 3) := by decide +kernel
theorem dX6_bestShare_56 : decode cX6_bestShare 56 = .ok (.aload_n 0, 1) := by decide +kernel
theorem dX6_bestShare_57 : decode cX6_bestShare 57 = .ok (.getfield 35, 3) := by decide +kernel
theorem dX6_bestShare_60 : decode cX6_bestShare 60 = .ok (.iconst 0, 1) := by decide +kernel
theorem dX6_bestShare_61 : decode cX6_bestShare 61 = .ok (.iconst 0, 1) := by decide +kernel
theorem dX6_bestShare_62 : decode cX6_bestShare 62 = .ok (.iconst 1, 1) := by decide +kernel
theorem dX6_bestShare_63 : decode cX6_bestShare 63 = .ok (.invokestatic 365, 3) := by decide +kernel
theorem dX6_bestShare_66 : decode cX6_bestShare 66 = .ok (.baload, 1) := by decide +kernel
theorem dX6_bestShare_67 : decode cX6_bestShare 67 = .ok (.ifCond .eq 28, 3) := by decide +kernel
theorem dX6_bestShare_70 : decode cX6_bestShare 70 = .ok (.aload_n 0, 1) := by decide +kernel
theorem dX6_bestShare_71 : decode cX6_bestShare 71 = .ok (.getfield 32, 3) := by decide +kernel
theorem dX6_bestShare_74 : decode cX6_bestShare 74 = .ok (.iconst 0, 1) := by decide +kernel
theorem dX6_bestShare_75 : decode cX6_bestShare 75 = .ok (.iconst 1, 1) := by decide +kernel
theorem dX6_bestShare_76 : decode cX6_bestShare 76 = .ok (.iconst 1, 1) := by decide +kernel
theorem dX6_bestShare_77 : decode cX6_bestShare 77 = .ok (.invokestatic 365, 3) := by decide +kernel
theorem dX6_bestShare_80 : decode cX6_bestShare 80 = .ok (.iaload, 1) := by decide +kernel
theorem dX6_bestShare_81 : decode cX6_bestShare 81 = .ok (.aload_n 0, 1) := by decide +kernel
theorem dX6_bestShare_82 : decode cX6_bestShare 82 = .ok (.getfield 32, 3) := by decide +kernel
theorem dX6_bestShare_85 : decode cX6_bestShare 85 = .ok (.iconst 0, 1) := by decide +kernel
theorem dX6_bestShare_86 : decode cX6_bestShare 86 = .ok (.iconst 0, 1) := by decide +kernel
theorem dX6_bestShare_87 : decode cX6_bestShare 87 = .ok (.iconst 1, 1) := by decide +kernel
theorem dX6_bestShare_88 : decode cX6_bestShare 88 = .ok (.invokestatic 365, 3) := by decide +kernel
theorem dX6_bestShare_91 : decode cX6_bestShare 91 = .ok (.iaload, 1) := by decide +kernel
theorem dX6_bestShare_92 : decode cX6_bestShare 92 = .ok (.if_icmp .le 7, 3) := by decide +kernel
theorem dX6_bestShare_95 : decode cX6_bestShare 95 = .ok (.iconst 1, 1) := by decide +kernel
theorem dX6_bestShare_96 : decode cX6_bestShare 96 = .ok (.goto 4, 3) := by decide +kernel
theorem dX6_bestShare_99 : decode cX6_bestShare 99 = .ok (.iconst 0, 1) := by decide +kernel
theorem dX6_bestShare_100 : decode cX6_bestShare 100 = .ok (.istore_n 1, 1) := by decide +kernel
theorem dX6_bestShare_101 : decode cX6_bestShare 101 = .ok (.iconst 1, 1) := by decide +kernel
theorem dX6_bestShare_102 : decode cX6_bestShare 102 = .ok (.istore_n 2, 1) := by decide +kernel
theorem dX6_bestShare_103 : decode cX6_bestShare 103 = .ok (.aload_n 0, 1) := by decide +kernel
theorem dX6_bestShare_104 : decode cX6_bestShare 104 = .ok (.aload_n 0, 1) := by decide +kernel
theorem dX6_bestShare_105 : decode cX6_bestShare 105 = .ok (.getfield 32, 3) := by decide +kernel
theorem dX6_bestShare_108 : decode cX6_bestShare 108 = .ok (.iconst 0, 1) := by decide +kernel
theorem dX6_bestShare_109 : decode cX6_bestShare 109 = .ok (.iload_n 1, 1) := by decide +kernel
theorem dX6_bestShare_110 : decode cX6_bestShare 110 = .ok (.iconst 1, 1) := by decide +kernel
theorem dX6_bestShare_111 : decode cX6_bestShare 111 = .ok (.invokestatic 365, 3) := by decide +kernel
theorem dX6_bestShare_114 : decode cX6_bestShare 114 = .ok (.iaload, 1) := by decide +kernel
theorem dX6_bestShare_115 : decode cX6_bestShare 115 = .ok (.putfield 374, 3) := by decide +kernel
theorem dX6_bestShare_118 : decode cX6_bestShare 118 = .ok (.iload_n 1, 1) := by decide +kernel
theorem dX6_bestShare_119 : decode cX6_bestShare 119 = .ok (.istore_n 3, 1) := by decide +kernel
theorem dX6_bestShare_120 : decode cX6_bestShare 120 = .ok (.iconst 0, 1) := by decide +kernel
theorem dX6_bestShare_121 : decode cX6_bestShare 121 = .ok (.istore 4, 2) := by decide +kernel
theorem dX6_bestShare_123 : decode cX6_bestShare 123 = .ok (.iload 4, 2) := by decide +kernel
theorem dX6_bestShare_125 : decode cX6_bestShare 125 = .ok (.bipush 29, 2) := by decide +kernel
theorem dX6_bestShare_127 : decode cX6_bestShare 127 = .ok (.if_icmp .ge 102, 3) := by decide +kernel
theorem dX6_bestShare_130 : decode cX6_bestShare 130 = .ok (.aload_n 0, 1) := by decide +kernel
theorem dX6_bestShare_131 : decode cX6_bestShare 131 = .ok (.iload 4, 2) := by decide +kernel
theorem dX6_bestShare_133 : decode cX6_bestShare 133 = .ok (.iload_n 1, 1) := by decide +kernel
theorem dX6_bestShare_134 : decode cX6_bestShare 134 = .ok (.iload_n 2, 1) := by decide +kernel
theorem dX6_bestShare_135 : decode cX6_bestShare 135 = .ok (.iconst 0, 1) := by decide +kernel
theorem dX6_bestShare_136 : decode cX6_bestShare 136 = .ok (.invokevirtual 368, 3) := by decide +kernel
theorem dX6_bestShare_139 : decode cX6_bestShare 139 = .ok (.istore 5, 2) := by decide +kernel
theorem dX6_bestShare_141 : decode cX6_bestShare 141 = .ok (.aload_n 0, 1) := by decide +kernel
theorem dX6_bestShare_142 : decode cX6_bestShare 142 = .ok (.iload 4, 2) := by decide +kernel
theorem dX6_bestShare_144 : decode cX6_bestShare 144 = .ok (.iload_n 1, 1) := by decide +kernel
theorem dX6_bestShare_145 : decode cX6_bestShare 145 = .ok (.iload_n 2, 1) := by decide +kernel
theorem dX6_bestShare_146 : decode cX6_bestShare 146 = .ok (.iconst 1, 1) := by decide +kernel
theorem dX6_bestShare_147 : decode cX6_bestShare 147 = .ok (.invokevirtual 368, 3) := by decide +kernel
theorem dX6_bestShare_150 : decode cX6_bestShare 150 = .ok (.istore 6, 2) := by decide +kernel
theorem dX6_bestShare_152 : decode cX6_bestShare 152 = .ok (.aload_n 0, 1) := by decide +kernel
theorem dX6_bestShare_153 : decode cX6_bestShare 153 = .ok (.getfield 35, 3) := by decide +kernel
theorem dX6_bestShare_156 : decode cX6_bestShare 156 = .ok (.iload 6, 2) := by decide +kernel
theorem dX6_bestShare_158 : decode cX6_bestShare 158 = .ok (.baload, 1) := by decide +kernel
theorem dX6_bestShare_159 : decode cX6_bestShare 159 = .ok (.ifCond .eq 34, 3) := by decide +kernel
theorem dX6_bestShare_162 : decode cX6_bestShare 162 = .ok (.aload_n 0, 1) := by decide +kernel
theorem dX6_bestShare_163 : decode cX6_bestShare 163 = .ok (.getfield 35, 3) := by decide +kernel
theorem dX6_bestShare_166 : decode cX6_bestShare 166 = .ok (.iload 5, 2) := by decide +kernel
theorem dX6_bestShare_168 : decode cX6_bestShare 168 = .ok (.baload, 1) := by decide +kernel
theorem dX6_bestShare_169 : decode cX6_bestShare 169 = .ok (.ifCond .eq 20, 3) := by decide +kernel
theorem dX6_bestShare_172 : decode cX6_bestShare 172 = .ok (.aload_n 0, 1) := by decide +kernel
theorem dX6_bestShare_173 : decode cX6_bestShare 173 = .ok (.getfield 32, 3) := by decide +kernel
theorem dX6_bestShare_176 : decode cX6_bestShare 176 = .ok (.iload 6, 2) := by decide +kernel
theorem dX6_bestShare_178 : decode cX6_bestShare 178 = .ok (.iaload, 1) := by decide +kernel
theorem dX6_bestShare_179 : decode cX6_bestShare 179 = .ok (.aload_n 0, 1) := by decide +kernel
theorem dX6_bestShare_180 : decode cX6_bestShare 180 = .ok (.getfield 32, 3) := by decide +kernel
theorem dX6_bestShare_183 : decode cX6_bestShare 183 = .ok (.iload 5, 2) := by decide +kernel
theorem dX6_bestShare_185 : decode cX6_bestShare 185 = .ok (.iaload, 1) := by decide +kernel
theorem dX6_bestShare_186 : decode cX6_bestShare 186 = .ok (.if_icmp .le 7, 3) := by decide +kernel
theorem dX6_bestShare_189 : decode cX6_bestShare 189 = .ok (.iconst 1, 1) := by decide +kernel
theorem dX6_bestShare_190 : decode cX6_bestShare 190 = .ok (.goto 4, 3) := by decide +kernel
theorem dX6_bestShare_193 : decode cX6_bestShare 193 = .ok (.iconst 0, 1) := by decide +kernel
theorem dX6_bestShare_194 : decode cX6_bestShare 194 = .ok (.istore 7, 2) := by decide +kernel
theorem dX6_bestShare_196 : decode cX6_bestShare 196 = .ok (.iload 7, 2) := by decide +kernel
theorem dX6_bestShare_198 : decode cX6_bestShare 198 = .ok (.iload_n 1, 1) := by decide +kernel
theorem dX6_bestShare_199 : decode cX6_bestShare 199 = .ok (.if_icmp .ne 9, 3) := by decide +kernel
theorem dX6_bestShare_202 : decode cX6_bestShare 202 = .ok (.iload_n 2, 1) := by decide +kernel
theorem dX6_bestShare_203 : decode cX6_bestShare 203 = .ok (.iconst 1, 1) := by decide +kernel
theorem dX6_bestShare_204 : decode cX6_bestShare 204 = .ok (.iadd, 1) := by decide +kernel
theorem dX6_bestShare_205 : decode cX6_bestShare 205 = .ok (.goto 4, 3) := by decide +kernel
theorem dX6_bestShare_208 : decode cX6_bestShare 208 = .ok (.iconst 1, 1) := by decide +kernel
theorem dX6_bestShare_209 : decode cX6_bestShare 209 = .ok (.istore_n 2, 1) := by decide +kernel
theorem dX6_bestShare_210 : decode cX6_bestShare 210 = .ok (.iload 7, 2) := by decide +kernel
theorem dX6_bestShare_212 : decode cX6_bestShare 212 = .ok (.istore_n 1, 1) := by decide +kernel
theorem dX6_bestShare_213 : decode cX6_bestShare 213 = .ok (.iload_n 3, 1) := by decide +kernel
theorem dX6_bestShare_214 : decode cX6_bestShare 214 = .ok (.iload 7, 2) := by decide +kernel
theorem dX6_bestShare_216 : decode cX6_bestShare 216 = .ok (.iload 4, 2) := by decide +kernel
theorem dX6_bestShare_218 : decode cX6_bestShare 218 = .ok (.iconst 1, 1) := by decide +kernel
theorem dX6_bestShare_219 : decode cX6_bestShare 219 = .ok (.iadd, 1) := by decide +kernel
theorem dX6_bestShare_220 : decode cX6_bestShare 220 = .ok (.ishl, 1) := by decide +kernel
theorem dX6_bestShare_221 : decode cX6_bestShare 221 = .ok (.ior, 1) := by decide +kernel
theorem dX6_bestShare_222 : decode cX6_bestShare 222 = .ok (.istore_n 3, 1) := by decide +kernel
theorem dX6_bestShare_223 : decode cX6_bestShare 223 = .ok (.iinc 4 1, 3) := by decide +kernel
theorem dX6_bestShare_226 : decode cX6_bestShare 226 = .ok (.goto (-103), 3) := by decide +kernel
theorem dX6_bestShare_229 : decode cX6_bestShare 229 = .ok (.iload_n 3, 1) := by decide +kernel
theorem dX6_bestShare_230 : decode cX6_bestShare 230 = .ok (.ireturn, 1) := by decide +kernel
theorem dX6_best_0 : decode cX6_best 0 = .ok (.iload_n 1, 1) := by decide +kernel
theorem dX6_best_1 : decode cX6_best 1 = .ok (.i2l, 1) := by decide +kernel
theorem dX6_best_2 : decode cX6_best 2 = .ok (.lconst 0, 1) := by decide +kernel
theorem dX6_best_3 : decode cX6_best 3 = .ok (.lconst 1, 1) := by decide +kernel
theorem dX6_best_4 : decode cX6_best 4 = .ok (.invokestatic 73, 3) := by decide +kernel
theorem dX6_best_7 : decode cX6_best 7 = .ok (.ifCond .ne 7, 3) := by decide +kernel
theorem dX6_best_10 : decode cX6_best 10 = .ok (.ldc_w 356, 3) := by decide +kernel
theorem dX6_best_13 : decode cX6_best 13 = .ok (.ireturn, 1) := by decide +kernel
theorem dX6_best_14 : decode cX6_best 14 = .ok (.aload_n 0, 1) := by decide +kernel
theorem dX6_best_15 : decode cX6_best 15 = .ok (.invokevirtual 377, 3) := by decide +kernel
theorem dX6_best_18 : decode cX6_best 18 = .ok (.istore_n 2, 1) := by decide +kernel
theorem dX6_best_19 : decode cX6_best 19 = .ok (.iload_n 1, 1) := by decide +kernel
theorem dX6_best_20 : decode cX6_best 20 = .ok (.ifCond .ne 7, 3) := by decide +kernel
theorem dX6_best_23 : decode cX6_best 23 = .ok (.iload_n 2, 1) := by decide +kernel
theorem dX6_best_24 : decode cX6_best 24 = .ok (.goto 7, 3) := by decide +kernel
theorem dX6_best_27 : decode cX6_best 27 = .ok (.aload_n 0, 1) := by decide +kernel
theorem dX6_best_28 : decode cX6_best 28 = .ok (.getfield 374, 3) := by decide +kernel
theorem dX6_best_31 : decode cX6_best 31 = .ok (.ireturn, 1) := by decide +kernel
theorem dX6_settle_0 : decode cX6_settle 0 = .ok (.aload_n 0, 1) := by decide +kernel
theorem dX6_settle_1 : decode cX6_settle 1 = .ok (.aload_n 0, 1) := by decide +kernel
theorem dX6_settle_2 : decode cX6_settle 2 = .ok (.invokevirtual 377, 3) := by decide +kernel
theorem dX6_settle_5 : decode cX6_settle 5 = .ok (.putfield 104, 3) := by decide +kernel
theorem dX6_settle_8 : decode cX6_settle 8 = .ok (.aload_n 0, 1) := by decide +kernel
theorem dX6_settle_9 : decode cX6_settle 9 = .ok (.getfield 374, 3) := by decide +kernel
theorem dX6_settle_12 : decode cX6_settle 12 = .ok (.ireturn, 1) := by decide +kernel
theorem dX6_cut_0 : decode cX6_cut 0 = .ok (.iload_n 1, 1) := by decide +kernel
theorem dX6_cut_1 : decode cX6_cut 1 = .ok (.i2l, 1) := by decide +kernel
theorem dX6_cut_2 : decode cX6_cut 2 = .ok (.lconst 0, 1) := by decide +kernel
theorem dX6_cut_3 : decode cX6_cut 3 = .ok (.lconst 1, 1) := by decide +kernel
theorem dX6_cut_4 : decode cX6_cut 4 = .ok (.invokestatic 73, 3) := by decide +kernel
theorem dX6_cut_7 : decode cX6_cut 7 = .ok (.ifCond .ne 6, 3) := by decide +kernel
theorem dX6_cut_10 : decode cX6_cut 10 = .ok (.bipush (-2), 2) := by decide +kernel
theorem dX6_cut_12 : decode cX6_cut 12 = .ok (.ireturn, 1) := by decide +kernel
theorem dX6_cut_13 : decode cX6_cut 13 = .ok (.iconst (-1), 1) := by decide +kernel
theorem dX6_cut_14 : decode cX6_cut 14 = .ok (.istore_n 2, 1) := by decide +kernel
theorem dX6_cut_15 : decode cX6_cut 15 = .ok (.iconst 0, 1) := by decide +kernel
theorem dX6_cut_16 : decode cX6_cut 16 = .ok (.istore_n 3, 1) := by decide +kernel
theorem dX6_cut_17 : decode cX6_cut 17 = .ok (.iconst 0, 1) := by decide +kernel
theorem dX6_cut_18 : decode cX6_cut 18 = .ok (.istore 4, 2) := by decide +kernel
theorem dX6_cut_20 : decode cX6_cut 20 = .ok (.iload 4, 2) := by decide +kernel
theorem dX6_cut_22 : decode cX6_cut 22 = .ok (.bipush 62, 2) := by decide +kernel
theorem dX6_cut_24 : decode cX6_cut 24 = .ok (.if_icmp .ge 89, 3) := by decide +kernel
theorem dX6_cut_27 : decode cX6_cut 27 = .ok (.iconst 1, 1) := by decide +kernel
theorem dX6_cut_28 : decode cX6_cut 28 = .ok (.iload 4, 2) := by decide +kernel
theorem dX6_cut_30 : decode cX6_cut 30 = .ok (.iconst 2, 1) := by decide +kernel
theorem dX6_cut_31 : decode cX6_cut 31 = .ok (.idiv, 1) := by decide +kernel
theorem dX6_cut_32 : decode cX6_cut 32 = .ok (.ishl, 1) := by decide +kernel
theorem dX6_cut_33 : decode cX6_cut 33 = .ok (.iconst 1, 1) := by decide +kernel
theorem dX6_cut_34 : decode cX6_cut 34 = .ok (.isub, 1) := by decide +kernel
theorem dX6_cut_35 : decode cX6_cut 35 = .ok (.istore 5, 2) := by decide +kernel
theorem dX6_cut_37 : decode cX6_cut 37 = .ok (.iload 4, 2) := by decide +kernel
theorem dX6_cut_39 : decode cX6_cut 39 = .ok (.iconst 2, 1) := by decide +kernel
theorem dX6_cut_40 : decode cX6_cut 40 = .ok (.irem, 1) := by decide +kernel
theorem dX6_cut_41 : decode cX6_cut 41 = .ok (.iconst 1, 1) := by decide +kernel
theorem dX6_cut_42 : decode cX6_cut 42 = .ok (.if_icmp .ne 8, 3) := by decide +kernel
theorem dX6_cut_45 : decode cX6_cut 45 = .ok (.iload 5, 2) := by decide +kernel
theorem dX6_cut_47 : decode cX6_cut 47 = .ok (.goto 11, 3) := by decide +kernel
theorem dX6_cut_50 : decode cX6_cut 50 = .ok (.ldc_w 380, 3) := by decide +kernel
theorem dX6_cut_53 : decode cX6_cut 53 = .ok (.iload 5, 2) := by decide +kernel
theorem dX6_cut_55 : decode cX6_cut 55 = .ok (.iconst (-1), 1) := by decide +kernel
theorem dX6_cut_56 : decode cX6_cut 56 = .ok (.ixor, 1) := by decide +kernel
theorem dX6_cut_57 : decode cX6_cut 57 = .ok (.iand, 1) := by decide +kernel
theorem dX6_cut_58 : decode cX6_cut 58 = .ok (.istore 6, 2) := by decide +kernel
theorem dX6_cut_60 : decode cX6_cut 60 = .ok (.aload_n 0, 1) := by decide +kernel
theorem dX6_cut_61 : decode cX6_cut 61 = .ok (.iload 6, 2) := by decide +kernel
theorem dX6_cut_63 : decode cX6_cut 63 = .ok (.iconst 0, 1) := by decide +kernel
theorem dX6_cut_64 : decode cX6_cut 64 = .ok (.invokevirtual 353, 3) := by decide +kernel
theorem dX6_cut_67 : decode cX6_cut 67 = .ok (.aload_n 0, 1) := by decide +kernel
theorem dX6_cut_68 : decode cX6_cut 68 = .ok (.iload 6, 2) := by decide +kernel
theorem dX6_cut_70 : decode cX6_cut 70 = .ok (.iconst 1, 1) := by decide +kernel
theorem dX6_cut_71 : decode cX6_cut 71 = .ok (.invokevirtual 353, 3) := by decide +kernel
theorem dX6_cut_74 : decode cX6_cut 74 = .ok (.isub, 1) := by decide +kernel
theorem dX6_cut_75 : decode cX6_cut 75 = .ok (.invokestatic 362, 3) := by decide +kernel
theorem dX6_cut_78 : decode cX6_cut 78 = .ok (.istore 7, 2) := by decide +kernel
theorem dX6_cut_80 : decode cX6_cut 80 = .ok (.iload_n 2, 1) := by decide +kernel
theorem dX6_cut_81 : decode cX6_cut 81 = .ok (.iconst (-1), 1) := by decide +kernel
theorem dX6_cut_82 : decode cX6_cut 82 = .ok (.if_icmp .eq 9, 3) := by decide +kernel
theorem dX6_cut_85 : decode cX6_cut 85 = .ok (.iload 7, 2) := by decide +kernel
theorem dX6_cut_87 : decode cX6_cut 87 = .ok (.iload_n 3, 1) := by decide +kernel
theorem dX6_cut_88 : decode cX6_cut 88 = .ok (.if_icmp .ge 19, 3) := by decide +kernel
theorem dX6_cut_91 : decode cX6_cut 91 = .ok (.bipush 10, 2) := by decide +kernel
theorem dX6_cut_93 : decode cX6_cut 93 = .ok (.iload 4, 2) := by decide +kernel
theorem dX6_cut_95 : decode cX6_cut 95 = .ok (.iconst 2, 1) := by decide +kernel
theorem dX6_cut_96 : decode cX6_cut 96 = .ok (.idiv, 1) := by decide +kernel
theorem dX6_cut_97 : decode cX6_cut 97 = .ok (.imul, 1) := by decide +kernel
theorem dX6_cut_98 : decode cX6_cut 98 = .ok (.iload 4, 2) := by decide +kernel
theorem dX6_cut_100 : decode cX6_cut 100 = .ok (.iconst 2, 1) := by decide +kernel
theorem dX6_cut_101 : decode cX6_cut 101 = .ok (.irem, 1) := by decide +kernel
theorem dX6_cut_102 : decode cX6_cut 102 = .ok (.iadd, 1) := by decide +kernel
theorem dX6_cut_103 : decode cX6_cut 103 = .ok (.istore_n 2, 1) := by decide +kernel
theorem dX6_cut_104 : decode cX6_cut 104 = .ok (.iload 7, 2) := by decide +kernel
theorem dX6_cut_106 : decode cX6_cut 106 = .ok (.istore_n 3, 1) := by decide +kernel
theorem dX6_cut_107 : decode cX6_cut 107 = .ok (.iinc 4 1, 3) := by decide +kernel
theorem dX6_cut_110 : decode cX6_cut 110 = .ok (.goto (-90), 3) := by decide +kernel
theorem dX6_cut_113 : decode cX6_cut 113 = .ok (.iload_n 1, 1) := by decide +kernel
theorem dX6_cut_114 : decode cX6_cut 114 = .ok (.ifCond .ne 7, 3) := by decide +kernel
theorem dX6_cut_117 : decode cX6_cut 117 = .ok (.iload_n 2, 1) := by decide +kernel
theorem dX6_cut_118 : decode cX6_cut 118 = .ok (.goto 4, 3) := by decide +kernel
theorem dX6_cut_121 : decode cX6_cut 121 = .ok (.iload_n 3, 1) := by decide +kernel
theorem dX6_cut_122 : decode cX6_cut 122 = .ok (.ireturn, 1) := by decide +kernel
theorem dX6_changes_0 : decode cX6_changes 0 = .ok (.aload_n 0, 1) := by decide +kernel
theorem dX6_changes_1 : decode cX6_changes 1 = .ok (.iconst (-1), 1) := by decide +kernel
theorem dX6_changes_2 : decode cX6_changes 2 = .ok (.putfield 381, 3) := by decide +kernel
theorem dX6_changes_5 : decode cX6_changes 5 = .ok (.aload_n 0, 1) := by decide +kernel
theorem dX6_changes_6 : decode cX6_changes 6 = .ok (.aload_n 0, 1) := by decide +kernel
theorem dX6_changes_7 : decode cX6_changes 7 = .ok (.aload_n 0, 1) := by decide +kernel
theorem dX6_changes_8 : decode cX6_changes 8 = .ok (.getfield 104, 3) := by decide +kernel
theorem dX6_changes_11 : decode cX6_changes 11 = .ok (.iload_n 1, 1) := by decide +kernel
theorem dX6_changes_12 : decode cX6_changes 12 = .ok (.invokevirtual 353, 3) := by decide +kernel
theorem dX6_changes_15 : decode cX6_changes 15 = .ok (.putfield 384, 3) := by decide +kernel
theorem dX6_changes_18 : decode cX6_changes 18 = .ok (.iconst 0, 1) := by decide +kernel
theorem dX6_changes_19 : decode cX6_changes 19 = .ok (.istore_n 2, 1) := by decide +kernel
theorem dX6_changes_20 : decode cX6_changes 20 = .ok (.iload_n 2, 1) := by decide +kernel
theorem dX6_changes_21 : decode cX6_changes 21 = .ok (.bipush 30, 2) := by decide +kernel
theorem dX6_changes_23 : decode cX6_changes 23 = .ok (.if_icmp .ge 41, 3) := by decide +kernel
theorem dX6_changes_26 : decode cX6_changes 26 = .ok (.aload_n 0, 1) := by decide +kernel
theorem dX6_changes_27 : decode cX6_changes 27 = .ok (.aload_n 0, 1) := by decide +kernel
theorem dX6_changes_28 : decode cX6_changes 28 = .ok (.getfield 104, 3) := by decide +kernel
theorem dX6_changes_31 : decode cX6_changes 31 = .ok (.iconst 1, 1) := by decide +kernel
theorem dX6_changes_32 : decode cX6_changes 32 = .ok (.iload_n 2, 1) := by decide +kernel
theorem dX6_changes_33 : decode cX6_changes 33 = .ok (.ishl, 1) := by decide +kernel
theorem dX6_changes_34 : decode cX6_changes 34 = .ok (.ixor, 1) := by decide +kernel
theorem dX6_changes_35 : decode cX6_changes 35 = .ok (.iload_n 1, 1) := by decide +kernel
theorem dX6_changes_36 : decode cX6_changes 36 = .ok (.invokevirtual 353, 3) := by decide +kernel
theorem dX6_changes_39 : decode cX6_changes 39 = .ok (.istore_n 3, 1) := by decide +kernel
theorem dX6_changes_40 : decode cX6_changes 40 = .ok (.iload_n 3, 1) := by decide +kernel
theorem dX6_changes_41 : decode cX6_changes 41 = .ok (.aload_n 0, 1) := by decide +kernel
theorem dX6_changes_42 : decode cX6_changes 42 = .ok (.getfield 384, 3) := by decide +kernel
theorem dX6_changes_45 : decode cX6_changes 45 = .ok (.if_icmp .le 13, 3) := by decide +kernel
theorem dX6_changes_48 : decode cX6_changes 48 = .ok (.aload_n 0, 1) := by decide +kernel
theorem dX6_changes_49 : decode cX6_changes 49 = .ok (.iload_n 2, 1) := by decide +kernel
theorem dX6_changes_50 : decode cX6_changes 50 = .ok (.putfield 381, 3) := by decide +kernel
theorem dX6_changes_53 : decode cX6_changes 53 = .ok (.aload_n 0, 1) := by decide +kernel
theorem dX6_changes_54 : decode cX6_changes 54 = .ok (.iload_n 3, 1) := by decide +kernel
theorem dX6_changes_55 : decode cX6_changes 55 = .ok (.putfield 384, 3) := by decide +kernel
theorem dX6_changes_58 : decode cX6_changes 58 = .ok (.iinc 2 1, 3) := by decide +kernel
theorem dX6_changes_61 : decode cX6_changes 61 = .ok (.goto (-41), 3) := by decide +kernel
theorem dX6_changes_64 : decode cX6_changes 64 = .ok (.return_, 1) := by decide +kernel
theorem dX6_change_0 : decode cX6_change 0 = .ok (.iload_n 1, 1) := by decide +kernel
theorem dX6_change_1 : decode cX6_change 1 = .ok (.i2l, 1) := by decide +kernel
theorem dX6_change_2 : decode cX6_change 2 = .ok (.lconst 0, 1) := by decide +kernel
theorem dX6_change_3 : decode cX6_change 3 = .ok (.lconst 1, 1) := by decide +kernel
theorem dX6_change_4 : decode cX6_change 4 = .ok (.invokestatic 73, 3) := by decide +kernel
theorem dX6_change_7 : decode cX6_change 7 = .ok (.ifCond .ne 7, 3) := by decide +kernel
theorem dX6_change_10 : decode cX6_change 10 = .ok (.ldc_w 356, 3) := by decide +kernel
theorem dX6_change_13 : decode cX6_change 13 = .ok (.ireturn, 1) := by decide +kernel
theorem dX6_change_14 : decode cX6_change 14 = .ok (.aload_n 0, 1) := by decide +kernel
theorem dX6_change_15 : decode cX6_change 15 = .ok (.iconst 2, 1) := by decide +kernel
theorem dX6_change_16 : decode cX6_change 16 = .ok (.invokevirtual 387, 3) := by decide +kernel
theorem dX6_change_19 : decode cX6_change 19 = .ok (.iload_n 1, 1) := by decide +kernel
theorem dX6_change_20 : decode cX6_change 20 = .ok (.ifCond .ne 10, 3) := by decide +kernel
theorem dX6_change_23 : decode cX6_change 23 = .ok (.aload_n 0, 1) := by decide +kernel
theorem dX6_change_24 : decode cX6_change 24 = .ok (.getfield 381, 3) := by decide +kernel
theorem dX6_change_27 : decode cX6_change 27 = .ok (.goto 7, 3) := by decide +kernel
theorem dX6_change_30 : decode cX6_change 30 = .ok (.aload_n 0, 1) := by decide +kernel
theorem dX6_change_31 : decode cX6_change 31 = .ok (.getfield 384, 3) := by decide +kernel
theorem dX6_change_34 : decode cX6_change 34 = .ok (.ireturn, 1) := by decide +kernel
theorem dX6_forTown_0 : decode cX6_forTown 0 = .ok (.iload_n 1, 1) := by decide +kernel
theorem dX6_forTown_1 : decode cX6_forTown 1 = .ok (.i2l, 1) := by decide +kernel
theorem dX6_forTown_2 : decode cX6_forTown 2 = .ok (.lconst 0, 1) := by decide +kernel
theorem dX6_forTown_3 : decode cX6_forTown 3 = .ok (.lconst 1, 1) := by decide +kernel
theorem dX6_forTown_4 : decode cX6_forTown 4 = .ok (.invokestatic 73, 3) := by decide +kernel
theorem dX6_forTown_7 : decode cX6_forTown 7 = .ok (.ifCond .eq 13, 3) := by decide +kernel
theorem dX6_forTown_10 : decode cX6_forTown 10 = .ok (.iload_n 2, 1) := by decide +kernel
theorem dX6_forTown_11 : decode cX6_forTown 11 = .ok (.i2l, 1) := by decide +kernel
theorem dX6_forTown_12 : decode cX6_forTown 12 = .ok (.lconst 0, 1) := by decide +kernel
theorem dX6_forTown_13 : decode cX6_forTown 13 = .ok (.lconst 1, 1) := by decide +kernel
theorem dX6_forTown_14 : decode cX6_forTown 14 = .ok (.invokestatic 73, 3) := by decide +kernel
theorem dX6_forTown_17 : decode cX6_forTown 17 = .ok (.ifCond .ne 7, 3) := by decide +kernel
theorem dX6_forTown_20 : decode cX6_forTown 20 = .ok (.ldc_w 356, 3) := by decide +kernel
theorem dX6_forTown_23 : decode cX6_forTown 23 = .ok (.ireturn, 1) := by decide +kernel
theorem dX6_forTown_24 : decode cX6_forTown 24 = .ok (.aload_n 0, 1) := by decide +kernel
theorem dX6_forTown_25 : decode cX6_forTown 25 = .ok (.iload_n 1, 1) := by decide +kernel
theorem dX6_forTown_26 : decode cX6_forTown 26 = .ok (.invokevirtual 387, 3) := by decide +kernel
theorem dX6_forTown_29 : decode cX6_forTown 29 = .ok (.iload_n 2, 1) := by decide +kernel
theorem dX6_forTown_30 : decode cX6_forTown 30 = .ok (.ifCond .ne 10, 3) := by decide +kernel
theorem dX6_forTown_33 : decode cX6_forTown 33 = .ok (.aload_n 0, 1) := by decide +kernel
theorem dX6_forTown_34 : decode cX6_forTown 34 = .ok (.getfield 381, 3) := by decide +kernel
theorem dX6_forTown_37 : decode cX6_forTown 37 = .ok (.goto 7, 3) := by decide +kernel
theorem dX6_forTown_40 : decode cX6_forTown 40 = .ok (.aload_n 0, 1) := by decide +kernel
theorem dX6_forTown_41 : decode cX6_forTown 41 = .ok (.getfield 384, 3) := by decide +kernel
theorem dX6_forTown_44 : decode cX6_forTown 44 = .ok (.ireturn, 1) := by decide +kernel
theorem dX6_heaviest_0 : decode cX6_heaviest 0 = .ok (.iload_n 1, 1) := by decide +kernel
theorem dX6_heaviest_1 : decode cX6_heaviest 1 = .ok (.i2l, 1) := by decide +kernel
theorem dX6_heaviest_2 : decode cX6_heaviest 2 = .ok (.lconst 0, 1) := by decide +kernel
theorem dX6_heaviest_3 : decode cX6_heaviest 3 = .ok (.lconst 1, 1) := by decide +kernel
theorem dX6_heaviest_4 : decode cX6_heaviest 4 = .ok (.invokestatic 73, 3) := by decide +kernel
theorem dX6_heaviest_7 : decode cX6_heaviest 7 = .ok (.ifCond .ne 7, 3) := by decide +kernel
theorem dX6_heaviest_10 : decode cX6_heaviest 10 = .ok (.ldc_w 356, 3) := by decide +kernel
theorem dX6_heaviest_13 : decode cX6_heaviest 13 = .ok (.ireturn, 1) := by decide +kernel
theorem dX6_heaviest_14 : decode cX6_heaviest 14 = .ok (.iconst (-1), 1) := by decide +kernel
theorem dX6_heaviest_15 : decode cX6_heaviest 15 = .ok (.istore_n 2, 1) := by decide +kernel
theorem dX6_heaviest_16 : decode cX6_heaviest 16 = .ok (.iconst 0, 1) := by decide +kernel
theorem dX6_heaviest_17 : decode cX6_heaviest 17 = .ok (.istore_n 3, 1) := by decide +kernel
theorem dX6_heaviest_18 : decode cX6_heaviest 18 = .ok (.iconst 0, 1) := by decide +kernel
theorem dX6_heaviest_19 : decode cX6_heaviest 19 = .ok (.istore 4, 2) := by decide +kernel
theorem dX6_heaviest_21 : decode cX6_heaviest 21 = .ok (.iload 4, 2) := by decide +kernel
theorem dX6_heaviest_23 : decode cX6_heaviest 23 = .ok (.aload_n 0, 1) := by decide +kernel
theorem dX6_heaviest_24 : decode cX6_heaviest 24 = .ok (.getfield 70, 3) := by decide +kernel
theorem dX6_heaviest_27 : decode cX6_heaviest 27 = .ok (.if_icmp .ge 44, 3) := by decide +kernel
theorem dX6_heaviest_30 : decode cX6_heaviest 30 = .ok (.aload_n 0, 1) := by decide +kernel
theorem dX6_heaviest_31 : decode cX6_heaviest 31 = .ok (.aload_n 0, 1) := by decide +kernel
theorem dX6_heaviest_32 : decode cX6_heaviest 32 = .ok (.getfield 104, 3) := by decide +kernel
theorem dX6_heaviest_35 : decode cX6_heaviest 35 = .ok (.iload 4, 2) := by decide +kernel
theorem dX6_heaviest_37 : decode cX6_heaviest 37 = .ok (.invokevirtual 348, 3) := by decide +kernel
theorem dX6_heaviest_40 : decode cX6_heaviest 40 = .ok (.istore 5, 2) := by decide +kernel
theorem dX6_heaviest_42 : decode cX6_heaviest 42 = .ok (.iload_n 2, 1) := by decide +kernel
theorem dX6_heaviest_43 : decode cX6_heaviest 43 = .ok (.iconst (-1), 1) := by decide +kernel
theorem dX6_heaviest_44 : decode cX6_heaviest 44 = .ok (.if_icmp .eq 15, 3) := by decide +kernel
theorem dX6_heaviest_47 : decode cX6_heaviest 47 = .ok (.iload 5, 2) := by decide +kernel
theorem dX6_heaviest_49 : decode cX6_heaviest 49 = .ok (.invokestatic 362, 3) := by decide +kernel
theorem dX6_heaviest_52 : decode cX6_heaviest 52 = .ok (.iload_n 3, 1) := by decide +kernel
theorem dX6_heaviest_53 : decode cX6_heaviest 53 = .ok (.invokestatic 362, 3) := by decide +kernel
theorem dX6_heaviest_56 : decode cX6_heaviest 56 = .ok (.if_icmp .le 9, 3) := by decide +kernel
theorem dX6_heaviest_59 : decode cX6_heaviest 59 = .ok (.iload 4, 2) := by decide +kernel
theorem dX6_heaviest_61 : decode cX6_heaviest 61 = .ok (.istore_n 2, 1) := by decide +kernel
theorem dX6_heaviest_62 : decode cX6_heaviest 62 = .ok (.iload 5, 2) := by decide +kernel
theorem dX6_heaviest_64 : decode cX6_heaviest 64 = .ok (.istore_n 3, 1) := by decide +kernel
theorem dX6_heaviest_65 : decode cX6_heaviest 65 = .ok (.iinc 4 1, 3) := by decide +kernel
theorem dX6_heaviest_68 : decode cX6_heaviest 68 = .ok (.goto (-47), 3) := by decide +kernel
theorem dX6_heaviest_71 : decode cX6_heaviest 71 = .ok (.iload_n 1, 1) := by decide +kernel
theorem dX6_heaviest_72 : decode cX6_heaviest 72 = .ok (.ifCond .ne 7, 3) := by decide +kernel
theorem dX6_heaviest_75 : decode cX6_heaviest 75 = .ok (.iload_n 2, 1) := by decide +kernel
theorem dX6_heaviest_76 : decode cX6_heaviest 76 = .ok (.goto 4, 3) := by decide +kernel
theorem dX6_heaviest_79 : decode cX6_heaviest 79 = .ok (.iload_n 3, 1) := by decide +kernel
theorem dX6_heaviest_80 : decode cX6_heaviest 80 = .ok (.ireturn, 1) := by decide +kernel
theorem dX6_firstOther_0 : decode cX6_firstOther 0 = .ok (.iconst 0, 1) := by decide +kernel
theorem dX6_firstOther_1 : decode cX6_firstOther 1 = .ok (.istore 4, 2) := by decide +kernel
theorem dX6_firstOther_3 : decode cX6_firstOther 3 = .ok (.iload 4, 2) := by decide +kernel
theorem dX6_firstOther_5 : decode cX6_firstOther 5 = .ok (.aload_n 0, 1) := by decide +kernel
theorem dX6_firstOther_6 : decode cX6_firstOther 6 = .ok (.getfield 57, 3) := by decide +kernel
theorem dX6_firstOther_9 : decode cX6_firstOther 9 = .ok (.iload_n 1, 1) := by decide +kernel
theorem dX6_firstOther_10 : decode cX6_firstOther 10 = .ok (.iaload, 1) := by decide +kernel
theorem dX6_firstOther_11 : decode cX6_firstOther 11 = .ok (.if_icmp .ge 35, 3) := by decide +kernel
theorem dX6_firstOther_14 : decode cX6_firstOther 14 = .ok (.aload_n 0, 1) := by decide +kernel
theorem dX6_firstOther_15 : decode cX6_firstOther 15 = .ok (.iload_n 3, 1) := by decide +kernel
theorem dX6_firstOther_16 : decode cX6_firstOther 16 = .ok (.iload_n 2, 1) := by decide +kernel
theorem dX6_firstOther_17 : decode cX6_firstOther 17 = .ok (.iload 4, 2) := by decide +kernel
theorem dX6_firstOther_19 : decode cX6_firstOther 19 = .ok (.invokevirtual 344, 3) := by decide +kernel
theorem dX6_firstOther_22 : decode cX6_firstOther 22 = .ok (.aload_n 0, 1) := by decide +kernel
theorem dX6_firstOther_23 : decode cX6_firstOther 23 = .ok (.getfield 60, 3) := by decide +kernel
theorem dX6_firstOther_26 : decode cX6_firstOther 26 = .ok (.bipush 40, 2) := by decide +kernel
theorem dX6_firstOther_28 : decode cX6_firstOther 28 = .ok (.iload_n 1, 1) := by decide +kernel
theorem dX6_firstOther_29 : decode cX6_firstOther 29 = .ok (.imul, 1) := by decide +kernel
theorem dX6_firstOther_30 : decode cX6_firstOther 30 = .ok (.iload 4, 2) := by decide +kernel
theorem dX6_firstOther_32 : decode cX6_firstOther 32 = .ok (.iadd, 1) := by decide +kernel
theorem dX6_firstOther_33 : decode cX6_firstOther 33 = .ok (.iaload, 1) := by decide +kernel
theorem dX6_firstOther_34 : decode cX6_firstOther 34 = .ok (.if_icmp .eq 6, 3) := by decide +kernel
theorem dX6_firstOther_37 : decode cX6_firstOther 37 = .ok (.iload 4, 2) := by decide +kernel
theorem dX6_firstOther_39 : decode cX6_firstOther 39 = .ok (.ireturn, 1) := by decide +kernel
theorem dX6_firstOther_40 : decode cX6_firstOther 40 = .ok (.iinc 4 1, 3) := by decide +kernel
theorem dX6_firstOther_43 : decode cX6_firstOther 43 = .ok (.goto (-40), 3) := by decide +kernel
theorem dX6_firstOther_46 : decode cX6_firstOther 46 = .ok (.iconst (-1), 1) := by decide +kernel
theorem dX6_firstOther_47 : decode cX6_firstOther 47 = .ok (.ireturn, 1) := by decide +kernel
theorem dX6_tells_0 : decode cX6_tells 0 = .ok (.iload_n 1, 1) := by decide +kernel
theorem dX6_tells_1 : decode cX6_tells 1 = .ok (.invokestatic 391, 3) := by decide +kernel
theorem dX6_tells_4 : decode cX6_tells 4 = .ok (.ifCond .eq 23, 3) := by decide +kernel
theorem dX6_tells_7 : decode cX6_tells 7 = .ok (.aload_n 0, 1) := by decide +kernel
theorem dX6_tells_8 : decode cX6_tells 8 = .ok (.iload_n 2, 1) := by decide +kernel
theorem dX6_tells_9 : decode cX6_tells 9 = .ok (.invokevirtual 83, 3) := by decide +kernel
theorem dX6_tells_12 : decode cX6_tells 12 = .ok (.ifCond .eq 15, 3) := by decide +kernel
theorem dX6_tells_15 : decode cX6_tells 15 = .ok (.iload_n 3, 1) := by decide +kernel
theorem dX6_tells_16 : decode cX6_tells 16 = .ok (.i2l, 1) := by decide +kernel
theorem dX6_tells_17 : decode cX6_tells 17 = .ok (.lconst 0, 1) := by decide +kernel
theorem dX6_tells_18 : decode cX6_tells 18 = .ok (.ldc2_w 110, 3) := by decide +kernel
theorem dX6_tells_21 : decode cX6_tells 21 = .ok (.invokestatic 73, 3) := by decide +kernel
theorem dX6_tells_24 : decode cX6_tells 24 = .ok (.ifCond .ne 6, 3) := by decide +kernel
theorem dX6_tells_27 : decode cX6_tells 27 = .ok (.bipush (-2), 2) := by decide +kernel
theorem dX6_tells_29 : decode cX6_tells 29 = .ok (.ireturn, 1) := by decide +kernel
theorem dX6_tells_30 : decode cX6_tells 30 = .ok (.aload_n 0, 1) := by decide +kernel
theorem dX6_tells_31 : decode cX6_tells 31 = .ok (.getfield 51, 3) := by decide +kernel
theorem dX6_tells_34 : decode cX6_tells 34 = .ok (.iload_n 1, 1) := by decide +kernel
theorem dX6_tells_35 : decode cX6_tells 35 = .ok (.baload, 1) := by decide +kernel
theorem dX6_tells_36 : decode cX6_tells 36 = .ok (.ifCond .ne 6, 3) := by decide +kernel
theorem dX6_tells_39 : decode cX6_tells 39 = .ok (.bipush (-11), 2) := by decide +kernel
theorem dX6_tells_41 : decode cX6_tells 41 = .ok (.ireturn, 1) := by decide +kernel
theorem dX6_tells_42 : decode cX6_tells 42 = .ok (.aload_n 0, 1) := by decide +kernel
theorem dX6_tells_43 : decode cX6_tells 43 = .ok (.getfield 57, 3) := by decide +kernel
theorem dX6_tells_46 : decode cX6_tells 46 = .ok (.iload_n 1, 1) := by decide +kernel
theorem dX6_tells_47 : decode cX6_tells 47 = .ok (.iaload, 1) := by decide +kernel
theorem dX6_tells_48 : decode cX6_tells 48 = .ok (.bipush 30, 2) := by decide +kernel
theorem dX6_tells_50 : decode cX6_tells 50 = .ok (.if_icmp .le 6, 3) := by decide +kernel
theorem dX6_tells_53 : decode cX6_tells 53 = .ok (.bipush (-2), 2) := by decide +kernel
theorem dX6_tells_55 : decode cX6_tells 55 = .ok (.ireturn, 1) := by decide +kernel
theorem dX6_tells_56 : decode cX6_tells 56 = .ok (.iload_n 3, 1) := by decide +kernel
theorem dX6_tells_57 : decode cX6_tells 57 = .ok (.ifCond .ne 14, 3) := by decide +kernel
theorem dX6_tells_60 : decode cX6_tells 60 = .ok (.aload_n 0, 1) := by decide +kernel
theorem dX6_tells_61 : decode cX6_tells 61 = .ok (.iload_n 1, 1) := by decide +kernel
theorem dX6_tells_62 : decode cX6_tells 62 = .ok (.iload_n 2, 1) := by decide +kernel
theorem dX6_tells_63 : decode cX6_tells 63 = .ok (.aload_n 0, 1) := by decide +kernel
theorem dX6_tells_64 : decode cX6_tells 64 = .ok (.getfield 104, 3) := by decide +kernel
theorem dX6_tells_67 : decode cX6_tells 67 = .ok (.invokevirtual 394, 3) := by decide +kernel
theorem dX6_tells_70 : decode cX6_tells 70 = .ok (.ireturn, 1) := by decide +kernel
theorem dX6_tells_71 : decode cX6_tells 71 = .ok (.iconst 0, 1) := by decide +kernel
theorem dX6_tells_72 : decode cX6_tells 72 = .ok (.istore 4, 2) := by decide +kernel
theorem dX6_tells_74 : decode cX6_tells 74 = .ok (.iload_n 3, 1) := by decide +kernel
theorem dX6_tells_75 : decode cX6_tells 75 = .ok (.iconst 5, 1) := by decide +kernel
theorem dX6_tells_76 : decode cX6_tells 76 = .ok (.if_icmp .ne 58, 3) := by decide +kernel
theorem dX6_tells_79 : decode cX6_tells 79 = .ok (.iconst 0, 1) := by decide +kernel
theorem dX6_tells_80 : decode cX6_tells 80 = .ok (.istore 5, 2) := by decide +kernel
theorem dX6_tells_82 : decode cX6_tells 82 = .ok (.iload 5, 2) := by decide +kernel
theorem dX6_tells_84 : decode cX6_tells 84 = .ok (.aload_n 0, 1) := by decide +kernel
theorem dX6_tells_85 : decode cX6_tells 85 = .ok (.getfield 57, 3) := by decide +kernel
theorem dX6_tells_88 : decode cX6_tells 88 = .ok (.iload_n 1, 1) := by decide +kernel
theorem dX6_tells_89 : decode cX6_tells 89 = .ok (.iaload, 1) := by decide +kernel
theorem dX6_tells_90 : decode cX6_tells 90 = .ok (.if_icmp .ge 41, 3) := by decide +kernel
theorem dX6_tells_93 : decode cX6_tells 93 = .ok (.iload 4, 2) := by decide +kernel
theorem dX6_tells_95 : decode cX6_tells 95 = .ok (.aload_n 0, 1) := by decide +kernel
theorem dX6_tells_96 : decode cX6_tells 96 = .ok (.iload_n 1, 1) := by decide +kernel
theorem dX6_tells_97 : decode cX6_tells 97 = .ok (.iload_n 2, 1) := by decide +kernel
theorem dX6_tells_98 : decode cX6_tells 98 = .ok (.aload_n 0, 1) := by decide +kernel
theorem dX6_tells_99 : decode cX6_tells 99 = .ok (.getfield 104, 3) := by decide +kernel
theorem dX6_tells_102 : decode cX6_tells 102 = .ok (.iconst 1, 1) := by decide +kernel
theorem dX6_tells_103 : decode cX6_tells 103 = .ok (.iload 5, 2) := by decide +kernel
theorem dX6_tells_105 : decode cX6_tells 105 = .ok (.ishl, 1) := by decide +kernel
theorem dX6_tells_106 : decode cX6_tells 106 = .ok (.ixor, 1) := by decide +kernel
theorem dX6_tells_107 : decode cX6_tells 107 = .ok (.invokevirtual 394, 3) := by decide +kernel
theorem dX6_tells_110 : decode cX6_tells 110 = .ok (.iconst (-1), 1) := by decide +kernel
theorem dX6_tells_111 : decode cX6_tells 111 = .ok (.if_icmp .ne 7, 3) := by decide +kernel
theorem dX6_tells_114 : decode cX6_tells 114 = .ok (.iconst 1, 1) := by decide +kernel
theorem dX6_tells_115 : decode cX6_tells 115 = .ok (.goto 4, 3) := by decide +kernel
theorem dX6_tells_118 : decode cX6_tells 118 = .ok (.iconst 0, 1) := by decide +kernel
theorem dX6_tells_119 : decode cX6_tells 119 = .ok (.iload 5, 2) := by decide +kernel
theorem dX6_tells_121 : decode cX6_tells 121 = .ok (.ishl, 1) := by decide +kernel
theorem dX6_tells_122 : decode cX6_tells 122 = .ok (.ior, 1) := by decide +kernel
theorem dX6_tells_123 : decode cX6_tells 123 = .ok (.istore 4, 2) := by decide +kernel
theorem dX6_tells_125 : decode cX6_tells 125 = .ok (.iinc 5 1, 3) := by decide +kernel
theorem dX6_tells_128 : decode cX6_tells 128 = .ok (.goto (-46), 3) := by decide +kernel
theorem dX6_tells_131 : decode cX6_tells 131 = .ok (.iload 4, 2) := by decide +kernel
theorem dX6_tells_133 : decode cX6_tells 133 = .ok (.ireturn, 1) := by decide +kernel
theorem dX6_tells_134 : decode cX6_tells 134 = .ok (.iload_n 3, 1) := by decide +kernel
theorem dX6_tells_135 : decode cX6_tells 135 = .ok (.iconst 1, 1) := by decide +kernel
theorem dX6_tells_136 : decode cX6_tells 136 = .ok (.if_icmp .ne 7, 3) := by decide +kernel
theorem dX6_tells_139 : decode cX6_tells 139 = .ok (.iconst 4, 1) := by decide +kernel
theorem dX6_tells_140 : decode cX6_tells 140 = .ok (.goto 13, 3) := by decide +kernel
theorem dX6_tells_143 : decode cX6_tells 143 = .ok (.iload_n 3, 1) := by decide +kernel
theorem dX6_tells_144 : decode cX6_tells 144 = .ok (.iconst 4, 1) := by decide +kernel
theorem dX6_tells_145 : decode cX6_tells 145 = .ok (.if_icmp .ne 7, 3) := by decide +kernel
theorem dX6_tells_148 : decode cX6_tells 148 = .ok (.iconst 5, 1) := by decide +kernel
theorem dX6_tells_149 : decode cX6_tells 149 = .ok (.goto 4, 3) := by decide +kernel
theorem dX6_tells_152 : decode cX6_tells 152 = .ok (.iload_n 3, 1) := by decide +kernel
theorem dX6_tells_153 : decode cX6_tells 153 = .ok (.istore 5, 2) := by decide +kernel
theorem dX6_tells_155 : decode cX6_tells 155 = .ok (.iload 5, 2) := by decide +kernel
theorem dX6_tells_157 : decode cX6_tells 157 = .ok (.iconst 5, 1) := by decide +kernel
theorem dX6_tells_158 : decode cX6_tells 158 = .ok (.if_icmp .ne 10, 3) := by decide +kernel
theorem dX6_tells_161 : decode cX6_tells 161 = .ok (.aload_n 0, 1) := by decide +kernel
theorem dX6_tells_162 : decode cX6_tells 162 = .ok (.getfield 107, 3) := by decide +kernel
theorem dX6_tells_165 : decode cX6_tells 165 = .ok (.goto 10, 3) := by decide +kernel
theorem dX6_tells_168 : decode cX6_tells 168 = .ok (.aload_n 0, 1) := by decide +kernel
theorem dX6_tells_169 : decode cX6_tells 169 = .ok (.iload_n 2, 1) := by decide +kernel
theorem dX6_tells_170 : decode cX6_tells 170 = .ok (.iload 5, 2) := by decide +kernel
theorem dX6_tells_172 : decode cX6_tells 172 = .ok (.invokevirtual 96, 3) := by decide +kernel
theorem dX6_tells_175 : decode cX6_tells 175 = .ok (.istore 6, 2) := by decide +kernel
theorem dX6_tells_177 : decode cX6_tells 177 = .ok (.iload_n 3, 1) := by decide +kernel
theorem dX6_tells_178 : decode cX6_tells 178 = .ok (.iconst 1, 1) := by decide +kernel
theorem dX6_tells_179 : decode cX6_tells 179 = .ok (.if_icmp .ne 8, 3) := by decide +kernel
theorem dX6_tells_182 : decode cX6_tells 182 = .ok (.bipush 6, 2) := by decide +kernel
theorem dX6_tells_184 : decode cX6_tells 184 = .ok (.goto 26, 3) := by decide +kernel
theorem dX6_tells_187 : decode cX6_tells 187 = .ok (.iload_n 3, 1) := by decide +kernel
theorem dX6_tells_188 : decode cX6_tells 188 = .ok (.iconst 2, 1) := by decide +kernel
theorem dX6_tells_189 : decode cX6_tells 189 = .ok (.if_icmp .ne 8, 3) := by decide +kernel
theorem dX6_tells_192 : decode cX6_tells 192 = .ok (.bipush 10, 2) := by decide +kernel
theorem dX6_tells_194 : decode cX6_tells 194 = .ok (.goto 16, 3) := by decide +kernel
theorem dX6_tells_197 : decode cX6_tells 197 = .ok (.iload_n 3, 1) := by decide +kernel
theorem dX6_tells_198 : decode cX6_tells 198 = .ok (.iconst 3, 1) := by decide +kernel
theorem dX6_tells_199 : decode cX6_tells 199 = .ok (.if_icmp .ne 7, 3) := by decide +kernel
theorem dX6_tells_202 : decode cX6_tells 202 = .ok (.iconst 2, 1) := by decide +kernel
theorem dX6_tells_203 : decode cX6_tells 203 = .ok (.goto 7, 3) := by decide +kernel
theorem dX6_tells_206 : decode cX6_tells 206 = .ok (.aload_n 0, 1) := by decide +kernel
theorem dX6_tells_207 : decode cX6_tells 207 = .ok (.getfield 67, 3) := by decide +kernel
theorem dX6_tells_210 : decode cX6_tells 210 = .ok (.istore 7, 2) := by decide +kernel
theorem dX6_tells_212 : decode cX6_tells 212 = .ok (.iconst 0, 1) := by decide +kernel
theorem dX6_tells_213 : decode cX6_tells 213 = .ok (.istore 8, 2) := by decide +kernel
theorem dX6_tells_215 : decode cX6_tells 215 = .ok (.iload 8, 2) := by decide +kernel
theorem dX6_tells_217 : decode cX6_tells 217 = .ok (.iload 7, 2) := by decide +kernel
theorem dX6_tells_219 : decode cX6_tells 219 = .ok (.if_icmp .ge 45, 3) := by decide +kernel
theorem dX6_tells_222 : decode cX6_tells 222 = .ok (.aload_n 0, 1) := by decide +kernel
theorem dX6_tells_223 : decode cX6_tells 223 = .ok (.iload 5, 2) := by decide +kernel
theorem dX6_tells_225 : decode cX6_tells 225 = .ok (.iload_n 2, 1) := by decide +kernel
theorem dX6_tells_226 : decode cX6_tells 226 = .ok (.iload 8, 2) := by decide +kernel
theorem dX6_tells_228 : decode cX6_tells 228 = .ok (.invokevirtual 100, 3) := by decide +kernel
theorem dX6_tells_231 : decode cX6_tells 231 = .ok (.iload 4, 2) := by decide +kernel
theorem dX6_tells_233 : decode cX6_tells 233 = .ok (.aload_n 0, 1) := by decide +kernel
theorem dX6_tells_234 : decode cX6_tells 234 = .ok (.iload_n 1, 1) := by decide +kernel
theorem dX6_tells_235 : decode cX6_tells 235 = .ok (.iload_n 2, 1) := by decide +kernel
theorem dX6_tells_236 : decode cX6_tells 236 = .ok (.aload_n 0, 1) := by decide +kernel
theorem dX6_tells_237 : decode cX6_tells 237 = .ok (.getfield 104, 3) := by decide +kernel
theorem dX6_tells_240 : decode cX6_tells 240 = .ok (.invokevirtual 394, 3) := by decide +kernel
theorem dX6_tells_243 : decode cX6_tells 243 = .ok (.iconst (-1), 1) := by decide +kernel
theorem dX6_tells_244 : decode cX6_tells 244 = .ok (.if_icmp .ne 7, 3) := by decide +kernel
theorem dX6_tells_247 : decode cX6_tells 247 = .ok (.iconst 1, 1) := by decide +kernel
theorem dX6_tells_248 : decode cX6_tells 248 = .ok (.goto 4, 3) := by decide +kernel
theorem dX6_tells_251 : decode cX6_tells 251 = .ok (.iconst 0, 1) := by decide +kernel
theorem dX6_tells_252 : decode cX6_tells 252 = .ok (.iload 8, 2) := by decide +kernel
theorem dX6_tells_254 : decode cX6_tells 254 = .ok (.ishl, 1) := by decide +kernel
theorem dX6_tells_255 : decode cX6_tells 255 = .ok (.ior, 1) := by decide +kernel
theorem dX6_tells_256 : decode cX6_tells 256 = .ok (.istore 4, 2) := by decide +kernel
theorem dX6_tells_258 : decode cX6_tells 258 = .ok (.iinc 8 1, 3) := by decide +kernel
theorem dX6_tells_261 : decode cX6_tells 261 = .ok (.goto (-46), 3) := by decide +kernel
theorem dX6_tells_264 : decode cX6_tells 264 = .ok (.aload_n 0, 1) := by decide +kernel
theorem dX6_tells_265 : decode cX6_tells 265 = .ok (.iload 5, 2) := by decide +kernel
theorem dX6_tells_267 : decode cX6_tells 267 = .ok (.iload_n 2, 1) := by decide +kernel
theorem dX6_tells_268 : decode cX6_tells 268 = .ok (.iload 6, 2) := by decide +kernel
theorem dX6_tells_270 : decode cX6_tells 270 = .ok (.invokevirtual 100, 3) := by decide +kernel
theorem dX6_tells_273 : decode cX6_tells 273 = .ok (.iload 4, 2) := by decide +kernel
theorem dX6_tells_275 : decode cX6_tells 275 = .ok (.ireturn, 1) := by decide +kernel
theorem dX6_film_0 : decode cX6_film 0 = .ok (.iload_n 1, 1) := by decide +kernel
theorem dX6_film_1 : decode cX6_film 1 = .ok (.invokestatic 391, 3) := by decide +kernel
theorem dX6_film_4 : decode cX6_film 4 = .ok (.ifCond .eq 23, 3) := by decide +kernel
theorem dX6_film_7 : decode cX6_film 7 = .ok (.aload_n 0, 1) := by decide +kernel
theorem dX6_film_8 : decode cX6_film 8 = .ok (.iload_n 2, 1) := by decide +kernel
theorem dX6_film_9 : decode cX6_film 9 = .ok (.invokevirtual 83, 3) := by decide +kernel
theorem dX6_film_12 : decode cX6_film 12 = .ok (.ifCond .eq 15, 3) := by decide +kernel
theorem dX6_film_15 : decode cX6_film 15 = .ok (.iload_n 3, 1) := by decide +kernel
theorem dX6_film_16 : decode cX6_film 16 = .ok (.i2l, 1) := by decide +kernel
theorem dX6_film_17 : decode cX6_film 17 = .ok (.lconst 0, 1) := by decide +kernel
theorem dX6_film_18 : decode cX6_film 18 = .ok (.ldc2_w 397, 3) := by decide +kernel
theorem dX6_film_21 : decode cX6_film 21 = .ok (.invokestatic 73, 3) := by decide +kernel
theorem dX6_film_24 : decode cX6_film 24 = .ok (.ifCond .ne 6, 3) := by decide +kernel
theorem dX6_film_27 : decode cX6_film 27 = .ok (.bipush (-2), 2) := by decide +kernel
theorem dX6_film_29 : decode cX6_film 29 = .ok (.ireturn, 1) := by decide +kernel
theorem dX6_film_30 : decode cX6_film 30 = .ok (.aload_n 0, 1) := by decide +kernel
theorem dX6_film_31 : decode cX6_film 31 = .ok (.iload_n 1, 1) := by decide +kernel
theorem dX6_film_32 : decode cX6_film 32 = .ok (.iconst 1, 1) := by decide +kernel
theorem dX6_film_33 : decode cX6_film 33 = .ok (.iload_n 3, 1) := by decide +kernel
theorem dX6_film_34 : decode cX6_film 34 = .ok (.invokevirtual 399, 3) := by decide +kernel
theorem dX6_film_37 : decode cX6_film 37 = .ok (.pop, 1) := by decide +kernel
theorem dX6_film_38 : decode cX6_film 38 = .ok (.iconst 0, 1) := by decide +kernel
theorem dX6_film_39 : decode cX6_film 39 = .ok (.istore 4, 2) := by decide +kernel
theorem dX6_film_41 : decode cX6_film 41 = .ok (.iload 4, 2) := by decide +kernel
theorem dX6_film_43 : decode cX6_film 43 = .ok (.iload_n 3, 1) := by decide +kernel
theorem dX6_film_44 : decode cX6_film 44 = .ok (.if_icmp .ge 32, 3) := by decide +kernel
theorem dX6_film_47 : decode cX6_film 47 = .ok (.aload_n 0, 1) := by decide +kernel
theorem dX6_film_48 : decode cX6_film 48 = .ok (.getfield 60, 3) := by decide +kernel
theorem dX6_film_51 : decode cX6_film 51 = .ok (.bipush 40, 2) := by decide +kernel
theorem dX6_film_53 : decode cX6_film 53 = .ok (.iload_n 1, 1) := by decide +kernel
theorem dX6_film_54 : decode cX6_film 54 = .ok (.imul, 1) := by decide +kernel
theorem dX6_film_55 : decode cX6_film 55 = .ok (.iload 4, 2) := by decide +kernel
theorem dX6_film_57 : decode cX6_film 57 = .ok (.iadd, 1) := by decide +kernel
theorem dX6_film_58 : decode cX6_film 58 = .ok (.aload_n 0, 1) := by decide +kernel
theorem dX6_film_59 : decode cX6_film 59 = .ok (.aload_n 0, 1) := by decide +kernel
theorem dX6_film_60 : decode cX6_film 60 = .ok (.getfield 104, 3) := by decide +kernel
theorem dX6_film_63 : decode cX6_film 63 = .ok (.iload_n 2, 1) := by decide +kernel
theorem dX6_film_64 : decode cX6_film 64 = .ok (.iload 4, 2) := by decide +kernel
theorem dX6_film_66 : decode cX6_film 66 = .ok (.invokevirtual 344, 3) := by decide +kernel
theorem dX6_film_69 : decode cX6_film 69 = .ok (.iastore, 1) := by decide +kernel
theorem dX6_film_70 : decode cX6_film 70 = .ok (.iinc 4 1, 3) := by decide +kernel
theorem dX6_film_73 : decode cX6_film 73 = .ok (.goto (-32), 3) := by decide +kernel
theorem dX6_film_76 : decode cX6_film 76 = .ok (.iload_n 3, 1) := by decide +kernel
theorem dX6_film_77 : decode cX6_film 77 = .ok (.ireturn, 1) := by decide +kernel
theorem dX6_draws_0 : decode cX6_draws 0 = .ok (.iload_n 1, 1) := by decide +kernel
theorem dX6_draws_1 : decode cX6_draws 1 = .ok (.istore_n 2, 1) := by decide +kernel
theorem dX6_draws_2 : decode cX6_draws 2 = .ok (.iconst 0, 1) := by decide +kernel
theorem dX6_draws_3 : decode cX6_draws 3 = .ok (.istore_n 3, 1) := by decide +kernel
theorem dX6_draws_4 : decode cX6_draws 4 = .ok (.iload_n 3, 1) := by decide +kernel
theorem dX6_draws_5 : decode cX6_draws 5 = .ok (.bipush 30, 2) := by decide +kernel
theorem dX6_draws_7 : decode cX6_draws 7 = .ok (.if_icmp .ge 44, 3) := by decide +kernel
theorem dX6_draws_10 : decode cX6_draws 10 = .ok (.aload_n 0, 1) := by decide +kernel
theorem dX6_draws_11 : decode cX6_draws 11 = .ok (.getfield 39, 3) := by decide +kernel
theorem dX6_draws_14 : decode cX6_draws 14 = .ok (.iload_n 3, 1) := by decide +kernel
theorem dX6_draws_15 : decode cX6_draws 15 = .ok (.aload_n 0, 1) := by decide +kernel
theorem dX6_draws_16 : decode cX6_draws 16 = .ok (.getfield 23, 3) := by decide +kernel
theorem dX6_draws_19 : decode cX6_draws 19 = .ok (.iload_n 3, 1) := by decide +kernel
theorem dX6_draws_20 : decode cX6_draws 20 = .ok (.iaload, 1) := by decide +kernel
theorem dX6_draws_21 : decode cX6_draws 21 = .ok (.iastore, 1) := by decide +kernel
theorem dX6_draws_22 : decode cX6_draws 22 = .ok (.iload_n 2, 1) := by decide +kernel
theorem dX6_draws_23 : decode cX6_draws 23 = .ok (.ldc_w 402, 3) := by decide +kernel
theorem dX6_draws_26 : decode cX6_draws 26 = .ok (.imul, 1) := by decide +kernel
theorem dX6_draws_27 : decode cX6_draws 27 = .ok (.sipush 12345, 3) := by decide +kernel
theorem dX6_draws_30 : decode cX6_draws 30 = .ok (.iadd, 1) := by decide +kernel
theorem dX6_draws_31 : decode cX6_draws 31 = .ok (.istore_n 2, 1) := by decide +kernel
theorem dX6_draws_32 : decode cX6_draws 32 = .ok (.aload_n 0, 1) := by decide +kernel
theorem dX6_draws_33 : decode cX6_draws 33 = .ok (.getfield 23, 3) := by decide +kernel
theorem dX6_draws_36 : decode cX6_draws 36 = .ok (.iload_n 3, 1) := by decide +kernel
theorem dX6_draws_37 : decode cX6_draws 37 = .ok (.iload_n 2, 1) := by decide +kernel
theorem dX6_draws_38 : decode cX6_draws 38 = .ok (.bipush 9, 2) := by decide +kernel
theorem dX6_draws_40 : decode cX6_draws 40 = .ok (.iushr, 1) := by decide +kernel
theorem dX6_draws_41 : decode cX6_draws 41 = .ok (.bipush 10, 2) := by decide +kernel
theorem dX6_draws_43 : decode cX6_draws 43 = .ok (.irem, 1) := by decide +kernel
theorem dX6_draws_44 : decode cX6_draws 44 = .ok (.iastore, 1) := by decide +kernel
theorem dX6_draws_45 : decode cX6_draws 45 = .ok (.iinc 3 1, 3) := by decide +kernel
theorem dX6_draws_48 : decode cX6_draws 48 = .ok (.goto (-44), 3) := by decide +kernel
theorem dX6_draws_51 : decode cX6_draws 51 = .ok (.return_, 1) := by decide +kernel
theorem dX6_warms_0 : decode cX6_warms 0 = .ok (.iconst 0, 1) := by decide +kernel
theorem dX6_warms_1 : decode cX6_warms 1 = .ok (.istore_n 1, 1) := by decide +kernel
theorem dX6_warms_2 : decode cX6_warms 2 = .ok (.iload_n 1, 1) := by decide +kernel
theorem dX6_warms_3 : decode cX6_warms 3 = .ok (.bipush 30, 2) := by decide +kernel
theorem dX6_warms_5 : decode cX6_warms 5 = .ok (.if_icmp .ge 21, 3) := by decide +kernel
theorem dX6_warms_8 : decode cX6_warms 8 = .ok (.aload_n 0, 1) := by decide +kernel
theorem dX6_warms_9 : decode cX6_warms 9 = .ok (.getfield 23, 3) := by decide +kernel
theorem dX6_warms_12 : decode cX6_warms 12 = .ok (.iload_n 1, 1) := by decide +kernel
theorem dX6_warms_13 : decode cX6_warms 13 = .ok (.aload_n 0, 1) := by decide +kernel
theorem dX6_warms_14 : decode cX6_warms 14 = .ok (.getfield 39, 3) := by decide +kernel
theorem dX6_warms_17 : decode cX6_warms 17 = .ok (.iload_n 1, 1) := by decide +kernel
theorem dX6_warms_18 : decode cX6_warms 18 = .ok (.iaload, 1) := by decide +kernel
theorem dX6_warms_19 : decode cX6_warms 19 = .ok (.iastore, 1) := by decide +kernel
theorem dX6_warms_20 : decode cX6_warms 20 = .ok (.iinc 1 1, 3) := by decide +kernel
theorem dX6_warms_23 : decode cX6_warms 23 = .ok (.goto (-21), 3) := by decide +kernel
theorem dX6_warms_26 : decode cX6_warms 26 = .ok (.return_, 1) := by decide +kernel
theorem dX6_drawn_0 : decode cX6_drawn 0 = .ok (.aload_n 0, 1) := by decide +kernel
theorem dX6_drawn_1 : decode cX6_drawn 1 = .ok (.iload_n 1, 1) := by decide +kernel
theorem dX6_drawn_2 : decode cX6_drawn 2 = .ok (.invokevirtual 403, 3) := by decide +kernel
theorem dX6_drawn_5 : decode cX6_drawn 5 = .ok (.aload_n 0, 1) := by decide +kernel
theorem dX6_drawn_6 : decode cX6_drawn 6 = .ok (.aload_n 0, 1) := by decide +kernel
theorem dX6_drawn_7 : decode cX6_drawn 7 = .ok (.getfield 104, 3) := by decide +kernel
theorem dX6_drawn_10 : decode cX6_drawn 10 = .ok (.iconst 2, 1) := by decide +kernel
theorem dX6_drawn_11 : decode cX6_drawn 11 = .ok (.invokevirtual 353, 3) := by decide +kernel
theorem dX6_drawn_14 : decode cX6_drawn 14 = .ok (.istore_n 2, 1) := by decide +kernel
theorem dX6_drawn_15 : decode cX6_drawn 15 = .ok (.aload_n 0, 1) := by decide +kernel
theorem dX6_drawn_16 : decode cX6_drawn 16 = .ok (.invokevirtual 406, 3) := by decide +kernel
theorem dX6_drawn_19 : decode cX6_drawn 19 = .ok (.iload_n 2, 1) := by decide +kernel
theorem dX6_drawn_20 : decode cX6_drawn 20 = .ok (.ireturn, 1) := by decide +kernel
theorem dX6_chance_0 : decode cX6_chance 0 = .ok (.iload_n 2, 1) := by decide +kernel
theorem dX6_chance_1 : decode cX6_chance 1 = .ok (.i2l, 1) := by decide +kernel
theorem dX6_chance_2 : decode cX6_chance 2 = .ok (.lconst 1, 1) := by decide +kernel
theorem dX6_chance_3 : decode cX6_chance 3 = .ok (.ldc2_w 409, 3) := by decide +kernel
theorem dX6_chance_6 : decode cX6_chance 6 = .ok (.invokestatic 73, 3) := by decide +kernel
theorem dX6_chance_9 : decode cX6_chance 9 = .ok (.ifCond .eq 13, 3) := by decide +kernel
theorem dX6_chance_12 : decode cX6_chance 12 = .ok (.iload_n 3, 1) := by decide +kernel
theorem dX6_chance_13 : decode cX6_chance 13 = .ok (.i2l, 1) := by decide +kernel
theorem dX6_chance_14 : decode cX6_chance 14 = .ok (.lconst 0, 1) := by decide +kernel
theorem dX6_chance_15 : decode cX6_chance 15 = .ok (.lconst 1, 1) := by decide +kernel
theorem dX6_chance_16 : decode cX6_chance 16 = .ok (.invokestatic 73, 3) := by decide +kernel
theorem dX6_chance_19 : decode cX6_chance 19 = .ok (.ifCond .ne 7, 3) := by decide +kernel
theorem dX6_chance_22 : decode cX6_chance 22 = .ok (.ldc2_w 360, 3) := by decide +kernel
theorem dX6_chance_25 : decode cX6_chance 25 = .ok (.lreturn, 1) := by decide +kernel
theorem dX6_chance_26 : decode cX6_chance 26 = .ok (.lconst 0, 1) := by decide +kernel
theorem dX6_chance_27 : decode cX6_chance 27 = .ok (.lstore 4, 2) := by decide +kernel
theorem dX6_chance_29 : decode cX6_chance 29 = .ok (.iconst 0, 1) := by decide +kernel
theorem dX6_chance_30 : decode cX6_chance 30 = .ok (.istore 6, 2) := by decide +kernel
theorem dX6_chance_32 : decode cX6_chance 32 = .ok (.iload 6, 2) := by decide +kernel
theorem dX6_chance_34 : decode cX6_chance 34 = .ok (.iload_n 2, 1) := by decide +kernel
theorem dX6_chance_35 : decode cX6_chance 35 = .ok (.if_icmp .ge 52, 3) := by decide +kernel
theorem dX6_chance_38 : decode cX6_chance 38 = .ok (.aload_n 0, 1) := by decide +kernel
theorem dX6_chance_39 : decode cX6_chance 39 = .ok (.iload_n 1, 1) := by decide +kernel
theorem dX6_chance_40 : decode cX6_chance 40 = .ok (.iload 6, 2) := by decide +kernel
theorem dX6_chance_42 : decode cX6_chance 42 = .ok (.iadd, 1) := by decide +kernel
theorem dX6_chance_43 : decode cX6_chance 43 = .ok (.invokevirtual 403, 3) := by decide +kernel
theorem dX6_chance_46 : decode cX6_chance 46 = .ok (.lload 4, 2) := by decide +kernel
theorem dX6_chance_48 : decode cX6_chance 48 = .ok (.aload_n 0, 1) := by decide +kernel
theorem dX6_chance_49 : decode cX6_chance 49 = .ok (.aload_n 0, 1) := by decide +kernel
theorem dX6_chance_50 : decode cX6_chance 50 = .ok (.getfield 104, 3) := by decide +kernel
theorem dX6_chance_53 : decode cX6_chance 53 = .ok (.iconst 0, 1) := by decide +kernel
theorem dX6_chance_54 : decode cX6_chance 54 = .ok (.invokevirtual 353, 3) := by decide +kernel
theorem dX6_chance_57 : decode cX6_chance 57 = .ok (.aload_n 0, 1) := by decide +kernel
theorem dX6_chance_58 : decode cX6_chance 58 = .ok (.aload_n 0, 1) := by decide +kernel
theorem dX6_chance_59 : decode cX6_chance 59 = .ok (.getfield 104, 3) := by decide +kernel
theorem dX6_chance_62 : decode cX6_chance 62 = .ok (.iconst 1, 1) := by decide +kernel
theorem dX6_chance_63 : decode cX6_chance 63 = .ok (.invokevirtual 353, 3) := by decide +kernel
theorem dX6_chance_66 : decode cX6_chance 66 = .ok (.if_icmp .le 7, 3) := by decide +kernel
theorem dX6_chance_69 : decode cX6_chance 69 = .ok (.lconst 1, 1) := by decide +kernel
theorem dX6_chance_70 : decode cX6_chance 70 = .ok (.goto 4, 3) := by decide +kernel
theorem dX6_chance_73 : decode cX6_chance 73 = .ok (.lconst 0, 1) := by decide +kernel
theorem dX6_chance_74 : decode cX6_chance 74 = .ok (.ladd, 1) := by decide +kernel
theorem dX6_chance_75 : decode cX6_chance 75 = .ok (.lstore 4, 2) := by decide +kernel
theorem dX6_chance_77 : decode cX6_chance 77 = .ok (.aload_n 0, 1) := by decide +kernel
theorem dX6_chance_78 : decode cX6_chance 78 = .ok (.invokevirtual 406, 3) := by decide +kernel
theorem dX6_chance_81 : decode cX6_chance 81 = .ok (.iinc 6 1, 3) := by decide +kernel
theorem dX6_chance_84 : decode cX6_chance 84 = .ok (.goto (-52), 3) := by decide +kernel
theorem dX6_chance_87 : decode cX6_chance 87 = .ok (.lload 4, 2) := by decide +kernel
theorem dX6_chance_89 : decode cX6_chance 89 = .ok (.lstore 6, 2) := by decide +kernel
theorem dX6_chance_91 : decode cX6_chance 91 = .ok (.iload_n 2, 1) := by decide +kernel
theorem dX6_chance_92 : decode cX6_chance 92 = .ok (.i2l, 1) := by decide +kernel
theorem dX6_chance_93 : decode cX6_chance 93 = .ok (.lstore 8, 2) := by decide +kernel
theorem dX6_chance_95 : decode cX6_chance 95 = .ok (.lload 8, 2) := by decide +kernel
theorem dX6_chance_97 : decode cX6_chance 97 = .ok (.lconst 0, 1) := by decide +kernel
theorem dX6_chance_98 : decode cX6_chance 98 = .ok (.lcmp, 1) := by decide +kernel
theorem dX6_chance_99 : decode cX6_chance 99 = .ok (.ifCond .eq 21, 3) := by decide +kernel
theorem dX6_chance_102 : decode cX6_chance 102 = .ok (.lload 6, 2) := by decide +kernel
theorem dX6_chance_104 : decode cX6_chance 104 = .ok (.lload 8, 2) := by decide +kernel
theorem dX6_chance_106 : decode cX6_chance 106 = .ok (.lrem, 1) := by decide +kernel
theorem dX6_chance_107 : decode cX6_chance 107 = .ok (.lstore 10, 2) := by decide +kernel
theorem dX6_chance_109 : decode cX6_chance 109 = .ok (.lload 8, 2) := by decide +kernel
theorem dX6_chance_111 : decode cX6_chance 111 = .ok (.lstore 6, 2) := by decide +kernel
theorem dX6_chance_113 : decode cX6_chance 113 = .ok (.lload 10, 2) := by decide +kernel
theorem dX6_chance_115 : decode cX6_chance 115 = .ok (.lstore 8, 2) := by decide +kernel
theorem dX6_chance_117 : decode cX6_chance 117 = .ok (.goto (-22), 3) := by decide +kernel
theorem dX6_chance_120 : decode cX6_chance 120 = .ok (.iload_n 3, 1) := by decide +kernel
theorem dX6_chance_121 : decode cX6_chance 121 = .ok (.ifCond .ne 11, 3) := by decide +kernel
theorem dX6_chance_124 : decode cX6_chance 124 = .ok (.lload 4, 2) := by decide +kernel
theorem dX6_chance_126 : decode cX6_chance 126 = .ok (.lload 6, 2) := by decide +kernel
theorem dX6_chance_128 : decode cX6_chance 128 = .ok (.ldiv, 1) := by decide +kernel
theorem dX6_chance_129 : decode cX6_chance 129 = .ok (.goto 8, 3) := by decide +kernel
theorem dX6_chance_132 : decode cX6_chance 132 = .ok (.iload_n 2, 1) := by decide +kernel
theorem dX6_chance_133 : decode cX6_chance 133 = .ok (.i2l, 1) := by decide +kernel
theorem dX6_chance_134 : decode cX6_chance 134 = .ok (.lload 6, 2) := by decide +kernel
theorem dX6_chance_136 : decode cX6_chance 136 = .ok (.ldiv, 1) := by decide +kernel
theorem dX6_chance_137 : decode cX6_chance 137 = .ok (.lreturn, 1) := by decide +kernel
theorem dX6_image_0 : decode cX6_image 0 = .ok (.iconst 0, 1) := by decide +kernel
theorem dX6_image_1 : decode cX6_image 1 = .ok (.istore_n 1, 1) := by decide +kernel
theorem dX6_image_2 : decode cX6_image 2 = .ok (.iload_n 1, 1) := by decide +kernel
theorem dX6_image_3 : decode cX6_image 3 = .ok (.bipush 30, 2) := by decide +kernel
theorem dX6_image_5 : decode cX6_image 5 = .ok (.if_icmp .ge 21, 3) := by decide +kernel
theorem dX6_image_8 : decode cX6_image 8 = .ok (.aload_n 0, 1) := by decide +kernel
theorem dX6_image_9 : decode cX6_image 9 = .ok (.getfield 42, 3) := by decide +kernel
theorem dX6_image_12 : decode cX6_image 12 = .ok (.iload_n 1, 1) := by decide +kernel
theorem dX6_image_13 : decode cX6_image 13 = .ok (.aload_n 0, 1) := by decide +kernel
theorem dX6_image_14 : decode cX6_image 14 = .ok (.getfield 23, 3) := by decide +kernel
theorem dX6_image_17 : decode cX6_image 17 = .ok (.iload_n 1, 1) := by decide +kernel
theorem dX6_image_18 : decode cX6_image 18 = .ok (.iaload, 1) := by decide +kernel
theorem dX6_image_19 : decode cX6_image 19 = .ok (.iastore, 1) := by decide +kernel
theorem dX6_image_20 : decode cX6_image 20 = .ok (.iinc 1 1, 3) := by decide +kernel
theorem dX6_image_23 : decode cX6_image 23 = .ok (.goto (-21), 3) := by decide +kernel
theorem dX6_image_26 : decode cX6_image 26 = .ok (.iconst 0, 1) := by decide +kernel
theorem dX6_image_27 : decode cX6_image 27 = .ok (.istore_n 1, 1) := by decide +kernel
theorem dX6_image_28 : decode cX6_image 28 = .ok (.iload_n 1, 1) := by decide +kernel
theorem dX6_image_29 : decode cX6_image 29 = .ok (.bipush 12, 2) := by decide +kernel
theorem dX6_image_31 : decode cX6_image 31 = .ok (.if_icmp .ge 21, 3) := by decide +kernel
theorem dX6_image_34 : decode cX6_image 34 = .ok (.aload_n 0, 1) := by decide +kernel
theorem dX6_image_35 : decode cX6_image 35 = .ok (.getfield 45, 3) := by decide +kernel
theorem dX6_image_38 : decode cX6_image 38 = .ok (.iload_n 1, 1) := by decide +kernel
theorem dX6_image_39 : decode cX6_image 39 = .ok (.aload_n 0, 1) := by decide +kernel
theorem dX6_image_40 : decode cX6_image 40 = .ok (.getfield 29, 3) := by decide +kernel
theorem dX6_image_43 : decode cX6_image 43 = .ok (.iload_n 1, 1) := by decide +kernel
theorem dX6_image_44 : decode cX6_image 44 = .ok (.iaload, 1) := by decide +kernel
theorem dX6_image_45 : decode cX6_image 45 = .ok (.iastore, 1) := by decide +kernel
theorem dX6_image_46 : decode cX6_image 46 = .ok (.iinc 1 1, 3) := by decide +kernel
theorem dX6_image_49 : decode cX6_image 49 = .ok (.goto (-21), 3) := by decide +kernel
theorem dX6_image_52 : decode cX6_image 52 = .ok (.aload_n 0, 1) := by decide +kernel
theorem dX6_image_53 : decode cX6_image 53 = .ok (.aload_n 0, 1) := by decide +kernel
theorem dX6_image_54 : decode cX6_image 54 = .ok (.getfield 70, 3) := by decide +kernel
theorem dX6_image_57 : decode cX6_image 57 = .ok (.putfield 48, 3) := by decide +kernel
theorem dX6_image_60 : decode cX6_image 60 = .ok (.aload_n 0, 1) := by decide +kernel
theorem dX6_image_61 : decode cX6_image 61 = .ok (.aload_n 0, 1) := by decide +kernel
theorem dX6_image_62 : decode cX6_image 62 = .ok (.getfield 104, 3) := by decide +kernel
theorem dX6_image_65 : decode cX6_image 65 = .ok (.putfield 411, 3) := by decide +kernel
theorem dX6_image_68 : decode cX6_image 68 = .ok (.aload_n 0, 1) := by decide +kernel
theorem dX6_image_69 : decode cX6_image 69 = .ok (.aload_n 0, 1) := by decide +kernel
theorem dX6_image_70 : decode cX6_image 70 = .ok (.getfield 107, 3) := by decide +kernel
theorem dX6_image_73 : decode cX6_image 73 = .ok (.putfield 414, 3) := by decide +kernel
theorem dX6_image_76 : decode cX6_image 76 = .ok (.aload_n 0, 1) := by decide +kernel
theorem dX6_image_77 : decode cX6_image 77 = .ok (.getfield 70, 3) := by decide +kernel
theorem dX6_image_80 : decode cX6_image 80 = .ok (.ireturn, 1) := by decide +kernel
theorem dX6_back_0 : decode cX6_back 0 = .ok (.aload_n 0, 1) := by decide +kernel
theorem dX6_back_1 : decode cX6_back 1 = .ok (.getfield 48, 3) := by decide +kernel
theorem dX6_back_4 : decode cX6_back 4 = .ok (.iconst (-1), 1) := by decide +kernel
theorem dX6_back_5 : decode cX6_back 5 = .ok (.if_icmp .ne 6, 3) := by decide +kernel
theorem dX6_back_8 : decode cX6_back 8 = .ok (.bipush (-3), 2) := by decide +kernel
theorem dX6_back_10 : decode cX6_back 10 = .ok (.ireturn, 1) := by decide +kernel
theorem dX6_back_11 : decode cX6_back 11 = .ok (.iconst 0, 1) := by decide +kernel
theorem dX6_back_12 : decode cX6_back 12 = .ok (.istore_n 1, 1) := by decide +kernel
theorem dX6_back_13 : decode cX6_back 13 = .ok (.iload_n 1, 1) := by decide +kernel
theorem dX6_back_14 : decode cX6_back 14 = .ok (.bipush 30, 2) := by decide +kernel
theorem dX6_back_16 : decode cX6_back 16 = .ok (.if_icmp .ge 21, 3) := by decide +kernel
theorem dX6_back_19 : decode cX6_back 19 = .ok (.aload_n 0, 1) := by decide +kernel
theorem dX6_back_20 : decode cX6_back 20 = .ok (.getfield 23, 3) := by decide +kernel
theorem dX6_back_23 : decode cX6_back 23 = .ok (.iload_n 1, 1) := by decide +kernel
theorem dX6_back_24 : decode cX6_back 24 = .ok (.aload_n 0, 1) := by decide +kernel
theorem dX6_back_25 : decode cX6_back 25 = .ok (.getfield 42, 3) := by decide +kernel
theorem dX6_back_28 : decode cX6_back 28 = .ok (.iload_n 1, 1) := by decide +kernel
theorem dX6_back_29 : decode cX6_back 29 = .ok (.iaload, 1) := by decide +kernel
theorem dX6_back_30 : decode cX6_back 30 = .ok (.iastore, 1) := by decide +kernel
theorem dX6_back_31 : decode cX6_back 31 = .ok (.iinc 1 1, 3) := by decide +kernel
theorem dX6_back_34 : decode cX6_back 34 = .ok (.goto (-21), 3) := by decide +kernel
theorem dX6_back_37 : decode cX6_back 37 = .ok (.iconst 0, 1) := by decide +kernel
theorem dX6_back_38 : decode cX6_back 38 = .ok (.istore_n 1, 1) := by decide +kernel
theorem dX6_back_39 : decode cX6_back 39 = .ok (.iload_n 1, 1) := by decide +kernel
theorem dX6_back_40 : decode cX6_back 40 = .ok (.bipush 12, 2) := by decide +kernel
theorem dX6_back_42 : decode cX6_back 42 = .ok (.if_icmp .ge 21, 3) := by decide +kernel
theorem dX6_back_45 : decode cX6_back 45 = .ok (.aload_n 0, 1) := by decide +kernel
theorem dX6_back_46 : decode cX6_back 46 = .ok (.getfield 29, 3) := by decide +kernel
theorem dX6_back_49 : decode cX6_back 49 = .ok (.iload_n 1, 1) := by decide +kernel
theorem dX6_back_50 : decode cX6_back 50 = .ok (.aload_n 0, 1) := by decide +kernel
theorem dX6_back_51 : decode cX6_back 51 = .ok (.getfield 45, 3) := by decide +kernel
theorem dX6_back_54 : decode cX6_back 54 = .ok (.iload_n 1, 1) := by decide +kernel
theorem dX6_back_55 : decode cX6_back 55 = .ok (.iaload, 1) := by decide +kernel
theorem dX6_back_56 : decode cX6_back 56 = .ok (.iastore, 1) := by decide +kernel
theorem dX6_back_57 : decode cX6_back 57 = .ok (.iinc 1 1, 3) := by decide +kernel
theorem dX6_back_60 : decode cX6_back 60 = .ok (.goto (-21), 3) := by decide +kernel
theorem dX6_back_63 : decode cX6_back 63 = .ok (.aload_n 0, 1) := by decide +kernel
theorem dX6_back_64 : decode cX6_back 64 = .ok (.aload_n 0, 1) := by decide +kernel
theorem dX6_back_65 : decode cX6_back 65 = .ok (.getfield 48, 3) := by decide +kernel
theorem dX6_back_68 : decode cX6_back 68 = .ok (.putfield 70, 3) := by decide +kernel
theorem dX6_back_71 : decode cX6_back 71 = .ok (.aload_n 0, 1) := by decide +kernel
theorem dX6_back_72 : decode cX6_back 72 = .ok (.aload_n 0, 1) := by decide +kernel
theorem dX6_back_73 : decode cX6_back 73 = .ok (.getfield 411, 3) := by decide +kernel
theorem dX6_back_76 : decode cX6_back 76 = .ok (.putfield 104, 3) := by decide +kernel
theorem dX6_back_79 : decode cX6_back 79 = .ok (.aload_n 0, 1) := by decide +kernel
theorem dX6_back_80 : decode cX6_back 80 = .ok (.aload_n 0, 1) := by decide +kernel
theorem dX6_back_81 : decode cX6_back 81 = .ok (.getfield 414, 3) := by decide +kernel
theorem dX6_back_84 : decode cX6_back 84 = .ok (.putfield 107, 3) := by decide +kernel
theorem dX6_back_87 : decode cX6_back 87 = .ok (.aload_n 0, 1) := by decide +kernel
theorem dX6_back_88 : decode cX6_back 88 = .ok (.getfield 70, 3) := by decide +kernel
theorem dX6_back_91 : decode cX6_back 91 = .ok (.ireturn, 1) := by decide +kernel
theorem dX6_count_0 : decode cX6_count 0 = .ok (.iload_n 1, 1) := by decide +kernel
theorem dX6_count_1 : decode cX6_count 1 = .ok (.i2l, 1) := by decide +kernel
theorem dX6_count_2 : decode cX6_count 2 = .ok (.lconst 0, 1) := by decide +kernel
theorem dX6_count_3 : decode cX6_count 3 = .ok (.ldc2_w 110, 3) := by decide +kernel
theorem dX6_count_6 : decode cX6_count 6 = .ok (.invokestatic 73, 3) := by decide +kernel
theorem dX6_count_9 : decode cX6_count 9 = .ok (.ifCond .ne 6, 3) := by decide +kernel
theorem dX6_count_12 : decode cX6_count 12 = .ok (.bipush (-2), 2) := by decide +kernel
theorem dX6_count_14 : decode cX6_count 14 = .ok (.ireturn, 1) := by decide +kernel
theorem dX6_count_15 : decode cX6_count 15 = .ok (.iload_n 1, 1) := by decide +kernel
theorem dX6_count_16 : decode cX6_count 16 = .ok (.ifCond .eq 17, 3) := by decide +kernel
theorem dX6_count_19 : decode cX6_count 19 = .ok (.iload_n 1, 1) := by decide +kernel
theorem dX6_count_20 : decode cX6_count 20 = .ok (.i2l, 1) := by decide +kernel
theorem dX6_count_21 : decode cX6_count 21 = .ok (.ldc2_w 351, 3) := by decide +kernel
theorem dX6_count_24 : decode cX6_count 24 = .ok (.ldc2_w 417, 3) := by decide +kernel
theorem dX6_count_27 : decode cX6_count 27 = .ok (.invokestatic 73, 3) := by decide +kernel
theorem dX6_count_30 : decode cX6_count 30 = .ok (.ifCond .eq 43, 3) := by decide +kernel
theorem dX6_count_33 : decode cX6_count 33 = .ok (.iload_n 1, 1) := by decide +kernel
theorem dX6_count_34 : decode cX6_count 34 = .ok (.ifCond .ne 10, 3) := by decide +kernel
theorem dX6_count_37 : decode cX6_count 37 = .ok (.aload_n 0, 1) := by decide +kernel
theorem dX6_count_38 : decode cX6_count 38 = .ok (.getfield 70, 3) := by decide +kernel
theorem dX6_count_41 : decode cX6_count 41 = .ok (.goto 31, 3) := by decide +kernel
theorem dX6_count_44 : decode cX6_count 44 = .ok (.iload_n 1, 1) := by decide +kernel
theorem dX6_count_45 : decode cX6_count 45 = .ok (.iconst 2, 1) := by decide +kernel
theorem dX6_count_46 : decode cX6_count 46 = .ok (.if_icmp .ne 10, 3) := by decide +kernel
theorem dX6_count_49 : decode cX6_count 49 = .ok (.aload_n 0, 1) := by decide +kernel
theorem dX6_count_50 : decode cX6_count 50 = .ok (.getfield 67, 3) := by decide +kernel
theorem dX6_count_53 : decode cX6_count 53 = .ok (.goto 19, 3) := by decide +kernel
theorem dX6_count_56 : decode cX6_count 56 = .ok (.iload_n 1, 1) := by decide +kernel
theorem dX6_count_57 : decode cX6_count 57 = .ok (.iconst 3, 1) := by decide +kernel
theorem dX6_count_58 : decode cX6_count 58 = .ok (.if_icmp .ne 10, 3) := by decide +kernel
theorem dX6_count_61 : decode cX6_count 61 = .ok (.aload_n 0, 1) := by decide +kernel
theorem dX6_count_62 : decode cX6_count 62 = .ok (.getfield 125, 3) := by decide +kernel
theorem dX6_count_65 : decode cX6_count 65 = .ok (.goto 7, 3) := by decide +kernel
theorem dX6_count_68 : decode cX6_count 68 = .ok (.aload_n 0, 1) := by decide +kernel
theorem dX6_count_69 : decode cX6_count 69 = .ok (.getfield 107, 3) := by decide +kernel
theorem dX6_count_72 : decode cX6_count 72 = .ok (.ireturn, 1) := by decide +kernel
theorem dX6_count_73 : decode cX6_count 73 = .ok (.iconst 0, 1) := by decide +kernel
theorem dX6_count_74 : decode cX6_count 74 = .ok (.istore_n 2, 1) := by decide +kernel
theorem dX6_count_75 : decode cX6_count 75 = .ok (.iconst 0, 1) := by decide +kernel
theorem dX6_count_76 : decode cX6_count 76 = .ok (.istore_n 3, 1) := by decide +kernel
theorem dX6_count_77 : decode cX6_count 77 = .ok (.iload_n 3, 1) := by decide +kernel
theorem dX6_count_78 : decode cX6_count 78 = .ok (.aload_n 0, 1) := by decide +kernel
theorem dX6_count_79 : decode cX6_count 79 = .ok (.getfield 70, 3) := by decide +kernel
theorem dX6_count_82 : decode cX6_count 82 = .ok (.if_icmp .ge 27, 3) := by decide +kernel
theorem dX6_count_85 : decode cX6_count 85 = .ok (.iload_n 1, 1) := by decide +kernel
theorem dX6_count_86 : decode cX6_count 86 = .ok (.iconst 1, 1) := by decide +kernel
theorem dX6_count_87 : decode cX6_count 87 = .ok (.if_icmp .ne 22, 3) := by decide +kernel
theorem dX6_count_90 : decode cX6_count 90 = .ok (.iload_n 2, 1) := by decide +kernel
theorem dX6_count_91 : decode cX6_count 91 = .ok (.aload_n 0, 1) := by decide +kernel
theorem dX6_count_92 : decode cX6_count 92 = .ok (.getfield 29, 3) := by decide +kernel
theorem dX6_count_95 : decode cX6_count 95 = .ok (.iconst 2, 1) := by decide +kernel
theorem dX6_count_96 : decode cX6_count 96 = .ok (.iload_n 3, 1) := by decide +kernel
theorem dX6_count_97 : decode cX6_count 97 = .ok (.imul, 1) := by decide +kernel
theorem dX6_count_98 : decode cX6_count 98 = .ok (.iconst 1, 1) := by decide +kernel
theorem dX6_count_99 : decode cX6_count 99 = .ok (.iadd, 1) := by decide +kernel
theorem dX6_count_100 : decode cX6_count 100 = .ok (.iaload, 1) := by decide +kernel
theorem dX6_count_101 : decode cX6_count 101 = .ok (.iadd, 1) := by decide +kernel
theorem dX6_count_102 : decode cX6_count 102 = .ok (.istore_n 2, 1) := by decide +kernel
theorem dX6_count_103 : decode cX6_count 103 = .ok (.iinc 3 1, 3) := by decide +kernel
theorem dX6_count_106 : decode cX6_count 106 = .ok (.goto (-29), 3) := by decide +kernel
theorem dX6_count_109 : decode cX6_count 109 = .ok (.iconst 0, 1) := by decide +kernel
theorem dX6_count_110 : decode cX6_count 110 = .ok (.istore_n 3, 1) := by decide +kernel
theorem dX6_count_111 : decode cX6_count 111 = .ok (.iload_n 3, 1) := by decide +kernel
theorem dX6_count_112 : decode cX6_count 112 = .ok (.bipush 30, 2) := by decide +kernel
theorem dX6_count_114 : decode cX6_count 114 = .ok (.if_icmp .ge 23, 3) := by decide +kernel
theorem dX6_count_117 : decode cX6_count 117 = .ok (.iload_n 1, 1) := by decide +kernel
theorem dX6_count_118 : decode cX6_count 118 = .ok (.iconst 5, 1) := by decide +kernel
theorem dX6_count_119 : decode cX6_count 119 = .ok (.if_icmp .ne 18, 3) := by decide +kernel
theorem dX6_count_122 : decode cX6_count 122 = .ok (.iload_n 2, 1) := by decide +kernel
theorem dX6_count_123 : decode cX6_count 123 = .ok (.aload_n 0, 1) := by decide +kernel
theorem dX6_count_124 : decode cX6_count 124 = .ok (.getfield 23, 3) := by decide +kernel
theorem dX6_count_127 : decode cX6_count 127 = .ok (.iload_n 3, 1) := by decide +kernel
theorem dX6_count_128 : decode cX6_count 128 = .ok (.iaload, 1) := by decide +kernel
theorem dX6_count_129 : decode cX6_count 129 = .ok (.iadd, 1) := by decide +kernel
theorem dX6_count_130 : decode cX6_count 130 = .ok (.istore_n 2, 1) := by decide +kernel
theorem dX6_count_131 : decode cX6_count 131 = .ok (.iinc 3 1, 3) := by decide +kernel
theorem dX6_count_134 : decode cX6_count 134 = .ok (.goto (-23), 3) := by decide +kernel
theorem dX6_count_137 : decode cX6_count 137 = .ok (.iload_n 2, 1) := by decide +kernel
theorem dX6_count_138 : decode cX6_count 138 = .ok (.ireturn, 1) := by decide +kernel
theorem dX6_isSheet_0 : decode cX6_isSheet 0 = .ok (.iload_n 0, 1) := by decide +kernel
theorem dX6_isSheet_1 : decode cX6_isSheet 1 = .ok (.i2l, 1) := by decide +kernel
theorem dX6_isSheet_2 : decode cX6_isSheet 2 = .ok (.lconst 0, 1) := by decide +kernel
theorem dX6_isSheet_3 : decode cX6_isSheet 3 = .ok (.ldc2_w 86, 3) := by decide +kernel
theorem dX6_isSheet_6 : decode cX6_isSheet 6 = .ok (.invokestatic 73, 3) := by decide +kernel
theorem dX6_isSheet_9 : decode cX6_isSheet 9 = .ok (.ireturn, 1) := by decide +kernel
theorem dX6_sheet_0 : decode cX6_sheet 0 = .ok (.iload_n 1, 1) := by decide +kernel
theorem dX6_sheet_1 : decode cX6_sheet 1 = .ok (.invokestatic 391, 3) := by decide +kernel
theorem dX6_sheet_4 : decode cX6_sheet 4 = .ok (.ifCond .eq 27, 3) := by decide +kernel
theorem dX6_sheet_7 : decode cX6_sheet 7 = .ok (.iload_n 2, 1) := by decide +kernel
theorem dX6_sheet_8 : decode cX6_sheet 8 = .ok (.i2l, 1) := by decide +kernel
theorem dX6_sheet_9 : decode cX6_sheet 9 = .ok (.ldc2_w 419, 3) := by decide +kernel
theorem dX6_sheet_12 : decode cX6_sheet 12 = .ok (.ldc2_w 351, 3) := by decide +kernel
theorem dX6_sheet_15 : decode cX6_sheet 15 = .ok (.invokestatic 73, 3) := by decide +kernel
theorem dX6_sheet_18 : decode cX6_sheet 18 = .ok (.ifCond .eq 13, 3) := by decide +kernel
theorem dX6_sheet_21 : decode cX6_sheet 21 = .ok (.iload_n 2, 1) := by decide +kernel
theorem dX6_sheet_22 : decode cX6_sheet 22 = .ok (.ifCond .lt 12, 3) := by decide +kernel
theorem dX6_sheet_25 : decode cX6_sheet 25 = .ok (.iload_n 3, 1) := by decide +kernel
theorem dX6_sheet_26 : decode cX6_sheet 26 = .ok (.bipush 40, 2) := by decide +kernel
theorem dX6_sheet_28 : decode cX6_sheet 28 = .ok (.if_icmp .le 6, 3) := by decide +kernel
theorem dX6_sheet_31 : decode cX6_sheet 31 = .ok (.bipush (-2), 2) := by decide +kernel
theorem dX6_sheet_33 : decode cX6_sheet 33 = .ok (.ireturn, 1) := by decide +kernel
theorem dX6_sheet_34 : decode cX6_sheet 34 = .ok (.iload_n 2, 1) := by decide +kernel
theorem dX6_sheet_35 : decode cX6_sheet 35 = .ok (.ifCond .lt 10, 3) := by decide +kernel
theorem dX6_sheet_38 : decode cX6_sheet 38 = .ok (.iload_n 3, 1) := by decide +kernel
theorem dX6_sheet_39 : decode cX6_sheet 39 = .ok (.ifCond .ge 6, 3) := by decide +kernel
theorem dX6_sheet_42 : decode cX6_sheet 42 = .ok (.bipush (-14), 2) := by decide +kernel
theorem dX6_sheet_44 : decode cX6_sheet 44 = .ok (.ireturn, 1) := by decide +kernel
theorem dX6_sheet_45 : decode cX6_sheet 45 = .ok (.aload_n 0, 1) := by decide +kernel
theorem dX6_sheet_46 : decode cX6_sheet 46 = .ok (.getfield 51, 3) := by decide +kernel
theorem dX6_sheet_49 : decode cX6_sheet 49 = .ok (.iload_n 1, 1) := by decide +kernel
theorem dX6_sheet_50 : decode cX6_sheet 50 = .ok (.iload_n 2, 1) := by decide +kernel
theorem dX6_sheet_51 : decode cX6_sheet 51 = .ok (.ifCond .lt 7, 3) := by decide +kernel
theorem dX6_sheet_54 : decode cX6_sheet 54 = .ok (.iconst 1, 1) := by decide +kernel
theorem dX6_sheet_55 : decode cX6_sheet 55 = .ok (.goto 4, 3) := by decide +kernel
theorem dX6_sheet_58 : decode cX6_sheet 58 = .ok (.iconst 0, 1) := by decide +kernel
theorem dX6_sheet_59 : decode cX6_sheet 59 = .ok (.bastore, 1) := by decide +kernel
theorem dX6_sheet_60 : decode cX6_sheet 60 = .ok (.aload_n 0, 1) := by decide +kernel
theorem dX6_sheet_61 : decode cX6_sheet 61 = .ok (.getfield 54, 3) := by decide +kernel
theorem dX6_sheet_64 : decode cX6_sheet 64 = .ok (.iload_n 1, 1) := by decide +kernel
theorem dX6_sheet_65 : decode cX6_sheet 65 = .ok (.iload_n 2, 1) := by decide +kernel
theorem dX6_sheet_66 : decode cX6_sheet 66 = .ok (.iastore, 1) := by decide +kernel
theorem dX6_sheet_67 : decode cX6_sheet 67 = .ok (.aload_n 0, 1) := by decide +kernel
theorem dX6_sheet_68 : decode cX6_sheet 68 = .ok (.getfield 57, 3) := by decide +kernel
theorem dX6_sheet_71 : decode cX6_sheet 71 = .ok (.iload_n 1, 1) := by decide +kernel
theorem dX6_sheet_72 : decode cX6_sheet 72 = .ok (.iload_n 3, 1) := by decide +kernel
theorem dX6_sheet_73 : decode cX6_sheet 73 = .ok (.iastore, 1) := by decide +kernel
theorem dX6_sheet_74 : decode cX6_sheet 74 = .ok (.iconst 0, 1) := by decide +kernel
theorem dX6_sheet_75 : decode cX6_sheet 75 = .ok (.istore 4, 2) := by decide +kernel
theorem dX6_sheet_77 : decode cX6_sheet 77 = .ok (.iload 4, 2) := by decide +kernel
theorem dX6_sheet_79 : decode cX6_sheet 79 = .ok (.iload_n 3, 1) := by decide +kernel
theorem dX6_sheet_80 : decode cX6_sheet 80 = .ok (.if_icmp .ge 26, 3) := by decide +kernel
theorem dX6_sheet_83 : decode cX6_sheet 83 = .ok (.iload_n 2, 1) := by decide +kernel
theorem dX6_sheet_84 : decode cX6_sheet 84 = .ok (.ifCond .lt 22, 3) := by decide +kernel
theorem dX6_sheet_87 : decode cX6_sheet 87 = .ok (.aload_n 0, 1) := by decide +kernel
theorem dX6_sheet_88 : decode cX6_sheet 88 = .ok (.getfield 60, 3) := by decide +kernel
theorem dX6_sheet_91 : decode cX6_sheet 91 = .ok (.bipush 40, 2) := by decide +kernel
theorem dX6_sheet_93 : decode cX6_sheet 93 = .ok (.iload_n 1, 1) := by decide +kernel
theorem dX6_sheet_94 : decode cX6_sheet 94 = .ok (.imul, 1) := by decide +kernel
theorem dX6_sheet_95 : decode cX6_sheet 95 = .ok (.iload 4, 2) := by decide +kernel
theorem dX6_sheet_97 : decode cX6_sheet 97 = .ok (.iadd, 1) := by decide +kernel
theorem dX6_sheet_98 : decode cX6_sheet 98 = .ok (.iconst 0, 1) := by decide +kernel
theorem dX6_sheet_99 : decode cX6_sheet 99 = .ok (.iastore, 1) := by decide +kernel
theorem dX6_sheet_100 : decode cX6_sheet 100 = .ok (.iinc 4 1, 3) := by decide +kernel
theorem dX6_sheet_103 : decode cX6_sheet 103 = .ok (.goto (-26), 3) := by decide +kernel
theorem dX6_sheet_106 : decode cX6_sheet 106 = .ok (.iconst 1, 1) := by decide +kernel
theorem dX6_sheet_107 : decode cX6_sheet 107 = .ok (.ireturn, 1) := by decide +kernel
theorem dX6_cell_0 : decode cX6_cell 0 = .ok (.iload_n 1, 1) := by decide +kernel
theorem dX6_cell_1 : decode cX6_cell 1 = .ok (.invokestatic 391, 3) := by decide +kernel
theorem dX6_cell_4 : decode cX6_cell 4 = .ok (.ifCond .ne 6, 3) := by decide +kernel
theorem dX6_cell_7 : decode cX6_cell 7 = .ok (.bipush (-2), 2) := by decide +kernel
theorem dX6_cell_9 : decode cX6_cell 9 = .ok (.ireturn, 1) := by decide +kernel
theorem dX6_cell_10 : decode cX6_cell 10 = .ok (.aload_n 0, 1) := by decide +kernel
theorem dX6_cell_11 : decode cX6_cell 11 = .ok (.getfield 51, 3) := by decide +kernel
theorem dX6_cell_14 : decode cX6_cell 14 = .ok (.iload_n 1, 1) := by decide +kernel
theorem dX6_cell_15 : decode cX6_cell 15 = .ok (.baload, 1) := by decide +kernel
theorem dX6_cell_16 : decode cX6_cell 16 = .ok (.ifCond .ne 6, 3) := by decide +kernel
theorem dX6_cell_19 : decode cX6_cell 19 = .ok (.bipush (-11), 2) := by decide +kernel
theorem dX6_cell_21 : decode cX6_cell 21 = .ok (.ireturn, 1) := by decide +kernel
theorem dX6_cell_22 : decode cX6_cell 22 = .ok (.iload_n 2, 1) := by decide +kernel
theorem dX6_cell_23 : decode cX6_cell 23 = .ok (.i2l, 1) := by decide +kernel
theorem dX6_cell_24 : decode cX6_cell 24 = .ok (.lconst 0, 1) := by decide +kernel
theorem dX6_cell_25 : decode cX6_cell 25 = .ok (.aload_n 0, 1) := by decide +kernel
theorem dX6_cell_26 : decode cX6_cell 26 = .ok (.getfield 57, 3) := by decide +kernel
theorem dX6_cell_29 : decode cX6_cell 29 = .ok (.iload_n 1, 1) := by decide +kernel
theorem dX6_cell_30 : decode cX6_cell 30 = .ok (.iaload, 1) := by decide +kernel
theorem dX6_cell_31 : decode cX6_cell 31 = .ok (.iconst 1, 1) := by decide +kernel
theorem dX6_cell_32 : decode cX6_cell 32 = .ok (.isub, 1) := by decide +kernel
theorem dX6_cell_33 : decode cX6_cell 33 = .ok (.i2l, 1) := by decide +kernel
theorem dX6_cell_34 : decode cX6_cell 34 = .ok (.invokestatic 73, 3) := by decide +kernel
theorem dX6_cell_37 : decode cX6_cell 37 = .ok (.ifCond .ne 6, 3) := by decide +kernel
theorem dX6_cell_40 : decode cX6_cell 40 = .ok (.bipush (-12), 2) := by decide +kernel
theorem dX6_cell_42 : decode cX6_cell 42 = .ok (.ireturn, 1) := by decide +kernel
theorem dX6_cell_43 : decode cX6_cell 43 = .ok (.aload_n 0, 1) := by decide +kernel
theorem dX6_cell_44 : decode cX6_cell 44 = .ok (.getfield 60, 3) := by decide +kernel
theorem dX6_cell_47 : decode cX6_cell 47 = .ok (.bipush 40, 2) := by decide +kernel
theorem dX6_cell_49 : decode cX6_cell 49 = .ok (.iload_n 1, 1) := by decide +kernel
theorem dX6_cell_50 : decode cX6_cell 50 = .ok (.imul, 1) := by decide +kernel
theorem dX6_cell_51 : decode cX6_cell 51 = .ok (.iload_n 2, 1) := by decide +kernel
theorem dX6_cell_52 : decode cX6_cell 52 = .ok (.iadd, 1) := by decide +kernel
theorem dX6_cell_53 : decode cX6_cell 53 = .ok (.aload_n 0, 1) := by decide +kernel
theorem dX6_cell_54 : decode cX6_cell 54 = .ok (.getfield 54, 3) := by decide +kernel
theorem dX6_cell_57 : decode cX6_cell 57 = .ok (.iload_n 1, 1) := by decide +kernel
theorem dX6_cell_58 : decode cX6_cell 58 = .ok (.iaload, 1) := by decide +kernel
theorem dX6_cell_59 : decode cX6_cell 59 = .ok (.ifCond .ne 8, 3) := by decide +kernel
theorem dX6_cell_62 : decode cX6_cell 62 = .ok (.iload_n 3, 1) := by decide +kernel
theorem dX6_cell_63 : decode cX6_cell 63 = .ok (.i2b, 1) := by decide +kernel
theorem dX6_cell_64 : decode cX6_cell 64 = .ok (.goto 19, 3) := by decide +kernel
theorem dX6_cell_67 : decode cX6_cell 67 = .ok (.aload_n 0, 1) := by decide +kernel
theorem dX6_cell_68 : decode cX6_cell 68 = .ok (.getfield 54, 3) := by decide +kernel
theorem dX6_cell_71 : decode cX6_cell 71 = .ok (.iload_n 1, 1) := by decide +kernel
theorem dX6_cell_72 : decode cX6_cell 72 = .ok (.iaload, 1) := by decide +kernel
theorem dX6_cell_73 : decode cX6_cell 73 = .ok (.iconst 1, 1) := by decide +kernel
theorem dX6_cell_74 : decode cX6_cell 74 = .ok (.if_icmp .ne 8, 3) := by decide +kernel
theorem dX6_cell_77 : decode cX6_cell 77 = .ok (.iload_n 3, 1) := by decide +kernel
theorem dX6_cell_78 : decode cX6_cell 78 = .ok (.i2s, 1) := by decide +kernel
theorem dX6_cell_79 : decode cX6_cell 79 = .ok (.goto 4, 3) := by decide +kernel
theorem dX6_cell_82 : decode cX6_cell 82 = .ok (.iload_n 3, 1) := by decide +kernel
theorem dX6_cell_83 : decode cX6_cell 83 = .ok (.iastore, 1) := by decide +kernel
theorem dX6_cell_84 : decode cX6_cell 84 = .ok (.iconst 1, 1) := by decide +kernel
theorem dX6_cell_85 : decode cX6_cell 85 = .ok (.ireturn, 1) := by decide +kernel
theorem dX6_copy_0 : decode cX6_copy 0 = .ok (.iload_n 1, 1) := by decide +kernel
theorem dX6_copy_1 : decode cX6_copy 1 = .ok (.invokestatic 391, 3) := by decide +kernel
theorem dX6_copy_4 : decode cX6_copy 4 = .ok (.ifCond .eq 10, 3) := by decide +kernel
theorem dX6_copy_7 : decode cX6_copy 7 = .ok (.iload_n 3, 1) := by decide +kernel
theorem dX6_copy_8 : decode cX6_copy 8 = .ok (.invokestatic 391, 3) := by decide +kernel
theorem dX6_copy_11 : decode cX6_copy 11 = .ok (.ifCond .ne 6, 3) := by decide +kernel
theorem dX6_copy_14 : decode cX6_copy 14 = .ok (.bipush (-2), 2) := by decide +kernel
theorem dX6_copy_16 : decode cX6_copy 16 = .ok (.ireturn, 1) := by decide +kernel
theorem dX6_copy_17 : decode cX6_copy 17 = .ok (.aload_n 0, 1) := by decide +kernel
theorem dX6_copy_18 : decode cX6_copy 18 = .ok (.getfield 51, 3) := by decide +kernel
theorem dX6_copy_21 : decode cX6_copy 21 = .ok (.iload_n 1, 1) := by decide +kernel
theorem dX6_copy_22 : decode cX6_copy 22 = .ok (.baload, 1) := by decide +kernel
theorem dX6_copy_23 : decode cX6_copy 23 = .ok (.ifCond .eq 12, 3) := by decide +kernel
theorem dX6_copy_26 : decode cX6_copy 26 = .ok (.aload_n 0, 1) := by decide +kernel
theorem dX6_copy_27 : decode cX6_copy 27 = .ok (.getfield 51, 3) := by decide +kernel
theorem dX6_copy_30 : decode cX6_copy 30 = .ok (.iload_n 3, 1) := by decide +kernel
theorem dX6_copy_31 : decode cX6_copy 31 = .ok (.baload, 1) := by decide +kernel
theorem dX6_copy_32 : decode cX6_copy 32 = .ok (.ifCond .ne 6, 3) := by decide +kernel
theorem dX6_copy_35 : decode cX6_copy 35 = .ok (.bipush (-11), 2) := by decide +kernel
theorem dX6_copy_37 : decode cX6_copy 37 = .ok (.ireturn, 1) := by decide +kernel
theorem dX6_copy_38 : decode cX6_copy 38 = .ok (.aload_n 0, 1) := by decide +kernel
theorem dX6_copy_39 : decode cX6_copy 39 = .ok (.getfield 54, 3) := by decide +kernel
theorem dX6_copy_42 : decode cX6_copy 42 = .ok (.iload_n 1, 1) := by decide +kernel
theorem dX6_copy_43 : decode cX6_copy 43 = .ok (.iaload, 1) := by decide +kernel
theorem dX6_copy_44 : decode cX6_copy 44 = .ok (.aload_n 0, 1) := by decide +kernel
theorem dX6_copy_45 : decode cX6_copy 45 = .ok (.getfield 54, 3) := by decide +kernel
theorem dX6_copy_48 : decode cX6_copy 48 = .ok (.iload_n 3, 1) := by decide +kernel
theorem dX6_copy_49 : decode cX6_copy 49 = .ok (.iaload, 1) := by decide +kernel
theorem dX6_copy_50 : decode cX6_copy 50 = .ok (.if_icmp .eq 6, 3) := by decide +kernel
theorem dX6_copy_53 : decode cX6_copy 53 = .ok (.bipush (-13), 2) := by decide +kernel
theorem dX6_copy_55 : decode cX6_copy 55 = .ok (.ireturn, 1) := by decide +kernel
theorem dX6_copy_56 : decode cX6_copy 56 = .ok (.iload 5, 2) := by decide +kernel
theorem dX6_copy_58 : decode cX6_copy 58 = .ok (.ifCond .lt 39, 3) := by decide +kernel
theorem dX6_copy_61 : decode cX6_copy 61 = .ok (.iload_n 2, 1) := by decide +kernel
theorem dX6_copy_62 : decode cX6_copy 62 = .ok (.ifCond .lt 35, 3) := by decide +kernel
theorem dX6_copy_65 : decode cX6_copy 65 = .ok (.iload 4, 2) := by decide +kernel
theorem dX6_copy_67 : decode cX6_copy 67 = .ok (.ifCond .lt 30, 3) := by decide +kernel
theorem dX6_copy_70 : decode cX6_copy 70 = .ok (.iload_n 2, 1) := by decide +kernel
theorem dX6_copy_71 : decode cX6_copy 71 = .ok (.aload_n 0, 1) := by decide +kernel
theorem dX6_copy_72 : decode cX6_copy 72 = .ok (.getfield 57, 3) := by decide +kernel
theorem dX6_copy_75 : decode cX6_copy 75 = .ok (.iload_n 1, 1) := by decide +kernel
theorem dX6_copy_76 : decode cX6_copy 76 = .ok (.iaload, 1) := by decide +kernel
theorem dX6_copy_77 : decode cX6_copy 77 = .ok (.iload 5, 2) := by decide +kernel
theorem dX6_copy_79 : decode cX6_copy 79 = .ok (.isub, 1) := by decide +kernel
theorem dX6_copy_80 : decode cX6_copy 80 = .ok (.if_icmp .gt 17, 3) := by decide +kernel
theorem dX6_copy_83 : decode cX6_copy 83 = .ok (.iload 4, 2) := by decide +kernel
theorem dX6_copy_85 : decode cX6_copy 85 = .ok (.aload_n 0, 1) := by decide +kernel
theorem dX6_copy_86 : decode cX6_copy 86 = .ok (.getfield 57, 3) := by decide +kernel
theorem dX6_copy_89 : decode cX6_copy 89 = .ok (.iload_n 3, 1) := by decide +kernel
theorem dX6_copy_90 : decode cX6_copy 90 = .ok (.iaload, 1) := by decide +kernel
theorem dX6_copy_91 : decode cX6_copy 91 = .ok (.iload 5, 2) := by decide +kernel
theorem dX6_copy_93 : decode cX6_copy 93 = .ok (.isub, 1) := by decide +kernel
theorem dX6_copy_94 : decode cX6_copy 94 = .ok (.if_icmp .le 6, 3) := by decide +kernel
theorem dX6_copy_97 : decode cX6_copy 97 = .ok (.bipush (-12), 2) := by decide +kernel
theorem dX6_copy_99 : decode cX6_copy 99 = .ok (.ireturn, 1) := by decide +kernel
theorem dX6_copy_100 : decode cX6_copy 100 = .ok (.iload_n 1, 1) := by decide +kernel
theorem dX6_copy_101 : decode cX6_copy 101 = .ok (.iload_n 3, 1) := by decide +kernel
theorem dX6_copy_102 : decode cX6_copy 102 = .ok (.if_icmp .ne 13, 3) := by decide +kernel
theorem dX6_copy_105 : decode cX6_copy 105 = .ok (.iload_n 2, 1) := by decide +kernel
theorem dX6_copy_106 : decode cX6_copy 106 = .ok (.iload 4, 2) := by decide +kernel
theorem dX6_copy_108 : decode cX6_copy 108 = .ok (.if_icmp .ge 7, 3) := by decide +kernel
theorem dX6_copy_111 : decode cX6_copy 111 = .ok (.iconst 1, 1) := by decide +kernel
theorem dX6_copy_112 : decode cX6_copy 112 = .ok (.goto 4, 3) := by decide +kernel
theorem dX6_copy_115 : decode cX6_copy 115 = .ok (.iconst 0, 1) := by decide +kernel
theorem dX6_copy_116 : decode cX6_copy 116 = .ok (.istore 6, 2) := by decide +kernel
theorem dX6_copy_118 : decode cX6_copy 118 = .ok (.iconst 0, 1) := by decide +kernel
theorem dX6_copy_119 : decode cX6_copy 119 = .ok (.istore 7, 2) := by decide +kernel
theorem dX6_copy_121 : decode cX6_copy 121 = .ok (.iload 7, 2) := by decide +kernel
theorem dX6_copy_123 : decode cX6_copy 123 = .ok (.iload 5, 2) := by decide +kernel
theorem dX6_copy_125 : decode cX6_copy 125 = .ok (.if_icmp .ge 57, 3) := by decide +kernel
theorem dX6_copy_128 : decode cX6_copy 128 = .ok (.iload 6, 2) := by decide +kernel
theorem dX6_copy_130 : decode cX6_copy 130 = .ok (.ifCond .eq 13, 3) := by decide +kernel
theorem dX6_copy_133 : decode cX6_copy 133 = .ok (.iload 5, 2) := by decide +kernel
theorem dX6_copy_135 : decode cX6_copy 135 = .ok (.iconst 1, 1) := by decide +kernel
theorem dX6_copy_136 : decode cX6_copy 136 = .ok (.isub, 1) := by decide +kernel
theorem dX6_copy_137 : decode cX6_copy 137 = .ok (.iload 7, 2) := by decide +kernel
theorem dX6_copy_139 : decode cX6_copy 139 = .ok (.isub, 1) := by decide +kernel
theorem dX6_copy_140 : decode cX6_copy 140 = .ok (.goto 5, 3) := by decide +kernel
theorem dX6_copy_143 : decode cX6_copy 143 = .ok (.iload 7, 2) := by decide +kernel
theorem dX6_copy_145 : decode cX6_copy 145 = .ok (.istore 8, 2) := by decide +kernel
theorem dX6_copy_147 : decode cX6_copy 147 = .ok (.aload_n 0, 1) := by decide +kernel
theorem dX6_copy_148 : decode cX6_copy 148 = .ok (.getfield 60, 3) := by decide +kernel
theorem dX6_copy_151 : decode cX6_copy 151 = .ok (.bipush 40, 2) := by decide +kernel
theorem dX6_copy_153 : decode cX6_copy 153 = .ok (.iload_n 3, 1) := by decide +kernel
theorem dX6_copy_154 : decode cX6_copy 154 = .ok (.imul, 1) := by decide +kernel
theorem dX6_copy_155 : decode cX6_copy 155 = .ok (.iload 4, 2) := by decide +kernel
theorem dX6_copy_157 : decode cX6_copy 157 = .ok (.iadd, 1) := by decide +kernel
theorem dX6_copy_158 : decode cX6_copy 158 = .ok (.iload 8, 2) := by decide +kernel
theorem dX6_copy_160 : decode cX6_copy 160 = .ok (.iadd, 1) := by decide +kernel
theorem dX6_copy_161 : decode cX6_copy 161 = .ok (.aload_n 0, 1) := by decide +kernel
theorem dX6_copy_162 : decode cX6_copy 162 = .ok (.getfield 60, 3) := by decide +kernel
theorem dX6_copy_165 : decode cX6_copy 165 = .ok (.bipush 40, 2) := by decide +kernel
theorem dX6_copy_167 : decode cX6_copy 167 = .ok (.iload_n 1, 1) := by decide +kernel
theorem dX6_copy_168 : decode cX6_copy 168 = .ok (.imul, 1) := by decide +kernel
theorem dX6_copy_169 : decode cX6_copy 169 = .ok (.iload_n 2, 1) := by decide +kernel
theorem dX6_copy_170 : decode cX6_copy 170 = .ok (.iadd, 1) := by decide +kernel
theorem dX6_copy_171 : decode cX6_copy 171 = .ok (.iload 8, 2) := by decide +kernel
theorem dX6_copy_173 : decode cX6_copy 173 = .ok (.iadd, 1) := by decide +kernel
theorem dX6_copy_174 : decode cX6_copy 174 = .ok (.iaload, 1) := by decide +kernel
theorem dX6_copy_175 : decode cX6_copy 175 = .ok (.iastore, 1) := by decide +kernel
theorem dX6_copy_176 : decode cX6_copy 176 = .ok (.iinc 7 1, 3) := by decide +kernel
theorem dX6_copy_179 : decode cX6_copy 179 = .ok (.goto (-58), 3) := by decide +kernel
theorem dX6_copy_182 : decode cX6_copy 182 = .ok (.iload 5, 2) := by decide +kernel
theorem dX6_copy_184 : decode cX6_copy 184 = .ok (.ireturn, 1) := by decide +kernel
theorem dX6_users_0 : decode cX6_users 0 = .ok (.iload_n 1, 1) := by decide +kernel
theorem dX6_users_1 : decode cX6_users 1 = .ok (.invokestatic 391, 3) := by decide +kernel
theorem dX6_users_4 : decode cX6_users 4 = .ok (.ifCond .eq 28, 3) := by decide +kernel
theorem dX6_users_7 : decode cX6_users 7 = .ok (.iload_n 2, 1) := by decide +kernel
theorem dX6_users_8 : decode cX6_users 8 = .ok (.i2l, 1) := by decide +kernel
theorem dX6_users_9 : decode cX6_users 9 = .ok (.lconst 0, 1) := by decide +kernel
theorem dX6_users_10 : decode cX6_users 10 = .ok (.ldc2_w 351, 3) := by decide +kernel
theorem dX6_users_13 : decode cX6_users 13 = .ok (.invokestatic 73, 3) := by decide +kernel
theorem dX6_users_16 : decode cX6_users 16 = .ok (.ifCond .eq 16, 3) := by decide +kernel
theorem dX6_users_19 : decode cX6_users 19 = .ok (.iload 4, 2) := by decide +kernel
theorem dX6_users_21 : decode cX6_users 21 = .ok (.i2l, 1) := by decide +kernel
theorem dX6_users_22 : decode cX6_users 22 = .ok (.lconst 0, 1) := by decide +kernel
theorem dX6_users_23 : decode cX6_users 23 = .ok (.ldc2_w 112, 3) := by decide +kernel
theorem dX6_users_26 : decode cX6_users 26 = .ok (.invokestatic 73, 3) := by decide +kernel
theorem dX6_users_29 : decode cX6_users 29 = .ok (.ifCond .ne 6, 3) := by decide +kernel
theorem dX6_users_32 : decode cX6_users 32 = .ok (.bipush (-2), 2) := by decide +kernel
theorem dX6_users_34 : decode cX6_users 34 = .ok (.ireturn, 1) := by decide +kernel
theorem dX6_users_35 : decode cX6_users 35 = .ok (.aload_n 0, 1) := by decide +kernel
theorem dX6_users_36 : decode cX6_users 36 = .ok (.getfield 51, 3) := by decide +kernel
theorem dX6_users_39 : decode cX6_users 39 = .ok (.iload_n 1, 1) := by decide +kernel
theorem dX6_users_40 : decode cX6_users 40 = .ok (.baload, 1) := by decide +kernel
theorem dX6_users_41 : decode cX6_users 41 = .ok (.ifCond .eq 16, 3) := by decide +kernel
theorem dX6_users_44 : decode cX6_users 44 = .ok (.aload_n 0, 1) := by decide +kernel
theorem dX6_users_45 : decode cX6_users 45 = .ok (.getfield 54, 3) := by decide +kernel
theorem dX6_users_48 : decode cX6_users 48 = .ok (.iload_n 1, 1) := by decide +kernel
theorem dX6_users_49 : decode cX6_users 49 = .ok (.iaload, 1) := by decide +kernel
theorem dX6_users_50 : decode cX6_users 50 = .ok (.iload_n 2, 1) := by decide +kernel
theorem dX6_users_51 : decode cX6_users 51 = .ok (.if_icmp .eq 6, 3) := by decide +kernel
theorem dX6_users_54 : decode cX6_users 54 = .ok (.bipush (-13), 2) := by decide +kernel
theorem dX6_users_56 : decode cX6_users 56 = .ok (.ireturn, 1) := by decide +kernel
theorem dX6_users_57 : decode cX6_users 57 = .ok (.aload_n 0, 1) := by decide +kernel
theorem dX6_users_58 : decode cX6_users 58 = .ok (.getfield 51, 3) := by decide +kernel
theorem dX6_users_61 : decode cX6_users 61 = .ok (.iload_n 1, 1) := by decide +kernel
theorem dX6_users_62 : decode cX6_users 62 = .ok (.baload, 1) := by decide +kernel
theorem dX6_users_63 : decode cX6_users 63 = .ok (.ifCond .ne 6, 3) := by decide +kernel
theorem dX6_users_66 : decode cX6_users 66 = .ok (.bipush (-11), 2) := by decide +kernel
theorem dX6_users_68 : decode cX6_users 68 = .ok (.ireturn, 1) := by decide +kernel
theorem dX6_users_69 : decode cX6_users 69 = .ok (.iconst 0, 1) := by decide +kernel
theorem dX6_users_70 : decode cX6_users 70 = .ok (.istore 5, 2) := by decide +kernel
theorem dX6_users_72 : decode cX6_users 72 = .ok (.iconst 0, 1) := by decide +kernel
theorem dX6_users_73 : decode cX6_users 73 = .ok (.istore 6, 2) := by decide +kernel
theorem dX6_users_75 : decode cX6_users 75 = .ok (.iload 6, 2) := by decide +kernel
theorem dX6_users_77 : decode cX6_users 77 = .ok (.iload 4, 2) := by decide +kernel
theorem dX6_users_79 : decode cX6_users 79 = .ok (.if_icmp .ge 88, 3) := by decide +kernel
theorem dX6_users_82 : decode cX6_users 82 = .ok (.iload_n 3, 1) := by decide +kernel
theorem dX6_users_83 : decode cX6_users 83 = .ok (.ifCond .lt 20, 3) := by decide +kernel
theorem dX6_users_86 : decode cX6_users 86 = .ok (.iload_n 3, 1) := by decide +kernel
theorem dX6_users_87 : decode cX6_users 87 = .ok (.aload_n 0, 1) := by decide +kernel
theorem dX6_users_88 : decode cX6_users 88 = .ok (.getfield 57, 3) := by decide +kernel
theorem dX6_users_91 : decode cX6_users 91 = .ok (.iload_n 1, 1) := by decide +kernel
theorem dX6_users_92 : decode cX6_users 92 = .ok (.iaload, 1) := by decide +kernel
theorem dX6_users_93 : decode cX6_users 93 = .ok (.iconst 3, 1) := by decide +kernel
theorem dX6_users_94 : decode cX6_users 94 = .ok (.iload 6, 2) := by decide +kernel
theorem dX6_users_96 : decode cX6_users 96 = .ok (.imul, 1) := by decide +kernel
theorem dX6_users_97 : decode cX6_users 97 = .ok (.isub, 1) := by decide +kernel
theorem dX6_users_98 : decode cX6_users 98 = .ok (.iconst 3, 1) := by decide +kernel
theorem dX6_users_99 : decode cX6_users 99 = .ok (.isub, 1) := by decide +kernel
theorem dX6_users_100 : decode cX6_users 100 = .ok (.if_icmp .le 6, 3) := by decide +kernel
theorem dX6_users_103 : decode cX6_users 103 = .ok (.bipush (-12), 2) := by decide +kernel
theorem dX6_users_105 : decode cX6_users 105 = .ok (.ireturn, 1) := by decide +kernel
theorem dX6_users_106 : decode cX6_users 106 = .ok (.bipush 40, 2) := by decide +kernel
theorem dX6_users_108 : decode cX6_users 108 = .ok (.iload_n 1, 1) := by decide +kernel
theorem dX6_users_109 : decode cX6_users 109 = .ok (.imul, 1) := by decide +kernel
theorem dX6_users_110 : decode cX6_users 110 = .ok (.iload_n 3, 1) := by decide +kernel
theorem dX6_users_111 : decode cX6_users 111 = .ok (.iadd, 1) := by decide +kernel
theorem dX6_users_112 : decode cX6_users 112 = .ok (.iconst 3, 1) := by decide +kernel
theorem dX6_users_113 : decode cX6_users 113 = .ok (.iload 6, 2) := by decide +kernel
theorem dX6_users_115 : decode cX6_users 115 = .ok (.imul, 1) := by decide +kernel
theorem dX6_users_116 : decode cX6_users 116 = .ok (.iadd, 1) := by decide +kernel
theorem dX6_users_117 : decode cX6_users 117 = .ok (.istore 7, 2) := by decide +kernel
theorem dX6_users_119 : decode cX6_users 119 = .ok (.iload 5, 2) := by decide +kernel
theorem dX6_users_121 : decode cX6_users 121 = .ok (.aload_n 0, 1) := by decide +kernel
theorem dX6_users_122 : decode cX6_users 122 = .ok (.aload_n 0, 1) := by decide +kernel
theorem dX6_users_123 : decode cX6_users 123 = .ok (.getfield 60, 3) := by decide +kernel
theorem dX6_users_126 : decode cX6_users 126 = .ok (.iload 7, 2) := by decide +kernel
theorem dX6_users_128 : decode cX6_users 128 = .ok (.iaload, 1) := by decide +kernel
theorem dX6_users_129 : decode cX6_users 129 = .ok (.aload_n 0, 1) := by decide +kernel
theorem dX6_users_130 : decode cX6_users 130 = .ok (.getfield 60, 3) := by decide +kernel
theorem dX6_users_133 : decode cX6_users 133 = .ok (.iload 7, 2) := by decide +kernel
theorem dX6_users_135 : decode cX6_users 135 = .ok (.iconst 1, 1) := by decide +kernel
theorem dX6_users_136 : decode cX6_users 136 = .ok (.iadd, 1) := by decide +kernel
theorem dX6_users_137 : decode cX6_users 137 = .ok (.iaload, 1) := by decide +kernel
theorem dX6_users_138 : decode cX6_users 138 = .ok (.aload_n 0, 1) := by decide +kernel
theorem dX6_users_139 : decode cX6_users 139 = .ok (.getfield 60, 3) := by decide +kernel
theorem dX6_users_142 : decode cX6_users 142 = .ok (.iload 7, 2) := by decide +kernel
theorem dX6_users_144 : decode cX6_users 144 = .ok (.iconst 2, 1) := by decide +kernel
theorem dX6_users_145 : decode cX6_users 145 = .ok (.iadd, 1) := by decide +kernel
theorem dX6_users_146 : decode cX6_users 146 = .ok (.iaload, 1) := by decide +kernel
theorem dX6_users_147 : decode cX6_users 147 = .ok (.invokevirtual 421, 3) := by decide +kernel
theorem dX6_users_150 : decode cX6_users 150 = .ok (.ifCond .lt 7, 3) := by decide +kernel
theorem dX6_users_153 : decode cX6_users 153 = .ok (.iconst 1, 1) := by decide +kernel
theorem dX6_users_154 : decode cX6_users 154 = .ok (.goto 4, 3) := by decide +kernel
theorem dX6_users_157 : decode cX6_users 157 = .ok (.iconst 0, 1) := by decide +kernel
theorem dX6_users_158 : decode cX6_users 158 = .ok (.iadd, 1) := by decide +kernel
theorem dX6_users_159 : decode cX6_users 159 = .ok (.istore 5, 2) := by decide +kernel
theorem dX6_users_161 : decode cX6_users 161 = .ok (.iinc 6 1, 3) := by decide +kernel
theorem dX6_users_164 : decode cX6_users 164 = .ok (.goto (-89), 3) := by decide +kernel
theorem dX6_users_167 : decode cX6_users 167 = .ok (.iload 5, 2) := by decide +kernel
theorem dX6_users_169 : decode cX6_users 169 = .ok (.ireturn, 1) := by decide +kernel
theorem dX6_over_0 : decode cX6_over 0 = .ok (.iload_n 0, 1) := by decide +kernel
theorem dX6_over_1 : decode cX6_over 1 = .ok (.ifCond .ne 7, 3) := by decide +kernel
theorem dX6_over_4 : decode cX6_over 4 = .ok (.iconst (-1), 1) := by decide +kernel
theorem dX6_over_5 : decode cX6_over 5 = .ok (.goto 22, 3) := by decide +kernel
theorem dX6_over_8 : decode cX6_over 8 = .ok (.iload_n 0, 1) := by decide +kernel
theorem dX6_over_9 : decode cX6_over 9 = .ok (.iconst 3, 1) := by decide +kernel
theorem dX6_over_10 : decode cX6_over 10 = .ok (.if_icmp .ne 7, 3) := by decide +kernel
theorem dX6_over_13 : decode cX6_over 13 = .ok (.iconst 1, 1) := by decide +kernel
theorem dX6_over_14 : decode cX6_over 14 = .ok (.goto 13, 3) := by decide +kernel
theorem dX6_over_17 : decode cX6_over 17 = .ok (.iload_n 0, 1) := by decide +kernel
theorem dX6_over_18 : decode cX6_over 18 = .ok (.iconst 4, 1) := by decide +kernel
theorem dX6_over_19 : decode cX6_over 19 = .ok (.if_icmp .ne 7, 3) := by decide +kernel
theorem dX6_over_22 : decode cX6_over 22 = .ok (.iconst 2, 1) := by decide +kernel
theorem dX6_over_23 : decode cX6_over 23 = .ok (.goto 4, 3) := by decide +kernel
theorem dX6_over_26 : decode cX6_over 26 = .ok (.iconst 0, 1) := by decide +kernel
theorem dX6_over_27 : decode cX6_over 27 = .ok (.ireturn, 1) := by decide +kernel
theorem dX6_taken_0 : decode cX6_taken 0 = .ok (.iload_n 2, 1) := by decide +kernel
theorem dX6_taken_1 : decode cX6_taken 1 = .ok (.i2l, 1) := by decide +kernel
theorem dX6_taken_2 : decode cX6_taken 2 = .ok (.lconst 0, 1) := by decide +kernel
theorem dX6_taken_3 : decode cX6_taken 3 = .ok (.ldc2_w 110, 3) := by decide +kernel
theorem dX6_taken_6 : decode cX6_taken 6 = .ok (.invokestatic 73, 3) := by decide +kernel
theorem dX6_taken_9 : decode cX6_taken 9 = .ok (.ifCond .ne 6, 3) := by decide +kernel
theorem dX6_taken_12 : decode cX6_taken 12 = .ok (.bipush (-2), 2) := by decide +kernel
theorem dX6_taken_14 : decode cX6_taken 14 = .ok (.ireturn, 1) := by decide +kernel
theorem dX6_taken_15 : decode cX6_taken 15 = .ok (.aload_n 0, 1) := by decide +kernel
theorem dX6_taken_16 : decode cX6_taken 16 = .ok (.iload_n 1, 1) := by decide +kernel
theorem dX6_taken_17 : decode cX6_taken 17 = .ok (.invokevirtual 83, 3) := by decide +kernel
theorem dX6_taken_20 : decode cX6_taken 20 = .ok (.ifCond .ne 6, 3) := by decide +kernel
theorem dX6_taken_23 : decode cX6_taken 23 = .ok (.bipush (-11), 2) := by decide +kernel
theorem dX6_taken_25 : decode cX6_taken 25 = .ok (.ireturn, 1) := by decide +kernel
theorem dX6_taken_26 : decode cX6_taken 26 = .ok (.aload_n 0, 1) := by decide +kernel
theorem dX6_taken_27 : decode cX6_taken 27 = .ok (.getfield 26, 3) := by decide +kernel
theorem dX6_taken_30 : decode cX6_taken 30 = .ok (.iload_n 1, 1) := by decide +kernel
theorem dX6_taken_31 : decode cX6_taken 31 = .ok (.iaload, 1) := by decide +kernel
theorem dX6_taken_32 : decode cX6_taken 32 = .ok (.istore_n 3, 1) := by decide +kernel
theorem dX6_taken_33 : decode cX6_taken 33 = .ok (.iload_n 3, 1) := by decide +kernel
theorem dX6_taken_34 : decode cX6_taken 34 = .ok (.iconst (-1), 1) := by decide +kernel
theorem dX6_taken_35 : decode cX6_taken 35 = .ok (.if_icmp .eq 16, 3) := by decide +kernel
theorem dX6_taken_38 : decode cX6_taken 38 = .ok (.iload_n 3, 1) := by decide +kernel
theorem dX6_taken_39 : decode cX6_taken 39 = .ok (.iload_n 2, 1) := by decide +kernel
theorem dX6_taken_40 : decode cX6_taken 40 = .ok (.if_icmp .eq 11, 3) := by decide +kernel
theorem dX6_taken_43 : decode cX6_taken 43 = .ok (.iload_n 3, 1) := by decide +kernel
theorem dX6_taken_44 : decode cX6_taken 44 = .ok (.invokestatic 424, 3) := by decide +kernel
theorem dX6_taken_47 : decode cX6_taken 47 = .ok (.istore_n 3, 1) := by decide +kernel
theorem dX6_taken_48 : decode cX6_taken 48 = .ok (.goto (-15), 3) := by decide +kernel
theorem dX6_taken_51 : decode cX6_taken 51 = .ok (.iload_n 3, 1) := by decide +kernel
theorem dX6_taken_52 : decode cX6_taken 52 = .ok (.iload_n 2, 1) := by decide +kernel
theorem dX6_taken_53 : decode cX6_taken 53 = .ok (.if_icmp .ne 14, 3) := by decide +kernel
theorem dX6_taken_56 : decode cX6_taken 56 = .ok (.aload_n 0, 1) := by decide +kernel
theorem dX6_taken_57 : decode cX6_taken 57 = .ok (.getfield 29, 3) := by decide +kernel
theorem dX6_taken_60 : decode cX6_taken 60 = .ok (.iconst 2, 1) := by decide +kernel
theorem dX6_taken_61 : decode cX6_taken 61 = .ok (.iload_n 1, 1) := by decide +kernel
theorem dX6_taken_62 : decode cX6_taken 62 = .ok (.imul, 1) := by decide +kernel
theorem dX6_taken_63 : decode cX6_taken 63 = .ok (.iaload, 1) := by decide +kernel
theorem dX6_taken_64 : decode cX6_taken 64 = .ok (.goto 5, 3) := by decide +kernel
theorem dX6_taken_67 : decode cX6_taken 67 = .ok (.bipush (-13), 2) := by decide +kernel
theorem dX6_taken_69 : decode cX6_taken 69 = .ok (.ireturn, 1) := by decide +kernel
