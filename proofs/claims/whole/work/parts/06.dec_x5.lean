theorem dX5_init_0 : decode cX5_init 0 = .ok (.aload_n 0, 1) := by decide +kernel
theorem dX5_init_1 : decode cX5_init 1 = .ok (.invokespecial 3, 3) := by decide +kernel
theorem dX5_init_4 : decode cX5_init 4 = .ok (.aload_n 0, 1) := by decide +kernel
theorem dX5_init_5 : decode cX5_init 5 = .ok (.bipush 30, 2) := by decide +kernel
theorem dX5_init_7 : decode cX5_init 7 = .ok (.newarray .int, 2) := by decide +kernel
theorem dX5_init_9 : decode cX5_init 9 = .ok (.putfield 9, 3) := by decide +kernel
theorem dX5_init_12 : decode cX5_init 12 = .ok (.aload_n 0, 1) := by decide +kernel
theorem dX5_init_13 : decode cX5_init 13 = .ok (.iconst 0, 1) := by decide +kernel
theorem dX5_init_14 : decode cX5_init 14 = .ok (.putfield 13, 3) := by decide +kernel
theorem dX5_init_17 : decode cX5_init 17 = .ok (.aload_n 0, 1) := by decide +kernel
theorem dX5_init_18 : decode cX5_init 18 = .ok (.bipush 6, 2) := by decide +kernel
theorem dX5_init_20 : decode cX5_init 20 = .ok (.anewarray 17, 3) := by decide +kernel
theorem dX5_init_23 : decode cX5_init 23 = .ok (.putfield 19, 3) := by decide +kernel
theorem dX5_init_26 : decode cX5_init 26 = .ok (.aload_n 0, 1) := by decide +kernel
theorem dX5_init_27 : decode cX5_init 27 = .ok (.iconst 0, 1) := by decide +kernel
theorem dX5_init_28 : decode cX5_init 28 = .ok (.putfield 23, 3) := by decide +kernel
theorem dX5_init_31 : decode cX5_init 31 = .ok (.aload_n 0, 1) := by decide +kernel
theorem dX5_init_32 : decode cX5_init 32 = .ok (.new 17, 3) := by decide +kernel
theorem dX5_init_35 : decode cX5_init 35 = .ok (.dup, 1) := by decide +kernel
theorem dX5_init_36 : decode cX5_init 36 = .ok (.invokespecial 26, 3) := by decide +kernel
theorem dX5_init_39 : decode cX5_init 39 = .ok (.putfield 27, 3) := by decide +kernel
theorem dX5_init_42 : decode cX5_init 42 = .ok (.aload_n 0, 1) := by decide +kernel
theorem dX5_init_43 : decode cX5_init 43 = .ok (.new 31, 3) := by decide +kernel
theorem dX5_init_46 : decode cX5_init 46 = .ok (.dup, 1) := by decide +kernel
theorem dX5_init_47 : decode cX5_init 47 = .ok (.invokespecial 33, 3) := by decide +kernel
theorem dX5_init_50 : decode cX5_init 50 = .ok (.putfield 34, 3) := by decide +kernel
theorem dX5_init_53 : decode cX5_init 53 = .ok (.aload_n 0, 1) := by decide +kernel
theorem dX5_init_54 : decode cX5_init 54 = .ok (.bipush 6, 2) := by decide +kernel
theorem dX5_init_56 : decode cX5_init 56 = .ok (.anewarray 38, 3) := by decide +kernel
theorem dX5_init_59 : decode cX5_init 59 = .ok (.putfield 40, 3) := by decide +kernel
theorem dX5_init_62 : decode cX5_init 62 = .ok (.aload_n 0, 1) := by decide +kernel
theorem dX5_init_63 : decode cX5_init 63 = .ok (.iconst 1, 1) := by decide +kernel
theorem dX5_init_64 : decode cX5_init 64 = .ok (.putfield 44, 3) := by decide +kernel
theorem dX5_init_67 : decode cX5_init 67 = .ok (.aload_n 0, 1) := by decide +kernel
theorem dX5_init_68 : decode cX5_init 68 = .ok (.iconst 0, 1) := by decide +kernel
theorem dX5_init_69 : decode cX5_init 69 = .ok (.putfield 47, 3) := by decide +kernel
theorem dX5_init_72 : decode cX5_init 72 = .ok (.aload_n 0, 1) := by decide +kernel
theorem dX5_init_73 : decode cX5_init 73 = .ok (.iconst 4, 1) := by decide +kernel
theorem dX5_init_74 : decode cX5_init 74 = .ok (.anewarray 50, 3) := by decide +kernel
theorem dX5_init_77 : decode cX5_init 77 = .ok (.putfield 52, 3) := by decide +kernel
theorem dX5_init_80 : decode cX5_init 80 = .ok (.aload_n 0, 1) := by decide +kernel
theorem dX5_init_81 : decode cX5_init 81 = .ok (.new 56, 3) := by decide +kernel
theorem dX5_init_84 : decode cX5_init 84 = .ok (.dup, 1) := by decide +kernel
theorem dX5_init_85 : decode cX5_init 85 = .ok (.invokespecial 58, 3) := by decide +kernel
theorem dX5_init_88 : decode cX5_init 88 = .ok (.putfield 59, 3) := by decide +kernel
theorem dX5_init_91 : decode cX5_init 91 = .ok (.aload_n 0, 1) := by decide +kernel
theorem dX5_init_92 : decode cX5_init 92 = .ok (.bipush 6, 2) := by decide +kernel
theorem dX5_init_94 : decode cX5_init 94 = .ok (.newarray .int, 2) := by decide +kernel
theorem dX5_init_96 : decode cX5_init 96 = .ok (.putfield 63, 3) := by decide +kernel
theorem dX5_init_99 : decode cX5_init 99 = .ok (.aload_n 0, 1) := by decide +kernel
theorem dX5_init_100 : decode cX5_init 100 = .ok (.bipush 40, 2) := by decide +kernel
theorem dX5_init_102 : decode cX5_init 102 = .ok (.newarray .int, 2) := by decide +kernel
theorem dX5_init_104 : decode cX5_init 104 = .ok (.putfield 66, 3) := by decide +kernel
theorem dX5_init_107 : decode cX5_init 107 = .ok (.aload_n 0, 1) := by decide +kernel
theorem dX5_init_108 : decode cX5_init 108 = .ok (.bipush 30, 2) := by decide +kernel
theorem dX5_init_110 : decode cX5_init 110 = .ok (.newarray .int, 2) := by decide +kernel
theorem dX5_init_112 : decode cX5_init 112 = .ok (.putfield 69, 3) := by decide +kernel
theorem dX5_init_115 : decode cX5_init 115 = .ok (.aload_n 0, 1) := by decide +kernel
theorem dX5_init_116 : decode cX5_init 116 = .ok (.bipush 60, 2) := by decide +kernel
theorem dX5_init_118 : decode cX5_init 118 = .ok (.newarray .int, 2) := by decide +kernel
theorem dX5_init_120 : decode cX5_init 120 = .ok (.putfield 72, 3) := by decide +kernel
theorem dX5_init_123 : decode cX5_init 123 = .ok (.aload_n 0, 1) := by decide +kernel
theorem dX5_init_124 : decode cX5_init 124 = .ok (.sipush 1800, 3) := by decide +kernel
theorem dX5_init_127 : decode cX5_init 127 = .ok (.newarray .int, 2) := by decide +kernel
theorem dX5_init_129 : decode cX5_init 129 = .ok (.putfield 75, 3) := by decide +kernel
theorem dX5_init_132 : decode cX5_init 132 = .ok (.iconst 0, 1) := by decide +kernel
theorem dX5_init_133 : decode cX5_init 133 = .ok (.istore_n 1, 1) := by decide +kernel
theorem dX5_init_134 : decode cX5_init 134 = .ok (.iload_n 1, 1) := by decide +kernel
theorem dX5_init_135 : decode cX5_init 135 = .ok (.bipush 30, 2) := by decide +kernel
theorem dX5_init_137 : decode cX5_init 137 = .ok (.if_icmp .ge 16, 3) := by decide +kernel
theorem dX5_init_140 : decode cX5_init 140 = .ok (.aload_n 0, 1) := by decide +kernel
theorem dX5_init_141 : decode cX5_init 141 = .ok (.getfield 9, 3) := by decide +kernel
theorem dX5_init_144 : decode cX5_init 144 = .ok (.iload_n 1, 1) := by decide +kernel
theorem dX5_init_145 : decode cX5_init 145 = .ok (.iconst 5, 1) := by decide +kernel
theorem dX5_init_146 : decode cX5_init 146 = .ok (.iastore, 1) := by decide +kernel
theorem dX5_init_147 : decode cX5_init 147 = .ok (.iinc 1 1, 3) := by decide +kernel
theorem dX5_init_150 : decode cX5_init 150 = .ok (.goto (-16), 3) := by decide +kernel
theorem dX5_init_153 : decode cX5_init 153 = .ok (.iconst 0, 1) := by decide +kernel
theorem dX5_init_154 : decode cX5_init 154 = .ok (.istore_n 1, 1) := by decide +kernel
theorem dX5_init_155 : decode cX5_init 155 = .ok (.iload_n 1, 1) := by decide +kernel
theorem dX5_init_156 : decode cX5_init 156 = .ok (.bipush 6, 2) := by decide +kernel
theorem dX5_init_158 : decode cX5_init 158 = .ok (.if_icmp .ge 22, 3) := by decide +kernel
theorem dX5_init_161 : decode cX5_init 161 = .ok (.aload_n 0, 1) := by decide +kernel
theorem dX5_init_162 : decode cX5_init 162 = .ok (.getfield 19, 3) := by decide +kernel
theorem dX5_init_165 : decode cX5_init 165 = .ok (.iload_n 1, 1) := by decide +kernel
theorem dX5_init_166 : decode cX5_init 166 = .ok (.new 17, 3) := by decide +kernel
theorem dX5_init_169 : decode cX5_init 169 = .ok (.dup, 1) := by decide +kernel
theorem dX5_init_170 : decode cX5_init 170 = .ok (.invokespecial 26, 3) := by decide +kernel
theorem dX5_init_173 : decode cX5_init 173 = .ok (.aastore, 1) := by decide +kernel
theorem dX5_init_174 : decode cX5_init 174 = .ok (.iinc 1 1, 3) := by decide +kernel
theorem dX5_init_177 : decode cX5_init 177 = .ok (.goto (-22), 3) := by decide +kernel
theorem dX5_init_180 : decode cX5_init 180 = .ok (.iconst 0, 1) := by decide +kernel
theorem dX5_init_181 : decode cX5_init 181 = .ok (.istore_n 1, 1) := by decide +kernel
theorem dX5_init_182 : decode cX5_init 182 = .ok (.iload_n 1, 1) := by decide +kernel
theorem dX5_init_183 : decode cX5_init 183 = .ok (.bipush 6, 2) := by decide +kernel
theorem dX5_init_185 : decode cX5_init 185 = .ok (.if_icmp .ge 22, 3) := by decide +kernel
theorem dX5_init_188 : decode cX5_init 188 = .ok (.aload_n 0, 1) := by decide +kernel
theorem dX5_init_189 : decode cX5_init 189 = .ok (.getfield 40, 3) := by decide +kernel
theorem dX5_init_192 : decode cX5_init 192 = .ok (.iload_n 1, 1) := by decide +kernel
theorem dX5_init_193 : decode cX5_init 193 = .ok (.new 38, 3) := by decide +kernel
theorem dX5_init_196 : decode cX5_init 196 = .ok (.dup, 1) := by decide +kernel
theorem dX5_init_197 : decode cX5_init 197 = .ok (.invokespecial 78, 3) := by decide +kernel
theorem dX5_init_200 : decode cX5_init 200 = .ok (.aastore, 1) := by decide +kernel
theorem dX5_init_201 : decode cX5_init 201 = .ok (.iinc 1 1, 3) := by decide +kernel
theorem dX5_init_204 : decode cX5_init 204 = .ok (.goto (-22), 3) := by decide +kernel
theorem dX5_init_207 : decode cX5_init 207 = .ok (.iconst 0, 1) := by decide +kernel
theorem dX5_init_208 : decode cX5_init 208 = .ok (.istore_n 1, 1) := by decide +kernel
theorem dX5_init_209 : decode cX5_init 209 = .ok (.iload_n 1, 1) := by decide +kernel
theorem dX5_init_210 : decode cX5_init 210 = .ok (.iconst 4, 1) := by decide +kernel
theorem dX5_init_211 : decode cX5_init 211 = .ok (.if_icmp .ge 22, 3) := by decide +kernel
theorem dX5_init_214 : decode cX5_init 214 = .ok (.aload_n 0, 1) := by decide +kernel
theorem dX5_init_215 : decode cX5_init 215 = .ok (.getfield 52, 3) := by decide +kernel
theorem dX5_init_218 : decode cX5_init 218 = .ok (.iload_n 1, 1) := by decide +kernel
theorem dX5_init_219 : decode cX5_init 219 = .ok (.new 50, 3) := by decide +kernel
theorem dX5_init_222 : decode cX5_init 222 = .ok (.dup, 1) := by decide +kernel
theorem dX5_init_223 : decode cX5_init 223 = .ok (.invokespecial 79, 3) := by decide +kernel
theorem dX5_init_226 : decode cX5_init 226 = .ok (.aastore, 1) := by decide +kernel
theorem dX5_init_227 : decode cX5_init 227 = .ok (.iinc 1 1, 3) := by decide +kernel
theorem dX5_init_230 : decode cX5_init 230 = .ok (.goto (-21), 3) := by decide +kernel
theorem dX5_init_233 : decode cX5_init 233 = .ok (.aload_n 0, 1) := by decide +kernel
theorem dX5_init_234 : decode cX5_init 234 = .ok (.getfield 40, 3) := by decide +kernel
theorem dX5_init_237 : decode cX5_init 237 = .ok (.iconst 0, 1) := by decide +kernel
theorem dX5_init_238 : decode cX5_init 238 = .ok (.aaload, 1) := by decide +kernel
theorem dX5_init_239 : decode cX5_init 239 = .ok (.invokevirtual 80, 3) := by decide +kernel
theorem dX5_init_242 : decode cX5_init 242 = .ok (.return_, 1) := by decide +kernel
theorem dX5_set_0 : decode cX5_set 0 = .ok (.iload_n 1, 1) := by decide +kernel
theorem dX5_set_1 : decode cX5_set 1 = .ok (.tableswitch 58 0 3 #[31, 37, 44, 51], 31) := by decide +kernel
theorem dX5_set_32 : decode cX5_set 32 = .ok (.aload_n 0, 1) := by decide +kernel
theorem dX5_set_33 : decode cX5_set 33 = .ok (.iload_n 3, 1) := by decide +kernel
theorem dX5_set_34 : decode cX5_set 34 = .ok (.invokevirtual 83, 3) := by decide +kernel
theorem dX5_set_37 : decode cX5_set 37 = .ok (.ireturn, 1) := by decide +kernel
theorem dX5_set_38 : decode cX5_set 38 = .ok (.aload_n 0, 1) := by decide +kernel
theorem dX5_set_39 : decode cX5_set 39 = .ok (.iload_n 2, 1) := by decide +kernel
theorem dX5_set_40 : decode cX5_set 40 = .ok (.iload_n 3, 1) := by decide +kernel
theorem dX5_set_41 : decode cX5_set 41 = .ok (.invokevirtual 87, 3) := by decide +kernel
theorem dX5_set_44 : decode cX5_set 44 = .ok (.ireturn, 1) := by decide +kernel
theorem dX5_set_45 : decode cX5_set 45 = .ok (.aload_n 0, 1) := by decide +kernel
theorem dX5_set_46 : decode cX5_set 46 = .ok (.iload_n 2, 1) := by decide +kernel
theorem dX5_set_47 : decode cX5_set 47 = .ok (.iload_n 3, 1) := by decide +kernel
theorem dX5_set_48 : decode cX5_set 48 = .ok (.invokevirtual 91, 3) := by decide +kernel
theorem dX5_set_51 : decode cX5_set 51 = .ok (.ireturn, 1) := by decide +kernel
theorem dX5_set_52 : decode cX5_set 52 = .ok (.aload_n 0, 1) := by decide +kernel
theorem dX5_set_53 : decode cX5_set 53 = .ok (.iload_n 2, 1) := by decide +kernel
theorem dX5_set_54 : decode cX5_set 54 = .ok (.iload_n 3, 1) := by decide +kernel
theorem dX5_set_55 : decode cX5_set 55 = .ok (.invokevirtual 94, 3) := by decide +kernel
theorem dX5_set_58 : decode cX5_set 58 = .ok (.ireturn, 1) := by decide +kernel
theorem dX5_set_59 : decode cX5_set 59 = .ok (.bipush (-2), 2) := by decide +kernel
theorem dX5_set_61 : decode cX5_set 61 = .ok (.ireturn, 1) := by decide +kernel
theorem dX5_putShare_0 : decode cX5_putShare 0 = .ok (.iload_n 1, 1) := by decide +kernel
theorem dX5_putShare_1 : decode cX5_putShare 1 = .ok (.ifCond .lt 9, 3) := by decide +kernel
theorem dX5_putShare_4 : decode cX5_putShare 4 = .ok (.iload_n 1, 1) := by decide +kernel
theorem dX5_putShare_5 : decode cX5_putShare 5 = .ok (.ldc 97, 2) := by decide +kernel
theorem dX5_putShare_7 : decode cX5_putShare 7 = .ok (.if_icmp .le 6, 3) := by decide +kernel
theorem dX5_putShare_10 : decode cX5_putShare 10 = .ok (.bipush (-2), 2) := by decide +kernel
theorem dX5_putShare_12 : decode cX5_putShare 12 = .ok (.ireturn, 1) := by decide +kernel
theorem dX5_putShare_13 : decode cX5_putShare 13 = .ok (.aload_n 0, 1) := by decide +kernel
theorem dX5_putShare_14 : decode cX5_putShare 14 = .ok (.getfield 13, 3) := by decide +kernel
theorem dX5_putShare_17 : decode cX5_putShare 17 = .ok (.istore_n 2, 1) := by decide +kernel
theorem dX5_putShare_18 : decode cX5_putShare 18 = .ok (.aload_n 0, 1) := by decide +kernel
theorem dX5_putShare_19 : decode cX5_putShare 19 = .ok (.iload_n 1, 1) := by decide +kernel
theorem dX5_putShare_20 : decode cX5_putShare 20 = .ok (.putfield 13, 3) := by decide +kernel
theorem dX5_putShare_23 : decode cX5_putShare 23 = .ok (.iload_n 2, 1) := by decide +kernel
theorem dX5_putShare_24 : decode cX5_putShare 24 = .ok (.ireturn, 1) := by decide +kernel
theorem dX5_putCold_0 : decode cX5_putCold 0 = .ok (.iload_n 1, 1) := by decide +kernel
theorem dX5_putCold_1 : decode cX5_putCold 1 = .ok (.invokestatic 98, 3) := by decide +kernel
theorem dX5_putCold_4 : decode cX5_putCold 4 = .ok (.ifCond .eq 10, 3) := by decide +kernel
theorem dX5_putCold_7 : decode cX5_putCold 7 = .ok (.iload_n 2, 1) := by decide +kernel
theorem dX5_putCold_8 : decode cX5_putCold 8 = .ok (.invokestatic 102, 3) := by decide +kernel
theorem dX5_putCold_11 : decode cX5_putCold 11 = .ok (.ifCond .ne 6, 3) := by decide +kernel
theorem dX5_putCold_14 : decode cX5_putCold 14 = .ok (.bipush (-2), 2) := by decide +kernel
theorem dX5_putCold_16 : decode cX5_putCold 16 = .ok (.ireturn, 1) := by decide +kernel
theorem dX5_putCold_17 : decode cX5_putCold 17 = .ok (.aload_n 0, 1) := by decide +kernel
theorem dX5_putCold_18 : decode cX5_putCold 18 = .ok (.getfield 9, 3) := by decide +kernel
theorem dX5_putCold_21 : decode cX5_putCold 21 = .ok (.iload_n 1, 1) := by decide +kernel
theorem dX5_putCold_22 : decode cX5_putCold 22 = .ok (.iaload, 1) := by decide +kernel
theorem dX5_putCold_23 : decode cX5_putCold 23 = .ok (.istore_n 3, 1) := by decide +kernel
theorem dX5_putCold_24 : decode cX5_putCold 24 = .ok (.aload_n 0, 1) := by decide +kernel
theorem dX5_putCold_25 : decode cX5_putCold 25 = .ok (.getfield 9, 3) := by decide +kernel
theorem dX5_putCold_28 : decode cX5_putCold 28 = .ok (.iload_n 1, 1) := by decide +kernel
theorem dX5_putCold_29 : decode cX5_putCold 29 = .ok (.iload_n 2, 1) := by decide +kernel
theorem dX5_putCold_30 : decode cX5_putCold 30 = .ok (.iastore, 1) := by decide +kernel
theorem dX5_putCold_31 : decode cX5_putCold 31 = .ok (.iload_n 3, 1) := by decide +kernel
theorem dX5_putCold_32 : decode cX5_putCold 32 = .ok (.ireturn, 1) := by decide +kernel
theorem dX5_putNumber_0 : decode cX5_putNumber 0 = .ok (.aload_n 0, 1) := by decide +kernel
theorem dX5_putNumber_1 : decode cX5_putNumber 1 = .ok (.iload_n 1, 1) := by decide +kernel
theorem dX5_putNumber_2 : decode cX5_putNumber 2 = .ok (.invokevirtual 105, 3) := by decide +kernel
theorem dX5_putNumber_5 : decode cX5_putNumber 5 = .ok (.ifCond .eq 10, 3) := by decide +kernel
theorem dX5_putNumber_8 : decode cX5_putNumber 8 = .ok (.iload_n 2, 1) := by decide +kernel
theorem dX5_putNumber_9 : decode cX5_putNumber 9 = .ok (.invokestatic 102, 3) := by decide +kernel
theorem dX5_putNumber_12 : decode cX5_putNumber 12 = .ok (.ifCond .ne 6, 3) := by decide +kernel
theorem dX5_putNumber_15 : decode cX5_putNumber 15 = .ok (.bipush (-2), 2) := by decide +kernel
theorem dX5_putNumber_17 : decode cX5_putNumber 17 = .ok (.ireturn, 1) := by decide +kernel
theorem dX5_putNumber_18 : decode cX5_putNumber 18 = .ok (.aload_n 0, 1) := by decide +kernel
theorem dX5_putNumber_19 : decode cX5_putNumber 19 = .ok (.getfield 19, 3) := by decide +kernel
theorem dX5_putNumber_22 : decode cX5_putNumber 22 = .ok (.iload_n 1, 1) := by decide +kernel
theorem dX5_putNumber_23 : decode cX5_putNumber 23 = .ok (.aaload, 1) := by decide +kernel
theorem dX5_putNumber_24 : decode cX5_putNumber 24 = .ok (.getfield 108, 3) := by decide +kernel
theorem dX5_putNumber_27 : decode cX5_putNumber 27 = .ok (.istore_n 3, 1) := by decide +kernel
theorem dX5_putNumber_28 : decode cX5_putNumber 28 = .ok (.aload_n 0, 1) := by decide +kernel
theorem dX5_putNumber_29 : decode cX5_putNumber 29 = .ok (.getfield 19, 3) := by decide +kernel
theorem dX5_putNumber_32 : decode cX5_putNumber 32 = .ok (.iload_n 1, 1) := by decide +kernel
theorem dX5_putNumber_33 : decode cX5_putNumber 33 = .ok (.aaload, 1) := by decide +kernel
theorem dX5_putNumber_34 : decode cX5_putNumber 34 = .ok (.iload_n 2, 1) := by decide +kernel
theorem dX5_putNumber_35 : decode cX5_putNumber 35 = .ok (.putfield 108, 3) := by decide +kernel
theorem dX5_putNumber_38 : decode cX5_putNumber 38 = .ok (.iload_n 3, 1) := by decide +kernel
theorem dX5_putNumber_39 : decode cX5_putNumber 39 = .ok (.ireturn, 1) := by decide +kernel
theorem dX5_putTown_0 : decode cX5_putTown 0 = .ok (.aload_n 0, 1) := by decide +kernel
theorem dX5_putTown_1 : decode cX5_putTown 1 = .ok (.iload_n 1, 1) := by decide +kernel
theorem dX5_putTown_2 : decode cX5_putTown 2 = .ok (.invokevirtual 105, 3) := by decide +kernel
theorem dX5_putTown_5 : decode cX5_putTown 5 = .ok (.ifCond .eq 10, 3) := by decide +kernel
theorem dX5_putTown_8 : decode cX5_putTown 8 = .ok (.iload_n 2, 1) := by decide +kernel
theorem dX5_putTown_9 : decode cX5_putTown 9 = .ok (.invokestatic 111, 3) := by decide +kernel
theorem dX5_putTown_12 : decode cX5_putTown 12 = .ok (.ifCond .ne 6, 3) := by decide +kernel
theorem dX5_putTown_15 : decode cX5_putTown 15 = .ok (.bipush (-2), 2) := by decide +kernel
theorem dX5_putTown_17 : decode cX5_putTown 17 = .ok (.ireturn, 1) := by decide +kernel
theorem dX5_putTown_18 : decode cX5_putTown 18 = .ok (.aload_n 0, 1) := by decide +kernel
theorem dX5_putTown_19 : decode cX5_putTown 19 = .ok (.getfield 19, 3) := by decide +kernel
theorem dX5_putTown_22 : decode cX5_putTown 22 = .ok (.iload_n 1, 1) := by decide +kernel
theorem dX5_putTown_23 : decode cX5_putTown 23 = .ok (.aaload, 1) := by decide +kernel
theorem dX5_putTown_24 : decode cX5_putTown 24 = .ok (.getfield 114, 3) := by decide +kernel
theorem dX5_putTown_27 : decode cX5_putTown 27 = .ok (.istore_n 3, 1) := by decide +kernel
theorem dX5_putTown_28 : decode cX5_putTown 28 = .ok (.aload_n 0, 1) := by decide +kernel
theorem dX5_putTown_29 : decode cX5_putTown 29 = .ok (.getfield 19, 3) := by decide +kernel
theorem dX5_putTown_32 : decode cX5_putTown 32 = .ok (.iload_n 1, 1) := by decide +kernel
theorem dX5_putTown_33 : decode cX5_putTown 33 = .ok (.aaload, 1) := by decide +kernel
theorem dX5_putTown_34 : decode cX5_putTown 34 = .ok (.iload_n 2, 1) := by decide +kernel
theorem dX5_putTown_35 : decode cX5_putTown 35 = .ok (.putfield 114, 3) := by decide +kernel
theorem dX5_putTown_38 : decode cX5_putTown 38 = .ok (.iload_n 3, 1) := by decide +kernel
theorem dX5_putTown_39 : decode cX5_putTown 39 = .ok (.ireturn, 1) := by decide +kernel
theorem dX5_user_0 : decode cX5_user 0 = .ok (.iload_n 1, 1) := by decide +kernel
theorem dX5_user_1 : decode cX5_user 1 = .ok (.invokestatic 117, 3) := by decide +kernel
theorem dX5_user_4 : decode cX5_user 4 = .ok (.ifCond .eq 17, 3) := by decide +kernel
theorem dX5_user_7 : decode cX5_user 7 = .ok (.iload_n 2, 1) := by decide +kernel
theorem dX5_user_8 : decode cX5_user 8 = .ok (.invokestatic 102, 3) := by decide +kernel
theorem dX5_user_11 : decode cX5_user 11 = .ok (.ifCond .eq 10, 3) := by decide +kernel
theorem dX5_user_14 : decode cX5_user 14 = .ok (.iload_n 3, 1) := by decide +kernel
theorem dX5_user_15 : decode cX5_user 15 = .ok (.invokestatic 111, 3) := by decide +kernel
theorem dX5_user_18 : decode cX5_user 18 = .ok (.ifCond .ne 6, 3) := by decide +kernel
theorem dX5_user_21 : decode cX5_user 21 = .ok (.bipush (-2), 2) := by decide +kernel
theorem dX5_user_23 : decode cX5_user 23 = .ok (.ireturn, 1) := by decide +kernel
theorem dX5_user_24 : decode cX5_user 24 = .ok (.aload_n 0, 1) := by decide +kernel
theorem dX5_user_25 : decode cX5_user 25 = .ok (.getfield 23, 3) := by decide +kernel
theorem dX5_user_28 : decode cX5_user 28 = .ok (.bipush 6, 2) := by decide +kernel
theorem dX5_user_30 : decode cX5_user 30 = .ok (.if_icmp .lt 6, 3) := by decide +kernel
theorem dX5_user_33 : decode cX5_user 33 = .ok (.bipush (-4), 2) := by decide +kernel
theorem dX5_user_35 : decode cX5_user 35 = .ok (.ireturn, 1) := by decide +kernel
theorem dX5_user_36 : decode cX5_user 36 = .ok (.aload_n 0, 1) := by decide +kernel
theorem dX5_user_37 : decode cX5_user 37 = .ok (.getfield 19, 3) := by decide +kernel
theorem dX5_user_40 : decode cX5_user 40 = .ok (.aload_n 0, 1) := by decide +kernel
theorem dX5_user_41 : decode cX5_user 41 = .ok (.getfield 23, 3) := by decide +kernel
theorem dX5_user_44 : decode cX5_user 44 = .ok (.aaload, 1) := by decide +kernel
theorem dX5_user_45 : decode cX5_user 45 = .ok (.iload_n 1, 1) := by decide +kernel
theorem dX5_user_46 : decode cX5_user 46 = .ok (.iload_n 2, 1) := by decide +kernel
theorem dX5_user_47 : decode cX5_user 47 = .ok (.iload_n 3, 1) := by decide +kernel
theorem dX5_user_48 : decode cX5_user 48 = .ok (.invokevirtual 120, 3) := by decide +kernel
theorem dX5_user_51 : decode cX5_user 51 = .ok (.aload_n 0, 1) := by decide +kernel
theorem dX5_user_52 : decode cX5_user 52 = .ok (.dup, 1) := by decide +kernel
theorem dX5_user_53 : decode cX5_user 53 = .ok (.getfield 23, 3) := by decide +kernel
theorem dX5_user_56 : decode cX5_user 56 = .ok (.iconst 1, 1) := by decide +kernel
theorem dX5_user_57 : decode cX5_user 57 = .ok (.iadd, 1) := by decide +kernel
theorem dX5_user_58 : decode cX5_user 58 = .ok (.putfield 23, 3) := by decide +kernel
theorem dX5_user_61 : decode cX5_user 61 = .ok (.aload_n 0, 1) := by decide +kernel
theorem dX5_user_62 : decode cX5_user 62 = .ok (.getfield 23, 3) := by decide +kernel
theorem dX5_user_65 : decode cX5_user 65 = .ok (.iconst 1, 1) := by decide +kernel
theorem dX5_user_66 : decode cX5_user 66 = .ok (.isub, 1) := by decide +kernel
theorem dX5_user_67 : decode cX5_user 67 = .ok (.ireturn, 1) := by decide +kernel
theorem dX5_told_0 : decode cX5_told 0 = .ok (.iload_n 2, 1) := by decide +kernel
theorem dX5_told_1 : decode cX5_told 1 = .ok (.tableswitch 183 0 6 #[43, 48, 67, 90, 113, 136, 157], 43) := by decide +kernel
theorem dX5_told_44 : decode cX5_told 44 = .ok (.aload_n 0, 1) := by decide +kernel
theorem dX5_told_45 : decode cX5_told 45 = .ok (.getfield 13, 3) := by decide +kernel
theorem dX5_told_48 : decode cX5_told 48 = .ok (.ireturn, 1) := by decide +kernel
theorem dX5_told_49 : decode cX5_told 49 = .ok (.iload_n 1, 1) := by decide +kernel
theorem dX5_told_50 : decode cX5_told 50 = .ok (.invokestatic 98, 3) := by decide +kernel
theorem dX5_told_53 : decode cX5_told 53 = .ok (.ifCond .eq 12, 3) := by decide +kernel
theorem dX5_told_56 : decode cX5_told 56 = .ok (.aload_n 0, 1) := by decide +kernel
theorem dX5_told_57 : decode cX5_told 57 = .ok (.getfield 9, 3) := by decide +kernel
theorem dX5_told_60 : decode cX5_told 60 = .ok (.iload_n 1, 1) := by decide +kernel
theorem dX5_told_61 : decode cX5_told 61 = .ok (.iaload, 1) := by decide +kernel
theorem dX5_told_62 : decode cX5_told 62 = .ok (.goto 5, 3) := by decide +kernel
theorem dX5_told_65 : decode cX5_told 65 = .ok (.bipush (-2), 2) := by decide +kernel
theorem dX5_told_67 : decode cX5_told 67 = .ok (.ireturn, 1) := by decide +kernel
theorem dX5_told_68 : decode cX5_told 68 = .ok (.aload_n 0, 1) := by decide +kernel
theorem dX5_told_69 : decode cX5_told 69 = .ok (.iload_n 1, 1) := by decide +kernel
theorem dX5_told_70 : decode cX5_told 70 = .ok (.invokevirtual 105, 3) := by decide +kernel
theorem dX5_told_73 : decode cX5_told 73 = .ok (.ifCond .eq 15, 3) := by decide +kernel
theorem dX5_told_76 : decode cX5_told 76 = .ok (.aload_n 0, 1) := by decide +kernel
theorem dX5_told_77 : decode cX5_told 77 = .ok (.getfield 19, 3) := by decide +kernel
theorem dX5_told_80 : decode cX5_told 80 = .ok (.iload_n 1, 1) := by decide +kernel
theorem dX5_told_81 : decode cX5_told 81 = .ok (.aaload, 1) := by decide +kernel
theorem dX5_told_82 : decode cX5_told 82 = .ok (.getfield 108, 3) := by decide +kernel
theorem dX5_told_85 : decode cX5_told 85 = .ok (.goto 5, 3) := by decide +kernel
theorem dX5_told_88 : decode cX5_told 88 = .ok (.bipush (-2), 2) := by decide +kernel
theorem dX5_told_90 : decode cX5_told 90 = .ok (.ireturn, 1) := by decide +kernel
theorem dX5_told_91 : decode cX5_told 91 = .ok (.aload_n 0, 1) := by decide +kernel
theorem dX5_told_92 : decode cX5_told 92 = .ok (.iload_n 1, 1) := by decide +kernel
theorem dX5_told_93 : decode cX5_told 93 = .ok (.invokevirtual 105, 3) := by decide +kernel
theorem dX5_told_96 : decode cX5_told 96 = .ok (.ifCond .eq 15, 3) := by decide +kernel
theorem dX5_told_99 : decode cX5_told 99 = .ok (.aload_n 0, 1) := by decide +kernel
theorem dX5_told_100 : decode cX5_told 100 = .ok (.getfield 19, 3) := by decide +kernel
theorem dX5_told_103 : decode cX5_told 103 = .ok (.iload_n 1, 1) := by decide +kernel
theorem dX5_told_104 : decode cX5_told 104 = .ok (.aaload, 1) := by decide +kernel
theorem dX5_told_105 : decode cX5_told 105 = .ok (.getfield 114, 3) := by decide +kernel
theorem dX5_told_108 : decode cX5_told 108 = .ok (.goto 5, 3) := by decide +kernel
theorem dX5_told_111 : decode cX5_told 111 = .ok (.bipush (-2), 2) := by decide +kernel
theorem dX5_told_113 : decode cX5_told 113 = .ok (.ireturn, 1) := by decide +kernel
theorem dX5_told_114 : decode cX5_told 114 = .ok (.aload_n 0, 1) := by decide +kernel
theorem dX5_told_115 : decode cX5_told 115 = .ok (.iload_n 1, 1) := by decide +kernel
theorem dX5_told_116 : decode cX5_told 116 = .ok (.invokevirtual 105, 3) := by decide +kernel
theorem dX5_told_119 : decode cX5_told 119 = .ok (.ifCond .eq 15, 3) := by decide +kernel
theorem dX5_told_122 : decode cX5_told 122 = .ok (.aload_n 0, 1) := by decide +kernel
theorem dX5_told_123 : decode cX5_told 123 = .ok (.getfield 19, 3) := by decide +kernel
theorem dX5_told_126 : decode cX5_told 126 = .ok (.iload_n 1, 1) := by decide +kernel
theorem dX5_told_127 : decode cX5_told 127 = .ok (.aaload, 1) := by decide +kernel
theorem dX5_told_128 : decode cX5_told 128 = .ok (.getfield 124, 3) := by decide +kernel
theorem dX5_told_131 : decode cX5_told 131 = .ok (.goto 5, 3) := by decide +kernel
theorem dX5_told_134 : decode cX5_told 134 = .ok (.bipush (-2), 2) := by decide +kernel
theorem dX5_told_136 : decode cX5_told 136 = .ok (.ireturn, 1) := by decide +kernel
theorem dX5_told_137 : decode cX5_told 137 = .ok (.iload_n 1, 1) := by decide +kernel
theorem dX5_told_138 : decode cX5_told 138 = .ok (.invokestatic 98, 3) := by decide +kernel
theorem dX5_told_141 : decode cX5_told 141 = .ok (.ifCond .eq 14, 3) := by decide +kernel
theorem dX5_told_144 : decode cX5_told 144 = .ok (.aload_n 0, 1) := by decide +kernel
theorem dX5_told_145 : decode cX5_told 145 = .ok (.getfield 13, 3) := by decide +kernel
theorem dX5_told_148 : decode cX5_told 148 = .ok (.iload_n 1, 1) := by decide +kernel
theorem dX5_told_149 : decode cX5_told 149 = .ok (.invokestatic 127, 3) := by decide +kernel
theorem dX5_told_152 : decode cX5_told 152 = .ok (.goto 5, 3) := by decide +kernel
theorem dX5_told_155 : decode cX5_told 155 = .ok (.bipush (-2), 2) := by decide +kernel
theorem dX5_told_157 : decode cX5_told 157 = .ok (.ireturn, 1) := by decide +kernel
theorem dX5_told_158 : decode cX5_told 158 = .ok (.iload_n 1, 1) := by decide +kernel
theorem dX5_told_159 : decode cX5_told 159 = .ok (.invokestatic 98, 3) := by decide +kernel
theorem dX5_told_162 : decode cX5_told 162 = .ok (.ifCond .eq 19, 3) := by decide +kernel
theorem dX5_told_165 : decode cX5_told 165 = .ok (.aload_n 0, 1) := by decide +kernel
theorem dX5_told_166 : decode cX5_told 166 = .ok (.iload_n 1, 1) := by decide +kernel
theorem dX5_told_167 : decode cX5_told 167 = .ok (.aload_n 0, 1) := by decide +kernel
theorem dX5_told_168 : decode cX5_told 168 = .ok (.getfield 13, 3) := by decide +kernel
theorem dX5_told_171 : decode cX5_told 171 = .ok (.iload_n 1, 1) := by decide +kernel
theorem dX5_told_172 : decode cX5_told 172 = .ok (.invokestatic 130, 3) := by decide +kernel
theorem dX5_told_175 : decode cX5_told 175 = .ok (.invokevirtual 133, 3) := by decide +kernel
theorem dX5_told_178 : decode cX5_told 178 = .ok (.goto 5, 3) := by decide +kernel
theorem dX5_told_181 : decode cX5_told 181 = .ok (.bipush (-2), 2) := by decide +kernel
theorem dX5_told_183 : decode cX5_told 183 = .ok (.ireturn, 1) := by decide +kernel
theorem dX5_told_184 : decode cX5_told 184 = .ok (.bipush (-2), 2) := by decide +kernel
theorem dX5_told_186 : decode cX5_told 186 = .ok (.ireturn, 1) := by decide +kernel
theorem dX5_isUser_0 : decode cX5_isUser 0 = .ok (.iload_n 1, 1) := by decide +kernel
theorem dX5_isUser_1 : decode cX5_isUser 1 = .ok (.ifCond .lt 21, 3) := by decide +kernel
theorem dX5_isUser_4 : decode cX5_isUser 4 = .ok (.iload_n 1, 1) := by decide +kernel
theorem dX5_isUser_5 : decode cX5_isUser 5 = .ok (.aload_n 0, 1) := by decide +kernel
theorem dX5_isUser_6 : decode cX5_isUser 6 = .ok (.getfield 23, 3) := by decide +kernel
theorem dX5_isUser_9 : decode cX5_isUser 9 = .ok (.if_icmp .ge 13, 3) := by decide +kernel
theorem dX5_isUser_12 : decode cX5_isUser 12 = .ok (.iload_n 1, 1) := by decide +kernel
theorem dX5_isUser_13 : decode cX5_isUser 13 = .ok (.bipush 6, 2) := by decide +kernel
theorem dX5_isUser_15 : decode cX5_isUser 15 = .ok (.if_icmp .ge 7, 3) := by decide +kernel
theorem dX5_isUser_18 : decode cX5_isUser 18 = .ok (.iconst 1, 1) := by decide +kernel
theorem dX5_isUser_19 : decode cX5_isUser 19 = .ok (.goto 4, 3) := by decide +kernel
theorem dX5_isUser_22 : decode cX5_isUser 22 = .ok (.iconst 0, 1) := by decide +kernel
theorem dX5_isUser_23 : decode cX5_isUser 23 = .ok (.ireturn, 1) := by decide +kernel
theorem dX5_isNight_0 : decode cX5_isNight 0 = .ok (.iload_n 0, 1) := by decide +kernel
theorem dX5_isNight_1 : decode cX5_isNight 1 = .ok (.ifCond .lt 13, 3) := by decide +kernel
theorem dX5_isNight_4 : decode cX5_isNight 4 = .ok (.iload_n 0, 1) := by decide +kernel
theorem dX5_isNight_5 : decode cX5_isNight 5 = .ok (.bipush 30, 2) := by decide +kernel
theorem dX5_isNight_7 : decode cX5_isNight 7 = .ok (.if_icmp .ge 7, 3) := by decide +kernel
theorem dX5_isNight_10 : decode cX5_isNight 10 = .ok (.iconst 1, 1) := by decide +kernel
theorem dX5_isNight_11 : decode cX5_isNight 11 = .ok (.goto 4, 3) := by decide +kernel
theorem dX5_isNight_14 : decode cX5_isNight 14 = .ok (.iconst 0, 1) := by decide +kernel
theorem dX5_isNight_15 : decode cX5_isNight 15 = .ok (.ireturn, 1) := by decide +kernel
theorem dX5_isDigit_0 : decode cX5_isDigit 0 = .ok (.iload_n 0, 1) := by decide +kernel
theorem dX5_isDigit_1 : decode cX5_isDigit 1 = .ok (.ifCond .lt 13, 3) := by decide +kernel
theorem dX5_isDigit_4 : decode cX5_isDigit 4 = .ok (.iload_n 0, 1) := by decide +kernel
theorem dX5_isDigit_5 : decode cX5_isDigit 5 = .ok (.bipush 9, 2) := by decide +kernel
theorem dX5_isDigit_7 : decode cX5_isDigit 7 = .ok (.if_icmp .gt 7, 3) := by decide +kernel
theorem dX5_isDigit_10 : decode cX5_isDigit 10 = .ok (.iconst 1, 1) := by decide +kernel
theorem dX5_isDigit_11 : decode cX5_isDigit 11 = .ok (.goto 4, 3) := by decide +kernel
theorem dX5_isDigit_14 : decode cX5_isDigit 14 = .ok (.iconst 0, 1) := by decide +kernel
theorem dX5_isDigit_15 : decode cX5_isDigit 15 = .ok (.ireturn, 1) := by decide +kernel
theorem dX5_isTown_0 : decode cX5_isTown 0 = .ok (.iload_n 0, 1) := by decide +kernel
theorem dX5_isTown_1 : decode cX5_isTown 1 = .ok (.ifCond .eq 8, 3) := by decide +kernel
theorem dX5_isTown_4 : decode cX5_isTown 4 = .ok (.iload_n 0, 1) := by decide +kernel
theorem dX5_isTown_5 : decode cX5_isTown 5 = .ok (.iconst 1, 1) := by decide +kernel
theorem dX5_isTown_6 : decode cX5_isTown 6 = .ok (.if_icmp .ne 7, 3) := by decide +kernel
theorem dX5_isTown_9 : decode cX5_isTown 9 = .ok (.iconst 1, 1) := by decide +kernel
theorem dX5_isTown_10 : decode cX5_isTown 10 = .ok (.goto 4, 3) := by decide +kernel
theorem dX5_isTown_13 : decode cX5_isTown 13 = .ok (.iconst 0, 1) := by decide +kernel
theorem dX5_isTown_14 : decode cX5_isTown 14 = .ok (.ireturn, 1) := by decide +kernel
theorem dX5_isKind_0 : decode cX5_isKind 0 = .ok (.iload_n 0, 1) := by decide +kernel
theorem dX5_isKind_1 : decode cX5_isKind 1 = .ok (.ifCond .lt 13, 3) := by decide +kernel
theorem dX5_isKind_4 : decode cX5_isKind 4 = .ok (.iload_n 0, 1) := by decide +kernel
theorem dX5_isKind_5 : decode cX5_isKind 5 = .ok (.bipush 6, 2) := by decide +kernel
theorem dX5_isKind_7 : decode cX5_isKind 7 = .ok (.if_icmp .ge 7, 3) := by decide +kernel
theorem dX5_isKind_10 : decode cX5_isKind 10 = .ok (.iconst 1, 1) := by decide +kernel
theorem dX5_isKind_11 : decode cX5_isKind 11 = .ok (.goto 4, 3) := by decide +kernel
theorem dX5_isKind_14 : decode cX5_isKind 14 = .ok (.iconst 0, 1) := by decide +kernel
theorem dX5_isKind_15 : decode cX5_isKind 15 = .ok (.ireturn, 1) := by decide +kernel
theorem dX5_isSheet_0 : decode cX5_isSheet 0 = .ok (.iload_n 0, 1) := by decide +kernel
theorem dX5_isSheet_1 : decode cX5_isSheet 1 = .ok (.ifCond .lt 12, 3) := by decide +kernel
theorem dX5_isSheet_4 : decode cX5_isSheet 4 = .ok (.iload_n 0, 1) := by decide +kernel
theorem dX5_isSheet_5 : decode cX5_isSheet 5 = .ok (.iconst 4, 1) := by decide +kernel
theorem dX5_isSheet_6 : decode cX5_isSheet 6 = .ok (.if_icmp .ge 7, 3) := by decide +kernel
theorem dX5_isSheet_9 : decode cX5_isSheet 9 = .ok (.iconst 1, 1) := by decide +kernel
theorem dX5_isSheet_10 : decode cX5_isSheet 10 = .ok (.goto 4, 3) := by decide +kernel
theorem dX5_isSheet_13 : decode cX5_isSheet 13 = .ok (.iconst 0, 1) := by decide +kernel
theorem dX5_isSheet_14 : decode cX5_isSheet 14 = .ok (.ireturn, 1) := by decide +kernel
theorem dX5_isSort_0 : decode cX5_isSort 0 = .ok (.iload_n 0, 1) := by decide +kernel
theorem dX5_isSort_1 : decode cX5_isSort 1 = .ok (.ifCond .lt 12, 3) := by decide +kernel
theorem dX5_isSort_4 : decode cX5_isSort 4 = .ok (.iload_n 0, 1) := by decide +kernel
theorem dX5_isSort_5 : decode cX5_isSort 5 = .ok (.iconst 2, 1) := by decide +kernel
theorem dX5_isSort_6 : decode cX5_isSort 6 = .ok (.if_icmp .gt 7, 3) := by decide +kernel
theorem dX5_isSort_9 : decode cX5_isSort 9 = .ok (.iconst 1, 1) := by decide +kernel
theorem dX5_isSort_10 : decode cX5_isSort 10 = .ok (.goto 4, 3) := by decide +kernel
theorem dX5_isSort_13 : decode cX5_isSort 13 = .ok (.iconst 0, 1) := by decide +kernel
theorem dX5_isSort_14 : decode cX5_isSort 14 = .ok (.ireturn, 1) := by decide +kernel
theorem dX5_feed_0 : decode cX5_feed 0 = .ok (.iload_n 1, 1) := by decide +kernel
theorem dX5_feed_1 : decode cX5_feed 1 = .ok (.ifCond .lt 10, 3) := by decide +kernel
theorem dX5_feed_4 : decode cX5_feed 4 = .ok (.iload_n 1, 1) := by decide +kernel
theorem dX5_feed_5 : decode cX5_feed 5 = .ok (.sipush 255, 3) := by decide +kernel
theorem dX5_feed_8 : decode cX5_feed 8 = .ok (.if_icmp .le 6, 3) := by decide +kernel
theorem dX5_feed_11 : decode cX5_feed 11 = .ok (.bipush (-2), 2) := by decide +kernel
theorem dX5_feed_13 : decode cX5_feed 13 = .ok (.ireturn, 1) := by decide +kernel
theorem dX5_feed_14 : decode cX5_feed 14 = .ok (.aload_n 0, 1) := by decide +kernel
theorem dX5_feed_15 : decode cX5_feed 15 = .ok (.getfield 34, 3) := by decide +kernel
theorem dX5_feed_18 : decode cX5_feed 18 = .ok (.iload_n 1, 1) := by decide +kernel
theorem dX5_feed_19 : decode cX5_feed 19 = .ok (.invokevirtual 136, 3) := by decide +kernel
theorem dX5_feed_22 : decode cX5_feed 22 = .ok (.ifCond .eq 13, 3) := by decide +kernel
theorem dX5_feed_25 : decode cX5_feed 25 = .ok (.aload_n 0, 1) := by decide +kernel
theorem dX5_feed_26 : decode cX5_feed 26 = .ok (.getfield 34, 3) := by decide +kernel
theorem dX5_feed_29 : decode cX5_feed 29 = .ok (.getfield 139, 3) := by decide +kernel
theorem dX5_feed_32 : decode cX5_feed 32 = .ok (.goto 5, 3) := by decide +kernel
theorem dX5_feed_35 : decode cX5_feed 35 = .ok (.bipush (-4), 2) := by decide +kernel
theorem dX5_feed_37 : decode cX5_feed 37 = .ok (.ireturn, 1) := by decide +kernel
theorem dX5_text_0 : decode cX5_text 0 = .ok (.aload_n 0, 1) := by decide +kernel
theorem dX5_text_1 : decode cX5_text 1 = .ok (.getfield 44, 3) := by decide +kernel
theorem dX5_text_4 : decode cX5_text 4 = .ok (.bipush 6, 2) := by decide +kernel
theorem dX5_text_6 : decode cX5_text 6 = .ok (.if_icmp .lt 6, 3) := by decide +kernel
theorem dX5_text_9 : decode cX5_text 9 = .ok (.bipush (-4), 2) := by decide +kernel
theorem dX5_text_11 : decode cX5_text 11 = .ok (.ireturn, 1) := by decide +kernel
theorem dX5_text_12 : decode cX5_text 12 = .ok (.aload_n 0, 1) := by decide +kernel
theorem dX5_text_13 : decode cX5_text 13 = .ok (.getfield 34, 3) := by decide +kernel
theorem dX5_text_16 : decode cX5_text 16 = .ok (.aload_n 0, 1) := by decide +kernel
theorem dX5_text_17 : decode cX5_text 17 = .ok (.getfield 40, 3) := by decide +kernel
theorem dX5_text_20 : decode cX5_text 20 = .ok (.aload_n 0, 1) := by decide +kernel
theorem dX5_text_21 : decode cX5_text 21 = .ok (.getfield 44, 3) := by decide +kernel
theorem dX5_text_24 : decode cX5_text 24 = .ok (.aaload, 1) := by decide +kernel
theorem dX5_text_25 : decode cX5_text 25 = .ok (.invokevirtual 142, 3) := by decide +kernel
theorem dX5_text_28 : decode cX5_text 28 = .ok (.istore_n 1, 1) := by decide +kernel
theorem dX5_text_29 : decode cX5_text 29 = .ok (.aload_n 0, 1) := by decide +kernel
theorem dX5_text_30 : decode cX5_text 30 = .ok (.getfield 34, 3) := by decide +kernel
theorem dX5_text_33 : decode cX5_text 33 = .ok (.iconst 0, 1) := by decide +kernel
theorem dX5_text_34 : decode cX5_text 34 = .ok (.putfield 139, 3) := by decide +kernel
theorem dX5_text_37 : decode cX5_text 37 = .ok (.iload_n 1, 1) := by decide +kernel
theorem dX5_text_38 : decode cX5_text 38 = .ok (.ifCond .ne 14, 3) := by decide +kernel
theorem dX5_text_41 : decode cX5_text 41 = .ok (.bipush (-100), 2) := by decide +kernel
theorem dX5_text_43 : decode cX5_text 43 = .ok (.aload_n 0, 1) := by decide +kernel
theorem dX5_text_44 : decode cX5_text 44 = .ok (.getfield 34, 3) := by decide +kernel
theorem dX5_text_47 : decode cX5_text 47 = .ok (.getfield 146, 3) := by decide +kernel
theorem dX5_text_50 : decode cX5_text 50 = .ok (.isub, 1) := by decide +kernel
theorem dX5_text_51 : decode cX5_text 51 = .ok (.ireturn, 1) := by decide +kernel
theorem dX5_text_52 : decode cX5_text 52 = .ok (.aload_n 0, 1) := by decide +kernel
theorem dX5_text_53 : decode cX5_text 53 = .ok (.dup, 1) := by decide +kernel
theorem dX5_text_54 : decode cX5_text 54 = .ok (.getfield 44, 3) := by decide +kernel
theorem dX5_text_57 : decode cX5_text 57 = .ok (.iconst 1, 1) := by decide +kernel
theorem dX5_text_58 : decode cX5_text 58 = .ok (.iadd, 1) := by decide +kernel
theorem dX5_text_59 : decode cX5_text 59 = .ok (.putfield 44, 3) := by decide +kernel
theorem dX5_text_62 : decode cX5_text 62 = .ok (.aload_n 0, 1) := by decide +kernel
theorem dX5_text_63 : decode cX5_text 63 = .ok (.getfield 44, 3) := by decide +kernel
theorem dX5_text_66 : decode cX5_text 66 = .ok (.iconst 1, 1) := by decide +kernel
theorem dX5_text_67 : decode cX5_text 67 = .ok (.isub, 1) := by decide +kernel
theorem dX5_text_68 : decode cX5_text 68 = .ok (.ireturn, 1) := by decide +kernel
theorem dX5_force_0 : decode cX5_force 0 = .ok (.iload_n 1, 1) := by decide +kernel
theorem dX5_force_1 : decode cX5_force 1 = .ok (.ifCond .lt 11, 3) := by decide +kernel
theorem dX5_force_4 : decode cX5_force 4 = .ok (.iload_n 1, 1) := by decide +kernel
theorem dX5_force_5 : decode cX5_force 5 = .ok (.aload_n 0, 1) := by decide +kernel
theorem dX5_force_6 : decode cX5_force 6 = .ok (.getfield 44, 3) := by decide +kernel
theorem dX5_force_9 : decode cX5_force 9 = .ok (.if_icmp .lt 6, 3) := by decide +kernel
theorem dX5_force_12 : decode cX5_force 12 = .ok (.bipush (-2), 2) := by decide +kernel
theorem dX5_force_14 : decode cX5_force 14 = .ok (.ireturn, 1) := by decide +kernel
theorem dX5_force_15 : decode cX5_force 15 = .ok (.aload_n 0, 1) := by decide +kernel
theorem dX5_force_16 : decode cX5_force 16 = .ok (.getfield 47, 3) := by decide +kernel
theorem dX5_force_19 : decode cX5_force 19 = .ok (.istore_n 2, 1) := by decide +kernel
theorem dX5_force_20 : decode cX5_force 20 = .ok (.aload_n 0, 1) := by decide +kernel
theorem dX5_force_21 : decode cX5_force 21 = .ok (.iload_n 1, 1) := by decide +kernel
theorem dX5_force_22 : decode cX5_force 22 = .ok (.putfield 47, 3) := by decide +kernel
theorem dX5_force_25 : decode cX5_force 25 = .ok (.iload_n 2, 1) := by decide +kernel
theorem dX5_force_26 : decode cX5_force 26 = .ok (.ireturn, 1) := by decide +kernel
theorem dX5_textAt_0 : decode cX5_textAt 0 = .ok (.aload_n 0, 1) := by decide +kernel
theorem dX5_textAt_1 : decode cX5_textAt 1 = .ok (.getfield 40, 3) := by decide +kernel
theorem dX5_textAt_4 : decode cX5_textAt 4 = .ok (.iload_n 1, 1) := by decide +kernel
theorem dX5_textAt_5 : decode cX5_textAt 5 = .ok (.ifCond .lt 13, 3) := by decide +kernel
theorem dX5_textAt_8 : decode cX5_textAt 8 = .ok (.iload_n 1, 1) := by decide +kernel
theorem dX5_textAt_9 : decode cX5_textAt 9 = .ok (.bipush 6, 2) := by decide +kernel
theorem dX5_textAt_11 : decode cX5_textAt 11 = .ok (.if_icmp .ge 7, 3) := by decide +kernel
theorem dX5_textAt_14 : decode cX5_textAt 14 = .ok (.iload_n 1, 1) := by decide +kernel
theorem dX5_textAt_15 : decode cX5_textAt 15 = .ok (.goto 4, 3) := by decide +kernel
theorem dX5_textAt_18 : decode cX5_textAt 18 = .ok (.iconst 0, 1) := by decide +kernel
theorem dX5_textAt_19 : decode cX5_textAt 19 = .ok (.aaload, 1) := by decide +kernel
theorem dX5_textAt_20 : decode cX5_textAt 20 = .ok (.areturn, 1) := by decide +kernel
theorem dX5_has_0 : decode cX5_has 0 = .ok (.aload_n 0, 1) := by decide +kernel
theorem dX5_has_1 : decode cX5_has 1 = .ok (.iload_n 1, 1) := by decide +kernel
theorem dX5_has_2 : decode cX5_has 2 = .ok (.invokevirtual 105, 3) := by decide +kernel
theorem dX5_has_5 : decode cX5_has 5 = .ok (.ifCond .eq 10, 3) := by decide +kernel
theorem dX5_has_8 : decode cX5_has 8 = .ok (.iload_n 2, 1) := by decide +kernel
theorem dX5_has_9 : decode cX5_has 9 = .ok (.invokestatic 98, 3) := by decide +kernel
theorem dX5_has_12 : decode cX5_has 12 = .ok (.ifCond .ne 6, 3) := by decide +kernel
theorem dX5_has_15 : decode cX5_has 15 = .ok (.ldc 149, 2) := by decide +kernel
theorem dX5_has_17 : decode cX5_has 17 = .ok (.ireturn, 1) := by decide +kernel
theorem dX5_has_18 : decode cX5_has 18 = .ok (.aload_n 0, 1) := by decide +kernel
theorem dX5_has_19 : decode cX5_has 19 = .ok (.aload_n 0, 1) := by decide +kernel
theorem dX5_has_20 : decode cX5_has 20 = .ok (.getfield 19, 3) := by decide +kernel
theorem dX5_has_23 : decode cX5_has 23 = .ok (.iload_n 1, 1) := by decide +kernel
theorem dX5_has_24 : decode cX5_has 24 = .ok (.aaload, 1) := by decide +kernel
theorem dX5_has_25 : decode cX5_has 25 = .ok (.aload_n 0, 1) := by decide +kernel
theorem dX5_has_26 : decode cX5_has 26 = .ok (.aload_n 0, 1) := by decide +kernel
theorem dX5_has_27 : decode cX5_has 27 = .ok (.getfield 47, 3) := by decide +kernel
theorem dX5_has_30 : decode cX5_has 30 = .ok (.invokevirtual 150, 3) := by decide +kernel
theorem dX5_has_33 : decode cX5_has 33 = .ok (.aload_n 0, 1) := by decide +kernel
theorem dX5_has_34 : decode cX5_has 34 = .ok (.getfield 9, 3) := by decide +kernel
theorem dX5_has_37 : decode cX5_has 37 = .ok (.iload_n 2, 1) := by decide +kernel
theorem dX5_has_38 : decode cX5_has 38 = .ok (.aload_n 0, 1) := by decide +kernel
theorem dX5_has_39 : decode cX5_has 39 = .ok (.getfield 13, 3) := by decide +kernel
theorem dX5_has_42 : decode cX5_has 42 = .ok (.iload_n 2, 1) := by decide +kernel
theorem dX5_has_43 : decode cX5_has 43 = .ok (.invokestatic 130, 3) := by decide +kernel
theorem dX5_has_46 : decode cX5_has 46 = .ok (.aload_n 0, 1) := by decide +kernel
theorem dX5_has_47 : decode cX5_has 47 = .ok (.getfield 13, 3) := by decide +kernel
theorem dX5_has_50 : decode cX5_has 50 = .ok (.iload_n 2, 1) := by decide +kernel
theorem dX5_has_51 : decode cX5_has 51 = .ok (.invokestatic 127, 3) := by decide +kernel
theorem dX5_has_54 : decode cX5_has 54 = .ok (.invokevirtual 154, 3) := by decide +kernel
theorem dX5_has_57 : decode cX5_has 57 = .ok (.ireturn, 1) := by decide +kernel
theorem dX5_worth_0 : decode cX5_worth 0 = .ok (.iload_n 1, 1) := by decide +kernel
theorem dX5_worth_1 : decode cX5_worth 1 = .ok (.ifCond .lt 8, 3) := by decide +kernel
theorem dX5_worth_4 : decode cX5_worth 4 = .ok (.iload_n 1, 1) := by decide +kernel
theorem dX5_worth_5 : decode cX5_worth 5 = .ok (.iconst 2, 1) := by decide +kernel
theorem dX5_worth_6 : decode cX5_worth 6 = .ok (.if_icmp .le 6, 3) := by decide +kernel
theorem dX5_worth_9 : decode cX5_worth 9 = .ok (.ldc 158, 2) := by decide +kernel
theorem dX5_worth_11 : decode cX5_worth 11 = .ok (.ireturn, 1) := by decide +kernel
theorem dX5_worth_12 : decode cX5_worth 12 = .ok (.aload_n 0, 1) := by decide +kernel
theorem dX5_worth_13 : decode cX5_worth 13 = .ok (.iload_n 1, 1) := by decide +kernel
theorem dX5_worth_14 : decode cX5_worth 14 = .ok (.aload_n 0, 1) := by decide +kernel
theorem dX5_worth_15 : decode cX5_worth 15 = .ok (.getfield 9, 3) := by decide +kernel
theorem dX5_worth_18 : decode cX5_worth 18 = .ok (.aload_n 0, 1) := by decide +kernel
theorem dX5_worth_19 : decode cX5_worth 19 = .ok (.getfield 13, 3) := by decide +kernel
theorem dX5_worth_22 : decode cX5_worth 22 = .ok (.invokevirtual 159, 3) := by decide +kernel
theorem dX5_worth_25 : decode cX5_worth 25 = .ok (.ireturn, 1) := by decide +kernel
theorem dX5_share_0 : decode cX5_share 0 = .ok (.iload_n 1, 1) := by decide +kernel
theorem dX5_share_1 : decode cX5_share 1 = .ok (.tableswitch 63 0 3 #[31, 45, 50, 55], 31) := by decide +kernel
theorem dX5_share_32 : decode cX5_share 32 = .ok (.aload_n 0, 1) := by decide +kernel
theorem dX5_share_33 : decode cX5_share 33 = .ok (.invokevirtual 163, 3) := by decide +kernel
theorem dX5_share_36 : decode cX5_share 36 = .ok (.iconst (-1), 1) := by decide +kernel
theorem dX5_share_37 : decode cX5_share 37 = .ok (.if_icmp .ne 7, 3) := by decide +kernel
theorem dX5_share_40 : decode cX5_share 40 = .ok (.iconst 1, 1) := by decide +kernel
theorem dX5_share_41 : decode cX5_share 41 = .ok (.goto 4, 3) := by decide +kernel
theorem dX5_share_44 : decode cX5_share 44 = .ok (.iconst 0, 1) := by decide +kernel
theorem dX5_share_45 : decode cX5_share 45 = .ok (.ireturn, 1) := by decide +kernel
theorem dX5_share_46 : decode cX5_share 46 = .ok (.aload_n 0, 1) := by decide +kernel
theorem dX5_share_47 : decode cX5_share 47 = .ok (.invokevirtual 163, 3) := by decide +kernel
theorem dX5_share_50 : decode cX5_share 50 = .ok (.ireturn, 1) := by decide +kernel
theorem dX5_share_51 : decode cX5_share 51 = .ok (.aload_n 0, 1) := by decide +kernel
theorem dX5_share_52 : decode cX5_share 52 = .ok (.invokevirtual 167, 3) := by decide +kernel
theorem dX5_share_55 : decode cX5_share 55 = .ok (.ireturn, 1) := by decide +kernel
theorem dX5_share_56 : decode cX5_share 56 = .ok (.aload_n 0, 1) := by decide +kernel
theorem dX5_share_57 : decode cX5_share 57 = .ok (.getfield 13, 3) := by decide +kernel
theorem dX5_share_60 : decode cX5_share 60 = .ok (.invokestatic 170, 3) := by decide +kernel
theorem dX5_share_63 : decode cX5_share 63 = .ok (.ireturn, 1) := by decide +kernel
theorem dX5_share_64 : decode cX5_share 64 = .ok (.bipush (-2), 2) := by decide +kernel
theorem dX5_share_66 : decode cX5_share 66 = .ok (.ireturn, 1) := by decide +kernel
theorem dX5_mean_0 : decode cX5_mean 0 = .ok (.aload_n 0, 1) := by decide +kernel
theorem dX5_mean_1 : decode cX5_mean 1 = .ok (.iload_n 1, 1) := by decide +kernel
theorem dX5_mean_2 : decode cX5_mean 2 = .ok (.invokevirtual 105, 3) := by decide +kernel
theorem dX5_mean_5 : decode cX5_mean 5 = .ok (.ifCond .eq 12, 3) := by decide +kernel
theorem dX5_mean_8 : decode cX5_mean 8 = .ok (.iload_n 2, 1) := by decide +kernel
theorem dX5_mean_9 : decode cX5_mean 9 = .ok (.ifCond .lt 8, 3) := by decide +kernel
theorem dX5_mean_12 : decode cX5_mean 12 = .ok (.iload_n 2, 1) := by decide +kernel
theorem dX5_mean_13 : decode cX5_mean 13 = .ok (.iconst 1, 1) := by decide +kernel
theorem dX5_mean_14 : decode cX5_mean 14 = .ok (.if_icmp .le 7, 3) := by decide +kernel
theorem dX5_mean_17 : decode cX5_mean 17 = .ok (.ldc2_w 175, 3) := by decide +kernel
theorem dX5_mean_20 : decode cX5_mean 20 = .ok (.lreturn, 1) := by decide +kernel
theorem dX5_mean_21 : decode cX5_mean 21 = .ok (.aload_n 0, 1) := by decide +kernel
theorem dX5_mean_22 : decode cX5_mean 22 = .ok (.aload_n 0, 1) := by decide +kernel
theorem dX5_mean_23 : decode cX5_mean 23 = .ok (.getfield 19, 3) := by decide +kernel
theorem dX5_mean_26 : decode cX5_mean 26 = .ok (.iload_n 1, 1) := by decide +kernel
theorem dX5_mean_27 : decode cX5_mean 27 = .ok (.aaload, 1) := by decide +kernel
theorem dX5_mean_28 : decode cX5_mean 28 = .ok (.aload_n 0, 1) := by decide +kernel
theorem dX5_mean_29 : decode cX5_mean 29 = .ok (.getfield 9, 3) := by decide +kernel
theorem dX5_mean_32 : decode cX5_mean 32 = .ok (.aload_n 0, 1) := by decide +kernel
theorem dX5_mean_33 : decode cX5_mean 33 = .ok (.getfield 13, 3) := by decide +kernel
theorem dX5_mean_36 : decode cX5_mean 36 = .ok (.invokevirtual 177, 3) := by decide +kernel
theorem dX5_mean_39 : decode cX5_mean 39 = .ok (.bipush 30, 2) := by decide +kernel
theorem dX5_mean_41 : decode cX5_mean 41 = .ok (.iload_n 2, 1) := by decide +kernel
theorem dX5_mean_42 : decode cX5_mean 42 = .ok (.invokestatic 181, 3) := by decide +kernel
theorem dX5_mean_45 : decode cX5_mean 45 = .ok (.lreturn, 1) := by decide +kernel
theorem dX5_townOf_0 : decode cX5_townOf 0 = .ok (.iload_n 0, 1) := by decide +kernel
theorem dX5_townOf_1 : decode cX5_townOf 1 = .ok (.iload_n 1, 1) := by decide +kernel
theorem dX5_townOf_2 : decode cX5_townOf 2 = .ok (.iushr, 1) := by decide +kernel
theorem dX5_townOf_3 : decode cX5_townOf 3 = .ok (.iconst 1, 1) := by decide +kernel
theorem dX5_townOf_4 : decode cX5_townOf 4 = .ok (.iand, 1) := by decide +kernel
theorem dX5_townOf_5 : decode cX5_townOf 5 = .ok (.ireturn, 1) := by decide +kernel
theorem dX5_runBehind_0 : decode cX5_runBehind 0 = .ok (.iload_n 1, 1) := by decide +kernel
theorem dX5_runBehind_1 : decode cX5_runBehind 1 = .ok (.ifCond .le 22, 3) := by decide +kernel
theorem dX5_runBehind_4 : decode cX5_runBehind 4 = .ok (.iload_n 0, 1) := by decide +kernel
theorem dX5_runBehind_5 : decode cX5_runBehind 5 = .ok (.iload_n 1, 1) := by decide +kernel
theorem dX5_runBehind_6 : decode cX5_runBehind 6 = .ok (.invokestatic 130, 3) := by decide +kernel
theorem dX5_runBehind_9 : decode cX5_runBehind 9 = .ok (.iload_n 0, 1) := by decide +kernel
theorem dX5_runBehind_10 : decode cX5_runBehind 10 = .ok (.iload_n 1, 1) := by decide +kernel
theorem dX5_runBehind_11 : decode cX5_runBehind 11 = .ok (.iconst 1, 1) := by decide +kernel
theorem dX5_runBehind_12 : decode cX5_runBehind 12 = .ok (.isub, 1) := by decide +kernel
theorem dX5_runBehind_13 : decode cX5_runBehind 13 = .ok (.invokestatic 130, 3) := by decide +kernel
theorem dX5_runBehind_16 : decode cX5_runBehind 16 = .ok (.if_icmp .ne 7, 3) := by decide +kernel
theorem dX5_runBehind_19 : decode cX5_runBehind 19 = .ok (.iload_n 2, 1) := by decide +kernel
theorem dX5_runBehind_20 : decode cX5_runBehind 20 = .ok (.iconst 1, 1) := by decide +kernel
theorem dX5_runBehind_21 : decode cX5_runBehind 21 = .ok (.iadd, 1) := by decide +kernel
theorem dX5_runBehind_22 : decode cX5_runBehind 22 = .ok (.ireturn, 1) := by decide +kernel
theorem dX5_runBehind_23 : decode cX5_runBehind 23 = .ok (.iconst 1, 1) := by decide +kernel
theorem dX5_runBehind_24 : decode cX5_runBehind 24 = .ok (.ireturn, 1) := by decide +kernel
theorem dX5_runOf_0 : decode cX5_runOf 0 = .ok (.iconst 0, 1) := by decide +kernel
theorem dX5_runOf_1 : decode cX5_runOf 1 = .ok (.istore_n 2, 1) := by decide +kernel
theorem dX5_runOf_2 : decode cX5_runOf 2 = .ok (.iconst 0, 1) := by decide +kernel
theorem dX5_runOf_3 : decode cX5_runOf 3 = .ok (.istore_n 3, 1) := by decide +kernel
theorem dX5_runOf_4 : decode cX5_runOf 4 = .ok (.iload_n 3, 1) := by decide +kernel
theorem dX5_runOf_5 : decode cX5_runOf 5 = .ok (.iload_n 1, 1) := by decide +kernel
theorem dX5_runOf_6 : decode cX5_runOf 6 = .ok (.if_icmp .gt 22, 3) := by decide +kernel
theorem dX5_runOf_9 : decode cX5_runOf 9 = .ok (.iload_n 3, 1) := by decide +kernel
theorem dX5_runOf_10 : decode cX5_runOf 10 = .ok (.bipush 30, 2) := by decide +kernel
theorem dX5_runOf_12 : decode cX5_runOf 12 = .ok (.if_icmp .ge 16, 3) := by decide +kernel
theorem dX5_runOf_15 : decode cX5_runOf 15 = .ok (.iload_n 0, 1) := by decide +kernel
theorem dX5_runOf_16 : decode cX5_runOf 16 = .ok (.iload_n 3, 1) := by decide +kernel
theorem dX5_runOf_17 : decode cX5_runOf 17 = .ok (.iload_n 2, 1) := by decide +kernel
theorem dX5_runOf_18 : decode cX5_runOf 18 = .ok (.invokestatic 185, 3) := by decide +kernel
theorem dX5_runOf_21 : decode cX5_runOf 21 = .ok (.istore_n 2, 1) := by decide +kernel
theorem dX5_runOf_22 : decode cX5_runOf 22 = .ok (.iinc 3 1, 3) := by decide +kernel
theorem dX5_runOf_25 : decode cX5_runOf 25 = .ok (.goto (-21), 3) := by decide +kernel
theorem dX5_runOf_28 : decode cX5_runOf 28 = .ok (.iload_n 2, 1) := by decide +kernel
theorem dX5_runOf_29 : decode cX5_runOf 29 = .ok (.ireturn, 1) := by decide +kernel
theorem dX5_firstTooLong_0 : decode cX5_firstTooLong 0 = .ok (.iconst 0, 1) := by decide +kernel
theorem dX5_firstTooLong_1 : decode cX5_firstTooLong 1 = .ok (.istore_n 1, 1) := by decide +kernel
theorem dX5_firstTooLong_2 : decode cX5_firstTooLong 2 = .ok (.iconst 0, 1) := by decide +kernel
theorem dX5_firstTooLong_3 : decode cX5_firstTooLong 3 = .ok (.istore_n 2, 1) := by decide +kernel
theorem dX5_firstTooLong_4 : decode cX5_firstTooLong 4 = .ok (.iload_n 2, 1) := by decide +kernel
theorem dX5_firstTooLong_5 : decode cX5_firstTooLong 5 = .ok (.bipush 30, 2) := by decide +kernel
theorem dX5_firstTooLong_7 : decode cX5_firstTooLong 7 = .ok (.if_icmp .ge 38, 3) := by decide +kernel
theorem dX5_firstTooLong_10 : decode cX5_firstTooLong 10 = .ok (.aload_n 0, 1) := by decide +kernel
theorem dX5_firstTooLong_11 : decode cX5_firstTooLong 11 = .ok (.getfield 13, 3) := by decide +kernel
theorem dX5_firstTooLong_14 : decode cX5_firstTooLong 14 = .ok (.iload_n 2, 1) := by decide +kernel
theorem dX5_firstTooLong_15 : decode cX5_firstTooLong 15 = .ok (.iload_n 1, 1) := by decide +kernel
theorem dX5_firstTooLong_16 : decode cX5_firstTooLong 16 = .ok (.invokestatic 185, 3) := by decide +kernel
theorem dX5_firstTooLong_19 : decode cX5_firstTooLong 19 = .ok (.istore_n 1, 1) := by decide +kernel
theorem dX5_firstTooLong_20 : decode cX5_firstTooLong 20 = .ok (.iload_n 1, 1) := by decide +kernel
theorem dX5_firstTooLong_21 : decode cX5_firstTooLong 21 = .ok (.aload_n 0, 1) := by decide +kernel
theorem dX5_firstTooLong_22 : decode cX5_firstTooLong 22 = .ok (.iload_n 2, 1) := by decide +kernel
theorem dX5_firstTooLong_23 : decode cX5_firstTooLong 23 = .ok (.aload_n 0, 1) := by decide +kernel
theorem dX5_firstTooLong_24 : decode cX5_firstTooLong 24 = .ok (.getfield 13, 3) := by decide +kernel
theorem dX5_firstTooLong_27 : decode cX5_firstTooLong 27 = .ok (.iload_n 2, 1) := by decide +kernel
theorem dX5_firstTooLong_28 : decode cX5_firstTooLong 28 = .ok (.invokestatic 130, 3) := by decide +kernel
theorem dX5_firstTooLong_31 : decode cX5_firstTooLong 31 = .ok (.invokevirtual 133, 3) := by decide +kernel
theorem dX5_firstTooLong_34 : decode cX5_firstTooLong 34 = .ok (.if_icmp .le 5, 3) := by decide +kernel
theorem dX5_firstTooLong_37 : decode cX5_firstTooLong 37 = .ok (.iload_n 2, 1) := by decide +kernel
theorem dX5_firstTooLong_38 : decode cX5_firstTooLong 38 = .ok (.ireturn, 1) := by decide +kernel
theorem dX5_firstTooLong_39 : decode cX5_firstTooLong 39 = .ok (.iinc 2 1, 3) := by decide +kernel
theorem dX5_firstTooLong_42 : decode cX5_firstTooLong 42 = .ok (.goto (-38), 3) := by decide +kernel
theorem dX5_firstTooLong_45 : decode cX5_firstTooLong 45 = .ok (.iconst (-1), 1) := by decide +kernel
theorem dX5_firstTooLong_46 : decode cX5_firstTooLong 46 = .ok (.ireturn, 1) := by decide +kernel
theorem dX5_longest_0 : decode cX5_longest 0 = .ok (.iconst 0, 1) := by decide +kernel
theorem dX5_longest_1 : decode cX5_longest 1 = .ok (.istore_n 1, 1) := by decide +kernel
theorem dX5_longest_2 : decode cX5_longest 2 = .ok (.iconst 0, 1) := by decide +kernel
theorem dX5_longest_3 : decode cX5_longest 3 = .ok (.istore_n 2, 1) := by decide +kernel
theorem dX5_longest_4 : decode cX5_longest 4 = .ok (.iconst 0, 1) := by decide +kernel
theorem dX5_longest_5 : decode cX5_longest 5 = .ok (.istore_n 3, 1) := by decide +kernel
theorem dX5_longest_6 : decode cX5_longest 6 = .ok (.iload_n 3, 1) := by decide +kernel
theorem dX5_longest_7 : decode cX5_longest 7 = .ok (.bipush 30, 2) := by decide +kernel
theorem dX5_longest_9 : decode cX5_longest 9 = .ok (.if_icmp .ge 25, 3) := by decide +kernel
theorem dX5_longest_12 : decode cX5_longest 12 = .ok (.aload_n 0, 1) := by decide +kernel
theorem dX5_longest_13 : decode cX5_longest 13 = .ok (.getfield 13, 3) := by decide +kernel
theorem dX5_longest_16 : decode cX5_longest 16 = .ok (.iload_n 3, 1) := by decide +kernel
theorem dX5_longest_17 : decode cX5_longest 17 = .ok (.iload_n 1, 1) := by decide +kernel
theorem dX5_longest_18 : decode cX5_longest 18 = .ok (.invokestatic 185, 3) := by decide +kernel
theorem dX5_longest_21 : decode cX5_longest 21 = .ok (.istore_n 1, 1) := by decide +kernel
theorem dX5_longest_22 : decode cX5_longest 22 = .ok (.iload_n 2, 1) := by decide +kernel
theorem dX5_longest_23 : decode cX5_longest 23 = .ok (.iload_n 1, 1) := by decide +kernel
theorem dX5_longest_24 : decode cX5_longest 24 = .ok (.invokestatic 189, 3) := by decide +kernel
theorem dX5_longest_27 : decode cX5_longest 27 = .ok (.istore_n 2, 1) := by decide +kernel
theorem dX5_longest_28 : decode cX5_longest 28 = .ok (.iinc 3 1, 3) := by decide +kernel
theorem dX5_longest_31 : decode cX5_longest 31 = .ok (.goto (-25), 3) := by decide +kernel
theorem dX5_longest_34 : decode cX5_longest 34 = .ok (.iload_n 2, 1) := by decide +kernel
theorem dX5_longest_35 : decode cX5_longest 35 = .ok (.ireturn, 1) := by decide +kernel
theorem dX5_mostOf_0 : decode cX5_mostOf 0 = .ok (.aload_n 0, 1) := by decide +kernel
theorem dX5_mostOf_1 : decode cX5_mostOf 1 = .ok (.getfield 63, 3) := by decide +kernel
theorem dX5_mostOf_4 : decode cX5_mostOf 4 = .ok (.iconst 0, 1) := by decide +kernel
theorem dX5_mostOf_5 : decode cX5_mostOf 5 = .ok (.aload_n 0, 1) := by decide +kernel
theorem dX5_mostOf_6 : decode cX5_mostOf 6 = .ok (.getfield 9, 3) := by decide +kernel
theorem dX5_mostOf_9 : decode cX5_mostOf 9 = .ok (.iload_n 1, 1) := by decide +kernel
theorem dX5_mostOf_10 : decode cX5_mostOf 10 = .ok (.iaload, 1) := by decide +kernel
theorem dX5_mostOf_11 : decode cX5_mostOf 11 = .ok (.iastore, 1) := by decide +kernel
theorem dX5_mostOf_12 : decode cX5_mostOf 12 = .ok (.aload_n 0, 1) := by decide +kernel
theorem dX5_mostOf_13 : decode cX5_mostOf 13 = .ok (.getfield 63, 3) := by decide +kernel
theorem dX5_mostOf_16 : decode cX5_mostOf 16 = .ok (.iconst 1, 1) := by decide +kernel
theorem dX5_mostOf_17 : decode cX5_mostOf 17 = .ok (.iload_n 1, 1) := by decide +kernel
theorem dX5_mostOf_18 : decode cX5_mostOf 18 = .ok (.iastore, 1) := by decide +kernel
theorem dX5_mostOf_19 : decode cX5_mostOf 19 = .ok (.aload_n 0, 1) := by decide +kernel
theorem dX5_mostOf_20 : decode cX5_mostOf 20 = .ok (.getfield 63, 3) := by decide +kernel
theorem dX5_mostOf_23 : decode cX5_mostOf 23 = .ok (.iconst 2, 1) := by decide +kernel
theorem dX5_mostOf_24 : decode cX5_mostOf 24 = .ok (.iconst 0, 1) := by decide +kernel
theorem dX5_mostOf_25 : decode cX5_mostOf 25 = .ok (.iastore, 1) := by decide +kernel
theorem dX5_mostOf_26 : decode cX5_mostOf 26 = .ok (.aload_n 0, 1) := by decide +kernel
theorem dX5_mostOf_27 : decode cX5_mostOf 27 = .ok (.getfield 63, 3) := by decide +kernel
theorem dX5_mostOf_30 : decode cX5_mostOf 30 = .ok (.iconst 3, 1) := by decide +kernel
theorem dX5_mostOf_31 : decode cX5_mostOf 31 = .ok (.iconst 0, 1) := by decide +kernel
theorem dX5_mostOf_32 : decode cX5_mostOf 32 = .ok (.iastore, 1) := by decide +kernel
theorem dX5_mostOf_33 : decode cX5_mostOf 33 = .ok (.aload_n 0, 1) := by decide +kernel
theorem dX5_mostOf_34 : decode cX5_mostOf 34 = .ok (.getfield 63, 3) := by decide +kernel
theorem dX5_mostOf_37 : decode cX5_mostOf 37 = .ok (.iconst 4, 1) := by decide +kernel
theorem dX5_mostOf_38 : decode cX5_mostOf 38 = .ok (.iload_n 2, 1) := by decide +kernel
theorem dX5_mostOf_39 : decode cX5_mostOf 39 = .ok (.iastore, 1) := by decide +kernel
theorem dX5_mostOf_40 : decode cX5_mostOf 40 = .ok (.aload_n 0, 1) := by decide +kernel
theorem dX5_mostOf_41 : decode cX5_mostOf 41 = .ok (.getfield 63, 3) := by decide +kernel
theorem dX5_mostOf_44 : decode cX5_mostOf 44 = .ok (.iconst 5, 1) := by decide +kernel
theorem dX5_mostOf_45 : decode cX5_mostOf 45 = .ok (.aload_n 0, 1) := by decide +kernel
theorem dX5_mostOf_46 : decode cX5_mostOf 46 = .ok (.getfield 23, 3) := by decide +kernel
theorem dX5_mostOf_49 : decode cX5_mostOf 49 = .ok (.iastore, 1) := by decide +kernel
theorem dX5_mostOf_50 : decode cX5_mostOf 50 = .ok (.aload_n 0, 1) := by decide +kernel
theorem dX5_mostOf_51 : decode cX5_mostOf 51 = .ok (.aload_n 0, 1) := by decide +kernel
theorem dX5_mostOf_52 : decode cX5_mostOf 52 = .ok (.getfield 47, 3) := by decide +kernel
theorem dX5_mostOf_55 : decode cX5_mostOf 55 = .ok (.invokevirtual 150, 3) := by decide +kernel
theorem dX5_mostOf_58 : decode cX5_mostOf 58 = .ok (.iconst 2, 1) := by decide +kernel
theorem dX5_mostOf_59 : decode cX5_mostOf 59 = .ok (.aload_n 0, 1) := by decide +kernel
theorem dX5_mostOf_60 : decode cX5_mostOf 60 = .ok (.getfield 63, 3) := by decide +kernel
theorem dX5_mostOf_63 : decode cX5_mostOf 63 = .ok (.aload_n 0, 1) := by decide +kernel
theorem dX5_mostOf_64 : decode cX5_mostOf 64 = .ok (.getfield 66, 3) := by decide +kernel
theorem dX5_mostOf_67 : decode cX5_mostOf 67 = .ok (.invokevirtual 194, 3) := by decide +kernel
theorem dX5_mostOf_70 : decode cX5_mostOf 70 = .ok (.iconst 1, 1) := by decide +kernel
theorem dX5_mostOf_71 : decode cX5_mostOf 71 = .ok (.bipush 30, 2) := by decide +kernel
theorem dX5_mostOf_73 : decode cX5_mostOf 73 = .ok (.invokestatic 198, 3) := by decide +kernel
theorem dX5_mostOf_76 : decode cX5_mostOf 76 = .ok (.ireturn, 1) := by decide +kernel
theorem dX5_hasAt_0 : decode cX5_hasAt 0 = .ok (.iload 4, 2) := by decide +kernel
theorem dX5_hasAt_2 : decode cX5_hasAt 2 = .ok (.ifCond .lt 17, 3) := by decide +kernel
theorem dX5_hasAt_5 : decode cX5_hasAt 5 = .ok (.iload 4, 2) := by decide +kernel
theorem dX5_hasAt_7 : decode cX5_hasAt 7 = .ok (.aload_n 3, 1) := by decide +kernel
theorem dX5_hasAt_8 : decode cX5_hasAt 8 = .ok (.arraylength, 1) := by decide +kernel
theorem dX5_hasAt_9 : decode cX5_hasAt 9 = .ok (.if_icmp .ge 10, 3) := by decide +kernel
theorem dX5_hasAt_12 : decode cX5_hasAt 12 = .ok (.aload_n 3, 1) := by decide +kernel
theorem dX5_hasAt_13 : decode cX5_hasAt 13 = .ok (.iload 4, 2) := by decide +kernel
theorem dX5_hasAt_15 : decode cX5_hasAt 15 = .ok (.iaload, 1) := by decide +kernel
theorem dX5_hasAt_16 : decode cX5_hasAt 16 = .ok (.goto 4, 3) := by decide +kernel
theorem dX5_hasAt_19 : decode cX5_hasAt 19 = .ok (.iconst 0, 1) := by decide +kernel
theorem dX5_hasAt_20 : decode cX5_hasAt 20 = .ok (.istore 7, 2) := by decide +kernel
theorem dX5_hasAt_22 : decode cX5_hasAt 22 = .ok (.aload_n 0, 1) := by decide +kernel
theorem dX5_hasAt_23 : decode cX5_hasAt 23 = .ok (.getfield 63, 3) := by decide +kernel
theorem dX5_hasAt_26 : decode cX5_hasAt 26 = .ok (.iconst 0, 1) := by decide +kernel
theorem dX5_hasAt_27 : decode cX5_hasAt 27 = .ok (.iload 7, 2) := by decide +kernel
theorem dX5_hasAt_29 : decode cX5_hasAt 29 = .ok (.iastore, 1) := by decide +kernel
theorem dX5_hasAt_30 : decode cX5_hasAt 30 = .ok (.aload_n 0, 1) := by decide +kernel
theorem dX5_hasAt_31 : decode cX5_hasAt 31 = .ok (.getfield 63, 3) := by decide +kernel
theorem dX5_hasAt_34 : decode cX5_hasAt 34 = .ok (.iconst 1, 1) := by decide +kernel
theorem dX5_hasAt_35 : decode cX5_hasAt 35 = .ok (.iload 4, 2) := by decide +kernel
theorem dX5_hasAt_37 : decode cX5_hasAt 37 = .ok (.iastore, 1) := by decide +kernel
theorem dX5_hasAt_38 : decode cX5_hasAt 38 = .ok (.aload_n 0, 1) := by decide +kernel
theorem dX5_hasAt_39 : decode cX5_hasAt 39 = .ok (.getfield 63, 3) := by decide +kernel
theorem dX5_hasAt_42 : decode cX5_hasAt 42 = .ok (.iconst 2, 1) := by decide +kernel
theorem dX5_hasAt_43 : decode cX5_hasAt 43 = .ok (.aload_n 1, 1) := by decide +kernel
theorem dX5_hasAt_44 : decode cX5_hasAt 44 = .ok (.getfield 108, 3) := by decide +kernel
theorem dX5_hasAt_47 : decode cX5_hasAt 47 = .ok (.iastore, 1) := by decide +kernel
theorem dX5_hasAt_48 : decode cX5_hasAt 48 = .ok (.aload_n 0, 1) := by decide +kernel
theorem dX5_hasAt_49 : decode cX5_hasAt 49 = .ok (.getfield 63, 3) := by decide +kernel
theorem dX5_hasAt_52 : decode cX5_hasAt 52 = .ok (.iconst 3, 1) := by decide +kernel
theorem dX5_hasAt_53 : decode cX5_hasAt 53 = .ok (.iload 6, 2) := by decide +kernel
theorem dX5_hasAt_55 : decode cX5_hasAt 55 = .ok (.iastore, 1) := by decide +kernel
theorem dX5_hasAt_56 : decode cX5_hasAt 56 = .ok (.aload_n 0, 1) := by decide +kernel
theorem dX5_hasAt_57 : decode cX5_hasAt 57 = .ok (.getfield 63, 3) := by decide +kernel
theorem dX5_hasAt_60 : decode cX5_hasAt 60 = .ok (.iconst 4, 1) := by decide +kernel
theorem dX5_hasAt_61 : decode cX5_hasAt 61 = .ok (.iload 5, 2) := by decide +kernel
theorem dX5_hasAt_63 : decode cX5_hasAt 63 = .ok (.iastore, 1) := by decide +kernel
theorem dX5_hasAt_64 : decode cX5_hasAt 64 = .ok (.aload_n 0, 1) := by decide +kernel
theorem dX5_hasAt_65 : decode cX5_hasAt 65 = .ok (.getfield 63, 3) := by decide +kernel
theorem dX5_hasAt_68 : decode cX5_hasAt 68 = .ok (.iconst 5, 1) := by decide +kernel
theorem dX5_hasAt_69 : decode cX5_hasAt 69 = .ok (.aload_n 0, 1) := by decide +kernel
theorem dX5_hasAt_70 : decode cX5_hasAt 70 = .ok (.getfield 23, 3) := by decide +kernel
theorem dX5_hasAt_73 : decode cX5_hasAt 73 = .ok (.iastore, 1) := by decide +kernel
theorem dX5_hasAt_74 : decode cX5_hasAt 74 = .ok (.aload_n 1, 1) := by decide +kernel
theorem dX5_hasAt_75 : decode cX5_hasAt 75 = .ok (.getfield 114, 3) := by decide +kernel
theorem dX5_hasAt_78 : decode cX5_hasAt 78 = .ok (.iload 5, 2) := by decide +kernel
theorem dX5_hasAt_80 : decode cX5_hasAt 80 = .ok (.if_icmp .ne 7, 3) := by decide +kernel
theorem dX5_hasAt_83 : decode cX5_hasAt 83 = .ok (.iconst 1, 1) := by decide +kernel
theorem dX5_hasAt_84 : decode cX5_hasAt 84 = .ok (.goto 4, 3) := by decide +kernel
theorem dX5_hasAt_87 : decode cX5_hasAt 87 = .ok (.iconst 0, 1) := by decide +kernel
theorem dX5_hasAt_88 : decode cX5_hasAt 88 = .ok (.istore 8, 2) := by decide +kernel
theorem dX5_hasAt_90 : decode cX5_hasAt 90 = .ok (.aload_n 2, 1) := by decide +kernel
theorem dX5_hasAt_91 : decode cX5_hasAt 91 = .ok (.iload 8, 2) := by decide +kernel
theorem dX5_hasAt_93 : decode cX5_hasAt 93 = .ok (.ifCond .eq 7, 3) := by decide +kernel
theorem dX5_hasAt_96 : decode cX5_hasAt 96 = .ok (.iconst 0, 1) := by decide +kernel
theorem dX5_hasAt_97 : decode cX5_hasAt 97 = .ok (.goto 4, 3) := by decide +kernel
theorem dX5_hasAt_100 : decode cX5_hasAt 100 = .ok (.iconst 1, 1) := by decide +kernel
theorem dX5_hasAt_101 : decode cX5_hasAt 101 = .ok (.aload_n 0, 1) := by decide +kernel
theorem dX5_hasAt_102 : decode cX5_hasAt 102 = .ok (.getfield 63, 3) := by decide +kernel
theorem dX5_hasAt_105 : decode cX5_hasAt 105 = .ok (.aload_n 0, 1) := by decide +kernel
theorem dX5_hasAt_106 : decode cX5_hasAt 106 = .ok (.getfield 66, 3) := by decide +kernel
theorem dX5_hasAt_109 : decode cX5_hasAt 109 = .ok (.invokevirtual 194, 3) := by decide +kernel
theorem dX5_hasAt_112 : decode cX5_hasAt 112 = .ok (.bipush (-99), 2) := by decide +kernel
theorem dX5_hasAt_114 : decode cX5_hasAt 114 = .ok (.bipush 99, 2) := by decide +kernel
theorem dX5_hasAt_116 : decode cX5_hasAt 116 = .ok (.invokestatic 198, 3) := by decide +kernel
theorem dX5_hasAt_119 : decode cX5_hasAt 119 = .ok (.istore 9, 2) := by decide +kernel
theorem dX5_hasAt_121 : decode cX5_hasAt 121 = .ok (.iload 8, 2) := by decide +kernel
theorem dX5_hasAt_123 : decode cX5_hasAt 123 = .ok (.ifCond .eq 16, 3) := by decide +kernel
theorem dX5_hasAt_126 : decode cX5_hasAt 126 = .ok (.aload_n 1, 1) := by decide +kernel
theorem dX5_hasAt_127 : decode cX5_hasAt 127 = .ok (.iload 9, 2) := by decide +kernel
theorem dX5_hasAt_129 : decode cX5_hasAt 129 = .ok (.iload 7, 2) := by decide +kernel
theorem dX5_hasAt_131 : decode cX5_hasAt 131 = .ok (.iload 6, 2) := by decide +kernel
theorem dX5_hasAt_133 : decode cX5_hasAt 133 = .ok (.invokevirtual 201, 3) := by decide +kernel
theorem dX5_hasAt_136 : decode cX5_hasAt 136 = .ok (.goto 9, 3) := by decide +kernel
theorem dX5_hasAt_139 : decode cX5_hasAt 139 = .ok (.aload_n 1, 1) := by decide +kernel
theorem dX5_hasAt_140 : decode cX5_hasAt 140 = .ok (.iload 9, 2) := by decide +kernel
theorem dX5_hasAt_142 : decode cX5_hasAt 142 = .ok (.invokevirtual 204, 3) := by decide +kernel
theorem dX5_hasAt_145 : decode cX5_hasAt 145 = .ok (.ireturn, 1) := by decide +kernel
theorem dX5_sumOf_0 : decode cX5_sumOf 0 = .ok (.aload_n 0, 1) := by decide +kernel
theorem dX5_sumOf_1 : decode cX5_sumOf 1 = .ok (.aload_n 0, 1) := by decide +kernel
theorem dX5_sumOf_2 : decode cX5_sumOf 2 = .ok (.getfield 47, 3) := by decide +kernel
theorem dX5_sumOf_5 : decode cX5_sumOf 5 = .ok (.invokevirtual 150, 3) := by decide +kernel
theorem dX5_sumOf_8 : decode cX5_sumOf 8 = .ok (.astore 4, 2) := by decide +kernel
theorem dX5_sumOf_10 : decode cX5_sumOf 10 = .ok (.iconst 0, 1) := by decide +kernel
theorem dX5_sumOf_11 : decode cX5_sumOf 11 = .ok (.istore 5, 2) := by decide +kernel
theorem dX5_sumOf_13 : decode cX5_sumOf 13 = .ok (.iconst 0, 1) := by decide +kernel
theorem dX5_sumOf_14 : decode cX5_sumOf 14 = .ok (.istore 6, 2) := by decide +kernel
theorem dX5_sumOf_16 : decode cX5_sumOf 16 = .ok (.iconst 0, 1) := by decide +kernel
theorem dX5_sumOf_17 : decode cX5_sumOf 17 = .ok (.istore 7, 2) := by decide +kernel
theorem dX5_sumOf_19 : decode cX5_sumOf 19 = .ok (.iload 7, 2) := by decide +kernel
theorem dX5_sumOf_21 : decode cX5_sumOf 21 = .ok (.bipush 30, 2) := by decide +kernel
theorem dX5_sumOf_23 : decode cX5_sumOf 23 = .ok (.if_icmp .ge 42, 3) := by decide +kernel
theorem dX5_sumOf_26 : decode cX5_sumOf 26 = .ok (.iload_n 3, 1) := by decide +kernel
theorem dX5_sumOf_27 : decode cX5_sumOf 27 = .ok (.iload 7, 2) := by decide +kernel
theorem dX5_sumOf_29 : decode cX5_sumOf 29 = .ok (.iload 6, 2) := by decide +kernel
theorem dX5_sumOf_31 : decode cX5_sumOf 31 = .ok (.invokestatic 185, 3) := by decide +kernel
theorem dX5_sumOf_34 : decode cX5_sumOf 34 = .ok (.istore 6, 2) := by decide +kernel
theorem dX5_sumOf_36 : decode cX5_sumOf 36 = .ok (.iload 5, 2) := by decide +kernel
theorem dX5_sumOf_38 : decode cX5_sumOf 38 = .ok (.aload_n 0, 1) := by decide +kernel
theorem dX5_sumOf_39 : decode cX5_sumOf 39 = .ok (.aload_n 1, 1) := by decide +kernel
theorem dX5_sumOf_40 : decode cX5_sumOf 40 = .ok (.aload 4, 2) := by decide +kernel
theorem dX5_sumOf_42 : decode cX5_sumOf 42 = .ok (.aload_n 2, 1) := by decide +kernel
theorem dX5_sumOf_43 : decode cX5_sumOf 43 = .ok (.iload 7, 2) := by decide +kernel
theorem dX5_sumOf_45 : decode cX5_sumOf 45 = .ok (.iload_n 3, 1) := by decide +kernel
theorem dX5_sumOf_46 : decode cX5_sumOf 46 = .ok (.iload 7, 2) := by decide +kernel
theorem dX5_sumOf_48 : decode cX5_sumOf 48 = .ok (.invokestatic 130, 3) := by decide +kernel
theorem dX5_sumOf_51 : decode cX5_sumOf 51 = .ok (.iload 6, 2) := by decide +kernel
theorem dX5_sumOf_53 : decode cX5_sumOf 53 = .ok (.invokevirtual 154, 3) := by decide +kernel
theorem dX5_sumOf_56 : decode cX5_sumOf 56 = .ok (.iadd, 1) := by decide +kernel
theorem dX5_sumOf_57 : decode cX5_sumOf 57 = .ok (.istore 5, 2) := by decide +kernel
theorem dX5_sumOf_59 : decode cX5_sumOf 59 = .ok (.iinc 7 1, 3) := by decide +kernel
theorem dX5_sumOf_62 : decode cX5_sumOf 62 = .ok (.goto (-43), 3) := by decide +kernel
theorem dX5_sumOf_65 : decode cX5_sumOf 65 = .ok (.iload 5, 2) := by decide +kernel
theorem dX5_sumOf_67 : decode cX5_sumOf 67 = .ok (.ireturn, 1) := by decide +kernel
theorem dX5_worthOf_0 : decode cX5_worthOf 0 = .ok (.iconst 0, 1) := by decide +kernel
theorem dX5_worthOf_1 : decode cX5_worthOf 1 = .ok (.istore 4, 2) := by decide +kernel
theorem dX5_worthOf_3 : decode cX5_worthOf 3 = .ok (.iconst 0, 1) := by decide +kernel
theorem dX5_worthOf_4 : decode cX5_worthOf 4 = .ok (.istore 5, 2) := by decide +kernel
theorem dX5_worthOf_6 : decode cX5_worthOf 6 = .ok (.iload 5, 2) := by decide +kernel
theorem dX5_worthOf_8 : decode cX5_worthOf 8 = .ok (.aload_n 0, 1) := by decide +kernel
theorem dX5_worthOf_9 : decode cX5_worthOf 9 = .ok (.getfield 23, 3) := by decide +kernel
theorem dX5_worthOf_12 : decode cX5_worthOf 12 = .ok (.if_icmp .ge 53, 3) := by decide +kernel
theorem dX5_worthOf_15 : decode cX5_worthOf 15 = .ok (.iload 5, 2) := by decide +kernel
theorem dX5_worthOf_17 : decode cX5_worthOf 17 = .ok (.bipush 6, 2) := by decide +kernel
theorem dX5_worthOf_19 : decode cX5_worthOf 19 = .ok (.if_icmp .ge 46, 3) := by decide +kernel
theorem dX5_worthOf_22 : decode cX5_worthOf 22 = .ok (.iload_n 1, 1) := by decide +kernel
theorem dX5_worthOf_23 : decode cX5_worthOf 23 = .ok (.iconst 2, 1) := by decide +kernel
theorem dX5_worthOf_24 : decode cX5_worthOf 24 = .ok (.if_icmp .eq 17, 3) := by decide +kernel
theorem dX5_worthOf_27 : decode cX5_worthOf 27 = .ok (.aload_n 0, 1) := by decide +kernel
theorem dX5_worthOf_28 : decode cX5_worthOf 28 = .ok (.getfield 19, 3) := by decide +kernel
theorem dX5_worthOf_31 : decode cX5_worthOf 31 = .ok (.iload 5, 2) := by decide +kernel
theorem dX5_worthOf_33 : decode cX5_worthOf 33 = .ok (.aaload, 1) := by decide +kernel
theorem dX5_worthOf_34 : decode cX5_worthOf 34 = .ok (.getfield 114, 3) := by decide +kernel
theorem dX5_worthOf_37 : decode cX5_worthOf 37 = .ok (.iload_n 1, 1) := by decide +kernel
theorem dX5_worthOf_38 : decode cX5_worthOf 38 = .ok (.if_icmp .ne 21, 3) := by decide +kernel
theorem dX5_worthOf_41 : decode cX5_worthOf 41 = .ok (.iload 4, 2) := by decide +kernel
theorem dX5_worthOf_43 : decode cX5_worthOf 43 = .ok (.aload_n 0, 1) := by decide +kernel
theorem dX5_worthOf_44 : decode cX5_worthOf 44 = .ok (.aload_n 0, 1) := by decide +kernel
theorem dX5_worthOf_45 : decode cX5_worthOf 45 = .ok (.getfield 19, 3) := by decide +kernel
theorem dX5_worthOf_48 : decode cX5_worthOf 48 = .ok (.iload 5, 2) := by decide +kernel
theorem dX5_worthOf_50 : decode cX5_worthOf 50 = .ok (.aaload, 1) := by decide +kernel
theorem dX5_worthOf_51 : decode cX5_worthOf 51 = .ok (.aload_n 2, 1) := by decide +kernel
theorem dX5_worthOf_52 : decode cX5_worthOf 52 = .ok (.iload_n 3, 1) := by decide +kernel
theorem dX5_worthOf_53 : decode cX5_worthOf 53 = .ok (.invokevirtual 177, 3) := by decide +kernel
theorem dX5_worthOf_56 : decode cX5_worthOf 56 = .ok (.iadd, 1) := by decide +kernel
theorem dX5_worthOf_57 : decode cX5_worthOf 57 = .ok (.istore 4, 2) := by decide +kernel
theorem dX5_worthOf_59 : decode cX5_worthOf 59 = .ok (.iinc 5 1, 3) := by decide +kernel
theorem dX5_worthOf_62 : decode cX5_worthOf 62 = .ok (.goto (-56), 3) := by decide +kernel
theorem dX5_worthOf_65 : decode cX5_worthOf 65 = .ok (.iload 4, 2) := by decide +kernel
theorem dX5_worthOf_67 : decode cX5_worthOf 67 = .ok (.ireturn, 1) := by decide +kernel
theorem dX5_bounded_0 : decode cX5_bounded 0 = .ok (.iload_n 1, 1) := by decide +kernel
theorem dX5_bounded_1 : decode cX5_bounded 1 = .ok (.iload_n 2, 1) := by decide +kernel
theorem dX5_bounded_2 : decode cX5_bounded 2 = .ok (.iload_n 0, 1) := by decide +kernel
theorem dX5_bounded_3 : decode cX5_bounded 3 = .ok (.invokestatic 207, 3) := by decide +kernel
theorem dX5_bounded_6 : decode cX5_bounded 6 = .ok (.invokestatic 189, 3) := by decide +kernel
theorem dX5_bounded_9 : decode cX5_bounded 9 = .ok (.ireturn, 1) := by decide +kernel
theorem dX5_divisorOf_0 : decode cX5_divisorOf 0 = .ok (.iconst 0, 1) := by decide +kernel
theorem dX5_divisorOf_1 : decode cX5_divisorOf 1 = .ok (.istore_n 2, 1) := by decide +kernel
theorem dX5_divisorOf_2 : decode cX5_divisorOf 2 = .ok (.iload_n 2, 1) := by decide +kernel
theorem dX5_divisorOf_3 : decode cX5_divisorOf 3 = .ok (.bipush 100, 2) := by decide +kernel
theorem dX5_divisorOf_5 : decode cX5_divisorOf 5 = .ok (.if_icmp .ge 21, 3) := by decide +kernel
theorem dX5_divisorOf_8 : decode cX5_divisorOf 8 = .ok (.iload_n 1, 1) := by decide +kernel
theorem dX5_divisorOf_9 : decode cX5_divisorOf 9 = .ok (.ifCond .eq 17, 3) := by decide +kernel
theorem dX5_divisorOf_12 : decode cX5_divisorOf 12 = .ok (.iload_n 0, 1) := by decide +kernel
theorem dX5_divisorOf_13 : decode cX5_divisorOf 13 = .ok (.iload_n 1, 1) := by decide +kernel
theorem dX5_divisorOf_14 : decode cX5_divisorOf 14 = .ok (.irem, 1) := by decide +kernel
theorem dX5_divisorOf_15 : decode cX5_divisorOf 15 = .ok (.istore_n 3, 1) := by decide +kernel
theorem dX5_divisorOf_16 : decode cX5_divisorOf 16 = .ok (.iload_n 1, 1) := by decide +kernel
theorem dX5_divisorOf_17 : decode cX5_divisorOf 17 = .ok (.istore_n 0, 1) := by decide +kernel
theorem dX5_divisorOf_18 : decode cX5_divisorOf 18 = .ok (.iload_n 3, 1) := by decide +kernel
theorem dX5_divisorOf_19 : decode cX5_divisorOf 19 = .ok (.istore_n 1, 1) := by decide +kernel
theorem dX5_divisorOf_20 : decode cX5_divisorOf 20 = .ok (.iinc 2 1, 3) := by decide +kernel
theorem dX5_divisorOf_23 : decode cX5_divisorOf 23 = .ok (.goto (-21), 3) := by decide +kernel
theorem dX5_divisorOf_26 : decode cX5_divisorOf 26 = .ok (.iload_n 0, 1) := by decide +kernel
theorem dX5_divisorOf_27 : decode cX5_divisorOf 27 = .ok (.ireturn, 1) := by decide +kernel
theorem dX5_lowest_0 : decode cX5_lowest 0 = .ok (.iload_n 0, 1) := by decide +kernel
theorem dX5_lowest_1 : decode cX5_lowest 1 = .ok (.invokestatic 210, 3) := by decide +kernel
theorem dX5_lowest_4 : decode cX5_lowest 4 = .ok (.iload_n 1, 1) := by decide +kernel
theorem dX5_lowest_5 : decode cX5_lowest 5 = .ok (.invokestatic 213, 3) := by decide +kernel
theorem dX5_lowest_8 : decode cX5_lowest 8 = .ok (.istore_n 3, 1) := by decide +kernel
theorem dX5_lowest_9 : decode cX5_lowest 9 = .ok (.iload_n 3, 1) := by decide +kernel
theorem dX5_lowest_10 : decode cX5_lowest 10 = .ok (.ifCond .ne 7, 3) := by decide +kernel
theorem dX5_lowest_13 : decode cX5_lowest 13 = .ok (.ldc2_w 175, 3) := by decide +kernel
theorem dX5_lowest_16 : decode cX5_lowest 16 = .ok (.lreturn, 1) := by decide +kernel
theorem dX5_lowest_17 : decode cX5_lowest 17 = .ok (.iload_n 2, 1) := by decide +kernel
theorem dX5_lowest_18 : decode cX5_lowest 18 = .ok (.ifCond .ne 10, 3) := by decide +kernel
theorem dX5_lowest_21 : decode cX5_lowest 21 = .ok (.iload_n 0, 1) := by decide +kernel
theorem dX5_lowest_22 : decode cX5_lowest 22 = .ok (.iload_n 3, 1) := by decide +kernel
theorem dX5_lowest_23 : decode cX5_lowest 23 = .ok (.idiv, 1) := by decide +kernel
theorem dX5_lowest_24 : decode cX5_lowest 24 = .ok (.i2l, 1) := by decide +kernel
theorem dX5_lowest_25 : decode cX5_lowest 25 = .ok (.goto 7, 3) := by decide +kernel
theorem dX5_lowest_28 : decode cX5_lowest 28 = .ok (.iload_n 1, 1) := by decide +kernel
theorem dX5_lowest_29 : decode cX5_lowest 29 = .ok (.iload_n 3, 1) := by decide +kernel
theorem dX5_lowest_30 : decode cX5_lowest 30 = .ok (.idiv, 1) := by decide +kernel
theorem dX5_lowest_31 : decode cX5_lowest 31 = .ok (.i2l, 1) := by decide +kernel
theorem dX5_lowest_32 : decode cX5_lowest 32 = .ok (.lreturn, 1) := by decide +kernel
theorem dX5_best_0 : decode cX5_best 0 = .ok (.iload_n 1, 1) := by decide +kernel
theorem dX5_best_1 : decode cX5_best 1 = .ok (.ifCond .lt 8, 3) := by decide +kernel
theorem dX5_best_4 : decode cX5_best 4 = .ok (.iload_n 1, 1) := by decide +kernel
theorem dX5_best_5 : decode cX5_best 5 = .ok (.iconst 1, 1) := by decide +kernel
theorem dX5_best_6 : decode cX5_best 6 = .ok (.if_icmp .le 6, 3) := by decide +kernel
theorem dX5_best_9 : decode cX5_best 9 = .ok (.ldc 158, 2) := by decide +kernel
theorem dX5_best_11 : decode cX5_best 11 = .ok (.ireturn, 1) := by decide +kernel
theorem dX5_best_12 : decode cX5_best 12 = .ok (.aload_n 0, 1) := by decide +kernel
theorem dX5_best_13 : decode cX5_best 13 = .ok (.invokevirtual 216, 3) := by decide +kernel
theorem dX5_best_16 : decode cX5_best 16 = .ok (.istore_n 2, 1) := by decide +kernel
theorem dX5_best_17 : decode cX5_best 17 = .ok (.iload_n 1, 1) := by decide +kernel
theorem dX5_best_18 : decode cX5_best 18 = .ok (.ifCond .ne 7, 3) := by decide +kernel
theorem dX5_best_21 : decode cX5_best 21 = .ok (.iload_n 2, 1) := by decide +kernel
theorem dX5_best_22 : decode cX5_best 22 = .ok (.goto 13, 3) := by decide +kernel
theorem dX5_best_25 : decode cX5_best 25 = .ok (.aload_n 0, 1) := by decide +kernel
theorem dX5_best_26 : decode cX5_best 26 = .ok (.iconst 2, 1) := by decide +kernel
theorem dX5_best_27 : decode cX5_best 27 = .ok (.aload_n 0, 1) := by decide +kernel
theorem dX5_best_28 : decode cX5_best 28 = .ok (.getfield 9, 3) := by decide +kernel
theorem dX5_best_31 : decode cX5_best 31 = .ok (.iload_n 2, 1) := by decide +kernel
theorem dX5_best_32 : decode cX5_best 32 = .ok (.invokevirtual 159, 3) := by decide +kernel
theorem dX5_best_35 : decode cX5_best 35 = .ok (.ireturn, 1) := by decide +kernel
theorem dX5_settle_0 : decode cX5_settle 0 = .ok (.aload_n 0, 1) := by decide +kernel
theorem dX5_settle_1 : decode cX5_settle 1 = .ok (.aload_n 0, 1) := by decide +kernel
theorem dX5_settle_2 : decode cX5_settle 2 = .ok (.invokevirtual 216, 3) := by decide +kernel
theorem dX5_settle_5 : decode cX5_settle 5 = .ok (.putfield 13, 3) := by decide +kernel
theorem dX5_settle_8 : decode cX5_settle 8 = .ok (.aload_n 0, 1) := by decide +kernel
theorem dX5_settle_9 : decode cX5_settle 9 = .ok (.iconst 2, 1) := by decide +kernel
theorem dX5_settle_10 : decode cX5_settle 10 = .ok (.aload_n 0, 1) := by decide +kernel
theorem dX5_settle_11 : decode cX5_settle 11 = .ok (.getfield 9, 3) := by decide +kernel
theorem dX5_settle_14 : decode cX5_settle 14 = .ok (.aload_n 0, 1) := by decide +kernel
theorem dX5_settle_15 : decode cX5_settle 15 = .ok (.getfield 13, 3) := by decide +kernel
theorem dX5_settle_18 : decode cX5_settle 18 = .ok (.invokevirtual 159, 3) := by decide +kernel
theorem dX5_settle_21 : decode cX5_settle 21 = .ok (.ireturn, 1) := by decide +kernel
theorem dX5_cut_0 : decode cX5_cut 0 = .ok (.iload_n 1, 1) := by decide +kernel
theorem dX5_cut_1 : decode cX5_cut 1 = .ok (.ifCond .lt 8, 3) := by decide +kernel
theorem dX5_cut_4 : decode cX5_cut 4 = .ok (.iload_n 1, 1) := by decide +kernel
theorem dX5_cut_5 : decode cX5_cut 5 = .ok (.iconst 1, 1) := by decide +kernel
theorem dX5_cut_6 : decode cX5_cut 6 = .ok (.if_icmp .le 6, 3) := by decide +kernel
theorem dX5_cut_9 : decode cX5_cut 9 = .ok (.bipush (-2), 2) := by decide +kernel
theorem dX5_cut_11 : decode cX5_cut 11 = .ok (.ireturn, 1) := by decide +kernel
theorem dX5_cut_12 : decode cX5_cut 12 = .ok (.iconst (-1), 1) := by decide +kernel
theorem dX5_cut_13 : decode cX5_cut 13 = .ok (.istore_n 2, 1) := by decide +kernel
theorem dX5_cut_14 : decode cX5_cut 14 = .ok (.iconst 0, 1) := by decide +kernel
theorem dX5_cut_15 : decode cX5_cut 15 = .ok (.istore_n 3, 1) := by decide +kernel
theorem dX5_cut_16 : decode cX5_cut 16 = .ok (.iconst 0, 1) := by decide +kernel
theorem dX5_cut_17 : decode cX5_cut 17 = .ok (.istore 4, 2) := by decide +kernel
theorem dX5_cut_19 : decode cX5_cut 19 = .ok (.iload 4, 2) := by decide +kernel
theorem dX5_cut_21 : decode cX5_cut 21 = .ok (.bipush 30, 2) := by decide +kernel
theorem dX5_cut_23 : decode cX5_cut 23 = .ok (.if_icmp .gt 60, 3) := by decide +kernel
theorem dX5_cut_26 : decode cX5_cut 26 = .ok (.iconst 0, 1) := by decide +kernel
theorem dX5_cut_27 : decode cX5_cut 27 = .ok (.istore 5, 2) := by decide +kernel
theorem dX5_cut_29 : decode cX5_cut 29 = .ok (.iload 5, 2) := by decide +kernel
theorem dX5_cut_31 : decode cX5_cut 31 = .ok (.iconst 2, 1) := by decide +kernel
theorem dX5_cut_32 : decode cX5_cut 32 = .ok (.if_icmp .ge 45, 3) := by decide +kernel
theorem dX5_cut_35 : decode cX5_cut 35 = .ok (.aload_n 0, 1) := by decide +kernel
theorem dX5_cut_36 : decode cX5_cut 36 = .ok (.iload 4, 2) := by decide +kernel
theorem dX5_cut_38 : decode cX5_cut 38 = .ok (.iload 5, 2) := by decide +kernel
theorem dX5_cut_40 : decode cX5_cut 40 = .ok (.invokestatic 219, 3) := by decide +kernel
theorem dX5_cut_43 : decode cX5_cut 43 = .ok (.invokevirtual 222, 3) := by decide +kernel
theorem dX5_cut_46 : decode cX5_cut 46 = .ok (.istore 6, 2) := by decide +kernel
theorem dX5_cut_48 : decode cX5_cut 48 = .ok (.iload_n 2, 1) := by decide +kernel
theorem dX5_cut_49 : decode cX5_cut 49 = .ok (.iconst (-1), 1) := by decide +kernel
theorem dX5_cut_50 : decode cX5_cut 50 = .ok (.if_icmp .eq 9, 3) := by decide +kernel
theorem dX5_cut_53 : decode cX5_cut 53 = .ok (.iload 6, 2) := by decide +kernel
theorem dX5_cut_55 : decode cX5_cut 55 = .ok (.iload_n 3, 1) := by decide +kernel
theorem dX5_cut_56 : decode cX5_cut 56 = .ok (.if_icmp .ge 15, 3) := by decide +kernel
theorem dX5_cut_59 : decode cX5_cut 59 = .ok (.iload 6, 2) := by decide +kernel
theorem dX5_cut_61 : decode cX5_cut 61 = .ok (.istore_n 3, 1) := by decide +kernel
theorem dX5_cut_62 : decode cX5_cut 62 = .ok (.bipush 10, 2) := by decide +kernel
theorem dX5_cut_64 : decode cX5_cut 64 = .ok (.iload 4, 2) := by decide +kernel
theorem dX5_cut_66 : decode cX5_cut 66 = .ok (.imul, 1) := by decide +kernel
theorem dX5_cut_67 : decode cX5_cut 67 = .ok (.iload 5, 2) := by decide +kernel
theorem dX5_cut_69 : decode cX5_cut 69 = .ok (.iadd, 1) := by decide +kernel
theorem dX5_cut_70 : decode cX5_cut 70 = .ok (.istore_n 2, 1) := by decide +kernel
theorem dX5_cut_71 : decode cX5_cut 71 = .ok (.iinc 5 1, 3) := by decide +kernel
theorem dX5_cut_74 : decode cX5_cut 74 = .ok (.goto (-45), 3) := by decide +kernel
theorem dX5_cut_77 : decode cX5_cut 77 = .ok (.iinc 4 1, 3) := by decide +kernel
theorem dX5_cut_80 : decode cX5_cut 80 = .ok (.goto (-61), 3) := by decide +kernel
theorem dX5_cut_83 : decode cX5_cut 83 = .ok (.iload_n 1, 1) := by decide +kernel
theorem dX5_cut_84 : decode cX5_cut 84 = .ok (.ifCond .ne 7, 3) := by decide +kernel
theorem dX5_cut_87 : decode cX5_cut 87 = .ok (.iload_n 2, 1) := by decide +kernel
theorem dX5_cut_88 : decode cX5_cut 88 = .ok (.goto 4, 3) := by decide +kernel
theorem dX5_cut_91 : decode cX5_cut 91 = .ok (.iload_n 3, 1) := by decide +kernel
theorem dX5_cut_92 : decode cX5_cut 92 = .ok (.ireturn, 1) := by decide +kernel
theorem dX5_change_0 : decode cX5_change 0 = .ok (.iload_n 1, 1) := by decide +kernel
theorem dX5_change_1 : decode cX5_change 1 = .ok (.ifCond .lt 8, 3) := by decide +kernel
theorem dX5_change_4 : decode cX5_change 4 = .ok (.iload_n 1, 1) := by decide +kernel
theorem dX5_change_5 : decode cX5_change 5 = .ok (.iconst 1, 1) := by decide +kernel
theorem dX5_change_6 : decode cX5_change 6 = .ok (.if_icmp .le 6, 3) := by decide +kernel
theorem dX5_change_9 : decode cX5_change 9 = .ok (.ldc 158, 2) := by decide +kernel
theorem dX5_change_11 : decode cX5_change 11 = .ok (.ireturn, 1) := by decide +kernel
theorem dX5_change_12 : decode cX5_change 12 = .ok (.aload_n 0, 1) := by decide +kernel
theorem dX5_change_13 : decode cX5_change 13 = .ok (.iconst 2, 1) := by decide +kernel
theorem dX5_change_14 : decode cX5_change 14 = .ok (.invokevirtual 225, 3) := by decide +kernel
theorem dX5_change_17 : decode cX5_change 17 = .ok (.istore_n 2, 1) := by decide +kernel
theorem dX5_change_18 : decode cX5_change 18 = .ok (.iload_n 1, 1) := by decide +kernel
theorem dX5_change_19 : decode cX5_change 19 = .ok (.ifCond .ne 7, 3) := by decide +kernel
theorem dX5_change_22 : decode cX5_change 22 = .ok (.iload_n 2, 1) := by decide +kernel
theorem dX5_change_23 : decode cX5_change 23 = .ok (.goto 17, 3) := by decide +kernel
theorem dX5_change_26 : decode cX5_change 26 = .ok (.aload_n 0, 1) := by decide +kernel
theorem dX5_change_27 : decode cX5_change 27 = .ok (.iconst 2, 1) := by decide +kernel
theorem dX5_change_28 : decode cX5_change 28 = .ok (.aload_n 0, 1) := by decide +kernel
theorem dX5_change_29 : decode cX5_change 29 = .ok (.getfield 9, 3) := by decide +kernel
theorem dX5_change_32 : decode cX5_change 32 = .ok (.aload_n 0, 1) := by decide +kernel
theorem dX5_change_33 : decode cX5_change 33 = .ok (.iload_n 2, 1) := by decide +kernel
theorem dX5_change_34 : decode cX5_change 34 = .ok (.invokevirtual 228, 3) := by decide +kernel
theorem dX5_change_37 : decode cX5_change 37 = .ok (.invokevirtual 159, 3) := by decide +kernel
theorem dX5_change_40 : decode cX5_change 40 = .ok (.ireturn, 1) := by decide +kernel
theorem dX5_forTown_0 : decode cX5_forTown 0 = .ok (.iload_n 1, 1) := by decide +kernel
theorem dX5_forTown_1 : decode cX5_forTown 1 = .ok (.invokestatic 111, 3) := by decide +kernel
theorem dX5_forTown_4 : decode cX5_forTown 4 = .ok (.ifCond .eq 12, 3) := by decide +kernel
theorem dX5_forTown_7 : decode cX5_forTown 7 = .ok (.iload_n 2, 1) := by decide +kernel
theorem dX5_forTown_8 : decode cX5_forTown 8 = .ok (.ifCond .lt 8, 3) := by decide +kernel
theorem dX5_forTown_11 : decode cX5_forTown 11 = .ok (.iload_n 2, 1) := by decide +kernel
theorem dX5_forTown_12 : decode cX5_forTown 12 = .ok (.iconst 1, 1) := by decide +kernel
theorem dX5_forTown_13 : decode cX5_forTown 13 = .ok (.if_icmp .le 6, 3) := by decide +kernel
theorem dX5_forTown_16 : decode cX5_forTown 16 = .ok (.ldc 158, 2) := by decide +kernel
theorem dX5_forTown_18 : decode cX5_forTown 18 = .ok (.ireturn, 1) := by decide +kernel
theorem dX5_forTown_19 : decode cX5_forTown 19 = .ok (.aload_n 0, 1) := by decide +kernel
theorem dX5_forTown_20 : decode cX5_forTown 20 = .ok (.iload_n 1, 1) := by decide +kernel
theorem dX5_forTown_21 : decode cX5_forTown 21 = .ok (.invokevirtual 225, 3) := by decide +kernel
theorem dX5_forTown_24 : decode cX5_forTown 24 = .ok (.istore_n 3, 1) := by decide +kernel
theorem dX5_forTown_25 : decode cX5_forTown 25 = .ok (.iload_n 2, 1) := by decide +kernel
theorem dX5_forTown_26 : decode cX5_forTown 26 = .ok (.ifCond .ne 7, 3) := by decide +kernel
theorem dX5_forTown_29 : decode cX5_forTown 29 = .ok (.iload_n 3, 1) := by decide +kernel
theorem dX5_forTown_30 : decode cX5_forTown 30 = .ok (.goto 17, 3) := by decide +kernel
theorem dX5_forTown_33 : decode cX5_forTown 33 = .ok (.aload_n 0, 1) := by decide +kernel
theorem dX5_forTown_34 : decode cX5_forTown 34 = .ok (.iload_n 1, 1) := by decide +kernel
theorem dX5_forTown_35 : decode cX5_forTown 35 = .ok (.aload_n 0, 1) := by decide +kernel
theorem dX5_forTown_36 : decode cX5_forTown 36 = .ok (.getfield 9, 3) := by decide +kernel
theorem dX5_forTown_39 : decode cX5_forTown 39 = .ok (.aload_n 0, 1) := by decide +kernel
theorem dX5_forTown_40 : decode cX5_forTown 40 = .ok (.iload_n 3, 1) := by decide +kernel
theorem dX5_forTown_41 : decode cX5_forTown 41 = .ok (.invokevirtual 228, 3) := by decide +kernel
theorem dX5_forTown_44 : decode cX5_forTown 44 = .ok (.invokevirtual 159, 3) := by decide +kernel
theorem dX5_forTown_47 : decode cX5_forTown 47 = .ok (.ireturn, 1) := by decide +kernel
theorem dX5_heaviest_0 : decode cX5_heaviest 0 = .ok (.iload_n 1, 1) := by decide +kernel
theorem dX5_heaviest_1 : decode cX5_heaviest 1 = .ok (.ifCond .lt 8, 3) := by decide +kernel
theorem dX5_heaviest_4 : decode cX5_heaviest 4 = .ok (.iload_n 1, 1) := by decide +kernel
theorem dX5_heaviest_5 : decode cX5_heaviest 5 = .ok (.iconst 1, 1) := by decide +kernel
theorem dX5_heaviest_6 : decode cX5_heaviest 6 = .ok (.if_icmp .le 6, 3) := by decide +kernel
theorem dX5_heaviest_9 : decode cX5_heaviest 9 = .ok (.ldc 158, 2) := by decide +kernel
theorem dX5_heaviest_11 : decode cX5_heaviest 11 = .ok (.ireturn, 1) := by decide +kernel
theorem dX5_heaviest_12 : decode cX5_heaviest 12 = .ok (.iconst (-1), 1) := by decide +kernel
theorem dX5_heaviest_13 : decode cX5_heaviest 13 = .ok (.istore_n 2, 1) := by decide +kernel
theorem dX5_heaviest_14 : decode cX5_heaviest 14 = .ok (.iconst 0, 1) := by decide +kernel
theorem dX5_heaviest_15 : decode cX5_heaviest 15 = .ok (.istore_n 3, 1) := by decide +kernel
theorem dX5_heaviest_16 : decode cX5_heaviest 16 = .ok (.iconst 0, 1) := by decide +kernel
theorem dX5_heaviest_17 : decode cX5_heaviest 17 = .ok (.istore 4, 2) := by decide +kernel
theorem dX5_heaviest_19 : decode cX5_heaviest 19 = .ok (.iload 4, 2) := by decide +kernel
theorem dX5_heaviest_21 : decode cX5_heaviest 21 = .ok (.aload_n 0, 1) := by decide +kernel
theorem dX5_heaviest_22 : decode cX5_heaviest 22 = .ok (.getfield 23, 3) := by decide +kernel
theorem dX5_heaviest_25 : decode cX5_heaviest 25 = .ok (.if_icmp .ge 60, 3) := by decide +kernel
theorem dX5_heaviest_28 : decode cX5_heaviest 28 = .ok (.iload 4, 2) := by decide +kernel
theorem dX5_heaviest_30 : decode cX5_heaviest 30 = .ok (.bipush 6, 2) := by decide +kernel
theorem dX5_heaviest_32 : decode cX5_heaviest 32 = .ok (.if_icmp .ge 53, 3) := by decide +kernel
theorem dX5_heaviest_35 : decode cX5_heaviest 35 = .ok (.aload_n 0, 1) := by decide +kernel
theorem dX5_heaviest_36 : decode cX5_heaviest 36 = .ok (.aload_n 0, 1) := by decide +kernel
theorem dX5_heaviest_37 : decode cX5_heaviest 37 = .ok (.getfield 19, 3) := by decide +kernel
theorem dX5_heaviest_40 : decode cX5_heaviest 40 = .ok (.iload 4, 2) := by decide +kernel
theorem dX5_heaviest_42 : decode cX5_heaviest 42 = .ok (.aaload, 1) := by decide +kernel
theorem dX5_heaviest_43 : decode cX5_heaviest 43 = .ok (.aload_n 0, 1) := by decide +kernel
theorem dX5_heaviest_44 : decode cX5_heaviest 44 = .ok (.getfield 9, 3) := by decide +kernel
theorem dX5_heaviest_47 : decode cX5_heaviest 47 = .ok (.aload_n 0, 1) := by decide +kernel
theorem dX5_heaviest_48 : decode cX5_heaviest 48 = .ok (.getfield 13, 3) := by decide +kernel
theorem dX5_heaviest_51 : decode cX5_heaviest 51 = .ok (.invokevirtual 177, 3) := by decide +kernel
theorem dX5_heaviest_54 : decode cX5_heaviest 54 = .ok (.istore 5, 2) := by decide +kernel
theorem dX5_heaviest_56 : decode cX5_heaviest 56 = .ok (.iload_n 2, 1) := by decide +kernel
theorem dX5_heaviest_57 : decode cX5_heaviest 57 = .ok (.iconst (-1), 1) := by decide +kernel
theorem dX5_heaviest_58 : decode cX5_heaviest 58 = .ok (.if_icmp .eq 15, 3) := by decide +kernel
theorem dX5_heaviest_61 : decode cX5_heaviest 61 = .ok (.iload 5, 2) := by decide +kernel
theorem dX5_heaviest_63 : decode cX5_heaviest 63 = .ok (.invokestatic 210, 3) := by decide +kernel
theorem dX5_heaviest_66 : decode cX5_heaviest 66 = .ok (.iload_n 3, 1) := by decide +kernel
theorem dX5_heaviest_67 : decode cX5_heaviest 67 = .ok (.invokestatic 210, 3) := by decide +kernel
theorem dX5_heaviest_70 : decode cX5_heaviest 70 = .ok (.if_icmp .le 9, 3) := by decide +kernel
theorem dX5_heaviest_73 : decode cX5_heaviest 73 = .ok (.iload 4, 2) := by decide +kernel
theorem dX5_heaviest_75 : decode cX5_heaviest 75 = .ok (.istore_n 2, 1) := by decide +kernel
theorem dX5_heaviest_76 : decode cX5_heaviest 76 = .ok (.iload 5, 2) := by decide +kernel
theorem dX5_heaviest_78 : decode cX5_heaviest 78 = .ok (.istore_n 3, 1) := by decide +kernel
theorem dX5_heaviest_79 : decode cX5_heaviest 79 = .ok (.iinc 4 1, 3) := by decide +kernel
theorem dX5_heaviest_82 : decode cX5_heaviest 82 = .ok (.goto (-63), 3) := by decide +kernel
theorem dX5_heaviest_85 : decode cX5_heaviest 85 = .ok (.iload_n 1, 1) := by decide +kernel
theorem dX5_heaviest_86 : decode cX5_heaviest 86 = .ok (.ifCond .ne 7, 3) := by decide +kernel
theorem dX5_heaviest_89 : decode cX5_heaviest 89 = .ok (.iload_n 2, 1) := by decide +kernel
theorem dX5_heaviest_90 : decode cX5_heaviest 90 = .ok (.goto 4, 3) := by decide +kernel
theorem dX5_heaviest_93 : decode cX5_heaviest 93 = .ok (.iload_n 3, 1) := by decide +kernel
theorem dX5_heaviest_94 : decode cX5_heaviest 94 = .ok (.ireturn, 1) := by decide +kernel
theorem dX5_findBest_0 : decode cX5_findBest 0 = .ok (.aload_n 0, 1) := by decide +kernel
theorem dX5_findBest_1 : decode cX5_findBest 1 = .ok (.invokevirtual 231, 3) := by decide +kernel
theorem dX5_findBest_4 : decode cX5_findBest 4 = .ok (.bipush 29, 2) := by decide +kernel
theorem dX5_findBest_6 : decode cX5_findBest 6 = .ok (.istore_n 1, 1) := by decide +kernel
theorem dX5_findBest_7 : decode cX5_findBest 7 = .ok (.iload_n 1, 1) := by decide +kernel
theorem dX5_findBest_8 : decode cX5_findBest 8 = .ok (.ifCond .lt 21, 3) := by decide +kernel
theorem dX5_findBest_11 : decode cX5_findBest 11 = .ok (.aload_n 0, 1) := by decide +kernel
theorem dX5_findBest_12 : decode cX5_findBest 12 = .ok (.iload_n 1, 1) := by decide +kernel
theorem dX5_findBest_13 : decode cX5_findBest 13 = .ok (.iconst 0, 1) := by decide +kernel
theorem dX5_findBest_14 : decode cX5_findBest 14 = .ok (.invokevirtual 234, 3) := by decide +kernel
theorem dX5_findBest_17 : decode cX5_findBest 17 = .ok (.aload_n 0, 1) := by decide +kernel
theorem dX5_findBest_18 : decode cX5_findBest 18 = .ok (.iload_n 1, 1) := by decide +kernel
theorem dX5_findBest_19 : decode cX5_findBest 19 = .ok (.iconst 1, 1) := by decide +kernel
theorem dX5_findBest_20 : decode cX5_findBest 20 = .ok (.invokevirtual 234, 3) := by decide +kernel
theorem dX5_findBest_23 : decode cX5_findBest 23 = .ok (.iinc 1 (-1), 3) := by decide +kernel
theorem dX5_findBest_26 : decode cX5_findBest 26 = .ok (.goto (-19), 3) := by decide +kernel
theorem dX5_findBest_29 : decode cX5_findBest 29 = .ok (.iconst 0, 1) := by decide +kernel
theorem dX5_findBest_30 : decode cX5_findBest 30 = .ok (.istore_n 1, 1) := by decide +kernel
theorem dX5_findBest_31 : decode cX5_findBest 31 = .ok (.iconst (-1), 1) := by decide +kernel
theorem dX5_findBest_32 : decode cX5_findBest 32 = .ok (.istore_n 2, 1) := by decide +kernel
theorem dX5_findBest_33 : decode cX5_findBest 33 = .ok (.iconst 0, 1) := by decide +kernel
theorem dX5_findBest_34 : decode cX5_findBest 34 = .ok (.istore_n 3, 1) := by decide +kernel
theorem dX5_findBest_35 : decode cX5_findBest 35 = .ok (.iconst 0, 1) := by decide +kernel
theorem dX5_findBest_36 : decode cX5_findBest 36 = .ok (.istore 4, 2) := by decide +kernel
theorem dX5_findBest_38 : decode cX5_findBest 38 = .ok (.iload 4, 2) := by decide +kernel
theorem dX5_findBest_40 : decode cX5_findBest 40 = .ok (.bipush 30, 2) := by decide +kernel
theorem dX5_findBest_42 : decode cX5_findBest 42 = .ok (.if_icmp .ge 61, 3) := by decide +kernel
theorem dX5_findBest_45 : decode cX5_findBest 45 = .ok (.aload_n 0, 1) := by decide +kernel
theorem dX5_findBest_46 : decode cX5_findBest 46 = .ok (.iload 4, 2) := by decide +kernel
theorem dX5_findBest_48 : decode cX5_findBest 48 = .ok (.iconst 0, 1) := by decide +kernel
theorem dX5_findBest_49 : decode cX5_findBest 49 = .ok (.iload_n 2, 1) := by decide +kernel
theorem dX5_findBest_50 : decode cX5_findBest 50 = .ok (.iload_n 3, 1) := by decide +kernel
theorem dX5_findBest_51 : decode cX5_findBest 51 = .ok (.invokevirtual 238, 3) := by decide +kernel
theorem dX5_findBest_54 : decode cX5_findBest 54 = .ok (.aload_n 0, 1) := by decide +kernel
theorem dX5_findBest_55 : decode cX5_findBest 55 = .ok (.iload 4, 2) := by decide +kernel
theorem dX5_findBest_57 : decode cX5_findBest 57 = .ok (.iconst 1, 1) := by decide +kernel
theorem dX5_findBest_58 : decode cX5_findBest 58 = .ok (.iload_n 2, 1) := by decide +kernel
theorem dX5_findBest_59 : decode cX5_findBest 59 = .ok (.iload_n 3, 1) := by decide +kernel
theorem dX5_findBest_60 : decode cX5_findBest 60 = .ok (.invokevirtual 238, 3) := by decide +kernel
theorem dX5_findBest_63 : decode cX5_findBest 63 = .ok (.if_icmp .lt 7, 3) := by decide +kernel
theorem dX5_findBest_66 : decode cX5_findBest 66 = .ok (.iconst 0, 1) := by decide +kernel
theorem dX5_findBest_67 : decode cX5_findBest 67 = .ok (.goto 4, 3) := by decide +kernel
theorem dX5_findBest_70 : decode cX5_findBest 70 = .ok (.iconst 1, 1) := by decide +kernel
theorem dX5_findBest_71 : decode cX5_findBest 71 = .ok (.istore 5, 2) := by decide +kernel
theorem dX5_findBest_73 : decode cX5_findBest 73 = .ok (.iload 5, 2) := by decide +kernel
theorem dX5_findBest_75 : decode cX5_findBest 75 = .ok (.iload_n 2, 1) := by decide +kernel
theorem dX5_findBest_76 : decode cX5_findBest 76 = .ok (.if_icmp .ne 9, 3) := by decide +kernel
theorem dX5_findBest_79 : decode cX5_findBest 79 = .ok (.iload_n 3, 1) := by decide +kernel
theorem dX5_findBest_80 : decode cX5_findBest 80 = .ok (.iconst 1, 1) := by decide +kernel
theorem dX5_findBest_81 : decode cX5_findBest 81 = .ok (.iadd, 1) := by decide +kernel
theorem dX5_findBest_82 : decode cX5_findBest 82 = .ok (.goto 4, 3) := by decide +kernel
theorem dX5_findBest_85 : decode cX5_findBest 85 = .ok (.iconst 1, 1) := by decide +kernel
theorem dX5_findBest_86 : decode cX5_findBest 86 = .ok (.istore_n 3, 1) := by decide +kernel
theorem dX5_findBest_87 : decode cX5_findBest 87 = .ok (.iload 5, 2) := by decide +kernel
theorem dX5_findBest_89 : decode cX5_findBest 89 = .ok (.istore_n 2, 1) := by decide +kernel
theorem dX5_findBest_90 : decode cX5_findBest 90 = .ok (.iload_n 1, 1) := by decide +kernel
theorem dX5_findBest_91 : decode cX5_findBest 91 = .ok (.iload_n 2, 1) := by decide +kernel
theorem dX5_findBest_92 : decode cX5_findBest 92 = .ok (.iload 4, 2) := by decide +kernel
theorem dX5_findBest_94 : decode cX5_findBest 94 = .ok (.ishl, 1) := by decide +kernel
theorem dX5_findBest_95 : decode cX5_findBest 95 = .ok (.ior, 1) := by decide +kernel
theorem dX5_findBest_96 : decode cX5_findBest 96 = .ok (.istore_n 1, 1) := by decide +kernel
theorem dX5_findBest_97 : decode cX5_findBest 97 = .ok (.iinc 4 1, 3) := by decide +kernel
theorem dX5_findBest_100 : decode cX5_findBest 100 = .ok (.goto (-62), 3) := by decide +kernel
theorem dX5_findBest_103 : decode cX5_findBest 103 = .ok (.iload_n 1, 1) := by decide +kernel
theorem dX5_findBest_104 : decode cX5_findBest 104 = .ok (.ireturn, 1) := by decide +kernel
theorem dX5_fillLimits_0 : decode cX5_fillLimits 0 = .ok (.iconst 0, 1) := by decide +kernel
theorem dX5_fillLimits_1 : decode cX5_fillLimits 1 = .ok (.istore_n 1, 1) := by decide +kernel
theorem dX5_fillLimits_2 : decode cX5_fillLimits 2 = .ok (.iload_n 1, 1) := by decide +kernel
theorem dX5_fillLimits_3 : decode cX5_fillLimits 3 = .ok (.bipush 30, 2) := by decide +kernel
theorem dX5_fillLimits_5 : decode cX5_fillLimits 5 = .ok (.if_icmp .ge 39, 3) := by decide +kernel
theorem dX5_fillLimits_8 : decode cX5_fillLimits 8 = .ok (.aload_n 0, 1) := by decide +kernel
theorem dX5_fillLimits_9 : decode cX5_fillLimits 9 = .ok (.getfield 72, 3) := by decide +kernel
theorem dX5_fillLimits_12 : decode cX5_fillLimits 12 = .ok (.iload_n 1, 1) := by decide +kernel
theorem dX5_fillLimits_13 : decode cX5_fillLimits 13 = .ok (.iconst 2, 1) := by decide +kernel
theorem dX5_fillLimits_14 : decode cX5_fillLimits 14 = .ok (.imul, 1) := by decide +kernel
theorem dX5_fillLimits_15 : decode cX5_fillLimits 15 = .ok (.aload_n 0, 1) := by decide +kernel
theorem dX5_fillLimits_16 : decode cX5_fillLimits 16 = .ok (.iload_n 1, 1) := by decide +kernel
theorem dX5_fillLimits_17 : decode cX5_fillLimits 17 = .ok (.iconst 0, 1) := by decide +kernel
theorem dX5_fillLimits_18 : decode cX5_fillLimits 18 = .ok (.invokevirtual 133, 3) := by decide +kernel
theorem dX5_fillLimits_21 : decode cX5_fillLimits 21 = .ok (.iastore, 1) := by decide +kernel
theorem dX5_fillLimits_22 : decode cX5_fillLimits 22 = .ok (.aload_n 0, 1) := by decide +kernel
theorem dX5_fillLimits_23 : decode cX5_fillLimits 23 = .ok (.getfield 72, 3) := by decide +kernel
theorem dX5_fillLimits_26 : decode cX5_fillLimits 26 = .ok (.iload_n 1, 1) := by decide +kernel
theorem dX5_fillLimits_27 : decode cX5_fillLimits 27 = .ok (.iconst 2, 1) := by decide +kernel
theorem dX5_fillLimits_28 : decode cX5_fillLimits 28 = .ok (.imul, 1) := by decide +kernel
theorem dX5_fillLimits_29 : decode cX5_fillLimits 29 = .ok (.iconst 1, 1) := by decide +kernel
theorem dX5_fillLimits_30 : decode cX5_fillLimits 30 = .ok (.iadd, 1) := by decide +kernel
theorem dX5_fillLimits_31 : decode cX5_fillLimits 31 = .ok (.aload_n 0, 1) := by decide +kernel
theorem dX5_fillLimits_32 : decode cX5_fillLimits 32 = .ok (.iload_n 1, 1) := by decide +kernel
theorem dX5_fillLimits_33 : decode cX5_fillLimits 33 = .ok (.iconst 1, 1) := by decide +kernel
theorem dX5_fillLimits_34 : decode cX5_fillLimits 34 = .ok (.invokevirtual 133, 3) := by decide +kernel
theorem dX5_fillLimits_37 : decode cX5_fillLimits 37 = .ok (.iastore, 1) := by decide +kernel
theorem dX5_fillLimits_38 : decode cX5_fillLimits 38 = .ok (.iinc 1 1, 3) := by decide +kernel
theorem dX5_fillLimits_41 : decode cX5_fillLimits 41 = .ok (.goto (-39), 3) := by decide +kernel
theorem dX5_fillLimits_44 : decode cX5_fillLimits 44 = .ok (.return_, 1) := by decide +kernel
theorem dX5_fillAhead_0 : decode cX5_fillAhead 0 = .ok (.iload_n 1, 1) := by decide +kernel
theorem dX5_fillAhead_1 : decode cX5_fillAhead 1 = .ok (.iconst 1, 1) := by decide +kernel
theorem dX5_fillAhead_2 : decode cX5_fillAhead 2 = .ok (.iadd, 1) := by decide +kernel
theorem dX5_fillAhead_3 : decode cX5_fillAhead 3 = .ok (.aload_n 0, 1) := by decide +kernel
theorem dX5_fillAhead_4 : decode cX5_fillAhead 4 = .ok (.getfield 72, 3) := by decide +kernel
theorem dX5_fillAhead_7 : decode cX5_fillAhead 7 = .ok (.iload_n 1, 1) := by decide +kernel
theorem dX5_fillAhead_8 : decode cX5_fillAhead 8 = .ok (.iconst 2, 1) := by decide +kernel
theorem dX5_fillAhead_9 : decode cX5_fillAhead 9 = .ok (.imul, 1) := by decide +kernel
theorem dX5_fillAhead_10 : decode cX5_fillAhead 10 = .ok (.iload_n 2, 1) := by decide +kernel
theorem dX5_fillAhead_11 : decode cX5_fillAhead 11 = .ok (.iadd, 1) := by decide +kernel
theorem dX5_fillAhead_12 : decode cX5_fillAhead 12 = .ok (.iaload, 1) := by decide +kernel
theorem dX5_fillAhead_13 : decode cX5_fillAhead 13 = .ok (.invokestatic 207, 3) := by decide +kernel
theorem dX5_fillAhead_16 : decode cX5_fillAhead 16 = .ok (.istore_n 3, 1) := by decide +kernel
theorem dX5_fillAhead_17 : decode cX5_fillAhead 17 = .ok (.iconst 1, 1) := by decide +kernel
theorem dX5_fillAhead_18 : decode cX5_fillAhead 18 = .ok (.istore 4, 2) := by decide +kernel
theorem dX5_fillAhead_20 : decode cX5_fillAhead 20 = .ok (.iload 4, 2) := by decide +kernel
theorem dX5_fillAhead_22 : decode cX5_fillAhead 22 = .ok (.iload_n 3, 1) := by decide +kernel
theorem dX5_fillAhead_23 : decode cX5_fillAhead 23 = .ok (.if_icmp .gt 71, 3) := by decide +kernel
theorem dX5_fillAhead_26 : decode cX5_fillAhead 26 = .ok (.aload_n 0, 1) := by decide +kernel
theorem dX5_fillAhead_27 : decode cX5_fillAhead 27 = .ok (.iload_n 1, 1) := by decide +kernel
theorem dX5_fillAhead_28 : decode cX5_fillAhead 28 = .ok (.iload_n 2, 1) := by decide +kernel
theorem dX5_fillAhead_29 : decode cX5_fillAhead 29 = .ok (.iload 4, 2) := by decide +kernel
theorem dX5_fillAhead_31 : decode cX5_fillAhead 31 = .ok (.invokevirtual 242, 3) := by decide +kernel
theorem dX5_fillAhead_34 : decode cX5_fillAhead 34 = .ok (.istore 5, 2) := by decide +kernel
theorem dX5_fillAhead_36 : decode cX5_fillAhead 36 = .ok (.iload_n 1, 1) := by decide +kernel
theorem dX5_fillAhead_37 : decode cX5_fillAhead 37 = .ok (.iconst 1, 1) := by decide +kernel
theorem dX5_fillAhead_38 : decode cX5_fillAhead 38 = .ok (.iadd, 1) := by decide +kernel
theorem dX5_fillAhead_39 : decode cX5_fillAhead 39 = .ok (.bipush 30, 2) := by decide +kernel
theorem dX5_fillAhead_41 : decode cX5_fillAhead 41 = .ok (.if_icmp .ge 33, 3) := by decide +kernel
theorem dX5_fillAhead_44 : decode cX5_fillAhead 44 = .ok (.iload 5, 2) := by decide +kernel
theorem dX5_fillAhead_46 : decode cX5_fillAhead 46 = .ok (.aload_n 0, 1) := by decide +kernel
theorem dX5_fillAhead_47 : decode cX5_fillAhead 47 = .ok (.iload_n 1, 1) := by decide +kernel
theorem dX5_fillAhead_48 : decode cX5_fillAhead 48 = .ok (.iconst 1, 1) := by decide +kernel
theorem dX5_fillAhead_49 : decode cX5_fillAhead 49 = .ok (.iadd, 1) := by decide +kernel
theorem dX5_fillAhead_50 : decode cX5_fillAhead 50 = .ok (.iconst 0, 1) := by decide +kernel
theorem dX5_fillAhead_51 : decode cX5_fillAhead 51 = .ok (.iload_n 2, 1) := by decide +kernel
theorem dX5_fillAhead_52 : decode cX5_fillAhead 52 = .ok (.iload 4, 2) := by decide +kernel
theorem dX5_fillAhead_54 : decode cX5_fillAhead 54 = .ok (.invokevirtual 238, 3) := by decide +kernel
theorem dX5_fillAhead_57 : decode cX5_fillAhead 57 = .ok (.aload_n 0, 1) := by decide +kernel
theorem dX5_fillAhead_58 : decode cX5_fillAhead 58 = .ok (.iload_n 1, 1) := by decide +kernel
theorem dX5_fillAhead_59 : decode cX5_fillAhead 59 = .ok (.iconst 1, 1) := by decide +kernel
theorem dX5_fillAhead_60 : decode cX5_fillAhead 60 = .ok (.iadd, 1) := by decide +kernel
theorem dX5_fillAhead_61 : decode cX5_fillAhead 61 = .ok (.iconst 1, 1) := by decide +kernel
theorem dX5_fillAhead_62 : decode cX5_fillAhead 62 = .ok (.iload_n 2, 1) := by decide +kernel
theorem dX5_fillAhead_63 : decode cX5_fillAhead 63 = .ok (.iload 4, 2) := by decide +kernel
theorem dX5_fillAhead_65 : decode cX5_fillAhead 65 = .ok (.invokevirtual 238, 3) := by decide +kernel
theorem dX5_fillAhead_68 : decode cX5_fillAhead 68 = .ok (.invokestatic 189, 3) := by decide +kernel
theorem dX5_fillAhead_71 : decode cX5_fillAhead 71 = .ok (.iadd, 1) := by decide +kernel
theorem dX5_fillAhead_72 : decode cX5_fillAhead 72 = .ok (.istore 5, 2) := by decide +kernel
theorem dX5_fillAhead_74 : decode cX5_fillAhead 74 = .ok (.aload_n 0, 1) := by decide +kernel
theorem dX5_fillAhead_75 : decode cX5_fillAhead 75 = .ok (.getfield 75, 3) := by decide +kernel
theorem dX5_fillAhead_78 : decode cX5_fillAhead 78 = .ok (.iload_n 1, 1) := by decide +kernel
theorem dX5_fillAhead_79 : decode cX5_fillAhead 79 = .ok (.iload_n 2, 1) := by decide +kernel
theorem dX5_fillAhead_80 : decode cX5_fillAhead 80 = .ok (.iload 4, 2) := by decide +kernel
theorem dX5_fillAhead_82 : decode cX5_fillAhead 82 = .ok (.invokestatic 245, 3) := by decide +kernel
theorem dX5_fillAhead_85 : decode cX5_fillAhead 85 = .ok (.iload 5, 2) := by decide +kernel
theorem dX5_fillAhead_87 : decode cX5_fillAhead 87 = .ok (.iastore, 1) := by decide +kernel
theorem dX5_fillAhead_88 : decode cX5_fillAhead 88 = .ok (.iinc 4 1, 3) := by decide +kernel
theorem dX5_fillAhead_91 : decode cX5_fillAhead 91 = .ok (.goto (-71), 3) := by decide +kernel
theorem dX5_fillAhead_94 : decode cX5_fillAhead 94 = .ok (.return_, 1) := by decide +kernel
theorem dX5_aheadBehind_0 : decode cX5_aheadBehind 0 = .ok (.iload_n 2, 1) := by decide +kernel
theorem dX5_aheadBehind_1 : decode cX5_aheadBehind 1 = .ok (.iload_n 3, 1) := by decide +kernel
theorem dX5_aheadBehind_2 : decode cX5_aheadBehind 2 = .ok (.if_icmp .ne 10, 3) := by decide +kernel
theorem dX5_aheadBehind_5 : decode cX5_aheadBehind 5 = .ok (.iload 4, 2) := by decide +kernel
theorem dX5_aheadBehind_7 : decode cX5_aheadBehind 7 = .ok (.iconst 1, 1) := by decide +kernel
theorem dX5_aheadBehind_8 : decode cX5_aheadBehind 8 = .ok (.iadd, 1) := by decide +kernel
theorem dX5_aheadBehind_9 : decode cX5_aheadBehind 9 = .ok (.goto 4, 3) := by decide +kernel
theorem dX5_aheadBehind_12 : decode cX5_aheadBehind 12 = .ok (.iconst 1, 1) := by decide +kernel
theorem dX5_aheadBehind_13 : decode cX5_aheadBehind 13 = .ok (.istore 5, 2) := by decide +kernel
theorem dX5_aheadBehind_15 : decode cX5_aheadBehind 15 = .ok (.iload 5, 2) := by decide +kernel
theorem dX5_aheadBehind_17 : decode cX5_aheadBehind 17 = .ok (.aload_n 0, 1) := by decide +kernel
theorem dX5_aheadBehind_18 : decode cX5_aheadBehind 18 = .ok (.getfield 72, 3) := by decide +kernel
theorem dX5_aheadBehind_21 : decode cX5_aheadBehind 21 = .ok (.iload_n 1, 1) := by decide +kernel
theorem dX5_aheadBehind_22 : decode cX5_aheadBehind 22 = .ok (.iconst 2, 1) := by decide +kernel
theorem dX5_aheadBehind_23 : decode cX5_aheadBehind 23 = .ok (.imul, 1) := by decide +kernel
theorem dX5_aheadBehind_24 : decode cX5_aheadBehind 24 = .ok (.iload_n 2, 1) := by decide +kernel
theorem dX5_aheadBehind_25 : decode cX5_aheadBehind 25 = .ok (.iadd, 1) := by decide +kernel
theorem dX5_aheadBehind_26 : decode cX5_aheadBehind 26 = .ok (.iaload, 1) := by decide +kernel
theorem dX5_aheadBehind_27 : decode cX5_aheadBehind 27 = .ok (.if_icmp .le 6, 3) := by decide +kernel
theorem dX5_aheadBehind_30 : decode cX5_aheadBehind 30 = .ok (.ldc 248, 2) := by decide +kernel
theorem dX5_aheadBehind_32 : decode cX5_aheadBehind 32 = .ok (.ireturn, 1) := by decide +kernel
theorem dX5_aheadBehind_33 : decode cX5_aheadBehind 33 = .ok (.aload_n 0, 1) := by decide +kernel
theorem dX5_aheadBehind_34 : decode cX5_aheadBehind 34 = .ok (.getfield 75, 3) := by decide +kernel
theorem dX5_aheadBehind_37 : decode cX5_aheadBehind 37 = .ok (.iload_n 1, 1) := by decide +kernel
theorem dX5_aheadBehind_38 : decode cX5_aheadBehind 38 = .ok (.iload_n 2, 1) := by decide +kernel
theorem dX5_aheadBehind_39 : decode cX5_aheadBehind 39 = .ok (.iload 5, 2) := by decide +kernel
theorem dX5_aheadBehind_41 : decode cX5_aheadBehind 41 = .ok (.invokestatic 245, 3) := by decide +kernel
theorem dX5_aheadBehind_44 : decode cX5_aheadBehind 44 = .ok (.iaload, 1) := by decide +kernel
theorem dX5_aheadBehind_45 : decode cX5_aheadBehind 45 = .ok (.ireturn, 1) := by decide +kernel
theorem dX5_placeAhead_0 : decode cX5_placeAhead 0 = .ok (.iload_n 0, 1) := by decide +kernel
theorem dX5_placeAhead_1 : decode cX5_placeAhead 1 = .ok (.iconst 2, 1) := by decide +kernel
theorem dX5_placeAhead_2 : decode cX5_placeAhead 2 = .ok (.imul, 1) := by decide +kernel
theorem dX5_placeAhead_3 : decode cX5_placeAhead 3 = .ok (.iload_n 1, 1) := by decide +kernel
theorem dX5_placeAhead_4 : decode cX5_placeAhead 4 = .ok (.iadd, 1) := by decide +kernel
theorem dX5_placeAhead_5 : decode cX5_placeAhead 5 = .ok (.bipush 30, 2) := by decide +kernel
theorem dX5_placeAhead_7 : decode cX5_placeAhead 7 = .ok (.imul, 1) := by decide +kernel
theorem dX5_placeAhead_8 : decode cX5_placeAhead 8 = .ok (.iload_n 2, 1) := by decide +kernel
theorem dX5_placeAhead_9 : decode cX5_placeAhead 9 = .ok (.iconst 1, 1) := by decide +kernel
theorem dX5_placeAhead_10 : decode cX5_placeAhead 10 = .ok (.bipush 30, 2) := by decide +kernel
theorem dX5_placeAhead_12 : decode cX5_placeAhead 12 = .ok (.invokestatic 198, 3) := by decide +kernel
theorem dX5_placeAhead_15 : decode cX5_placeAhead 15 = .ok (.iadd, 1) := by decide +kernel
theorem dX5_placeAhead_16 : decode cX5_placeAhead 16 = .ok (.iconst 1, 1) := by decide +kernel
theorem dX5_placeAhead_17 : decode cX5_placeAhead 17 = .ok (.isub, 1) := by decide +kernel
theorem dX5_placeAhead_18 : decode cX5_placeAhead 18 = .ok (.ireturn, 1) := by decide +kernel
theorem dX5_allAt_0 : decode cX5_allAt 0 = .ok (.aload_n 0, 1) := by decide +kernel
theorem dX5_allAt_1 : decode cX5_allAt 1 = .ok (.aload_n 0, 1) := by decide +kernel
theorem dX5_allAt_2 : decode cX5_allAt 2 = .ok (.getfield 47, 3) := by decide +kernel
theorem dX5_allAt_5 : decode cX5_allAt 5 = .ok (.invokevirtual 150, 3) := by decide +kernel
theorem dX5_allAt_8 : decode cX5_allAt 8 = .ok (.astore 4, 2) := by decide +kernel
theorem dX5_allAt_10 : decode cX5_allAt 10 = .ok (.iconst 0, 1) := by decide +kernel
theorem dX5_allAt_11 : decode cX5_allAt 11 = .ok (.istore 5, 2) := by decide +kernel
theorem dX5_allAt_13 : decode cX5_allAt 13 = .ok (.iconst 0, 1) := by decide +kernel
theorem dX5_allAt_14 : decode cX5_allAt 14 = .ok (.istore 6, 2) := by decide +kernel
theorem dX5_allAt_16 : decode cX5_allAt 16 = .ok (.iload 6, 2) := by decide +kernel
theorem dX5_allAt_18 : decode cX5_allAt 18 = .ok (.aload_n 0, 1) := by decide +kernel
theorem dX5_allAt_19 : decode cX5_allAt 19 = .ok (.getfield 23, 3) := by decide +kernel
theorem dX5_allAt_22 : decode cX5_allAt 22 = .ok (.if_icmp .ge 41, 3) := by decide +kernel
theorem dX5_allAt_25 : decode cX5_allAt 25 = .ok (.iload 6, 2) := by decide +kernel
theorem dX5_allAt_27 : decode cX5_allAt 27 = .ok (.bipush 6, 2) := by decide +kernel
theorem dX5_allAt_29 : decode cX5_allAt 29 = .ok (.if_icmp .ge 34, 3) := by decide +kernel
theorem dX5_allAt_32 : decode cX5_allAt 32 = .ok (.iload 5, 2) := by decide +kernel
theorem dX5_allAt_34 : decode cX5_allAt 34 = .ok (.aload_n 0, 1) := by decide +kernel
theorem dX5_allAt_35 : decode cX5_allAt 35 = .ok (.aload_n 0, 1) := by decide +kernel
theorem dX5_allAt_36 : decode cX5_allAt 36 = .ok (.getfield 19, 3) := by decide +kernel
theorem dX5_allAt_39 : decode cX5_allAt 39 = .ok (.iload 6, 2) := by decide +kernel
theorem dX5_allAt_41 : decode cX5_allAt 41 = .ok (.aaload, 1) := by decide +kernel
theorem dX5_allAt_42 : decode cX5_allAt 42 = .ok (.aload 4, 2) := by decide +kernel
theorem dX5_allAt_44 : decode cX5_allAt 44 = .ok (.aload_n 0, 1) := by decide +kernel
theorem dX5_allAt_45 : decode cX5_allAt 45 = .ok (.getfield 9, 3) := by decide +kernel
theorem dX5_allAt_48 : decode cX5_allAt 48 = .ok (.iload_n 1, 1) := by decide +kernel
theorem dX5_allAt_49 : decode cX5_allAt 49 = .ok (.iload_n 2, 1) := by decide +kernel
theorem dX5_allAt_50 : decode cX5_allAt 50 = .ok (.iload_n 3, 1) := by decide +kernel
theorem dX5_allAt_51 : decode cX5_allAt 51 = .ok (.invokevirtual 154, 3) := by decide +kernel
theorem dX5_allAt_54 : decode cX5_allAt 54 = .ok (.iadd, 1) := by decide +kernel
theorem dX5_allAt_55 : decode cX5_allAt 55 = .ok (.istore 5, 2) := by decide +kernel
theorem dX5_allAt_57 : decode cX5_allAt 57 = .ok (.iinc 6 1, 3) := by decide +kernel
theorem dX5_allAt_60 : decode cX5_allAt 60 = .ok (.goto (-44), 3) := by decide +kernel
theorem dX5_allAt_63 : decode cX5_allAt 63 = .ok (.iload 5, 2) := by decide +kernel
theorem dX5_allAt_65 : decode cX5_allAt 65 = .ok (.ireturn, 1) := by decide +kernel
theorem dX5_cutShare_0 : decode cX5_cutShare 0 = .ok (.iconst 1, 1) := by decide +kernel
theorem dX5_cutShare_1 : decode cX5_cutShare 1 = .ok (.iload_n 0, 1) := by decide +kernel
theorem dX5_cutShare_2 : decode cX5_cutShare 2 = .ok (.ishl, 1) := by decide +kernel
theorem dX5_cutShare_3 : decode cX5_cutShare 3 = .ok (.iconst 1, 1) := by decide +kernel
theorem dX5_cutShare_4 : decode cX5_cutShare 4 = .ok (.isub, 1) := by decide +kernel
theorem dX5_cutShare_5 : decode cX5_cutShare 5 = .ok (.istore_n 2, 1) := by decide +kernel
theorem dX5_cutShare_6 : decode cX5_cutShare 6 = .ok (.iload_n 1, 1) := by decide +kernel
theorem dX5_cutShare_7 : decode cX5_cutShare 7 = .ok (.iconst 1, 1) := by decide +kernel
theorem dX5_cutShare_8 : decode cX5_cutShare 8 = .ok (.if_icmp .ne 7, 3) := by decide +kernel
theorem dX5_cutShare_11 : decode cX5_cutShare 11 = .ok (.iload_n 2, 1) := by decide +kernel
theorem dX5_cutShare_12 : decode cX5_cutShare 12 = .ok (.goto 9, 3) := by decide +kernel
theorem dX5_cutShare_15 : decode cX5_cutShare 15 = .ok (.ldc 97, 2) := by decide +kernel
theorem dX5_cutShare_17 : decode cX5_cutShare 17 = .ok (.iload_n 2, 1) := by decide +kernel
theorem dX5_cutShare_18 : decode cX5_cutShare 18 = .ok (.iconst (-1), 1) := by decide +kernel
theorem dX5_cutShare_19 : decode cX5_cutShare 19 = .ok (.ixor, 1) := by decide +kernel
theorem dX5_cutShare_20 : decode cX5_cutShare 20 = .ok (.iand, 1) := by decide +kernel
theorem dX5_cutShare_21 : decode cX5_cutShare 21 = .ok (.ireturn, 1) := by decide +kernel
theorem dX5_apartBy_0 : decode cX5_apartBy 0 = .ok (.aload_n 0, 1) := by decide +kernel
theorem dX5_apartBy_1 : decode cX5_apartBy 1 = .ok (.iconst 0, 1) := by decide +kernel
theorem dX5_apartBy_2 : decode cX5_apartBy 2 = .ok (.aload_n 0, 1) := by decide +kernel
theorem dX5_apartBy_3 : decode cX5_apartBy 3 = .ok (.getfield 9, 3) := by decide +kernel
theorem dX5_apartBy_6 : decode cX5_apartBy 6 = .ok (.iload_n 1, 1) := by decide +kernel
theorem dX5_apartBy_7 : decode cX5_apartBy 7 = .ok (.invokevirtual 159, 3) := by decide +kernel
theorem dX5_apartBy_10 : decode cX5_apartBy 10 = .ok (.aload_n 0, 1) := by decide +kernel
theorem dX5_apartBy_11 : decode cX5_apartBy 11 = .ok (.iconst 1, 1) := by decide +kernel
theorem dX5_apartBy_12 : decode cX5_apartBy 12 = .ok (.aload_n 0, 1) := by decide +kernel
theorem dX5_apartBy_13 : decode cX5_apartBy 13 = .ok (.getfield 9, 3) := by decide +kernel
theorem dX5_apartBy_16 : decode cX5_apartBy 16 = .ok (.iload_n 1, 1) := by decide +kernel
theorem dX5_apartBy_17 : decode cX5_apartBy 17 = .ok (.invokevirtual 159, 3) := by decide +kernel
theorem dX5_apartBy_20 : decode cX5_apartBy 20 = .ok (.isub, 1) := by decide +kernel
theorem dX5_apartBy_21 : decode cX5_apartBy 21 = .ok (.invokestatic 210, 3) := by decide +kernel
theorem dX5_apartBy_24 : decode cX5_apartBy 24 = .ok (.ireturn, 1) := by decide +kernel
theorem dX5_findFlip_0 : decode cX5_findFlip 0 = .ok (.iconst (-1), 1) := by decide +kernel
theorem dX5_findFlip_1 : decode cX5_findFlip 1 = .ok (.istore_n 2, 1) := by decide +kernel
theorem dX5_findFlip_2 : decode cX5_findFlip 2 = .ok (.aload_n 0, 1) := by decide +kernel
theorem dX5_findFlip_3 : decode cX5_findFlip 3 = .ok (.iload_n 1, 1) := by decide +kernel
theorem dX5_findFlip_4 : decode cX5_findFlip 4 = .ok (.aload_n 0, 1) := by decide +kernel
theorem dX5_findFlip_5 : decode cX5_findFlip 5 = .ok (.getfield 9, 3) := by decide +kernel
theorem dX5_findFlip_8 : decode cX5_findFlip 8 = .ok (.aload_n 0, 1) := by decide +kernel
theorem dX5_findFlip_9 : decode cX5_findFlip 9 = .ok (.getfield 13, 3) := by decide +kernel
theorem dX5_findFlip_12 : decode cX5_findFlip 12 = .ok (.invokevirtual 159, 3) := by decide +kernel
theorem dX5_findFlip_15 : decode cX5_findFlip 15 = .ok (.istore_n 3, 1) := by decide +kernel
theorem dX5_findFlip_16 : decode cX5_findFlip 16 = .ok (.iconst 0, 1) := by decide +kernel
theorem dX5_findFlip_17 : decode cX5_findFlip 17 = .ok (.istore 4, 2) := by decide +kernel
theorem dX5_findFlip_19 : decode cX5_findFlip 19 = .ok (.iload 4, 2) := by decide +kernel
theorem dX5_findFlip_21 : decode cX5_findFlip 21 = .ok (.bipush 30, 2) := by decide +kernel
theorem dX5_findFlip_23 : decode cX5_findFlip 23 = .ok (.if_icmp .ge 38, 3) := by decide +kernel
theorem dX5_findFlip_26 : decode cX5_findFlip 26 = .ok (.aload_n 0, 1) := by decide +kernel
theorem dX5_findFlip_27 : decode cX5_findFlip 27 = .ok (.iload_n 1, 1) := by decide +kernel
theorem dX5_findFlip_28 : decode cX5_findFlip 28 = .ok (.aload_n 0, 1) := by decide +kernel
theorem dX5_findFlip_29 : decode cX5_findFlip 29 = .ok (.getfield 9, 3) := by decide +kernel
theorem dX5_findFlip_32 : decode cX5_findFlip 32 = .ok (.aload_n 0, 1) := by decide +kernel
theorem dX5_findFlip_33 : decode cX5_findFlip 33 = .ok (.iload 4, 2) := by decide +kernel
theorem dX5_findFlip_35 : decode cX5_findFlip 35 = .ok (.invokevirtual 228, 3) := by decide +kernel
theorem dX5_findFlip_38 : decode cX5_findFlip 38 = .ok (.invokevirtual 159, 3) := by decide +kernel
theorem dX5_findFlip_41 : decode cX5_findFlip 41 = .ok (.istore 5, 2) := by decide +kernel
theorem dX5_findFlip_43 : decode cX5_findFlip 43 = .ok (.iload 5, 2) := by decide +kernel
theorem dX5_findFlip_45 : decode cX5_findFlip 45 = .ok (.iload_n 3, 1) := by decide +kernel
theorem dX5_findFlip_46 : decode cX5_findFlip 46 = .ok (.if_icmp .le 9, 3) := by decide +kernel
theorem dX5_findFlip_49 : decode cX5_findFlip 49 = .ok (.iload 5, 2) := by decide +kernel
theorem dX5_findFlip_51 : decode cX5_findFlip 51 = .ok (.istore_n 3, 1) := by decide +kernel
theorem dX5_findFlip_52 : decode cX5_findFlip 52 = .ok (.iload 4, 2) := by decide +kernel
theorem dX5_findFlip_54 : decode cX5_findFlip 54 = .ok (.istore_n 2, 1) := by decide +kernel
theorem dX5_findFlip_55 : decode cX5_findFlip 55 = .ok (.iinc 4 1, 3) := by decide +kernel
theorem dX5_findFlip_58 : decode cX5_findFlip 58 = .ok (.goto (-39), 3) := by decide +kernel
theorem dX5_findFlip_61 : decode cX5_findFlip 61 = .ok (.iload_n 2, 1) := by decide +kernel
theorem dX5_findFlip_62 : decode cX5_findFlip 62 = .ok (.ireturn, 1) := by decide +kernel
theorem dX5_flipped_0 : decode cX5_flipped 0 = .ok (.iload_n 1, 1) := by decide +kernel
theorem dX5_flipped_1 : decode cX5_flipped 1 = .ok (.invokestatic 98, 3) := by decide +kernel
theorem dX5_flipped_4 : decode cX5_flipped 4 = .ok (.ifCond .eq 14, 3) := by decide +kernel
theorem dX5_flipped_7 : decode cX5_flipped 7 = .ok (.aload_n 0, 1) := by decide +kernel
theorem dX5_flipped_8 : decode cX5_flipped 8 = .ok (.getfield 13, 3) := by decide +kernel
theorem dX5_flipped_11 : decode cX5_flipped 11 = .ok (.iconst 1, 1) := by decide +kernel
theorem dX5_flipped_12 : decode cX5_flipped 12 = .ok (.iload_n 1, 1) := by decide +kernel
theorem dX5_flipped_13 : decode cX5_flipped 13 = .ok (.ishl, 1) := by decide +kernel
theorem dX5_flipped_14 : decode cX5_flipped 14 = .ok (.ixor, 1) := by decide +kernel
theorem dX5_flipped_15 : decode cX5_flipped 15 = .ok (.goto 7, 3) := by decide +kernel
theorem dX5_flipped_18 : decode cX5_flipped 18 = .ok (.aload_n 0, 1) := by decide +kernel
theorem dX5_flipped_19 : decode cX5_flipped 19 = .ok (.getfield 13, 3) := by decide +kernel
theorem dX5_flipped_22 : decode cX5_flipped 22 = .ok (.ireturn, 1) := by decide +kernel
theorem dX5_tells_0 : decode cX5_tells 0 = .ok (.iload_n 1, 1) := by decide +kernel
theorem dX5_tells_1 : decode cX5_tells 1 = .ok (.invokestatic 249, 3) := by decide +kernel
theorem dX5_tells_4 : decode cX5_tells 4 = .ok (.ifCond .eq 20, 3) := by decide +kernel
theorem dX5_tells_7 : decode cX5_tells 7 = .ok (.aload_n 0, 1) := by decide +kernel
theorem dX5_tells_8 : decode cX5_tells 8 = .ok (.iload_n 2, 1) := by decide +kernel
theorem dX5_tells_9 : decode cX5_tells 9 = .ok (.invokevirtual 105, 3) := by decide +kernel
theorem dX5_tells_12 : decode cX5_tells 12 = .ok (.ifCond .eq 12, 3) := by decide +kernel
theorem dX5_tells_15 : decode cX5_tells 15 = .ok (.iload_n 3, 1) := by decide +kernel
theorem dX5_tells_16 : decode cX5_tells 16 = .ok (.ifCond .lt 8, 3) := by decide +kernel
theorem dX5_tells_19 : decode cX5_tells 19 = .ok (.iload_n 3, 1) := by decide +kernel
theorem dX5_tells_20 : decode cX5_tells 20 = .ok (.iconst 5, 1) := by decide +kernel
theorem dX5_tells_21 : decode cX5_tells 21 = .ok (.if_icmp .le 6, 3) := by decide +kernel
theorem dX5_tells_24 : decode cX5_tells 24 = .ok (.bipush (-2), 2) := by decide +kernel
theorem dX5_tells_26 : decode cX5_tells 26 = .ok (.ireturn, 1) := by decide +kernel
theorem dX5_tells_27 : decode cX5_tells 27 = .ok (.aload_n 0, 1) := by decide +kernel
theorem dX5_tells_28 : decode cX5_tells 28 = .ok (.getfield 52, 3) := by decide +kernel
theorem dX5_tells_31 : decode cX5_tells 31 = .ok (.iload_n 1, 1) := by decide +kernel
theorem dX5_tells_32 : decode cX5_tells 32 = .ok (.aaload, 1) := by decide +kernel
theorem dX5_tells_33 : decode cX5_tells 33 = .ok (.astore 4, 2) := by decide +kernel
theorem dX5_tells_35 : decode cX5_tells 35 = .ok (.aload 4, 2) := by decide +kernel
theorem dX5_tells_37 : decode cX5_tells 37 = .ok (.invokevirtual 252, 3) := by decide +kernel
theorem dX5_tells_40 : decode cX5_tells 40 = .ok (.ifCond .eq 6, 3) := by decide +kernel
theorem dX5_tells_43 : decode cX5_tells 43 = .ok (.bipush (-11), 2) := by decide +kernel
theorem dX5_tells_45 : decode cX5_tells 45 = .ok (.ireturn, 1) := by decide +kernel
theorem dX5_tells_46 : decode cX5_tells 46 = .ok (.aload 4, 2) := by decide +kernel
theorem dX5_tells_48 : decode cX5_tells 48 = .ok (.getfield 256, 3) := by decide +kernel
theorem dX5_tells_51 : decode cX5_tells 51 = .ok (.bipush 30, 2) := by decide +kernel
theorem dX5_tells_53 : decode cX5_tells 53 = .ok (.if_icmp .le 6, 3) := by decide +kernel
theorem dX5_tells_56 : decode cX5_tells 56 = .ok (.bipush (-2), 2) := by decide +kernel
theorem dX5_tells_58 : decode cX5_tells 58 = .ok (.ireturn, 1) := by decide +kernel
theorem dX5_tells_59 : decode cX5_tells 59 = .ok (.iload_n 3, 1) := by decide +kernel
theorem dX5_tells_60 : decode cX5_tells 60 = .ok (.lookupswitch 87 #[(0, 36), (4, 61), (5, 74)], 36) := by decide +kernel
theorem dX5_tells_96 : decode cX5_tells 96 = .ok (.aload_n 0, 1) := by decide +kernel
theorem dX5_tells_97 : decode cX5_tells 97 = .ok (.aload 4, 2) := by decide +kernel
theorem dX5_tells_99 : decode cX5_tells 99 = .ok (.aload_n 0, 1) := by decide +kernel
theorem dX5_tells_100 : decode cX5_tells 100 = .ok (.getfield 19, 3) := by decide +kernel
theorem dX5_tells_103 : decode cX5_tells 103 = .ok (.iload_n 2, 1) := by decide +kernel
theorem dX5_tells_104 : decode cX5_tells 104 = .ok (.aaload, 1) := by decide +kernel
theorem dX5_tells_105 : decode cX5_tells 105 = .ok (.aload_n 0, 1) := by decide +kernel
theorem dX5_tells_106 : decode cX5_tells 106 = .ok (.aload_n 0, 1) := by decide +kernel
theorem dX5_tells_107 : decode cX5_tells 107 = .ok (.getfield 47, 3) := by decide +kernel
theorem dX5_tells_110 : decode cX5_tells 110 = .ok (.invokevirtual 150, 3) := by decide +kernel
theorem dX5_tells_113 : decode cX5_tells 113 = .ok (.aload_n 0, 1) := by decide +kernel
theorem dX5_tells_114 : decode cX5_tells 114 = .ok (.getfield 13, 3) := by decide +kernel
theorem dX5_tells_117 : decode cX5_tells 117 = .ok (.invokevirtual 257, 3) := by decide +kernel
theorem dX5_tells_120 : decode cX5_tells 120 = .ok (.ireturn, 1) := by decide +kernel
theorem dX5_tells_121 : decode cX5_tells 121 = .ok (.aload_n 0, 1) := by decide +kernel
theorem dX5_tells_122 : decode cX5_tells 122 = .ok (.aload 4, 2) := by decide +kernel
theorem dX5_tells_124 : decode cX5_tells 124 = .ok (.aload_n 0, 1) := by decide +kernel
theorem dX5_tells_125 : decode cX5_tells 125 = .ok (.getfield 19, 3) := by decide +kernel
theorem dX5_tells_128 : decode cX5_tells 128 = .ok (.iload_n 2, 1) := by decide +kernel
theorem dX5_tells_129 : decode cX5_tells 129 = .ok (.aaload, 1) := by decide +kernel
theorem dX5_tells_130 : decode cX5_tells 130 = .ok (.invokevirtual 261, 3) := by decide +kernel
theorem dX5_tells_133 : decode cX5_tells 133 = .ok (.ireturn, 1) := by decide +kernel
theorem dX5_tells_134 : decode cX5_tells 134 = .ok (.aload_n 0, 1) := by decide +kernel
theorem dX5_tells_135 : decode cX5_tells 135 = .ok (.aload 4, 2) := by decide +kernel
theorem dX5_tells_137 : decode cX5_tells 137 = .ok (.aload_n 0, 1) := by decide +kernel
theorem dX5_tells_138 : decode cX5_tells 138 = .ok (.getfield 19, 3) := by decide +kernel
theorem dX5_tells_141 : decode cX5_tells 141 = .ok (.iload_n 2, 1) := by decide +kernel
theorem dX5_tells_142 : decode cX5_tells 142 = .ok (.aaload, 1) := by decide +kernel
theorem dX5_tells_143 : decode cX5_tells 143 = .ok (.invokevirtual 265, 3) := by decide +kernel
theorem dX5_tells_146 : decode cX5_tells 146 = .ok (.ireturn, 1) := by decide +kernel
theorem dX5_tells_147 : decode cX5_tells 147 = .ok (.aload_n 0, 1) := by decide +kernel
theorem dX5_tells_148 : decode cX5_tells 148 = .ok (.aload 4, 2) := by decide +kernel
theorem dX5_tells_150 : decode cX5_tells 150 = .ok (.aload_n 0, 1) := by decide +kernel
theorem dX5_tells_151 : decode cX5_tells 151 = .ok (.getfield 19, 3) := by decide +kernel
theorem dX5_tells_154 : decode cX5_tells 154 = .ok (.iload_n 2, 1) := by decide +kernel
theorem dX5_tells_155 : decode cX5_tells 155 = .ok (.aaload, 1) := by decide +kernel
theorem dX5_tells_156 : decode cX5_tells 156 = .ok (.iload_n 3, 1) := by decide +kernel
theorem dX5_tells_157 : decode cX5_tells 157 = .ok (.invokevirtual 268, 3) := by decide +kernel
theorem dX5_tells_160 : decode cX5_tells 160 = .ok (.ireturn, 1) := by decide +kernel
theorem dX5_firstOtherwise_0 : decode cX5_firstOtherwise 0 = .ok (.iconst 0, 1) := by decide +kernel
theorem dX5_firstOtherwise_1 : decode cX5_firstOtherwise 1 = .ok (.istore 5, 2) := by decide +kernel
theorem dX5_firstOtherwise_3 : decode cX5_firstOtherwise 3 = .ok (.iconst 0, 1) := by decide +kernel
theorem dX5_firstOtherwise_4 : decode cX5_firstOtherwise 4 = .ok (.istore 6, 2) := by decide +kernel
theorem dX5_firstOtherwise_6 : decode cX5_firstOtherwise 6 = .ok (.iload 6, 2) := by decide +kernel
theorem dX5_firstOtherwise_8 : decode cX5_firstOtherwise 8 = .ok (.aload_n 1, 1) := by decide +kernel
theorem dX5_firstOtherwise_9 : decode cX5_firstOtherwise 9 = .ok (.getfield 256, 3) := by decide +kernel
theorem dX5_firstOtherwise_12 : decode cX5_firstOtherwise 12 = .ok (.if_icmp .ge 61, 3) := by decide +kernel
theorem dX5_firstOtherwise_15 : decode cX5_firstOtherwise 15 = .ok (.iload 6, 2) := by decide +kernel
theorem dX5_firstOtherwise_17 : decode cX5_firstOtherwise 17 = .ok (.bipush 30, 2) := by decide +kernel
theorem dX5_firstOtherwise_19 : decode cX5_firstOtherwise 19 = .ok (.if_icmp .ge 54, 3) := by decide +kernel
theorem dX5_firstOtherwise_22 : decode cX5_firstOtherwise 22 = .ok (.iload 4, 2) := by decide +kernel
theorem dX5_firstOtherwise_24 : decode cX5_firstOtherwise 24 = .ok (.iload 6, 2) := by decide +kernel
theorem dX5_firstOtherwise_26 : decode cX5_firstOtherwise 26 = .ok (.iload 5, 2) := by decide +kernel
theorem dX5_firstOtherwise_28 : decode cX5_firstOtherwise 28 = .ok (.invokestatic 185, 3) := by decide +kernel
theorem dX5_firstOtherwise_31 : decode cX5_firstOtherwise 31 = .ok (.istore 5, 2) := by decide +kernel
theorem dX5_firstOtherwise_33 : decode cX5_firstOtherwise 33 = .ok (.aload_n 1, 1) := by decide +kernel
theorem dX5_firstOtherwise_34 : decode cX5_firstOtherwise 34 = .ok (.getfield 272, 3) := by decide +kernel
theorem dX5_firstOtherwise_37 : decode cX5_firstOtherwise 37 = .ok (.iload 6, 2) := by decide +kernel
theorem dX5_firstOtherwise_39 : decode cX5_firstOtherwise 39 = .ok (.iaload, 1) := by decide +kernel
theorem dX5_firstOtherwise_40 : decode cX5_firstOtherwise 40 = .ok (.aload_n 0, 1) := by decide +kernel
theorem dX5_firstOtherwise_41 : decode cX5_firstOtherwise 41 = .ok (.aload_n 2, 1) := by decide +kernel
theorem dX5_firstOtherwise_42 : decode cX5_firstOtherwise 42 = .ok (.aload_n 3, 1) := by decide +kernel
theorem dX5_firstOtherwise_43 : decode cX5_firstOtherwise 43 = .ok (.aload_n 0, 1) := by decide +kernel
theorem dX5_firstOtherwise_44 : decode cX5_firstOtherwise 44 = .ok (.getfield 9, 3) := by decide +kernel
theorem dX5_firstOtherwise_47 : decode cX5_firstOtherwise 47 = .ok (.iload 6, 2) := by decide +kernel
theorem dX5_firstOtherwise_49 : decode cX5_firstOtherwise 49 = .ok (.iload 4, 2) := by decide +kernel
theorem dX5_firstOtherwise_51 : decode cX5_firstOtherwise 51 = .ok (.iload 6, 2) := by decide +kernel
theorem dX5_firstOtherwise_53 : decode cX5_firstOtherwise 53 = .ok (.invokestatic 130, 3) := by decide +kernel
theorem dX5_firstOtherwise_56 : decode cX5_firstOtherwise 56 = .ok (.iload 5, 2) := by decide +kernel
theorem dX5_firstOtherwise_58 : decode cX5_firstOtherwise 58 = .ok (.invokevirtual 154, 3) := by decide +kernel
theorem dX5_firstOtherwise_61 : decode cX5_firstOtherwise 61 = .ok (.if_icmp .eq 6, 3) := by decide +kernel
theorem dX5_firstOtherwise_64 : decode cX5_firstOtherwise 64 = .ok (.iload 6, 2) := by decide +kernel
theorem dX5_firstOtherwise_66 : decode cX5_firstOtherwise 66 = .ok (.ireturn, 1) := by decide +kernel
theorem dX5_firstOtherwise_67 : decode cX5_firstOtherwise 67 = .ok (.iinc 6 1, 3) := by decide +kernel
theorem dX5_firstOtherwise_70 : decode cX5_firstOtherwise 70 = .ok (.goto (-64), 3) := by decide +kernel
theorem dX5_firstOtherwise_73 : decode cX5_firstOtherwise 73 = .ok (.iconst (-1), 1) := by decide +kernel
theorem dX5_firstOtherwise_74 : decode cX5_firstOtherwise 74 = .ok (.ireturn, 1) := by decide +kernel
theorem dX5_usersTold_0 : decode cX5_usersTold 0 = .ok (.iload_n 3, 1) := by decide +kernel
theorem dX5_usersTold_1 : decode cX5_usersTold 1 = .ok (.iconst 1, 1) := by decide +kernel
theorem dX5_usersTold_2 : decode cX5_usersTold 2 = .ok (.if_icmp .ne 8, 3) := by decide +kernel
theorem dX5_usersTold_5 : decode cX5_usersTold 5 = .ok (.bipush 6, 2) := by decide +kernel
theorem dX5_usersTold_7 : decode cX5_usersTold 7 = .ok (.goto 14, 3) := by decide +kernel
theorem dX5_usersTold_10 : decode cX5_usersTold 10 = .ok (.iload_n 3, 1) := by decide +kernel
theorem dX5_usersTold_11 : decode cX5_usersTold 11 = .ok (.iconst 2, 1) := by decide +kernel
theorem dX5_usersTold_12 : decode cX5_usersTold 12 = .ok (.if_icmp .ne 8, 3) := by decide +kernel
theorem dX5_usersTold_15 : decode cX5_usersTold 15 = .ok (.bipush 10, 2) := by decide +kernel
theorem dX5_usersTold_17 : decode cX5_usersTold 17 = .ok (.goto 4, 3) := by decide +kernel
theorem dX5_usersTold_20 : decode cX5_usersTold 20 = .ok (.iconst 2, 1) := by decide +kernel
theorem dX5_usersTold_21 : decode cX5_usersTold 21 = .ok (.istore 4, 2) := by decide +kernel
theorem dX5_usersTold_23 : decode cX5_usersTold 23 = .ok (.iconst 0, 1) := by decide +kernel
theorem dX5_usersTold_24 : decode cX5_usersTold 24 = .ok (.istore 5, 2) := by decide +kernel
theorem dX5_usersTold_26 : decode cX5_usersTold 26 = .ok (.iconst 0, 1) := by decide +kernel
theorem dX5_usersTold_27 : decode cX5_usersTold 27 = .ok (.istore 6, 2) := by decide +kernel
theorem dX5_usersTold_29 : decode cX5_usersTold 29 = .ok (.iload 6, 2) := by decide +kernel
theorem dX5_usersTold_31 : decode cX5_usersTold 31 = .ok (.iload 4, 2) := by decide +kernel
theorem dX5_usersTold_33 : decode cX5_usersTold 33 = .ok (.if_icmp .ge 92, 3) := by decide +kernel
theorem dX5_usersTold_36 : decode cX5_usersTold 36 = .ok (.aload_n 0, 1) := by decide +kernel
theorem dX5_usersTold_37 : decode cX5_usersTold 37 = .ok (.getfield 27, 3) := by decide +kernel
theorem dX5_usersTold_40 : decode cX5_usersTold 40 = .ok (.iload_n 3, 1) := by decide +kernel
theorem dX5_usersTold_41 : decode cX5_usersTold 41 = .ok (.iconst 1, 1) := by decide +kernel
theorem dX5_usersTold_42 : decode cX5_usersTold 42 = .ok (.if_icmp .ne 8, 3) := by decide +kernel
theorem dX5_usersTold_45 : decode cX5_usersTold 45 = .ok (.iload 6, 2) := by decide +kernel
theorem dX5_usersTold_47 : decode cX5_usersTold 47 = .ok (.goto 7, 3) := by decide +kernel
theorem dX5_usersTold_50 : decode cX5_usersTold 50 = .ok (.aload_n 2, 1) := by decide +kernel
theorem dX5_usersTold_51 : decode cX5_usersTold 51 = .ok (.getfield 124, 3) := by decide +kernel
theorem dX5_usersTold_54 : decode cX5_usersTold 54 = .ok (.iload_n 3, 1) := by decide +kernel
theorem dX5_usersTold_55 : decode cX5_usersTold 55 = .ok (.iconst 2, 1) := by decide +kernel
theorem dX5_usersTold_56 : decode cX5_usersTold 56 = .ok (.if_icmp .ne 8, 3) := by decide +kernel
theorem dX5_usersTold_59 : decode cX5_usersTold 59 = .ok (.iload 6, 2) := by decide +kernel
theorem dX5_usersTold_61 : decode cX5_usersTold 61 = .ok (.goto 7, 3) := by decide +kernel
theorem dX5_usersTold_64 : decode cX5_usersTold 64 = .ok (.aload_n 2, 1) := by decide +kernel
theorem dX5_usersTold_65 : decode cX5_usersTold 65 = .ok (.getfield 108, 3) := by decide +kernel
theorem dX5_usersTold_68 : decode cX5_usersTold 68 = .ok (.iload_n 3, 1) := by decide +kernel
theorem dX5_usersTold_69 : decode cX5_usersTold 69 = .ok (.iconst 3, 1) := by decide +kernel
theorem dX5_usersTold_70 : decode cX5_usersTold 70 = .ok (.if_icmp .ne 8, 3) := by decide +kernel
theorem dX5_usersTold_73 : decode cX5_usersTold 73 = .ok (.iload 6, 2) := by decide +kernel
theorem dX5_usersTold_75 : decode cX5_usersTold 75 = .ok (.goto 7, 3) := by decide +kernel
theorem dX5_usersTold_78 : decode cX5_usersTold 78 = .ok (.aload_n 2, 1) := by decide +kernel
theorem dX5_usersTold_79 : decode cX5_usersTold 79 = .ok (.getfield 114, 3) := by decide +kernel
theorem dX5_usersTold_82 : decode cX5_usersTold 82 = .ok (.invokevirtual 120, 3) := by decide +kernel
theorem dX5_usersTold_85 : decode cX5_usersTold 85 = .ok (.aload_n 0, 1) := by decide +kernel
theorem dX5_usersTold_86 : decode cX5_usersTold 86 = .ok (.aload_n 1, 1) := by decide +kernel
theorem dX5_usersTold_87 : decode cX5_usersTold 87 = .ok (.aload_n 0, 1) := by decide +kernel
theorem dX5_usersTold_88 : decode cX5_usersTold 88 = .ok (.getfield 27, 3) := by decide +kernel
theorem dX5_usersTold_91 : decode cX5_usersTold 91 = .ok (.aload_n 0, 1) := by decide +kernel
theorem dX5_usersTold_92 : decode cX5_usersTold 92 = .ok (.aload_n 0, 1) := by decide +kernel
theorem dX5_usersTold_93 : decode cX5_usersTold 93 = .ok (.getfield 47, 3) := by decide +kernel
theorem dX5_usersTold_96 : decode cX5_usersTold 96 = .ok (.invokevirtual 150, 3) := by decide +kernel
theorem dX5_usersTold_99 : decode cX5_usersTold 99 = .ok (.aload_n 0, 1) := by decide +kernel
theorem dX5_usersTold_100 : decode cX5_usersTold 100 = .ok (.getfield 13, 3) := by decide +kernel
theorem dX5_usersTold_103 : decode cX5_usersTold 103 = .ok (.invokevirtual 257, 3) := by decide +kernel
theorem dX5_usersTold_106 : decode cX5_usersTold 106 = .ok (.iconst (-1), 1) := by decide +kernel
theorem dX5_usersTold_107 : decode cX5_usersTold 107 = .ok (.if_icmp .ne 12, 3) := by decide +kernel
theorem dX5_usersTold_110 : decode cX5_usersTold 110 = .ok (.iload 5, 2) := by decide +kernel
theorem dX5_usersTold_112 : decode cX5_usersTold 112 = .ok (.iconst 1, 1) := by decide +kernel
theorem dX5_usersTold_113 : decode cX5_usersTold 113 = .ok (.iload 6, 2) := by decide +kernel
theorem dX5_usersTold_115 : decode cX5_usersTold 115 = .ok (.ishl, 1) := by decide +kernel
theorem dX5_usersTold_116 : decode cX5_usersTold 116 = .ok (.ior, 1) := by decide +kernel
theorem dX5_usersTold_117 : decode cX5_usersTold 117 = .ok (.istore 5, 2) := by decide +kernel
theorem dX5_usersTold_119 : decode cX5_usersTold 119 = .ok (.iinc 6 1, 3) := by decide +kernel
theorem dX5_usersTold_122 : decode cX5_usersTold 122 = .ok (.goto (-93), 3) := by decide +kernel
theorem dX5_usersTold_125 : decode cX5_usersTold 125 = .ok (.iload 5, 2) := by decide +kernel
theorem dX5_usersTold_127 : decode cX5_usersTold 127 = .ok (.ireturn, 1) := by decide +kernel
theorem dX5_textsTold_0 : decode cX5_textsTold 0 = .ok (.iconst 0, 1) := by decide +kernel
theorem dX5_textsTold_1 : decode cX5_textsTold 1 = .ok (.istore_n 3, 1) := by decide +kernel
theorem dX5_textsTold_2 : decode cX5_textsTold 2 = .ok (.iconst 0, 1) := by decide +kernel
theorem dX5_textsTold_3 : decode cX5_textsTold 3 = .ok (.istore 4, 2) := by decide +kernel
theorem dX5_textsTold_5 : decode cX5_textsTold 5 = .ok (.iload 4, 2) := by decide +kernel
theorem dX5_textsTold_7 : decode cX5_textsTold 7 = .ok (.aload_n 0, 1) := by decide +kernel
theorem dX5_textsTold_8 : decode cX5_textsTold 8 = .ok (.getfield 44, 3) := by decide +kernel
theorem dX5_textsTold_11 : decode cX5_textsTold 11 = .ok (.if_icmp .ge 36, 3) := by decide +kernel
theorem dX5_textsTold_14 : decode cX5_textsTold 14 = .ok (.aload_n 0, 1) := by decide +kernel
theorem dX5_textsTold_15 : decode cX5_textsTold 15 = .ok (.aload_n 1, 1) := by decide +kernel
theorem dX5_textsTold_16 : decode cX5_textsTold 16 = .ok (.aload_n 2, 1) := by decide +kernel
theorem dX5_textsTold_17 : decode cX5_textsTold 17 = .ok (.aload_n 0, 1) := by decide +kernel
theorem dX5_textsTold_18 : decode cX5_textsTold 18 = .ok (.iload 4, 2) := by decide +kernel
theorem dX5_textsTold_20 : decode cX5_textsTold 20 = .ok (.invokevirtual 150, 3) := by decide +kernel
theorem dX5_textsTold_23 : decode cX5_textsTold 23 = .ok (.aload_n 0, 1) := by decide +kernel
theorem dX5_textsTold_24 : decode cX5_textsTold 24 = .ok (.getfield 13, 3) := by decide +kernel
theorem dX5_textsTold_27 : decode cX5_textsTold 27 = .ok (.invokevirtual 257, 3) := by decide +kernel
theorem dX5_textsTold_30 : decode cX5_textsTold 30 = .ok (.iconst (-1), 1) := by decide +kernel
theorem dX5_textsTold_31 : decode cX5_textsTold 31 = .ok (.if_icmp .ne 10, 3) := by decide +kernel
theorem dX5_textsTold_34 : decode cX5_textsTold 34 = .ok (.iload_n 3, 1) := by decide +kernel
theorem dX5_textsTold_35 : decode cX5_textsTold 35 = .ok (.iconst 1, 1) := by decide +kernel
theorem dX5_textsTold_36 : decode cX5_textsTold 36 = .ok (.iload 4, 2) := by decide +kernel
theorem dX5_textsTold_38 : decode cX5_textsTold 38 = .ok (.ishl, 1) := by decide +kernel
theorem dX5_textsTold_39 : decode cX5_textsTold 39 = .ok (.ior, 1) := by decide +kernel
theorem dX5_textsTold_40 : decode cX5_textsTold 40 = .ok (.istore_n 3, 1) := by decide +kernel
theorem dX5_textsTold_41 : decode cX5_textsTold 41 = .ok (.iinc 4 1, 3) := by decide +kernel
theorem dX5_textsTold_44 : decode cX5_textsTold 44 = .ok (.goto (-39), 3) := by decide +kernel
theorem dX5_textsTold_47 : decode cX5_textsTold 47 = .ok (.iload_n 3, 1) := by decide +kernel
theorem dX5_textsTold_48 : decode cX5_textsTold 48 = .ok (.ireturn, 1) := by decide +kernel
theorem dX5_nightsTold_0 : decode cX5_nightsTold 0 = .ok (.iconst 0, 1) := by decide +kernel
theorem dX5_nightsTold_1 : decode cX5_nightsTold 1 = .ok (.istore_n 3, 1) := by decide +kernel
theorem dX5_nightsTold_2 : decode cX5_nightsTold 2 = .ok (.iconst 0, 1) := by decide +kernel
theorem dX5_nightsTold_3 : decode cX5_nightsTold 3 = .ok (.istore 4, 2) := by decide +kernel
theorem dX5_nightsTold_5 : decode cX5_nightsTold 5 = .ok (.iload 4, 2) := by decide +kernel
theorem dX5_nightsTold_7 : decode cX5_nightsTold 7 = .ok (.aload_n 1, 1) := by decide +kernel
theorem dX5_nightsTold_8 : decode cX5_nightsTold 8 = .ok (.getfield 256, 3) := by decide +kernel
theorem dX5_nightsTold_11 : decode cX5_nightsTold 11 = .ok (.if_icmp .ge 47, 3) := by decide +kernel
theorem dX5_nightsTold_14 : decode cX5_nightsTold 14 = .ok (.iload 4, 2) := by decide +kernel
theorem dX5_nightsTold_16 : decode cX5_nightsTold 16 = .ok (.bipush 30, 2) := by decide +kernel
theorem dX5_nightsTold_18 : decode cX5_nightsTold 18 = .ok (.if_icmp .ge 40, 3) := by decide +kernel
theorem dX5_nightsTold_21 : decode cX5_nightsTold 21 = .ok (.aload_n 0, 1) := by decide +kernel
theorem dX5_nightsTold_22 : decode cX5_nightsTold 22 = .ok (.aload_n 1, 1) := by decide +kernel
theorem dX5_nightsTold_23 : decode cX5_nightsTold 23 = .ok (.aload_n 2, 1) := by decide +kernel
theorem dX5_nightsTold_24 : decode cX5_nightsTold 24 = .ok (.aload_n 0, 1) := by decide +kernel
theorem dX5_nightsTold_25 : decode cX5_nightsTold 25 = .ok (.aload_n 0, 1) := by decide +kernel
theorem dX5_nightsTold_26 : decode cX5_nightsTold 26 = .ok (.getfield 47, 3) := by decide +kernel
theorem dX5_nightsTold_29 : decode cX5_nightsTold 29 = .ok (.invokevirtual 150, 3) := by decide +kernel
theorem dX5_nightsTold_32 : decode cX5_nightsTold 32 = .ok (.aload_n 0, 1) := by decide +kernel
theorem dX5_nightsTold_33 : decode cX5_nightsTold 33 = .ok (.iload 4, 2) := by decide +kernel
theorem dX5_nightsTold_35 : decode cX5_nightsTold 35 = .ok (.invokevirtual 228, 3) := by decide +kernel
theorem dX5_nightsTold_38 : decode cX5_nightsTold 38 = .ok (.invokevirtual 257, 3) := by decide +kernel
theorem dX5_nightsTold_41 : decode cX5_nightsTold 41 = .ok (.iconst (-1), 1) := by decide +kernel
theorem dX5_nightsTold_42 : decode cX5_nightsTold 42 = .ok (.if_icmp .ne 10, 3) := by decide +kernel
theorem dX5_nightsTold_45 : decode cX5_nightsTold 45 = .ok (.iload_n 3, 1) := by decide +kernel
theorem dX5_nightsTold_46 : decode cX5_nightsTold 46 = .ok (.iconst 1, 1) := by decide +kernel
theorem dX5_nightsTold_47 : decode cX5_nightsTold 47 = .ok (.iload 4, 2) := by decide +kernel
theorem dX5_nightsTold_49 : decode cX5_nightsTold 49 = .ok (.ishl, 1) := by decide +kernel
theorem dX5_nightsTold_50 : decode cX5_nightsTold 50 = .ok (.ior, 1) := by decide +kernel
theorem dX5_nightsTold_51 : decode cX5_nightsTold 51 = .ok (.istore_n 3, 1) := by decide +kernel
theorem dX5_nightsTold_52 : decode cX5_nightsTold 52 = .ok (.iinc 4 1, 3) := by decide +kernel
theorem dX5_nightsTold_55 : decode cX5_nightsTold 55 = .ok (.goto (-50), 3) := by decide +kernel
theorem dX5_nightsTold_58 : decode cX5_nightsTold 58 = .ok (.iload_n 3, 1) := by decide +kernel
theorem dX5_nightsTold_59 : decode cX5_nightsTold 59 = .ok (.ireturn, 1) := by decide +kernel
theorem dX5_film_0 : decode cX5_film 0 = .ok (.iload_n 1, 1) := by decide +kernel
theorem dX5_film_1 : decode cX5_film 1 = .ok (.invokestatic 249, 3) := by decide +kernel
theorem dX5_film_4 : decode cX5_film 4 = .ok (.ifCond .eq 21, 3) := by decide +kernel
theorem dX5_film_7 : decode cX5_film 7 = .ok (.aload_n 0, 1) := by decide +kernel
theorem dX5_film_8 : decode cX5_film 8 = .ok (.iload_n 2, 1) := by decide +kernel
theorem dX5_film_9 : decode cX5_film 9 = .ok (.invokevirtual 105, 3) := by decide +kernel
theorem dX5_film_12 : decode cX5_film 12 = .ok (.ifCond .eq 13, 3) := by decide +kernel
theorem dX5_film_15 : decode cX5_film 15 = .ok (.iload_n 3, 1) := by decide +kernel
theorem dX5_film_16 : decode cX5_film 16 = .ok (.ifCond .lt 9, 3) := by decide +kernel
theorem dX5_film_19 : decode cX5_film 19 = .ok (.iload_n 3, 1) := by decide +kernel
theorem dX5_film_20 : decode cX5_film 20 = .ok (.bipush 30, 2) := by decide +kernel
theorem dX5_film_22 : decode cX5_film 22 = .ok (.if_icmp .le 6, 3) := by decide +kernel
theorem dX5_film_25 : decode cX5_film 25 = .ok (.bipush (-2), 2) := by decide +kernel
theorem dX5_film_27 : decode cX5_film 27 = .ok (.ireturn, 1) := by decide +kernel
theorem dX5_film_28 : decode cX5_film 28 = .ok (.aload_n 0, 1) := by decide +kernel
theorem dX5_film_29 : decode cX5_film 29 = .ok (.getfield 52, 3) := by decide +kernel
theorem dX5_film_32 : decode cX5_film 32 = .ok (.iload_n 1, 1) := by decide +kernel
theorem dX5_film_33 : decode cX5_film 33 = .ok (.aaload, 1) := by decide +kernel
theorem dX5_film_34 : decode cX5_film 34 = .ok (.iconst 1, 1) := by decide +kernel
theorem dX5_film_35 : decode cX5_film 35 = .ok (.iload_n 3, 1) := by decide +kernel
theorem dX5_film_36 : decode cX5_film 36 = .ok (.invokevirtual 275, 3) := by decide +kernel
theorem dX5_film_39 : decode cX5_film 39 = .ok (.iconst 0, 1) := by decide +kernel
theorem dX5_film_40 : decode cX5_film 40 = .ok (.istore 4, 2) := by decide +kernel
theorem dX5_film_42 : decode cX5_film 42 = .ok (.iconst 0, 1) := by decide +kernel
theorem dX5_film_43 : decode cX5_film 43 = .ok (.istore 5, 2) := by decide +kernel
theorem dX5_film_45 : decode cX5_film 45 = .ok (.iload 5, 2) := by decide +kernel
theorem dX5_film_47 : decode cX5_film 47 = .ok (.iload_n 3, 1) := by decide +kernel
theorem dX5_film_48 : decode cX5_film 48 = .ok (.if_icmp .ge 68, 3) := by decide +kernel
theorem dX5_film_51 : decode cX5_film 51 = .ok (.aload_n 0, 1) := by decide +kernel
theorem dX5_film_52 : decode cX5_film 52 = .ok (.getfield 13, 3) := by decide +kernel
theorem dX5_film_55 : decode cX5_film 55 = .ok (.iload 5, 2) := by decide +kernel
theorem dX5_film_57 : decode cX5_film 57 = .ok (.iload 4, 2) := by decide +kernel
theorem dX5_film_59 : decode cX5_film 59 = .ok (.invokestatic 185, 3) := by decide +kernel
theorem dX5_film_62 : decode cX5_film 62 = .ok (.istore 4, 2) := by decide +kernel
theorem dX5_film_64 : decode cX5_film 64 = .ok (.aload_n 0, 1) := by decide +kernel
theorem dX5_film_65 : decode cX5_film 65 = .ok (.getfield 52, 3) := by decide +kernel
theorem dX5_film_68 : decode cX5_film 68 = .ok (.iload_n 1, 1) := by decide +kernel
theorem dX5_film_69 : decode cX5_film 69 = .ok (.aaload, 1) := by decide +kernel
theorem dX5_film_70 : decode cX5_film 70 = .ok (.iload 5, 2) := by decide +kernel
theorem dX5_film_72 : decode cX5_film 72 = .ok (.aload_n 0, 1) := by decide +kernel
theorem dX5_film_73 : decode cX5_film 73 = .ok (.aload_n 0, 1) := by decide +kernel
theorem dX5_film_74 : decode cX5_film 74 = .ok (.getfield 19, 3) := by decide +kernel
theorem dX5_film_77 : decode cX5_film 77 = .ok (.iload_n 2, 1) := by decide +kernel
theorem dX5_film_78 : decode cX5_film 78 = .ok (.aaload, 1) := by decide +kernel
theorem dX5_film_79 : decode cX5_film 79 = .ok (.aload_n 0, 1) := by decide +kernel
theorem dX5_film_80 : decode cX5_film 80 = .ok (.aload_n 0, 1) := by decide +kernel
theorem dX5_film_81 : decode cX5_film 81 = .ok (.getfield 47, 3) := by decide +kernel
theorem dX5_film_84 : decode cX5_film 84 = .ok (.invokevirtual 150, 3) := by decide +kernel
theorem dX5_film_87 : decode cX5_film 87 = .ok (.aload_n 0, 1) := by decide +kernel
theorem dX5_film_88 : decode cX5_film 88 = .ok (.getfield 9, 3) := by decide +kernel
theorem dX5_film_91 : decode cX5_film 91 = .ok (.iload 5, 2) := by decide +kernel
theorem dX5_film_93 : decode cX5_film 93 = .ok (.aload_n 0, 1) := by decide +kernel
theorem dX5_film_94 : decode cX5_film 94 = .ok (.getfield 13, 3) := by decide +kernel
theorem dX5_film_97 : decode cX5_film 97 = .ok (.iload 5, 2) := by decide +kernel
theorem dX5_film_99 : decode cX5_film 99 = .ok (.invokestatic 130, 3) := by decide +kernel
theorem dX5_film_102 : decode cX5_film 102 = .ok (.iload 4, 2) := by decide +kernel
theorem dX5_film_104 : decode cX5_film 104 = .ok (.invokevirtual 154, 3) := by decide +kernel
theorem dX5_film_107 : decode cX5_film 107 = .ok (.invokevirtual 277, 3) := by decide +kernel
theorem dX5_film_110 : decode cX5_film 110 = .ok (.iinc 5 1, 3) := by decide +kernel
theorem dX5_film_113 : decode cX5_film 113 = .ok (.goto (-68), 3) := by decide +kernel
theorem dX5_film_116 : decode cX5_film 116 = .ok (.iload_n 3, 1) := by decide +kernel
theorem dX5_film_117 : decode cX5_film 117 = .ok (.ireturn, 1) := by decide +kernel
theorem dX5_drawn_0 : decode cX5_drawn 0 = .ok (.aload_n 0, 1) := by decide +kernel
theorem dX5_drawn_1 : decode cX5_drawn 1 = .ok (.iload_n 1, 1) := by decide +kernel
theorem dX5_drawn_2 : decode cX5_drawn 2 = .ok (.invokevirtual 280, 3) := by decide +kernel
theorem dX5_drawn_5 : decode cX5_drawn 5 = .ok (.aload_n 0, 1) := by decide +kernel
theorem dX5_drawn_6 : decode cX5_drawn 6 = .ok (.iconst 2, 1) := by decide +kernel
theorem dX5_drawn_7 : decode cX5_drawn 7 = .ok (.aload_n 0, 1) := by decide +kernel
theorem dX5_drawn_8 : decode cX5_drawn 8 = .ok (.getfield 69, 3) := by decide +kernel
theorem dX5_drawn_11 : decode cX5_drawn 11 = .ok (.aload_n 0, 1) := by decide +kernel
theorem dX5_drawn_12 : decode cX5_drawn 12 = .ok (.getfield 13, 3) := by decide +kernel
theorem dX5_drawn_15 : decode cX5_drawn 15 = .ok (.invokevirtual 159, 3) := by decide +kernel
theorem dX5_drawn_18 : decode cX5_drawn 18 = .ok (.ireturn, 1) := by decide +kernel
theorem dX5_chance_0 : decode cX5_chance 0 = .ok (.iload_n 2, 1) := by decide +kernel
theorem dX5_chance_1 : decode cX5_chance 1 = .ok (.iconst 1, 1) := by decide +kernel
theorem dX5_chance_2 : decode cX5_chance 2 = .ok (.if_icmp .lt 18, 3) := by decide +kernel
theorem dX5_chance_5 : decode cX5_chance 5 = .ok (.iload_n 2, 1) := by decide +kernel
theorem dX5_chance_6 : decode cX5_chance 6 = .ok (.bipush 20, 2) := by decide +kernel
theorem dX5_chance_8 : decode cX5_chance 8 = .ok (.if_icmp .gt 12, 3) := by decide +kernel
theorem dX5_chance_11 : decode cX5_chance 11 = .ok (.iload_n 3, 1) := by decide +kernel
theorem dX5_chance_12 : decode cX5_chance 12 = .ok (.ifCond .lt 8, 3) := by decide +kernel
theorem dX5_chance_15 : decode cX5_chance 15 = .ok (.iload_n 3, 1) := by decide +kernel
theorem dX5_chance_16 : decode cX5_chance 16 = .ok (.iconst 1, 1) := by decide +kernel
theorem dX5_chance_17 : decode cX5_chance 17 = .ok (.if_icmp .le 7, 3) := by decide +kernel
theorem dX5_chance_20 : decode cX5_chance 20 = .ok (.ldc2_w 175, 3) := by decide +kernel
theorem dX5_chance_23 : decode cX5_chance 23 = .ok (.lreturn, 1) := by decide +kernel
theorem dX5_chance_24 : decode cX5_chance 24 = .ok (.iconst 0, 1) := by decide +kernel
theorem dX5_chance_25 : decode cX5_chance 25 = .ok (.istore 4, 2) := by decide +kernel
theorem dX5_chance_27 : decode cX5_chance 27 = .ok (.iconst 0, 1) := by decide +kernel
theorem dX5_chance_28 : decode cX5_chance 28 = .ok (.istore 5, 2) := by decide +kernel
theorem dX5_chance_30 : decode cX5_chance 30 = .ok (.iload 5, 2) := by decide +kernel
theorem dX5_chance_32 : decode cX5_chance 32 = .ok (.iload_n 2, 1) := by decide +kernel
theorem dX5_chance_33 : decode cX5_chance 33 = .ok (.if_icmp .ge 49, 3) := by decide +kernel
theorem dX5_chance_36 : decode cX5_chance 36 = .ok (.aload_n 0, 1) := by decide +kernel
theorem dX5_chance_37 : decode cX5_chance 37 = .ok (.iload_n 1, 1) := by decide +kernel
theorem dX5_chance_38 : decode cX5_chance 38 = .ok (.iload 5, 2) := by decide +kernel
theorem dX5_chance_40 : decode cX5_chance 40 = .ok (.iadd, 1) := by decide +kernel
theorem dX5_chance_41 : decode cX5_chance 41 = .ok (.invokevirtual 280, 3) := by decide +kernel
theorem dX5_chance_44 : decode cX5_chance 44 = .ok (.aload_n 0, 1) := by decide +kernel
theorem dX5_chance_45 : decode cX5_chance 45 = .ok (.iconst 0, 1) := by decide +kernel
theorem dX5_chance_46 : decode cX5_chance 46 = .ok (.aload_n 0, 1) := by decide +kernel
theorem dX5_chance_47 : decode cX5_chance 47 = .ok (.getfield 69, 3) := by decide +kernel
theorem dX5_chance_50 : decode cX5_chance 50 = .ok (.aload_n 0, 1) := by decide +kernel
theorem dX5_chance_51 : decode cX5_chance 51 = .ok (.getfield 13, 3) := by decide +kernel
theorem dX5_chance_54 : decode cX5_chance 54 = .ok (.invokevirtual 159, 3) := by decide +kernel
theorem dX5_chance_57 : decode cX5_chance 57 = .ok (.aload_n 0, 1) := by decide +kernel
theorem dX5_chance_58 : decode cX5_chance 58 = .ok (.iconst 1, 1) := by decide +kernel
theorem dX5_chance_59 : decode cX5_chance 59 = .ok (.aload_n 0, 1) := by decide +kernel
theorem dX5_chance_60 : decode cX5_chance 60 = .ok (.getfield 69, 3) := by decide +kernel
theorem dX5_chance_63 : decode cX5_chance 63 = .ok (.aload_n 0, 1) := by decide +kernel
theorem dX5_chance_64 : decode cX5_chance 64 = .ok (.getfield 13, 3) := by decide +kernel
theorem dX5_chance_67 : decode cX5_chance 67 = .ok (.invokevirtual 159, 3) := by decide +kernel
theorem dX5_chance_70 : decode cX5_chance 70 = .ok (.if_icmp .le 6, 3) := by decide +kernel
theorem dX5_chance_73 : decode cX5_chance 73 = .ok (.iinc 4 1, 3) := by decide +kernel
theorem dX5_chance_76 : decode cX5_chance 76 = .ok (.iinc 5 1, 3) := by decide +kernel
theorem dX5_chance_79 : decode cX5_chance 79 = .ok (.goto (-49), 3) := by decide +kernel
theorem dX5_chance_82 : decode cX5_chance 82 = .ok (.iload 4, 2) := by decide +kernel
theorem dX5_chance_84 : decode cX5_chance 84 = .ok (.iload_n 2, 1) := by decide +kernel
theorem dX5_chance_85 : decode cX5_chance 85 = .ok (.iload_n 3, 1) := by decide +kernel
theorem dX5_chance_86 : decode cX5_chance 86 = .ok (.invokestatic 181, 3) := by decide +kernel
theorem dX5_chance_89 : decode cX5_chance 89 = .ok (.lreturn, 1) := by decide +kernel
theorem dX5_drawColds_0 : decode cX5_drawColds 0 = .ok (.iload_n 1, 1) := by decide +kernel
theorem dX5_drawColds_1 : decode cX5_drawColds 1 = .ok (.istore_n 2, 1) := by decide +kernel
theorem dX5_drawColds_2 : decode cX5_drawColds 2 = .ok (.iconst 0, 1) := by decide +kernel
theorem dX5_drawColds_3 : decode cX5_drawColds 3 = .ok (.istore_n 3, 1) := by decide +kernel
theorem dX5_drawColds_4 : decode cX5_drawColds 4 = .ok (.iload_n 3, 1) := by decide +kernel
theorem dX5_drawColds_5 : decode cX5_drawColds 5 = .ok (.bipush 30, 2) := by decide +kernel
theorem dX5_drawColds_7 : decode cX5_drawColds 7 = .ok (.if_icmp .ge 32, 3) := by decide +kernel
theorem dX5_drawColds_10 : decode cX5_drawColds 10 = .ok (.iload_n 2, 1) := by decide +kernel
theorem dX5_drawColds_11 : decode cX5_drawColds 11 = .ok (.ldc_w 284, 3) := by decide +kernel
theorem dX5_drawColds_14 : decode cX5_drawColds 14 = .ok (.imul, 1) := by decide +kernel
theorem dX5_drawColds_15 : decode cX5_drawColds 15 = .ok (.sipush 12345, 3) := by decide +kernel
theorem dX5_drawColds_18 : decode cX5_drawColds 18 = .ok (.iadd, 1) := by decide +kernel
theorem dX5_drawColds_19 : decode cX5_drawColds 19 = .ok (.istore_n 2, 1) := by decide +kernel
theorem dX5_drawColds_20 : decode cX5_drawColds 20 = .ok (.aload_n 0, 1) := by decide +kernel
theorem dX5_drawColds_21 : decode cX5_drawColds 21 = .ok (.getfield 69, 3) := by decide +kernel
theorem dX5_drawColds_24 : decode cX5_drawColds 24 = .ok (.iload_n 3, 1) := by decide +kernel
theorem dX5_drawColds_25 : decode cX5_drawColds 25 = .ok (.iload_n 2, 1) := by decide +kernel
theorem dX5_drawColds_26 : decode cX5_drawColds 26 = .ok (.bipush 9, 2) := by decide +kernel
theorem dX5_drawColds_28 : decode cX5_drawColds 28 = .ok (.iushr, 1) := by decide +kernel
theorem dX5_drawColds_29 : decode cX5_drawColds 29 = .ok (.bipush 10, 2) := by decide +kernel
theorem dX5_drawColds_31 : decode cX5_drawColds 31 = .ok (.irem, 1) := by decide +kernel
theorem dX5_drawColds_32 : decode cX5_drawColds 32 = .ok (.iastore, 1) := by decide +kernel
theorem dX5_drawColds_33 : decode cX5_drawColds 33 = .ok (.iinc 3 1, 3) := by decide +kernel
theorem dX5_drawColds_36 : decode cX5_drawColds 36 = .ok (.goto (-32), 3) := by decide +kernel
theorem dX5_drawColds_39 : decode cX5_drawColds 39 = .ok (.return_, 1) := by decide +kernel
theorem dX5_image_0 : decode cX5_image 0 = .ok (.aload_n 0, 1) := by decide +kernel
theorem dX5_image_1 : decode cX5_image 1 = .ok (.getfield 59, 3) := by decide +kernel
theorem dX5_image_4 : decode cX5_image 4 = .ok (.iconst 1, 1) := by decide +kernel
theorem dX5_image_5 : decode cX5_image 5 = .ok (.putfield 285, 3) := by decide +kernel
theorem dX5_image_8 : decode cX5_image 8 = .ok (.aload_n 0, 1) := by decide +kernel
theorem dX5_image_9 : decode cX5_image 9 = .ok (.getfield 9, 3) := by decide +kernel
theorem dX5_image_12 : decode cX5_image 12 = .ok (.iconst 0, 1) := by decide +kernel
theorem dX5_image_13 : decode cX5_image 13 = .ok (.aload_n 0, 1) := by decide +kernel
theorem dX5_image_14 : decode cX5_image 14 = .ok (.getfield 59, 3) := by decide +kernel
theorem dX5_image_17 : decode cX5_image 17 = .ok (.getfield 289, 3) := by decide +kernel
theorem dX5_image_20 : decode cX5_image 20 = .ok (.iconst 0, 1) := by decide +kernel
theorem dX5_image_21 : decode cX5_image 21 = .ok (.bipush 30, 2) := by decide +kernel
theorem dX5_image_23 : decode cX5_image 23 = .ok (.invokestatic 290, 3) := by decide +kernel
theorem dX5_image_26 : decode cX5_image 26 = .ok (.aload_n 0, 1) := by decide +kernel
theorem dX5_image_27 : decode cX5_image 27 = .ok (.getfield 59, 3) := by decide +kernel
theorem dX5_image_30 : decode cX5_image 30 = .ok (.aload_n 0, 1) := by decide +kernel
theorem dX5_image_31 : decode cX5_image 31 = .ok (.getfield 13, 3) := by decide +kernel
theorem dX5_image_34 : decode cX5_image 34 = .ok (.putfield 296, 3) := by decide +kernel
theorem dX5_image_37 : decode cX5_image 37 = .ok (.aload_n 0, 1) := by decide +kernel
theorem dX5_image_38 : decode cX5_image 38 = .ok (.getfield 59, 3) := by decide +kernel
theorem dX5_image_41 : decode cX5_image 41 = .ok (.aload_n 0, 1) := by decide +kernel
theorem dX5_image_42 : decode cX5_image 42 = .ok (.getfield 47, 3) := by decide +kernel
theorem dX5_image_45 : decode cX5_image 45 = .ok (.putfield 297, 3) := by decide +kernel
theorem dX5_image_48 : decode cX5_image 48 = .ok (.aload_n 0, 1) := by decide +kernel
theorem dX5_image_49 : decode cX5_image 49 = .ok (.getfield 59, 3) := by decide +kernel
theorem dX5_image_52 : decode cX5_image 52 = .ok (.aload_n 0, 1) := by decide +kernel
theorem dX5_image_53 : decode cX5_image 53 = .ok (.getfield 23, 3) := by decide +kernel
theorem dX5_image_56 : decode cX5_image 56 = .ok (.putfield 298, 3) := by decide +kernel
theorem dX5_image_59 : decode cX5_image 59 = .ok (.iconst 0, 1) := by decide +kernel
theorem dX5_image_60 : decode cX5_image 60 = .ok (.istore_n 1, 1) := by decide +kernel
theorem dX5_image_61 : decode cX5_image 61 = .ok (.iload_n 1, 1) := by decide +kernel
theorem dX5_image_62 : decode cX5_image 62 = .ok (.bipush 6, 2) := by decide +kernel
theorem dX5_image_64 : decode cX5_image 64 = .ok (.if_icmp .ge 45, 3) := by decide +kernel
theorem dX5_image_67 : decode cX5_image 67 = .ok (.aload_n 0, 1) := by decide +kernel
theorem dX5_image_68 : decode cX5_image 68 = .ok (.getfield 59, 3) := by decide +kernel
theorem dX5_image_71 : decode cX5_image 71 = .ok (.getfield 299, 3) := by decide +kernel
theorem dX5_image_74 : decode cX5_image 74 = .ok (.iload_n 1, 1) := by decide +kernel
theorem dX5_image_75 : decode cX5_image 75 = .ok (.aload_n 0, 1) := by decide +kernel
theorem dX5_image_76 : decode cX5_image 76 = .ok (.getfield 19, 3) := by decide +kernel
theorem dX5_image_79 : decode cX5_image 79 = .ok (.iload_n 1, 1) := by decide +kernel
theorem dX5_image_80 : decode cX5_image 80 = .ok (.aaload, 1) := by decide +kernel
theorem dX5_image_81 : decode cX5_image 81 = .ok (.getfield 108, 3) := by decide +kernel
theorem dX5_image_84 : decode cX5_image 84 = .ok (.iastore, 1) := by decide +kernel
theorem dX5_image_85 : decode cX5_image 85 = .ok (.aload_n 0, 1) := by decide +kernel
theorem dX5_image_86 : decode cX5_image 86 = .ok (.getfield 59, 3) := by decide +kernel
theorem dX5_image_89 : decode cX5_image 89 = .ok (.getfield 302, 3) := by decide +kernel
theorem dX5_image_92 : decode cX5_image 92 = .ok (.iload_n 1, 1) := by decide +kernel
theorem dX5_image_93 : decode cX5_image 93 = .ok (.aload_n 0, 1) := by decide +kernel
theorem dX5_image_94 : decode cX5_image 94 = .ok (.getfield 19, 3) := by decide +kernel
theorem dX5_image_97 : decode cX5_image 97 = .ok (.iload_n 1, 1) := by decide +kernel
theorem dX5_image_98 : decode cX5_image 98 = .ok (.aaload, 1) := by decide +kernel
theorem dX5_image_99 : decode cX5_image 99 = .ok (.getfield 114, 3) := by decide +kernel
theorem dX5_image_102 : decode cX5_image 102 = .ok (.iastore, 1) := by decide +kernel
theorem dX5_image_103 : decode cX5_image 103 = .ok (.iinc 1 1, 3) := by decide +kernel
theorem dX5_image_106 : decode cX5_image 106 = .ok (.goto (-45), 3) := by decide +kernel
theorem dX5_image_109 : decode cX5_image 109 = .ok (.aload_n 0, 1) := by decide +kernel
theorem dX5_image_110 : decode cX5_image 110 = .ok (.getfield 23, 3) := by decide +kernel
theorem dX5_image_113 : decode cX5_image 113 = .ok (.ireturn, 1) := by decide +kernel
theorem dX5_back_0 : decode cX5_back 0 = .ok (.aload_n 0, 1) := by decide +kernel
theorem dX5_back_1 : decode cX5_back 1 = .ok (.getfield 59, 3) := by decide +kernel
theorem dX5_back_4 : decode cX5_back 4 = .ok (.getfield 285, 3) := by decide +kernel
theorem dX5_back_7 : decode cX5_back 7 = .ok (.ifCond .ne 6, 3) := by decide +kernel
theorem dX5_back_10 : decode cX5_back 10 = .ok (.bipush (-3), 2) := by decide +kernel
theorem dX5_back_12 : decode cX5_back 12 = .ok (.ireturn, 1) := by decide +kernel
theorem dX5_back_13 : decode cX5_back 13 = .ok (.aload_n 0, 1) := by decide +kernel
theorem dX5_back_14 : decode cX5_back 14 = .ok (.getfield 59, 3) := by decide +kernel
theorem dX5_back_17 : decode cX5_back 17 = .ok (.getfield 289, 3) := by decide +kernel
theorem dX5_back_20 : decode cX5_back 20 = .ok (.iconst 0, 1) := by decide +kernel
theorem dX5_back_21 : decode cX5_back 21 = .ok (.aload_n 0, 1) := by decide +kernel
theorem dX5_back_22 : decode cX5_back 22 = .ok (.getfield 9, 3) := by decide +kernel
theorem dX5_back_25 : decode cX5_back 25 = .ok (.iconst 0, 1) := by decide +kernel
theorem dX5_back_26 : decode cX5_back 26 = .ok (.bipush 30, 2) := by decide +kernel
theorem dX5_back_28 : decode cX5_back 28 = .ok (.invokestatic 290, 3) := by decide +kernel
theorem dX5_back_31 : decode cX5_back 31 = .ok (.aload_n 0, 1) := by decide +kernel
theorem dX5_back_32 : decode cX5_back 32 = .ok (.aload_n 0, 1) := by decide +kernel
theorem dX5_back_33 : decode cX5_back 33 = .ok (.getfield 59, 3) := by decide +kernel
theorem dX5_back_36 : decode cX5_back 36 = .ok (.getfield 296, 3) := by decide +kernel
theorem dX5_back_39 : decode cX5_back 39 = .ok (.putfield 13, 3) := by decide +kernel
theorem dX5_back_42 : decode cX5_back 42 = .ok (.aload_n 0, 1) := by decide +kernel
theorem dX5_back_43 : decode cX5_back 43 = .ok (.aload_n 0, 1) := by decide +kernel
theorem dX5_back_44 : decode cX5_back 44 = .ok (.getfield 59, 3) := by decide +kernel
theorem dX5_back_47 : decode cX5_back 47 = .ok (.getfield 297, 3) := by decide +kernel
theorem dX5_back_50 : decode cX5_back 50 = .ok (.putfield 47, 3) := by decide +kernel
theorem dX5_back_53 : decode cX5_back 53 = .ok (.aload_n 0, 1) := by decide +kernel
theorem dX5_back_54 : decode cX5_back 54 = .ok (.aload_n 0, 1) := by decide +kernel
theorem dX5_back_55 : decode cX5_back 55 = .ok (.getfield 59, 3) := by decide +kernel
theorem dX5_back_58 : decode cX5_back 58 = .ok (.getfield 298, 3) := by decide +kernel
theorem dX5_back_61 : decode cX5_back 61 = .ok (.putfield 23, 3) := by decide +kernel
theorem dX5_back_64 : decode cX5_back 64 = .ok (.iconst 0, 1) := by decide +kernel
theorem dX5_back_65 : decode cX5_back 65 = .ok (.istore_n 1, 1) := by decide +kernel
theorem dX5_back_66 : decode cX5_back 66 = .ok (.iload_n 1, 1) := by decide +kernel
theorem dX5_back_67 : decode cX5_back 67 = .ok (.bipush 6, 2) := by decide +kernel
theorem dX5_back_69 : decode cX5_back 69 = .ok (.if_icmp .ge 45, 3) := by decide +kernel
theorem dX5_back_72 : decode cX5_back 72 = .ok (.aload_n 0, 1) := by decide +kernel
theorem dX5_back_73 : decode cX5_back 73 = .ok (.getfield 19, 3) := by decide +kernel
theorem dX5_back_76 : decode cX5_back 76 = .ok (.iload_n 1, 1) := by decide +kernel
theorem dX5_back_77 : decode cX5_back 77 = .ok (.aaload, 1) := by decide +kernel
theorem dX5_back_78 : decode cX5_back 78 = .ok (.aload_n 0, 1) := by decide +kernel
theorem dX5_back_79 : decode cX5_back 79 = .ok (.getfield 59, 3) := by decide +kernel
theorem dX5_back_82 : decode cX5_back 82 = .ok (.getfield 299, 3) := by decide +kernel
theorem dX5_back_85 : decode cX5_back 85 = .ok (.iload_n 1, 1) := by decide +kernel
theorem dX5_back_86 : decode cX5_back 86 = .ok (.iaload, 1) := by decide +kernel
theorem dX5_back_87 : decode cX5_back 87 = .ok (.putfield 108, 3) := by decide +kernel
theorem dX5_back_90 : decode cX5_back 90 = .ok (.aload_n 0, 1) := by decide +kernel
theorem dX5_back_91 : decode cX5_back 91 = .ok (.getfield 19, 3) := by decide +kernel
theorem dX5_back_94 : decode cX5_back 94 = .ok (.iload_n 1, 1) := by decide +kernel
theorem dX5_back_95 : decode cX5_back 95 = .ok (.aaload, 1) := by decide +kernel
theorem dX5_back_96 : decode cX5_back 96 = .ok (.aload_n 0, 1) := by decide +kernel
theorem dX5_back_97 : decode cX5_back 97 = .ok (.getfield 59, 3) := by decide +kernel
theorem dX5_back_100 : decode cX5_back 100 = .ok (.getfield 302, 3) := by decide +kernel
theorem dX5_back_103 : decode cX5_back 103 = .ok (.iload_n 1, 1) := by decide +kernel
theorem dX5_back_104 : decode cX5_back 104 = .ok (.iaload, 1) := by decide +kernel
theorem dX5_back_105 : decode cX5_back 105 = .ok (.putfield 114, 3) := by decide +kernel
theorem dX5_back_108 : decode cX5_back 108 = .ok (.iinc 1 1, 3) := by decide +kernel
theorem dX5_back_111 : decode cX5_back 111 = .ok (.goto (-45), 3) := by decide +kernel
theorem dX5_back_114 : decode cX5_back 114 = .ok (.aload_n 0, 1) := by decide +kernel
theorem dX5_back_115 : decode cX5_back 115 = .ok (.getfield 23, 3) := by decide +kernel
theorem dX5_back_118 : decode cX5_back 118 = .ok (.ireturn, 1) := by decide +kernel
theorem dX5_count_0 : decode cX5_count 0 = .ok (.iload_n 1, 1) := by decide +kernel
theorem dX5_count_1 : decode cX5_count 1 = .ok (.tableswitch 72 0 5 #[39, 44, 49, 54, 62, 67], 39) := by decide +kernel
theorem dX5_count_40 : decode cX5_count 40 = .ok (.aload_n 0, 1) := by decide +kernel
theorem dX5_count_41 : decode cX5_count 41 = .ok (.getfield 23, 3) := by decide +kernel
theorem dX5_count_44 : decode cX5_count 44 = .ok (.ireturn, 1) := by decide +kernel
theorem dX5_count_45 : decode cX5_count 45 = .ok (.aload_n 0, 1) := by decide +kernel
theorem dX5_count_46 : decode cX5_count 46 = .ok (.invokevirtual 305, 3) := by decide +kernel
theorem dX5_count_49 : decode cX5_count 49 = .ok (.ireturn, 1) := by decide +kernel
theorem dX5_count_50 : decode cX5_count 50 = .ok (.aload_n 0, 1) := by decide +kernel
theorem dX5_count_51 : decode cX5_count 51 = .ok (.getfield 44, 3) := by decide +kernel
theorem dX5_count_54 : decode cX5_count 54 = .ok (.ireturn, 1) := by decide +kernel
theorem dX5_count_55 : decode cX5_count 55 = .ok (.aload_n 0, 1) := by decide +kernel
theorem dX5_count_56 : decode cX5_count 56 = .ok (.getfield 34, 3) := by decide +kernel
theorem dX5_count_59 : decode cX5_count 59 = .ok (.getfield 139, 3) := by decide +kernel
theorem dX5_count_62 : decode cX5_count 62 = .ok (.ireturn, 1) := by decide +kernel
theorem dX5_count_63 : decode cX5_count 63 = .ok (.aload_n 0, 1) := by decide +kernel
theorem dX5_count_64 : decode cX5_count 64 = .ok (.getfield 47, 3) := by decide +kernel
theorem dX5_count_67 : decode cX5_count 67 = .ok (.ireturn, 1) := by decide +kernel
theorem dX5_count_68 : decode cX5_count 68 = .ok (.aload_n 0, 1) := by decide +kernel
theorem dX5_count_69 : decode cX5_count 69 = .ok (.invokevirtual 308, 3) := by decide +kernel
theorem dX5_count_72 : decode cX5_count 72 = .ok (.ireturn, 1) := by decide +kernel
theorem dX5_count_73 : decode cX5_count 73 = .ok (.bipush (-2), 2) := by decide +kernel
theorem dX5_count_75 : decode cX5_count 75 = .ok (.ireturn, 1) := by decide +kernel
theorem dX5_usersOfTownOne_0 : decode cX5_usersOfTownOne 0 = .ok (.iconst 0, 1) := by decide +kernel
theorem dX5_usersOfTownOne_1 : decode cX5_usersOfTownOne 1 = .ok (.istore_n 1, 1) := by decide +kernel
theorem dX5_usersOfTownOne_2 : decode cX5_usersOfTownOne 2 = .ok (.iconst 0, 1) := by decide +kernel
theorem dX5_usersOfTownOne_3 : decode cX5_usersOfTownOne 3 = .ok (.istore_n 2, 1) := by decide +kernel
theorem dX5_usersOfTownOne_4 : decode cX5_usersOfTownOne 4 = .ok (.iload_n 2, 1) := by decide +kernel
theorem dX5_usersOfTownOne_5 : decode cX5_usersOfTownOne 5 = .ok (.aload_n 0, 1) := by decide +kernel
theorem dX5_usersOfTownOne_6 : decode cX5_usersOfTownOne 6 = .ok (.getfield 23, 3) := by decide +kernel
theorem dX5_usersOfTownOne_9 : decode cX5_usersOfTownOne 9 = .ok (.if_icmp .ge 27, 3) := by decide +kernel
theorem dX5_usersOfTownOne_12 : decode cX5_usersOfTownOne 12 = .ok (.iload_n 2, 1) := by decide +kernel
theorem dX5_usersOfTownOne_13 : decode cX5_usersOfTownOne 13 = .ok (.bipush 6, 2) := by decide +kernel
theorem dX5_usersOfTownOne_15 : decode cX5_usersOfTownOne 15 = .ok (.if_icmp .ge 21, 3) := by decide +kernel
theorem dX5_usersOfTownOne_18 : decode cX5_usersOfTownOne 18 = .ok (.iload_n 1, 1) := by decide +kernel
theorem dX5_usersOfTownOne_19 : decode cX5_usersOfTownOne 19 = .ok (.aload_n 0, 1) := by decide +kernel
theorem dX5_usersOfTownOne_20 : decode cX5_usersOfTownOne 20 = .ok (.getfield 19, 3) := by decide +kernel
theorem dX5_usersOfTownOne_23 : decode cX5_usersOfTownOne 23 = .ok (.iload_n 2, 1) := by decide +kernel
theorem dX5_usersOfTownOne_24 : decode cX5_usersOfTownOne 24 = .ok (.aaload, 1) := by decide +kernel
theorem dX5_usersOfTownOne_25 : decode cX5_usersOfTownOne 25 = .ok (.getfield 114, 3) := by decide +kernel
theorem dX5_usersOfTownOne_28 : decode cX5_usersOfTownOne 28 = .ok (.iadd, 1) := by decide +kernel
theorem dX5_usersOfTownOne_29 : decode cX5_usersOfTownOne 29 = .ok (.istore_n 1, 1) := by decide +kernel
theorem dX5_usersOfTownOne_30 : decode cX5_usersOfTownOne 30 = .ok (.iinc 2 1, 3) := by decide +kernel
theorem dX5_usersOfTownOne_33 : decode cX5_usersOfTownOne 33 = .ok (.goto (-29), 3) := by decide +kernel
theorem dX5_usersOfTownOne_36 : decode cX5_usersOfTownOne 36 = .ok (.iload_n 1, 1) := by decide +kernel
theorem dX5_usersOfTownOne_37 : decode cX5_usersOfTownOne 37 = .ok (.ireturn, 1) := by decide +kernel
theorem dX5_coldTogether_0 : decode cX5_coldTogether 0 = .ok (.iconst 0, 1) := by decide +kernel
theorem dX5_coldTogether_1 : decode cX5_coldTogether 1 = .ok (.istore_n 1, 1) := by decide +kernel
theorem dX5_coldTogether_2 : decode cX5_coldTogether 2 = .ok (.iconst 0, 1) := by decide +kernel
theorem dX5_coldTogether_3 : decode cX5_coldTogether 3 = .ok (.istore_n 2, 1) := by decide +kernel
theorem dX5_coldTogether_4 : decode cX5_coldTogether 4 = .ok (.iload_n 2, 1) := by decide +kernel
theorem dX5_coldTogether_5 : decode cX5_coldTogether 5 = .ok (.bipush 30, 2) := by decide +kernel
theorem dX5_coldTogether_7 : decode cX5_coldTogether 7 = .ok (.if_icmp .ge 18, 3) := by decide +kernel
theorem dX5_coldTogether_10 : decode cX5_coldTogether 10 = .ok (.iload_n 1, 1) := by decide +kernel
theorem dX5_coldTogether_11 : decode cX5_coldTogether 11 = .ok (.aload_n 0, 1) := by decide +kernel
theorem dX5_coldTogether_12 : decode cX5_coldTogether 12 = .ok (.getfield 9, 3) := by decide +kernel
theorem dX5_coldTogether_15 : decode cX5_coldTogether 15 = .ok (.iload_n 2, 1) := by decide +kernel
theorem dX5_coldTogether_16 : decode cX5_coldTogether 16 = .ok (.iaload, 1) := by decide +kernel
theorem dX5_coldTogether_17 : decode cX5_coldTogether 17 = .ok (.iadd, 1) := by decide +kernel
theorem dX5_coldTogether_18 : decode cX5_coldTogether 18 = .ok (.istore_n 1, 1) := by decide +kernel
theorem dX5_coldTogether_19 : decode cX5_coldTogether 19 = .ok (.iinc 2 1, 3) := by decide +kernel
theorem dX5_coldTogether_22 : decode cX5_coldTogether 22 = .ok (.goto (-18), 3) := by decide +kernel
theorem dX5_coldTogether_25 : decode cX5_coldTogether 25 = .ok (.iload_n 1, 1) := by decide +kernel
theorem dX5_coldTogether_26 : decode cX5_coldTogether 26 = .ok (.ireturn, 1) := by decide +kernel
theorem dX5_sheet_0 : decode cX5_sheet 0 = .ok (.iload_n 1, 1) := by decide +kernel
theorem dX5_sheet_1 : decode cX5_sheet 1 = .ok (.invokestatic 249, 3) := by decide +kernel
theorem dX5_sheet_4 : decode cX5_sheet 4 = .ok (.ifCond .eq 15, 3) := by decide +kernel
theorem dX5_sheet_7 : decode cX5_sheet 7 = .ok (.iload_n 2, 1) := by decide +kernel
theorem dX5_sheet_8 : decode cX5_sheet 8 = .ok (.iconst (-1), 1) := by decide +kernel
theorem dX5_sheet_9 : decode cX5_sheet 9 = .ok (.if_icmp .eq 13, 3) := by decide +kernel
theorem dX5_sheet_12 : decode cX5_sheet 12 = .ok (.iload_n 2, 1) := by decide +kernel
theorem dX5_sheet_13 : decode cX5_sheet 13 = .ok (.invokestatic 311, 3) := by decide +kernel
theorem dX5_sheet_16 : decode cX5_sheet 16 = .ok (.ifCond .ne 6, 3) := by decide +kernel
theorem dX5_sheet_19 : decode cX5_sheet 19 = .ok (.bipush (-2), 2) := by decide +kernel
theorem dX5_sheet_21 : decode cX5_sheet 21 = .ok (.ireturn, 1) := by decide +kernel
theorem dX5_sheet_22 : decode cX5_sheet 22 = .ok (.iload_n 2, 1) := by decide +kernel
theorem dX5_sheet_23 : decode cX5_sheet 23 = .ok (.iconst (-1), 1) := by decide +kernel
theorem dX5_sheet_24 : decode cX5_sheet 24 = .ok (.if_icmp .ne 16, 3) := by decide +kernel
theorem dX5_sheet_27 : decode cX5_sheet 27 = .ok (.aload_n 0, 1) := by decide +kernel
theorem dX5_sheet_28 : decode cX5_sheet 28 = .ok (.getfield 52, 3) := by decide +kernel
theorem dX5_sheet_31 : decode cX5_sheet 31 = .ok (.iload_n 1, 1) := by decide +kernel
theorem dX5_sheet_32 : decode cX5_sheet 32 = .ok (.aaload, 1) := by decide +kernel
theorem dX5_sheet_33 : decode cX5_sheet 33 = .ok (.iconst (-1), 1) := by decide +kernel
theorem dX5_sheet_34 : decode cX5_sheet 34 = .ok (.iconst 0, 1) := by decide +kernel
theorem dX5_sheet_35 : decode cX5_sheet 35 = .ok (.invokevirtual 275, 3) := by decide +kernel
theorem dX5_sheet_38 : decode cX5_sheet 38 = .ok (.iconst 1, 1) := by decide +kernel
theorem dX5_sheet_39 : decode cX5_sheet 39 = .ok (.ireturn, 1) := by decide +kernel
theorem dX5_sheet_40 : decode cX5_sheet 40 = .ok (.iload_n 3, 1) := by decide +kernel
theorem dX5_sheet_41 : decode cX5_sheet 41 = .ok (.bipush 40, 2) := by decide +kernel
theorem dX5_sheet_43 : decode cX5_sheet 43 = .ok (.if_icmp .le 6, 3) := by decide +kernel
theorem dX5_sheet_46 : decode cX5_sheet 46 = .ok (.bipush (-2), 2) := by decide +kernel
theorem dX5_sheet_48 : decode cX5_sheet 48 = .ok (.ireturn, 1) := by decide +kernel
theorem dX5_sheet_49 : decode cX5_sheet 49 = .ok (.iload_n 3, 1) := by decide +kernel
theorem dX5_sheet_50 : decode cX5_sheet 50 = .ok (.ifCond .ge 6, 3) := by decide +kernel
theorem dX5_sheet_53 : decode cX5_sheet 53 = .ok (.bipush (-14), 2) := by decide +kernel
theorem dX5_sheet_55 : decode cX5_sheet 55 = .ok (.ireturn, 1) := by decide +kernel
theorem dX5_sheet_56 : decode cX5_sheet 56 = .ok (.aload_n 0, 1) := by decide +kernel
theorem dX5_sheet_57 : decode cX5_sheet 57 = .ok (.getfield 52, 3) := by decide +kernel
theorem dX5_sheet_60 : decode cX5_sheet 60 = .ok (.iload_n 1, 1) := by decide +kernel
theorem dX5_sheet_61 : decode cX5_sheet 61 = .ok (.aaload, 1) := by decide +kernel
theorem dX5_sheet_62 : decode cX5_sheet 62 = .ok (.iload_n 2, 1) := by decide +kernel
theorem dX5_sheet_63 : decode cX5_sheet 63 = .ok (.iload_n 3, 1) := by decide +kernel
theorem dX5_sheet_64 : decode cX5_sheet 64 = .ok (.invokevirtual 275, 3) := by decide +kernel
theorem dX5_sheet_67 : decode cX5_sheet 67 = .ok (.iconst 1, 1) := by decide +kernel
theorem dX5_sheet_68 : decode cX5_sheet 68 = .ok (.ireturn, 1) := by decide +kernel
theorem dX5_cell_0 : decode cX5_cell 0 = .ok (.iload_n 1, 1) := by decide +kernel
theorem dX5_cell_1 : decode cX5_cell 1 = .ok (.invokestatic 249, 3) := by decide +kernel
theorem dX5_cell_4 : decode cX5_cell 4 = .ok (.ifCond .ne 6, 3) := by decide +kernel
theorem dX5_cell_7 : decode cX5_cell 7 = .ok (.bipush (-2), 2) := by decide +kernel
theorem dX5_cell_9 : decode cX5_cell 9 = .ok (.ireturn, 1) := by decide +kernel
theorem dX5_cell_10 : decode cX5_cell 10 = .ok (.aload_n 0, 1) := by decide +kernel
theorem dX5_cell_11 : decode cX5_cell 11 = .ok (.getfield 52, 3) := by decide +kernel
theorem dX5_cell_14 : decode cX5_cell 14 = .ok (.iload_n 1, 1) := by decide +kernel
theorem dX5_cell_15 : decode cX5_cell 15 = .ok (.aaload, 1) := by decide +kernel
theorem dX5_cell_16 : decode cX5_cell 16 = .ok (.astore 4, 2) := by decide +kernel
theorem dX5_cell_18 : decode cX5_cell 18 = .ok (.aload 4, 2) := by decide +kernel
theorem dX5_cell_20 : decode cX5_cell 20 = .ok (.invokevirtual 252, 3) := by decide +kernel
theorem dX5_cell_23 : decode cX5_cell 23 = .ok (.ifCond .eq 6, 3) := by decide +kernel
theorem dX5_cell_26 : decode cX5_cell 26 = .ok (.bipush (-11), 2) := by decide +kernel
theorem dX5_cell_28 : decode cX5_cell 28 = .ok (.ireturn, 1) := by decide +kernel
theorem dX5_cell_29 : decode cX5_cell 29 = .ok (.iload_n 2, 1) := by decide +kernel
theorem dX5_cell_30 : decode cX5_cell 30 = .ok (.ifCond .lt 12, 3) := by decide +kernel
theorem dX5_cell_33 : decode cX5_cell 33 = .ok (.iload_n 2, 1) := by decide +kernel
theorem dX5_cell_34 : decode cX5_cell 34 = .ok (.aload 4, 2) := by decide +kernel
theorem dX5_cell_36 : decode cX5_cell 36 = .ok (.getfield 256, 3) := by decide +kernel
theorem dX5_cell_39 : decode cX5_cell 39 = .ok (.if_icmp .lt 6, 3) := by decide +kernel
theorem dX5_cell_42 : decode cX5_cell 42 = .ok (.bipush (-12), 2) := by decide +kernel
theorem dX5_cell_44 : decode cX5_cell 44 = .ok (.ireturn, 1) := by decide +kernel
theorem dX5_cell_45 : decode cX5_cell 45 = .ok (.aload 4, 2) := by decide +kernel
theorem dX5_cell_47 : decode cX5_cell 47 = .ok (.iload_n 2, 1) := by decide +kernel
theorem dX5_cell_48 : decode cX5_cell 48 = .ok (.iload_n 3, 1) := by decide +kernel
theorem dX5_cell_49 : decode cX5_cell 49 = .ok (.invokevirtual 277, 3) := by decide +kernel
theorem dX5_cell_52 : decode cX5_cell 52 = .ok (.iconst 1, 1) := by decide +kernel
theorem dX5_cell_53 : decode cX5_cell 53 = .ok (.ireturn, 1) := by decide +kernel
theorem dX5_copy_0 : decode cX5_copy 0 = .ok (.iload_n 1, 1) := by decide +kernel
theorem dX5_copy_1 : decode cX5_copy 1 = .ok (.invokestatic 249, 3) := by decide +kernel
theorem dX5_copy_4 : decode cX5_copy 4 = .ok (.ifCond .eq 10, 3) := by decide +kernel
theorem dX5_copy_7 : decode cX5_copy 7 = .ok (.iload_n 3, 1) := by decide +kernel
theorem dX5_copy_8 : decode cX5_copy 8 = .ok (.invokestatic 249, 3) := by decide +kernel
theorem dX5_copy_11 : decode cX5_copy 11 = .ok (.ifCond .ne 6, 3) := by decide +kernel
theorem dX5_copy_14 : decode cX5_copy 14 = .ok (.bipush (-2), 2) := by decide +kernel
theorem dX5_copy_16 : decode cX5_copy 16 = .ok (.ireturn, 1) := by decide +kernel
theorem dX5_copy_17 : decode cX5_copy 17 = .ok (.aload_n 0, 1) := by decide +kernel
theorem dX5_copy_18 : decode cX5_copy 18 = .ok (.getfield 52, 3) := by decide +kernel
theorem dX5_copy_21 : decode cX5_copy 21 = .ok (.iload_n 1, 1) := by decide +kernel
theorem dX5_copy_22 : decode cX5_copy 22 = .ok (.aaload, 1) := by decide +kernel
theorem dX5_copy_23 : decode cX5_copy 23 = .ok (.astore 6, 2) := by decide +kernel
theorem dX5_copy_25 : decode cX5_copy 25 = .ok (.aload_n 0, 1) := by decide +kernel
theorem dX5_copy_26 : decode cX5_copy 26 = .ok (.getfield 52, 3) := by decide +kernel
theorem dX5_copy_29 : decode cX5_copy 29 = .ok (.iload_n 3, 1) := by decide +kernel
theorem dX5_copy_30 : decode cX5_copy 30 = .ok (.aaload, 1) := by decide +kernel
theorem dX5_copy_31 : decode cX5_copy 31 = .ok (.astore 7, 2) := by decide +kernel
theorem dX5_copy_33 : decode cX5_copy 33 = .ok (.aload 6, 2) := by decide +kernel
theorem dX5_copy_35 : decode cX5_copy 35 = .ok (.invokevirtual 252, 3) := by decide +kernel
theorem dX5_copy_38 : decode cX5_copy 38 = .ok (.ifCond .ne 11, 3) := by decide +kernel
theorem dX5_copy_41 : decode cX5_copy 41 = .ok (.aload 7, 2) := by decide +kernel
theorem dX5_copy_43 : decode cX5_copy 43 = .ok (.invokevirtual 252, 3) := by decide +kernel
theorem dX5_copy_46 : decode cX5_copy 46 = .ok (.ifCond .eq 6, 3) := by decide +kernel
theorem dX5_copy_49 : decode cX5_copy 49 = .ok (.bipush (-11), 2) := by decide +kernel
theorem dX5_copy_51 : decode cX5_copy 51 = .ok (.ireturn, 1) := by decide +kernel
theorem dX5_copy_52 : decode cX5_copy 52 = .ok (.aload 6, 2) := by decide +kernel
theorem dX5_copy_54 : decode cX5_copy 54 = .ok (.getfield 314, 3) := by decide +kernel
theorem dX5_copy_57 : decode cX5_copy 57 = .ok (.aload 7, 2) := by decide +kernel
theorem dX5_copy_59 : decode cX5_copy 59 = .ok (.getfield 314, 3) := by decide +kernel
theorem dX5_copy_62 : decode cX5_copy 62 = .ok (.if_icmp .eq 6, 3) := by decide +kernel
theorem dX5_copy_65 : decode cX5_copy 65 = .ok (.bipush (-13), 2) := by decide +kernel
theorem dX5_copy_67 : decode cX5_copy 67 = .ok (.ireturn, 1) := by decide +kernel
theorem dX5_copy_68 : decode cX5_copy 68 = .ok (.aload 6, 2) := by decide +kernel
theorem dX5_copy_70 : decode cX5_copy 70 = .ok (.iload_n 2, 1) := by decide +kernel
theorem dX5_copy_71 : decode cX5_copy 71 = .ok (.iload 5, 2) := by decide +kernel
theorem dX5_copy_73 : decode cX5_copy 73 = .ok (.invokevirtual 317, 3) := by decide +kernel
theorem dX5_copy_76 : decode cX5_copy 76 = .ok (.ifCond .eq 15, 3) := by decide +kernel
theorem dX5_copy_79 : decode cX5_copy 79 = .ok (.aload 7, 2) := by decide +kernel
theorem dX5_copy_81 : decode cX5_copy 81 = .ok (.iload 4, 2) := by decide +kernel
theorem dX5_copy_83 : decode cX5_copy 83 = .ok (.iload 5, 2) := by decide +kernel
theorem dX5_copy_85 : decode cX5_copy 85 = .ok (.invokevirtual 317, 3) := by decide +kernel
theorem dX5_copy_88 : decode cX5_copy 88 = .ok (.ifCond .ne 6, 3) := by decide +kernel
theorem dX5_copy_91 : decode cX5_copy 91 = .ok (.bipush (-12), 2) := by decide +kernel
theorem dX5_copy_93 : decode cX5_copy 93 = .ok (.ireturn, 1) := by decide +kernel
theorem dX5_copy_94 : decode cX5_copy 94 = .ok (.aload 6, 2) := by decide +kernel
theorem dX5_copy_96 : decode cX5_copy 96 = .ok (.getfield 272, 3) := by decide +kernel
theorem dX5_copy_99 : decode cX5_copy 99 = .ok (.iload_n 2, 1) := by decide +kernel
theorem dX5_copy_100 : decode cX5_copy 100 = .ok (.aload 7, 2) := by decide +kernel
theorem dX5_copy_102 : decode cX5_copy 102 = .ok (.getfield 272, 3) := by decide +kernel
theorem dX5_copy_105 : decode cX5_copy 105 = .ok (.iload 4, 2) := by decide +kernel
theorem dX5_copy_107 : decode cX5_copy 107 = .ok (.iload 5, 2) := by decide +kernel
theorem dX5_copy_109 : decode cX5_copy 109 = .ok (.invokestatic 290, 3) := by decide +kernel
theorem dX5_copy_112 : decode cX5_copy 112 = .ok (.iload 5, 2) := by decide +kernel
theorem dX5_copy_114 : decode cX5_copy 114 = .ok (.ireturn, 1) := by decide +kernel
theorem dX5_users_0 : decode cX5_users 0 = .ok (.iload_n 1, 1) := by decide +kernel
theorem dX5_users_1 : decode cX5_users 1 = .ok (.invokestatic 249, 3) := by decide +kernel
theorem dX5_users_4 : decode cX5_users 4 = .ok (.ifCond .eq 22, 3) := by decide +kernel
theorem dX5_users_7 : decode cX5_users 7 = .ok (.iload_n 2, 1) := by decide +kernel
theorem dX5_users_8 : decode cX5_users 8 = .ok (.invokestatic 311, 3) := by decide +kernel
theorem dX5_users_11 : decode cX5_users 11 = .ok (.ifCond .eq 15, 3) := by decide +kernel
theorem dX5_users_14 : decode cX5_users 14 = .ok (.iload 4, 2) := by decide +kernel
theorem dX5_users_16 : decode cX5_users 16 = .ok (.ifCond .lt 10, 3) := by decide +kernel
theorem dX5_users_19 : decode cX5_users 19 = .ok (.iload 4, 2) := by decide +kernel
theorem dX5_users_21 : decode cX5_users 21 = .ok (.bipush 6, 2) := by decide +kernel
theorem dX5_users_23 : decode cX5_users 23 = .ok (.if_icmp .le 6, 3) := by decide +kernel
theorem dX5_users_26 : decode cX5_users 26 = .ok (.bipush (-2), 2) := by decide +kernel
theorem dX5_users_28 : decode cX5_users 28 = .ok (.ireturn, 1) := by decide +kernel
theorem dX5_users_29 : decode cX5_users 29 = .ok (.aload_n 0, 1) := by decide +kernel
theorem dX5_users_30 : decode cX5_users 30 = .ok (.getfield 52, 3) := by decide +kernel
theorem dX5_users_33 : decode cX5_users 33 = .ok (.iload_n 1, 1) := by decide +kernel
theorem dX5_users_34 : decode cX5_users 34 = .ok (.aaload, 1) := by decide +kernel
theorem dX5_users_35 : decode cX5_users 35 = .ok (.astore 5, 2) := by decide +kernel
theorem dX5_users_37 : decode cX5_users 37 = .ok (.aload 5, 2) := by decide +kernel
theorem dX5_users_39 : decode cX5_users 39 = .ok (.invokevirtual 252, 3) := by decide +kernel
theorem dX5_users_42 : decode cX5_users 42 = .ok (.ifCond .ne 15, 3) := by decide +kernel
theorem dX5_users_45 : decode cX5_users 45 = .ok (.aload 5, 2) := by decide +kernel
theorem dX5_users_47 : decode cX5_users 47 = .ok (.getfield 314, 3) := by decide +kernel
theorem dX5_users_50 : decode cX5_users 50 = .ok (.iload_n 2, 1) := by decide +kernel
theorem dX5_users_51 : decode cX5_users 51 = .ok (.if_icmp .eq 6, 3) := by decide +kernel
theorem dX5_users_54 : decode cX5_users 54 = .ok (.bipush (-13), 2) := by decide +kernel
theorem dX5_users_56 : decode cX5_users 56 = .ok (.ireturn, 1) := by decide +kernel
theorem dX5_users_57 : decode cX5_users 57 = .ok (.aload 5, 2) := by decide +kernel
theorem dX5_users_59 : decode cX5_users 59 = .ok (.invokevirtual 252, 3) := by decide +kernel
theorem dX5_users_62 : decode cX5_users 62 = .ok (.ifCond .eq 6, 3) := by decide +kernel
theorem dX5_users_65 : decode cX5_users 65 = .ok (.bipush (-11), 2) := by decide +kernel
theorem dX5_users_67 : decode cX5_users 67 = .ok (.ireturn, 1) := by decide +kernel
theorem dX5_users_68 : decode cX5_users 68 = .ok (.iconst 0, 1) := by decide +kernel
theorem dX5_users_69 : decode cX5_users 69 = .ok (.istore 6, 2) := by decide +kernel
theorem dX5_users_71 : decode cX5_users 71 = .ok (.iload_n 3, 1) := by decide +kernel
theorem dX5_users_72 : decode cX5_users 72 = .ok (.istore 7, 2) := by decide +kernel
theorem dX5_users_74 : decode cX5_users 74 = .ok (.iconst 0, 1) := by decide +kernel
theorem dX5_users_75 : decode cX5_users 75 = .ok (.istore 8, 2) := by decide +kernel
theorem dX5_users_77 : decode cX5_users 77 = .ok (.iload 8, 2) := by decide +kernel
theorem dX5_users_79 : decode cX5_users 79 = .ok (.iload 4, 2) := by decide +kernel
theorem dX5_users_81 : decode cX5_users 81 = .ok (.if_icmp .ge 64, 3) := by decide +kernel
theorem dX5_users_84 : decode cX5_users 84 = .ok (.aload 5, 2) := by decide +kernel
theorem dX5_users_86 : decode cX5_users 86 = .ok (.iload 7, 2) := by decide +kernel
theorem dX5_users_88 : decode cX5_users 88 = .ok (.iconst 3, 1) := by decide +kernel
theorem dX5_users_89 : decode cX5_users 89 = .ok (.invokevirtual 317, 3) := by decide +kernel
theorem dX5_users_92 : decode cX5_users 92 = .ok (.ifCond .ne 6, 3) := by decide +kernel
theorem dX5_users_95 : decode cX5_users 95 = .ok (.bipush (-12), 2) := by decide +kernel
theorem dX5_users_97 : decode cX5_users 97 = .ok (.ireturn, 1) := by decide +kernel
theorem dX5_users_98 : decode cX5_users 98 = .ok (.aload_n 0, 1) := by decide +kernel
theorem dX5_users_99 : decode cX5_users 99 = .ok (.aload 5, 2) := by decide +kernel
theorem dX5_users_101 : decode cX5_users 101 = .ok (.getfield 272, 3) := by decide +kernel
theorem dX5_users_104 : decode cX5_users 104 = .ok (.iload 7, 2) := by decide +kernel
theorem dX5_users_106 : decode cX5_users 106 = .ok (.iaload, 1) := by decide +kernel
theorem dX5_users_107 : decode cX5_users 107 = .ok (.aload 5, 2) := by decide +kernel
theorem dX5_users_109 : decode cX5_users 109 = .ok (.getfield 272, 3) := by decide +kernel
theorem dX5_users_112 : decode cX5_users 112 = .ok (.iload 7, 2) := by decide +kernel
theorem dX5_users_114 : decode cX5_users 114 = .ok (.iconst 1, 1) := by decide +kernel
theorem dX5_users_115 : decode cX5_users 115 = .ok (.iadd, 1) := by decide +kernel
theorem dX5_users_116 : decode cX5_users 116 = .ok (.iaload, 1) := by decide +kernel
theorem dX5_users_117 : decode cX5_users 117 = .ok (.aload 5, 2) := by decide +kernel
theorem dX5_users_119 : decode cX5_users 119 = .ok (.getfield 272, 3) := by decide +kernel
theorem dX5_users_122 : decode cX5_users 122 = .ok (.iload 7, 2) := by decide +kernel
theorem dX5_users_124 : decode cX5_users 124 = .ok (.iconst 2, 1) := by decide +kernel
theorem dX5_users_125 : decode cX5_users 125 = .ok (.iadd, 1) := by decide +kernel
theorem dX5_users_126 : decode cX5_users 126 = .ok (.iaload, 1) := by decide +kernel
theorem dX5_users_127 : decode cX5_users 127 = .ok (.invokevirtual 321, 3) := by decide +kernel
theorem dX5_users_130 : decode cX5_users 130 = .ok (.ifCond .lt 6, 3) := by decide +kernel
theorem dX5_users_133 : decode cX5_users 133 = .ok (.iinc 6 1, 3) := by decide +kernel
theorem dX5_users_136 : decode cX5_users 136 = .ok (.iinc 7 3, 3) := by decide +kernel
theorem dX5_users_139 : decode cX5_users 139 = .ok (.iinc 8 1, 3) := by decide +kernel
theorem dX5_users_142 : decode cX5_users 142 = .ok (.goto (-65), 3) := by decide +kernel
theorem dX5_users_145 : decode cX5_users 145 = .ok (.iload 6, 2) := by decide +kernel
theorem dX5_users_147 : decode cX5_users 147 = .ok (.ireturn, 1) := by decide +kernel
theorem dX5_taken_0 : decode cX5_taken 0 = .ok (.iload_n 2, 1) := by decide +kernel
theorem dX5_taken_1 : decode cX5_taken 1 = .ok (.invokestatic 117, 3) := by decide +kernel
theorem dX5_taken_4 : decode cX5_taken 4 = .ok (.ifCond .ne 6, 3) := by decide +kernel
theorem dX5_taken_7 : decode cX5_taken 7 = .ok (.bipush (-2), 2) := by decide +kernel
theorem dX5_taken_9 : decode cX5_taken 9 = .ok (.ireturn, 1) := by decide +kernel
theorem dX5_taken_10 : decode cX5_taken 10 = .ok (.aload_n 0, 1) := by decide +kernel
theorem dX5_taken_11 : decode cX5_taken 11 = .ok (.iload_n 1, 1) := by decide +kernel
theorem dX5_taken_12 : decode cX5_taken 12 = .ok (.invokevirtual 105, 3) := by decide +kernel
theorem dX5_taken_15 : decode cX5_taken 15 = .ok (.ifCond .ne 6, 3) := by decide +kernel
theorem dX5_taken_18 : decode cX5_taken 18 = .ok (.bipush (-11), 2) := by decide +kernel
theorem dX5_taken_20 : decode cX5_taken 20 = .ok (.ireturn, 1) := by decide +kernel
theorem dX5_taken_21 : decode cX5_taken 21 = .ok (.aload_n 0, 1) := by decide +kernel
theorem dX5_taken_22 : decode cX5_taken 22 = .ok (.getfield 19, 3) := by decide +kernel
theorem dX5_taken_25 : decode cX5_taken 25 = .ok (.iload_n 1, 1) := by decide +kernel
theorem dX5_taken_26 : decode cX5_taken 26 = .ok (.aaload, 1) := by decide +kernel
theorem dX5_taken_27 : decode cX5_taken 27 = .ok (.getfield 124, 3) := by decide +kernel
theorem dX5_taken_30 : decode cX5_taken 30 = .ok (.iload_n 2, 1) := by decide +kernel
theorem dX5_taken_31 : decode cX5_taken 31 = .ok (.invokestatic 324, 3) := by decide +kernel
theorem dX5_taken_34 : decode cX5_taken 34 = .ok (.ifCond .eq 15, 3) := by decide +kernel
theorem dX5_taken_37 : decode cX5_taken 37 = .ok (.aload_n 0, 1) := by decide +kernel
theorem dX5_taken_38 : decode cX5_taken 38 = .ok (.getfield 19, 3) := by decide +kernel
theorem dX5_taken_41 : decode cX5_taken 41 = .ok (.iload_n 1, 1) := by decide +kernel
theorem dX5_taken_42 : decode cX5_taken 42 = .ok (.aaload, 1) := by decide +kernel
theorem dX5_taken_43 : decode cX5_taken 43 = .ok (.getfield 108, 3) := by decide +kernel
theorem dX5_taken_46 : decode cX5_taken 46 = .ok (.goto 5, 3) := by decide +kernel
theorem dX5_taken_49 : decode cX5_taken 49 = .ok (.bipush (-13), 2) := by decide +kernel
theorem dX5_taken_51 : decode cX5_taken 51 = .ok (.ireturn, 1) := by decide +kernel
theorem dX5_isUnder_0 : decode cX5_isUnder 0 = .ok (.iload_n 0, 1) := by decide +kernel
theorem dX5_isUnder_1 : decode cX5_isUnder 1 = .ok (.istore_n 2, 1) := by decide +kernel
theorem dX5_isUnder_2 : decode cX5_isUnder 2 = .ok (.iconst 0, 1) := by decide +kernel
theorem dX5_isUnder_3 : decode cX5_isUnder 3 = .ok (.istore_n 3, 1) := by decide +kernel
theorem dX5_isUnder_4 : decode cX5_isUnder 4 = .ok (.iload_n 3, 1) := by decide +kernel
theorem dX5_isUnder_5 : decode cX5_isUnder 5 = .ok (.bipush 6, 2) := by decide +kernel
theorem dX5_isUnder_7 : decode cX5_isUnder 7 = .ok (.if_icmp .ge 32, 3) := by decide +kernel
theorem dX5_isUnder_10 : decode cX5_isUnder 10 = .ok (.iload_n 2, 1) := by decide +kernel
theorem dX5_isUnder_11 : decode cX5_isUnder 11 = .ok (.ifCond .lt 28, 3) := by decide +kernel
theorem dX5_isUnder_14 : decode cX5_isUnder 14 = .ok (.iload_n 2, 1) := by decide +kernel
theorem dX5_isUnder_15 : decode cX5_isUnder 15 = .ok (.bipush 6, 2) := by decide +kernel
theorem dX5_isUnder_17 : decode cX5_isUnder 17 = .ok (.if_icmp .ge 22, 3) := by decide +kernel
theorem dX5_isUnder_20 : decode cX5_isUnder 20 = .ok (.iload_n 2, 1) := by decide +kernel
theorem dX5_isUnder_21 : decode cX5_isUnder 21 = .ok (.iload_n 1, 1) := by decide +kernel
theorem dX5_isUnder_22 : decode cX5_isUnder 22 = .ok (.if_icmp .ne 5, 3) := by decide +kernel
theorem dX5_isUnder_25 : decode cX5_isUnder 25 = .ok (.iconst 1, 1) := by decide +kernel
theorem dX5_isUnder_26 : decode cX5_isUnder 26 = .ok (.ireturn, 1) := by decide +kernel
theorem dX5_isUnder_27 : decode cX5_isUnder 27 = .ok (.getstatic 327, 3) := by decide +kernel
theorem dX5_isUnder_30 : decode cX5_isUnder 30 = .ok (.iload_n 2, 1) := by decide +kernel
theorem dX5_isUnder_31 : decode cX5_isUnder 31 = .ok (.iaload, 1) := by decide +kernel
theorem dX5_isUnder_32 : decode cX5_isUnder 32 = .ok (.istore_n 2, 1) := by decide +kernel
theorem dX5_isUnder_33 : decode cX5_isUnder 33 = .ok (.iinc 3 1, 3) := by decide +kernel
theorem dX5_isUnder_36 : decode cX5_isUnder 36 = .ok (.goto (-32), 3) := by decide +kernel
theorem dX5_isUnder_39 : decode cX5_isUnder 39 = .ok (.iconst 0, 1) := by decide +kernel
theorem dX5_isUnder_40 : decode cX5_isUnder 40 = .ok (.ireturn, 1) := by decide +kernel
