theorem d_Nm_init_0 : decode c_Nm_init 0 = .ok (.aload_n 0, 1) := by decide +kernel
theorem d_Nm_init_1 : decode c_Nm_init 1 = .ok (.invokespecial 1, 3) := by decide +kernel
theorem d_Nm_init_4 : decode c_Nm_init 4 = .ok (.aload_n 0, 1) := by decide +kernel
theorem d_Nm_init_5 : decode c_Nm_init 5 = .ok (.new 7, 3) := by decide +kernel
theorem d_Nm_init_8 : decode c_Nm_init 8 = .ok (.dup, 1) := by decide +kernel
theorem d_Nm_init_9 : decode c_Nm_init 9 = .ok (.invokespecial 9, 3) := by decide +kernel
theorem d_Nm_init_12 : decode c_Nm_init 12 = .ok (.putfield 10, 3) := by decide +kernel
theorem d_Nm_init_15 : decode c_Nm_init 15 = .ok (.aload_n 0, 1) := by decide +kernel
theorem d_Nm_init_16 : decode c_Nm_init 16 = .ok (.new 16, 3) := by decide +kernel
theorem d_Nm_init_19 : decode c_Nm_init 19 = .ok (.dup, 1) := by decide +kernel
theorem d_Nm_init_20 : decode c_Nm_init 20 = .ok (.invokespecial 18, 3) := by decide +kernel
theorem d_Nm_init_23 : decode c_Nm_init 23 = .ok (.putfield 19, 3) := by decide +kernel
theorem d_Nm_init_26 : decode c_Nm_init 26 = .ok (.aload_n 0, 1) := by decide +kernel
theorem d_Nm_init_27 : decode c_Nm_init 27 = .ok (.iconst 2, 1) := by decide +kernel
theorem d_Nm_init_28 : decode c_Nm_init 28 = .ok (.anewarray 23, 3) := by decide +kernel
theorem d_Nm_init_31 : decode c_Nm_init 31 = .ok (.putfield 25, 3) := by decide +kernel
theorem d_Nm_init_34 : decode c_Nm_init 34 = .ok (.iconst 0, 1) := by decide +kernel
theorem d_Nm_init_35 : decode c_Nm_init 35 = .ok (.istore_n 1, 1) := by decide +kernel
theorem d_Nm_init_36 : decode c_Nm_init 36 = .ok (.iload_n 1, 1) := by decide +kernel
theorem d_Nm_init_37 : decode c_Nm_init 37 = .ok (.iconst 2, 1) := by decide +kernel
theorem d_Nm_init_38 : decode c_Nm_init 38 = .ok (.if_icmp .ge 22, 3) := by decide +kernel
theorem d_Nm_init_41 : decode c_Nm_init 41 = .ok (.aload_n 0, 1) := by decide +kernel
theorem d_Nm_init_42 : decode c_Nm_init 42 = .ok (.getfield 25, 3) := by decide +kernel
theorem d_Nm_init_45 : decode c_Nm_init 45 = .ok (.iload_n 1, 1) := by decide +kernel
theorem d_Nm_init_46 : decode c_Nm_init 46 = .ok (.new 23, 3) := by decide +kernel
theorem d_Nm_init_49 : decode c_Nm_init 49 = .ok (.dup, 1) := by decide +kernel
theorem d_Nm_init_50 : decode c_Nm_init 50 = .ok (.invokespecial 29, 3) := by decide +kernel
theorem d_Nm_init_53 : decode c_Nm_init 53 = .ok (.aastore, 1) := by decide +kernel
theorem d_Nm_init_54 : decode c_Nm_init 54 = .ok (.iinc 1 1, 3) := by decide +kernel
theorem d_Nm_init_57 : decode c_Nm_init 57 = .ok (.goto (-21), 3) := by decide +kernel
theorem d_Nm_init_60 : decode c_Nm_init 60 = .ok (.aload_n 0, 1) := by decide +kernel
theorem d_Nm_init_61 : decode c_Nm_init 61 = .ok (.new 30, 3) := by decide +kernel
theorem d_Nm_init_64 : decode c_Nm_init 64 = .ok (.dup, 1) := by decide +kernel
theorem d_Nm_init_65 : decode c_Nm_init 65 = .ok (.invokespecial 32, 3) := by decide +kernel
theorem d_Nm_init_68 : decode c_Nm_init 68 = .ok (.putfield 33, 3) := by decide +kernel
theorem d_Nm_init_71 : decode c_Nm_init 71 = .ok (.aload_n 0, 1) := by decide +kernel
theorem d_Nm_init_72 : decode c_Nm_init 72 = .ok (.getfield 33, 3) := by decide +kernel
theorem d_Nm_init_75 : decode c_Nm_init 75 = .ok (.aload_n 0, 1) := by decide +kernel
theorem d_Nm_init_76 : decode c_Nm_init 76 = .ok (.getfield 10, 3) := by decide +kernel
theorem d_Nm_init_79 : decode c_Nm_init 79 = .ok (.getfield 37, 3) := by decide +kernel
theorem d_Nm_init_82 : decode c_Nm_init 82 = .ok (.invokevirtual 41, 3) := by decide +kernel
theorem d_Nm_init_85 : decode c_Nm_init 85 = .ok (.aload_n 0, 1) := by decide +kernel
theorem d_Nm_init_86 : decode c_Nm_init 86 = .ok (.new 30, 3) := by decide +kernel
theorem d_Nm_init_89 : decode c_Nm_init 89 = .ok (.dup, 1) := by decide +kernel
theorem d_Nm_init_90 : decode c_Nm_init 90 = .ok (.invokespecial 32, 3) := by decide +kernel
theorem d_Nm_init_93 : decode c_Nm_init 93 = .ok (.putfield 45, 3) := by decide +kernel
theorem d_Nm_init_96 : decode c_Nm_init 96 = .ok (.aload_n 0, 1) := by decide +kernel
theorem d_Nm_init_97 : decode c_Nm_init 97 = .ok (.new 48, 3) := by decide +kernel
theorem d_Nm_init_100 : decode c_Nm_init 100 = .ok (.dup, 1) := by decide +kernel
theorem d_Nm_init_101 : decode c_Nm_init 101 = .ok (.invokespecial 50, 3) := by decide +kernel
theorem d_Nm_init_104 : decode c_Nm_init 104 = .ok (.putfield 51, 3) := by decide +kernel
theorem d_Nm_init_107 : decode c_Nm_init 107 = .ok (.aload_n 0, 1) := by decide +kernel
theorem d_Nm_init_108 : decode c_Nm_init 108 = .ok (.new 55, 3) := by decide +kernel
theorem d_Nm_init_111 : decode c_Nm_init 111 = .ok (.dup, 1) := by decide +kernel
theorem d_Nm_init_112 : decode c_Nm_init 112 = .ok (.invokespecial 57, 3) := by decide +kernel
theorem d_Nm_init_115 : decode c_Nm_init 115 = .ok (.putfield 58, 3) := by decide +kernel
theorem d_Nm_init_118 : decode c_Nm_init 118 = .ok (.aload_n 0, 1) := by decide +kernel
theorem d_Nm_init_119 : decode c_Nm_init 119 = .ok (.new 62, 3) := by decide +kernel
theorem d_Nm_init_122 : decode c_Nm_init 122 = .ok (.dup, 1) := by decide +kernel
theorem d_Nm_init_123 : decode c_Nm_init 123 = .ok (.invokespecial 64, 3) := by decide +kernel
theorem d_Nm_init_126 : decode c_Nm_init 126 = .ok (.putfield 65, 3) := by decide +kernel
theorem d_Nm_init_129 : decode c_Nm_init 129 = .ok (.aload_n 0, 1) := by decide +kernel
theorem d_Nm_init_130 : decode c_Nm_init 130 = .ok (.new 69, 3) := by decide +kernel
theorem d_Nm_init_133 : decode c_Nm_init 133 = .ok (.dup, 1) := by decide +kernel
theorem d_Nm_init_134 : decode c_Nm_init 134 = .ok (.invokespecial 71, 3) := by decide +kernel
theorem d_Nm_init_137 : decode c_Nm_init 137 = .ok (.putfield 72, 3) := by decide +kernel
theorem d_Nm_init_140 : decode c_Nm_init 140 = .ok (.aload_n 0, 1) := by decide +kernel
theorem d_Nm_init_141 : decode c_Nm_init 141 = .ok (.new 76, 3) := by decide +kernel
theorem d_Nm_init_144 : decode c_Nm_init 144 = .ok (.dup, 1) := by decide +kernel
theorem d_Nm_init_145 : decode c_Nm_init 145 = .ok (.invokespecial 78, 3) := by decide +kernel
theorem d_Nm_init_148 : decode c_Nm_init 148 = .ok (.putfield 79, 3) := by decide +kernel
theorem d_Nm_init_151 : decode c_Nm_init 151 = .ok (.return_, 1) := by decide +kernel
theorem d_Nm_told_0 : decode c_Nm_told 0 = .ok (.iload_n 1, 1) := by decide +kernel
theorem d_Nm_told_1 : decode c_Nm_told 1 = .ok (.tableswitch 256 0 16 #[83, 91, 99, 110, 125, 131, 143, 152, 157, 169, 181, 189, 204, 216, 228, 236, 248], 83) := by decide +kernel
theorem d_Nm_told_84 : decode c_Nm_told 84 = .ok (.aload_n 0, 1) := by decide +kernel
theorem d_Nm_told_85 : decode c_Nm_told 85 = .ok (.getfield 10, 3) := by decide +kernel
theorem d_Nm_told_88 : decode c_Nm_told 88 = .ok (.getfield 83, 3) := by decide +kernel
theorem d_Nm_told_91 : decode c_Nm_told 91 = .ok (.ireturn, 1) := by decide +kernel
theorem d_Nm_told_92 : decode c_Nm_told 92 = .ok (.aload_n 0, 1) := by decide +kernel
theorem d_Nm_told_93 : decode c_Nm_told 93 = .ok (.getfield 33, 3) := by decide +kernel
theorem d_Nm_told_96 : decode c_Nm_told 96 = .ok (.getfield 87, 3) := by decide +kernel
theorem d_Nm_told_99 : decode c_Nm_told 99 = .ok (.ireturn, 1) := by decide +kernel
theorem d_Nm_told_100 : decode c_Nm_told 100 = .ok (.aload_n 0, 1) := by decide +kernel
theorem d_Nm_told_101 : decode c_Nm_told 101 = .ok (.getfield 10, 3) := by decide +kernel
theorem d_Nm_told_104 : decode c_Nm_told 104 = .ok (.getfield 88, 3) := by decide +kernel
theorem d_Nm_told_107 : decode c_Nm_told 107 = .ok (.invokestatic 91, 3) := by decide +kernel
theorem d_Nm_told_110 : decode c_Nm_told 110 = .ok (.ireturn, 1) := by decide +kernel
theorem d_Nm_told_111 : decode c_Nm_told 111 = .ok (.aload_n 0, 1) := by decide +kernel
theorem d_Nm_told_112 : decode c_Nm_told 112 = .ok (.getfield 10, 3) := by decide +kernel
theorem d_Nm_told_115 : decode c_Nm_told 115 = .ok (.aload_n 0, 1) := by decide +kernel
theorem d_Nm_told_116 : decode c_Nm_told 116 = .ok (.getfield 10, 3) := by decide +kernel
theorem d_Nm_told_119 : decode c_Nm_told 119 = .ok (.getfield 88, 3) := by decide +kernel
theorem d_Nm_told_122 : decode c_Nm_told 122 = .ok (.invokevirtual 97, 3) := by decide +kernel
theorem d_Nm_told_125 : decode c_Nm_told 125 = .ok (.ireturn, 1) := by decide +kernel
theorem d_Nm_told_126 : decode c_Nm_told 126 = .ok (.aload_n 0, 1) := by decide +kernel
theorem d_Nm_told_127 : decode c_Nm_told 127 = .ok (.iconst (-1), 1) := by decide +kernel
theorem d_Nm_told_128 : decode c_Nm_told 128 = .ok (.invokevirtual 100, 3) := by decide +kernel
theorem d_Nm_told_131 : decode c_Nm_told 131 = .ok (.ireturn, 1) := by decide +kernel
theorem d_Nm_told_132 : decode c_Nm_told 132 = .ok (.aload_n 0, 1) := by decide +kernel
theorem d_Nm_told_133 : decode c_Nm_told 133 = .ok (.aload_n 0, 1) := by decide +kernel
theorem d_Nm_told_134 : decode c_Nm_told 134 = .ok (.getfield 33, 3) := by decide +kernel
theorem d_Nm_told_137 : decode c_Nm_told 137 = .ok (.invokevirtual 104, 3) := by decide +kernel
theorem d_Nm_told_140 : decode c_Nm_told 140 = .ok (.invokevirtual 100, 3) := by decide +kernel
theorem d_Nm_told_143 : decode c_Nm_told 143 = .ok (.ireturn, 1) := by decide +kernel
theorem d_Nm_told_144 : decode c_Nm_told 144 = .ok (.aload_n 0, 1) := by decide +kernel
theorem d_Nm_told_145 : decode c_Nm_told 145 = .ok (.getfield 10, 3) := by decide +kernel
theorem d_Nm_told_148 : decode c_Nm_told 148 = .ok (.iconst 0, 1) := by decide +kernel
theorem d_Nm_told_149 : decode c_Nm_told 149 = .ok (.invokevirtual 108, 3) := by decide +kernel
theorem d_Nm_told_152 : decode c_Nm_told 152 = .ok (.ireturn, 1) := by decide +kernel
theorem d_Nm_told_153 : decode c_Nm_told 153 = .ok (.aload_n 0, 1) := by decide +kernel
theorem d_Nm_told_154 : decode c_Nm_told 154 = .ok (.invokevirtual 111, 3) := by decide +kernel
theorem d_Nm_told_157 : decode c_Nm_told 157 = .ok (.ireturn, 1) := by decide +kernel
theorem d_Nm_told_158 : decode c_Nm_told 158 = .ok (.aload_n 0, 1) := by decide +kernel
theorem d_Nm_told_159 : decode c_Nm_told 159 = .ok (.getfield 58, 3) := by decide +kernel
theorem d_Nm_told_162 : decode c_Nm_told 162 = .ok (.aload_n 0, 1) := by decide +kernel
theorem d_Nm_told_163 : decode c_Nm_told 163 = .ok (.getfield 10, 3) := by decide +kernel
theorem d_Nm_told_166 : decode c_Nm_told 166 = .ok (.invokevirtual 114, 3) := by decide +kernel
theorem d_Nm_told_169 : decode c_Nm_told 169 = .ok (.ireturn, 1) := by decide +kernel
theorem d_Nm_told_170 : decode c_Nm_told 170 = .ok (.aload_n 0, 1) := by decide +kernel
theorem d_Nm_told_171 : decode c_Nm_told 171 = .ok (.getfield 58, 3) := by decide +kernel
theorem d_Nm_told_174 : decode c_Nm_told 174 = .ok (.aload_n 0, 1) := by decide +kernel
theorem d_Nm_told_175 : decode c_Nm_told 175 = .ok (.getfield 10, 3) := by decide +kernel
theorem d_Nm_told_178 : decode c_Nm_told 178 = .ok (.invokevirtual 118, 3) := by decide +kernel
theorem d_Nm_told_181 : decode c_Nm_told 181 = .ok (.ireturn, 1) := by decide +kernel
theorem d_Nm_told_182 : decode c_Nm_told 182 = .ok (.aload_n 0, 1) := by decide +kernel
theorem d_Nm_told_183 : decode c_Nm_told 183 = .ok (.getfield 65, 3) := by decide +kernel
theorem d_Nm_told_186 : decode c_Nm_told 186 = .ok (.getfield 121, 3) := by decide +kernel
theorem d_Nm_told_189 : decode c_Nm_told 189 = .ok (.ireturn, 1) := by decide +kernel
theorem d_Nm_told_190 : decode c_Nm_told 190 = .ok (.aload_n 0, 1) := by decide +kernel
theorem d_Nm_told_191 : decode c_Nm_told 191 = .ok (.getfield 65, 3) := by decide +kernel
theorem d_Nm_told_194 : decode c_Nm_told 194 = .ok (.aload_n 0, 1) := by decide +kernel
theorem d_Nm_told_195 : decode c_Nm_told 195 = .ok (.getfield 10, 3) := by decide +kernel
theorem d_Nm_told_198 : decode c_Nm_told 198 = .ok (.invokevirtual 122, 3) := by decide +kernel
theorem d_Nm_told_201 : decode c_Nm_told 201 = .ok (.invokestatic 91, 3) := by decide +kernel
theorem d_Nm_told_204 : decode c_Nm_told 204 = .ok (.ireturn, 1) := by decide +kernel
theorem d_Nm_told_205 : decode c_Nm_told 205 = .ok (.aload_n 0, 1) := by decide +kernel
theorem d_Nm_told_206 : decode c_Nm_told 206 = .ok (.getfield 65, 3) := by decide +kernel
theorem d_Nm_told_209 : decode c_Nm_told 209 = .ok (.aload_n 0, 1) := by decide +kernel
theorem d_Nm_told_210 : decode c_Nm_told 210 = .ok (.getfield 10, 3) := by decide +kernel
theorem d_Nm_told_213 : decode c_Nm_told 213 = .ok (.invokevirtual 126, 3) := by decide +kernel
theorem d_Nm_told_216 : decode c_Nm_told 216 = .ok (.ireturn, 1) := by decide +kernel
theorem d_Nm_told_217 : decode c_Nm_told 217 = .ok (.aload_n 0, 1) := by decide +kernel
theorem d_Nm_told_218 : decode c_Nm_told 218 = .ok (.getfield 65, 3) := by decide +kernel
theorem d_Nm_told_221 : decode c_Nm_told 221 = .ok (.aload_n 0, 1) := by decide +kernel
theorem d_Nm_told_222 : decode c_Nm_told 222 = .ok (.getfield 10, 3) := by decide +kernel
theorem d_Nm_told_225 : decode c_Nm_told 225 = .ok (.invokevirtual 129, 3) := by decide +kernel
theorem d_Nm_told_228 : decode c_Nm_told 228 = .ok (.ireturn, 1) := by decide +kernel
theorem d_Nm_told_229 : decode c_Nm_told 229 = .ok (.aload_n 0, 1) := by decide +kernel
theorem d_Nm_told_230 : decode c_Nm_told 230 = .ok (.getfield 72, 3) := by decide +kernel
theorem d_Nm_told_233 : decode c_Nm_told 233 = .ok (.getfield 132, 3) := by decide +kernel
theorem d_Nm_told_236 : decode c_Nm_told 236 = .ok (.ireturn, 1) := by decide +kernel
theorem d_Nm_told_237 : decode c_Nm_told 237 = .ok (.aload_n 0, 1) := by decide +kernel
theorem d_Nm_told_238 : decode c_Nm_told 238 = .ok (.getfield 72, 3) := by decide +kernel
theorem d_Nm_told_241 : decode c_Nm_told 241 = .ok (.aload_n 0, 1) := by decide +kernel
theorem d_Nm_told_242 : decode c_Nm_told 242 = .ok (.getfield 10, 3) := by decide +kernel
theorem d_Nm_told_245 : decode c_Nm_told 245 = .ok (.invokevirtual 133, 3) := by decide +kernel
theorem d_Nm_told_248 : decode c_Nm_told 248 = .ok (.ireturn, 1) := by decide +kernel
theorem d_Nm_told_249 : decode c_Nm_told 249 = .ok (.aload_n 0, 1) := by decide +kernel
theorem d_Nm_told_250 : decode c_Nm_told 250 = .ok (.getfield 19, 3) := by decide +kernel
theorem d_Nm_told_253 : decode c_Nm_told 253 = .ok (.getfield 136, 3) := by decide +kernel
theorem d_Nm_told_256 : decode c_Nm_told 256 = .ok (.ireturn, 1) := by decide +kernel
theorem d_Nm_told_257 : decode c_Nm_told 257 = .ok (.ldc 137, 2) := by decide +kernel
theorem d_Nm_told_259 : decode c_Nm_told 259 = .ok (.ireturn, 1) := by decide +kernel
theorem d_Nm_hand_0 : decode c_Nm_hand 0 = .ok (.aload_n 0, 1) := by decide +kernel
theorem d_Nm_hand_1 : decode c_Nm_hand 1 = .ok (.getfield 10, 3) := by decide +kernel
theorem d_Nm_hand_4 : decode c_Nm_hand 4 = .ok (.getfield 88, 3) := by decide +kernel
theorem d_Nm_hand_7 : decode c_Nm_hand 7 = .ok (.lreturn, 1) := by decide +kernel
theorem d_Nm_markAt_0 : decode c_Nm_markAt 0 = .ok (.aload_n 0, 1) := by decide +kernel
theorem d_Nm_markAt_1 : decode c_Nm_markAt 1 = .ok (.getfield 10, 3) := by decide +kernel
theorem d_Nm_markAt_4 : decode c_Nm_markAt 4 = .ok (.iload_n 1, 1) := by decide +kernel
theorem d_Nm_markAt_5 : decode c_Nm_markAt 5 = .ok (.invokevirtual 138, 3) := by decide +kernel
theorem d_Nm_markAt_8 : decode c_Nm_markAt 8 = .ok (.ifCond .eq 15, 3) := by decide +kernel
theorem d_Nm_markAt_11 : decode c_Nm_markAt 11 = .ok (.aload_n 0, 1) := by decide +kernel
theorem d_Nm_markAt_12 : decode c_Nm_markAt 12 = .ok (.getfield 10, 3) := by decide +kernel
theorem d_Nm_markAt_15 : decode c_Nm_markAt 15 = .ok (.getfield 142, 3) := by decide +kernel
theorem d_Nm_markAt_18 : decode c_Nm_markAt 18 = .ok (.iload_n 1, 1) := by decide +kernel
theorem d_Nm_markAt_19 : decode c_Nm_markAt 19 = .ok (.laload, 1) := by decide +kernel
theorem d_Nm_markAt_20 : decode c_Nm_markAt 20 = .ok (.goto 4, 3) := by decide +kernel
theorem d_Nm_markAt_23 : decode c_Nm_markAt 23 = .ok (.lconst 0, 1) := by decide +kernel
theorem d_Nm_markAt_24 : decode c_Nm_markAt 24 = .ok (.lreturn, 1) := by decide +kernel
theorem d_Nm_mark_0 : decode c_Nm_mark 0 = .ok (.aload_n 0, 1) := by decide +kernel
theorem d_Nm_mark_1 : decode c_Nm_mark 1 = .ok (.getfield 10, 3) := by decide +kernel
theorem d_Nm_mark_4 : decode c_Nm_mark 4 = .ok (.iload_n 1, 1) := by decide +kernel
theorem d_Nm_mark_5 : decode c_Nm_mark 5 = .ok (.invokevirtual 138, 3) := by decide +kernel
theorem d_Nm_mark_8 : decode c_Nm_mark 8 = .ok (.ifCond .ne 6, 3) := by decide +kernel
theorem d_Nm_mark_11 : decode c_Nm_mark 11 = .ok (.ldc 146, 2) := by decide +kernel
theorem d_Nm_mark_13 : decode c_Nm_mark 13 = .ok (.ireturn, 1) := by decide +kernel
theorem d_Nm_mark_14 : decode c_Nm_mark 14 = .ok (.iload_n 2, 1) := by decide +kernel
theorem d_Nm_mark_15 : decode c_Nm_mark 15 = .ok (.tableswitch 111 0 4 #[33, 43, 56, 65, 78], 33) := by decide +kernel
theorem d_Nm_mark_48 : decode c_Nm_mark 48 = .ok (.aload_n 0, 1) := by decide +kernel
theorem d_Nm_mark_49 : decode c_Nm_mark 49 = .ok (.getfield 10, 3) := by decide +kernel
theorem d_Nm_mark_52 : decode c_Nm_mark 52 = .ok (.getfield 147, 3) := by decide +kernel
theorem d_Nm_mark_55 : decode c_Nm_mark 55 = .ok (.iload_n 1, 1) := by decide +kernel
theorem d_Nm_mark_56 : decode c_Nm_mark 56 = .ok (.iaload, 1) := by decide +kernel
theorem d_Nm_mark_57 : decode c_Nm_mark 57 = .ok (.ireturn, 1) := by decide +kernel
theorem d_Nm_mark_58 : decode c_Nm_mark 58 = .ok (.aload_n 0, 1) := by decide +kernel
theorem d_Nm_mark_59 : decode c_Nm_mark 59 = .ok (.getfield 10, 3) := by decide +kernel
theorem d_Nm_mark_62 : decode c_Nm_mark 62 = .ok (.getfield 142, 3) := by decide +kernel
theorem d_Nm_mark_65 : decode c_Nm_mark 65 = .ok (.iload_n 1, 1) := by decide +kernel
theorem d_Nm_mark_66 : decode c_Nm_mark 66 = .ok (.laload, 1) := by decide +kernel
theorem d_Nm_mark_67 : decode c_Nm_mark 67 = .ok (.invokestatic 91, 3) := by decide +kernel
theorem d_Nm_mark_70 : decode c_Nm_mark 70 = .ok (.ireturn, 1) := by decide +kernel
theorem d_Nm_mark_71 : decode c_Nm_mark 71 = .ok (.aload_n 0, 1) := by decide +kernel
theorem d_Nm_mark_72 : decode c_Nm_mark 72 = .ok (.getfield 10, 3) := by decide +kernel
theorem d_Nm_mark_75 : decode c_Nm_mark 75 = .ok (.iload_n 1, 1) := by decide +kernel
theorem d_Nm_mark_76 : decode c_Nm_mark 76 = .ok (.invokevirtual 151, 3) := by decide +kernel
theorem d_Nm_mark_79 : decode c_Nm_mark 79 = .ok (.ireturn, 1) := by decide +kernel
theorem d_Nm_mark_80 : decode c_Nm_mark 80 = .ok (.aload_n 0, 1) := by decide +kernel
theorem d_Nm_mark_81 : decode c_Nm_mark 81 = .ok (.iload_n 1, 1) := by decide +kernel
theorem d_Nm_mark_82 : decode c_Nm_mark 82 = .ok (.aload_n 0, 1) := by decide +kernel
theorem d_Nm_mark_83 : decode c_Nm_mark 83 = .ok (.getfield 33, 3) := by decide +kernel
theorem d_Nm_mark_86 : decode c_Nm_mark 86 = .ok (.invokevirtual 104, 3) := by decide +kernel
theorem d_Nm_mark_89 : decode c_Nm_mark 89 = .ok (.invokevirtual 154, 3) := by decide +kernel
theorem d_Nm_mark_92 : decode c_Nm_mark 92 = .ok (.ireturn, 1) := by decide +kernel
theorem d_Nm_mark_93 : decode c_Nm_mark 93 = .ok (.aload_n 0, 1) := by decide +kernel
theorem d_Nm_mark_94 : decode c_Nm_mark 94 = .ok (.getfield 33, 3) := by decide +kernel
theorem d_Nm_mark_97 : decode c_Nm_mark 97 = .ok (.aload_n 0, 1) := by decide +kernel
theorem d_Nm_mark_98 : decode c_Nm_mark 98 = .ok (.getfield 10, 3) := by decide +kernel
theorem d_Nm_mark_101 : decode c_Nm_mark 101 = .ok (.getfield 142, 3) := by decide +kernel
theorem d_Nm_mark_104 : decode c_Nm_mark 104 = .ok (.iload_n 1, 1) := by decide +kernel
theorem d_Nm_mark_105 : decode c_Nm_mark 105 = .ok (.laload, 1) := by decide +kernel
theorem d_Nm_mark_106 : decode c_Nm_mark 106 = .ok (.aload_n 0, 1) := by decide +kernel
theorem d_Nm_mark_107 : decode c_Nm_mark 107 = .ok (.getfield 10, 3) := by decide +kernel
theorem d_Nm_mark_110 : decode c_Nm_mark 110 = .ok (.getfield 88, 3) := by decide +kernel
theorem d_Nm_mark_113 : decode c_Nm_mark 113 = .ok (.lxor, 1) := by decide +kernel
theorem d_Nm_mark_114 : decode c_Nm_mark 114 = .ok (.invokevirtual 158, 3) := by decide +kernel
theorem d_Nm_mark_117 : decode c_Nm_mark 117 = .ok (.ifCond .eq 7, 3) := by decide +kernel
theorem d_Nm_mark_120 : decode c_Nm_mark 120 = .ok (.iconst 1, 1) := by decide +kernel
theorem d_Nm_mark_121 : decode c_Nm_mark 121 = .ok (.goto 4, 3) := by decide +kernel
theorem d_Nm_mark_124 : decode c_Nm_mark 124 = .ok (.iconst 0, 1) := by decide +kernel
theorem d_Nm_mark_125 : decode c_Nm_mark 125 = .ok (.ireturn, 1) := by decide +kernel
theorem d_Nm_mark_126 : decode c_Nm_mark 126 = .ok (.ldc 137, 2) := by decide +kernel
theorem d_Nm_mark_128 : decode c_Nm_mark 128 = .ok (.ireturn, 1) := by decide +kernel
theorem d_Nm_part_0 : decode c_Nm_part 0 = .ok (.iload_n 1, 1) := by decide +kernel
theorem d_Nm_part_1 : decode c_Nm_part 1 = .ok (.ifCond .lt 14, 3) := by decide +kernel
theorem d_Nm_part_4 : decode c_Nm_part 4 = .ok (.iload_n 1, 1) := by decide +kernel
theorem d_Nm_part_5 : decode c_Nm_part 5 = .ok (.aload_n 0, 1) := by decide +kernel
theorem d_Nm_part_6 : decode c_Nm_part 6 = .ok (.getfield 33, 3) := by decide +kernel
theorem d_Nm_part_9 : decode c_Nm_part 9 = .ok (.getfield 87, 3) := by decide +kernel
theorem d_Nm_part_12 : decode c_Nm_part 12 = .ok (.if_icmp .lt 6, 3) := by decide +kernel
theorem d_Nm_part_15 : decode c_Nm_part 15 = .ok (.ldc 146, 2) := by decide +kernel
theorem d_Nm_part_17 : decode c_Nm_part 17 = .ok (.ireturn, 1) := by decide +kernel
theorem d_Nm_part_18 : decode c_Nm_part 18 = .ok (.iload_n 2, 1) := by decide +kernel
theorem d_Nm_part_19 : decode c_Nm_part 19 = .ok (.tableswitch 62 0 2 #[25, 35, 48], 25) := by decide +kernel
theorem d_Nm_part_44 : decode c_Nm_part 44 = .ok (.aload_n 0, 1) := by decide +kernel
theorem d_Nm_part_45 : decode c_Nm_part 45 = .ok (.getfield 33, 3) := by decide +kernel
theorem d_Nm_part_48 : decode c_Nm_part 48 = .ok (.getfield 162, 3) := by decide +kernel
theorem d_Nm_part_51 : decode c_Nm_part 51 = .ok (.iload_n 1, 1) := by decide +kernel
theorem d_Nm_part_52 : decode c_Nm_part 52 = .ok (.iaload, 1) := by decide +kernel
theorem d_Nm_part_53 : decode c_Nm_part 53 = .ok (.ireturn, 1) := by decide +kernel
theorem d_Nm_part_54 : decode c_Nm_part 54 = .ok (.aload_n 0, 1) := by decide +kernel
theorem d_Nm_part_55 : decode c_Nm_part 55 = .ok (.getfield 33, 3) := by decide +kernel
theorem d_Nm_part_58 : decode c_Nm_part 58 = .ok (.getfield 165, 3) := by decide +kernel
theorem d_Nm_part_61 : decode c_Nm_part 61 = .ok (.iload_n 1, 1) := by decide +kernel
theorem d_Nm_part_62 : decode c_Nm_part 62 = .ok (.laload, 1) := by decide +kernel
theorem d_Nm_part_63 : decode c_Nm_part 63 = .ok (.invokestatic 91, 3) := by decide +kernel
theorem d_Nm_part_66 : decode c_Nm_part 66 = .ok (.ireturn, 1) := by decide +kernel
theorem d_Nm_part_67 : decode c_Nm_part 67 = .ok (.aload_n 0, 1) := by decide +kernel
theorem d_Nm_part_68 : decode c_Nm_part 68 = .ok (.aload_n 0, 1) := by decide +kernel
theorem d_Nm_part_69 : decode c_Nm_part 69 = .ok (.getfield 33, 3) := by decide +kernel
theorem d_Nm_part_72 : decode c_Nm_part 72 = .ok (.getfield 165, 3) := by decide +kernel
theorem d_Nm_part_75 : decode c_Nm_part 75 = .ok (.iload_n 1, 1) := by decide +kernel
theorem d_Nm_part_76 : decode c_Nm_part 76 = .ok (.laload, 1) := by decide +kernel
theorem d_Nm_part_77 : decode c_Nm_part 77 = .ok (.invokevirtual 168, 3) := by decide +kernel
theorem d_Nm_part_80 : decode c_Nm_part 80 = .ok (.ireturn, 1) := by decide +kernel
theorem d_Nm_part_81 : decode c_Nm_part 81 = .ok (.ldc 137, 2) := by decide +kernel
theorem d_Nm_part_83 : decode c_Nm_part 83 = .ok (.ireturn, 1) := by decide +kernel
theorem d_Nm_countLookedAt_0 : decode c_Nm_countLookedAt 0 = .ok (.iconst 0, 1) := by decide +kernel
theorem d_Nm_countLookedAt_1 : decode c_Nm_countLookedAt 1 = .ok (.istore_n 2, 1) := by decide +kernel
theorem d_Nm_countLookedAt_2 : decode c_Nm_countLookedAt 2 = .ok (.iconst 0, 1) := by decide +kernel
theorem d_Nm_countLookedAt_3 : decode c_Nm_countLookedAt 3 = .ok (.istore_n 3, 1) := by decide +kernel
theorem d_Nm_countLookedAt_4 : decode c_Nm_countLookedAt 4 = .ok (.iload_n 3, 1) := by decide +kernel
theorem d_Nm_countLookedAt_5 : decode c_Nm_countLookedAt 5 = .ok (.aload_n 0, 1) := by decide +kernel
theorem d_Nm_countLookedAt_6 : decode c_Nm_countLookedAt 6 = .ok (.getfield 10, 3) := by decide +kernel
theorem d_Nm_countLookedAt_9 : decode c_Nm_countLookedAt 9 = .ok (.getfield 83, 3) := by decide +kernel
theorem d_Nm_countLookedAt_12 : decode c_Nm_countLookedAt 12 = .ok (.if_icmp .ge 51, 3) := by decide +kernel
theorem d_Nm_countLookedAt_15 : decode c_Nm_countLookedAt 15 = .ok (.aload_n 0, 1) := by decide +kernel
theorem d_Nm_countLookedAt_16 : decode c_Nm_countLookedAt 16 = .ok (.getfield 10, 3) := by decide +kernel
theorem d_Nm_countLookedAt_19 : decode c_Nm_countLookedAt 19 = .ok (.iload_n 3, 1) := by decide +kernel
theorem d_Nm_countLookedAt_20 : decode c_Nm_countLookedAt 20 = .ok (.invokevirtual 151, 3) := by decide +kernel
theorem d_Nm_countLookedAt_23 : decode c_Nm_countLookedAt 23 = .ok (.iload_n 1, 1) := by decide +kernel
theorem d_Nm_countLookedAt_24 : decode c_Nm_countLookedAt 24 = .ok (.if_icmp .le 33, 3) := by decide +kernel
theorem d_Nm_countLookedAt_27 : decode c_Nm_countLookedAt 27 = .ok (.aload_n 0, 1) := by decide +kernel
theorem d_Nm_countLookedAt_28 : decode c_Nm_countLookedAt 28 = .ok (.getfield 33, 3) := by decide +kernel
theorem d_Nm_countLookedAt_31 : decode c_Nm_countLookedAt 31 = .ok (.aload_n 0, 1) := by decide +kernel
theorem d_Nm_countLookedAt_32 : decode c_Nm_countLookedAt 32 = .ok (.getfield 10, 3) := by decide +kernel
theorem d_Nm_countLookedAt_35 : decode c_Nm_countLookedAt 35 = .ok (.getfield 142, 3) := by decide +kernel
theorem d_Nm_countLookedAt_38 : decode c_Nm_countLookedAt 38 = .ok (.iload_n 3, 1) := by decide +kernel
theorem d_Nm_countLookedAt_39 : decode c_Nm_countLookedAt 39 = .ok (.laload, 1) := by decide +kernel
theorem d_Nm_countLookedAt_40 : decode c_Nm_countLookedAt 40 = .ok (.aload_n 0, 1) := by decide +kernel
theorem d_Nm_countLookedAt_41 : decode c_Nm_countLookedAt 41 = .ok (.getfield 10, 3) := by decide +kernel
theorem d_Nm_countLookedAt_44 : decode c_Nm_countLookedAt 44 = .ok (.getfield 88, 3) := by decide +kernel
theorem d_Nm_countLookedAt_47 : decode c_Nm_countLookedAt 47 = .ok (.lxor, 1) := by decide +kernel
theorem d_Nm_countLookedAt_48 : decode c_Nm_countLookedAt 48 = .ok (.invokevirtual 158, 3) := by decide +kernel
theorem d_Nm_countLookedAt_51 : decode c_Nm_countLookedAt 51 = .ok (.ifCond .eq 6, 3) := by decide +kernel
theorem d_Nm_countLookedAt_54 : decode c_Nm_countLookedAt 54 = .ok (.iinc 2 1, 3) := by decide +kernel
theorem d_Nm_countLookedAt_57 : decode c_Nm_countLookedAt 57 = .ok (.iinc 3 1, 3) := by decide +kernel
theorem d_Nm_countLookedAt_60 : decode c_Nm_countLookedAt 60 = .ok (.goto (-56), 3) := by decide +kernel
theorem d_Nm_countLookedAt_63 : decode c_Nm_countLookedAt 63 = .ok (.iload_n 2, 1) := by decide +kernel
theorem d_Nm_countLookedAt_64 : decode c_Nm_countLookedAt 64 = .ok (.ireturn, 1) := by decide +kernel
theorem d_Nm_leastDistance_0 : decode c_Nm_leastDistance 0 = .ok (.aload_n 0, 1) := by decide +kernel
theorem d_Nm_leastDistance_1 : decode c_Nm_leastDistance 1 = .ok (.getfield 10, 3) := by decide +kernel
theorem d_Nm_leastDistance_4 : decode c_Nm_leastDistance 4 = .ok (.iconst 0, 1) := by decide +kernel
theorem d_Nm_leastDistance_5 : decode c_Nm_leastDistance 5 = .ok (.invokevirtual 108, 3) := by decide +kernel
theorem d_Nm_leastDistance_8 : decode c_Nm_leastDistance 8 = .ok (.istore_n 1, 1) := by decide +kernel
theorem d_Nm_leastDistance_9 : decode c_Nm_leastDistance 9 = .ok (.aload_n 0, 1) := by decide +kernel
theorem d_Nm_leastDistance_10 : decode c_Nm_leastDistance 10 = .ok (.getfield 10, 3) := by decide +kernel
theorem d_Nm_leastDistance_13 : decode c_Nm_leastDistance 13 = .ok (.iload_n 1, 1) := by decide +kernel
theorem d_Nm_leastDistance_14 : decode c_Nm_leastDistance 14 = .ok (.invokevirtual 138, 3) := by decide +kernel
theorem d_Nm_leastDistance_17 : decode c_Nm_leastDistance 17 = .ok (.ifCond .eq 14, 3) := by decide +kernel
theorem d_Nm_leastDistance_20 : decode c_Nm_leastDistance 20 = .ok (.aload_n 0, 1) := by decide +kernel
theorem d_Nm_leastDistance_21 : decode c_Nm_leastDistance 21 = .ok (.getfield 10, 3) := by decide +kernel
theorem d_Nm_leastDistance_24 : decode c_Nm_leastDistance 24 = .ok (.iload_n 1, 1) := by decide +kernel
theorem d_Nm_leastDistance_25 : decode c_Nm_leastDistance 25 = .ok (.invokevirtual 151, 3) := by decide +kernel
theorem d_Nm_leastDistance_28 : decode c_Nm_leastDistance 28 = .ok (.goto 4, 3) := by decide +kernel
theorem d_Nm_leastDistance_31 : decode c_Nm_leastDistance 31 = .ok (.iconst (-1), 1) := by decide +kernel
theorem d_Nm_leastDistance_32 : decode c_Nm_leastDistance 32 = .ok (.ireturn, 1) := by decide +kernel
theorem d_Nm_countOthersWithin_0 : decode c_Nm_countOthersWithin 0 = .ok (.iconst 0, 1) := by decide +kernel
theorem d_Nm_countOthersWithin_1 : decode c_Nm_countOthersWithin 1 = .ok (.istore_n 3, 1) := by decide +kernel
theorem d_Nm_countOthersWithin_2 : decode c_Nm_countOthersWithin 2 = .ok (.iconst 0, 1) := by decide +kernel
theorem d_Nm_countOthersWithin_3 : decode c_Nm_countOthersWithin 3 = .ok (.istore 4, 2) := by decide +kernel
theorem d_Nm_countOthersWithin_5 : decode c_Nm_countOthersWithin 5 = .ok (.iload 4, 2) := by decide +kernel
theorem d_Nm_countOthersWithin_7 : decode c_Nm_countOthersWithin 7 = .ok (.aload_n 0, 1) := by decide +kernel
theorem d_Nm_countOthersWithin_8 : decode c_Nm_countOthersWithin 8 = .ok (.getfield 10, 3) := by decide +kernel
theorem d_Nm_countOthersWithin_11 : decode c_Nm_countOthersWithin 11 = .ok (.getfield 83, 3) := by decide +kernel
theorem d_Nm_countOthersWithin_14 : decode c_Nm_countOthersWithin 14 = .ok (.if_icmp .ge 32, 3) := by decide +kernel
theorem d_Nm_countOthersWithin_17 : decode c_Nm_countOthersWithin 17 = .ok (.iload 4, 2) := by decide +kernel
theorem d_Nm_countOthersWithin_19 : decode c_Nm_countOthersWithin 19 = .ok (.iload_n 1, 1) := by decide +kernel
theorem d_Nm_countOthersWithin_20 : decode c_Nm_countOthersWithin 20 = .ok (.if_icmp .eq 20, 3) := by decide +kernel
theorem d_Nm_countOthersWithin_23 : decode c_Nm_countOthersWithin 23 = .ok (.aload_n 0, 1) := by decide +kernel
theorem d_Nm_countOthersWithin_24 : decode c_Nm_countOthersWithin 24 = .ok (.getfield 10, 3) := by decide +kernel
theorem d_Nm_countOthersWithin_27 : decode c_Nm_countOthersWithin 27 = .ok (.iload 4, 2) := by decide +kernel
theorem d_Nm_countOthersWithin_29 : decode c_Nm_countOthersWithin 29 = .ok (.iload_n 1, 1) := by decide +kernel
theorem d_Nm_countOthersWithin_30 : decode c_Nm_countOthersWithin 30 = .ok (.invokevirtual 171, 3) := by decide +kernel
theorem d_Nm_countOthersWithin_33 : decode c_Nm_countOthersWithin 33 = .ok (.iload_n 2, 1) := by decide +kernel
theorem d_Nm_countOthersWithin_34 : decode c_Nm_countOthersWithin 34 = .ok (.if_icmp .gt 6, 3) := by decide +kernel
theorem d_Nm_countOthersWithin_37 : decode c_Nm_countOthersWithin 37 = .ok (.iinc 3 1, 3) := by decide +kernel
theorem d_Nm_countOthersWithin_40 : decode c_Nm_countOthersWithin 40 = .ok (.iinc 4 1, 3) := by decide +kernel
theorem d_Nm_countOthersWithin_43 : decode c_Nm_countOthersWithin 43 = .ok (.goto (-38), 3) := by decide +kernel
theorem d_Nm_countOthersWithin_46 : decode c_Nm_countOthersWithin 46 = .ok (.iload_n 3, 1) := by decide +kernel
theorem d_Nm_countOthersWithin_47 : decode c_Nm_countOthersWithin 47 = .ok (.ireturn, 1) := by decide +kernel
theorem d_Nm_countWithPart_0 : decode c_Nm_countWithPart 0 = .ok (.iconst 0, 1) := by decide +kernel
theorem d_Nm_countWithPart_1 : decode c_Nm_countWithPart 1 = .ok (.istore_n 3, 1) := by decide +kernel
theorem d_Nm_countWithPart_2 : decode c_Nm_countWithPart 2 = .ok (.iconst 0, 1) := by decide +kernel
theorem d_Nm_countWithPart_3 : decode c_Nm_countWithPart 3 = .ok (.istore 4, 2) := by decide +kernel
theorem d_Nm_countWithPart_5 : decode c_Nm_countWithPart 5 = .ok (.iload 4, 2) := by decide +kernel
theorem d_Nm_countWithPart_7 : decode c_Nm_countWithPart 7 = .ok (.aload_n 0, 1) := by decide +kernel
theorem d_Nm_countWithPart_8 : decode c_Nm_countWithPart 8 = .ok (.getfield 10, 3) := by decide +kernel
theorem d_Nm_countWithPart_11 : decode c_Nm_countWithPart 11 = .ok (.getfield 83, 3) := by decide +kernel
theorem d_Nm_countWithPart_14 : decode c_Nm_countWithPart 14 = .ok (.if_icmp .ge 37, 3) := by decide +kernel
theorem d_Nm_countWithPart_17 : decode c_Nm_countWithPart 17 = .ok (.aload_n 0, 1) := by decide +kernel
theorem d_Nm_countWithPart_18 : decode c_Nm_countWithPart 18 = .ok (.getfield 10, 3) := by decide +kernel
theorem d_Nm_countWithPart_21 : decode c_Nm_countWithPart 21 = .ok (.getfield 142, 3) := by decide +kernel
theorem d_Nm_countWithPart_24 : decode c_Nm_countWithPart 24 = .ok (.iload 4, 2) := by decide +kernel
theorem d_Nm_countWithPart_26 : decode c_Nm_countWithPart 26 = .ok (.laload, 1) := by decide +kernel
theorem d_Nm_countWithPart_27 : decode c_Nm_countWithPart 27 = .ok (.aload_n 0, 1) := by decide +kernel
theorem d_Nm_countWithPart_28 : decode c_Nm_countWithPart 28 = .ok (.getfield 10, 3) := by decide +kernel
theorem d_Nm_countWithPart_31 : decode c_Nm_countWithPart 31 = .ok (.getfield 88, 3) := by decide +kernel
theorem d_Nm_countWithPart_34 : decode c_Nm_countWithPart 34 = .ok (.lxor, 1) := by decide +kernel
theorem d_Nm_countWithPart_35 : decode c_Nm_countWithPart 35 = .ok (.lload_n 1, 1) := by decide +kernel
theorem d_Nm_countWithPart_36 : decode c_Nm_countWithPart 36 = .ok (.land, 1) := by decide +kernel
theorem d_Nm_countWithPart_37 : decode c_Nm_countWithPart 37 = .ok (.lconst 0, 1) := by decide +kernel
theorem d_Nm_countWithPart_38 : decode c_Nm_countWithPart 38 = .ok (.lcmp, 1) := by decide +kernel
theorem d_Nm_countWithPart_39 : decode c_Nm_countWithPart 39 = .ok (.ifCond .ne 6, 3) := by decide +kernel
theorem d_Nm_countWithPart_42 : decode c_Nm_countWithPart 42 = .ok (.iinc 3 1, 3) := by decide +kernel
theorem d_Nm_countWithPart_45 : decode c_Nm_countWithPart 45 = .ok (.iinc 4 1, 3) := by decide +kernel
theorem d_Nm_countWithPart_48 : decode c_Nm_countWithPart 48 = .ok (.goto (-43), 3) := by decide +kernel
theorem d_Nm_countWithPart_51 : decode c_Nm_countWithPart 51 = .ok (.iload_n 3, 1) := by decide +kernel
theorem d_Nm_countWithPart_52 : decode c_Nm_countWithPart 52 = .ok (.ireturn, 1) := by decide +kernel
theorem d_Nm_type_0 : decode c_Nm_type 0 = .ok (.iload_n 1, 1) := by decide +kernel
theorem d_Nm_type_1 : decode c_Nm_type 1 = .ok (.ifCond .lt 20, 3) := by decide +kernel
theorem d_Nm_type_4 : decode c_Nm_type 4 = .ok (.iload_n 1, 1) := by decide +kernel
theorem d_Nm_type_5 : decode c_Nm_type 5 = .ok (.bipush 8, 2) := by decide +kernel
theorem d_Nm_type_7 : decode c_Nm_type 7 = .ok (.if_icmp .ge 14, 3) := by decide +kernel
theorem d_Nm_type_10 : decode c_Nm_type 10 = .ok (.iload_n 2, 1) := by decide +kernel
theorem d_Nm_type_11 : decode c_Nm_type 11 = .ok (.ifCond .lt 10, 3) := by decide +kernel
theorem d_Nm_type_14 : decode c_Nm_type 14 = .ok (.iload_n 2, 1) := by decide +kernel
theorem d_Nm_type_15 : decode c_Nm_type 15 = .ok (.sipush 255, 3) := by decide +kernel
theorem d_Nm_type_18 : decode c_Nm_type 18 = .ok (.if_icmp .le 6, 3) := by decide +kernel
theorem d_Nm_type_21 : decode c_Nm_type 21 = .ok (.ldc 137, 2) := by decide +kernel
theorem d_Nm_type_23 : decode c_Nm_type 23 = .ok (.ireturn, 1) := by decide +kernel
theorem d_Nm_type_24 : decode c_Nm_type 24 = .ok (.aload_n 0, 1) := by decide +kernel
theorem d_Nm_type_25 : decode c_Nm_type 25 = .ok (.getfield 19, 3) := by decide +kernel
theorem d_Nm_type_28 : decode c_Nm_type 28 = .ok (.aload_n 0, 1) := by decide +kernel
theorem d_Nm_type_29 : decode c_Nm_type 29 = .ok (.getfield 10, 3) := by decide +kernel
theorem d_Nm_type_32 : decode c_Nm_type 32 = .ok (.invokevirtual 174, 3) := by decide +kernel
theorem d_Nm_type_35 : decode c_Nm_type 35 = .ok (.aload_n 0, 1) := by decide +kernel
theorem d_Nm_type_36 : decode c_Nm_type 36 = .ok (.getfield 10, 3) := by decide +kernel
theorem d_Nm_type_39 : decode c_Nm_type 39 = .ok (.aload_n 0, 1) := by decide +kernel
theorem d_Nm_type_40 : decode c_Nm_type 40 = .ok (.getfield 10, 3) := by decide +kernel
theorem d_Nm_type_43 : decode c_Nm_type 43 = .ok (.getfield 88, 3) := by decide +kernel
theorem d_Nm_type_46 : decode c_Nm_type 46 = .ok (.iload_n 1, 1) := by decide +kernel
theorem d_Nm_type_47 : decode c_Nm_type 47 = .ok (.iload_n 2, 1) := by decide +kernel
theorem d_Nm_type_48 : decode c_Nm_type 48 = .ok (.invokestatic 178, 3) := by decide +kernel
theorem d_Nm_type_51 : decode c_Nm_type 51 = .ok (.putfield 88, 3) := by decide +kernel
theorem d_Nm_type_54 : decode c_Nm_type 54 = .ok (.aload_n 0, 1) := by decide +kernel
theorem d_Nm_type_55 : decode c_Nm_type 55 = .ok (.getfield 10, 3) := by decide +kernel
theorem d_Nm_type_58 : decode c_Nm_type 58 = .ok (.getfield 88, 3) := by decide +kernel
theorem d_Nm_type_61 : decode c_Nm_type 61 = .ok (.invokestatic 91, 3) := by decide +kernel
theorem d_Nm_type_64 : decode c_Nm_type 64 = .ok (.ireturn, 1) := by decide +kernel
theorem d_Nm_flip_0 : decode c_Nm_flip 0 = .ok (.iload_n 1, 1) := by decide +kernel
theorem d_Nm_flip_1 : decode c_Nm_flip 1 = .ok (.ifCond .lt 9, 3) := by decide +kernel
theorem d_Nm_flip_4 : decode c_Nm_flip 4 = .ok (.iload_n 1, 1) := by decide +kernel
theorem d_Nm_flip_5 : decode c_Nm_flip 5 = .ok (.bipush 64, 2) := by decide +kernel
theorem d_Nm_flip_7 : decode c_Nm_flip 7 = .ok (.if_icmp .lt 6, 3) := by decide +kernel
theorem d_Nm_flip_10 : decode c_Nm_flip 10 = .ok (.ldc 137, 2) := by decide +kernel
theorem d_Nm_flip_12 : decode c_Nm_flip 12 = .ok (.ireturn, 1) := by decide +kernel
theorem d_Nm_flip_13 : decode c_Nm_flip 13 = .ok (.aload_n 0, 1) := by decide +kernel
theorem d_Nm_flip_14 : decode c_Nm_flip 14 = .ok (.getfield 19, 3) := by decide +kernel
theorem d_Nm_flip_17 : decode c_Nm_flip 17 = .ok (.aload_n 0, 1) := by decide +kernel
theorem d_Nm_flip_18 : decode c_Nm_flip 18 = .ok (.getfield 10, 3) := by decide +kernel
theorem d_Nm_flip_21 : decode c_Nm_flip 21 = .ok (.invokevirtual 174, 3) := by decide +kernel
theorem d_Nm_flip_24 : decode c_Nm_flip 24 = .ok (.aload_n 0, 1) := by decide +kernel
theorem d_Nm_flip_25 : decode c_Nm_flip 25 = .ok (.getfield 10, 3) := by decide +kernel
theorem d_Nm_flip_28 : decode c_Nm_flip 28 = .ok (.dup, 1) := by decide +kernel
theorem d_Nm_flip_29 : decode c_Nm_flip 29 = .ok (.getfield 88, 3) := by decide +kernel
theorem d_Nm_flip_32 : decode c_Nm_flip 32 = .ok (.lconst 1, 1) := by decide +kernel
theorem d_Nm_flip_33 : decode c_Nm_flip 33 = .ok (.iload_n 1, 1) := by decide +kernel
theorem d_Nm_flip_34 : decode c_Nm_flip 34 = .ok (.lshl, 1) := by decide +kernel
theorem d_Nm_flip_35 : decode c_Nm_flip 35 = .ok (.lxor, 1) := by decide +kernel
theorem d_Nm_flip_36 : decode c_Nm_flip 36 = .ok (.putfield 88, 3) := by decide +kernel
theorem d_Nm_flip_39 : decode c_Nm_flip 39 = .ok (.aload_n 0, 1) := by decide +kernel
theorem d_Nm_flip_40 : decode c_Nm_flip 40 = .ok (.getfield 10, 3) := by decide +kernel
theorem d_Nm_flip_43 : decode c_Nm_flip 43 = .ok (.getfield 88, 3) := by decide +kernel
theorem d_Nm_flip_46 : decode c_Nm_flip 46 = .ok (.invokestatic 91, 3) := by decide +kernel
theorem d_Nm_flip_49 : decode c_Nm_flip 49 = .ok (.ireturn, 1) := by decide +kernel
theorem d_Nm_turn_0 : decode c_Nm_turn 0 = .ok (.aload_n 0, 1) := by decide +kernel
theorem d_Nm_turn_1 : decode c_Nm_turn 1 = .ok (.getfield 19, 3) := by decide +kernel
theorem d_Nm_turn_4 : decode c_Nm_turn 4 = .ok (.aload_n 0, 1) := by decide +kernel
theorem d_Nm_turn_5 : decode c_Nm_turn 5 = .ok (.getfield 10, 3) := by decide +kernel
theorem d_Nm_turn_8 : decode c_Nm_turn 8 = .ok (.invokevirtual 174, 3) := by decide +kernel
theorem d_Nm_turn_11 : decode c_Nm_turn 11 = .ok (.aload_n 0, 1) := by decide +kernel
theorem d_Nm_turn_12 : decode c_Nm_turn 12 = .ok (.getfield 10, 3) := by decide +kernel
theorem d_Nm_turn_15 : decode c_Nm_turn 15 = .ok (.aload_n 0, 1) := by decide +kernel
theorem d_Nm_turn_16 : decode c_Nm_turn 16 = .ok (.getfield 10, 3) := by decide +kernel
theorem d_Nm_turn_19 : decode c_Nm_turn 19 = .ok (.getfield 88, 3) := by decide +kernel
theorem d_Nm_turn_22 : decode c_Nm_turn 22 = .ok (.invokestatic 184, 3) := by decide +kernel
theorem d_Nm_turn_25 : decode c_Nm_turn 25 = .ok (.putfield 88, 3) := by decide +kernel
theorem d_Nm_turn_28 : decode c_Nm_turn 28 = .ok (.aload_n 0, 1) := by decide +kernel
theorem d_Nm_turn_29 : decode c_Nm_turn 29 = .ok (.getfield 10, 3) := by decide +kernel
theorem d_Nm_turn_32 : decode c_Nm_turn 32 = .ok (.getfield 88, 3) := by decide +kernel
theorem d_Nm_turn_35 : decode c_Nm_turn 35 = .ok (.invokestatic 188, 3) := by decide +kernel
theorem d_Nm_turn_38 : decode c_Nm_turn 38 = .ok (.ireturn, 1) := by decide +kernel
theorem d_Nm_mirror_0 : decode c_Nm_mirror 0 = .ok (.aload_n 0, 1) := by decide +kernel
theorem d_Nm_mirror_1 : decode c_Nm_mirror 1 = .ok (.getfield 19, 3) := by decide +kernel
theorem d_Nm_mirror_4 : decode c_Nm_mirror 4 = .ok (.aload_n 0, 1) := by decide +kernel
theorem d_Nm_mirror_5 : decode c_Nm_mirror 5 = .ok (.getfield 10, 3) := by decide +kernel
theorem d_Nm_mirror_8 : decode c_Nm_mirror 8 = .ok (.invokevirtual 174, 3) := by decide +kernel
theorem d_Nm_mirror_11 : decode c_Nm_mirror 11 = .ok (.aload_n 0, 1) := by decide +kernel
theorem d_Nm_mirror_12 : decode c_Nm_mirror 12 = .ok (.getfield 10, 3) := by decide +kernel
theorem d_Nm_mirror_15 : decode c_Nm_mirror 15 = .ok (.aload_n 0, 1) := by decide +kernel
theorem d_Nm_mirror_16 : decode c_Nm_mirror 16 = .ok (.getfield 10, 3) := by decide +kernel
theorem d_Nm_mirror_19 : decode c_Nm_mirror 19 = .ok (.getfield 88, 3) := by decide +kernel
theorem d_Nm_mirror_22 : decode c_Nm_mirror 22 = .ok (.invokestatic 191, 3) := by decide +kernel
theorem d_Nm_mirror_25 : decode c_Nm_mirror 25 = .ok (.putfield 88, 3) := by decide +kernel
theorem d_Nm_mirror_28 : decode c_Nm_mirror 28 = .ok (.aload_n 0, 1) := by decide +kernel
theorem d_Nm_mirror_29 : decode c_Nm_mirror 29 = .ok (.getfield 10, 3) := by decide +kernel
theorem d_Nm_mirror_32 : decode c_Nm_mirror 32 = .ok (.getfield 88, 3) := by decide +kernel
theorem d_Nm_mirror_35 : decode c_Nm_mirror 35 = .ok (.invokestatic 188, 3) := by decide +kernel
theorem d_Nm_mirror_38 : decode c_Nm_mirror 38 = .ok (.ireturn, 1) := by decide +kernel
theorem d_Nm_hold_0 : decode c_Nm_hold 0 = .ok (.aload_n 0, 1) := by decide +kernel
theorem d_Nm_hold_1 : decode c_Nm_hold 1 = .ok (.getfield 10, 3) := by decide +kernel
theorem d_Nm_hold_4 : decode c_Nm_hold 4 = .ok (.iload_n 1, 1) := by decide +kernel
theorem d_Nm_hold_5 : decode c_Nm_hold 5 = .ok (.invokevirtual 138, 3) := by decide +kernel
theorem d_Nm_hold_8 : decode c_Nm_hold 8 = .ok (.ifCond .ne 6, 3) := by decide +kernel
theorem d_Nm_hold_11 : decode c_Nm_hold 11 = .ok (.ldc 146, 2) := by decide +kernel
theorem d_Nm_hold_13 : decode c_Nm_hold 13 = .ok (.ireturn, 1) := by decide +kernel
theorem d_Nm_hold_14 : decode c_Nm_hold 14 = .ok (.aload_n 0, 1) := by decide +kernel
theorem d_Nm_hold_15 : decode c_Nm_hold 15 = .ok (.getfield 10, 3) := by decide +kernel
theorem d_Nm_hold_18 : decode c_Nm_hold 18 = .ok (.iload_n 1, 1) := by decide +kernel
theorem d_Nm_hold_19 : decode c_Nm_hold 19 = .ok (.invokevirtual 151, 3) := by decide +kernel
theorem d_Nm_hold_22 : decode c_Nm_hold 22 = .ok (.istore_n 2, 1) := by decide +kernel
theorem d_Nm_hold_23 : decode c_Nm_hold 23 = .ok (.aload_n 0, 1) := by decide +kernel
theorem d_Nm_hold_24 : decode c_Nm_hold 24 = .ok (.getfield 19, 3) := by decide +kernel
theorem d_Nm_hold_27 : decode c_Nm_hold 27 = .ok (.aload_n 0, 1) := by decide +kernel
theorem d_Nm_hold_28 : decode c_Nm_hold 28 = .ok (.getfield 10, 3) := by decide +kernel
theorem d_Nm_hold_31 : decode c_Nm_hold 31 = .ok (.invokevirtual 174, 3) := by decide +kernel
theorem d_Nm_hold_34 : decode c_Nm_hold 34 = .ok (.aload_n 0, 1) := by decide +kernel
theorem d_Nm_hold_35 : decode c_Nm_hold 35 = .ok (.getfield 10, 3) := by decide +kernel
theorem d_Nm_hold_38 : decode c_Nm_hold 38 = .ok (.aload_n 0, 1) := by decide +kernel
theorem d_Nm_hold_39 : decode c_Nm_hold 39 = .ok (.getfield 10, 3) := by decide +kernel
theorem d_Nm_hold_42 : decode c_Nm_hold 42 = .ok (.getfield 142, 3) := by decide +kernel
theorem d_Nm_hold_45 : decode c_Nm_hold 45 = .ok (.iload_n 1, 1) := by decide +kernel
theorem d_Nm_hold_46 : decode c_Nm_hold 46 = .ok (.laload, 1) := by decide +kernel
theorem d_Nm_hold_47 : decode c_Nm_hold 47 = .ok (.putfield 88, 3) := by decide +kernel
theorem d_Nm_hold_50 : decode c_Nm_hold 50 = .ok (.iload_n 2, 1) := by decide +kernel
theorem d_Nm_hold_51 : decode c_Nm_hold 51 = .ok (.ireturn, 1) := by decide +kernel
theorem d_Nm_put_0 : decode c_Nm_put 0 = .ok (.iload_n 1, 1) := by decide +kernel
theorem d_Nm_put_1 : decode c_Nm_put 1 = .ok (.invokestatic 194, 3) := by decide +kernel
theorem d_Nm_put_4 : decode c_Nm_put 4 = .ok (.ifCond .ne 6, 3) := by decide +kernel
theorem d_Nm_put_7 : decode c_Nm_put 7 = .ok (.ldc 137, 2) := by decide +kernel
theorem d_Nm_put_9 : decode c_Nm_put 9 = .ok (.ireturn, 1) := by decide +kernel
theorem d_Nm_put_10 : decode c_Nm_put 10 = .ok (.aload_n 0, 1) := by decide +kernel
theorem d_Nm_put_11 : decode c_Nm_put 11 = .ok (.getfield 10, 3) := by decide +kernel
theorem d_Nm_put_14 : decode c_Nm_put 14 = .ok (.aload_n 0, 1) := by decide +kernel
theorem d_Nm_put_15 : decode c_Nm_put 15 = .ok (.getfield 10, 3) := by decide +kernel
theorem d_Nm_put_18 : decode c_Nm_put 18 = .ok (.getfield 88, 3) := by decide +kernel
theorem d_Nm_put_21 : decode c_Nm_put 21 = .ok (.invokevirtual 97, 3) := by decide +kernel
theorem d_Nm_put_24 : decode c_Nm_put 24 = .ok (.iconst (-1), 1) := by decide +kernel
theorem d_Nm_put_25 : decode c_Nm_put 25 = .ok (.if_icmp .eq 6, 3) := by decide +kernel
theorem d_Nm_put_28 : decode c_Nm_put 28 = .ok (.ldc 197, 2) := by decide +kernel
theorem d_Nm_put_30 : decode c_Nm_put 30 = .ok (.ireturn, 1) := by decide +kernel
theorem d_Nm_put_31 : decode c_Nm_put 31 = .ok (.aload_n 0, 1) := by decide +kernel
theorem d_Nm_put_32 : decode c_Nm_put 32 = .ok (.getfield 10, 3) := by decide +kernel
theorem d_Nm_put_35 : decode c_Nm_put 35 = .ok (.getfield 83, 3) := by decide +kernel
theorem d_Nm_put_38 : decode c_Nm_put 38 = .ok (.bipush 40, 2) := by decide +kernel
theorem d_Nm_put_40 : decode c_Nm_put 40 = .ok (.if_icmp .lt 6, 3) := by decide +kernel
theorem d_Nm_put_43 : decode c_Nm_put 43 = .ok (.ldc 198, 2) := by decide +kernel
theorem d_Nm_put_45 : decode c_Nm_put 45 = .ok (.ireturn, 1) := by decide +kernel
theorem d_Nm_put_46 : decode c_Nm_put 46 = .ok (.aload_n 0, 1) := by decide +kernel
theorem d_Nm_put_47 : decode c_Nm_put 47 = .ok (.getfield 19, 3) := by decide +kernel
theorem d_Nm_put_50 : decode c_Nm_put 50 = .ok (.aload_n 0, 1) := by decide +kernel
theorem d_Nm_put_51 : decode c_Nm_put 51 = .ok (.getfield 10, 3) := by decide +kernel
theorem d_Nm_put_54 : decode c_Nm_put 54 = .ok (.invokevirtual 174, 3) := by decide +kernel
theorem d_Nm_put_57 : decode c_Nm_put 57 = .ok (.aload_n 0, 1) := by decide +kernel
theorem d_Nm_put_58 : decode c_Nm_put 58 = .ok (.getfield 10, 3) := by decide +kernel
theorem d_Nm_put_61 : decode c_Nm_put 61 = .ok (.iload_n 1, 1) := by decide +kernel
theorem d_Nm_put_62 : decode c_Nm_put 62 = .ok (.invokevirtual 199, 3) := by decide +kernel
theorem d_Nm_put_65 : decode c_Nm_put 65 = .ok (.aload_n 0, 1) := by decide +kernel
theorem d_Nm_put_66 : decode c_Nm_put 66 = .ok (.getfield 10, 3) := by decide +kernel
theorem d_Nm_put_69 : decode c_Nm_put 69 = .ok (.getfield 83, 3) := by decide +kernel
theorem d_Nm_put_72 : decode c_Nm_put 72 = .ok (.iconst 1, 1) := by decide +kernel
theorem d_Nm_put_73 : decode c_Nm_put 73 = .ok (.isub, 1) := by decide +kernel
theorem d_Nm_put_74 : decode c_Nm_put 74 = .ok (.ireturn, 1) := by decide +kernel
theorem d_Nm_cut_0 : decode c_Nm_cut 0 = .ok (.lload_n 1, 1) := by decide +kernel
theorem d_Nm_cut_1 : decode c_Nm_cut 1 = .ok (.lconst 1, 1) := by decide +kernel
theorem d_Nm_cut_2 : decode c_Nm_cut 2 = .ok (.land, 1) := by decide +kernel
theorem d_Nm_cut_3 : decode c_Nm_cut 3 = .ok (.lconst 0, 1) := by decide +kernel
theorem d_Nm_cut_4 : decode c_Nm_cut 4 = .ok (.lcmp, 1) := by decide +kernel
theorem d_Nm_cut_5 : decode c_Nm_cut 5 = .ok (.ifCond .eq 12, 3) := by decide +kernel
theorem d_Nm_cut_8 : decode c_Nm_cut 8 = .ok (.lload_n 1, 1) := by decide +kernel
theorem d_Nm_cut_9 : decode c_Nm_cut 9 = .ok (.invokestatic 91, 3) := by decide +kernel
theorem d_Nm_cut_12 : decode c_Nm_cut 12 = .ok (.bipush 8, 2) := by decide +kernel
theorem d_Nm_cut_14 : decode c_Nm_cut 14 = .ok (.if_icmp .le 6, 3) := by decide +kernel
theorem d_Nm_cut_17 : decode c_Nm_cut 17 = .ok (.ldc 137, 2) := by decide +kernel
theorem d_Nm_cut_19 : decode c_Nm_cut 19 = .ok (.ireturn, 1) := by decide +kernel
theorem d_Nm_cut_20 : decode c_Nm_cut 20 = .ok (.aload_n 0, 1) := by decide +kernel
theorem d_Nm_cut_21 : decode c_Nm_cut 21 = .ok (.getfield 19, 3) := by decide +kernel
theorem d_Nm_cut_24 : decode c_Nm_cut 24 = .ok (.aload_n 0, 1) := by decide +kernel
theorem d_Nm_cut_25 : decode c_Nm_cut 25 = .ok (.getfield 10, 3) := by decide +kernel
theorem d_Nm_cut_28 : decode c_Nm_cut 28 = .ok (.invokevirtual 174, 3) := by decide +kernel
theorem d_Nm_cut_31 : decode c_Nm_cut 31 = .ok (.aload_n 0, 1) := by decide +kernel
theorem d_Nm_cut_32 : decode c_Nm_cut 32 = .ok (.getfield 10, 3) := by decide +kernel
theorem d_Nm_cut_35 : decode c_Nm_cut 35 = .ok (.lload_n 1, 1) := by decide +kernel
theorem d_Nm_cut_36 : decode c_Nm_cut 36 = .ok (.putfield 37, 3) := by decide +kernel
theorem d_Nm_cut_39 : decode c_Nm_cut 39 = .ok (.aload_n 0, 1) := by decide +kernel
theorem d_Nm_cut_40 : decode c_Nm_cut 40 = .ok (.getfield 33, 3) := by decide +kernel
theorem d_Nm_cut_43 : decode c_Nm_cut 43 = .ok (.lload_n 1, 1) := by decide +kernel
theorem d_Nm_cut_44 : decode c_Nm_cut 44 = .ok (.invokevirtual 41, 3) := by decide +kernel
theorem d_Nm_cut_47 : decode c_Nm_cut 47 = .ok (.aload_n 0, 1) := by decide +kernel
theorem d_Nm_cut_48 : decode c_Nm_cut 48 = .ok (.getfield 33, 3) := by decide +kernel
theorem d_Nm_cut_51 : decode c_Nm_cut 51 = .ok (.invokevirtual 104, 3) := by decide +kernel
theorem d_Nm_cut_54 : decode c_Nm_cut 54 = .ok (.ireturn, 1) := by decide +kernel
theorem d_Nm_take_0 : decode c_Nm_take 0 = .ok (.aload_n 0, 1) := by decide +kernel
theorem d_Nm_take_1 : decode c_Nm_take 1 = .ok (.getfield 10, 3) := by decide +kernel
theorem d_Nm_take_4 : decode c_Nm_take 4 = .ok (.iload_n 1, 1) := by decide +kernel
theorem d_Nm_take_5 : decode c_Nm_take 5 = .ok (.invokevirtual 138, 3) := by decide +kernel
theorem d_Nm_take_8 : decode c_Nm_take 8 = .ok (.ifCond .ne 6, 3) := by decide +kernel
theorem d_Nm_take_11 : decode c_Nm_take 11 = .ok (.ldc 146, 2) := by decide +kernel
theorem d_Nm_take_13 : decode c_Nm_take 13 = .ok (.ireturn, 1) := by decide +kernel
theorem d_Nm_take_14 : decode c_Nm_take 14 = .ok (.aload_n 0, 1) := by decide +kernel
theorem d_Nm_take_15 : decode c_Nm_take 15 = .ok (.getfield 19, 3) := by decide +kernel
theorem d_Nm_take_18 : decode c_Nm_take 18 = .ok (.aload_n 0, 1) := by decide +kernel
theorem d_Nm_take_19 : decode c_Nm_take 19 = .ok (.getfield 10, 3) := by decide +kernel
theorem d_Nm_take_22 : decode c_Nm_take 22 = .ok (.invokevirtual 174, 3) := by decide +kernel
theorem d_Nm_take_25 : decode c_Nm_take 25 = .ok (.aload_n 0, 1) := by decide +kernel
theorem d_Nm_take_26 : decode c_Nm_take 26 = .ok (.getfield 10, 3) := by decide +kernel
theorem d_Nm_take_29 : decode c_Nm_take 29 = .ok (.iload_n 1, 1) := by decide +kernel
theorem d_Nm_take_30 : decode c_Nm_take 30 = .ok (.invokevirtual 203, 3) := by decide +kernel
theorem d_Nm_take_33 : decode c_Nm_take 33 = .ok (.aload_n 0, 1) := by decide +kernel
theorem d_Nm_take_34 : decode c_Nm_take 34 = .ok (.getfield 10, 3) := by decide +kernel
theorem d_Nm_take_37 : decode c_Nm_take 37 = .ok (.getfield 83, 3) := by decide +kernel
theorem d_Nm_take_40 : decode c_Nm_take 40 = .ok (.ireturn, 1) := by decide +kernel
theorem d_Nm_kind_0 : decode c_Nm_kind 0 = .ok (.aload_n 0, 1) := by decide +kernel
theorem d_Nm_kind_1 : decode c_Nm_kind 1 = .ok (.getfield 10, 3) := by decide +kernel
theorem d_Nm_kind_4 : decode c_Nm_kind 4 = .ok (.iload_n 1, 1) := by decide +kernel
theorem d_Nm_kind_5 : decode c_Nm_kind 5 = .ok (.invokevirtual 138, 3) := by decide +kernel
theorem d_Nm_kind_8 : decode c_Nm_kind 8 = .ok (.ifCond .ne 6, 3) := by decide +kernel
theorem d_Nm_kind_11 : decode c_Nm_kind 11 = .ok (.ldc 146, 2) := by decide +kernel
theorem d_Nm_kind_13 : decode c_Nm_kind 13 = .ok (.ireturn, 1) := by decide +kernel
theorem d_Nm_kind_14 : decode c_Nm_kind 14 = .ok (.iload_n 2, 1) := by decide +kernel
theorem d_Nm_kind_15 : decode c_Nm_kind 15 = .ok (.invokestatic 194, 3) := by decide +kernel
theorem d_Nm_kind_18 : decode c_Nm_kind 18 = .ok (.ifCond .ne 6, 3) := by decide +kernel
theorem d_Nm_kind_21 : decode c_Nm_kind 21 = .ok (.ldc 137, 2) := by decide +kernel
theorem d_Nm_kind_23 : decode c_Nm_kind 23 = .ok (.ireturn, 1) := by decide +kernel
theorem d_Nm_kind_24 : decode c_Nm_kind 24 = .ok (.aload_n 0, 1) := by decide +kernel
theorem d_Nm_kind_25 : decode c_Nm_kind 25 = .ok (.getfield 10, 3) := by decide +kernel
theorem d_Nm_kind_28 : decode c_Nm_kind 28 = .ok (.getfield 147, 3) := by decide +kernel
theorem d_Nm_kind_31 : decode c_Nm_kind 31 = .ok (.iload_n 1, 1) := by decide +kernel
theorem d_Nm_kind_32 : decode c_Nm_kind 32 = .ok (.iaload, 1) := by decide +kernel
theorem d_Nm_kind_33 : decode c_Nm_kind 33 = .ok (.istore_n 3, 1) := by decide +kernel
theorem d_Nm_kind_34 : decode c_Nm_kind 34 = .ok (.aload_n 0, 1) := by decide +kernel
theorem d_Nm_kind_35 : decode c_Nm_kind 35 = .ok (.getfield 19, 3) := by decide +kernel
theorem d_Nm_kind_38 : decode c_Nm_kind 38 = .ok (.aload_n 0, 1) := by decide +kernel
theorem d_Nm_kind_39 : decode c_Nm_kind 39 = .ok (.getfield 10, 3) := by decide +kernel
theorem d_Nm_kind_42 : decode c_Nm_kind 42 = .ok (.invokevirtual 174, 3) := by decide +kernel
theorem d_Nm_kind_45 : decode c_Nm_kind 45 = .ok (.aload_n 0, 1) := by decide +kernel
theorem d_Nm_kind_46 : decode c_Nm_kind 46 = .ok (.getfield 10, 3) := by decide +kernel
theorem d_Nm_kind_49 : decode c_Nm_kind 49 = .ok (.getfield 147, 3) := by decide +kernel
theorem d_Nm_kind_52 : decode c_Nm_kind 52 = .ok (.iload_n 1, 1) := by decide +kernel
theorem d_Nm_kind_53 : decode c_Nm_kind 53 = .ok (.iload_n 2, 1) := by decide +kernel
theorem d_Nm_kind_54 : decode c_Nm_kind 54 = .ok (.iastore, 1) := by decide +kernel
theorem d_Nm_kind_55 : decode c_Nm_kind 55 = .ok (.iload_n 3, 1) := by decide +kernel
theorem d_Nm_kind_56 : decode c_Nm_kind 56 = .ok (.ireturn, 1) := by decide +kernel
theorem d_Nm_drift_0 : decode c_Nm_drift 0 = .ok (.iload_n 1, 1) := by decide +kernel
theorem d_Nm_drift_1 : decode c_Nm_drift 1 = .ok (.iconst 1, 1) := by decide +kernel
theorem d_Nm_drift_2 : decode c_Nm_drift 2 = .ok (.if_icmp .lt 9, 3) := by decide +kernel
theorem d_Nm_drift_5 : decode c_Nm_drift 5 = .ok (.iload_n 1, 1) := by decide +kernel
theorem d_Nm_drift_6 : decode c_Nm_drift 6 = .ok (.bipush 20, 2) := by decide +kernel
theorem d_Nm_drift_8 : decode c_Nm_drift 8 = .ok (.if_icmp .le 6, 3) := by decide +kernel
theorem d_Nm_drift_11 : decode c_Nm_drift 11 = .ok (.ldc 137, 2) := by decide +kernel
theorem d_Nm_drift_13 : decode c_Nm_drift 13 = .ok (.ireturn, 1) := by decide +kernel
theorem d_Nm_drift_14 : decode c_Nm_drift 14 = .ok (.iconst 0, 1) := by decide +kernel
theorem d_Nm_drift_15 : decode c_Nm_drift 15 = .ok (.istore_n 2, 1) := by decide +kernel
theorem d_Nm_drift_16 : decode c_Nm_drift 16 = .ok (.iload_n 2, 1) := by decide +kernel
theorem d_Nm_drift_17 : decode c_Nm_drift 17 = .ok (.iload_n 1, 1) := by decide +kernel
theorem d_Nm_drift_18 : decode c_Nm_drift 18 = .ok (.if_icmp .ge 28, 3) := by decide +kernel
theorem d_Nm_drift_21 : decode c_Nm_drift 21 = .ok (.aload_n 0, 1) := by decide +kernel
theorem d_Nm_drift_22 : decode c_Nm_drift 22 = .ok (.getfield 19, 3) := by decide +kernel
theorem d_Nm_drift_25 : decode c_Nm_drift 25 = .ok (.aload_n 0, 1) := by decide +kernel
theorem d_Nm_drift_26 : decode c_Nm_drift 26 = .ok (.getfield 10, 3) := by decide +kernel
theorem d_Nm_drift_29 : decode c_Nm_drift 29 = .ok (.invokevirtual 174, 3) := by decide +kernel
theorem d_Nm_drift_32 : decode c_Nm_drift 32 = .ok (.aload_n 0, 1) := by decide +kernel
theorem d_Nm_drift_33 : decode c_Nm_drift 33 = .ok (.invokevirtual 206, 3) := by decide +kernel
theorem d_Nm_drift_36 : decode c_Nm_drift 36 = .ok (.aload_n 0, 1) := by decide +kernel
theorem d_Nm_drift_37 : decode c_Nm_drift 37 = .ok (.invokevirtual 209, 3) := by decide +kernel
theorem d_Nm_drift_40 : decode c_Nm_drift 40 = .ok (.iinc 2 1, 3) := by decide +kernel
theorem d_Nm_drift_43 : decode c_Nm_drift 43 = .ok (.goto (-27), 3) := by decide +kernel
theorem d_Nm_drift_46 : decode c_Nm_drift 46 = .ok (.aload_n 0, 1) := by decide +kernel
theorem d_Nm_drift_47 : decode c_Nm_drift 47 = .ok (.getfield 10, 3) := by decide +kernel
theorem d_Nm_drift_50 : decode c_Nm_drift 50 = .ok (.getfield 83, 3) := by decide +kernel
theorem d_Nm_drift_53 : decode c_Nm_drift 53 = .ok (.ireturn, 1) := by decide +kernel
theorem d_Nm_undo_0 : decode c_Nm_undo 0 = .ok (.iload_n 1, 1) := by decide +kernel
theorem d_Nm_undo_1 : decode c_Nm_undo 1 = .ok (.iconst 1, 1) := by decide +kernel
theorem d_Nm_undo_2 : decode c_Nm_undo 2 = .ok (.if_icmp .lt 9, 3) := by decide +kernel
theorem d_Nm_undo_5 : decode c_Nm_undo 5 = .ok (.iload_n 1, 1) := by decide +kernel
theorem d_Nm_undo_6 : decode c_Nm_undo 6 = .ok (.bipush 20, 2) := by decide +kernel
theorem d_Nm_undo_8 : decode c_Nm_undo 8 = .ok (.if_icmp .le 6, 3) := by decide +kernel
theorem d_Nm_undo_11 : decode c_Nm_undo 11 = .ok (.ldc 137, 2) := by decide +kernel
theorem d_Nm_undo_13 : decode c_Nm_undo 13 = .ok (.ireturn, 1) := by decide +kernel
theorem d_Nm_undo_14 : decode c_Nm_undo 14 = .ok (.iload_n 1, 1) := by decide +kernel
theorem d_Nm_undo_15 : decode c_Nm_undo 15 = .ok (.aload_n 0, 1) := by decide +kernel
theorem d_Nm_undo_16 : decode c_Nm_undo 16 = .ok (.getfield 19, 3) := by decide +kernel
theorem d_Nm_undo_19 : decode c_Nm_undo 19 = .ok (.getfield 136, 3) := by decide +kernel
theorem d_Nm_undo_22 : decode c_Nm_undo 22 = .ok (.if_icmp .le 6, 3) := by decide +kernel
theorem d_Nm_undo_25 : decode c_Nm_undo 25 = .ok (.ldc 197, 2) := by decide +kernel
theorem d_Nm_undo_27 : decode c_Nm_undo 27 = .ok (.ireturn, 1) := by decide +kernel
theorem d_Nm_undo_28 : decode c_Nm_undo 28 = .ok (.aload_n 0, 1) := by decide +kernel
theorem d_Nm_undo_29 : decode c_Nm_undo 29 = .ok (.getfield 19, 3) := by decide +kernel
theorem d_Nm_undo_32 : decode c_Nm_undo 32 = .ok (.iload_n 1, 1) := by decide +kernel
theorem d_Nm_undo_33 : decode c_Nm_undo 33 = .ok (.aload_n 0, 1) := by decide +kernel
theorem d_Nm_undo_34 : decode c_Nm_undo 34 = .ok (.getfield 10, 3) := by decide +kernel
theorem d_Nm_undo_37 : decode c_Nm_undo 37 = .ok (.invokevirtual 212, 3) := by decide +kernel
theorem d_Nm_undo_40 : decode c_Nm_undo 40 = .ok (.aload_n 0, 1) := by decide +kernel
theorem d_Nm_undo_41 : decode c_Nm_undo 41 = .ok (.getfield 33, 3) := by decide +kernel
theorem d_Nm_undo_44 : decode c_Nm_undo 44 = .ok (.aload_n 0, 1) := by decide +kernel
theorem d_Nm_undo_45 : decode c_Nm_undo 45 = .ok (.getfield 10, 3) := by decide +kernel
theorem d_Nm_undo_48 : decode c_Nm_undo 48 = .ok (.getfield 37, 3) := by decide +kernel
theorem d_Nm_undo_51 : decode c_Nm_undo 51 = .ok (.invokevirtual 41, 3) := by decide +kernel
theorem d_Nm_undo_54 : decode c_Nm_undo 54 = .ok (.aload_n 0, 1) := by decide +kernel
theorem d_Nm_undo_55 : decode c_Nm_undo 55 = .ok (.getfield 10, 3) := by decide +kernel
theorem d_Nm_undo_58 : decode c_Nm_undo 58 = .ok (.getfield 83, 3) := by decide +kernel
theorem d_Nm_undo_61 : decode c_Nm_undo 61 = .ok (.ireturn, 1) := by decide +kernel
theorem d_Nm_isKind_0 : decode c_Nm_isKind 0 = .ok (.iload_n 0, 1) := by decide +kernel
theorem d_Nm_isKind_1 : decode c_Nm_isKind 1 = .ok (.ifCond .lt 12, 3) := by decide +kernel
theorem d_Nm_isKind_4 : decode c_Nm_isKind 4 = .ok (.iload_n 0, 1) := by decide +kernel
theorem d_Nm_isKind_5 : decode c_Nm_isKind 5 = .ok (.iconst 2, 1) := by decide +kernel
theorem d_Nm_isKind_6 : decode c_Nm_isKind 6 = .ok (.if_icmp .gt 7, 3) := by decide +kernel
theorem d_Nm_isKind_9 : decode c_Nm_isKind 9 = .ok (.iconst 1, 1) := by decide +kernel
theorem d_Nm_isKind_10 : decode c_Nm_isKind 10 = .ok (.goto 4, 3) := by decide +kernel
theorem d_Nm_isKind_13 : decode c_Nm_isKind 13 = .ok (.iconst 0, 1) := by decide +kernel
theorem d_Nm_isKind_14 : decode c_Nm_isKind 14 = .ok (.ireturn, 1) := by decide +kernel
theorem d_Nm_changeHandByDraws_0 : decode c_Nm_changeHandByDraws 0 = .ok (.aload_n 0, 1) := by decide +kernel
theorem d_Nm_changeHandByDraws_1 : decode c_Nm_changeHandByDraws 1 = .ok (.getfield 79, 3) := by decide +kernel
theorem d_Nm_changeHandByDraws_4 : decode c_Nm_changeHandByDraws 4 = .ok (.iconst 4, 1) := by decide +kernel
theorem d_Nm_changeHandByDraws_5 : decode c_Nm_changeHandByDraws 5 = .ok (.invokevirtual 216, 3) := by decide +kernel
theorem d_Nm_changeHandByDraws_8 : decode c_Nm_changeHandByDraws 8 = .ok (.istore_n 1, 1) := by decide +kernel
theorem d_Nm_changeHandByDraws_9 : decode c_Nm_changeHandByDraws 9 = .ok (.iload_n 1, 1) := by decide +kernel
theorem d_Nm_changeHandByDraws_10 : decode c_Nm_changeHandByDraws 10 = .ok (.ifCond .ne 36, 3) := by decide +kernel
theorem d_Nm_changeHandByDraws_13 : decode c_Nm_changeHandByDraws 13 = .ok (.aload_n 0, 1) := by decide +kernel
theorem d_Nm_changeHandByDraws_14 : decode c_Nm_changeHandByDraws 14 = .ok (.getfield 79, 3) := by decide +kernel
theorem d_Nm_changeHandByDraws_17 : decode c_Nm_changeHandByDraws 17 = .ok (.bipush 64, 2) := by decide +kernel
theorem d_Nm_changeHandByDraws_19 : decode c_Nm_changeHandByDraws 19 = .ok (.invokevirtual 216, 3) := by decide +kernel
theorem d_Nm_changeHandByDraws_22 : decode c_Nm_changeHandByDraws 22 = .ok (.pop, 1) := by decide +kernel
theorem d_Nm_changeHandByDraws_23 : decode c_Nm_changeHandByDraws 23 = .ok (.aload_n 0, 1) := by decide +kernel
theorem d_Nm_changeHandByDraws_24 : decode c_Nm_changeHandByDraws 24 = .ok (.getfield 10, 3) := by decide +kernel
theorem d_Nm_changeHandByDraws_27 : decode c_Nm_changeHandByDraws 27 = .ok (.aload_n 0, 1) := by decide +kernel
theorem d_Nm_changeHandByDraws_28 : decode c_Nm_changeHandByDraws 28 = .ok (.getfield 79, 3) := by decide +kernel
theorem d_Nm_changeHandByDraws_31 : decode c_Nm_changeHandByDraws 31 = .ok (.sipush 256, 3) := by decide +kernel
theorem d_Nm_changeHandByDraws_34 : decode c_Nm_changeHandByDraws 34 = .ok (.invokevirtual 216, 3) := by decide +kernel
theorem d_Nm_changeHandByDraws_37 : decode c_Nm_changeHandByDraws 37 = .ok (.invokestatic 219, 3) := by decide +kernel
theorem d_Nm_changeHandByDraws_40 : decode c_Nm_changeHandByDraws 40 = .ok (.putfield 88, 3) := by decide +kernel
theorem d_Nm_changeHandByDraws_43 : decode c_Nm_changeHandByDraws 43 = .ok (.goto 31, 3) := by decide +kernel
theorem d_Nm_changeHandByDraws_46 : decode c_Nm_changeHandByDraws 46 = .ok (.iload_n 1, 1) := by decide +kernel
theorem d_Nm_changeHandByDraws_47 : decode c_Nm_changeHandByDraws 47 = .ok (.iconst 3, 1) := by decide +kernel
theorem d_Nm_changeHandByDraws_48 : decode c_Nm_changeHandByDraws 48 = .ok (.if_icmp .ge 26, 3) := by decide +kernel
theorem d_Nm_changeHandByDraws_51 : decode c_Nm_changeHandByDraws 51 = .ok (.aload_n 0, 1) := by decide +kernel
theorem d_Nm_changeHandByDraws_52 : decode c_Nm_changeHandByDraws 52 = .ok (.getfield 10, 3) := by decide +kernel
theorem d_Nm_changeHandByDraws_55 : decode c_Nm_changeHandByDraws 55 = .ok (.dup, 1) := by decide +kernel
theorem d_Nm_changeHandByDraws_56 : decode c_Nm_changeHandByDraws 56 = .ok (.getfield 88, 3) := by decide +kernel
theorem d_Nm_changeHandByDraws_59 : decode c_Nm_changeHandByDraws 59 = .ok (.lconst 1, 1) := by decide +kernel
theorem d_Nm_changeHandByDraws_60 : decode c_Nm_changeHandByDraws 60 = .ok (.aload_n 0, 1) := by decide +kernel
theorem d_Nm_changeHandByDraws_61 : decode c_Nm_changeHandByDraws 61 = .ok (.getfield 79, 3) := by decide +kernel
theorem d_Nm_changeHandByDraws_64 : decode c_Nm_changeHandByDraws 64 = .ok (.bipush 64, 2) := by decide +kernel
theorem d_Nm_changeHandByDraws_66 : decode c_Nm_changeHandByDraws 66 = .ok (.invokevirtual 216, 3) := by decide +kernel
theorem d_Nm_changeHandByDraws_69 : decode c_Nm_changeHandByDraws 69 = .ok (.lshl, 1) := by decide +kernel
theorem d_Nm_changeHandByDraws_70 : decode c_Nm_changeHandByDraws 70 = .ok (.lxor, 1) := by decide +kernel
theorem d_Nm_changeHandByDraws_71 : decode c_Nm_changeHandByDraws 71 = .ok (.putfield 88, 3) := by decide +kernel
theorem d_Nm_changeHandByDraws_74 : decode c_Nm_changeHandByDraws 74 = .ok (.return_, 1) := by decide +kernel
theorem d_Nm_putIfUnlikeAll_0 : decode c_Nm_putIfUnlikeAll 0 = .ok (.aload_n 0, 1) := by decide +kernel
theorem d_Nm_putIfUnlikeAll_1 : decode c_Nm_putIfUnlikeAll 1 = .ok (.getfield 10, 3) := by decide +kernel
theorem d_Nm_putIfUnlikeAll_4 : decode c_Nm_putIfUnlikeAll 4 = .ok (.getfield 83, 3) := by decide +kernel
theorem d_Nm_putIfUnlikeAll_7 : decode c_Nm_putIfUnlikeAll 7 = .ok (.bipush 40, 2) := by decide +kernel
theorem d_Nm_putIfUnlikeAll_9 : decode c_Nm_putIfUnlikeAll 9 = .ok (.if_icmp .ge 29, 3) := by decide +kernel
theorem d_Nm_putIfUnlikeAll_12 : decode c_Nm_putIfUnlikeAll 12 = .ok (.aload_n 0, 1) := by decide +kernel
theorem d_Nm_putIfUnlikeAll_13 : decode c_Nm_putIfUnlikeAll 13 = .ok (.getfield 10, 3) := by decide +kernel
theorem d_Nm_putIfUnlikeAll_16 : decode c_Nm_putIfUnlikeAll 16 = .ok (.aload_n 0, 1) := by decide +kernel
theorem d_Nm_putIfUnlikeAll_17 : decode c_Nm_putIfUnlikeAll 17 = .ok (.getfield 10, 3) := by decide +kernel
theorem d_Nm_putIfUnlikeAll_20 : decode c_Nm_putIfUnlikeAll 20 = .ok (.getfield 88, 3) := by decide +kernel
theorem d_Nm_putIfUnlikeAll_23 : decode c_Nm_putIfUnlikeAll 23 = .ok (.invokevirtual 97, 3) := by decide +kernel
theorem d_Nm_putIfUnlikeAll_26 : decode c_Nm_putIfUnlikeAll 26 = .ok (.iconst (-1), 1) := by decide +kernel
theorem d_Nm_putIfUnlikeAll_27 : decode c_Nm_putIfUnlikeAll 27 = .ok (.if_icmp .ne 11, 3) := by decide +kernel
theorem d_Nm_putIfUnlikeAll_30 : decode c_Nm_putIfUnlikeAll 30 = .ok (.aload_n 0, 1) := by decide +kernel
theorem d_Nm_putIfUnlikeAll_31 : decode c_Nm_putIfUnlikeAll 31 = .ok (.getfield 10, 3) := by decide +kernel
theorem d_Nm_putIfUnlikeAll_34 : decode c_Nm_putIfUnlikeAll 34 = .ok (.iconst 0, 1) := by decide +kernel
theorem d_Nm_putIfUnlikeAll_35 : decode c_Nm_putIfUnlikeAll 35 = .ok (.invokevirtual 199, 3) := by decide +kernel
theorem d_Nm_putIfUnlikeAll_38 : decode c_Nm_putIfUnlikeAll 38 = .ok (.return_, 1) := by decide +kernel
theorem d_Nm_near_0 : decode c_Nm_near 0 = .ok (.iload_n 1, 1) := by decide +kernel
theorem d_Nm_near_1 : decode c_Nm_near 1 = .ok (.invokestatic 223, 3) := by decide +kernel
theorem d_Nm_near_4 : decode c_Nm_near 4 = .ok (.ifCond .ne 5, 3) := by decide +kernel
theorem d_Nm_near_7 : decode c_Nm_near 7 = .ok (.lconst 0, 1) := by decide +kernel
theorem d_Nm_near_8 : decode c_Nm_near 8 = .ok (.lreturn, 1) := by decide +kernel
theorem d_Nm_near_9 : decode c_Nm_near 9 = .ok (.lconst 0, 1) := by decide +kernel
theorem d_Nm_near_10 : decode c_Nm_near 10 = .ok (.lstore_n 2, 1) := by decide +kernel
theorem d_Nm_near_11 : decode c_Nm_near 11 = .ok (.iconst 0, 1) := by decide +kernel
theorem d_Nm_near_12 : decode c_Nm_near 12 = .ok (.istore 4, 2) := by decide +kernel
theorem d_Nm_near_14 : decode c_Nm_near 14 = .ok (.iload 4, 2) := by decide +kernel
theorem d_Nm_near_16 : decode c_Nm_near 16 = .ok (.aload_n 0, 1) := by decide +kernel
theorem d_Nm_near_17 : decode c_Nm_near 17 = .ok (.getfield 10, 3) := by decide +kernel
theorem d_Nm_near_20 : decode c_Nm_near 20 = .ok (.getfield 83, 3) := by decide +kernel
theorem d_Nm_near_23 : decode c_Nm_near 23 = .ok (.if_icmp .ge 26, 3) := by decide +kernel
theorem d_Nm_near_26 : decode c_Nm_near 26 = .ok (.aload_n 0, 1) := by decide +kernel
theorem d_Nm_near_27 : decode c_Nm_near 27 = .ok (.iload 4, 2) := by decide +kernel
theorem d_Nm_near_29 : decode c_Nm_near 29 = .ok (.iload_n 1, 1) := by decide +kernel
theorem d_Nm_near_30 : decode c_Nm_near 30 = .ok (.invokevirtual 226, 3) := by decide +kernel
theorem d_Nm_near_33 : decode c_Nm_near 33 = .ok (.ifCond .eq 10, 3) := by decide +kernel
theorem d_Nm_near_36 : decode c_Nm_near 36 = .ok (.lload_n 2, 1) := by decide +kernel
theorem d_Nm_near_37 : decode c_Nm_near 37 = .ok (.lconst 1, 1) := by decide +kernel
theorem d_Nm_near_38 : decode c_Nm_near 38 = .ok (.iload 4, 2) := by decide +kernel
theorem d_Nm_near_40 : decode c_Nm_near 40 = .ok (.lshl, 1) := by decide +kernel
theorem d_Nm_near_41 : decode c_Nm_near 41 = .ok (.lor, 1) := by decide +kernel
theorem d_Nm_near_42 : decode c_Nm_near 42 = .ok (.lstore_n 2, 1) := by decide +kernel
theorem d_Nm_near_43 : decode c_Nm_near 43 = .ok (.iinc 4 1, 3) := by decide +kernel
theorem d_Nm_near_46 : decode c_Nm_near 46 = .ok (.goto (-32), 3) := by decide +kernel
theorem d_Nm_near_49 : decode c_Nm_near 49 = .ok (.lload_n 2, 1) := by decide +kernel
theorem d_Nm_near_50 : decode c_Nm_near 50 = .ok (.lreturn, 1) := by decide +kernel
theorem d_Nm_nearest_0 : decode c_Nm_nearest 0 = .ok (.aload_n 0, 1) := by decide +kernel
theorem d_Nm_nearest_1 : decode c_Nm_nearest 1 = .ok (.getfield 10, 3) := by decide +kernel
theorem d_Nm_nearest_4 : decode c_Nm_nearest 4 = .ok (.iload_n 1, 1) := by decide +kernel
theorem d_Nm_nearest_5 : decode c_Nm_nearest 5 = .ok (.invokevirtual 108, 3) := by decide +kernel
theorem d_Nm_nearest_8 : decode c_Nm_nearest 8 = .ok (.ireturn, 1) := by decide +kernel
theorem d_Nm_apart_0 : decode c_Nm_apart 0 = .ok (.aload_n 0, 1) := by decide +kernel
theorem d_Nm_apart_1 : decode c_Nm_apart 1 = .ok (.getfield 10, 3) := by decide +kernel
theorem d_Nm_apart_4 : decode c_Nm_apart 4 = .ok (.iload_n 1, 1) := by decide +kernel
theorem d_Nm_apart_5 : decode c_Nm_apart 5 = .ok (.iload_n 2, 1) := by decide +kernel
theorem d_Nm_apart_6 : decode c_Nm_apart 6 = .ok (.invokevirtual 230, 3) := by decide +kernel
theorem d_Nm_apart_9 : decode c_Nm_apart 9 = .ok (.ifCond .eq 15, 3) := by decide +kernel
theorem d_Nm_apart_12 : decode c_Nm_apart 12 = .ok (.aload_n 0, 1) := by decide +kernel
theorem d_Nm_apart_13 : decode c_Nm_apart 13 = .ok (.getfield 10, 3) := by decide +kernel
theorem d_Nm_apart_16 : decode c_Nm_apart 16 = .ok (.iload_n 1, 1) := by decide +kernel
theorem d_Nm_apart_17 : decode c_Nm_apart 17 = .ok (.iload_n 2, 1) := by decide +kernel
theorem d_Nm_apart_18 : decode c_Nm_apart 18 = .ok (.invokevirtual 171, 3) := by decide +kernel
theorem d_Nm_apart_21 : decode c_Nm_apart 21 = .ok (.goto 5, 3) := by decide +kernel
theorem d_Nm_apart_24 : decode c_Nm_apart 24 = .ok (.ldc 146, 2) := by decide +kernel
theorem d_Nm_apart_26 : decode c_Nm_apart 26 = .ok (.ireturn, 1) := by decide +kernel
theorem d_Nm_groups_0 : decode c_Nm_groups 0 = .ok (.iload_n 1, 1) := by decide +kernel
theorem d_Nm_groups_1 : decode c_Nm_groups 1 = .ok (.invokestatic 223, 3) := by decide +kernel
theorem d_Nm_groups_4 : decode c_Nm_groups 4 = .ok (.ifCond .ne 6, 3) := by decide +kernel
theorem d_Nm_groups_7 : decode c_Nm_groups 7 = .ok (.ldc 137, 2) := by decide +kernel
theorem d_Nm_groups_9 : decode c_Nm_groups 9 = .ok (.ireturn, 1) := by decide +kernel
theorem d_Nm_groups_10 : decode c_Nm_groups 10 = .ok (.aload_n 0, 1) := by decide +kernel
theorem d_Nm_groups_11 : decode c_Nm_groups 11 = .ok (.getfield 51, 3) := by decide +kernel
theorem d_Nm_groups_14 : decode c_Nm_groups 14 = .ok (.aload_n 0, 1) := by decide +kernel
theorem d_Nm_groups_15 : decode c_Nm_groups 15 = .ok (.getfield 10, 3) := by decide +kernel
theorem d_Nm_groups_18 : decode c_Nm_groups 18 = .ok (.iload_n 1, 1) := by decide +kernel
theorem d_Nm_groups_19 : decode c_Nm_groups 19 = .ok (.invokevirtual 233, 3) := by decide +kernel
theorem d_Nm_groups_22 : decode c_Nm_groups 22 = .ok (.aload_n 0, 1) := by decide +kernel
theorem d_Nm_groups_23 : decode c_Nm_groups 23 = .ok (.getfield 51, 3) := by decide +kernel
theorem d_Nm_groups_26 : decode c_Nm_groups 26 = .ok (.getfield 237, 3) := by decide +kernel
theorem d_Nm_groups_29 : decode c_Nm_groups 29 = .ok (.ireturn, 1) := by decide +kernel
theorem d_Nm_group_0 : decode c_Nm_group 0 = .ok (.iload_n 1, 1) := by decide +kernel
theorem d_Nm_group_1 : decode c_Nm_group 1 = .ok (.invokestatic 223, 3) := by decide +kernel
theorem d_Nm_group_4 : decode c_Nm_group 4 = .ok (.ifCond .ne 6, 3) := by decide +kernel
theorem d_Nm_group_7 : decode c_Nm_group 7 = .ok (.ldc 137, 2) := by decide +kernel
theorem d_Nm_group_9 : decode c_Nm_group 9 = .ok (.ireturn, 1) := by decide +kernel
theorem d_Nm_group_10 : decode c_Nm_group 10 = .ok (.aload_n 0, 1) := by decide +kernel
theorem d_Nm_group_11 : decode c_Nm_group 11 = .ok (.getfield 51, 3) := by decide +kernel
theorem d_Nm_group_14 : decode c_Nm_group 14 = .ok (.aload_n 0, 1) := by decide +kernel
theorem d_Nm_group_15 : decode c_Nm_group 15 = .ok (.getfield 10, 3) := by decide +kernel
theorem d_Nm_group_18 : decode c_Nm_group 18 = .ok (.iload_n 1, 1) := by decide +kernel
theorem d_Nm_group_19 : decode c_Nm_group 19 = .ok (.invokevirtual 233, 3) := by decide +kernel
theorem d_Nm_group_22 : decode c_Nm_group 22 = .ok (.aload_n 0, 1) := by decide +kernel
theorem d_Nm_group_23 : decode c_Nm_group 23 = .ok (.getfield 51, 3) := by decide +kernel
theorem d_Nm_group_26 : decode c_Nm_group 26 = .ok (.iload_n 2, 1) := by decide +kernel
theorem d_Nm_group_27 : decode c_Nm_group 27 = .ok (.invokevirtual 238, 3) := by decide +kernel
theorem d_Nm_group_30 : decode c_Nm_group 30 = .ok (.ifCond .ne 6, 3) := by decide +kernel
theorem d_Nm_group_33 : decode c_Nm_group 33 = .ok (.ldc 146, 2) := by decide +kernel
theorem d_Nm_group_35 : decode c_Nm_group 35 = .ok (.ireturn, 1) := by decide +kernel
theorem d_Nm_group_36 : decode c_Nm_group 36 = .ok (.iload_n 3, 1) := by decide +kernel
theorem d_Nm_group_37 : decode c_Nm_group 37 = .ok (.tableswitch 70 0 2 #[27, 40, 53], 27) := by decide +kernel
theorem d_Nm_group_64 : decode c_Nm_group 64 = .ok (.aload_n 0, 1) := by decide +kernel
theorem d_Nm_group_65 : decode c_Nm_group 65 = .ok (.getfield 51, 3) := by decide +kernel
theorem d_Nm_group_68 : decode c_Nm_group 68 = .ok (.getfield 239, 3) := by decide +kernel
theorem d_Nm_group_71 : decode c_Nm_group 71 = .ok (.iload_n 2, 1) := by decide +kernel
theorem d_Nm_group_72 : decode c_Nm_group 72 = .ok (.laload, 1) := by decide +kernel
theorem d_Nm_group_73 : decode c_Nm_group 73 = .ok (.invokestatic 91, 3) := by decide +kernel
theorem d_Nm_group_76 : decode c_Nm_group 76 = .ok (.ireturn, 1) := by decide +kernel
theorem d_Nm_group_77 : decode c_Nm_group 77 = .ok (.aload_n 0, 1) := by decide +kernel
theorem d_Nm_group_78 : decode c_Nm_group 78 = .ok (.getfield 51, 3) := by decide +kernel
theorem d_Nm_group_81 : decode c_Nm_group 81 = .ok (.getfield 239, 3) := by decide +kernel
theorem d_Nm_group_84 : decode c_Nm_group 84 = .ok (.iload_n 2, 1) := by decide +kernel
theorem d_Nm_group_85 : decode c_Nm_group 85 = .ok (.laload, 1) := by decide +kernel
theorem d_Nm_group_86 : decode c_Nm_group 86 = .ok (.invokestatic 242, 3) := by decide +kernel
theorem d_Nm_group_89 : decode c_Nm_group 89 = .ok (.ireturn, 1) := by decide +kernel
theorem d_Nm_group_90 : decode c_Nm_group 90 = .ok (.aload_n 0, 1) := by decide +kernel
theorem d_Nm_group_91 : decode c_Nm_group 91 = .ok (.getfield 10, 3) := by decide +kernel
theorem d_Nm_group_94 : decode c_Nm_group 94 = .ok (.aload_n 0, 1) := by decide +kernel
theorem d_Nm_group_95 : decode c_Nm_group 95 = .ok (.getfield 51, 3) := by decide +kernel
theorem d_Nm_group_98 : decode c_Nm_group 98 = .ok (.getfield 239, 3) := by decide +kernel
theorem d_Nm_group_101 : decode c_Nm_group 101 = .ok (.iload_n 2, 1) := by decide +kernel
theorem d_Nm_group_102 : decode c_Nm_group 102 = .ok (.laload, 1) := by decide +kernel
theorem d_Nm_group_103 : decode c_Nm_group 103 = .ok (.invokevirtual 245, 3) := by decide +kernel
theorem d_Nm_group_106 : decode c_Nm_group 106 = .ok (.ireturn, 1) := by decide +kernel
theorem d_Nm_group_107 : decode c_Nm_group 107 = .ok (.ldc 137, 2) := by decide +kernel
theorem d_Nm_group_109 : decode c_Nm_group 109 = .ok (.ireturn, 1) := by decide +kernel
theorem d_Nm_middle_0 : decode c_Nm_middle 0 = .ok (.iload_n 1, 1) := by decide +kernel
theorem d_Nm_middle_1 : decode c_Nm_middle 1 = .ok (.invokestatic 223, 3) := by decide +kernel
theorem d_Nm_middle_4 : decode c_Nm_middle 4 = .ok (.ifCond .ne 5, 3) := by decide +kernel
theorem d_Nm_middle_7 : decode c_Nm_middle 7 = .ok (.lconst 0, 1) := by decide +kernel
theorem d_Nm_middle_8 : decode c_Nm_middle 8 = .ok (.lreturn, 1) := by decide +kernel
theorem d_Nm_middle_9 : decode c_Nm_middle 9 = .ok (.aload_n 0, 1) := by decide +kernel
theorem d_Nm_middle_10 : decode c_Nm_middle 10 = .ok (.getfield 51, 3) := by decide +kernel
theorem d_Nm_middle_13 : decode c_Nm_middle 13 = .ok (.aload_n 0, 1) := by decide +kernel
theorem d_Nm_middle_14 : decode c_Nm_middle 14 = .ok (.getfield 10, 3) := by decide +kernel
theorem d_Nm_middle_17 : decode c_Nm_middle 17 = .ok (.iload_n 1, 1) := by decide +kernel
theorem d_Nm_middle_18 : decode c_Nm_middle 18 = .ok (.invokevirtual 233, 3) := by decide +kernel
theorem d_Nm_middle_21 : decode c_Nm_middle 21 = .ok (.aload_n 0, 1) := by decide +kernel
theorem d_Nm_middle_22 : decode c_Nm_middle 22 = .ok (.getfield 51, 3) := by decide +kernel
theorem d_Nm_middle_25 : decode c_Nm_middle 25 = .ok (.iload_n 2, 1) := by decide +kernel
theorem d_Nm_middle_26 : decode c_Nm_middle 26 = .ok (.invokevirtual 238, 3) := by decide +kernel
theorem d_Nm_middle_29 : decode c_Nm_middle 29 = .ok (.ifCond .eq 26, 3) := by decide +kernel
theorem d_Nm_middle_32 : decode c_Nm_middle 32 = .ok (.aload_n 0, 1) := by decide +kernel
theorem d_Nm_middle_33 : decode c_Nm_middle 33 = .ok (.getfield 58, 3) := by decide +kernel
theorem d_Nm_middle_36 : decode c_Nm_middle 36 = .ok (.aload_n 0, 1) := by decide +kernel
theorem d_Nm_middle_37 : decode c_Nm_middle 37 = .ok (.getfield 10, 3) := by decide +kernel
theorem d_Nm_middle_40 : decode c_Nm_middle 40 = .ok (.aload_n 0, 1) := by decide +kernel
theorem d_Nm_middle_41 : decode c_Nm_middle 41 = .ok (.getfield 51, 3) := by decide +kernel
theorem d_Nm_middle_44 : decode c_Nm_middle 44 = .ok (.getfield 239, 3) := by decide +kernel
theorem d_Nm_middle_47 : decode c_Nm_middle 47 = .ok (.iload_n 2, 1) := by decide +kernel
theorem d_Nm_middle_48 : decode c_Nm_middle 48 = .ok (.laload, 1) := by decide +kernel
theorem d_Nm_middle_49 : decode c_Nm_middle 49 = .ok (.invokevirtual 248, 3) := by decide +kernel
theorem d_Nm_middle_52 : decode c_Nm_middle 52 = .ok (.goto 4, 3) := by decide +kernel
theorem d_Nm_middle_55 : decode c_Nm_middle 55 = .ok (.lconst 0, 1) := by decide +kernel
theorem d_Nm_middle_56 : decode c_Nm_middle 56 = .ok (.lreturn, 1) := by decide +kernel
theorem d_Nm_fewest_0 : decode c_Nm_fewest 0 = .ok (.iload_n 1, 1) := by decide +kernel
theorem d_Nm_fewest_1 : decode c_Nm_fewest 1 = .ok (.iconst 1, 1) := by decide +kernel
theorem d_Nm_fewest_2 : decode c_Nm_fewest 2 = .ok (.if_icmp .lt 18, 3) := by decide +kernel
theorem d_Nm_fewest_5 : decode c_Nm_fewest 5 = .ok (.iload_n 1, 1) := by decide +kernel
theorem d_Nm_fewest_6 : decode c_Nm_fewest 6 = .ok (.bipush 8, 2) := by decide +kernel
theorem d_Nm_fewest_8 : decode c_Nm_fewest 8 = .ok (.if_icmp .gt 12, 3) := by decide +kernel
theorem d_Nm_fewest_11 : decode c_Nm_fewest 11 = .ok (.iload_n 2, 1) := by decide +kernel
theorem d_Nm_fewest_12 : decode c_Nm_fewest 12 = .ok (.ifCond .lt 8, 3) := by decide +kernel
theorem d_Nm_fewest_15 : decode c_Nm_fewest 15 = .ok (.iload_n 2, 1) := by decide +kernel
theorem d_Nm_fewest_16 : decode c_Nm_fewest 16 = .ok (.iconst 1, 1) := by decide +kernel
theorem d_Nm_fewest_17 : decode c_Nm_fewest 17 = .ok (.if_icmp .le 6, 3) := by decide +kernel
theorem d_Nm_fewest_20 : decode c_Nm_fewest 20 = .ok (.ldc 137, 2) := by decide +kernel
theorem d_Nm_fewest_22 : decode c_Nm_fewest 22 = .ok (.ireturn, 1) := by decide +kernel
theorem d_Nm_fewest_23 : decode c_Nm_fewest 23 = .ok (.iconst 0, 1) := by decide +kernel
theorem d_Nm_fewest_24 : decode c_Nm_fewest 24 = .ok (.istore_n 3, 1) := by decide +kernel
theorem d_Nm_fewest_25 : decode c_Nm_fewest 25 = .ok (.iconst (-1), 1) := by decide +kernel
theorem d_Nm_fewest_26 : decode c_Nm_fewest 26 = .ok (.istore 4, 2) := by decide +kernel
theorem d_Nm_fewest_28 : decode c_Nm_fewest 28 = .ok (.iconst 0, 1) := by decide +kernel
theorem d_Nm_fewest_29 : decode c_Nm_fewest 29 = .ok (.istore 5, 2) := by decide +kernel
theorem d_Nm_fewest_31 : decode c_Nm_fewest 31 = .ok (.iload 5, 2) := by decide +kernel
theorem d_Nm_fewest_33 : decode c_Nm_fewest 33 = .ok (.iconst 3, 1) := by decide +kernel
theorem d_Nm_fewest_34 : decode c_Nm_fewest 34 = .ok (.if_icmp .ge 48, 3) := by decide +kernel
theorem d_Nm_fewest_37 : decode c_Nm_fewest 37 = .ok (.aload_n 0, 1) := by decide +kernel
theorem d_Nm_fewest_38 : decode c_Nm_fewest 38 = .ok (.getfield 45, 3) := by decide +kernel
theorem d_Nm_fewest_41 : decode c_Nm_fewest 41 = .ok (.iload_n 1, 1) := by decide +kernel
theorem d_Nm_fewest_42 : decode c_Nm_fewest 42 = .ok (.iload 5, 2) := by decide +kernel
theorem d_Nm_fewest_44 : decode c_Nm_fewest 44 = .ok (.invokevirtual 252, 3) := by decide +kernel
theorem d_Nm_fewest_47 : decode c_Nm_fewest 47 = .ok (.aload_n 0, 1) := by decide +kernel
theorem d_Nm_fewest_48 : decode c_Nm_fewest 48 = .ok (.aload_n 0, 1) := by decide +kernel
theorem d_Nm_fewest_49 : decode c_Nm_fewest 49 = .ok (.getfield 45, 3) := by decide +kernel
theorem d_Nm_fewest_52 : decode c_Nm_fewest 52 = .ok (.invokevirtual 256, 3) := by decide +kernel
theorem d_Nm_fewest_55 : decode c_Nm_fewest 55 = .ok (.istore 6, 2) := by decide +kernel
theorem d_Nm_fewest_57 : decode c_Nm_fewest 57 = .ok (.iload 4, 2) := by decide +kernel
theorem d_Nm_fewest_59 : decode c_Nm_fewest 59 = .ok (.iconst (-1), 1) := by decide +kernel
theorem d_Nm_fewest_60 : decode c_Nm_fewest 60 = .ok (.if_icmp .eq 9, 3) := by decide +kernel
theorem d_Nm_fewest_63 : decode c_Nm_fewest 63 = .ok (.iload 6, 2) := by decide +kernel
theorem d_Nm_fewest_65 : decode c_Nm_fewest 65 = .ok (.iload_n 3, 1) := by decide +kernel
theorem d_Nm_fewest_66 : decode c_Nm_fewest 66 = .ok (.if_icmp .ge 10, 3) := by decide +kernel
theorem d_Nm_fewest_69 : decode c_Nm_fewest 69 = .ok (.iload 6, 2) := by decide +kernel
theorem d_Nm_fewest_71 : decode c_Nm_fewest 71 = .ok (.istore_n 3, 1) := by decide +kernel
theorem d_Nm_fewest_72 : decode c_Nm_fewest 72 = .ok (.iload 5, 2) := by decide +kernel
theorem d_Nm_fewest_74 : decode c_Nm_fewest 74 = .ok (.istore 4, 2) := by decide +kernel
theorem d_Nm_fewest_76 : decode c_Nm_fewest 76 = .ok (.iinc 5 1, 3) := by decide +kernel
theorem d_Nm_fewest_79 : decode c_Nm_fewest 79 = .ok (.goto (-48), 3) := by decide +kernel
theorem d_Nm_fewest_82 : decode c_Nm_fewest 82 = .ok (.iload_n 2, 1) := by decide +kernel
theorem d_Nm_fewest_83 : decode c_Nm_fewest 83 = .ok (.ifCond .ne 7, 3) := by decide +kernel
theorem d_Nm_fewest_86 : decode c_Nm_fewest 86 = .ok (.iload_n 3, 1) := by decide +kernel
theorem d_Nm_fewest_87 : decode c_Nm_fewest 87 = .ok (.goto 5, 3) := by decide +kernel
theorem d_Nm_fewest_90 : decode c_Nm_fewest 90 = .ok (.iload 4, 2) := by decide +kernel
theorem d_Nm_fewest_92 : decode c_Nm_fewest 92 = .ok (.ireturn, 1) := by decide +kernel
theorem d_Nm_isDistance_0 : decode c_Nm_isDistance 0 = .ok (.iload_n 0, 1) := by decide +kernel
theorem d_Nm_isDistance_1 : decode c_Nm_isDistance 1 = .ok (.ifCond .lt 13, 3) := by decide +kernel
theorem d_Nm_isDistance_4 : decode c_Nm_isDistance 4 = .ok (.iload_n 0, 1) := by decide +kernel
theorem d_Nm_isDistance_5 : decode c_Nm_isDistance 5 = .ok (.bipush 64, 2) := by decide +kernel
theorem d_Nm_isDistance_7 : decode c_Nm_isDistance 7 = .ok (.if_icmp .gt 7, 3) := by decide +kernel
theorem d_Nm_isDistance_10 : decode c_Nm_isDistance 10 = .ok (.iconst 1, 1) := by decide +kernel
theorem d_Nm_isDistance_11 : decode c_Nm_isDistance 11 = .ok (.goto 4, 3) := by decide +kernel
theorem d_Nm_isDistance_14 : decode c_Nm_isDistance 14 = .ok (.iconst 0, 1) := by decide +kernel
theorem d_Nm_isDistance_15 : decode c_Nm_isDistance 15 = .ok (.ireturn, 1) := by decide +kernel
theorem d_Nm_isNear_0 : decode c_Nm_isNear 0 = .ok (.aload_n 0, 1) := by decide +kernel
theorem d_Nm_isNear_1 : decode c_Nm_isNear 1 = .ok (.getfield 10, 3) := by decide +kernel
theorem d_Nm_isNear_4 : decode c_Nm_isNear 4 = .ok (.iload_n 1, 1) := by decide +kernel
theorem d_Nm_isNear_5 : decode c_Nm_isNear 5 = .ok (.invokevirtual 151, 3) := by decide +kernel
theorem d_Nm_isNear_8 : decode c_Nm_isNear 8 = .ok (.istore_n 3, 1) := by decide +kernel
theorem d_Nm_isNear_9 : decode c_Nm_isNear 9 = .ok (.iload_n 3, 1) := by decide +kernel
theorem d_Nm_isNear_10 : decode c_Nm_isNear 10 = .ok (.iload_n 2, 1) := by decide +kernel
theorem d_Nm_isNear_11 : decode c_Nm_isNear 11 = .ok (.if_icmp .gt 16, 3) := by decide +kernel
theorem d_Nm_isNear_14 : decode c_Nm_isNear 14 = .ok (.aload_n 0, 1) := by decide +kernel
theorem d_Nm_isNear_15 : decode c_Nm_isNear 15 = .ok (.getfield 10, 3) := by decide +kernel
theorem d_Nm_isNear_18 : decode c_Nm_isNear 18 = .ok (.getfield 147, 3) := by decide +kernel
theorem d_Nm_isNear_21 : decode c_Nm_isNear 21 = .ok (.iload_n 1, 1) := by decide +kernel
theorem d_Nm_isNear_22 : decode c_Nm_isNear 22 = .ok (.iaload, 1) := by decide +kernel
theorem d_Nm_isNear_23 : decode c_Nm_isNear 23 = .ok (.iconst 1, 1) := by decide +kernel
theorem d_Nm_isNear_24 : decode c_Nm_isNear 24 = .ok (.if_icmp .ne 5, 3) := by decide +kernel
theorem d_Nm_isNear_27 : decode c_Nm_isNear 27 = .ok (.iconst 0, 1) := by decide +kernel
theorem d_Nm_isNear_28 : decode c_Nm_isNear 28 = .ok (.ireturn, 1) := by decide +kernel
theorem d_Nm_isNear_29 : decode c_Nm_isNear 29 = .ok (.aload_n 0, 1) := by decide +kernel
theorem d_Nm_isNear_30 : decode c_Nm_isNear 30 = .ok (.getfield 10, 3) := by decide +kernel
theorem d_Nm_isNear_33 : decode c_Nm_isNear 33 = .ok (.getfield 147, 3) := by decide +kernel
theorem d_Nm_isNear_36 : decode c_Nm_isNear 36 = .ok (.iload_n 1, 1) := by decide +kernel
theorem d_Nm_isNear_37 : decode c_Nm_isNear 37 = .ok (.iaload, 1) := by decide +kernel
theorem d_Nm_isNear_38 : decode c_Nm_isNear 38 = .ok (.ifCond .eq 21, 3) := by decide +kernel
theorem d_Nm_isNear_41 : decode c_Nm_isNear 41 = .ok (.iload_n 2, 1) := by decide +kernel
theorem d_Nm_isNear_42 : decode c_Nm_isNear 42 = .ok (.aload_n 0, 1) := by decide +kernel
theorem d_Nm_isNear_43 : decode c_Nm_isNear 43 = .ok (.getfield 33, 3) := by decide +kernel
theorem d_Nm_isNear_46 : decode c_Nm_isNear 46 = .ok (.invokevirtual 104, 3) := by decide +kernel
theorem d_Nm_isNear_49 : decode c_Nm_isNear 49 = .ok (.if_icmp .ge 10, 3) := by decide +kernel
theorem d_Nm_isNear_52 : decode c_Nm_isNear 52 = .ok (.iload_n 3, 1) := by decide +kernel
theorem d_Nm_isNear_53 : decode c_Nm_isNear 53 = .ok (.iload_n 2, 1) := by decide +kernel
theorem d_Nm_isNear_54 : decode c_Nm_isNear 54 = .ok (.iconst 2, 1) := by decide +kernel
theorem d_Nm_isNear_55 : decode c_Nm_isNear 55 = .ok (.idiv, 1) := by decide +kernel
theorem d_Nm_isNear_56 : decode c_Nm_isNear 56 = .ok (.if_icmp .gt 7, 3) := by decide +kernel
theorem d_Nm_isNear_59 : decode c_Nm_isNear 59 = .ok (.iconst 1, 1) := by decide +kernel
theorem d_Nm_isNear_60 : decode c_Nm_isNear 60 = .ok (.goto 4, 3) := by decide +kernel
theorem d_Nm_isNear_63 : decode c_Nm_isNear 63 = .ok (.iconst 0, 1) := by decide +kernel
theorem d_Nm_isNear_64 : decode c_Nm_isNear 64 = .ok (.ireturn, 1) := by decide +kernel
theorem d_Nm_countAllLooks_0 : decode c_Nm_countAllLooks 0 = .ok (.iconst 0, 1) := by decide +kernel
theorem d_Nm_countAllLooks_1 : decode c_Nm_countAllLooks 1 = .ok (.istore_n 2, 1) := by decide +kernel
theorem d_Nm_countAllLooks_2 : decode c_Nm_countAllLooks 2 = .ok (.iconst 0, 1) := by decide +kernel
theorem d_Nm_countAllLooks_3 : decode c_Nm_countAllLooks 3 = .ok (.istore_n 3, 1) := by decide +kernel
theorem d_Nm_countAllLooks_4 : decode c_Nm_countAllLooks 4 = .ok (.iload_n 3, 1) := by decide +kernel
theorem d_Nm_countAllLooks_5 : decode c_Nm_countAllLooks 5 = .ok (.aload_n 0, 1) := by decide +kernel
theorem d_Nm_countAllLooks_6 : decode c_Nm_countAllLooks 6 = .ok (.getfield 10, 3) := by decide +kernel
theorem d_Nm_countAllLooks_9 : decode c_Nm_countAllLooks 9 = .ok (.getfield 83, 3) := by decide +kernel
theorem d_Nm_countAllLooks_12 : decode c_Nm_countAllLooks 12 = .ok (.if_icmp .ge 62, 3) := by decide +kernel
theorem d_Nm_countAllLooks_15 : decode c_Nm_countAllLooks 15 = .ok (.iload_n 3, 1) := by decide +kernel
theorem d_Nm_countAllLooks_16 : decode c_Nm_countAllLooks 16 = .ok (.iconst 1, 1) := by decide +kernel
theorem d_Nm_countAllLooks_17 : decode c_Nm_countAllLooks 17 = .ok (.iadd, 1) := by decide +kernel
theorem d_Nm_countAllLooks_18 : decode c_Nm_countAllLooks 18 = .ok (.istore 4, 2) := by decide +kernel
theorem d_Nm_countAllLooks_20 : decode c_Nm_countAllLooks 20 = .ok (.iload 4, 2) := by decide +kernel
theorem d_Nm_countAllLooks_22 : decode c_Nm_countAllLooks 22 = .ok (.aload_n 0, 1) := by decide +kernel
theorem d_Nm_countAllLooks_23 : decode c_Nm_countAllLooks 23 = .ok (.getfield 10, 3) := by decide +kernel
theorem d_Nm_countAllLooks_26 : decode c_Nm_countAllLooks 26 = .ok (.getfield 83, 3) := by decide +kernel
theorem d_Nm_countAllLooks_29 : decode c_Nm_countAllLooks 29 = .ok (.if_icmp .ge 39, 3) := by decide +kernel
theorem d_Nm_countAllLooks_32 : decode c_Nm_countAllLooks 32 = .ok (.aload_n 1, 1) := by decide +kernel
theorem d_Nm_countAllLooks_33 : decode c_Nm_countAllLooks 33 = .ok (.aload_n 0, 1) := by decide +kernel
theorem d_Nm_countAllLooks_34 : decode c_Nm_countAllLooks 34 = .ok (.getfield 10, 3) := by decide +kernel
theorem d_Nm_countAllLooks_37 : decode c_Nm_countAllLooks 37 = .ok (.getfield 142, 3) := by decide +kernel
theorem d_Nm_countAllLooks_40 : decode c_Nm_countAllLooks 40 = .ok (.iload_n 3, 1) := by decide +kernel
theorem d_Nm_countAllLooks_41 : decode c_Nm_countAllLooks 41 = .ok (.laload, 1) := by decide +kernel
theorem d_Nm_countAllLooks_42 : decode c_Nm_countAllLooks 42 = .ok (.aload_n 0, 1) := by decide +kernel
theorem d_Nm_countAllLooks_43 : decode c_Nm_countAllLooks 43 = .ok (.getfield 10, 3) := by decide +kernel
theorem d_Nm_countAllLooks_46 : decode c_Nm_countAllLooks 46 = .ok (.getfield 142, 3) := by decide +kernel
theorem d_Nm_countAllLooks_49 : decode c_Nm_countAllLooks 49 = .ok (.iload 4, 2) := by decide +kernel
theorem d_Nm_countAllLooks_51 : decode c_Nm_countAllLooks 51 = .ok (.laload, 1) := by decide +kernel
theorem d_Nm_countAllLooks_52 : decode c_Nm_countAllLooks 52 = .ok (.lxor, 1) := by decide +kernel
theorem d_Nm_countAllLooks_53 : decode c_Nm_countAllLooks 53 = .ok (.invokevirtual 158, 3) := by decide +kernel
theorem d_Nm_countAllLooks_56 : decode c_Nm_countAllLooks 56 = .ok (.ifCond .eq 6, 3) := by decide +kernel
theorem d_Nm_countAllLooks_59 : decode c_Nm_countAllLooks 59 = .ok (.iinc 2 1, 3) := by decide +kernel
theorem d_Nm_countAllLooks_62 : decode c_Nm_countAllLooks 62 = .ok (.iinc 4 1, 3) := by decide +kernel
theorem d_Nm_countAllLooks_65 : decode c_Nm_countAllLooks 65 = .ok (.goto (-45), 3) := by decide +kernel
theorem d_Nm_countAllLooks_68 : decode c_Nm_countAllLooks 68 = .ok (.iinc 3 1, 3) := by decide +kernel
theorem d_Nm_countAllLooks_71 : decode c_Nm_countAllLooks 71 = .ok (.goto (-67), 3) := by decide +kernel
theorem d_Nm_countAllLooks_74 : decode c_Nm_countAllLooks 74 = .ok (.aload_n 0, 1) := by decide +kernel
theorem d_Nm_countAllLooks_75 : decode c_Nm_countAllLooks 75 = .ok (.getfield 10, 3) := by decide +kernel
theorem d_Nm_countAllLooks_78 : decode c_Nm_countAllLooks 78 = .ok (.getfield 83, 3) := by decide +kernel
theorem d_Nm_countAllLooks_81 : decode c_Nm_countAllLooks 81 = .ok (.iconst 2, 1) := by decide +kernel
theorem d_Nm_countAllLooks_82 : decode c_Nm_countAllLooks 82 = .ok (.iload_n 2, 1) := by decide +kernel
theorem d_Nm_countAllLooks_83 : decode c_Nm_countAllLooks 83 = .ok (.imul, 1) := by decide +kernel
theorem d_Nm_countAllLooks_84 : decode c_Nm_countAllLooks 84 = .ok (.iadd, 1) := by decide +kernel
theorem d_Nm_countAllLooks_85 : decode c_Nm_countAllLooks 85 = .ok (.ireturn, 1) := by decide +kernel
theorem d_Nm_leastOf_0 : decode c_Nm_leastOf 0 = .ok (.iconst 0, 1) := by decide +kernel
theorem d_Nm_leastOf_1 : decode c_Nm_leastOf 1 = .ok (.istore_n 2, 1) := by decide +kernel
theorem d_Nm_leastOf_2 : decode c_Nm_leastOf 2 = .ok (.iload_n 2, 1) := by decide +kernel
theorem d_Nm_leastOf_3 : decode c_Nm_leastOf 3 = .ok (.bipush 64, 2) := by decide +kernel
theorem d_Nm_leastOf_5 : decode c_Nm_leastOf 5 = .ok (.if_icmp .ge 19, 3) := by decide +kernel
theorem d_Nm_leastOf_8 : decode c_Nm_leastOf 8 = .ok (.lload_n 0, 1) := by decide +kernel
theorem d_Nm_leastOf_9 : decode c_Nm_leastOf 9 = .ok (.iload_n 2, 1) := by decide +kernel
theorem d_Nm_leastOf_10 : decode c_Nm_leastOf 10 = .ok (.invokestatic 260, 3) := by decide +kernel
theorem d_Nm_leastOf_13 : decode c_Nm_leastOf 13 = .ok (.ifCond .eq 5, 3) := by decide +kernel
theorem d_Nm_leastOf_16 : decode c_Nm_leastOf 16 = .ok (.iload_n 2, 1) := by decide +kernel
theorem d_Nm_leastOf_17 : decode c_Nm_leastOf 17 = .ok (.ireturn, 1) := by decide +kernel
theorem d_Nm_leastOf_18 : decode c_Nm_leastOf 18 = .ok (.iinc 2 1, 3) := by decide +kernel
theorem d_Nm_leastOf_21 : decode c_Nm_leastOf 21 = .ok (.goto (-19), 3) := by decide +kernel
theorem d_Nm_leastOf_24 : decode c_Nm_leastOf 24 = .ok (.iconst (-1), 1) := by decide +kernel
theorem d_Nm_leastOf_25 : decode c_Nm_leastOf 25 = .ok (.ireturn, 1) := by decide +kernel
theorem d_Nm_hasBit_0 : decode c_Nm_hasBit 0 = .ok (.lload_n 0, 1) := by decide +kernel
theorem d_Nm_hasBit_1 : decode c_Nm_hasBit 1 = .ok (.iload_n 2, 1) := by decide +kernel
theorem d_Nm_hasBit_2 : decode c_Nm_hasBit 2 = .ok (.lushr, 1) := by decide +kernel
theorem d_Nm_hasBit_3 : decode c_Nm_hasBit 3 = .ok (.lconst 1, 1) := by decide +kernel
theorem d_Nm_hasBit_4 : decode c_Nm_hasBit 4 = .ok (.land, 1) := by decide +kernel
theorem d_Nm_hasBit_5 : decode c_Nm_hasBit 5 = .ok (.lconst 0, 1) := by decide +kernel
theorem d_Nm_hasBit_6 : decode c_Nm_hasBit 6 = .ok (.lcmp, 1) := by decide +kernel
theorem d_Nm_hasBit_7 : decode c_Nm_hasBit 7 = .ok (.ifCond .eq 7, 3) := by decide +kernel
theorem d_Nm_hasBit_10 : decode c_Nm_hasBit 10 = .ok (.iconst 1, 1) := by decide +kernel
theorem d_Nm_hasBit_11 : decode c_Nm_hasBit 11 = .ok (.goto 4, 3) := by decide +kernel
theorem d_Nm_hasBit_14 : decode c_Nm_hasBit 14 = .ok (.iconst 0, 1) := by decide +kernel
theorem d_Nm_hasBit_15 : decode c_Nm_hasBit 15 = .ok (.ireturn, 1) := by decide +kernel
theorem d_Nm_distanceOf_0 : decode c_Nm_distanceOf 0 = .ok (.lload_n 0, 1) := by decide +kernel
theorem d_Nm_distanceOf_1 : decode c_Nm_distanceOf 1 = .ok (.lload_n 2, 1) := by decide +kernel
theorem d_Nm_distanceOf_2 : decode c_Nm_distanceOf 2 = .ok (.lxor, 1) := by decide +kernel
theorem d_Nm_distanceOf_3 : decode c_Nm_distanceOf 3 = .ok (.invokestatic 91, 3) := by decide +kernel
theorem d_Nm_distanceOf_6 : decode c_Nm_distanceOf 6 = .ok (.ireturn, 1) := by decide +kernel
theorem d_Nm_see_0 : decode c_Nm_see 0 = .ok (.iload_n 1, 1) := by decide +kernel
theorem d_Nm_see_1 : decode c_Nm_see 1 = .ok (.invokestatic 223, 3) := by decide +kernel
theorem d_Nm_see_4 : decode c_Nm_see 4 = .ok (.ifCond .ne 6, 3) := by decide +kernel
theorem d_Nm_see_7 : decode c_Nm_see 7 = .ok (.ldc 137, 2) := by decide +kernel
theorem d_Nm_see_9 : decode c_Nm_see 9 = .ok (.ireturn, 1) := by decide +kernel
theorem d_Nm_see_10 : decode c_Nm_see 10 = .ok (.aload_n 0, 1) := by decide +kernel
theorem d_Nm_see_11 : decode c_Nm_see 11 = .ok (.getfield 65, 3) := by decide +kernel
theorem d_Nm_see_14 : decode c_Nm_see 14 = .ok (.getfield 121, 3) := by decide +kernel
theorem d_Nm_see_17 : decode c_Nm_see 17 = .ok (.bipush 6, 2) := by decide +kernel
theorem d_Nm_see_19 : decode c_Nm_see 19 = .ok (.if_icmp .lt 6, 3) := by decide +kernel
theorem d_Nm_see_22 : decode c_Nm_see 22 = .ok (.ldc 198, 2) := by decide +kernel
theorem d_Nm_see_24 : decode c_Nm_see 24 = .ok (.ireturn, 1) := by decide +kernel
theorem d_Nm_see_25 : decode c_Nm_see 25 = .ok (.aload_n 0, 1) := by decide +kernel
theorem d_Nm_see_26 : decode c_Nm_see 26 = .ok (.getfield 65, 3) := by decide +kernel
theorem d_Nm_see_29 : decode c_Nm_see 29 = .ok (.aload_n 0, 1) := by decide +kernel
theorem d_Nm_see_30 : decode c_Nm_see 30 = .ok (.getfield 10, 3) := by decide +kernel
theorem d_Nm_see_33 : decode c_Nm_see 33 = .ok (.getfield 88, 3) := by decide +kernel
theorem d_Nm_see_36 : decode c_Nm_see 36 = .ok (.iload_n 1, 1) := by decide +kernel
theorem d_Nm_see_37 : decode c_Nm_see 37 = .ok (.invokevirtual 264, 3) := by decide +kernel
theorem d_Nm_see_40 : decode c_Nm_see 40 = .ok (.aload_n 0, 1) := by decide +kernel
theorem d_Nm_see_41 : decode c_Nm_see 41 = .ok (.getfield 65, 3) := by decide +kernel
theorem d_Nm_see_44 : decode c_Nm_see 44 = .ok (.getfield 121, 3) := by decide +kernel
theorem d_Nm_see_47 : decode c_Nm_see 47 = .ok (.ireturn, 1) := by decide +kernel
theorem d_Nm_write_0 : decode c_Nm_write 0 = .ok (.aload_n 0, 1) := by decide +kernel
theorem d_Nm_write_1 : decode c_Nm_write 1 = .ok (.getfield 10, 3) := by decide +kernel
theorem d_Nm_write_4 : decode c_Nm_write 4 = .ok (.iload_n 1, 1) := by decide +kernel
theorem d_Nm_write_5 : decode c_Nm_write 5 = .ok (.iload_n 2, 1) := by decide +kernel
theorem d_Nm_write_6 : decode c_Nm_write 6 = .ok (.invokevirtual 230, 3) := by decide +kernel
theorem d_Nm_write_9 : decode c_Nm_write 9 = .ok (.ifCond .ne 6, 3) := by decide +kernel
theorem d_Nm_write_12 : decode c_Nm_write 12 = .ok (.ldc 146, 2) := by decide +kernel
theorem d_Nm_write_14 : decode c_Nm_write 14 = .ok (.ireturn, 1) := by decide +kernel
theorem d_Nm_write_15 : decode c_Nm_write 15 = .ok (.iload_n 3, 1) := by decide +kernel
theorem d_Nm_write_16 : decode c_Nm_write 16 = .ok (.invokestatic 223, 3) := by decide +kernel
theorem d_Nm_write_19 : decode c_Nm_write 19 = .ok (.ifCond .ne 6, 3) := by decide +kernel
theorem d_Nm_write_22 : decode c_Nm_write 22 = .ok (.ldc 137, 2) := by decide +kernel
theorem d_Nm_write_24 : decode c_Nm_write 24 = .ok (.ireturn, 1) := by decide +kernel
theorem d_Nm_write_25 : decode c_Nm_write 25 = .ok (.aload_n 0, 1) := by decide +kernel
theorem d_Nm_write_26 : decode c_Nm_write 26 = .ok (.getfield 72, 3) := by decide +kernel
theorem d_Nm_write_29 : decode c_Nm_write 29 = .ok (.getfield 132, 3) := by decide +kernel
theorem d_Nm_write_32 : decode c_Nm_write 32 = .ok (.bipush 20, 2) := by decide +kernel
theorem d_Nm_write_34 : decode c_Nm_write 34 = .ok (.if_icmp .lt 6, 3) := by decide +kernel
theorem d_Nm_write_37 : decode c_Nm_write 37 = .ok (.ldc 198, 2) := by decide +kernel
theorem d_Nm_write_39 : decode c_Nm_write 39 = .ok (.ireturn, 1) := by decide +kernel
theorem d_Nm_write_40 : decode c_Nm_write 40 = .ok (.aload_n 0, 1) := by decide +kernel
theorem d_Nm_write_41 : decode c_Nm_write 41 = .ok (.getfield 72, 3) := by decide +kernel
theorem d_Nm_write_44 : decode c_Nm_write 44 = .ok (.iload_n 1, 1) := by decide +kernel
theorem d_Nm_write_45 : decode c_Nm_write 45 = .ok (.iload_n 2, 1) := by decide +kernel
theorem d_Nm_write_46 : decode c_Nm_write 46 = .ok (.iload_n 3, 1) := by decide +kernel
theorem d_Nm_write_47 : decode c_Nm_write 47 = .ok (.invokevirtual 268, 3) := by decide +kernel
theorem d_Nm_write_50 : decode c_Nm_write 50 = .ok (.aload_n 0, 1) := by decide +kernel
theorem d_Nm_write_51 : decode c_Nm_write 51 = .ok (.getfield 72, 3) := by decide +kernel
theorem d_Nm_write_54 : decode c_Nm_write 54 = .ok (.getfield 132, 3) := by decide +kernel
theorem d_Nm_write_57 : decode c_Nm_write 57 = .ok (.ireturn, 1) := by decide +kernel
theorem d_Nm_tear_0 : decode c_Nm_tear 0 = .ok (.aload_n 0, 1) := by decide +kernel
theorem d_Nm_tear_1 : decode c_Nm_tear 1 = .ok (.getfield 65, 3) := by decide +kernel
theorem d_Nm_tear_4 : decode c_Nm_tear 4 = .ok (.getfield 121, 3) := by decide +kernel
theorem d_Nm_tear_7 : decode c_Nm_tear 7 = .ok (.aload_n 0, 1) := by decide +kernel
theorem d_Nm_tear_8 : decode c_Nm_tear 8 = .ok (.getfield 72, 3) := by decide +kernel
theorem d_Nm_tear_11 : decode c_Nm_tear 11 = .ok (.getfield 132, 3) := by decide +kernel
theorem d_Nm_tear_14 : decode c_Nm_tear 14 = .ok (.iadd, 1) := by decide +kernel
theorem d_Nm_tear_15 : decode c_Nm_tear 15 = .ok (.istore_n 1, 1) := by decide +kernel
theorem d_Nm_tear_16 : decode c_Nm_tear 16 = .ok (.aload_n 0, 1) := by decide +kernel
theorem d_Nm_tear_17 : decode c_Nm_tear 17 = .ok (.getfield 65, 3) := by decide +kernel
theorem d_Nm_tear_20 : decode c_Nm_tear 20 = .ok (.iconst 0, 1) := by decide +kernel
theorem d_Nm_tear_21 : decode c_Nm_tear 21 = .ok (.putfield 121, 3) := by decide +kernel
theorem d_Nm_tear_24 : decode c_Nm_tear 24 = .ok (.aload_n 0, 1) := by decide +kernel
theorem d_Nm_tear_25 : decode c_Nm_tear 25 = .ok (.getfield 72, 3) := by decide +kernel
theorem d_Nm_tear_28 : decode c_Nm_tear 28 = .ok (.iconst 0, 1) := by decide +kernel
theorem d_Nm_tear_29 : decode c_Nm_tear 29 = .ok (.putfield 132, 3) := by decide +kernel
theorem d_Nm_tear_32 : decode c_Nm_tear 32 = .ok (.iload_n 1, 1) := by decide +kernel
theorem d_Nm_tear_33 : decode c_Nm_tear 33 = .ok (.ireturn, 1) := by decide +kernel
theorem d_Nm_seed_0 : decode c_Nm_seed 0 = .ok (.iload_n 1, 1) := by decide +kernel
theorem d_Nm_seed_1 : decode c_Nm_seed 1 = .ok (.ifCond .ge 6, 3) := by decide +kernel
theorem d_Nm_seed_4 : decode c_Nm_seed 4 = .ok (.ldc 137, 2) := by decide +kernel
theorem d_Nm_seed_6 : decode c_Nm_seed 6 = .ok (.ireturn, 1) := by decide +kernel
theorem d_Nm_seed_7 : decode c_Nm_seed 7 = .ok (.aload_n 0, 1) := by decide +kernel
theorem d_Nm_seed_8 : decode c_Nm_seed 8 = .ok (.getfield 79, 3) := by decide +kernel
theorem d_Nm_seed_11 : decode c_Nm_seed 11 = .ok (.getfield 271, 3) := by decide +kernel
theorem d_Nm_seed_14 : decode c_Nm_seed 14 = .ok (.istore_n 2, 1) := by decide +kernel
theorem d_Nm_seed_15 : decode c_Nm_seed 15 = .ok (.aload_n 0, 1) := by decide +kernel
theorem d_Nm_seed_16 : decode c_Nm_seed 16 = .ok (.getfield 79, 3) := by decide +kernel
theorem d_Nm_seed_19 : decode c_Nm_seed 19 = .ok (.iload_n 1, 1) := by decide +kernel
theorem d_Nm_seed_20 : decode c_Nm_seed 20 = .ok (.putfield 271, 3) := by decide +kernel
theorem d_Nm_seed_23 : decode c_Nm_seed 23 = .ok (.iload_n 2, 1) := by decide +kernel
theorem d_Nm_seed_24 : decode c_Nm_seed 24 = .ok (.ireturn, 1) := by decide +kernel
theorem d_Nm_keep_0 : decode c_Nm_keep 0 = .ok (.iload_n 1, 1) := by decide +kernel
theorem d_Nm_keep_1 : decode c_Nm_keep 1 = .ok (.ifCond .lt 8, 3) := by decide +kernel
theorem d_Nm_keep_4 : decode c_Nm_keep 4 = .ok (.iload_n 1, 1) := by decide +kernel
theorem d_Nm_keep_5 : decode c_Nm_keep 5 = .ok (.iconst 2, 1) := by decide +kernel
theorem d_Nm_keep_6 : decode c_Nm_keep 6 = .ok (.if_icmp .lt 6, 3) := by decide +kernel
theorem d_Nm_keep_9 : decode c_Nm_keep 9 = .ok (.ldc 146, 2) := by decide +kernel
theorem d_Nm_keep_11 : decode c_Nm_keep 11 = .ok (.ireturn, 1) := by decide +kernel
theorem d_Nm_keep_12 : decode c_Nm_keep 12 = .ok (.aload_n 0, 1) := by decide +kernel
theorem d_Nm_keep_13 : decode c_Nm_keep 13 = .ok (.getfield 25, 3) := by decide +kernel
theorem d_Nm_keep_16 : decode c_Nm_keep 16 = .ok (.iload_n 1, 1) := by decide +kernel
theorem d_Nm_keep_17 : decode c_Nm_keep 17 = .ok (.aaload, 1) := by decide +kernel
theorem d_Nm_keep_18 : decode c_Nm_keep 18 = .ok (.getfield 274, 3) := by decide +kernel
theorem d_Nm_keep_21 : decode c_Nm_keep 21 = .ok (.aload_n 0, 1) := by decide +kernel
theorem d_Nm_keep_22 : decode c_Nm_keep 22 = .ok (.getfield 10, 3) := by decide +kernel
theorem d_Nm_keep_25 : decode c_Nm_keep 25 = .ok (.invokevirtual 276, 3) := by decide +kernel
theorem d_Nm_keep_28 : decode c_Nm_keep 28 = .ok (.aload_n 0, 1) := by decide +kernel
theorem d_Nm_keep_29 : decode c_Nm_keep 29 = .ok (.getfield 25, 3) := by decide +kernel
theorem d_Nm_keep_32 : decode c_Nm_keep 32 = .ok (.iload_n 1, 1) := by decide +kernel
theorem d_Nm_keep_33 : decode c_Nm_keep 33 = .ok (.aaload, 1) := by decide +kernel
theorem d_Nm_keep_34 : decode c_Nm_keep 34 = .ok (.aload_n 0, 1) := by decide +kernel
theorem d_Nm_keep_35 : decode c_Nm_keep 35 = .ok (.getfield 79, 3) := by decide +kernel
theorem d_Nm_keep_38 : decode c_Nm_keep 38 = .ok (.getfield 271, 3) := by decide +kernel
theorem d_Nm_keep_41 : decode c_Nm_keep 41 = .ok (.putfield 279, 3) := by decide +kernel
theorem d_Nm_keep_44 : decode c_Nm_keep 44 = .ok (.aload_n 0, 1) := by decide +kernel
theorem d_Nm_keep_45 : decode c_Nm_keep 45 = .ok (.getfield 25, 3) := by decide +kernel
theorem d_Nm_keep_48 : decode c_Nm_keep 48 = .ok (.iload_n 1, 1) := by decide +kernel
theorem d_Nm_keep_49 : decode c_Nm_keep 49 = .ok (.aaload, 1) := by decide +kernel
theorem d_Nm_keep_50 : decode c_Nm_keep 50 = .ok (.iconst 1, 1) := by decide +kernel
theorem d_Nm_keep_51 : decode c_Nm_keep 51 = .ok (.putfield 281, 3) := by decide +kernel
theorem d_Nm_keep_54 : decode c_Nm_keep 54 = .ok (.aload_n 0, 1) := by decide +kernel
theorem d_Nm_keep_55 : decode c_Nm_keep 55 = .ok (.getfield 19, 3) := by decide +kernel
theorem d_Nm_keep_58 : decode c_Nm_keep 58 = .ok (.invokevirtual 285, 3) := by decide +kernel
theorem d_Nm_keep_61 : decode c_Nm_keep 61 = .ok (.iconst 1, 1) := by decide +kernel
theorem d_Nm_keep_62 : decode c_Nm_keep 62 = .ok (.ireturn, 1) := by decide +kernel
theorem d_Nm_goBack_0 : decode c_Nm_goBack 0 = .ok (.iload_n 1, 1) := by decide +kernel
theorem d_Nm_goBack_1 : decode c_Nm_goBack 1 = .ok (.ifCond .lt 8, 3) := by decide +kernel
theorem d_Nm_goBack_4 : decode c_Nm_goBack 4 = .ok (.iload_n 1, 1) := by decide +kernel
theorem d_Nm_goBack_5 : decode c_Nm_goBack 5 = .ok (.iconst 2, 1) := by decide +kernel
theorem d_Nm_goBack_6 : decode c_Nm_goBack 6 = .ok (.if_icmp .lt 6, 3) := by decide +kernel
theorem d_Nm_goBack_9 : decode c_Nm_goBack 9 = .ok (.ldc 146, 2) := by decide +kernel
theorem d_Nm_goBack_11 : decode c_Nm_goBack 11 = .ok (.ireturn, 1) := by decide +kernel
theorem d_Nm_goBack_12 : decode c_Nm_goBack 12 = .ok (.aload_n 0, 1) := by decide +kernel
theorem d_Nm_goBack_13 : decode c_Nm_goBack 13 = .ok (.getfield 25, 3) := by decide +kernel
theorem d_Nm_goBack_16 : decode c_Nm_goBack 16 = .ok (.iload_n 1, 1) := by decide +kernel
theorem d_Nm_goBack_17 : decode c_Nm_goBack 17 = .ok (.aaload, 1) := by decide +kernel
theorem d_Nm_goBack_18 : decode c_Nm_goBack 18 = .ok (.getfield 281, 3) := by decide +kernel
theorem d_Nm_goBack_21 : decode c_Nm_goBack 21 = .ok (.ifCond .ne 6, 3) := by decide +kernel
theorem d_Nm_goBack_24 : decode c_Nm_goBack 24 = .ok (.ldc 197, 2) := by decide +kernel
theorem d_Nm_goBack_26 : decode c_Nm_goBack 26 = .ok (.ireturn, 1) := by decide +kernel
theorem d_Nm_goBack_27 : decode c_Nm_goBack 27 = .ok (.aload_n 0, 1) := by decide +kernel
theorem d_Nm_goBack_28 : decode c_Nm_goBack 28 = .ok (.getfield 10, 3) := by decide +kernel
theorem d_Nm_goBack_31 : decode c_Nm_goBack 31 = .ok (.aload_n 0, 1) := by decide +kernel
theorem d_Nm_goBack_32 : decode c_Nm_goBack 32 = .ok (.getfield 25, 3) := by decide +kernel
theorem d_Nm_goBack_35 : decode c_Nm_goBack 35 = .ok (.iload_n 1, 1) := by decide +kernel
theorem d_Nm_goBack_36 : decode c_Nm_goBack 36 = .ok (.aaload, 1) := by decide +kernel
theorem d_Nm_goBack_37 : decode c_Nm_goBack 37 = .ok (.getfield 274, 3) := by decide +kernel
theorem d_Nm_goBack_40 : decode c_Nm_goBack 40 = .ok (.invokevirtual 276, 3) := by decide +kernel
theorem d_Nm_goBack_43 : decode c_Nm_goBack 43 = .ok (.aload_n 0, 1) := by decide +kernel
theorem d_Nm_goBack_44 : decode c_Nm_goBack 44 = .ok (.getfield 79, 3) := by decide +kernel
theorem d_Nm_goBack_47 : decode c_Nm_goBack 47 = .ok (.aload_n 0, 1) := by decide +kernel
theorem d_Nm_goBack_48 : decode c_Nm_goBack 48 = .ok (.getfield 25, 3) := by decide +kernel
theorem d_Nm_goBack_51 : decode c_Nm_goBack 51 = .ok (.iload_n 1, 1) := by decide +kernel
theorem d_Nm_goBack_52 : decode c_Nm_goBack 52 = .ok (.aaload, 1) := by decide +kernel
theorem d_Nm_goBack_53 : decode c_Nm_goBack 53 = .ok (.getfield 279, 3) := by decide +kernel
theorem d_Nm_goBack_56 : decode c_Nm_goBack 56 = .ok (.putfield 271, 3) := by decide +kernel
theorem d_Nm_goBack_59 : decode c_Nm_goBack 59 = .ok (.aload_n 0, 1) := by decide +kernel
theorem d_Nm_goBack_60 : decode c_Nm_goBack 60 = .ok (.getfield 33, 3) := by decide +kernel
theorem d_Nm_goBack_63 : decode c_Nm_goBack 63 = .ok (.aload_n 0, 1) := by decide +kernel
theorem d_Nm_goBack_64 : decode c_Nm_goBack 64 = .ok (.getfield 10, 3) := by decide +kernel
theorem d_Nm_goBack_67 : decode c_Nm_goBack 67 = .ok (.getfield 37, 3) := by decide +kernel
theorem d_Nm_goBack_70 : decode c_Nm_goBack 70 = .ok (.invokevirtual 41, 3) := by decide +kernel
theorem d_Nm_goBack_73 : decode c_Nm_goBack 73 = .ok (.aload_n 0, 1) := by decide +kernel
theorem d_Nm_goBack_74 : decode c_Nm_goBack 74 = .ok (.getfield 19, 3) := by decide +kernel
theorem d_Nm_goBack_77 : decode c_Nm_goBack 77 = .ok (.invokevirtual 285, 3) := by decide +kernel
theorem d_Nm_goBack_80 : decode c_Nm_goBack 80 = .ok (.iconst 1, 1) := by decide +kernel
theorem d_Nm_goBack_81 : decode c_Nm_goBack 81 = .ok (.ireturn, 1) := by decide +kernel
theorem d_Bk_init_0 : decode c_Bk_init 0 = .ok (.aload_n 0, 1) := by decide +kernel
theorem d_Bk_init_1 : decode c_Bk_init 1 = .ok (.invokespecial 3, 3) := by decide +kernel
theorem d_Bk_init_4 : decode c_Bk_init 4 = .ok (.aload_n 0, 1) := by decide +kernel
theorem d_Bk_init_5 : decode c_Bk_init 5 = .ok (.bipush 20, 2) := by decide +kernel
theorem d_Bk_init_7 : decode c_Bk_init 7 = .ok (.newarray .int, 2) := by decide +kernel
theorem d_Bk_init_9 : decode c_Bk_init 9 = .ok (.putfield 9, 3) := by decide +kernel
theorem d_Bk_init_12 : decode c_Bk_init 12 = .ok (.aload_n 0, 1) := by decide +kernel
theorem d_Bk_init_13 : decode c_Bk_init 13 = .ok (.bipush 20, 2) := by decide +kernel
theorem d_Bk_init_15 : decode c_Bk_init 15 = .ok (.newarray .int, 2) := by decide +kernel
theorem d_Bk_init_17 : decode c_Bk_init 17 = .ok (.putfield 15, 3) := by decide +kernel
theorem d_Bk_init_20 : decode c_Bk_init 20 = .ok (.aload_n 0, 1) := by decide +kernel
theorem d_Bk_init_21 : decode c_Bk_init 21 = .ok (.bipush 20, 2) := by decide +kernel
theorem d_Bk_init_23 : decode c_Bk_init 23 = .ok (.newarray .int, 2) := by decide +kernel
theorem d_Bk_init_25 : decode c_Bk_init 25 = .ok (.putfield 18, 3) := by decide +kernel
theorem d_Bk_init_28 : decode c_Bk_init 28 = .ok (.return_, 1) := by decide +kernel
theorem d_Bk_add_0 : decode c_Bk_add 0 = .ok (.aload_n 0, 1) := by decide +kernel
theorem d_Bk_add_1 : decode c_Bk_add 1 = .ok (.getfield 21, 3) := by decide +kernel
theorem d_Bk_add_4 : decode c_Bk_add 4 = .ok (.bipush 20, 2) := by decide +kernel
theorem d_Bk_add_6 : decode c_Bk_add 6 = .ok (.if_icmp .ge 43, 3) := by decide +kernel
theorem d_Bk_add_9 : decode c_Bk_add 9 = .ok (.aload_n 0, 1) := by decide +kernel
theorem d_Bk_add_10 : decode c_Bk_add 10 = .ok (.getfield 9, 3) := by decide +kernel
theorem d_Bk_add_13 : decode c_Bk_add 13 = .ok (.aload_n 0, 1) := by decide +kernel
theorem d_Bk_add_14 : decode c_Bk_add 14 = .ok (.getfield 21, 3) := by decide +kernel
theorem d_Bk_add_17 : decode c_Bk_add 17 = .ok (.iload_n 1, 1) := by decide +kernel
theorem d_Bk_add_18 : decode c_Bk_add 18 = .ok (.iastore, 1) := by decide +kernel
theorem d_Bk_add_19 : decode c_Bk_add 19 = .ok (.aload_n 0, 1) := by decide +kernel
theorem d_Bk_add_20 : decode c_Bk_add 20 = .ok (.getfield 15, 3) := by decide +kernel
theorem d_Bk_add_23 : decode c_Bk_add 23 = .ok (.aload_n 0, 1) := by decide +kernel
theorem d_Bk_add_24 : decode c_Bk_add 24 = .ok (.getfield 21, 3) := by decide +kernel
theorem d_Bk_add_27 : decode c_Bk_add 27 = .ok (.iload_n 2, 1) := by decide +kernel
theorem d_Bk_add_28 : decode c_Bk_add 28 = .ok (.iastore, 1) := by decide +kernel
theorem d_Bk_add_29 : decode c_Bk_add 29 = .ok (.aload_n 0, 1) := by decide +kernel
theorem d_Bk_add_30 : decode c_Bk_add 30 = .ok (.getfield 18, 3) := by decide +kernel
theorem d_Bk_add_33 : decode c_Bk_add 33 = .ok (.aload_n 0, 1) := by decide +kernel
theorem d_Bk_add_34 : decode c_Bk_add 34 = .ok (.getfield 21, 3) := by decide +kernel
theorem d_Bk_add_37 : decode c_Bk_add 37 = .ok (.iload_n 3, 1) := by decide +kernel
theorem d_Bk_add_38 : decode c_Bk_add 38 = .ok (.iastore, 1) := by decide +kernel
theorem d_Bk_add_39 : decode c_Bk_add 39 = .ok (.aload_n 0, 1) := by decide +kernel
theorem d_Bk_add_40 : decode c_Bk_add 40 = .ok (.dup, 1) := by decide +kernel
theorem d_Bk_add_41 : decode c_Bk_add 41 = .ok (.getfield 21, 3) := by decide +kernel
theorem d_Bk_add_44 : decode c_Bk_add 44 = .ok (.iconst 1, 1) := by decide +kernel
theorem d_Bk_add_45 : decode c_Bk_add 45 = .ok (.iadd, 1) := by decide +kernel
theorem d_Bk_add_46 : decode c_Bk_add 46 = .ok (.putfield 21, 3) := by decide +kernel
theorem d_Bk_add_49 : decode c_Bk_add 49 = .ok (.return_, 1) := by decide +kernel
theorem d_Bk_firstWrong_0 : decode c_Bk_firstWrong 0 = .ok (.iconst 0, 1) := by decide +kernel
theorem d_Bk_firstWrong_1 : decode c_Bk_firstWrong 1 = .ok (.istore_n 2, 1) := by decide +kernel
theorem d_Bk_firstWrong_2 : decode c_Bk_firstWrong 2 = .ok (.iload_n 2, 1) := by decide +kernel
theorem d_Bk_firstWrong_3 : decode c_Bk_firstWrong 3 = .ok (.aload_n 0, 1) := by decide +kernel
theorem d_Bk_firstWrong_4 : decode c_Bk_firstWrong 4 = .ok (.getfield 21, 3) := by decide +kernel
theorem d_Bk_firstWrong_7 : decode c_Bk_firstWrong 7 = .ok (.if_icmp .ge 20, 3) := by decide +kernel
theorem d_Bk_firstWrong_10 : decode c_Bk_firstWrong 10 = .ok (.aload_n 0, 1) := by decide +kernel
theorem d_Bk_firstWrong_11 : decode c_Bk_firstWrong 11 = .ok (.aload_n 1, 1) := by decide +kernel
theorem d_Bk_firstWrong_12 : decode c_Bk_firstWrong 12 = .ok (.iload_n 2, 1) := by decide +kernel
theorem d_Bk_firstWrong_13 : decode c_Bk_firstWrong 13 = .ok (.invokevirtual 25, 3) := by decide +kernel
theorem d_Bk_firstWrong_16 : decode c_Bk_firstWrong 16 = .ok (.ifCond .ne 5, 3) := by decide +kernel
theorem d_Bk_firstWrong_19 : decode c_Bk_firstWrong 19 = .ok (.iload_n 2, 1) := by decide +kernel
theorem d_Bk_firstWrong_20 : decode c_Bk_firstWrong 20 = .ok (.ireturn, 1) := by decide +kernel
theorem d_Bk_firstWrong_21 : decode c_Bk_firstWrong 21 = .ok (.iinc 2 1, 3) := by decide +kernel
theorem d_Bk_firstWrong_24 : decode c_Bk_firstWrong 24 = .ok (.goto (-22), 3) := by decide +kernel
