theorem dX7_init_0 : decode cX7_init 0 = .ok (.aload_n 0, 1) := by decide +kernel
theorem dX7_init_1 : decode cX7_init 1 = .ok (.invokespecial 1, 3) := by decide +kernel
theorem dX7_init_4 : decode cX7_init 4 = .ok (.aload_n 0, 1) := by decide +kernel
theorem dX7_init_5 : decode cX7_init 5 = .ok (.iconst 4, 1) := by decide +kernel
theorem dX7_init_6 : decode cX7_init 6 = .ok (.newarray .int, 2) := by decide +kernel
theorem dX7_init_8 : decode cX7_init 8 = .ok (.dup, 1) := by decide +kernel
theorem dX7_init_9 : decode cX7_init 9 = .ok (.iconst 0, 1) := by decide +kernel
theorem dX7_init_10 : decode cX7_init 10 = .ok (.bipush (-9), 2) := by decide +kernel
theorem dX7_init_12 : decode cX7_init 12 = .ok (.iastore, 1) := by decide +kernel
theorem dX7_init_13 : decode cX7_init 13 = .ok (.dup, 1) := by decide +kernel
theorem dX7_init_14 : decode cX7_init 14 = .ok (.iconst 1, 1) := by decide +kernel
theorem dX7_init_15 : decode cX7_init 15 = .ok (.bipush (-9), 2) := by decide +kernel
theorem dX7_init_17 : decode cX7_init 17 = .ok (.iastore, 1) := by decide +kernel
theorem dX7_init_18 : decode cX7_init 18 = .ok (.dup, 1) := by decide +kernel
theorem dX7_init_19 : decode cX7_init 19 = .ok (.iconst 2, 1) := by decide +kernel
theorem dX7_init_20 : decode cX7_init 20 = .ok (.bipush (-9), 2) := by decide +kernel
theorem dX7_init_22 : decode cX7_init 22 = .ok (.iastore, 1) := by decide +kernel
theorem dX7_init_23 : decode cX7_init 23 = .ok (.dup, 1) := by decide +kernel
theorem dX7_init_24 : decode cX7_init 24 = .ok (.iconst 3, 1) := by decide +kernel
theorem dX7_init_25 : decode cX7_init 25 = .ok (.bipush (-9), 2) := by decide +kernel
theorem dX7_init_27 : decode cX7_init 27 = .ok (.iastore, 1) := by decide +kernel
theorem dX7_init_28 : decode cX7_init 28 = .ok (.putfield 9, 3) := by decide +kernel
theorem dX7_init_31 : decode cX7_init 31 = .ok (.aload_n 0, 1) := by decide +kernel
theorem dX7_init_32 : decode cX7_init 32 = .ok (.iconst 4, 1) := by decide +kernel
theorem dX7_init_33 : decode cX7_init 33 = .ok (.newarray .int, 2) := by decide +kernel
theorem dX7_init_35 : decode cX7_init 35 = .ok (.putfield 13, 3) := by decide +kernel
theorem dX7_init_38 : decode cX7_init 38 = .ok (.aload_n 0, 1) := by decide +kernel
theorem dX7_init_39 : decode cX7_init 39 = .ok (.sipush 240, 3) := by decide +kernel
theorem dX7_init_42 : decode cX7_init 42 = .ok (.newarray .int, 2) := by decide +kernel
theorem dX7_init_44 : decode cX7_init 44 = .ok (.putfield 16, 3) := by decide +kernel
theorem dX7_init_47 : decode cX7_init 47 = .ok (.aload_n 0, 1) := by decide +kernel
theorem dX7_init_48 : decode cX7_init 48 = .ok (.iconst 3, 1) := by decide +kernel
theorem dX7_init_49 : decode cX7_init 49 = .ok (.newarray .int, 2) := by decide +kernel
theorem dX7_init_51 : decode cX7_init 51 = .ok (.putfield 19, 3) := by decide +kernel
theorem dX7_init_54 : decode cX7_init 54 = .ok (.aload_n 0, 1) := by decide +kernel
theorem dX7_init_55 : decode cX7_init 55 = .ok (.iconst 3, 1) := by decide +kernel
theorem dX7_init_56 : decode cX7_init 56 = .ok (.newarray .int, 2) := by decide +kernel
theorem dX7_init_58 : decode cX7_init 58 = .ok (.putfield 22, 3) := by decide +kernel
theorem dX7_init_61 : decode cX7_init 61 = .ok (.aload_n 0, 1) := by decide +kernel
theorem dX7_init_62 : decode cX7_init 62 = .ok (.sipush 150, 3) := by decide +kernel
theorem dX7_init_65 : decode cX7_init 65 = .ok (.newarray .int, 2) := by decide +kernel
theorem dX7_init_67 : decode cX7_init 67 = .ok (.putfield 25, 3) := by decide +kernel
theorem dX7_init_70 : decode cX7_init 70 = .ok (.aload_n 0, 1) := by decide +kernel
theorem dX7_init_71 : decode cX7_init 71 = .ok (.sipush 150, 3) := by decide +kernel
theorem dX7_init_74 : decode cX7_init 74 = .ok (.newarray .int, 2) := by decide +kernel
theorem dX7_init_76 : decode cX7_init 76 = .ok (.putfield 28, 3) := by decide +kernel
theorem dX7_init_79 : decode cX7_init 79 = .ok (.aload_n 0, 1) := by decide +kernel
theorem dX7_init_80 : decode cX7_init 80 = .ok (.iconst 3, 1) := by decide +kernel
theorem dX7_init_81 : decode cX7_init 81 = .ok (.newarray .int, 2) := by decide +kernel
theorem dX7_init_83 : decode cX7_init 83 = .ok (.putfield 31, 3) := by decide +kernel
theorem dX7_init_86 : decode cX7_init 86 = .ok (.aload_n 0, 1) := by decide +kernel
theorem dX7_init_87 : decode cX7_init 87 = .ok (.iconst 3, 1) := by decide +kernel
theorem dX7_init_88 : decode cX7_init 88 = .ok (.newarray .int, 2) := by decide +kernel
theorem dX7_init_90 : decode cX7_init 90 = .ok (.putfield 34, 3) := by decide +kernel
theorem dX7_init_93 : decode cX7_init 93 = .ok (.aload_n 0, 1) := by decide +kernel
theorem dX7_init_94 : decode cX7_init 94 = .ok (.iconst 3, 1) := by decide +kernel
theorem dX7_init_95 : decode cX7_init 95 = .ok (.newarray .int, 2) := by decide +kernel
theorem dX7_init_97 : decode cX7_init 97 = .ok (.putfield 37, 3) := by decide +kernel
theorem dX7_init_100 : decode cX7_init 100 = .ok (.aload_n 0, 1) := by decide +kernel
theorem dX7_init_101 : decode cX7_init 101 = .ok (.bipush 12, 2) := by decide +kernel
theorem dX7_init_103 : decode cX7_init 103 = .ok (.newarray .int, 2) := by decide +kernel
theorem dX7_init_105 : decode cX7_init 105 = .ok (.putfield 40, 3) := by decide +kernel
theorem dX7_init_108 : decode cX7_init 108 = .ok (.aload_n 0, 1) := by decide +kernel
theorem dX7_init_109 : decode cX7_init 109 = .ok (.bipush 12, 2) := by decide +kernel
theorem dX7_init_111 : decode cX7_init 111 = .ok (.newarray .int, 2) := by decide +kernel
theorem dX7_init_113 : decode cX7_init 113 = .ok (.putfield 43, 3) := by decide +kernel
theorem dX7_init_116 : decode cX7_init 116 = .ok (.aload_n 0, 1) := by decide +kernel
theorem dX7_init_117 : decode cX7_init 117 = .ok (.bipush 12, 2) := by decide +kernel
theorem dX7_init_119 : decode cX7_init 119 = .ok (.newarray .int, 2) := by decide +kernel
theorem dX7_init_121 : decode cX7_init 121 = .ok (.putfield 46, 3) := by decide +kernel
theorem dX7_init_124 : decode cX7_init 124 = .ok (.aload_n 0, 1) := by decide +kernel
theorem dX7_init_125 : decode cX7_init 125 = .ok (.bipush 12, 2) := by decide +kernel
theorem dX7_init_127 : decode cX7_init 127 = .ok (.newarray .int, 2) := by decide +kernel
theorem dX7_init_129 : decode cX7_init 129 = .ok (.putfield 49, 3) := by decide +kernel
theorem dX7_init_132 : decode cX7_init 132 = .ok (.aload_n 0, 1) := by decide +kernel
theorem dX7_init_133 : decode cX7_init 133 = .ok (.bipush 12, 2) := by decide +kernel
theorem dX7_init_135 : decode cX7_init 135 = .ok (.newarray .boolean, 2) := by decide +kernel
theorem dX7_init_137 : decode cX7_init 137 = .ok (.putfield 52, 3) := by decide +kernel
theorem dX7_init_140 : decode cX7_init 140 = .ok (.aload_n 0, 1) := by decide +kernel
theorem dX7_init_141 : decode cX7_init 141 = .ok (.bipush 30, 2) := by decide +kernel
theorem dX7_init_143 : decode cX7_init 143 = .ok (.newarray .int, 2) := by decide +kernel
theorem dX7_init_145 : decode cX7_init 145 = .ok (.putfield 56, 3) := by decide +kernel
theorem dX7_init_148 : decode cX7_init 148 = .ok (.aload_n 0, 1) := by decide +kernel
theorem dX7_init_149 : decode cX7_init 149 = .ok (.bipush 8, 2) := by decide +kernel
theorem dX7_init_151 : decode cX7_init 151 = .ok (.newarray .int, 2) := by decide +kernel
theorem dX7_init_153 : decode cX7_init 153 = .ok (.putfield 59, 3) := by decide +kernel
theorem dX7_init_156 : decode cX7_init 156 = .ok (.aload_n 0, 1) := by decide +kernel
theorem dX7_init_157 : decode cX7_init 157 = .ok (.bipush 8, 2) := by decide +kernel
theorem dX7_init_159 : decode cX7_init 159 = .ok (.newarray .int, 2) := by decide +kernel
theorem dX7_init_161 : decode cX7_init 161 = .ok (.putfield 62, 3) := by decide +kernel
theorem dX7_init_164 : decode cX7_init 164 = .ok (.aload_n 0, 1) := by decide +kernel
theorem dX7_init_165 : decode cX7_init 165 = .ok (.bipush 8, 2) := by decide +kernel
theorem dX7_init_167 : decode cX7_init 167 = .ok (.newarray .int, 2) := by decide +kernel
theorem dX7_init_169 : decode cX7_init 169 = .ok (.putfield 65, 3) := by decide +kernel
theorem dX7_init_172 : decode cX7_init 172 = .ok (.aload_n 0, 1) := by decide +kernel
theorem dX7_init_173 : decode cX7_init 173 = .ok (.bipush 8, 2) := by decide +kernel
theorem dX7_init_175 : decode cX7_init 175 = .ok (.newarray .int, 2) := by decide +kernel
theorem dX7_init_177 : decode cX7_init 177 = .ok (.putfield 68, 3) := by decide +kernel
theorem dX7_init_180 : decode cX7_init 180 = .ok (.aload_n 0, 1) := by decide +kernel
theorem dX7_init_181 : decode cX7_init 181 = .ok (.bipush 8, 2) := by decide +kernel
theorem dX7_init_183 : decode cX7_init 183 = .ok (.newarray .int, 2) := by decide +kernel
theorem dX7_init_185 : decode cX7_init 185 = .ok (.putfield 71, 3) := by decide +kernel
theorem dX7_init_188 : decode cX7_init 188 = .ok (.aload_n 0, 1) := by decide +kernel
theorem dX7_init_189 : decode cX7_init 189 = .ok (.bipush 8, 2) := by decide +kernel
theorem dX7_init_191 : decode cX7_init 191 = .ok (.newarray .int, 2) := by decide +kernel
theorem dX7_init_193 : decode cX7_init 193 = .ok (.putfield 74, 3) := by decide +kernel
theorem dX7_init_196 : decode cX7_init 196 = .ok (.aload_n 0, 1) := by decide +kernel
theorem dX7_init_197 : decode cX7_init 197 = .ok (.bipush 8, 2) := by decide +kernel
theorem dX7_init_199 : decode cX7_init 199 = .ok (.newarray .int, 2) := by decide +kernel
theorem dX7_init_201 : decode cX7_init 201 = .ok (.putfield 77, 3) := by decide +kernel
theorem dX7_init_204 : decode cX7_init 204 = .ok (.aload_n 0, 1) := by decide +kernel
theorem dX7_init_205 : decode cX7_init 205 = .ok (.bipush 8, 2) := by decide +kernel
theorem dX7_init_207 : decode cX7_init 207 = .ok (.newarray .int, 2) := by decide +kernel
theorem dX7_init_209 : decode cX7_init 209 = .ok (.putfield 80, 3) := by decide +kernel
theorem dX7_init_212 : decode cX7_init 212 = .ok (.aload_n 0, 1) := by decide +kernel
theorem dX7_init_213 : decode cX7_init 213 = .ok (.sipush 400, 3) := by decide +kernel
theorem dX7_init_216 : decode cX7_init 216 = .ok (.newarray .int, 2) := by decide +kernel
theorem dX7_init_218 : decode cX7_init 218 = .ok (.putfield 83, 3) := by decide +kernel
theorem dX7_init_221 : decode cX7_init 221 = .ok (.aload_n 0, 1) := by decide +kernel
theorem dX7_init_222 : decode cX7_init 222 = .ok (.bipush 24, 2) := by decide +kernel
theorem dX7_init_224 : decode cX7_init 224 = .ok (.newarray .int, 2) := by decide +kernel
theorem dX7_init_226 : decode cX7_init 226 = .ok (.putfield 86, 3) := by decide +kernel
theorem dX7_init_229 : decode cX7_init 229 = .ok (.aload_n 0, 1) := by decide +kernel
theorem dX7_init_230 : decode cX7_init 230 = .ok (.bipush 8, 2) := by decide +kernel
theorem dX7_init_232 : decode cX7_init 232 = .ok (.newarray .int, 2) := by decide +kernel
theorem dX7_init_234 : decode cX7_init 234 = .ok (.putfield 89, 3) := by decide +kernel
theorem dX7_init_237 : decode cX7_init 237 = .ok (.aload_n 0, 1) := by decide +kernel
theorem dX7_init_238 : decode cX7_init 238 = .ok (.bipush 10, 2) := by decide +kernel
theorem dX7_init_240 : decode cX7_init 240 = .ok (.newarray .int, 2) := by decide +kernel
theorem dX7_init_242 : decode cX7_init 242 = .ok (.putfield 92, 3) := by decide +kernel
theorem dX7_init_245 : decode cX7_init 245 = .ok (.aload_n 0, 1) := by decide +kernel
theorem dX7_init_246 : decode cX7_init 246 = .ok (.bipush 50, 2) := by decide +kernel
theorem dX7_init_248 : decode cX7_init 248 = .ok (.newarray .int, 2) := by decide +kernel
theorem dX7_init_250 : decode cX7_init 250 = .ok (.putfield 95, 3) := by decide +kernel
theorem dX7_init_253 : decode cX7_init 253 = .ok (.aload_n 0, 1) := by decide +kernel
theorem dX7_init_254 : decode cX7_init 254 = .ok (.sipush 1024, 3) := by decide +kernel
theorem dX7_init_257 : decode cX7_init 257 = .ok (.newarray .long, 2) := by decide +kernel
theorem dX7_init_259 : decode cX7_init 259 = .ok (.putfield 98, 3) := by decide +kernel
theorem dX7_init_262 : decode cX7_init 262 = .ok (.return_, 1) := by decide +kernel
theorem dX7_fails_0 : decode cX7_fails 0 = .ok (.aload_n 0, 1) := by decide +kernel
theorem dX7_fails_1 : decode cX7_fails 1 = .ok (.iload_n 1, 1) := by decide +kernel
theorem dX7_fails_2 : decode cX7_fails 2 = .ok (.putfield 102, 3) := by decide +kernel
theorem dX7_fails_5 : decode cX7_fails 5 = .ok (.bipush (-10), 2) := by decide +kernel
theorem dX7_fails_7 : decode cX7_fails 7 = .ok (.iload_n 1, 1) := by decide +kernel
theorem dX7_fails_8 : decode cX7_fails 8 = .ok (.isub, 1) := by decide +kernel
theorem dX7_fails_9 : decode cX7_fails 9 = .ok (.ireturn, 1) := by decide +kernel
theorem dX7_lost_0 : decode cX7_lost 0 = .ok (.aload_n 0, 1) := by decide +kernel
theorem dX7_lost_1 : decode cX7_lost 1 = .ok (.iload_n 1, 1) := by decide +kernel
theorem dX7_lost_2 : decode cX7_lost 2 = .ok (.putfield 102, 3) := by decide +kernel
theorem dX7_lost_5 : decode cX7_lost 5 = .ok (.ldc2_w 106, 3) := by decide +kernel
theorem dX7_lost_8 : decode cX7_lost 8 = .ok (.lreturn, 1) := by decide +kernel
theorem dX7_within_0 : decode cX7_within 0 = .ok (.iload_n 0, 1) := by decide +kernel
theorem dX7_within_1 : decode cX7_within 1 = .ok (.iload_n 1, 1) := by decide +kernel
theorem dX7_within_2 : decode cX7_within 2 = .ok (.if_icmp .lt 12, 3) := by decide +kernel
theorem dX7_within_5 : decode cX7_within 5 = .ok (.iload_n 0, 1) := by decide +kernel
theorem dX7_within_6 : decode cX7_within 6 = .ok (.iload_n 2, 1) := by decide +kernel
theorem dX7_within_7 : decode cX7_within 7 = .ok (.if_icmp .gt 7, 3) := by decide +kernel
theorem dX7_within_10 : decode cX7_within 10 = .ok (.iconst 1, 1) := by decide +kernel
theorem dX7_within_11 : decode cX7_within 11 = .ok (.goto 4, 3) := by decide +kernel
theorem dX7_within_14 : decode cX7_within 14 = .ok (.iconst 0, 1) := by decide +kernel
theorem dX7_within_15 : decode cX7_within 15 = .ok (.ireturn, 1) := by decide +kernel
theorem dX7_has_0 : decode cX7_has 0 = .ok (.iload_n 0, 1) := by decide +kernel
theorem dX7_has_1 : decode cX7_has 1 = .ok (.iload_n 1, 1) := by decide +kernel
theorem dX7_has_2 : decode cX7_has 2 = .ok (.ishr, 1) := by decide +kernel
theorem dX7_has_3 : decode cX7_has 3 = .ok (.iconst 1, 1) := by decide +kernel
theorem dX7_has_4 : decode cX7_has 4 = .ok (.iand, 1) := by decide +kernel
theorem dX7_has_5 : decode cX7_has 5 = .ok (.iconst 1, 1) := by decide +kernel
theorem dX7_has_6 : decode cX7_has 6 = .ok (.if_icmp .ne 7, 3) := by decide +kernel
theorem dX7_has_9 : decode cX7_has 9 = .ok (.iconst 1, 1) := by decide +kernel
theorem dX7_has_10 : decode cX7_has 10 = .ok (.goto 4, 3) := by decide +kernel
theorem dX7_has_13 : decode cX7_has 13 = .ok (.iconst 0, 1) := by decide +kernel
theorem dX7_has_14 : decode cX7_has 14 = .ok (.ireturn, 1) := by decide +kernel
theorem dX7_isSheet_0 : decode cX7_isSheet 0 = .ok (.iload_n 0, 1) := by decide +kernel
theorem dX7_isSheet_1 : decode cX7_isSheet 1 = .ok (.iconst 0, 1) := by decide +kernel
theorem dX7_isSheet_2 : decode cX7_isSheet 2 = .ok (.iconst 3, 1) := by decide +kernel
theorem dX7_isSheet_3 : decode cX7_isSheet 3 = .ok (.invokestatic 108, 3) := by decide +kernel
theorem dX7_isSheet_6 : decode cX7_isSheet 6 = .ok (.ireturn, 1) := by decide +kernel
theorem dX7_isSort_0 : decode cX7_isSort 0 = .ok (.iload_n 0, 1) := by decide +kernel
theorem dX7_isSort_1 : decode cX7_isSort 1 = .ok (.iconst 0, 1) := by decide +kernel
theorem dX7_isSort_2 : decode cX7_isSort 2 = .ok (.iconst 2, 1) := by decide +kernel
theorem dX7_isSort_3 : decode cX7_isSort 3 = .ok (.invokestatic 108, 3) := by decide +kernel
theorem dX7_isSort_6 : decode cX7_isSort 6 = .ok (.ireturn, 1) := by decide +kernel
theorem dX7_against_0 : decode cX7_against 0 = .ok (.aload_n 0, 1) := by decide +kernel
theorem dX7_against_1 : decode cX7_against 1 = .ok (.getfield 9, 3) := by decide +kernel
theorem dX7_against_4 : decode cX7_against 4 = .ok (.iload_n 1, 1) := by decide +kernel
theorem dX7_against_5 : decode cX7_against 5 = .ok (.iaload, 1) := by decide +kernel
theorem dX7_against_6 : decode cX7_against 6 = .ok (.bipush (-9), 2) := by decide +kernel
theorem dX7_against_8 : decode cX7_against 8 = .ok (.if_icmp .eq 15, 3) := by decide +kernel
theorem dX7_against_11 : decode cX7_against 11 = .ok (.aload_n 0, 1) := by decide +kernel
theorem dX7_against_12 : decode cX7_against 12 = .ok (.getfield 9, 3) := by decide +kernel
theorem dX7_against_15 : decode cX7_against 15 = .ok (.iload_n 1, 1) := by decide +kernel
theorem dX7_against_16 : decode cX7_against 16 = .ok (.iaload, 1) := by decide +kernel
theorem dX7_against_17 : decode cX7_against 17 = .ok (.iload_n 2, 1) := by decide +kernel
theorem dX7_against_18 : decode cX7_against 18 = .ok (.if_icmp .eq 5, 3) := by decide +kernel
theorem dX7_against_21 : decode cX7_against 21 = .ok (.iconst 2, 1) := by decide +kernel
theorem dX7_against_22 : decode cX7_against 22 = .ok (.ireturn, 1) := by decide +kernel
theorem dX7_against_23 : decode cX7_against 23 = .ok (.aload_n 0, 1) := by decide +kernel
theorem dX7_against_24 : decode cX7_against 24 = .ok (.getfield 9, 3) := by decide +kernel
theorem dX7_against_27 : decode cX7_against 27 = .ok (.iload_n 1, 1) := by decide +kernel
theorem dX7_against_28 : decode cX7_against 28 = .ok (.iaload, 1) := by decide +kernel
theorem dX7_against_29 : decode cX7_against 29 = .ok (.bipush (-9), 2) := by decide +kernel
theorem dX7_against_31 : decode cX7_against 31 = .ok (.if_icmp .ne 5, 3) := by decide +kernel
theorem dX7_against_34 : decode cX7_against 34 = .ok (.iconst 1, 1) := by decide +kernel
theorem dX7_against_35 : decode cX7_against 35 = .ok (.ireturn, 1) := by decide +kernel
theorem dX7_against_36 : decode cX7_against 36 = .ok (.iload 4, 2) := by decide +kernel
theorem dX7_against_38 : decode cX7_against 38 = .ok (.ifCond .ge 5, 3) := by decide +kernel
theorem dX7_against_41 : decode cX7_against 41 = .ok (.iconst 4, 1) := by decide +kernel
theorem dX7_against_42 : decode cX7_against 42 = .ok (.ireturn, 1) := by decide +kernel
theorem dX7_against_43 : decode cX7_against 43 = .ok (.iload_n 3, 1) := by decide +kernel
theorem dX7_against_44 : decode cX7_against 44 = .ok (.ifCond .lt 26, 3) := by decide +kernel
theorem dX7_against_47 : decode cX7_against 47 = .ok (.iload_n 3, 1) := by decide +kernel
theorem dX7_against_48 : decode cX7_against 48 = .ok (.aload_n 0, 1) := by decide +kernel
theorem dX7_against_49 : decode cX7_against 49 = .ok (.getfield 13, 3) := by decide +kernel
theorem dX7_against_52 : decode cX7_against 52 = .ok (.iload_n 1, 1) := by decide +kernel
theorem dX7_against_53 : decode cX7_against 53 = .ok (.iaload, 1) := by decide +kernel
theorem dX7_against_54 : decode cX7_against 54 = .ok (.if_icmp .gt 16, 3) := by decide +kernel
theorem dX7_against_57 : decode cX7_against 57 = .ok (.iload 4, 2) := by decide +kernel
theorem dX7_against_59 : decode cX7_against 59 = .ok (.aload_n 0, 1) := by decide +kernel
theorem dX7_against_60 : decode cX7_against 60 = .ok (.getfield 13, 3) := by decide +kernel
theorem dX7_against_63 : decode cX7_against 63 = .ok (.iload_n 1, 1) := by decide +kernel
theorem dX7_against_64 : decode cX7_against 64 = .ok (.iaload, 1) := by decide +kernel
theorem dX7_against_65 : decode cX7_against 65 = .ok (.iload_n 3, 1) := by decide +kernel
theorem dX7_against_66 : decode cX7_against 66 = .ok (.isub, 1) := by decide +kernel
theorem dX7_against_67 : decode cX7_against 67 = .ok (.if_icmp .le 7, 3) := by decide +kernel
theorem dX7_against_70 : decode cX7_against 70 = .ok (.iconst 3, 1) := by decide +kernel
theorem dX7_against_71 : decode cX7_against 71 = .ok (.goto 4, 3) := by decide +kernel
theorem dX7_against_74 : decode cX7_against 74 = .ok (.iconst 0, 1) := by decide +kernel
theorem dX7_against_75 : decode cX7_against 75 = .ok (.ireturn, 1) := by decide +kernel
theorem dX7_isHouse_0 : decode cX7_isHouse 0 = .ok (.iload_n 1, 1) := by decide +kernel
theorem dX7_isHouse_1 : decode cX7_isHouse 1 = .ok (.ifCond .lt 15, 3) := by decide +kernel
theorem dX7_isHouse_4 : decode cX7_isHouse 4 = .ok (.iload_n 1, 1) := by decide +kernel
theorem dX7_isHouse_5 : decode cX7_isHouse 5 = .ok (.aload_n 0, 1) := by decide +kernel
theorem dX7_isHouse_6 : decode cX7_isHouse 6 = .ok (.getfield 112, 3) := by decide +kernel
theorem dX7_isHouse_9 : decode cX7_isHouse 9 = .ok (.if_icmp .ge 7, 3) := by decide +kernel
theorem dX7_isHouse_12 : decode cX7_isHouse 12 = .ok (.iconst 1, 1) := by decide +kernel
theorem dX7_isHouse_13 : decode cX7_isHouse 13 = .ok (.goto 4, 3) := by decide +kernel
theorem dX7_isHouse_16 : decode cX7_isHouse 16 = .ok (.iconst 0, 1) := by decide +kernel
theorem dX7_isHouse_17 : decode cX7_isHouse 17 = .ok (.ireturn, 1) := by decide +kernel
theorem dX7_rooms_0 : decode cX7_rooms 0 = .ok (.iconst 2, 1) := by decide +kernel
theorem dX7_rooms_1 : decode cX7_rooms 1 = .ok (.aload_n 0, 1) := by decide +kernel
theorem dX7_rooms_2 : decode cX7_rooms 2 = .ok (.getfield 19, 3) := by decide +kernel
theorem dX7_rooms_5 : decode cX7_rooms 5 = .ok (.iload_n 1, 1) := by decide +kernel
theorem dX7_rooms_6 : decode cX7_rooms 6 = .ok (.iaload, 1) := by decide +kernel
theorem dX7_rooms_7 : decode cX7_rooms 7 = .ok (.imul, 1) := by decide +kernel
theorem dX7_rooms_8 : decode cX7_rooms 8 = .ok (.aload_n 0, 1) := by decide +kernel
theorem dX7_rooms_9 : decode cX7_rooms 9 = .ok (.getfield 22, 3) := by decide +kernel
theorem dX7_rooms_12 : decode cX7_rooms 12 = .ok (.iload_n 1, 1) := by decide +kernel
theorem dX7_rooms_13 : decode cX7_rooms 13 = .ok (.iaload, 1) := by decide +kernel
theorem dX7_rooms_14 : decode cX7_rooms 14 = .ok (.imul, 1) := by decide +kernel
theorem dX7_rooms_15 : decode cX7_rooms 15 = .ok (.ireturn, 1) := by decide +kernel
theorem dX7_sides_0 : decode cX7_sides 0 = .ok (.iconst 3, 1) := by decide +kernel
theorem dX7_sides_1 : decode cX7_sides 1 = .ok (.aload_n 0, 1) := by decide +kernel
theorem dX7_sides_2 : decode cX7_sides 2 = .ok (.getfield 19, 3) := by decide +kernel
theorem dX7_sides_5 : decode cX7_sides 5 = .ok (.iload_n 1, 1) := by decide +kernel
theorem dX7_sides_6 : decode cX7_sides 6 = .ok (.iaload, 1) := by decide +kernel
theorem dX7_sides_7 : decode cX7_sides 7 = .ok (.imul, 1) := by decide +kernel
theorem dX7_sides_8 : decode cX7_sides 8 = .ok (.aload_n 0, 1) := by decide +kernel
theorem dX7_sides_9 : decode cX7_sides 9 = .ok (.getfield 22, 3) := by decide +kernel
theorem dX7_sides_12 : decode cX7_sides 12 = .ok (.iload_n 1, 1) := by decide +kernel
theorem dX7_sides_13 : decode cX7_sides 13 = .ok (.iaload, 1) := by decide +kernel
theorem dX7_sides_14 : decode cX7_sides 14 = .ok (.imul, 1) := by decide +kernel
theorem dX7_sides_15 : decode cX7_sides 15 = .ok (.aload_n 0, 1) := by decide +kernel
theorem dX7_sides_16 : decode cX7_sides 16 = .ok (.getfield 19, 3) := by decide +kernel
theorem dX7_sides_19 : decode cX7_sides 19 = .ok (.iload_n 1, 1) := by decide +kernel
theorem dX7_sides_20 : decode cX7_sides 20 = .ok (.iaload, 1) := by decide +kernel
theorem dX7_sides_21 : decode cX7_sides 21 = .ok (.iadd, 1) := by decide +kernel
theorem dX7_sides_22 : decode cX7_sides 22 = .ok (.aload_n 0, 1) := by decide +kernel
theorem dX7_sides_23 : decode cX7_sides 23 = .ok (.getfield 22, 3) := by decide +kernel
theorem dX7_sides_26 : decode cX7_sides 26 = .ok (.iload_n 1, 1) := by decide +kernel
theorem dX7_sides_27 : decode cX7_sides 27 = .ok (.iaload, 1) := by decide +kernel
theorem dX7_sides_28 : decode cX7_sides 28 = .ok (.iadd, 1) := by decide +kernel
theorem dX7_sides_29 : decode cX7_sides 29 = .ok (.ireturn, 1) := by decide +kernel
theorem dX7_isRoom_0 : decode cX7_isRoom 0 = .ok (.aload_n 0, 1) := by decide +kernel
theorem dX7_isRoom_1 : decode cX7_isRoom 1 = .ok (.iload_n 1, 1) := by decide +kernel
theorem dX7_isRoom_2 : decode cX7_isRoom 2 = .ok (.invokevirtual 115, 3) := by decide +kernel
theorem dX7_isRoom_5 : decode cX7_isRoom 5 = .ok (.ifCond .eq 20, 3) := by decide +kernel
theorem dX7_isRoom_8 : decode cX7_isRoom 8 = .ok (.iload_n 2, 1) := by decide +kernel
theorem dX7_isRoom_9 : decode cX7_isRoom 9 = .ok (.ifCond .lt 16, 3) := by decide +kernel
theorem dX7_isRoom_12 : decode cX7_isRoom 12 = .ok (.iload_n 2, 1) := by decide +kernel
theorem dX7_isRoom_13 : decode cX7_isRoom 13 = .ok (.aload_n 0, 1) := by decide +kernel
theorem dX7_isRoom_14 : decode cX7_isRoom 14 = .ok (.iload_n 1, 1) := by decide +kernel
theorem dX7_isRoom_15 : decode cX7_isRoom 15 = .ok (.invokevirtual 119, 3) := by decide +kernel
theorem dX7_isRoom_18 : decode cX7_isRoom 18 = .ok (.if_icmp .ge 7, 3) := by decide +kernel
theorem dX7_isRoom_21 : decode cX7_isRoom 21 = .ok (.iconst 1, 1) := by decide +kernel
theorem dX7_isRoom_22 : decode cX7_isRoom 22 = .ok (.goto 4, 3) := by decide +kernel
theorem dX7_isRoom_25 : decode cX7_isRoom 25 = .ok (.iconst 0, 1) := by decide +kernel
theorem dX7_isRoom_26 : decode cX7_isRoom 26 = .ok (.ireturn, 1) := by decide +kernel
theorem dX7_isSide_0 : decode cX7_isSide 0 = .ok (.aload_n 0, 1) := by decide +kernel
theorem dX7_isSide_1 : decode cX7_isSide 1 = .ok (.iload_n 1, 1) := by decide +kernel
theorem dX7_isSide_2 : decode cX7_isSide 2 = .ok (.invokevirtual 115, 3) := by decide +kernel
theorem dX7_isSide_5 : decode cX7_isSide 5 = .ok (.ifCond .eq 20, 3) := by decide +kernel
theorem dX7_isSide_8 : decode cX7_isSide 8 = .ok (.iload_n 2, 1) := by decide +kernel
theorem dX7_isSide_9 : decode cX7_isSide 9 = .ok (.ifCond .lt 16, 3) := by decide +kernel
theorem dX7_isSide_12 : decode cX7_isSide 12 = .ok (.iload_n 2, 1) := by decide +kernel
theorem dX7_isSide_13 : decode cX7_isSide 13 = .ok (.aload_n 0, 1) := by decide +kernel
theorem dX7_isSide_14 : decode cX7_isSide 14 = .ok (.iload_n 1, 1) := by decide +kernel
theorem dX7_isSide_15 : decode cX7_isSide 15 = .ok (.invokevirtual 123, 3) := by decide +kernel
theorem dX7_isSide_18 : decode cX7_isSide 18 = .ok (.if_icmp .ge 7, 3) := by decide +kernel
theorem dX7_isSide_21 : decode cX7_isSide 21 = .ok (.iconst 1, 1) := by decide +kernel
theorem dX7_isSide_22 : decode cX7_isSide 22 = .ok (.goto 4, 3) := by decide +kernel
theorem dX7_isSide_25 : decode cX7_isSide 25 = .ok (.iconst 0, 1) := by decide +kernel
theorem dX7_isSide_26 : decode cX7_isSide 26 = .ok (.ireturn, 1) := by decide +kernel
theorem dX7_house_0 : decode cX7_house 0 = .ok (.aload_n 0, 1) := by decide +kernel
theorem dX7_house_1 : decode cX7_house 1 = .ok (.iconst 0, 1) := by decide +kernel
theorem dX7_house_2 : decode cX7_house 2 = .ok (.putfield 102, 3) := by decide +kernel
theorem dX7_house_5 : decode cX7_house 5 = .ok (.iload_n 1, 1) := by decide +kernel
theorem dX7_house_6 : decode cX7_house 6 = .ok (.invokestatic 126, 3) := by decide +kernel
theorem dX7_house_9 : decode cX7_house 9 = .ok (.ifCond .ne 5, 3) := by decide +kernel
theorem dX7_house_12 : decode cX7_house 12 = .ok (.iconst (-1), 1) := by decide +kernel
theorem dX7_house_13 : decode cX7_house 13 = .ok (.ireturn, 1) := by decide +kernel
theorem dX7_house_14 : decode cX7_house 14 = .ok (.iload_n 2, 1) := by decide +kernel
theorem dX7_house_15 : decode cX7_house 15 = .ok (.invokestatic 129, 3) := by decide +kernel
theorem dX7_house_18 : decode cX7_house 18 = .ok (.ifCond .ne 6, 3) := by decide +kernel
theorem dX7_house_21 : decode cX7_house 21 = .ok (.bipush (-2), 2) := by decide +kernel
theorem dX7_house_23 : decode cX7_house 23 = .ok (.ireturn, 1) := by decide +kernel
theorem dX7_house_24 : decode cX7_house 24 = .ok (.aload_n 0, 1) := by decide +kernel
theorem dX7_house_25 : decode cX7_house 25 = .ok (.iload_n 1, 1) := by decide +kernel
theorem dX7_house_26 : decode cX7_house 26 = .ok (.iload_n 2, 1) := by decide +kernel
theorem dX7_house_27 : decode cX7_house 27 = .ok (.iload_n 3, 1) := by decide +kernel
theorem dX7_house_28 : decode cX7_house 28 = .ok (.iload 4, 2) := by decide +kernel
theorem dX7_house_30 : decode cX7_house 30 = .ok (.invokevirtual 132, 3) := by decide +kernel
theorem dX7_house_33 : decode cX7_house 33 = .ok (.istore 5, 2) := by decide +kernel
theorem dX7_house_35 : decode cX7_house 35 = .ok (.iload 5, 2) := by decide +kernel
theorem dX7_house_37 : decode cX7_house 37 = .ok (.ifCond .eq 10, 3) := by decide +kernel
theorem dX7_house_40 : decode cX7_house 40 = .ok (.aload_n 0, 1) := by decide +kernel
theorem dX7_house_41 : decode cX7_house 41 = .ok (.iload 5, 2) := by decide +kernel
theorem dX7_house_43 : decode cX7_house 43 = .ok (.invokevirtual 136, 3) := by decide +kernel
theorem dX7_house_46 : decode cX7_house 46 = .ok (.ireturn, 1) := by decide +kernel
theorem dX7_house_47 : decode cX7_house 47 = .ok (.bipush 60, 2) := by decide +kernel
theorem dX7_house_49 : decode cX7_house 49 = .ok (.iload_n 1, 1) := by decide +kernel
theorem dX7_house_50 : decode cX7_house 50 = .ok (.imul, 1) := by decide +kernel
theorem dX7_house_51 : decode cX7_house 51 = .ok (.iload_n 3, 1) := by decide +kernel
theorem dX7_house_52 : decode cX7_house 52 = .ok (.iadd, 1) := by decide +kernel
theorem dX7_house_53 : decode cX7_house 53 = .ok (.istore 6, 2) := by decide +kernel
theorem dX7_house_55 : decode cX7_house 55 = .ok (.aload_n 0, 1) := by decide +kernel
theorem dX7_house_56 : decode cX7_house 56 = .ok (.iload 6, 2) := by decide +kernel
theorem dX7_house_58 : decode cX7_house 58 = .ok (.iload 4, 2) := by decide +kernel
theorem dX7_house_60 : decode cX7_house 60 = .ok (.invokevirtual 139, 3) := by decide +kernel
theorem dX7_house_63 : decode cX7_house 63 = .ok (.istore 7, 2) := by decide +kernel
theorem dX7_house_65 : decode cX7_house 65 = .ok (.iload 7, 2) := by decide +kernel
theorem dX7_house_67 : decode cX7_house 67 = .ok (.bipush (-9), 2) := by decide +kernel
theorem dX7_house_69 : decode cX7_house 69 = .ok (.if_icmp .eq 9, 3) := by decide +kernel
theorem dX7_house_72 : decode cX7_house 72 = .ok (.bipush (-100), 2) := by decide +kernel
theorem dX7_house_74 : decode cX7_house 74 = .ok (.iload 7, 2) := by decide +kernel
theorem dX7_house_76 : decode cX7_house 76 = .ok (.isub, 1) := by decide +kernel
theorem dX7_house_77 : decode cX7_house 77 = .ok (.ireturn, 1) := by decide +kernel
theorem dX7_house_78 : decode cX7_house 78 = .ok (.aload_n 0, 1) := by decide +kernel
theorem dX7_house_79 : decode cX7_house 79 = .ok (.getfield 112, 3) := by decide +kernel
theorem dX7_house_82 : decode cX7_house 82 = .ok (.iconst 3, 1) := by decide +kernel
theorem dX7_house_83 : decode cX7_house 83 = .ok (.if_icmp .ne 6, 3) := by decide +kernel
theorem dX7_house_86 : decode cX7_house 86 = .ok (.bipush (-4), 2) := by decide +kernel
theorem dX7_house_88 : decode cX7_house 88 = .ok (.ireturn, 1) := by decide +kernel
theorem dX7_house_89 : decode cX7_house 89 = .ok (.aload_n 0, 1) := by decide +kernel
theorem dX7_house_90 : decode cX7_house 90 = .ok (.getfield 19, 3) := by decide +kernel
theorem dX7_house_93 : decode cX7_house 93 = .ok (.aload_n 0, 1) := by decide +kernel
theorem dX7_house_94 : decode cX7_house 94 = .ok (.getfield 112, 3) := by decide +kernel
theorem dX7_house_97 : decode cX7_house 97 = .ok (.aload_n 0, 1) := by decide +kernel
theorem dX7_house_98 : decode cX7_house 98 = .ok (.getfield 143, 3) := by decide +kernel
theorem dX7_house_101 : decode cX7_house 101 = .ok (.iastore, 1) := by decide +kernel
theorem dX7_house_102 : decode cX7_house 102 = .ok (.aload_n 0, 1) := by decide +kernel
theorem dX7_house_103 : decode cX7_house 103 = .ok (.getfield 22, 3) := by decide +kernel
theorem dX7_house_106 : decode cX7_house 106 = .ok (.aload_n 0, 1) := by decide +kernel
theorem dX7_house_107 : decode cX7_house 107 = .ok (.getfield 112, 3) := by decide +kernel
theorem dX7_house_110 : decode cX7_house 110 = .ok (.aload_n 0, 1) := by decide +kernel
theorem dX7_house_111 : decode cX7_house 111 = .ok (.getfield 146, 3) := by decide +kernel
theorem dX7_house_114 : decode cX7_house 114 = .ok (.iastore, 1) := by decide +kernel
theorem dX7_house_115 : decode cX7_house 115 = .ok (.iconst 0, 1) := by decide +kernel
theorem dX7_house_116 : decode cX7_house 116 = .ok (.istore 8, 2) := by decide +kernel
theorem dX7_house_118 : decode cX7_house 118 = .ok (.iload 8, 2) := by decide +kernel
theorem dX7_house_120 : decode cX7_house 120 = .ok (.iload 4, 2) := by decide +kernel
theorem dX7_house_122 : decode cX7_house 122 = .ok (.iconst 5, 1) := by decide +kernel
theorem dX7_house_123 : decode cX7_house 123 = .ok (.isub, 1) := by decide +kernel
theorem dX7_house_124 : decode cX7_house 124 = .ok (.if_icmp .ge 77, 3) := by decide +kernel
theorem dX7_house_127 : decode cX7_house 127 = .ok (.aload_n 0, 1) := by decide +kernel
theorem dX7_house_128 : decode cX7_house 128 = .ok (.getfield 16, 3) := by decide +kernel
theorem dX7_house_131 : decode cX7_house 131 = .ok (.iload 6, 2) := by decide +kernel
theorem dX7_house_133 : decode cX7_house 133 = .ok (.iconst 5, 1) := by decide +kernel
theorem dX7_house_134 : decode cX7_house 134 = .ok (.iadd, 1) := by decide +kernel
theorem dX7_house_135 : decode cX7_house 135 = .ok (.iload 8, 2) := by decide +kernel
theorem dX7_house_137 : decode cX7_house 137 = .ok (.iadd, 1) := by decide +kernel
theorem dX7_house_138 : decode cX7_house 138 = .ok (.iaload, 1) := by decide +kernel
theorem dX7_house_139 : decode cX7_house 139 = .ok (.istore 9, 2) := by decide +kernel
theorem dX7_house_141 : decode cX7_house 141 = .ok (.aload_n 0, 1) := by decide +kernel
theorem dX7_house_142 : decode cX7_house 142 = .ok (.getfield 25, 3) := by decide +kernel
theorem dX7_house_145 : decode cX7_house 145 = .ok (.bipush 50, 2) := by decide +kernel
theorem dX7_house_147 : decode cX7_house 147 = .ok (.aload_n 0, 1) := by decide +kernel
theorem dX7_house_148 : decode cX7_house 148 = .ok (.getfield 112, 3) := by decide +kernel
theorem dX7_house_151 : decode cX7_house 151 = .ok (.imul, 1) := by decide +kernel
theorem dX7_house_152 : decode cX7_house 152 = .ok (.iload 8, 2) := by decide +kernel
theorem dX7_house_154 : decode cX7_house 154 = .ok (.iadd, 1) := by decide +kernel
theorem dX7_house_155 : decode cX7_house 155 = .ok (.iload 9, 2) := by decide +kernel
theorem dX7_house_157 : decode cX7_house 157 = .ok (.bipush 109, 2) := by decide +kernel
theorem dX7_house_159 : decode cX7_house 159 = .ok (.if_icmp .ne 7, 3) := by decide +kernel
theorem dX7_house_162 : decode cX7_house 162 = .ok (.iconst 0, 1) := by decide +kernel
theorem dX7_house_163 : decode cX7_house 163 = .ok (.goto 15, 3) := by decide +kernel
theorem dX7_house_166 : decode cX7_house 166 = .ok (.iload 9, 2) := by decide +kernel
theorem dX7_house_168 : decode cX7_house 168 = .ok (.bipush 103, 2) := by decide +kernel
theorem dX7_house_170 : decode cX7_house 170 = .ok (.if_icmp .ne 7, 3) := by decide +kernel
theorem dX7_house_173 : decode cX7_house 173 = .ok (.iconst 1, 1) := by decide +kernel
theorem dX7_house_174 : decode cX7_house 174 = .ok (.goto 4, 3) := by decide +kernel
theorem dX7_house_177 : decode cX7_house 177 = .ok (.iconst 2, 1) := by decide +kernel
theorem dX7_house_178 : decode cX7_house 178 = .ok (.iastore, 1) := by decide +kernel
theorem dX7_house_179 : decode cX7_house 179 = .ok (.aload_n 0, 1) := by decide +kernel
theorem dX7_house_180 : decode cX7_house 180 = .ok (.getfield 28, 3) := by decide +kernel
theorem dX7_house_183 : decode cX7_house 183 = .ok (.bipush 50, 2) := by decide +kernel
theorem dX7_house_185 : decode cX7_house 185 = .ok (.aload_n 0, 1) := by decide +kernel
theorem dX7_house_186 : decode cX7_house 186 = .ok (.getfield 112, 3) := by decide +kernel
theorem dX7_house_189 : decode cX7_house 189 = .ok (.imul, 1) := by decide +kernel
theorem dX7_house_190 : decode cX7_house 190 = .ok (.iload 8, 2) := by decide +kernel
theorem dX7_house_192 : decode cX7_house 192 = .ok (.iadd, 1) := by decide +kernel
theorem dX7_house_193 : decode cX7_house 193 = .ok (.iconst 0, 1) := by decide +kernel
theorem dX7_house_194 : decode cX7_house 194 = .ok (.iastore, 1) := by decide +kernel
theorem dX7_house_195 : decode cX7_house 195 = .ok (.iinc 8 1, 3) := by decide +kernel
theorem dX7_house_198 : decode cX7_house 198 = .ok (.goto (-80), 3) := by decide +kernel
theorem dX7_house_201 : decode cX7_house 201 = .ok (.aload_n 0, 1) := by decide +kernel
theorem dX7_house_202 : decode cX7_house 202 = .ok (.dup, 1) := by decide +kernel
theorem dX7_house_203 : decode cX7_house 203 = .ok (.getfield 112, 3) := by decide +kernel
theorem dX7_house_206 : decode cX7_house 206 = .ok (.iconst 1, 1) := by decide +kernel
theorem dX7_house_207 : decode cX7_house 207 = .ok (.iadd, 1) := by decide +kernel
theorem dX7_house_208 : decode cX7_house 208 = .ok (.putfield 112, 3) := by decide +kernel
theorem dX7_house_211 : decode cX7_house 211 = .ok (.aload_n 0, 1) := by decide +kernel
theorem dX7_house_212 : decode cX7_house 212 = .ok (.getfield 112, 3) := by decide +kernel
theorem dX7_house_215 : decode cX7_house 215 = .ok (.iconst 1, 1) := by decide +kernel
theorem dX7_house_216 : decode cX7_house 216 = .ok (.isub, 1) := by decide +kernel
theorem dX7_house_217 : decode cX7_house 217 = .ok (.ireturn, 1) := by decide +kernel
theorem dX7_digitAt_0 : decode cX7_digitAt 0 = .ok (.iload_n 1, 1) := by decide +kernel
theorem dX7_digitAt_1 : decode cX7_digitAt 1 = .ok (.iload_n 2, 1) := by decide +kernel
theorem dX7_digitAt_2 : decode cX7_digitAt 2 = .ok (.if_icmp .ge 31, 3) := by decide +kernel
theorem dX7_digitAt_5 : decode cX7_digitAt 5 = .ok (.aload_n 0, 1) := by decide +kernel
theorem dX7_digitAt_6 : decode cX7_digitAt 6 = .ok (.getfield 16, 3) := by decide +kernel
theorem dX7_digitAt_9 : decode cX7_digitAt 9 = .ok (.iload_n 1, 1) := by decide +kernel
theorem dX7_digitAt_10 : decode cX7_digitAt 10 = .ok (.iaload, 1) := by decide +kernel
theorem dX7_digitAt_11 : decode cX7_digitAt 11 = .ok (.bipush 48, 2) := by decide +kernel
theorem dX7_digitAt_13 : decode cX7_digitAt 13 = .ok (.bipush 57, 2) := by decide +kernel
theorem dX7_digitAt_15 : decode cX7_digitAt 15 = .ok (.invokestatic 108, 3) := by decide +kernel
theorem dX7_digitAt_18 : decode cX7_digitAt 18 = .ok (.ifCond .eq 15, 3) := by decide +kernel
theorem dX7_digitAt_21 : decode cX7_digitAt 21 = .ok (.aload_n 0, 1) := by decide +kernel
theorem dX7_digitAt_22 : decode cX7_digitAt 22 = .ok (.getfield 16, 3) := by decide +kernel
theorem dX7_digitAt_25 : decode cX7_digitAt 25 = .ok (.iload_n 1, 1) := by decide +kernel
theorem dX7_digitAt_26 : decode cX7_digitAt 26 = .ok (.iaload, 1) := by decide +kernel
theorem dX7_digitAt_27 : decode cX7_digitAt 27 = .ok (.bipush 48, 2) := by decide +kernel
theorem dX7_digitAt_29 : decode cX7_digitAt 29 = .ok (.isub, 1) := by decide +kernel
theorem dX7_digitAt_30 : decode cX7_digitAt 30 = .ok (.goto 5, 3) := by decide +kernel
theorem dX7_digitAt_33 : decode cX7_digitAt 33 = .ok (.bipush (-9), 2) := by decide +kernel
theorem dX7_digitAt_35 : decode cX7_digitAt 35 = .ok (.ireturn, 1) := by decide +kernel
theorem dX7_readHouse_0 : decode cX7_readHouse 0 = .ok (.iload_n 1, 1) := by decide +kernel
theorem dX7_readHouse_1 : decode cX7_readHouse 1 = .ok (.iload_n 2, 1) := by decide +kernel
theorem dX7_readHouse_2 : decode cX7_readHouse 2 = .ok (.iadd, 1) := by decide +kernel
theorem dX7_readHouse_3 : decode cX7_readHouse 3 = .ok (.istore_n 3, 1) := by decide +kernel
theorem dX7_readHouse_4 : decode cX7_readHouse 4 = .ok (.iload_n 2, 1) := by decide +kernel
theorem dX7_readHouse_5 : decode cX7_readHouse 5 = .ok (.iconst 1, 1) := by decide +kernel
theorem dX7_readHouse_6 : decode cX7_readHouse 6 = .ok (.if_icmp .lt 14, 3) := by decide +kernel
theorem dX7_readHouse_9 : decode cX7_readHouse 9 = .ok (.aload_n 0, 1) := by decide +kernel
theorem dX7_readHouse_10 : decode cX7_readHouse 10 = .ok (.getfield 16, 3) := by decide +kernel
theorem dX7_readHouse_13 : decode cX7_readHouse 13 = .ok (.iload_n 1, 1) := by decide +kernel
theorem dX7_readHouse_14 : decode cX7_readHouse 14 = .ok (.iaload, 1) := by decide +kernel
theorem dX7_readHouse_15 : decode cX7_readHouse 15 = .ok (.bipush 119, 2) := by decide +kernel
theorem dX7_readHouse_17 : decode cX7_readHouse 17 = .ok (.if_icmp .eq 5, 3) := by decide +kernel
theorem dX7_readHouse_20 : decode cX7_readHouse 20 = .ok (.iconst 0, 1) := by decide +kernel
theorem dX7_readHouse_21 : decode cX7_readHouse 21 = .ok (.ireturn, 1) := by decide +kernel
theorem dX7_readHouse_22 : decode cX7_readHouse 22 = .ok (.aload_n 0, 1) := by decide +kernel
theorem dX7_readHouse_23 : decode cX7_readHouse 23 = .ok (.aload_n 0, 1) := by decide +kernel
theorem dX7_readHouse_24 : decode cX7_readHouse 24 = .ok (.iload_n 1, 1) := by decide +kernel
theorem dX7_readHouse_25 : decode cX7_readHouse 25 = .ok (.iconst 1, 1) := by decide +kernel
theorem dX7_readHouse_26 : decode cX7_readHouse 26 = .ok (.iadd, 1) := by decide +kernel
theorem dX7_readHouse_27 : decode cX7_readHouse 27 = .ok (.iload_n 3, 1) := by decide +kernel
theorem dX7_readHouse_28 : decode cX7_readHouse 28 = .ok (.invokevirtual 149, 3) := by decide +kernel
theorem dX7_readHouse_31 : decode cX7_readHouse 31 = .ok (.putfield 143, 3) := by decide +kernel
theorem dX7_readHouse_34 : decode cX7_readHouse 34 = .ok (.aload_n 0, 1) := by decide +kernel
theorem dX7_readHouse_35 : decode cX7_readHouse 35 = .ok (.getfield 143, 3) := by decide +kernel
theorem dX7_readHouse_38 : decode cX7_readHouse 38 = .ok (.iconst 1, 1) := by decide +kernel
theorem dX7_readHouse_39 : decode cX7_readHouse 39 = .ok (.iconst 4, 1) := by decide +kernel
theorem dX7_readHouse_40 : decode cX7_readHouse 40 = .ok (.invokestatic 108, 3) := by decide +kernel
theorem dX7_readHouse_43 : decode cX7_readHouse 43 = .ok (.ifCond .ne 5, 3) := by decide +kernel
theorem dX7_readHouse_46 : decode cX7_readHouse 46 = .ok (.iconst 1, 1) := by decide +kernel
theorem dX7_readHouse_47 : decode cX7_readHouse 47 = .ok (.ireturn, 1) := by decide +kernel
theorem dX7_readHouse_48 : decode cX7_readHouse 48 = .ok (.iload_n 2, 1) := by decide +kernel
theorem dX7_readHouse_49 : decode cX7_readHouse 49 = .ok (.iconst 3, 1) := by decide +kernel
theorem dX7_readHouse_50 : decode cX7_readHouse 50 = .ok (.if_icmp .lt 16, 3) := by decide +kernel
theorem dX7_readHouse_53 : decode cX7_readHouse 53 = .ok (.aload_n 0, 1) := by decide +kernel
theorem dX7_readHouse_54 : decode cX7_readHouse 54 = .ok (.getfield 16, 3) := by decide +kernel
theorem dX7_readHouse_57 : decode cX7_readHouse 57 = .ok (.iload_n 1, 1) := by decide +kernel
theorem dX7_readHouse_58 : decode cX7_readHouse 58 = .ok (.iconst 2, 1) := by decide +kernel
theorem dX7_readHouse_59 : decode cX7_readHouse 59 = .ok (.iadd, 1) := by decide +kernel
theorem dX7_readHouse_60 : decode cX7_readHouse 60 = .ok (.iaload, 1) := by decide +kernel
theorem dX7_readHouse_61 : decode cX7_readHouse 61 = .ok (.bipush 104, 2) := by decide +kernel
theorem dX7_readHouse_63 : decode cX7_readHouse 63 = .ok (.if_icmp .eq 5, 3) := by decide +kernel
theorem dX7_readHouse_66 : decode cX7_readHouse 66 = .ok (.iconst 2, 1) := by decide +kernel
theorem dX7_readHouse_67 : decode cX7_readHouse 67 = .ok (.ireturn, 1) := by decide +kernel
theorem dX7_readHouse_68 : decode cX7_readHouse 68 = .ok (.aload_n 0, 1) := by decide +kernel
theorem dX7_readHouse_69 : decode cX7_readHouse 69 = .ok (.aload_n 0, 1) := by decide +kernel
theorem dX7_readHouse_70 : decode cX7_readHouse 70 = .ok (.iload_n 1, 1) := by decide +kernel
theorem dX7_readHouse_71 : decode cX7_readHouse 71 = .ok (.iconst 3, 1) := by decide +kernel
theorem dX7_readHouse_72 : decode cX7_readHouse 72 = .ok (.iadd, 1) := by decide +kernel
theorem dX7_readHouse_73 : decode cX7_readHouse 73 = .ok (.iload_n 3, 1) := by decide +kernel
theorem dX7_readHouse_74 : decode cX7_readHouse 74 = .ok (.invokevirtual 149, 3) := by decide +kernel
theorem dX7_readHouse_77 : decode cX7_readHouse 77 = .ok (.putfield 146, 3) := by decide +kernel
theorem dX7_readHouse_80 : decode cX7_readHouse 80 = .ok (.aload_n 0, 1) := by decide +kernel
theorem dX7_readHouse_81 : decode cX7_readHouse 81 = .ok (.getfield 146, 3) := by decide +kernel
theorem dX7_readHouse_84 : decode cX7_readHouse 84 = .ok (.iconst 1, 1) := by decide +kernel
theorem dX7_readHouse_85 : decode cX7_readHouse 85 = .ok (.iconst 3, 1) := by decide +kernel
theorem dX7_readHouse_86 : decode cX7_readHouse 86 = .ok (.invokestatic 108, 3) := by decide +kernel
theorem dX7_readHouse_89 : decode cX7_readHouse 89 = .ok (.ifCond .ne 5, 3) := by decide +kernel
theorem dX7_readHouse_92 : decode cX7_readHouse 92 = .ok (.iconst 3, 1) := by decide +kernel
theorem dX7_readHouse_93 : decode cX7_readHouse 93 = .ok (.ireturn, 1) := by decide +kernel
theorem dX7_readHouse_94 : decode cX7_readHouse 94 = .ok (.iload_n 2, 1) := by decide +kernel
theorem dX7_readHouse_95 : decode cX7_readHouse 95 = .ok (.iconst 5, 1) := by decide +kernel
theorem dX7_readHouse_96 : decode cX7_readHouse 96 = .ok (.if_icmp .lt 16, 3) := by decide +kernel
theorem dX7_readHouse_99 : decode cX7_readHouse 99 = .ok (.aload_n 0, 1) := by decide +kernel
theorem dX7_readHouse_100 : decode cX7_readHouse 100 = .ok (.getfield 16, 3) := by decide +kernel
theorem dX7_readHouse_103 : decode cX7_readHouse 103 = .ok (.iload_n 1, 1) := by decide +kernel
theorem dX7_readHouse_104 : decode cX7_readHouse 104 = .ok (.iconst 4, 1) := by decide +kernel
theorem dX7_readHouse_105 : decode cX7_readHouse 105 = .ok (.iadd, 1) := by decide +kernel
theorem dX7_readHouse_106 : decode cX7_readHouse 106 = .ok (.iaload, 1) := by decide +kernel
theorem dX7_readHouse_107 : decode cX7_readHouse 107 = .ok (.bipush 59, 2) := by decide +kernel
theorem dX7_readHouse_109 : decode cX7_readHouse 109 = .ok (.if_icmp .eq 5, 3) := by decide +kernel
theorem dX7_readHouse_112 : decode cX7_readHouse 112 = .ok (.iconst 4, 1) := by decide +kernel
theorem dX7_readHouse_113 : decode cX7_readHouse 113 = .ok (.ireturn, 1) := by decide +kernel
theorem dX7_readHouse_114 : decode cX7_readHouse 114 = .ok (.iconst 3, 1) := by decide +kernel
theorem dX7_readHouse_115 : decode cX7_readHouse 115 = .ok (.aload_n 0, 1) := by decide +kernel
theorem dX7_readHouse_116 : decode cX7_readHouse 116 = .ok (.getfield 143, 3) := by decide +kernel
theorem dX7_readHouse_119 : decode cX7_readHouse 119 = .ok (.imul, 1) := by decide +kernel
theorem dX7_readHouse_120 : decode cX7_readHouse 120 = .ok (.aload_n 0, 1) := by decide +kernel
theorem dX7_readHouse_121 : decode cX7_readHouse 121 = .ok (.getfield 146, 3) := by decide +kernel
theorem dX7_readHouse_124 : decode cX7_readHouse 124 = .ok (.imul, 1) := by decide +kernel
theorem dX7_readHouse_125 : decode cX7_readHouse 125 = .ok (.aload_n 0, 1) := by decide +kernel
theorem dX7_readHouse_126 : decode cX7_readHouse 126 = .ok (.getfield 143, 3) := by decide +kernel
theorem dX7_readHouse_129 : decode cX7_readHouse 129 = .ok (.iadd, 1) := by decide +kernel
theorem dX7_readHouse_130 : decode cX7_readHouse 130 = .ok (.aload_n 0, 1) := by decide +kernel
theorem dX7_readHouse_131 : decode cX7_readHouse 131 = .ok (.getfield 146, 3) := by decide +kernel
theorem dX7_readHouse_134 : decode cX7_readHouse 134 = .ok (.iadd, 1) := by decide +kernel
theorem dX7_readHouse_135 : decode cX7_readHouse 135 = .ok (.istore 4, 2) := by decide +kernel
theorem dX7_readHouse_137 : decode cX7_readHouse 137 = .ok (.iconst 0, 1) := by decide +kernel
theorem dX7_readHouse_138 : decode cX7_readHouse 138 = .ok (.istore 5, 2) := by decide +kernel
theorem dX7_readHouse_140 : decode cX7_readHouse 140 = .ok (.iload 5, 2) := by decide +kernel
theorem dX7_readHouse_142 : decode cX7_readHouse 142 = .ok (.iload 4, 2) := by decide +kernel
theorem dX7_readHouse_144 : decode cX7_readHouse 144 = .ok (.if_icmp .ge 64, 3) := by decide +kernel
theorem dX7_readHouse_147 : decode cX7_readHouse 147 = .ok (.iload_n 1, 1) := by decide +kernel
theorem dX7_readHouse_148 : decode cX7_readHouse 148 = .ok (.iconst 5, 1) := by decide +kernel
theorem dX7_readHouse_149 : decode cX7_readHouse 149 = .ok (.iadd, 1) := by decide +kernel
theorem dX7_readHouse_150 : decode cX7_readHouse 150 = .ok (.iload 5, 2) := by decide +kernel
theorem dX7_readHouse_152 : decode cX7_readHouse 152 = .ok (.iadd, 1) := by decide +kernel
theorem dX7_readHouse_153 : decode cX7_readHouse 153 = .ok (.istore 6, 2) := by decide +kernel
theorem dX7_readHouse_155 : decode cX7_readHouse 155 = .ok (.iload 6, 2) := by decide +kernel
theorem dX7_readHouse_157 : decode cX7_readHouse 157 = .ok (.iload_n 3, 1) := by decide +kernel
theorem dX7_readHouse_158 : decode cX7_readHouse 158 = .ok (.if_icmp .ge 39, 3) := by decide +kernel
theorem dX7_readHouse_161 : decode cX7_readHouse 161 = .ok (.aload_n 0, 1) := by decide +kernel
theorem dX7_readHouse_162 : decode cX7_readHouse 162 = .ok (.getfield 16, 3) := by decide +kernel
theorem dX7_readHouse_165 : decode cX7_readHouse 165 = .ok (.iload 6, 2) := by decide +kernel
theorem dX7_readHouse_167 : decode cX7_readHouse 167 = .ok (.iaload, 1) := by decide +kernel
theorem dX7_readHouse_168 : decode cX7_readHouse 168 = .ok (.bipush 109, 2) := by decide +kernel
theorem dX7_readHouse_170 : decode cX7_readHouse 170 = .ok (.if_icmp .eq 32, 3) := by decide +kernel
theorem dX7_readHouse_173 : decode cX7_readHouse 173 = .ok (.aload_n 0, 1) := by decide +kernel
theorem dX7_readHouse_174 : decode cX7_readHouse 174 = .ok (.getfield 16, 3) := by decide +kernel
theorem dX7_readHouse_177 : decode cX7_readHouse 177 = .ok (.iload 6, 2) := by decide +kernel
theorem dX7_readHouse_179 : decode cX7_readHouse 179 = .ok (.iaload, 1) := by decide +kernel
theorem dX7_readHouse_180 : decode cX7_readHouse 180 = .ok (.bipush 103, 2) := by decide +kernel
theorem dX7_readHouse_182 : decode cX7_readHouse 182 = .ok (.if_icmp .eq 20, 3) := by decide +kernel
theorem dX7_readHouse_185 : decode cX7_readHouse 185 = .ok (.aload_n 0, 1) := by decide +kernel
theorem dX7_readHouse_186 : decode cX7_readHouse 186 = .ok (.getfield 16, 3) := by decide +kernel
theorem dX7_readHouse_189 : decode cX7_readHouse 189 = .ok (.iload 6, 2) := by decide +kernel
theorem dX7_readHouse_191 : decode cX7_readHouse 191 = .ok (.iaload, 1) := by decide +kernel
theorem dX7_readHouse_192 : decode cX7_readHouse 192 = .ok (.bipush 111, 2) := by decide +kernel
theorem dX7_readHouse_194 : decode cX7_readHouse 194 = .ok (.if_icmp .eq 8, 3) := by decide +kernel
theorem dX7_readHouse_197 : decode cX7_readHouse 197 = .ok (.iconst 5, 1) := by decide +kernel
theorem dX7_readHouse_198 : decode cX7_readHouse 198 = .ok (.iload 5, 2) := by decide +kernel
theorem dX7_readHouse_200 : decode cX7_readHouse 200 = .ok (.iadd, 1) := by decide +kernel
theorem dX7_readHouse_201 : decode cX7_readHouse 201 = .ok (.ireturn, 1) := by decide +kernel
theorem dX7_readHouse_202 : decode cX7_readHouse 202 = .ok (.iinc 5 1, 3) := by decide +kernel
theorem dX7_readHouse_205 : decode cX7_readHouse 205 = .ok (.goto (-65), 3) := by decide +kernel
theorem dX7_readHouse_208 : decode cX7_readHouse 208 = .ok (.iload_n 2, 1) := by decide +kernel
theorem dX7_readHouse_209 : decode cX7_readHouse 209 = .ok (.iconst 5, 1) := by decide +kernel
theorem dX7_readHouse_210 : decode cX7_readHouse 210 = .ok (.iload 4, 2) := by decide +kernel
theorem dX7_readHouse_212 : decode cX7_readHouse 212 = .ok (.iadd, 1) := by decide +kernel
theorem dX7_readHouse_213 : decode cX7_readHouse 213 = .ok (.if_icmp .le 10, 3) := by decide +kernel
theorem dX7_readHouse_216 : decode cX7_readHouse 216 = .ok (.iconst 5, 1) := by decide +kernel
theorem dX7_readHouse_217 : decode cX7_readHouse 217 = .ok (.iload 4, 2) := by decide +kernel
theorem dX7_readHouse_219 : decode cX7_readHouse 219 = .ok (.iadd, 1) := by decide +kernel
theorem dX7_readHouse_220 : decode cX7_readHouse 220 = .ok (.goto 5, 3) := by decide +kernel
theorem dX7_readHouse_223 : decode cX7_readHouse 223 = .ok (.bipush (-9), 2) := by decide +kernel
theorem dX7_readHouse_225 : decode cX7_readHouse 225 = .ok (.ireturn, 1) := by decide +kernel
theorem dX7_countOf_0 : decode cX7_countOf 0 = .ok (.iconst 0, 1) := by decide +kernel
theorem dX7_countOf_1 : decode cX7_countOf 1 = .ok (.istore_n 3, 1) := by decide +kernel
theorem dX7_countOf_2 : decode cX7_countOf 2 = .ok (.iconst 0, 1) := by decide +kernel
theorem dX7_countOf_3 : decode cX7_countOf 3 = .ok (.istore 4, 2) := by decide +kernel
theorem dX7_countOf_5 : decode cX7_countOf 5 = .ok (.iload 4, 2) := by decide +kernel
theorem dX7_countOf_7 : decode cX7_countOf 7 = .ok (.aload_n 0, 1) := by decide +kernel
theorem dX7_countOf_8 : decode cX7_countOf 8 = .ok (.iload_n 1, 1) := by decide +kernel
theorem dX7_countOf_9 : decode cX7_countOf 9 = .ok (.invokevirtual 123, 3) := by decide +kernel
theorem dX7_countOf_12 : decode cX7_countOf 12 = .ok (.if_icmp .ge 33, 3) := by decide +kernel
theorem dX7_countOf_15 : decode cX7_countOf 15 = .ok (.iload_n 3, 1) := by decide +kernel
theorem dX7_countOf_16 : decode cX7_countOf 16 = .ok (.aload_n 0, 1) := by decide +kernel
theorem dX7_countOf_17 : decode cX7_countOf 17 = .ok (.getfield 25, 3) := by decide +kernel
theorem dX7_countOf_20 : decode cX7_countOf 20 = .ok (.bipush 50, 2) := by decide +kernel
theorem dX7_countOf_22 : decode cX7_countOf 22 = .ok (.iload_n 1, 1) := by decide +kernel
theorem dX7_countOf_23 : decode cX7_countOf 23 = .ok (.imul, 1) := by decide +kernel
theorem dX7_countOf_24 : decode cX7_countOf 24 = .ok (.iload 4, 2) := by decide +kernel
theorem dX7_countOf_26 : decode cX7_countOf 26 = .ok (.iadd, 1) := by decide +kernel
theorem dX7_countOf_27 : decode cX7_countOf 27 = .ok (.iaload, 1) := by decide +kernel
theorem dX7_countOf_28 : decode cX7_countOf 28 = .ok (.iload_n 2, 1) := by decide +kernel
theorem dX7_countOf_29 : decode cX7_countOf 29 = .ok (.if_icmp .ne 7, 3) := by decide +kernel
theorem dX7_countOf_32 : decode cX7_countOf 32 = .ok (.iconst 1, 1) := by decide +kernel
theorem dX7_countOf_33 : decode cX7_countOf 33 = .ok (.goto 4, 3) := by decide +kernel
theorem dX7_countOf_36 : decode cX7_countOf 36 = .ok (.iconst 0, 1) := by decide +kernel
theorem dX7_countOf_37 : decode cX7_countOf 37 = .ok (.iadd, 1) := by decide +kernel
theorem dX7_countOf_38 : decode cX7_countOf 38 = .ok (.istore_n 3, 1) := by decide +kernel
theorem dX7_countOf_39 : decode cX7_countOf 39 = .ok (.iinc 4 1, 3) := by decide +kernel
theorem dX7_countOf_42 : decode cX7_countOf 42 = .ok (.goto (-37), 3) := by decide +kernel
theorem dX7_countOf_45 : decode cX7_countOf 45 = .ok (.iload_n 3, 1) := by decide +kernel
theorem dX7_countOf_46 : decode cX7_countOf 46 = .ok (.ireturn, 1) := by decide +kernel
theorem dX7_ofHouse_0 : decode cX7_ofHouse 0 = .ok (.aload_n 0, 1) := by decide +kernel
theorem dX7_ofHouse_1 : decode cX7_ofHouse 1 = .ok (.iload_n 1, 1) := by decide +kernel
theorem dX7_ofHouse_2 : decode cX7_ofHouse 2 = .ok (.invokevirtual 115, 3) := by decide +kernel
theorem dX7_ofHouse_5 : decode cX7_ofHouse 5 = .ok (.ifCond .ne 5, 3) := by decide +kernel
theorem dX7_ofHouse_8 : decode cX7_ofHouse 8 = .ok (.iconst (-1), 1) := by decide +kernel
theorem dX7_ofHouse_9 : decode cX7_ofHouse 9 = .ok (.ireturn, 1) := by decide +kernel
theorem dX7_ofHouse_10 : decode cX7_ofHouse 10 = .ok (.iload_n 2, 1) := by decide +kernel
theorem dX7_ofHouse_11 : decode cX7_ofHouse 11 = .ok (.tableswitch 118 0 7 #[45, 52, 59, 65, 71, 71, 71, 80], 45) := by decide +kernel
theorem dX7_ofHouse_56 : decode cX7_ofHouse 56 = .ok (.aload_n 0, 1) := by decide +kernel
theorem dX7_ofHouse_57 : decode cX7_ofHouse 57 = .ok (.getfield 19, 3) := by decide +kernel
theorem dX7_ofHouse_60 : decode cX7_ofHouse 60 = .ok (.iload_n 1, 1) := by decide +kernel
theorem dX7_ofHouse_61 : decode cX7_ofHouse 61 = .ok (.iaload, 1) := by decide +kernel
theorem dX7_ofHouse_62 : decode cX7_ofHouse 62 = .ok (.ireturn, 1) := by decide +kernel
theorem dX7_ofHouse_63 : decode cX7_ofHouse 63 = .ok (.aload_n 0, 1) := by decide +kernel
theorem dX7_ofHouse_64 : decode cX7_ofHouse 64 = .ok (.getfield 22, 3) := by decide +kernel
theorem dX7_ofHouse_67 : decode cX7_ofHouse 67 = .ok (.iload_n 1, 1) := by decide +kernel
theorem dX7_ofHouse_68 : decode cX7_ofHouse 68 = .ok (.iaload, 1) := by decide +kernel
theorem dX7_ofHouse_69 : decode cX7_ofHouse 69 = .ok (.ireturn, 1) := by decide +kernel
theorem dX7_ofHouse_70 : decode cX7_ofHouse 70 = .ok (.aload_n 0, 1) := by decide +kernel
theorem dX7_ofHouse_71 : decode cX7_ofHouse 71 = .ok (.iload_n 1, 1) := by decide +kernel
theorem dX7_ofHouse_72 : decode cX7_ofHouse 72 = .ok (.invokevirtual 119, 3) := by decide +kernel
theorem dX7_ofHouse_75 : decode cX7_ofHouse 75 = .ok (.ireturn, 1) := by decide +kernel
theorem dX7_ofHouse_76 : decode cX7_ofHouse 76 = .ok (.aload_n 0, 1) := by decide +kernel
theorem dX7_ofHouse_77 : decode cX7_ofHouse 77 = .ok (.iload_n 1, 1) := by decide +kernel
theorem dX7_ofHouse_78 : decode cX7_ofHouse 78 = .ok (.invokevirtual 123, 3) := by decide +kernel
theorem dX7_ofHouse_81 : decode cX7_ofHouse 81 = .ok (.ireturn, 1) := by decide +kernel
theorem dX7_ofHouse_82 : decode cX7_ofHouse 82 = .ok (.aload_n 0, 1) := by decide +kernel
theorem dX7_ofHouse_83 : decode cX7_ofHouse 83 = .ok (.iload_n 1, 1) := by decide +kernel
theorem dX7_ofHouse_84 : decode cX7_ofHouse 84 = .ok (.iload_n 2, 1) := by decide +kernel
theorem dX7_ofHouse_85 : decode cX7_ofHouse 85 = .ok (.iconst 4, 1) := by decide +kernel
theorem dX7_ofHouse_86 : decode cX7_ofHouse 86 = .ok (.isub, 1) := by decide +kernel
theorem dX7_ofHouse_87 : decode cX7_ofHouse 87 = .ok (.invokevirtual 152, 3) := by decide +kernel
theorem dX7_ofHouse_90 : decode cX7_ofHouse 90 = .ok (.ireturn, 1) := by decide +kernel
theorem dX7_ofHouse_91 : decode cX7_ofHouse 91 = .ok (.iconst 0, 1) := by decide +kernel
theorem dX7_ofHouse_92 : decode cX7_ofHouse 92 = .ok (.istore_n 3, 1) := by decide +kernel
theorem dX7_ofHouse_93 : decode cX7_ofHouse 93 = .ok (.iconst 0, 1) := by decide +kernel
theorem dX7_ofHouse_94 : decode cX7_ofHouse 94 = .ok (.istore 4, 2) := by decide +kernel
theorem dX7_ofHouse_96 : decode cX7_ofHouse 96 = .ok (.iload 4, 2) := by decide +kernel
theorem dX7_ofHouse_98 : decode cX7_ofHouse 98 = .ok (.aload_n 0, 1) := by decide +kernel
theorem dX7_ofHouse_99 : decode cX7_ofHouse 99 = .ok (.iload_n 1, 1) := by decide +kernel
theorem dX7_ofHouse_100 : decode cX7_ofHouse 100 = .ok (.invokevirtual 123, 3) := by decide +kernel
theorem dX7_ofHouse_103 : decode cX7_ofHouse 103 = .ok (.if_icmp .ge 24, 3) := by decide +kernel
theorem dX7_ofHouse_106 : decode cX7_ofHouse 106 = .ok (.iload_n 3, 1) := by decide +kernel
theorem dX7_ofHouse_107 : decode cX7_ofHouse 107 = .ok (.aload_n 0, 1) := by decide +kernel
theorem dX7_ofHouse_108 : decode cX7_ofHouse 108 = .ok (.getfield 28, 3) := by decide +kernel
theorem dX7_ofHouse_111 : decode cX7_ofHouse 111 = .ok (.bipush 50, 2) := by decide +kernel
theorem dX7_ofHouse_113 : decode cX7_ofHouse 113 = .ok (.iload_n 1, 1) := by decide +kernel
theorem dX7_ofHouse_114 : decode cX7_ofHouse 114 = .ok (.imul, 1) := by decide +kernel
theorem dX7_ofHouse_115 : decode cX7_ofHouse 115 = .ok (.iload 4, 2) := by decide +kernel
theorem dX7_ofHouse_117 : decode cX7_ofHouse 117 = .ok (.iadd, 1) := by decide +kernel
theorem dX7_ofHouse_118 : decode cX7_ofHouse 118 = .ok (.iaload, 1) := by decide +kernel
theorem dX7_ofHouse_119 : decode cX7_ofHouse 119 = .ok (.iadd, 1) := by decide +kernel
theorem dX7_ofHouse_120 : decode cX7_ofHouse 120 = .ok (.istore_n 3, 1) := by decide +kernel
theorem dX7_ofHouse_121 : decode cX7_ofHouse 121 = .ok (.iinc 4 1, 3) := by decide +kernel
theorem dX7_ofHouse_124 : decode cX7_ofHouse 124 = .ok (.goto (-28), 3) := by decide +kernel
theorem dX7_ofHouse_127 : decode cX7_ofHouse 127 = .ok (.iload_n 3, 1) := by decide +kernel
theorem dX7_ofHouse_128 : decode cX7_ofHouse 128 = .ok (.ireturn, 1) := by decide +kernel
theorem dX7_ofHouse_129 : decode cX7_ofHouse 129 = .ok (.bipush (-2), 2) := by decide +kernel
theorem dX7_ofHouse_131 : decode cX7_ofHouse 131 = .ok (.ireturn, 1) := by decide +kernel
theorem dX7_sideOf_0 : decode cX7_sideOf 0 = .ok (.iload_n 2, 1) := by decide +kernel
theorem dX7_sideOf_1 : decode cX7_sideOf 1 = .ok (.iconst 2, 1) := by decide +kernel
theorem dX7_sideOf_2 : decode cX7_sideOf 2 = .ok (.idiv, 1) := by decide +kernel
theorem dX7_sideOf_3 : decode cX7_sideOf 3 = .ok (.istore 4, 2) := by decide +kernel
theorem dX7_sideOf_5 : decode cX7_sideOf 5 = .ok (.aload_n 0, 1) := by decide +kernel
theorem dX7_sideOf_6 : decode cX7_sideOf 6 = .ok (.getfield 19, 3) := by decide +kernel
theorem dX7_sideOf_9 : decode cX7_sideOf 9 = .ok (.iload_n 1, 1) := by decide +kernel
theorem dX7_sideOf_10 : decode cX7_sideOf 10 = .ok (.iaload, 1) := by decide +kernel
theorem dX7_sideOf_11 : decode cX7_sideOf 11 = .ok (.aload_n 0, 1) := by decide +kernel
theorem dX7_sideOf_12 : decode cX7_sideOf 12 = .ok (.getfield 22, 3) := by decide +kernel
theorem dX7_sideOf_15 : decode cX7_sideOf 15 = .ok (.iload_n 1, 1) := by decide +kernel
theorem dX7_sideOf_16 : decode cX7_sideOf 16 = .ok (.iaload, 1) := by decide +kernel
theorem dX7_sideOf_17 : decode cX7_sideOf 17 = .ok (.imul, 1) := by decide +kernel
theorem dX7_sideOf_18 : decode cX7_sideOf 18 = .ok (.istore 5, 2) := by decide +kernel
theorem dX7_sideOf_20 : decode cX7_sideOf 20 = .ok (.iload_n 2, 1) := by decide +kernel
theorem dX7_sideOf_21 : decode cX7_sideOf 21 = .ok (.iconst 2, 1) := by decide +kernel
theorem dX7_sideOf_22 : decode cX7_sideOf 22 = .ok (.irem, 1) := by decide +kernel
theorem dX7_sideOf_23 : decode cX7_sideOf 23 = .ok (.ifCond .ne 12, 3) := by decide +kernel
theorem dX7_sideOf_26 : decode cX7_sideOf 26 = .ok (.iconst 3, 1) := by decide +kernel
theorem dX7_sideOf_27 : decode cX7_sideOf 27 = .ok (.iload 4, 2) := by decide +kernel
theorem dX7_sideOf_29 : decode cX7_sideOf 29 = .ok (.imul, 1) := by decide +kernel
theorem dX7_sideOf_30 : decode cX7_sideOf 30 = .ok (.iconst 2, 1) := by decide +kernel
theorem dX7_sideOf_31 : decode cX7_sideOf 31 = .ok (.iadd, 1) := by decide +kernel
theorem dX7_sideOf_32 : decode cX7_sideOf 32 = .ok (.iload_n 3, 1) := by decide +kernel
theorem dX7_sideOf_33 : decode cX7_sideOf 33 = .ok (.isub, 1) := by decide +kernel
theorem dX7_sideOf_34 : decode cX7_sideOf 34 = .ok (.ireturn, 1) := by decide +kernel
theorem dX7_sideOf_35 : decode cX7_sideOf 35 = .ok (.iload 4, 2) := by decide +kernel
theorem dX7_sideOf_37 : decode cX7_sideOf 37 = .ok (.aload_n 0, 1) := by decide +kernel
theorem dX7_sideOf_38 : decode cX7_sideOf 38 = .ok (.getfield 19, 3) := by decide +kernel
theorem dX7_sideOf_41 : decode cX7_sideOf 41 = .ok (.iload_n 1, 1) := by decide +kernel
theorem dX7_sideOf_42 : decode cX7_sideOf 42 = .ok (.iaload, 1) := by decide +kernel
theorem dX7_sideOf_43 : decode cX7_sideOf 43 = .ok (.irem, 1) := by decide +kernel
theorem dX7_sideOf_44 : decode cX7_sideOf 44 = .ok (.istore 6, 2) := by decide +kernel
theorem dX7_sideOf_46 : decode cX7_sideOf 46 = .ok (.iload 4, 2) := by decide +kernel
theorem dX7_sideOf_48 : decode cX7_sideOf 48 = .ok (.aload_n 0, 1) := by decide +kernel
theorem dX7_sideOf_49 : decode cX7_sideOf 49 = .ok (.getfield 19, 3) := by decide +kernel
theorem dX7_sideOf_52 : decode cX7_sideOf 52 = .ok (.iload_n 1, 1) := by decide +kernel
theorem dX7_sideOf_53 : decode cX7_sideOf 53 = .ok (.iaload, 1) := by decide +kernel
theorem dX7_sideOf_54 : decode cX7_sideOf 54 = .ok (.idiv, 1) := by decide +kernel
theorem dX7_sideOf_55 : decode cX7_sideOf 55 = .ok (.istore 7, 2) := by decide +kernel
theorem dX7_sideOf_57 : decode cX7_sideOf 57 = .ok (.iload_n 3, 1) := by decide +kernel
theorem dX7_sideOf_58 : decode cX7_sideOf 58 = .ok (.lookupswitch 63 #[(1, 31), (2, 26)], 26) := by decide +kernel
theorem dX7_sideOf_84 : decode cX7_sideOf 84 = .ok (.iconst 3, 1) := by decide +kernel
theorem dX7_sideOf_85 : decode cX7_sideOf 85 = .ok (.iload 4, 2) := by decide +kernel
theorem dX7_sideOf_87 : decode cX7_sideOf 87 = .ok (.imul, 1) := by decide +kernel
theorem dX7_sideOf_88 : decode cX7_sideOf 88 = .ok (.ireturn, 1) := by decide +kernel
theorem dX7_sideOf_89 : decode cX7_sideOf 89 = .ok (.iload 6, 2) := by decide +kernel
theorem dX7_sideOf_91 : decode cX7_sideOf 91 = .ok (.iconst 1, 1) := by decide +kernel
theorem dX7_sideOf_92 : decode cX7_sideOf 92 = .ok (.iadd, 1) := by decide +kernel
theorem dX7_sideOf_93 : decode cX7_sideOf 93 = .ok (.aload_n 0, 1) := by decide +kernel
theorem dX7_sideOf_94 : decode cX7_sideOf 94 = .ok (.getfield 19, 3) := by decide +kernel
theorem dX7_sideOf_97 : decode cX7_sideOf 97 = .ok (.iload_n 1, 1) := by decide +kernel
theorem dX7_sideOf_98 : decode cX7_sideOf 98 = .ok (.iaload, 1) := by decide +kernel
theorem dX7_sideOf_99 : decode cX7_sideOf 99 = .ok (.if_icmp .ge 14, 3) := by decide +kernel
theorem dX7_sideOf_102 : decode cX7_sideOf 102 = .ok (.iconst 3, 1) := by decide +kernel
theorem dX7_sideOf_103 : decode cX7_sideOf 103 = .ok (.iload 4, 2) := by decide +kernel
theorem dX7_sideOf_105 : decode cX7_sideOf 105 = .ok (.iconst 1, 1) := by decide +kernel
theorem dX7_sideOf_106 : decode cX7_sideOf 106 = .ok (.iadd, 1) := by decide +kernel
theorem dX7_sideOf_107 : decode cX7_sideOf 107 = .ok (.imul, 1) := by decide +kernel
theorem dX7_sideOf_108 : decode cX7_sideOf 108 = .ok (.iconst 1, 1) := by decide +kernel
theorem dX7_sideOf_109 : decode cX7_sideOf 109 = .ok (.iadd, 1) := by decide +kernel
theorem dX7_sideOf_110 : decode cX7_sideOf 110 = .ok (.goto 10, 3) := by decide +kernel
theorem dX7_sideOf_113 : decode cX7_sideOf 113 = .ok (.iconst 3, 1) := by decide +kernel
theorem dX7_sideOf_114 : decode cX7_sideOf 114 = .ok (.iload 5, 2) := by decide +kernel
theorem dX7_sideOf_116 : decode cX7_sideOf 116 = .ok (.imul, 1) := by decide +kernel
theorem dX7_sideOf_117 : decode cX7_sideOf 117 = .ok (.iload 7, 2) := by decide +kernel
theorem dX7_sideOf_119 : decode cX7_sideOf 119 = .ok (.iadd, 1) := by decide +kernel
theorem dX7_sideOf_120 : decode cX7_sideOf 120 = .ok (.ireturn, 1) := by decide +kernel
theorem dX7_sideOf_121 : decode cX7_sideOf 121 = .ok (.iload 7, 2) := by decide +kernel
theorem dX7_sideOf_123 : decode cX7_sideOf 123 = .ok (.iconst 1, 1) := by decide +kernel
theorem dX7_sideOf_124 : decode cX7_sideOf 124 = .ok (.iadd, 1) := by decide +kernel
theorem dX7_sideOf_125 : decode cX7_sideOf 125 = .ok (.aload_n 0, 1) := by decide +kernel
theorem dX7_sideOf_126 : decode cX7_sideOf 126 = .ok (.getfield 22, 3) := by decide +kernel
theorem dX7_sideOf_129 : decode cX7_sideOf 129 = .ok (.iload_n 1, 1) := by decide +kernel
theorem dX7_sideOf_130 : decode cX7_sideOf 130 = .ok (.iaload, 1) := by decide +kernel
theorem dX7_sideOf_131 : decode cX7_sideOf 131 = .ok (.if_icmp .ge 19, 3) := by decide +kernel
theorem dX7_sideOf_134 : decode cX7_sideOf 134 = .ok (.iconst 3, 1) := by decide +kernel
theorem dX7_sideOf_135 : decode cX7_sideOf 135 = .ok (.iload 4, 2) := by decide +kernel
theorem dX7_sideOf_137 : decode cX7_sideOf 137 = .ok (.aload_n 0, 1) := by decide +kernel
theorem dX7_sideOf_138 : decode cX7_sideOf 138 = .ok (.getfield 19, 3) := by decide +kernel
theorem dX7_sideOf_141 : decode cX7_sideOf 141 = .ok (.iload_n 1, 1) := by decide +kernel
theorem dX7_sideOf_142 : decode cX7_sideOf 142 = .ok (.iaload, 1) := by decide +kernel
theorem dX7_sideOf_143 : decode cX7_sideOf 143 = .ok (.iadd, 1) := by decide +kernel
theorem dX7_sideOf_144 : decode cX7_sideOf 144 = .ok (.imul, 1) := by decide +kernel
theorem dX7_sideOf_145 : decode cX7_sideOf 145 = .ok (.iconst 2, 1) := by decide +kernel
theorem dX7_sideOf_146 : decode cX7_sideOf 146 = .ok (.iadd, 1) := by decide +kernel
theorem dX7_sideOf_147 : decode cX7_sideOf 147 = .ok (.goto 17, 3) := by decide +kernel
theorem dX7_sideOf_150 : decode cX7_sideOf 150 = .ok (.iconst 3, 1) := by decide +kernel
theorem dX7_sideOf_151 : decode cX7_sideOf 151 = .ok (.iload 5, 2) := by decide +kernel
theorem dX7_sideOf_153 : decode cX7_sideOf 153 = .ok (.imul, 1) := by decide +kernel
theorem dX7_sideOf_154 : decode cX7_sideOf 154 = .ok (.aload_n 0, 1) := by decide +kernel
theorem dX7_sideOf_155 : decode cX7_sideOf 155 = .ok (.getfield 22, 3) := by decide +kernel
theorem dX7_sideOf_158 : decode cX7_sideOf 158 = .ok (.iload_n 1, 1) := by decide +kernel
theorem dX7_sideOf_159 : decode cX7_sideOf 159 = .ok (.iaload, 1) := by decide +kernel
theorem dX7_sideOf_160 : decode cX7_sideOf 160 = .ok (.iadd, 1) := by decide +kernel
theorem dX7_sideOf_161 : decode cX7_sideOf 161 = .ok (.iload 6, 2) := by decide +kernel
theorem dX7_sideOf_163 : decode cX7_sideOf 163 = .ok (.iadd, 1) := by decide +kernel
theorem dX7_sideOf_164 : decode cX7_sideOf 164 = .ok (.ireturn, 1) := by decide +kernel
theorem dX7_behind_0 : decode cX7_behind 0 = .ok (.iload_n 2, 1) := by decide +kernel
theorem dX7_behind_1 : decode cX7_behind 1 = .ok (.iconst 2, 1) := by decide +kernel
theorem dX7_behind_2 : decode cX7_behind 2 = .ok (.idiv, 1) := by decide +kernel
theorem dX7_behind_3 : decode cX7_behind 3 = .ok (.istore 4, 2) := by decide +kernel
theorem dX7_behind_5 : decode cX7_behind 5 = .ok (.iload 4, 2) := by decide +kernel
theorem dX7_behind_7 : decode cX7_behind 7 = .ok (.aload_n 0, 1) := by decide +kernel
theorem dX7_behind_8 : decode cX7_behind 8 = .ok (.getfield 19, 3) := by decide +kernel
theorem dX7_behind_11 : decode cX7_behind 11 = .ok (.iload_n 1, 1) := by decide +kernel
theorem dX7_behind_12 : decode cX7_behind 12 = .ok (.iaload, 1) := by decide +kernel
theorem dX7_behind_13 : decode cX7_behind 13 = .ok (.irem, 1) := by decide +kernel
theorem dX7_behind_14 : decode cX7_behind 14 = .ok (.istore 5, 2) := by decide +kernel
theorem dX7_behind_16 : decode cX7_behind 16 = .ok (.iload 4, 2) := by decide +kernel
theorem dX7_behind_18 : decode cX7_behind 18 = .ok (.aload_n 0, 1) := by decide +kernel
theorem dX7_behind_19 : decode cX7_behind 19 = .ok (.getfield 19, 3) := by decide +kernel
theorem dX7_behind_22 : decode cX7_behind 22 = .ok (.iload_n 1, 1) := by decide +kernel
theorem dX7_behind_23 : decode cX7_behind 23 = .ok (.iaload, 1) := by decide +kernel
theorem dX7_behind_24 : decode cX7_behind 24 = .ok (.idiv, 1) := by decide +kernel
theorem dX7_behind_25 : decode cX7_behind 25 = .ok (.istore 6, 2) := by decide +kernel
theorem dX7_behind_27 : decode cX7_behind 27 = .ok (.iload_n 2, 1) := by decide +kernel
theorem dX7_behind_28 : decode cX7_behind 28 = .ok (.iconst 2, 1) := by decide +kernel
theorem dX7_behind_29 : decode cX7_behind 29 = .ok (.irem, 1) := by decide +kernel
theorem dX7_behind_30 : decode cX7_behind 30 = .ok (.ifCond .ne 7, 3) := by decide +kernel
theorem dX7_behind_33 : decode cX7_behind 33 = .ok (.iconst 1, 1) := by decide +kernel
theorem dX7_behind_34 : decode cX7_behind 34 = .ok (.goto 4, 3) := by decide +kernel
theorem dX7_behind_37 : decode cX7_behind 37 = .ok (.iconst 0, 1) := by decide +kernel
theorem dX7_behind_38 : decode cX7_behind 38 = .ok (.istore 7, 2) := by decide +kernel
theorem dX7_behind_40 : decode cX7_behind 40 = .ok (.iload_n 3, 1) := by decide +kernel
theorem dX7_behind_41 : decode cX7_behind 41 = .ok (.lookupswitch 83 #[(1, 42), (2, 27)], 27) := by decide +kernel
theorem dX7_behind_68 : decode cX7_behind 68 = .ok (.iload 7, 2) := by decide +kernel
theorem dX7_behind_70 : decode cX7_behind 70 = .ok (.ifCond .eq 9, 3) := by decide +kernel
theorem dX7_behind_73 : decode cX7_behind 73 = .ok (.iload_n 2, 1) := by decide +kernel
theorem dX7_behind_74 : decode cX7_behind 74 = .ok (.iconst 1, 1) := by decide +kernel
theorem dX7_behind_75 : decode cX7_behind 75 = .ok (.iadd, 1) := by decide +kernel
theorem dX7_behind_76 : decode cX7_behind 76 = .ok (.goto 6, 3) := by decide +kernel
theorem dX7_behind_79 : decode cX7_behind 79 = .ok (.iload_n 2, 1) := by decide +kernel
theorem dX7_behind_80 : decode cX7_behind 80 = .ok (.iconst 1, 1) := by decide +kernel
theorem dX7_behind_81 : decode cX7_behind 81 = .ok (.isub, 1) := by decide +kernel
theorem dX7_behind_82 : decode cX7_behind 82 = .ok (.ireturn, 1) := by decide +kernel
theorem dX7_behind_83 : decode cX7_behind 83 = .ok (.iload 7, 2) := by decide +kernel
theorem dX7_behind_85 : decode cX7_behind 85 = .ok (.ifCond .eq 17, 3) := by decide +kernel
theorem dX7_behind_88 : decode cX7_behind 88 = .ok (.iload 5, 2) := by decide +kernel
theorem dX7_behind_90 : decode cX7_behind 90 = .ok (.ifCond .ne 8, 3) := by decide +kernel
theorem dX7_behind_93 : decode cX7_behind 93 = .ok (.bipush (-9), 2) := by decide +kernel
theorem dX7_behind_95 : decode cX7_behind 95 = .ok (.goto 6, 3) := by decide +kernel
theorem dX7_behind_98 : decode cX7_behind 98 = .ok (.iload_n 2, 1) := by decide +kernel
theorem dX7_behind_99 : decode cX7_behind 99 = .ok (.iconst 1, 1) := by decide +kernel
theorem dX7_behind_100 : decode cX7_behind 100 = .ok (.isub, 1) := by decide +kernel
theorem dX7_behind_101 : decode cX7_behind 101 = .ok (.ireturn, 1) := by decide +kernel
theorem dX7_behind_102 : decode cX7_behind 102 = .ok (.iload 5, 2) := by decide +kernel
theorem dX7_behind_104 : decode cX7_behind 104 = .ok (.iconst 1, 1) := by decide +kernel
theorem dX7_behind_105 : decode cX7_behind 105 = .ok (.iadd, 1) := by decide +kernel
theorem dX7_behind_106 : decode cX7_behind 106 = .ok (.aload_n 0, 1) := by decide +kernel
theorem dX7_behind_107 : decode cX7_behind 107 = .ok (.getfield 19, 3) := by decide +kernel
theorem dX7_behind_110 : decode cX7_behind 110 = .ok (.iload_n 1, 1) := by decide +kernel
theorem dX7_behind_111 : decode cX7_behind 111 = .ok (.iaload, 1) := by decide +kernel
theorem dX7_behind_112 : decode cX7_behind 112 = .ok (.if_icmp .ne 8, 3) := by decide +kernel
theorem dX7_behind_115 : decode cX7_behind 115 = .ok (.bipush (-9), 2) := by decide +kernel
theorem dX7_behind_117 : decode cX7_behind 117 = .ok (.goto 6, 3) := by decide +kernel
theorem dX7_behind_120 : decode cX7_behind 120 = .ok (.iload_n 2, 1) := by decide +kernel
theorem dX7_behind_121 : decode cX7_behind 121 = .ok (.iconst 1, 1) := by decide +kernel
theorem dX7_behind_122 : decode cX7_behind 122 = .ok (.iadd, 1) := by decide +kernel
theorem dX7_behind_123 : decode cX7_behind 123 = .ok (.ireturn, 1) := by decide +kernel
theorem dX7_behind_124 : decode cX7_behind 124 = .ok (.iload 7, 2) := by decide +kernel
theorem dX7_behind_126 : decode cX7_behind 126 = .ok (.ifCond .eq 27, 3) := by decide +kernel
theorem dX7_behind_129 : decode cX7_behind 129 = .ok (.iload 6, 2) := by decide +kernel
theorem dX7_behind_131 : decode cX7_behind 131 = .ok (.ifCond .ne 8, 3) := by decide +kernel
theorem dX7_behind_134 : decode cX7_behind 134 = .ok (.bipush (-9), 2) := by decide +kernel
theorem dX7_behind_136 : decode cX7_behind 136 = .ok (.goto 16, 3) := by decide +kernel
theorem dX7_behind_139 : decode cX7_behind 139 = .ok (.iconst 2, 1) := by decide +kernel
theorem dX7_behind_140 : decode cX7_behind 140 = .ok (.iload 4, 2) := by decide +kernel
theorem dX7_behind_142 : decode cX7_behind 142 = .ok (.aload_n 0, 1) := by decide +kernel
theorem dX7_behind_143 : decode cX7_behind 143 = .ok (.getfield 19, 3) := by decide +kernel
theorem dX7_behind_146 : decode cX7_behind 146 = .ok (.iload_n 1, 1) := by decide +kernel
theorem dX7_behind_147 : decode cX7_behind 147 = .ok (.iaload, 1) := by decide +kernel
theorem dX7_behind_148 : decode cX7_behind 148 = .ok (.isub, 1) := by decide +kernel
theorem dX7_behind_149 : decode cX7_behind 149 = .ok (.imul, 1) := by decide +kernel
theorem dX7_behind_150 : decode cX7_behind 150 = .ok (.iconst 1, 1) := by decide +kernel
theorem dX7_behind_151 : decode cX7_behind 151 = .ok (.iadd, 1) := by decide +kernel
theorem dX7_behind_152 : decode cX7_behind 152 = .ok (.ireturn, 1) := by decide +kernel
theorem dX7_behind_153 : decode cX7_behind 153 = .ok (.iload 6, 2) := by decide +kernel
theorem dX7_behind_155 : decode cX7_behind 155 = .ok (.iconst 1, 1) := by decide +kernel
theorem dX7_behind_156 : decode cX7_behind 156 = .ok (.iadd, 1) := by decide +kernel
theorem dX7_behind_157 : decode cX7_behind 157 = .ok (.aload_n 0, 1) := by decide +kernel
theorem dX7_behind_158 : decode cX7_behind 158 = .ok (.getfield 22, 3) := by decide +kernel
theorem dX7_behind_161 : decode cX7_behind 161 = .ok (.iload_n 1, 1) := by decide +kernel
theorem dX7_behind_162 : decode cX7_behind 162 = .ok (.iaload, 1) := by decide +kernel
theorem dX7_behind_163 : decode cX7_behind 163 = .ok (.if_icmp .ne 8, 3) := by decide +kernel
theorem dX7_behind_166 : decode cX7_behind 166 = .ok (.bipush (-9), 2) := by decide +kernel
theorem dX7_behind_168 : decode cX7_behind 168 = .ok (.goto 14, 3) := by decide +kernel
theorem dX7_behind_171 : decode cX7_behind 171 = .ok (.iconst 2, 1) := by decide +kernel
theorem dX7_behind_172 : decode cX7_behind 172 = .ok (.iload 4, 2) := by decide +kernel
theorem dX7_behind_174 : decode cX7_behind 174 = .ok (.aload_n 0, 1) := by decide +kernel
theorem dX7_behind_175 : decode cX7_behind 175 = .ok (.getfield 19, 3) := by decide +kernel
theorem dX7_behind_178 : decode cX7_behind 178 = .ok (.iload_n 1, 1) := by decide +kernel
theorem dX7_behind_179 : decode cX7_behind 179 = .ok (.iaload, 1) := by decide +kernel
theorem dX7_behind_180 : decode cX7_behind 180 = .ok (.iadd, 1) := by decide +kernel
theorem dX7_behind_181 : decode cX7_behind 181 = .ok (.imul, 1) := by decide +kernel
theorem dX7_behind_182 : decode cX7_behind 182 = .ok (.ireturn, 1) := by decide +kernel
theorem dX7_ofSide_0 : decode cX7_ofSide 0 = .ok (.aload_n 0, 1) := by decide +kernel
theorem dX7_ofSide_1 : decode cX7_ofSide 1 = .ok (.iload_n 1, 1) := by decide +kernel
theorem dX7_ofSide_2 : decode cX7_ofSide 2 = .ok (.iload_n 2, 1) := by decide +kernel
theorem dX7_ofSide_3 : decode cX7_ofSide 3 = .ok (.invokevirtual 155, 3) := by decide +kernel
theorem dX7_ofSide_6 : decode cX7_ofSide 6 = .ok (.ifCond .ne 5, 3) := by decide +kernel
theorem dX7_ofSide_9 : decode cX7_ofSide 9 = .ok (.iconst (-1), 1) := by decide +kernel
theorem dX7_ofSide_10 : decode cX7_ofSide 10 = .ok (.ireturn, 1) := by decide +kernel
theorem dX7_ofSide_11 : decode cX7_ofSide 11 = .ok (.iload_n 3, 1) := by decide +kernel
theorem dX7_ofSide_12 : decode cX7_ofSide 12 = .ok (.iconst 0, 1) := by decide +kernel
theorem dX7_ofSide_13 : decode cX7_ofSide 13 = .ok (.iconst 4, 1) := by decide +kernel
theorem dX7_ofSide_14 : decode cX7_ofSide 14 = .ok (.invokestatic 108, 3) := by decide +kernel
theorem dX7_ofSide_17 : decode cX7_ofSide 17 = .ok (.ifCond .ne 6, 3) := by decide +kernel
theorem dX7_ofSide_20 : decode cX7_ofSide 20 = .ok (.bipush (-2), 2) := by decide +kernel
theorem dX7_ofSide_22 : decode cX7_ofSide 22 = .ok (.ireturn, 1) := by decide +kernel
theorem dX7_ofSide_23 : decode cX7_ofSide 23 = .ok (.iload_n 3, 1) := by decide +kernel
theorem dX7_ofSide_24 : decode cX7_ofSide 24 = .ok (.ifCond .ne 15, 3) := by decide +kernel
theorem dX7_ofSide_27 : decode cX7_ofSide 27 = .ok (.aload_n 0, 1) := by decide +kernel
theorem dX7_ofSide_28 : decode cX7_ofSide 28 = .ok (.getfield 25, 3) := by decide +kernel
theorem dX7_ofSide_31 : decode cX7_ofSide 31 = .ok (.bipush 50, 2) := by decide +kernel
theorem dX7_ofSide_33 : decode cX7_ofSide 33 = .ok (.iload_n 1, 1) := by decide +kernel
theorem dX7_ofSide_34 : decode cX7_ofSide 34 = .ok (.imul, 1) := by decide +kernel
theorem dX7_ofSide_35 : decode cX7_ofSide 35 = .ok (.iload_n 2, 1) := by decide +kernel
theorem dX7_ofSide_36 : decode cX7_ofSide 36 = .ok (.iadd, 1) := by decide +kernel
theorem dX7_ofSide_37 : decode cX7_ofSide 37 = .ok (.iaload, 1) := by decide +kernel
theorem dX7_ofSide_38 : decode cX7_ofSide 38 = .ok (.ireturn, 1) := by decide +kernel
theorem dX7_ofSide_39 : decode cX7_ofSide 39 = .ok (.iload_n 3, 1) := by decide +kernel
theorem dX7_ofSide_40 : decode cX7_ofSide 40 = .ok (.iconst 4, 1) := by decide +kernel
theorem dX7_ofSide_41 : decode cX7_ofSide 41 = .ok (.if_icmp .ne 15, 3) := by decide +kernel
theorem dX7_ofSide_44 : decode cX7_ofSide 44 = .ok (.aload_n 0, 1) := by decide +kernel
theorem dX7_ofSide_45 : decode cX7_ofSide 45 = .ok (.getfield 28, 3) := by decide +kernel
theorem dX7_ofSide_48 : decode cX7_ofSide 48 = .ok (.bipush 50, 2) := by decide +kernel
theorem dX7_ofSide_50 : decode cX7_ofSide 50 = .ok (.iload_n 1, 1) := by decide +kernel
theorem dX7_ofSide_51 : decode cX7_ofSide 51 = .ok (.imul, 1) := by decide +kernel
theorem dX7_ofSide_52 : decode cX7_ofSide 52 = .ok (.iload_n 2, 1) := by decide +kernel
theorem dX7_ofSide_53 : decode cX7_ofSide 53 = .ok (.iadd, 1) := by decide +kernel
theorem dX7_ofSide_54 : decode cX7_ofSide 54 = .ok (.iaload, 1) := by decide +kernel
theorem dX7_ofSide_55 : decode cX7_ofSide 55 = .ok (.ireturn, 1) := by decide +kernel
theorem dX7_ofSide_56 : decode cX7_ofSide 56 = .ok (.bipush (-9), 2) := by decide +kernel
theorem dX7_ofSide_58 : decode cX7_ofSide 58 = .ok (.istore 4, 2) := by decide +kernel
theorem dX7_ofSide_60 : decode cX7_ofSide 60 = .ok (.bipush (-9), 2) := by decide +kernel
theorem dX7_ofSide_62 : decode cX7_ofSide 62 = .ok (.istore 5, 2) := by decide +kernel
theorem dX7_ofSide_64 : decode cX7_ofSide 64 = .ok (.bipush (-9), 2) := by decide +kernel
theorem dX7_ofSide_66 : decode cX7_ofSide 66 = .ok (.istore 6, 2) := by decide +kernel
theorem dX7_ofSide_68 : decode cX7_ofSide 68 = .ok (.iconst 0, 1) := by decide +kernel
theorem dX7_ofSide_69 : decode cX7_ofSide 69 = .ok (.istore 7, 2) := by decide +kernel
theorem dX7_ofSide_71 : decode cX7_ofSide 71 = .ok (.iload 7, 2) := by decide +kernel
theorem dX7_ofSide_73 : decode cX7_ofSide 73 = .ok (.aload_n 0, 1) := by decide +kernel
theorem dX7_ofSide_74 : decode cX7_ofSide 74 = .ok (.iload_n 1, 1) := by decide +kernel
theorem dX7_ofSide_75 : decode cX7_ofSide 75 = .ok (.invokevirtual 119, 3) := by decide +kernel
theorem dX7_ofSide_78 : decode cX7_ofSide 78 = .ok (.if_icmp .ge 74, 3) := by decide +kernel
theorem dX7_ofSide_81 : decode cX7_ofSide 81 = .ok (.iconst 0, 1) := by decide +kernel
theorem dX7_ofSide_82 : decode cX7_ofSide 82 = .ok (.istore 8, 2) := by decide +kernel
theorem dX7_ofSide_84 : decode cX7_ofSide 84 = .ok (.iload 8, 2) := by decide +kernel
theorem dX7_ofSide_86 : decode cX7_ofSide 86 = .ok (.iconst 3, 1) := by decide +kernel
theorem dX7_ofSide_87 : decode cX7_ofSide 87 = .ok (.if_icmp .ge 59, 3) := by decide +kernel
theorem dX7_ofSide_90 : decode cX7_ofSide 90 = .ok (.aload_n 0, 1) := by decide +kernel
theorem dX7_ofSide_91 : decode cX7_ofSide 91 = .ok (.iload_n 1, 1) := by decide +kernel
theorem dX7_ofSide_92 : decode cX7_ofSide 92 = .ok (.iload 7, 2) := by decide +kernel
theorem dX7_ofSide_94 : decode cX7_ofSide 94 = .ok (.iload 8, 2) := by decide +kernel
theorem dX7_ofSide_96 : decode cX7_ofSide 96 = .ok (.invokevirtual 159, 3) := by decide +kernel
theorem dX7_ofSide_99 : decode cX7_ofSide 99 = .ok (.iload_n 2, 1) := by decide +kernel
theorem dX7_ofSide_100 : decode cX7_ofSide 100 = .ok (.if_icmp .ne 40, 3) := by decide +kernel
theorem dX7_ofSide_103 : decode cX7_ofSide 103 = .ok (.iload 8, 2) := by decide +kernel
theorem dX7_ofSide_105 : decode cX7_ofSide 105 = .ok (.istore 6, 2) := by decide +kernel
theorem dX7_ofSide_107 : decode cX7_ofSide 107 = .ok (.iload 7, 2) := by decide +kernel
theorem dX7_ofSide_109 : decode cX7_ofSide 109 = .ok (.iconst 2, 1) := by decide +kernel
theorem dX7_ofSide_110 : decode cX7_ofSide 110 = .ok (.irem, 1) := by decide +kernel
theorem dX7_ofSide_111 : decode cX7_ofSide 111 = .ok (.ifCond .ne 8, 3) := by decide +kernel
theorem dX7_ofSide_114 : decode cX7_ofSide 114 = .ok (.iload 7, 2) := by decide +kernel
theorem dX7_ofSide_116 : decode cX7_ofSide 116 = .ok (.goto 5, 3) := by decide +kernel
theorem dX7_ofSide_119 : decode cX7_ofSide 119 = .ok (.iload 4, 2) := by decide +kernel
theorem dX7_ofSide_121 : decode cX7_ofSide 121 = .ok (.istore 4, 2) := by decide +kernel
theorem dX7_ofSide_123 : decode cX7_ofSide 123 = .ok (.iload 7, 2) := by decide +kernel
theorem dX7_ofSide_125 : decode cX7_ofSide 125 = .ok (.iconst 2, 1) := by decide +kernel
theorem dX7_ofSide_126 : decode cX7_ofSide 126 = .ok (.irem, 1) := by decide +kernel
theorem dX7_ofSide_127 : decode cX7_ofSide 127 = .ok (.iconst 1, 1) := by decide +kernel
theorem dX7_ofSide_128 : decode cX7_ofSide 128 = .ok (.if_icmp .ne 8, 3) := by decide +kernel
theorem dX7_ofSide_131 : decode cX7_ofSide 131 = .ok (.iload 7, 2) := by decide +kernel
theorem dX7_ofSide_133 : decode cX7_ofSide 133 = .ok (.goto 5, 3) := by decide +kernel
theorem dX7_ofSide_136 : decode cX7_ofSide 136 = .ok (.iload 5, 2) := by decide +kernel
theorem dX7_ofSide_138 : decode cX7_ofSide 138 = .ok (.istore 5, 2) := by decide +kernel
theorem dX7_ofSide_140 : decode cX7_ofSide 140 = .ok (.iinc 8 1, 3) := by decide +kernel
theorem dX7_ofSide_143 : decode cX7_ofSide 143 = .ok (.goto (-59), 3) := by decide +kernel
theorem dX7_ofSide_146 : decode cX7_ofSide 146 = .ok (.iinc 7 1, 3) := by decide +kernel
theorem dX7_ofSide_149 : decode cX7_ofSide 149 = .ok (.goto (-78), 3) := by decide +kernel
theorem dX7_ofSide_152 : decode cX7_ofSide 152 = .ok (.iload_n 3, 1) := by decide +kernel
theorem dX7_ofSide_153 : decode cX7_ofSide 153 = .ok (.iconst 1, 1) := by decide +kernel
theorem dX7_ofSide_154 : decode cX7_ofSide 154 = .ok (.if_icmp .ne 8, 3) := by decide +kernel
theorem dX7_ofSide_157 : decode cX7_ofSide 157 = .ok (.iload 6, 2) := by decide +kernel
theorem dX7_ofSide_159 : decode cX7_ofSide 159 = .ok (.goto 15, 3) := by decide +kernel
theorem dX7_ofSide_162 : decode cX7_ofSide 162 = .ok (.iload_n 3, 1) := by decide +kernel
theorem dX7_ofSide_163 : decode cX7_ofSide 163 = .ok (.iconst 2, 1) := by decide +kernel
theorem dX7_ofSide_164 : decode cX7_ofSide 164 = .ok (.if_icmp .ne 8, 3) := by decide +kernel
theorem dX7_ofSide_167 : decode cX7_ofSide 167 = .ok (.iload 4, 2) := by decide +kernel
theorem dX7_ofSide_169 : decode cX7_ofSide 169 = .ok (.goto 5, 3) := by decide +kernel
theorem dX7_ofSide_172 : decode cX7_ofSide 172 = .ok (.iload 5, 2) := by decide +kernel
theorem dX7_ofSide_174 : decode cX7_ofSide 174 = .ok (.ireturn, 1) := by decide +kernel
theorem dX7_side_0 : decode cX7_side 0 = .ok (.aload_n 0, 1) := by decide +kernel
theorem dX7_side_1 : decode cX7_side 1 = .ok (.iload_n 1, 1) := by decide +kernel
theorem dX7_side_2 : decode cX7_side 2 = .ok (.iload_n 2, 1) := by decide +kernel
theorem dX7_side_3 : decode cX7_side 3 = .ok (.invokevirtual 163, 3) := by decide +kernel
theorem dX7_side_6 : decode cX7_side 6 = .ok (.ifCond .ne 5, 3) := by decide +kernel
theorem dX7_side_9 : decode cX7_side 9 = .ok (.iconst (-1), 1) := by decide +kernel
theorem dX7_side_10 : decode cX7_side 10 = .ok (.ireturn, 1) := by decide +kernel
theorem dX7_side_11 : decode cX7_side 11 = .ok (.iload_n 3, 1) := by decide +kernel
theorem dX7_side_12 : decode cX7_side 12 = .ok (.iconst 0, 1) := by decide +kernel
theorem dX7_side_13 : decode cX7_side 13 = .ok (.iconst 2, 1) := by decide +kernel
theorem dX7_side_14 : decode cX7_side 14 = .ok (.invokestatic 108, 3) := by decide +kernel
theorem dX7_side_17 : decode cX7_side 17 = .ok (.ifCond .eq 13, 3) := by decide +kernel
theorem dX7_side_20 : decode cX7_side 20 = .ok (.aload_n 0, 1) := by decide +kernel
theorem dX7_side_21 : decode cX7_side 21 = .ok (.iload_n 1, 1) := by decide +kernel
theorem dX7_side_22 : decode cX7_side 22 = .ok (.iload_n 2, 1) := by decide +kernel
theorem dX7_side_23 : decode cX7_side 23 = .ok (.iload_n 3, 1) := by decide +kernel
theorem dX7_side_24 : decode cX7_side 24 = .ok (.invokevirtual 159, 3) := by decide +kernel
theorem dX7_side_27 : decode cX7_side 27 = .ok (.goto 5, 3) := by decide +kernel
theorem dX7_side_30 : decode cX7_side 30 = .ok (.bipush (-2), 2) := by decide +kernel
theorem dX7_side_32 : decode cX7_side 32 = .ok (.ireturn, 1) := by decide +kernel
theorem dX7_pane_0 : decode cX7_pane 0 = .ok (.aload_n 0, 1) := by decide +kernel
theorem dX7_pane_1 : decode cX7_pane 1 = .ok (.iload_n 1, 1) := by decide +kernel
theorem dX7_pane_2 : decode cX7_pane 2 = .ok (.iload_n 2, 1) := by decide +kernel
theorem dX7_pane_3 : decode cX7_pane 3 = .ok (.invokevirtual 155, 3) := by decide +kernel
theorem dX7_pane_6 : decode cX7_pane 6 = .ok (.ifCond .ne 5, 3) := by decide +kernel
theorem dX7_pane_9 : decode cX7_pane 9 = .ok (.iconst (-1), 1) := by decide +kernel
theorem dX7_pane_10 : decode cX7_pane 10 = .ok (.ireturn, 1) := by decide +kernel
theorem dX7_pane_11 : decode cX7_pane 11 = .ok (.iload_n 3, 1) := by decide +kernel
theorem dX7_pane_12 : decode cX7_pane 12 = .ok (.iconst 0, 1) := by decide +kernel
theorem dX7_pane_13 : decode cX7_pane 13 = .ok (.iconst 2, 1) := by decide +kernel
theorem dX7_pane_14 : decode cX7_pane 14 = .ok (.invokestatic 108, 3) := by decide +kernel
theorem dX7_pane_17 : decode cX7_pane 17 = .ok (.ifCond .ne 6, 3) := by decide +kernel
theorem dX7_pane_20 : decode cX7_pane 20 = .ok (.bipush (-2), 2) := by decide +kernel
theorem dX7_pane_22 : decode cX7_pane 22 = .ok (.ireturn, 1) := by decide +kernel
theorem dX7_pane_23 : decode cX7_pane 23 = .ok (.bipush 50, 2) := by decide +kernel
theorem dX7_pane_25 : decode cX7_pane 25 = .ok (.iload_n 1, 1) := by decide +kernel
theorem dX7_pane_26 : decode cX7_pane 26 = .ok (.imul, 1) := by decide +kernel
theorem dX7_pane_27 : decode cX7_pane 27 = .ok (.iload_n 2, 1) := by decide +kernel
theorem dX7_pane_28 : decode cX7_pane 28 = .ok (.iadd, 1) := by decide +kernel
theorem dX7_pane_29 : decode cX7_pane 29 = .ok (.istore 4, 2) := by decide +kernel
theorem dX7_pane_31 : decode cX7_pane 31 = .ok (.aload_n 0, 1) := by decide +kernel
theorem dX7_pane_32 : decode cX7_pane 32 = .ok (.getfield 25, 3) := by decide +kernel
theorem dX7_pane_35 : decode cX7_pane 35 = .ok (.iload 4, 2) := by decide +kernel
theorem dX7_pane_37 : decode cX7_pane 37 = .ok (.iaload, 1) := by decide +kernel
theorem dX7_pane_38 : decode cX7_pane 38 = .ok (.istore 5, 2) := by decide +kernel
theorem dX7_pane_40 : decode cX7_pane 40 = .ok (.iload 5, 2) := by decide +kernel
theorem dX7_pane_42 : decode cX7_pane 42 = .ok (.iload_n 3, 1) := by decide +kernel
theorem dX7_pane_43 : decode cX7_pane 43 = .ok (.if_icmp .eq 11, 3) := by decide +kernel
theorem dX7_pane_46 : decode cX7_pane 46 = .ok (.aload_n 0, 1) := by decide +kernel
theorem dX7_pane_47 : decode cX7_pane 47 = .ok (.getfield 28, 3) := by decide +kernel
theorem dX7_pane_50 : decode cX7_pane 50 = .ok (.iload 4, 2) := by decide +kernel
theorem dX7_pane_52 : decode cX7_pane 52 = .ok (.iconst 0, 1) := by decide +kernel
theorem dX7_pane_53 : decode cX7_pane 53 = .ok (.iastore, 1) := by decide +kernel
theorem dX7_pane_54 : decode cX7_pane 54 = .ok (.aload_n 0, 1) := by decide +kernel
theorem dX7_pane_55 : decode cX7_pane 55 = .ok (.getfield 25, 3) := by decide +kernel
theorem dX7_pane_58 : decode cX7_pane 58 = .ok (.iload 4, 2) := by decide +kernel
theorem dX7_pane_60 : decode cX7_pane 60 = .ok (.iload_n 3, 1) := by decide +kernel
theorem dX7_pane_61 : decode cX7_pane 61 = .ok (.iastore, 1) := by decide +kernel
theorem dX7_pane_62 : decode cX7_pane 62 = .ok (.iload 5, 2) := by decide +kernel
theorem dX7_pane_64 : decode cX7_pane 64 = .ok (.ireturn, 1) := by decide +kernel
theorem dX7_isTurn_0 : decode cX7_isTurn 0 = .ok (.iload_n 0, 1) := by decide +kernel
theorem dX7_isTurn_1 : decode cX7_isTurn 1 = .ok (.bipush (-60), 2) := by decide +kernel
theorem dX7_isTurn_3 : decode cX7_isTurn 3 = .ok (.bipush 60, 2) := by decide +kernel
theorem dX7_isTurn_5 : decode cX7_isTurn 5 = .ok (.invokestatic 108, 3) := by decide +kernel
theorem dX7_isTurn_8 : decode cX7_isTurn 8 = .ok (.ifCond .eq 26, 3) := by decide +kernel
theorem dX7_isTurn_11 : decode cX7_isTurn 11 = .ok (.iload_n 1, 1) := by decide +kernel
theorem dX7_isTurn_12 : decode cX7_isTurn 12 = .ok (.bipush (-60), 2) := by decide +kernel
theorem dX7_isTurn_14 : decode cX7_isTurn 14 = .ok (.bipush 60, 2) := by decide +kernel
theorem dX7_isTurn_16 : decode cX7_isTurn 16 = .ok (.invokestatic 108, 3) := by decide +kernel
theorem dX7_isTurn_19 : decode cX7_isTurn 19 = .ok (.ifCond .eq 15, 3) := by decide +kernel
theorem dX7_isTurn_22 : decode cX7_isTurn 22 = .ok (.iload_n 0, 1) := by decide +kernel
theorem dX7_isTurn_23 : decode cX7_isTurn 23 = .ok (.ifCond .ne 7, 3) := by decide +kernel
theorem dX7_isTurn_26 : decode cX7_isTurn 26 = .ok (.iload_n 1, 1) := by decide +kernel
theorem dX7_isTurn_27 : decode cX7_isTurn 27 = .ok (.ifCond .eq 7, 3) := by decide +kernel
theorem dX7_isTurn_30 : decode cX7_isTurn 30 = .ok (.iconst 1, 1) := by decide +kernel
theorem dX7_isTurn_31 : decode cX7_isTurn 31 = .ok (.goto 4, 3) := by decide +kernel
theorem dX7_isTurn_34 : decode cX7_isTurn 34 = .ok (.iconst 0, 1) := by decide +kernel
theorem dX7_isTurn_35 : decode cX7_isTurn 35 = .ok (.ireturn, 1) := by decide +kernel
theorem dX7_setOut_0 : decode cX7_setOut 0 = .ok (.iload_n 1, 1) := by decide +kernel
theorem dX7_setOut_1 : decode cX7_setOut 1 = .ok (.iconst 2, 1) := by decide +kernel
theorem dX7_setOut_2 : decode cX7_setOut 2 = .ok (.irem, 1) := by decide +kernel
theorem dX7_setOut_3 : decode cX7_setOut 3 = .ok (.ifCond .ne 7, 3) := by decide +kernel
theorem dX7_setOut_6 : decode cX7_setOut 6 = .ok (.iconst 1, 1) := by decide +kernel
theorem dX7_setOut_7 : decode cX7_setOut 7 = .ok (.goto 4, 3) := by decide +kernel
theorem dX7_setOut_10 : decode cX7_setOut 10 = .ok (.iconst 2, 1) := by decide +kernel
theorem dX7_setOut_11 : decode cX7_setOut 11 = .ok (.istore 4, 2) := by decide +kernel
theorem dX7_setOut_13 : decode cX7_setOut 13 = .ok (.iconst 0, 1) := by decide +kernel
theorem dX7_setOut_14 : decode cX7_setOut 14 = .ok (.istore 5, 2) := by decide +kernel
theorem dX7_setOut_16 : decode cX7_setOut 16 = .ok (.iload 5, 2) := by decide +kernel
theorem dX7_setOut_18 : decode cX7_setOut 18 = .ok (.iconst 3, 1) := by decide +kernel
theorem dX7_setOut_19 : decode cX7_setOut 19 = .ok (.if_icmp .ge 102, 3) := by decide +kernel
theorem dX7_setOut_22 : decode cX7_setOut 22 = .ok (.iload 5, 2) := by decide +kernel
theorem dX7_setOut_24 : decode cX7_setOut 24 = .ok (.ifCond .ne 7, 3) := by decide +kernel
theorem dX7_setOut_27 : decode cX7_setOut 27 = .ok (.iload_n 3, 1) := by decide +kernel
theorem dX7_setOut_28 : decode cX7_setOut 28 = .ok (.goto 16, 3) := by decide +kernel
theorem dX7_setOut_31 : decode cX7_setOut 31 = .ok (.iload 5, 2) := by decide +kernel
theorem dX7_setOut_33 : decode cX7_setOut 33 = .ok (.iconst 1, 1) := by decide +kernel
theorem dX7_setOut_34 : decode cX7_setOut 34 = .ok (.if_icmp .ne 7, 3) := by decide +kernel
theorem dX7_setOut_37 : decode cX7_setOut 37 = .ok (.iload_n 2, 1) := by decide +kernel
theorem dX7_setOut_38 : decode cX7_setOut 38 = .ok (.goto 6, 3) := by decide +kernel
theorem dX7_setOut_41 : decode cX7_setOut 41 = .ok (.iload_n 2, 1) := by decide +kernel
theorem dX7_setOut_42 : decode cX7_setOut 42 = .ok (.iload_n 3, 1) := by decide +kernel
theorem dX7_setOut_43 : decode cX7_setOut 43 = .ok (.iadd, 1) := by decide +kernel
theorem dX7_setOut_44 : decode cX7_setOut 44 = .ok (.istore 6, 2) := by decide +kernel
theorem dX7_setOut_46 : decode cX7_setOut 46 = .ok (.iload 5, 2) := by decide +kernel
theorem dX7_setOut_48 : decode cX7_setOut 48 = .ok (.iconst 2, 1) := by decide +kernel
theorem dX7_setOut_49 : decode cX7_setOut 49 = .ok (.if_icmp .ne 12, 3) := by decide +kernel
theorem dX7_setOut_52 : decode cX7_setOut 52 = .ok (.iconst 2, 1) := by decide +kernel
theorem dX7_setOut_53 : decode cX7_setOut 53 = .ok (.iload 4, 2) := by decide +kernel
theorem dX7_setOut_55 : decode cX7_setOut 55 = .ok (.imul, 1) := by decide +kernel
theorem dX7_setOut_56 : decode cX7_setOut 56 = .ok (.iconst 3, 1) := by decide +kernel
theorem dX7_setOut_57 : decode cX7_setOut 57 = .ok (.irem, 1) := by decide +kernel
theorem dX7_setOut_58 : decode cX7_setOut 58 = .ok (.goto 5, 3) := by decide +kernel
theorem dX7_setOut_61 : decode cX7_setOut 61 = .ok (.iload 4, 2) := by decide +kernel
theorem dX7_setOut_63 : decode cX7_setOut 63 = .ok (.istore 7, 2) := by decide +kernel
theorem dX7_setOut_65 : decode cX7_setOut 65 = .ok (.aload_n 0, 1) := by decide +kernel
theorem dX7_setOut_66 : decode cX7_setOut 66 = .ok (.getfield 34, 3) := by decide +kernel
theorem dX7_setOut_69 : decode cX7_setOut 69 = .ok (.iload 5, 2) := by decide +kernel
theorem dX7_setOut_71 : decode cX7_setOut 71 = .ok (.iload 6, 2) := by decide +kernel
theorem dX7_setOut_73 : decode cX7_setOut 73 = .ok (.ifCond .ge 9, 3) := by decide +kernel
theorem dX7_setOut_76 : decode cX7_setOut 76 = .ok (.iload 6, 2) := by decide +kernel
theorem dX7_setOut_78 : decode cX7_setOut 78 = .ok (.ineg, 1) := by decide +kernel
theorem dX7_setOut_79 : decode cX7_setOut 79 = .ok (.goto 5, 3) := by decide +kernel
theorem dX7_setOut_82 : decode cX7_setOut 82 = .ok (.iload 6, 2) := by decide +kernel
theorem dX7_setOut_84 : decode cX7_setOut 84 = .ok (.iastore, 1) := by decide +kernel
theorem dX7_setOut_85 : decode cX7_setOut 85 = .ok (.aload_n 0, 1) := by decide +kernel
theorem dX7_setOut_86 : decode cX7_setOut 86 = .ok (.getfield 31, 3) := by decide +kernel
theorem dX7_setOut_89 : decode cX7_setOut 89 = .ok (.iload 5, 2) := by decide +kernel
theorem dX7_setOut_91 : decode cX7_setOut 91 = .ok (.iload 6, 2) := by decide +kernel
theorem dX7_setOut_93 : decode cX7_setOut 93 = .ok (.ifCond .ge 8, 3) := by decide +kernel
theorem dX7_setOut_96 : decode cX7_setOut 96 = .ok (.iload 7, 2) := by decide +kernel
theorem dX7_setOut_98 : decode cX7_setOut 98 = .ok (.goto 7, 3) := by decide +kernel
theorem dX7_setOut_101 : decode cX7_setOut 101 = .ok (.iconst 3, 1) := by decide +kernel
theorem dX7_setOut_102 : decode cX7_setOut 102 = .ok (.iload 7, 2) := by decide +kernel
theorem dX7_setOut_104 : decode cX7_setOut 104 = .ok (.isub, 1) := by decide +kernel
theorem dX7_setOut_105 : decode cX7_setOut 105 = .ok (.iastore, 1) := by decide +kernel
theorem dX7_setOut_106 : decode cX7_setOut 106 = .ok (.aload_n 0, 1) := by decide +kernel
theorem dX7_setOut_107 : decode cX7_setOut 107 = .ok (.getfield 37, 3) := by decide +kernel
theorem dX7_setOut_110 : decode cX7_setOut 110 = .ok (.iload 5, 2) := by decide +kernel
theorem dX7_setOut_112 : decode cX7_setOut 112 = .ok (.iload 5, 2) := by decide +kernel
theorem dX7_setOut_114 : decode cX7_setOut 114 = .ok (.iastore, 1) := by decide +kernel
theorem dX7_setOut_115 : decode cX7_setOut 115 = .ok (.iinc 5 1, 3) := by decide +kernel
theorem dX7_setOut_118 : decode cX7_setOut 118 = .ok (.goto (-102), 3) := by decide +kernel
theorem dX7_setOut_121 : decode cX7_setOut 121 = .ok (.aload_n 0, 1) := by decide +kernel
theorem dX7_setOut_122 : decode cX7_setOut 122 = .ok (.iload_n 1, 1) := by decide +kernel
theorem dX7_setOut_123 : decode cX7_setOut 123 = .ok (.putfield 166, 3) := by decide +kernel
theorem dX7_setOut_126 : decode cX7_setOut 126 = .ok (.aload_n 0, 1) := by decide +kernel
theorem dX7_setOut_127 : decode cX7_setOut 127 = .ok (.iconst 0, 1) := by decide +kernel
theorem dX7_setOut_128 : decode cX7_setOut 128 = .ok (.putfield 169, 3) := by decide +kernel
theorem dX7_setOut_131 : decode cX7_setOut 131 = .ok (.aload_n 0, 1) := by decide +kernel
theorem dX7_setOut_132 : decode cX7_setOut 132 = .ok (.iconst 0, 1) := by decide +kernel
theorem dX7_setOut_133 : decode cX7_setOut 133 = .ok (.putfield 172, 3) := by decide +kernel
theorem dX7_setOut_136 : decode cX7_setOut 136 = .ok (.aload_n 0, 1) := by decide +kernel
theorem dX7_setOut_137 : decode cX7_setOut 137 = .ok (.bipush (-9), 2) := by decide +kernel
theorem dX7_setOut_139 : decode cX7_setOut 139 = .ok (.putfield 175, 3) := by decide +kernel
theorem dX7_setOut_142 : decode cX7_setOut 142 = .ok (.aload_n 0, 1) := by decide +kernel
theorem dX7_setOut_143 : decode cX7_setOut 143 = .ok (.iconst 2, 1) := by decide +kernel
theorem dX7_setOut_144 : decode cX7_setOut 144 = .ok (.putfield 178, 3) := by decide +kernel
theorem dX7_setOut_147 : decode cX7_setOut 147 = .ok (.return_, 1) := by decide +kernel
theorem dX7_nextWay_0 : decode cX7_nextWay 0 = .ok (.bipush (-9), 2) := by decide +kernel
theorem dX7_nextWay_2 : decode cX7_nextWay 2 = .ok (.istore_n 1, 1) := by decide +kernel
theorem dX7_nextWay_3 : decode cX7_nextWay 3 = .ok (.iconst 0, 1) := by decide +kernel
theorem dX7_nextWay_4 : decode cX7_nextWay 4 = .ok (.istore_n 2, 1) := by decide +kernel
theorem dX7_nextWay_5 : decode cX7_nextWay 5 = .ok (.iconst 0, 1) := by decide +kernel
theorem dX7_nextWay_6 : decode cX7_nextWay 6 = .ok (.istore_n 3, 1) := by decide +kernel
theorem dX7_nextWay_7 : decode cX7_nextWay 7 = .ok (.iload_n 3, 1) := by decide +kernel
theorem dX7_nextWay_8 : decode cX7_nextWay 8 = .ok (.iconst 3, 1) := by decide +kernel
theorem dX7_nextWay_9 : decode cX7_nextWay 9 = .ok (.if_icmp .ge 85, 3) := by decide +kernel
theorem dX7_nextWay_12 : decode cX7_nextWay 12 = .ok (.aload_n 0, 1) := by decide +kernel
theorem dX7_nextWay_13 : decode cX7_nextWay 13 = .ok (.getfield 34, 3) := by decide +kernel
theorem dX7_nextWay_16 : decode cX7_nextWay 16 = .ok (.iload_n 3, 1) := by decide +kernel
theorem dX7_nextWay_17 : decode cX7_nextWay 17 = .ok (.iaload, 1) := by decide +kernel
theorem dX7_nextWay_18 : decode cX7_nextWay 18 = .ok (.ifCond .ne 6, 3) := by decide +kernel
theorem dX7_nextWay_21 : decode cX7_nextWay 21 = .ok (.goto 67, 3) := by decide +kernel
theorem dX7_nextWay_24 : decode cX7_nextWay 24 = .ok (.iload_n 1, 1) := by decide +kernel
theorem dX7_nextWay_25 : decode cX7_nextWay 25 = .ok (.bipush (-9), 2) := by decide +kernel
theorem dX7_nextWay_27 : decode cX7_nextWay 27 = .ok (.if_icmp .ne 8, 3) := by decide +kernel
theorem dX7_nextWay_30 : decode cX7_nextWay 30 = .ok (.iload_n 3, 1) := by decide +kernel
theorem dX7_nextWay_31 : decode cX7_nextWay 31 = .ok (.istore_n 1, 1) := by decide +kernel
theorem dX7_nextWay_32 : decode cX7_nextWay 32 = .ok (.goto 56, 3) := by decide +kernel
theorem dX7_nextWay_35 : decode cX7_nextWay 35 = .ok (.aload_n 0, 1) := by decide +kernel
theorem dX7_nextWay_36 : decode cX7_nextWay 36 = .ok (.getfield 31, 3) := by decide +kernel
theorem dX7_nextWay_39 : decode cX7_nextWay 39 = .ok (.iload_n 3, 1) := by decide +kernel
theorem dX7_nextWay_40 : decode cX7_nextWay 40 = .ok (.iaload, 1) := by decide +kernel
theorem dX7_nextWay_41 : decode cX7_nextWay 41 = .ok (.aload_n 0, 1) := by decide +kernel
theorem dX7_nextWay_42 : decode cX7_nextWay 42 = .ok (.getfield 34, 3) := by decide +kernel
theorem dX7_nextWay_45 : decode cX7_nextWay 45 = .ok (.iload_n 1, 1) := by decide +kernel
theorem dX7_nextWay_46 : decode cX7_nextWay 46 = .ok (.iaload, 1) := by decide +kernel
theorem dX7_nextWay_47 : decode cX7_nextWay 47 = .ok (.imul, 1) := by decide +kernel
theorem dX7_nextWay_48 : decode cX7_nextWay 48 = .ok (.istore 4, 2) := by decide +kernel
theorem dX7_nextWay_50 : decode cX7_nextWay 50 = .ok (.aload_n 0, 1) := by decide +kernel
theorem dX7_nextWay_51 : decode cX7_nextWay 51 = .ok (.getfield 31, 3) := by decide +kernel
theorem dX7_nextWay_54 : decode cX7_nextWay 54 = .ok (.iload_n 1, 1) := by decide +kernel
theorem dX7_nextWay_55 : decode cX7_nextWay 55 = .ok (.iaload, 1) := by decide +kernel
theorem dX7_nextWay_56 : decode cX7_nextWay 56 = .ok (.aload_n 0, 1) := by decide +kernel
theorem dX7_nextWay_57 : decode cX7_nextWay 57 = .ok (.getfield 34, 3) := by decide +kernel
theorem dX7_nextWay_60 : decode cX7_nextWay 60 = .ok (.iload_n 3, 1) := by decide +kernel
theorem dX7_nextWay_61 : decode cX7_nextWay 61 = .ok (.iaload, 1) := by decide +kernel
theorem dX7_nextWay_62 : decode cX7_nextWay 62 = .ok (.imul, 1) := by decide +kernel
theorem dX7_nextWay_63 : decode cX7_nextWay 63 = .ok (.istore 5, 2) := by decide +kernel
theorem dX7_nextWay_65 : decode cX7_nextWay 65 = .ok (.iload 4, 2) := by decide +kernel
theorem dX7_nextWay_67 : decode cX7_nextWay 67 = .ok (.iload 5, 2) := by decide +kernel
theorem dX7_nextWay_69 : decode cX7_nextWay 69 = .ok (.if_icmp .ge 10, 3) := by decide +kernel
theorem dX7_nextWay_72 : decode cX7_nextWay 72 = .ok (.iload_n 3, 1) := by decide +kernel
theorem dX7_nextWay_73 : decode cX7_nextWay 73 = .ok (.istore_n 1, 1) := by decide +kernel
theorem dX7_nextWay_74 : decode cX7_nextWay 74 = .ok (.iconst 0, 1) := by decide +kernel
theorem dX7_nextWay_75 : decode cX7_nextWay 75 = .ok (.istore_n 2, 1) := by decide +kernel
theorem dX7_nextWay_76 : decode cX7_nextWay 76 = .ok (.goto 12, 3) := by decide +kernel
theorem dX7_nextWay_79 : decode cX7_nextWay 79 = .ok (.iload 4, 2) := by decide +kernel
theorem dX7_nextWay_81 : decode cX7_nextWay 81 = .ok (.iload 5, 2) := by decide +kernel
theorem dX7_nextWay_83 : decode cX7_nextWay 83 = .ok (.if_icmp .ne 5, 3) := by decide +kernel
theorem dX7_nextWay_86 : decode cX7_nextWay 86 = .ok (.iconst 1, 1) := by decide +kernel
theorem dX7_nextWay_87 : decode cX7_nextWay 87 = .ok (.istore_n 2, 1) := by decide +kernel
theorem dX7_nextWay_88 : decode cX7_nextWay 88 = .ok (.iinc 3 1, 3) := by decide +kernel
theorem dX7_nextWay_91 : decode cX7_nextWay 91 = .ok (.goto (-84), 3) := by decide +kernel
theorem dX7_nextWay_94 : decode cX7_nextWay 94 = .ok (.iload_n 2, 1) := by decide +kernel
theorem dX7_nextWay_95 : decode cX7_nextWay 95 = .ok (.ifCond .eq 8, 3) := by decide +kernel
theorem dX7_nextWay_98 : decode cX7_nextWay 98 = .ok (.bipush (-9), 2) := by decide +kernel
theorem dX7_nextWay_100 : decode cX7_nextWay 100 = .ok (.goto 4, 3) := by decide +kernel
theorem dX7_nextWay_103 : decode cX7_nextWay 103 = .ok (.iload_n 1, 1) := by decide +kernel
theorem dX7_nextWay_104 : decode cX7_nextWay 104 = .ok (.ireturn, 1) := by decide +kernel
theorem dX7_cross_0 : decode cX7_cross 0 = .ok (.aload_n 0, 1) := by decide +kernel
theorem dX7_cross_1 : decode cX7_cross 1 = .ok (.invokevirtual 181, 3) := by decide +kernel
theorem dX7_cross_4 : decode cX7_cross 4 = .ok (.istore_n 2, 1) := by decide +kernel
theorem dX7_cross_5 : decode cX7_cross 5 = .ok (.iload_n 2, 1) := by decide +kernel
theorem dX7_cross_6 : decode cX7_cross 6 = .ok (.bipush (-9), 2) := by decide +kernel
theorem dX7_cross_8 : decode cX7_cross 8 = .ok (.if_icmp .ne 9, 3) := by decide +kernel
theorem dX7_cross_11 : decode cX7_cross 11 = .ok (.aload_n 0, 1) := by decide +kernel
theorem dX7_cross_12 : decode cX7_cross 12 = .ok (.iconst 0, 1) := by decide +kernel
theorem dX7_cross_13 : decode cX7_cross 13 = .ok (.putfield 178, 3) := by decide +kernel
theorem dX7_cross_16 : decode cX7_cross 16 = .ok (.return_, 1) := by decide +kernel
theorem dX7_cross_17 : decode cX7_cross 17 = .ok (.aload_n 0, 1) := by decide +kernel
theorem dX7_cross_18 : decode cX7_cross 18 = .ok (.getfield 31, 3) := by decide +kernel
theorem dX7_cross_21 : decode cX7_cross 21 = .ok (.iload_n 2, 1) := by decide +kernel
theorem dX7_cross_22 : decode cX7_cross 22 = .ok (.dup2, 1) := by decide +kernel
theorem dX7_cross_23 : decode cX7_cross 23 = .ok (.iaload, 1) := by decide +kernel
theorem dX7_cross_24 : decode cX7_cross 24 = .ok (.iconst 3, 1) := by decide +kernel
theorem dX7_cross_25 : decode cX7_cross 25 = .ok (.iadd, 1) := by decide +kernel
theorem dX7_cross_26 : decode cX7_cross 26 = .ok (.iastore, 1) := by decide +kernel
theorem dX7_cross_27 : decode cX7_cross 27 = .ok (.aload_n 0, 1) := by decide +kernel
theorem dX7_cross_28 : decode cX7_cross 28 = .ok (.dup, 1) := by decide +kernel
theorem dX7_cross_29 : decode cX7_cross 29 = .ok (.getfield 169, 3) := by decide +kernel
theorem dX7_cross_32 : decode cX7_cross 32 = .ok (.iconst 1, 1) := by decide +kernel
theorem dX7_cross_33 : decode cX7_cross 33 = .ok (.iadd, 1) := by decide +kernel
theorem dX7_cross_34 : decode cX7_cross 34 = .ok (.putfield 169, 3) := by decide +kernel
theorem dX7_cross_37 : decode cX7_cross 37 = .ok (.aload_n 0, 1) := by decide +kernel
theorem dX7_cross_38 : decode cX7_cross 38 = .ok (.getfield 37, 3) := by decide +kernel
theorem dX7_cross_41 : decode cX7_cross 41 = .ok (.iload_n 2, 1) := by decide +kernel
theorem dX7_cross_42 : decode cX7_cross 42 = .ok (.iaload, 1) := by decide +kernel
theorem dX7_cross_43 : decode cX7_cross 43 = .ok (.istore_n 3, 1) := by decide +kernel
theorem dX7_cross_44 : decode cX7_cross 44 = .ok (.aload_n 0, 1) := by decide +kernel
theorem dX7_cross_45 : decode cX7_cross 45 = .ok (.aload_n 0, 1) := by decide +kernel
theorem dX7_cross_46 : decode cX7_cross 46 = .ok (.iload_n 1, 1) := by decide +kernel
theorem dX7_cross_47 : decode cX7_cross 47 = .ok (.aload_n 0, 1) := by decide +kernel
theorem dX7_cross_48 : decode cX7_cross 48 = .ok (.getfield 166, 3) := by decide +kernel
theorem dX7_cross_51 : decode cX7_cross 51 = .ok (.iload_n 3, 1) := by decide +kernel
theorem dX7_cross_52 : decode cX7_cross 52 = .ok (.invokevirtual 159, 3) := by decide +kernel
theorem dX7_cross_55 : decode cX7_cross 55 = .ok (.putfield 175, 3) := by decide +kernel
theorem dX7_cross_58 : decode cX7_cross 58 = .ok (.aload_n 0, 1) := by decide +kernel
theorem dX7_cross_59 : decode cX7_cross 59 = .ok (.getfield 25, 3) := by decide +kernel
theorem dX7_cross_62 : decode cX7_cross 62 = .ok (.bipush 50, 2) := by decide +kernel
theorem dX7_cross_64 : decode cX7_cross 64 = .ok (.iload_n 1, 1) := by decide +kernel
theorem dX7_cross_65 : decode cX7_cross 65 = .ok (.imul, 1) := by decide +kernel
theorem dX7_cross_66 : decode cX7_cross 66 = .ok (.aload_n 0, 1) := by decide +kernel
theorem dX7_cross_67 : decode cX7_cross 67 = .ok (.getfield 175, 3) := by decide +kernel
theorem dX7_cross_70 : decode cX7_cross 70 = .ok (.iadd, 1) := by decide +kernel
theorem dX7_cross_71 : decode cX7_cross 71 = .ok (.iaload, 1) := by decide +kernel
theorem dX7_cross_72 : decode cX7_cross 72 = .ok (.ifCond .ne 60, 3) := by decide +kernel
theorem dX7_cross_75 : decode cX7_cross 75 = .ok (.aload_n 0, 1) := by decide +kernel
theorem dX7_cross_76 : decode cX7_cross 76 = .ok (.dup, 1) := by decide +kernel
theorem dX7_cross_77 : decode cX7_cross 77 = .ok (.getfield 172, 3) := by decide +kernel
theorem dX7_cross_80 : decode cX7_cross 80 = .ok (.iconst 1, 1) := by decide +kernel
theorem dX7_cross_81 : decode cX7_cross 81 = .ok (.iadd, 1) := by decide +kernel
theorem dX7_cross_82 : decode cX7_cross 82 = .ok (.putfield 172, 3) := by decide +kernel
theorem dX7_cross_85 : decode cX7_cross 85 = .ok (.iload_n 2, 1) := by decide +kernel
theorem dX7_cross_86 : decode cX7_cross 86 = .ok (.iconst 1, 1) := by decide +kernel
theorem dX7_cross_87 : decode cX7_cross 87 = .ok (.iadd, 1) := by decide +kernel
theorem dX7_cross_88 : decode cX7_cross 88 = .ok (.iconst 3, 1) := by decide +kernel
theorem dX7_cross_89 : decode cX7_cross 89 = .ok (.irem, 1) := by decide +kernel
theorem dX7_cross_90 : decode cX7_cross 90 = .ok (.istore 4, 2) := by decide +kernel
theorem dX7_cross_92 : decode cX7_cross 92 = .ok (.iload_n 2, 1) := by decide +kernel
theorem dX7_cross_93 : decode cX7_cross 93 = .ok (.iconst 2, 1) := by decide +kernel
theorem dX7_cross_94 : decode cX7_cross 94 = .ok (.iadd, 1) := by decide +kernel
theorem dX7_cross_95 : decode cX7_cross 95 = .ok (.iconst 3, 1) := by decide +kernel
theorem dX7_cross_96 : decode cX7_cross 96 = .ok (.irem, 1) := by decide +kernel
theorem dX7_cross_97 : decode cX7_cross 97 = .ok (.istore 5, 2) := by decide +kernel
theorem dX7_cross_99 : decode cX7_cross 99 = .ok (.aload_n 0, 1) := by decide +kernel
theorem dX7_cross_100 : decode cX7_cross 100 = .ok (.getfield 37, 3) := by decide +kernel
theorem dX7_cross_103 : decode cX7_cross 103 = .ok (.iload 4, 2) := by decide +kernel
theorem dX7_cross_105 : decode cX7_cross 105 = .ok (.iaload, 1) := by decide +kernel
theorem dX7_cross_106 : decode cX7_cross 106 = .ok (.istore 6, 2) := by decide +kernel
theorem dX7_cross_108 : decode cX7_cross 108 = .ok (.aload_n 0, 1) := by decide +kernel
theorem dX7_cross_109 : decode cX7_cross 109 = .ok (.getfield 37, 3) := by decide +kernel
theorem dX7_cross_112 : decode cX7_cross 112 = .ok (.iload 4, 2) := by decide +kernel
theorem dX7_cross_114 : decode cX7_cross 114 = .ok (.aload_n 0, 1) := by decide +kernel
theorem dX7_cross_115 : decode cX7_cross 115 = .ok (.getfield 37, 3) := by decide +kernel
theorem dX7_cross_118 : decode cX7_cross 118 = .ok (.iload 5, 2) := by decide +kernel
theorem dX7_cross_120 : decode cX7_cross 120 = .ok (.iaload, 1) := by decide +kernel
theorem dX7_cross_121 : decode cX7_cross 121 = .ok (.iastore, 1) := by decide +kernel
theorem dX7_cross_122 : decode cX7_cross 122 = .ok (.aload_n 0, 1) := by decide +kernel
theorem dX7_cross_123 : decode cX7_cross 123 = .ok (.getfield 37, 3) := by decide +kernel
theorem dX7_cross_126 : decode cX7_cross 126 = .ok (.iload 5, 2) := by decide +kernel
theorem dX7_cross_128 : decode cX7_cross 128 = .ok (.iload 6, 2) := by decide +kernel
theorem dX7_cross_130 : decode cX7_cross 130 = .ok (.iastore, 1) := by decide +kernel
theorem dX7_cross_131 : decode cX7_cross 131 = .ok (.return_, 1) := by decide +kernel
theorem dX7_cross_132 : decode cX7_cross 132 = .ok (.aload_n 0, 1) := by decide +kernel
theorem dX7_cross_133 : decode cX7_cross 133 = .ok (.iload_n 1, 1) := by decide +kernel
theorem dX7_cross_134 : decode cX7_cross 134 = .ok (.aload_n 0, 1) := by decide +kernel
theorem dX7_cross_135 : decode cX7_cross 135 = .ok (.getfield 166, 3) := by decide +kernel
theorem dX7_cross_138 : decode cX7_cross 138 = .ok (.iload_n 3, 1) := by decide +kernel
theorem dX7_cross_139 : decode cX7_cross 139 = .ok (.invokevirtual 185, 3) := by decide +kernel
theorem dX7_cross_142 : decode cX7_cross 142 = .ok (.istore 4, 2) := by decide +kernel
theorem dX7_cross_144 : decode cX7_cross 144 = .ok (.iload 4, 2) := by decide +kernel
theorem dX7_cross_146 : decode cX7_cross 146 = .ok (.bipush (-9), 2) := by decide +kernel
theorem dX7_cross_148 : decode cX7_cross 148 = .ok (.if_icmp .ne 9, 3) := by decide +kernel
theorem dX7_cross_151 : decode cX7_cross 151 = .ok (.aload_n 0, 1) := by decide +kernel
theorem dX7_cross_152 : decode cX7_cross 152 = .ok (.iconst 1, 1) := by decide +kernel
theorem dX7_cross_153 : decode cX7_cross 153 = .ok (.putfield 178, 3) := by decide +kernel
theorem dX7_cross_156 : decode cX7_cross 156 = .ok (.return_, 1) := by decide +kernel
theorem dX7_cross_157 : decode cX7_cross 157 = .ok (.aload_n 0, 1) := by decide +kernel
theorem dX7_cross_158 : decode cX7_cross 158 = .ok (.iload 4, 2) := by decide +kernel
theorem dX7_cross_160 : decode cX7_cross 160 = .ok (.putfield 166, 3) := by decide +kernel
theorem dX7_cross_163 : decode cX7_cross 163 = .ok (.return_, 1) := by decide +kernel
theorem dX7_look_0 : decode cX7_look 0 = .ok (.aload_n 0, 1) := by decide +kernel
theorem dX7_look_1 : decode cX7_look 1 = .ok (.iload_n 2, 1) := by decide +kernel
theorem dX7_look_2 : decode cX7_look 2 = .ok (.iload_n 3, 1) := by decide +kernel
theorem dX7_look_3 : decode cX7_look 3 = .ok (.iload 4, 2) := by decide +kernel
theorem dX7_look_5 : decode cX7_look 5 = .ok (.invokevirtual 188, 3) := by decide +kernel
theorem dX7_look_8 : decode cX7_look 8 = .ok (.aload_n 0, 1) := by decide +kernel
theorem dX7_look_9 : decode cX7_look 9 = .ok (.getfield 178, 3) := by decide +kernel
theorem dX7_look_12 : decode cX7_look 12 = .ok (.iconst 2, 1) := by decide +kernel
theorem dX7_look_13 : decode cX7_look 13 = .ok (.if_icmp .ne 20, 3) := by decide +kernel
theorem dX7_look_16 : decode cX7_look 16 = .ok (.aload_n 0, 1) := by decide +kernel
theorem dX7_look_17 : decode cX7_look 17 = .ok (.getfield 169, 3) := by decide +kernel
theorem dX7_look_20 : decode cX7_look 20 = .ok (.iload 5, 2) := by decide +kernel
theorem dX7_look_22 : decode cX7_look 22 = .ok (.if_icmp .ge 11, 3) := by decide +kernel
theorem dX7_look_25 : decode cX7_look 25 = .ok (.aload_n 0, 1) := by decide +kernel
theorem dX7_look_26 : decode cX7_look 26 = .ok (.iload_n 1, 1) := by decide +kernel
theorem dX7_look_27 : decode cX7_look 27 = .ok (.invokevirtual 192, 3) := by decide +kernel
theorem dX7_look_30 : decode cX7_look 30 = .ok (.goto (-22), 3) := by decide +kernel
theorem dX7_look_33 : decode cX7_look 33 = .ok (.return_, 1) := by decide +kernel
theorem dX7_seen_0 : decode cX7_seen 0 = .ok (.aload_n 0, 1) := by decide +kernel
theorem dX7_seen_1 : decode cX7_seen 1 = .ok (.iload_n 1, 1) := by decide +kernel
theorem dX7_seen_2 : decode cX7_seen 2 = .ok (.iload_n 2, 1) := by decide +kernel
theorem dX7_seen_3 : decode cX7_seen 3 = .ok (.invokevirtual 163, 3) := by decide +kernel
theorem dX7_seen_6 : decode cX7_seen 6 = .ok (.ifCond .ne 5, 3) := by decide +kernel
theorem dX7_seen_9 : decode cX7_seen 9 = .ok (.iconst (-1), 1) := by decide +kernel
theorem dX7_seen_10 : decode cX7_seen 10 = .ok (.ireturn, 1) := by decide +kernel
theorem dX7_seen_11 : decode cX7_seen 11 = .ok (.iload_n 3, 1) := by decide +kernel
theorem dX7_seen_12 : decode cX7_seen 12 = .ok (.iload 4, 2) := by decide +kernel
theorem dX7_seen_14 : decode cX7_seen 14 = .ok (.invokestatic 196, 3) := by decide +kernel
theorem dX7_seen_17 : decode cX7_seen 17 = .ok (.ifCond .eq 25, 3) := by decide +kernel
theorem dX7_seen_20 : decode cX7_seen 20 = .ok (.iload 5, 2) := by decide +kernel
theorem dX7_seen_22 : decode cX7_seen 22 = .ok (.iconst 1, 1) := by decide +kernel
theorem dX7_seen_23 : decode cX7_seen 23 = .ok (.sipush 200, 3) := by decide +kernel
theorem dX7_seen_26 : decode cX7_seen 26 = .ok (.invokestatic 108, 3) := by decide +kernel
theorem dX7_seen_29 : decode cX7_seen 29 = .ok (.ifCond .eq 13, 3) := by decide +kernel
theorem dX7_seen_32 : decode cX7_seen 32 = .ok (.iload 6, 2) := by decide +kernel
theorem dX7_seen_34 : decode cX7_seen 34 = .ok (.iconst 0, 1) := by decide +kernel
theorem dX7_seen_35 : decode cX7_seen 35 = .ok (.iconst 3, 1) := by decide +kernel
theorem dX7_seen_36 : decode cX7_seen 36 = .ok (.invokestatic 108, 3) := by decide +kernel
theorem dX7_seen_39 : decode cX7_seen 39 = .ok (.ifCond .ne 6, 3) := by decide +kernel
theorem dX7_seen_42 : decode cX7_seen 42 = .ok (.bipush (-2), 2) := by decide +kernel
theorem dX7_seen_44 : decode cX7_seen 44 = .ok (.ireturn, 1) := by decide +kernel
theorem dX7_seen_45 : decode cX7_seen 45 = .ok (.aload_n 0, 1) := by decide +kernel
theorem dX7_seen_46 : decode cX7_seen 46 = .ok (.iload_n 1, 1) := by decide +kernel
theorem dX7_seen_47 : decode cX7_seen 47 = .ok (.iload_n 2, 1) := by decide +kernel
theorem dX7_seen_48 : decode cX7_seen 48 = .ok (.iload_n 3, 1) := by decide +kernel
theorem dX7_seen_49 : decode cX7_seen 49 = .ok (.iload 4, 2) := by decide +kernel
theorem dX7_seen_51 : decode cX7_seen 51 = .ok (.iload 5, 2) := by decide +kernel
theorem dX7_seen_53 : decode cX7_seen 53 = .ok (.invokevirtual 199, 3) := by decide +kernel
theorem dX7_seen_56 : decode cX7_seen 56 = .ok (.iload 6, 2) := by decide +kernel
theorem dX7_seen_58 : decode cX7_seen 58 = .ok (.ifCond .ne 10, 3) := by decide +kernel
theorem dX7_seen_61 : decode cX7_seen 61 = .ok (.aload_n 0, 1) := by decide +kernel
theorem dX7_seen_62 : decode cX7_seen 62 = .ok (.getfield 178, 3) := by decide +kernel
theorem dX7_seen_65 : decode cX7_seen 65 = .ok (.goto 33, 3) := by decide +kernel
theorem dX7_seen_68 : decode cX7_seen 68 = .ok (.iload 6, 2) := by decide +kernel
theorem dX7_seen_70 : decode cX7_seen 70 = .ok (.iconst 1, 1) := by decide +kernel
theorem dX7_seen_71 : decode cX7_seen 71 = .ok (.if_icmp .ne 10, 3) := by decide +kernel
theorem dX7_seen_74 : decode cX7_seen 74 = .ok (.aload_n 0, 1) := by decide +kernel
theorem dX7_seen_75 : decode cX7_seen 75 = .ok (.getfield 169, 3) := by decide +kernel
theorem dX7_seen_78 : decode cX7_seen 78 = .ok (.goto 20, 3) := by decide +kernel
theorem dX7_seen_81 : decode cX7_seen 81 = .ok (.iload 6, 2) := by decide +kernel
theorem dX7_seen_83 : decode cX7_seen 83 = .ok (.iconst 2, 1) := by decide +kernel
theorem dX7_seen_84 : decode cX7_seen 84 = .ok (.if_icmp .ne 10, 3) := by decide +kernel
theorem dX7_seen_87 : decode cX7_seen 87 = .ok (.aload_n 0, 1) := by decide +kernel
theorem dX7_seen_88 : decode cX7_seen 88 = .ok (.getfield 172, 3) := by decide +kernel
theorem dX7_seen_91 : decode cX7_seen 91 = .ok (.goto 7, 3) := by decide +kernel
theorem dX7_seen_94 : decode cX7_seen 94 = .ok (.aload_n 0, 1) := by decide +kernel
theorem dX7_seen_95 : decode cX7_seen 95 = .ok (.getfield 166, 3) := by decide +kernel
theorem dX7_seen_98 : decode cX7_seen 98 = .ok (.ireturn, 1) := by decide +kernel
theorem dX7_met_0 : decode cX7_met 0 = .ok (.aload_n 0, 1) := by decide +kernel
theorem dX7_met_1 : decode cX7_met 1 = .ok (.iload_n 1, 1) := by decide +kernel
theorem dX7_met_2 : decode cX7_met 2 = .ok (.iload_n 2, 1) := by decide +kernel
theorem dX7_met_3 : decode cX7_met 3 = .ok (.invokevirtual 163, 3) := by decide +kernel
theorem dX7_met_6 : decode cX7_met 6 = .ok (.ifCond .ne 5, 3) := by decide +kernel
theorem dX7_met_9 : decode cX7_met 9 = .ok (.iconst (-1), 1) := by decide +kernel
theorem dX7_met_10 : decode cX7_met 10 = .ok (.ireturn, 1) := by decide +kernel
theorem dX7_met_11 : decode cX7_met 11 = .ok (.iload_n 3, 1) := by decide +kernel
theorem dX7_met_12 : decode cX7_met 12 = .ok (.iload 4, 2) := by decide +kernel
theorem dX7_met_14 : decode cX7_met 14 = .ok (.invokestatic 196, 3) := by decide +kernel
theorem dX7_met_17 : decode cX7_met 17 = .ok (.ifCond .eq 8, 3) := by decide +kernel
theorem dX7_met_20 : decode cX7_met 20 = .ok (.iload 5, 2) := by decide +kernel
theorem dX7_met_22 : decode cX7_met 22 = .ok (.ifCond .ge 6, 3) := by decide +kernel
theorem dX7_met_25 : decode cX7_met 25 = .ok (.bipush (-2), 2) := by decide +kernel
theorem dX7_met_27 : decode cX7_met 27 = .ok (.ireturn, 1) := by decide +kernel
theorem dX7_met_28 : decode cX7_met 28 = .ok (.iload 5, 2) := by decide +kernel
theorem dX7_met_30 : decode cX7_met 30 = .ok (.sipush 200, 3) := by decide +kernel
theorem dX7_met_33 : decode cX7_met 33 = .ok (.if_icmp .lt 6, 3) := by decide +kernel
theorem dX7_met_36 : decode cX7_met 36 = .ok (.bipush (-9), 2) := by decide +kernel
theorem dX7_met_38 : decode cX7_met 38 = .ok (.ireturn, 1) := by decide +kernel
theorem dX7_met_39 : decode cX7_met 39 = .ok (.aload_n 0, 1) := by decide +kernel
theorem dX7_met_40 : decode cX7_met 40 = .ok (.iload_n 1, 1) := by decide +kernel
theorem dX7_met_41 : decode cX7_met 41 = .ok (.iload_n 2, 1) := by decide +kernel
theorem dX7_met_42 : decode cX7_met 42 = .ok (.iload_n 3, 1) := by decide +kernel
theorem dX7_met_43 : decode cX7_met 43 = .ok (.iload 4, 2) := by decide +kernel
theorem dX7_met_45 : decode cX7_met 45 = .ok (.iload 5, 2) := by decide +kernel
theorem dX7_met_47 : decode cX7_met 47 = .ok (.iconst 1, 1) := by decide +kernel
theorem dX7_met_48 : decode cX7_met 48 = .ok (.iadd, 1) := by decide +kernel
theorem dX7_met_49 : decode cX7_met 49 = .ok (.invokevirtual 199, 3) := by decide +kernel
theorem dX7_met_52 : decode cX7_met 52 = .ok (.aload_n 0, 1) := by decide +kernel
theorem dX7_met_53 : decode cX7_met 53 = .ok (.getfield 169, 3) := by decide +kernel
theorem dX7_met_56 : decode cX7_met 56 = .ok (.iload 5, 2) := by decide +kernel
theorem dX7_met_58 : decode cX7_met 58 = .ok (.iconst 1, 1) := by decide +kernel
theorem dX7_met_59 : decode cX7_met 59 = .ok (.iadd, 1) := by decide +kernel
theorem dX7_met_60 : decode cX7_met 60 = .ok (.if_icmp .ne 10, 3) := by decide +kernel
theorem dX7_met_63 : decode cX7_met 63 = .ok (.aload_n 0, 1) := by decide +kernel
theorem dX7_met_64 : decode cX7_met 64 = .ok (.getfield 175, 3) := by decide +kernel
theorem dX7_met_67 : decode cX7_met 67 = .ok (.goto 5, 3) := by decide +kernel
theorem dX7_met_70 : decode cX7_met 70 = .ok (.bipush (-9), 2) := by decide +kernel
theorem dX7_met_72 : decode cX7_met 72 = .ok (.ireturn, 1) := by decide +kernel
theorem dX7_isAhead_0 : decode cX7_isAhead 0 = .ok (.iconst 0, 1) := by decide +kernel
theorem dX7_isAhead_1 : decode cX7_isAhead 1 = .ok (.istore_n 1, 1) := by decide +kernel
theorem dX7_isAhead_2 : decode cX7_isAhead 2 = .ok (.iload_n 1, 1) := by decide +kernel
theorem dX7_isAhead_3 : decode cX7_isAhead 3 = .ok (.iconst 3, 1) := by decide +kernel
theorem dX7_isAhead_4 : decode cX7_isAhead 4 = .ok (.if_icmp .ge 35, 3) := by decide +kernel
theorem dX7_isAhead_7 : decode cX7_isAhead 7 = .ok (.aload_n 0, 1) := by decide +kernel
theorem dX7_isAhead_8 : decode cX7_isAhead 8 = .ok (.getfield 34, 3) := by decide +kernel
theorem dX7_isAhead_11 : decode cX7_isAhead 11 = .ok (.iload_n 1, 1) := by decide +kernel
theorem dX7_isAhead_12 : decode cX7_isAhead 12 = .ok (.iaload, 1) := by decide +kernel
theorem dX7_isAhead_13 : decode cX7_isAhead 13 = .ok (.ifCond .le 20, 3) := by decide +kernel
theorem dX7_isAhead_16 : decode cX7_isAhead 16 = .ok (.aload_n 0, 1) := by decide +kernel
theorem dX7_isAhead_17 : decode cX7_isAhead 17 = .ok (.getfield 31, 3) := by decide +kernel
theorem dX7_isAhead_20 : decode cX7_isAhead 20 = .ok (.iload_n 1, 1) := by decide +kernel
theorem dX7_isAhead_21 : decode cX7_isAhead 21 = .ok (.iaload, 1) := by decide +kernel
theorem dX7_isAhead_22 : decode cX7_isAhead 22 = .ok (.aload_n 0, 1) := by decide +kernel
theorem dX7_isAhead_23 : decode cX7_isAhead 23 = .ok (.getfield 34, 3) := by decide +kernel
theorem dX7_isAhead_26 : decode cX7_isAhead 26 = .ok (.iload_n 1, 1) := by decide +kernel
theorem dX7_isAhead_27 : decode cX7_isAhead 27 = .ok (.iaload, 1) := by decide +kernel
theorem dX7_isAhead_28 : decode cX7_isAhead 28 = .ok (.if_icmp .ge 5, 3) := by decide +kernel
theorem dX7_isAhead_31 : decode cX7_isAhead 31 = .ok (.iconst 1, 1) := by decide +kernel
theorem dX7_isAhead_32 : decode cX7_isAhead 32 = .ok (.ireturn, 1) := by decide +kernel
theorem dX7_isAhead_33 : decode cX7_isAhead 33 = .ok (.iinc 1 1, 3) := by decide +kernel
theorem dX7_isAhead_36 : decode cX7_isAhead 36 = .ok (.goto (-34), 3) := by decide +kernel
theorem dX7_isAhead_39 : decode cX7_isAhead 39 = .ok (.iconst 0, 1) := by decide +kernel
theorem dX7_isAhead_40 : decode cX7_isAhead 40 = .ok (.ireturn, 1) := by decide +kernel
theorem dX7_over_0 : decode cX7_over 0 = .ok (.iload_n 0, 1) := by decide +kernel
theorem dX7_over_1 : decode cX7_over 1 = .ok (.iconst 3, 1) := by decide +kernel
theorem dX7_over_2 : decode cX7_over 2 = .ok (.irem, 1) := by decide +kernel
theorem dX7_over_3 : decode cX7_over 3 = .ok (.istore_n 1, 1) := by decide +kernel
theorem dX7_over_4 : decode cX7_over 4 = .ok (.iload_n 1, 1) := by decide +kernel
theorem dX7_over_5 : decode cX7_over 5 = .ok (.ifCond .ge 9, 3) := by decide +kernel
theorem dX7_over_8 : decode cX7_over 8 = .ok (.iload_n 1, 1) := by decide +kernel
theorem dX7_over_9 : decode cX7_over 9 = .ok (.iconst 3, 1) := by decide +kernel
theorem dX7_over_10 : decode cX7_over 10 = .ok (.iadd, 1) := by decide +kernel
theorem dX7_over_11 : decode cX7_over 11 = .ok (.goto 4, 3) := by decide +kernel
theorem dX7_over_14 : decode cX7_over 14 = .ok (.iload_n 1, 1) := by decide +kernel
theorem dX7_over_15 : decode cX7_over 15 = .ok (.ireturn, 1) := by decide +kernel
theorem dX7_imageOf_0 : decode cX7_imageOf 0 = .ok (.iload_n 2, 1) := by decide +kernel
theorem dX7_imageOf_1 : decode cX7_imageOf 1 = .ok (.iconst 2, 1) := by decide +kernel
theorem dX7_imageOf_2 : decode cX7_imageOf 2 = .ok (.irem, 1) := by decide +kernel
theorem dX7_imageOf_3 : decode cX7_imageOf 3 = .ok (.ifCond .ne 7, 3) := by decide +kernel
theorem dX7_imageOf_6 : decode cX7_imageOf 6 = .ok (.iconst 1, 1) := by decide +kernel
theorem dX7_imageOf_7 : decode cX7_imageOf 7 = .ok (.goto 4, 3) := by decide +kernel
theorem dX7_imageOf_10 : decode cX7_imageOf 10 = .ok (.iconst 2, 1) := by decide +kernel
theorem dX7_imageOf_11 : decode cX7_imageOf 11 = .ok (.istore 5, 2) := by decide +kernel
theorem dX7_imageOf_13 : decode cX7_imageOf 13 = .ok (.iload 5, 2) := by decide +kernel
theorem dX7_imageOf_15 : decode cX7_imageOf 15 = .ok (.iload_n 3, 1) := by decide +kernel
theorem dX7_imageOf_16 : decode cX7_imageOf 16 = .ok (.iadd, 1) := by decide +kernel
theorem dX7_imageOf_17 : decode cX7_imageOf 17 = .ok (.invokestatic 203, 3) := by decide +kernel
theorem dX7_imageOf_20 : decode cX7_imageOf 20 = .ok (.istore 6, 2) := by decide +kernel
theorem dX7_imageOf_22 : decode cX7_imageOf 22 = .ok (.iload 5, 2) := by decide +kernel
theorem dX7_imageOf_24 : decode cX7_imageOf 24 = .ok (.iload 4, 2) := by decide +kernel
theorem dX7_imageOf_26 : decode cX7_imageOf 26 = .ok (.iadd, 1) := by decide +kernel
theorem dX7_imageOf_27 : decode cX7_imageOf 27 = .ok (.invokestatic 203, 3) := by decide +kernel
theorem dX7_imageOf_30 : decode cX7_imageOf 30 = .ok (.istore 7, 2) := by decide +kernel
theorem dX7_imageOf_32 : decode cX7_imageOf 32 = .ok (.iload 6, 2) := by decide +kernel
theorem dX7_imageOf_34 : decode cX7_imageOf 34 = .ok (.iload 7, 2) := by decide +kernel
theorem dX7_imageOf_36 : decode cX7_imageOf 36 = .ok (.if_icmp .ne 8, 3) := by decide +kernel
theorem dX7_imageOf_39 : decode cX7_imageOf 39 = .ok (.iload 6, 2) := by decide +kernel
theorem dX7_imageOf_41 : decode cX7_imageOf 41 = .ok (.ifCond .ne 6, 3) := by decide +kernel
theorem dX7_imageOf_44 : decode cX7_imageOf 44 = .ok (.bipush (-9), 2) := by decide +kernel
theorem dX7_imageOf_46 : decode cX7_imageOf 46 = .ok (.ireturn, 1) := by decide +kernel
theorem dX7_imageOf_47 : decode cX7_imageOf 47 = .ok (.aload_n 0, 1) := by decide +kernel
theorem dX7_imageOf_48 : decode cX7_imageOf 48 = .ok (.iload_n 2, 1) := by decide +kernel
theorem dX7_imageOf_49 : decode cX7_imageOf 49 = .ok (.iload_n 3, 1) := by decide +kernel
theorem dX7_imageOf_50 : decode cX7_imageOf 50 = .ok (.iload 4, 2) := by decide +kernel
theorem dX7_imageOf_52 : decode cX7_imageOf 52 = .ok (.invokevirtual 188, 3) := by decide +kernel
theorem dX7_imageOf_55 : decode cX7_imageOf 55 = .ok (.aload_n 0, 1) := by decide +kernel
theorem dX7_imageOf_56 : decode cX7_imageOf 56 = .ok (.invokevirtual 206, 3) := by decide +kernel
theorem dX7_imageOf_59 : decode cX7_imageOf 59 = .ok (.ifCond .eq 19, 3) := by decide +kernel
theorem dX7_imageOf_62 : decode cX7_imageOf 62 = .ok (.aload_n 0, 1) := by decide +kernel
theorem dX7_imageOf_63 : decode cX7_imageOf 63 = .ok (.iload_n 1, 1) := by decide +kernel
theorem dX7_imageOf_64 : decode cX7_imageOf 64 = .ok (.invokevirtual 192, 3) := by decide +kernel
theorem dX7_imageOf_67 : decode cX7_imageOf 67 = .ok (.aload_n 0, 1) := by decide +kernel
theorem dX7_imageOf_68 : decode cX7_imageOf 68 = .ok (.getfield 178, 3) := by decide +kernel
theorem dX7_imageOf_71 : decode cX7_imageOf 71 = .ok (.iconst 2, 1) := by decide +kernel
theorem dX7_imageOf_72 : decode cX7_imageOf 72 = .ok (.if_icmp .eq (-17), 3) := by decide +kernel
theorem dX7_imageOf_75 : decode cX7_imageOf 75 = .ok (.bipush (-9), 2) := by decide +kernel
theorem dX7_imageOf_77 : decode cX7_imageOf 77 = .ok (.ireturn, 1) := by decide +kernel
theorem dX7_imageOf_78 : decode cX7_imageOf 78 = .ok (.aload_n 0, 1) := by decide +kernel
theorem dX7_imageOf_79 : decode cX7_imageOf 79 = .ok (.getfield 166, 3) := by decide +kernel
theorem dX7_imageOf_82 : decode cX7_imageOf 82 = .ok (.ireturn, 1) := by decide +kernel
theorem dX7_image_0 : decode cX7_image 0 = .ok (.aload_n 0, 1) := by decide +kernel
theorem dX7_image_1 : decode cX7_image 1 = .ok (.iload_n 1, 1) := by decide +kernel
theorem dX7_image_2 : decode cX7_image 2 = .ok (.iload_n 2, 1) := by decide +kernel
theorem dX7_image_3 : decode cX7_image 3 = .ok (.invokevirtual 163, 3) := by decide +kernel
theorem dX7_image_6 : decode cX7_image 6 = .ok (.ifCond .ne 5, 3) := by decide +kernel
theorem dX7_image_9 : decode cX7_image 9 = .ok (.iconst (-1), 1) := by decide +kernel
theorem dX7_image_10 : decode cX7_image 10 = .ok (.ireturn, 1) := by decide +kernel
theorem dX7_image_11 : decode cX7_image 11 = .ok (.iload_n 3, 1) := by decide +kernel
theorem dX7_image_12 : decode cX7_image 12 = .ok (.iload 4, 2) := by decide +kernel
theorem dX7_image_14 : decode cX7_image 14 = .ok (.invokestatic 196, 3) := by decide +kernel
theorem dX7_image_17 : decode cX7_image 17 = .ok (.ifCond .eq 15, 3) := by decide +kernel
theorem dX7_image_20 : decode cX7_image 20 = .ok (.aload_n 0, 1) := by decide +kernel
theorem dX7_image_21 : decode cX7_image 21 = .ok (.iload_n 1, 1) := by decide +kernel
theorem dX7_image_22 : decode cX7_image 22 = .ok (.iload_n 2, 1) := by decide +kernel
theorem dX7_image_23 : decode cX7_image 23 = .ok (.iload_n 3, 1) := by decide +kernel
theorem dX7_image_24 : decode cX7_image 24 = .ok (.iload 4, 2) := by decide +kernel
theorem dX7_image_26 : decode cX7_image 26 = .ok (.invokevirtual 210, 3) := by decide +kernel
theorem dX7_image_29 : decode cX7_image 29 = .ok (.goto 5, 3) := by decide +kernel
theorem dX7_image_32 : decode cX7_image 32 = .ok (.bipush (-2), 2) := by decide +kernel
theorem dX7_image_34 : decode cX7_image 34 = .ok (.ireturn, 1) := by decide +kernel
theorem dX7_images_0 : decode cX7_images 0 = .ok (.aload_n 0, 1) := by decide +kernel
theorem dX7_images_1 : decode cX7_images 1 = .ok (.iload_n 1, 1) := by decide +kernel
theorem dX7_images_2 : decode cX7_images 2 = .ok (.iload_n 2, 1) := by decide +kernel
theorem dX7_images_3 : decode cX7_images 3 = .ok (.invokevirtual 163, 3) := by decide +kernel
theorem dX7_images_6 : decode cX7_images 6 = .ok (.ifCond .eq 12, 3) := by decide +kernel
theorem dX7_images_9 : decode cX7_images 9 = .ok (.aload_n 0, 1) := by decide +kernel
theorem dX7_images_10 : decode cX7_images 10 = .ok (.iload_n 1, 1) := by decide +kernel
theorem dX7_images_11 : decode cX7_images 11 = .ok (.iload_n 3, 1) := by decide +kernel
theorem dX7_images_12 : decode cX7_images 12 = .ok (.invokevirtual 163, 3) := by decide +kernel
theorem dX7_images_15 : decode cX7_images 15 = .ok (.ifCond .ne 5, 3) := by decide +kernel
theorem dX7_images_18 : decode cX7_images 18 = .ok (.iconst (-1), 1) := by decide +kernel
theorem dX7_images_19 : decode cX7_images 19 = .ok (.ireturn, 1) := by decide +kernel
theorem dX7_images_20 : decode cX7_images 20 = .ok (.iload 4, 2) := by decide +kernel
theorem dX7_images_22 : decode cX7_images 22 = .ok (.iconst 1, 1) := by decide +kernel
theorem dX7_images_23 : decode cX7_images 23 = .ok (.bipush 24, 2) := by decide +kernel
theorem dX7_images_25 : decode cX7_images 25 = .ok (.invokestatic 108, 3) := by decide +kernel
theorem dX7_images_28 : decode cX7_images 28 = .ok (.ifCond .eq 13, 3) := by decide +kernel
theorem dX7_images_31 : decode cX7_images 31 = .ok (.iload 5, 2) := by decide +kernel
theorem dX7_images_33 : decode cX7_images 33 = .ok (.iconst 0, 1) := by decide +kernel
theorem dX7_images_34 : decode cX7_images 34 = .ok (.iconst 2, 1) := by decide +kernel
theorem dX7_images_35 : decode cX7_images 35 = .ok (.invokestatic 108, 3) := by decide +kernel
theorem dX7_images_38 : decode cX7_images 38 = .ok (.ifCond .ne 6, 3) := by decide +kernel
theorem dX7_images_41 : decode cX7_images 41 = .ok (.bipush (-2), 2) := by decide +kernel
theorem dX7_images_43 : decode cX7_images 43 = .ok (.ireturn, 1) := by decide +kernel
theorem dX7_images_44 : decode cX7_images 44 = .ok (.iconst 0, 1) := by decide +kernel
theorem dX7_images_45 : decode cX7_images 45 = .ok (.istore 6, 2) := by decide +kernel
theorem dX7_images_47 : decode cX7_images 47 = .ok (.iconst 0, 1) := by decide +kernel
theorem dX7_images_48 : decode cX7_images 48 = .ok (.istore 7, 2) := by decide +kernel
theorem dX7_images_50 : decode cX7_images 50 = .ok (.bipush (-9), 2) := by decide +kernel
theorem dX7_images_52 : decode cX7_images 52 = .ok (.istore 8, 2) := by decide +kernel
theorem dX7_images_54 : decode cX7_images 54 = .ok (.bipush (-9), 2) := by decide +kernel
theorem dX7_images_56 : decode cX7_images 56 = .ok (.istore 9, 2) := by decide +kernel
theorem dX7_images_58 : decode cX7_images 58 = .ok (.iload 4, 2) := by decide +kernel
theorem dX7_images_60 : decode cX7_images 60 = .ok (.ineg, 1) := by decide +kernel
theorem dX7_images_61 : decode cX7_images 61 = .ok (.istore 10, 2) := by decide +kernel
theorem dX7_images_63 : decode cX7_images 63 = .ok (.iload 10, 2) := by decide +kernel
theorem dX7_images_65 : decode cX7_images 65 = .ok (.iload 4, 2) := by decide +kernel
theorem dX7_images_67 : decode cX7_images 67 = .ok (.if_icmp .gt 100, 3) := by decide +kernel
theorem dX7_images_70 : decode cX7_images 70 = .ok (.iload 4, 2) := by decide +kernel
theorem dX7_images_72 : decode cX7_images 72 = .ok (.ineg, 1) := by decide +kernel
theorem dX7_images_73 : decode cX7_images 73 = .ok (.istore 11, 2) := by decide +kernel
theorem dX7_images_75 : decode cX7_images 75 = .ok (.iload 11, 2) := by decide +kernel
theorem dX7_images_77 : decode cX7_images 77 = .ok (.iload 4, 2) := by decide +kernel
theorem dX7_images_79 : decode cX7_images 79 = .ok (.if_icmp .gt 82, 3) := by decide +kernel
theorem dX7_images_82 : decode cX7_images 82 = .ok (.iload 10, 2) := by decide +kernel
theorem dX7_images_84 : decode cX7_images 84 = .ok (.ifCond .ne 8, 3) := by decide +kernel
theorem dX7_images_87 : decode cX7_images 87 = .ok (.iload 11, 2) := by decide +kernel
theorem dX7_images_89 : decode cX7_images 89 = .ok (.ifCond .eq 66, 3) := by decide +kernel
theorem dX7_images_92 : decode cX7_images 92 = .ok (.aload_n 0, 1) := by decide +kernel
theorem dX7_images_93 : decode cX7_images 93 = .ok (.iload_n 1, 1) := by decide +kernel
theorem dX7_images_94 : decode cX7_images 94 = .ok (.iload_n 2, 1) := by decide +kernel
theorem dX7_images_95 : decode cX7_images 95 = .ok (.iload 10, 2) := by decide +kernel
theorem dX7_images_97 : decode cX7_images 97 = .ok (.iload 11, 2) := by decide +kernel
theorem dX7_images_99 : decode cX7_images 99 = .ok (.invokevirtual 210, 3) := by decide +kernel
theorem dX7_images_102 : decode cX7_images 102 = .ok (.iload_n 3, 1) := by decide +kernel
theorem dX7_images_103 : decode cX7_images 103 = .ok (.if_icmp .eq 6, 3) := by decide +kernel
theorem dX7_images_106 : decode cX7_images 106 = .ok (.goto 49, 3) := by decide +kernel
theorem dX7_images_109 : decode cX7_images 109 = .ok (.iload 10, 2) := by decide +kernel
theorem dX7_images_111 : decode cX7_images 111 = .ok (.iload 10, 2) := by decide +kernel
theorem dX7_images_113 : decode cX7_images 113 = .ok (.imul, 1) := by decide +kernel
theorem dX7_images_114 : decode cX7_images 114 = .ok (.iload 10, 2) := by decide +kernel
theorem dX7_images_116 : decode cX7_images 116 = .ok (.iload 11, 2) := by decide +kernel
theorem dX7_images_118 : decode cX7_images 118 = .ok (.imul, 1) := by decide +kernel
theorem dX7_images_119 : decode cX7_images 119 = .ok (.iadd, 1) := by decide +kernel
theorem dX7_images_120 : decode cX7_images 120 = .ok (.iload 11, 2) := by decide +kernel
theorem dX7_images_122 : decode cX7_images 122 = .ok (.iload 11, 2) := by decide +kernel
theorem dX7_images_124 : decode cX7_images 124 = .ok (.imul, 1) := by decide +kernel
theorem dX7_images_125 : decode cX7_images 125 = .ok (.iadd, 1) := by decide +kernel
theorem dX7_images_126 : decode cX7_images 126 = .ok (.istore 12, 2) := by decide +kernel
theorem dX7_images_128 : decode cX7_images 128 = .ok (.iload 6, 2) := by decide +kernel
theorem dX7_images_130 : decode cX7_images 130 = .ok (.ifCond .eq 10, 3) := by decide +kernel
theorem dX7_images_133 : decode cX7_images 133 = .ok (.iload 12, 2) := by decide +kernel
theorem dX7_images_135 : decode cX7_images 135 = .ok (.iload 7, 2) := by decide +kernel
theorem dX7_images_137 : decode cX7_images 137 = .ok (.if_icmp .ge 15, 3) := by decide +kernel
theorem dX7_images_140 : decode cX7_images 140 = .ok (.iload 12, 2) := by decide +kernel
theorem dX7_images_142 : decode cX7_images 142 = .ok (.istore 7, 2) := by decide +kernel
theorem dX7_images_144 : decode cX7_images 144 = .ok (.iload 10, 2) := by decide +kernel
theorem dX7_images_146 : decode cX7_images 146 = .ok (.istore 8, 2) := by decide +kernel
theorem dX7_images_148 : decode cX7_images 148 = .ok (.iload 11, 2) := by decide +kernel
theorem dX7_images_150 : decode cX7_images 150 = .ok (.istore 9, 2) := by decide +kernel
theorem dX7_images_152 : decode cX7_images 152 = .ok (.iinc 6 1, 3) := by decide +kernel
theorem dX7_images_155 : decode cX7_images 155 = .ok (.iinc 11 1, 3) := by decide +kernel
theorem dX7_images_158 : decode cX7_images 158 = .ok (.goto (-83), 3) := by decide +kernel
theorem dX7_images_161 : decode cX7_images 161 = .ok (.iinc 10 1, 3) := by decide +kernel
theorem dX7_images_164 : decode cX7_images 164 = .ok (.goto (-101), 3) := by decide +kernel
theorem dX7_images_167 : decode cX7_images 167 = .ok (.iload 5, 2) := by decide +kernel
theorem dX7_images_169 : decode cX7_images 169 = .ok (.ifCond .ne 8, 3) := by decide +kernel
theorem dX7_images_172 : decode cX7_images 172 = .ok (.iload 6, 2) := by decide +kernel
theorem dX7_images_174 : decode cX7_images 174 = .ok (.goto 16, 3) := by decide +kernel
theorem dX7_images_177 : decode cX7_images 177 = .ok (.iload 5, 2) := by decide +kernel
theorem dX7_images_179 : decode cX7_images 179 = .ok (.iconst 1, 1) := by decide +kernel
theorem dX7_images_180 : decode cX7_images 180 = .ok (.if_icmp .ne 8, 3) := by decide +kernel
theorem dX7_images_183 : decode cX7_images 183 = .ok (.iload 8, 2) := by decide +kernel
theorem dX7_images_185 : decode cX7_images 185 = .ok (.goto 5, 3) := by decide +kernel
theorem dX7_images_188 : decode cX7_images 188 = .ok (.iload 9, 2) := by decide +kernel
theorem dX7_images_190 : decode cX7_images 190 = .ok (.ireturn, 1) := by decide +kernel
theorem dX7_report_0 : decode cX7_report 0 = .ok (.aload_n 0, 1) := by decide +kernel
theorem dX7_report_1 : decode cX7_report 1 = .ok (.iload_n 1, 1) := by decide +kernel
theorem dX7_report_2 : decode cX7_report 2 = .ok (.iload_n 2, 1) := by decide +kernel
theorem dX7_report_3 : decode cX7_report 3 = .ok (.invokevirtual 163, 3) := by decide +kernel
theorem dX7_report_6 : decode cX7_report 6 = .ok (.ifCond .ne 5, 3) := by decide +kernel
theorem dX7_report_9 : decode cX7_report 9 = .ok (.iconst (-1), 1) := by decide +kernel
theorem dX7_report_10 : decode cX7_report 10 = .ok (.ireturn, 1) := by decide +kernel
theorem dX7_report_11 : decode cX7_report 11 = .ok (.iload_n 3, 1) := by decide +kernel
theorem dX7_report_12 : decode cX7_report 12 = .ok (.iload 4, 2) := by decide +kernel
theorem dX7_report_14 : decode cX7_report 14 = .ok (.invokestatic 196, 3) := by decide +kernel
theorem dX7_report_17 : decode cX7_report 17 = .ok (.ifCond .ne 6, 3) := by decide +kernel
theorem dX7_report_20 : decode cX7_report 20 = .ok (.bipush (-2), 2) := by decide +kernel
theorem dX7_report_22 : decode cX7_report 22 = .ok (.ireturn, 1) := by decide +kernel
theorem dX7_report_23 : decode cX7_report 23 = .ok (.aload_n 0, 1) := by decide +kernel
theorem dX7_report_24 : decode cX7_report 24 = .ok (.getfield 213, 3) := by decide +kernel
theorem dX7_report_27 : decode cX7_report 27 = .ok (.bipush 12, 2) := by decide +kernel
theorem dX7_report_29 : decode cX7_report 29 = .ok (.if_icmp .ne 6, 3) := by decide +kernel
theorem dX7_report_32 : decode cX7_report 32 = .ok (.bipush (-4), 2) := by decide +kernel
theorem dX7_report_34 : decode cX7_report 34 = .ok (.ireturn, 1) := by decide +kernel
theorem dX7_report_35 : decode cX7_report 35 = .ok (.aload_n 0, 1) := by decide +kernel
theorem dX7_report_36 : decode cX7_report 36 = .ok (.getfield 40, 3) := by decide +kernel
theorem dX7_report_39 : decode cX7_report 39 = .ok (.aload_n 0, 1) := by decide +kernel
theorem dX7_report_40 : decode cX7_report 40 = .ok (.getfield 213, 3) := by decide +kernel
theorem dX7_report_43 : decode cX7_report 43 = .ok (.iload_n 1, 1) := by decide +kernel
theorem dX7_report_44 : decode cX7_report 44 = .ok (.iastore, 1) := by decide +kernel
theorem dX7_report_45 : decode cX7_report 45 = .ok (.aload_n 0, 1) := by decide +kernel
theorem dX7_report_46 : decode cX7_report 46 = .ok (.getfield 43, 3) := by decide +kernel
theorem dX7_report_49 : decode cX7_report 49 = .ok (.aload_n 0, 1) := by decide +kernel
theorem dX7_report_50 : decode cX7_report 50 = .ok (.getfield 213, 3) := by decide +kernel
theorem dX7_report_53 : decode cX7_report 53 = .ok (.iload_n 2, 1) := by decide +kernel
theorem dX7_report_54 : decode cX7_report 54 = .ok (.iastore, 1) := by decide +kernel
theorem dX7_report_55 : decode cX7_report 55 = .ok (.aload_n 0, 1) := by decide +kernel
theorem dX7_report_56 : decode cX7_report 56 = .ok (.getfield 46, 3) := by decide +kernel
theorem dX7_report_59 : decode cX7_report 59 = .ok (.aload_n 0, 1) := by decide +kernel
theorem dX7_report_60 : decode cX7_report 60 = .ok (.getfield 213, 3) := by decide +kernel
theorem dX7_report_63 : decode cX7_report 63 = .ok (.iload_n 3, 1) := by decide +kernel
theorem dX7_report_64 : decode cX7_report 64 = .ok (.iastore, 1) := by decide +kernel
theorem dX7_report_65 : decode cX7_report 65 = .ok (.aload_n 0, 1) := by decide +kernel
theorem dX7_report_66 : decode cX7_report 66 = .ok (.getfield 49, 3) := by decide +kernel
theorem dX7_report_69 : decode cX7_report 69 = .ok (.aload_n 0, 1) := by decide +kernel
theorem dX7_report_70 : decode cX7_report 70 = .ok (.getfield 213, 3) := by decide +kernel
theorem dX7_report_73 : decode cX7_report 73 = .ok (.iload 4, 2) := by decide +kernel
theorem dX7_report_75 : decode cX7_report 75 = .ok (.iastore, 1) := by decide +kernel
theorem dX7_report_76 : decode cX7_report 76 = .ok (.aload_n 0, 1) := by decide +kernel
theorem dX7_report_77 : decode cX7_report 77 = .ok (.getfield 52, 3) := by decide +kernel
theorem dX7_report_80 : decode cX7_report 80 = .ok (.aload_n 0, 1) := by decide +kernel
theorem dX7_report_81 : decode cX7_report 81 = .ok (.getfield 213, 3) := by decide +kernel
theorem dX7_report_84 : decode cX7_report 84 = .ok (.iload 5, 2) := by decide +kernel
theorem dX7_report_86 : decode cX7_report 86 = .ok (.bastore, 1) := by decide +kernel
theorem dX7_report_87 : decode cX7_report 87 = .ok (.aload_n 0, 1) := by decide +kernel
theorem dX7_report_88 : decode cX7_report 88 = .ok (.dup, 1) := by decide +kernel
theorem dX7_report_89 : decode cX7_report 89 = .ok (.getfield 213, 3) := by decide +kernel
theorem dX7_report_92 : decode cX7_report 92 = .ok (.iconst 1, 1) := by decide +kernel
theorem dX7_report_93 : decode cX7_report 93 = .ok (.iadd, 1) := by decide +kernel
theorem dX7_report_94 : decode cX7_report 94 = .ok (.putfield 213, 3) := by decide +kernel
theorem dX7_report_97 : decode cX7_report 97 = .ok (.aload_n 0, 1) := by decide +kernel
theorem dX7_report_98 : decode cX7_report 98 = .ok (.getfield 213, 3) := by decide +kernel
theorem dX7_report_101 : decode cX7_report 101 = .ok (.iconst 1, 1) := by decide +kernel
theorem dX7_report_102 : decode cX7_report 102 = .ok (.isub, 1) := by decide +kernel
theorem dX7_report_103 : decode cX7_report 103 = .ok (.ireturn, 1) := by decide +kernel
theorem dX7_spots_0 : decode cX7_spots 0 = .ok (.aload_n 0, 1) := by decide +kernel
theorem dX7_spots_1 : decode cX7_spots 1 = .ok (.iload_n 1, 1) := by decide +kernel
theorem dX7_spots_2 : decode cX7_spots 2 = .ok (.invokevirtual 115, 3) := by decide +kernel
theorem dX7_spots_5 : decode cX7_spots 5 = .ok (.ifCond .ne 5, 3) := by decide +kernel
theorem dX7_spots_8 : decode cX7_spots 8 = .ok (.iconst (-1), 1) := by decide +kernel
theorem dX7_spots_9 : decode cX7_spots 9 = .ok (.ireturn, 1) := by decide +kernel
theorem dX7_spots_10 : decode cX7_spots 10 = .ok (.iconst 1, 1) := by decide +kernel
theorem dX7_spots_11 : decode cX7_spots 11 = .ok (.aload_n 0, 1) := by decide +kernel
theorem dX7_spots_12 : decode cX7_spots 12 = .ok (.iload_n 1, 1) := by decide +kernel
theorem dX7_spots_13 : decode cX7_spots 13 = .ok (.invokevirtual 119, 3) := by decide +kernel
theorem dX7_spots_16 : decode cX7_spots 16 = .ok (.ishl, 1) := by decide +kernel
theorem dX7_spots_17 : decode cX7_spots 17 = .ok (.iconst 1, 1) := by decide +kernel
theorem dX7_spots_18 : decode cX7_spots 18 = .ok (.isub, 1) := by decide +kernel
theorem dX7_spots_19 : decode cX7_spots 19 = .ok (.istore_n 2, 1) := by decide +kernel
theorem dX7_spots_20 : decode cX7_spots 20 = .ok (.iconst 0, 1) := by decide +kernel
theorem dX7_spots_21 : decode cX7_spots 21 = .ok (.istore_n 3, 1) := by decide +kernel
theorem dX7_spots_22 : decode cX7_spots 22 = .ok (.iload_n 3, 1) := by decide +kernel
theorem dX7_spots_23 : decode cX7_spots 23 = .ok (.aload_n 0, 1) := by decide +kernel
theorem dX7_spots_24 : decode cX7_spots 24 = .ok (.getfield 213, 3) := by decide +kernel
theorem dX7_spots_27 : decode cX7_spots 27 = .ok (.if_icmp .ge 85, 3) := by decide +kernel
theorem dX7_spots_30 : decode cX7_spots 30 = .ok (.aload_n 0, 1) := by decide +kernel
theorem dX7_spots_31 : decode cX7_spots 31 = .ok (.getfield 40, 3) := by decide +kernel
theorem dX7_spots_34 : decode cX7_spots 34 = .ok (.iload_n 3, 1) := by decide +kernel
theorem dX7_spots_35 : decode cX7_spots 35 = .ok (.iaload, 1) := by decide +kernel
theorem dX7_spots_36 : decode cX7_spots 36 = .ok (.iload_n 1, 1) := by decide +kernel
theorem dX7_spots_37 : decode cX7_spots 37 = .ok (.if_icmp .eq 6, 3) := by decide +kernel
theorem dX7_spots_40 : decode cX7_spots 40 = .ok (.goto 66, 3) := by decide +kernel
theorem dX7_spots_43 : decode cX7_spots 43 = .ok (.aload_n 0, 1) := by decide +kernel
theorem dX7_spots_44 : decode cX7_spots 44 = .ok (.iload_n 1, 1) := by decide +kernel
theorem dX7_spots_45 : decode cX7_spots 45 = .ok (.aload_n 0, 1) := by decide +kernel
theorem dX7_spots_46 : decode cX7_spots 46 = .ok (.getfield 43, 3) := by decide +kernel
theorem dX7_spots_49 : decode cX7_spots 49 = .ok (.iload_n 3, 1) := by decide +kernel
theorem dX7_spots_50 : decode cX7_spots 50 = .ok (.iaload, 1) := by decide +kernel
theorem dX7_spots_51 : decode cX7_spots 51 = .ok (.aload_n 0, 1) := by decide +kernel
theorem dX7_spots_52 : decode cX7_spots 52 = .ok (.getfield 46, 3) := by decide +kernel
theorem dX7_spots_55 : decode cX7_spots 55 = .ok (.iload_n 3, 1) := by decide +kernel
theorem dX7_spots_56 : decode cX7_spots 56 = .ok (.iaload, 1) := by decide +kernel
theorem dX7_spots_57 : decode cX7_spots 57 = .ok (.aload_n 0, 1) := by decide +kernel
theorem dX7_spots_58 : decode cX7_spots 58 = .ok (.getfield 49, 3) := by decide +kernel
theorem dX7_spots_61 : decode cX7_spots 61 = .ok (.iload_n 3, 1) := by decide +kernel
theorem dX7_spots_62 : decode cX7_spots 62 = .ok (.iaload, 1) := by decide +kernel
theorem dX7_spots_63 : decode cX7_spots 63 = .ok (.invokevirtual 210, 3) := by decide +kernel
theorem dX7_spots_66 : decode cX7_spots 66 = .ok (.istore 4, 2) := by decide +kernel
theorem dX7_spots_68 : decode cX7_spots 68 = .ok (.iload 4, 2) := by decide +kernel
theorem dX7_spots_70 : decode cX7_spots 70 = .ok (.bipush (-9), 2) := by decide +kernel
theorem dX7_spots_72 : decode cX7_spots 72 = .ok (.if_icmp .ne 7, 3) := by decide +kernel
theorem dX7_spots_75 : decode cX7_spots 75 = .ok (.iconst 0, 1) := by decide +kernel
theorem dX7_spots_76 : decode cX7_spots 76 = .ok (.goto 7, 3) := by decide +kernel
theorem dX7_spots_79 : decode cX7_spots 79 = .ok (.iconst 1, 1) := by decide +kernel
theorem dX7_spots_80 : decode cX7_spots 80 = .ok (.iload 4, 2) := by decide +kernel
theorem dX7_spots_82 : decode cX7_spots 82 = .ok (.ishl, 1) := by decide +kernel
theorem dX7_spots_83 : decode cX7_spots 83 = .ok (.istore 5, 2) := by decide +kernel
theorem dX7_spots_85 : decode cX7_spots 85 = .ok (.iload_n 2, 1) := by decide +kernel
theorem dX7_spots_86 : decode cX7_spots 86 = .ok (.aload_n 0, 1) := by decide +kernel
theorem dX7_spots_87 : decode cX7_spots 87 = .ok (.getfield 52, 3) := by decide +kernel
theorem dX7_spots_90 : decode cX7_spots 90 = .ok (.iload_n 3, 1) := by decide +kernel
theorem dX7_spots_91 : decode cX7_spots 91 = .ok (.baload, 1) := by decide +kernel
theorem dX7_spots_92 : decode cX7_spots 92 = .ok (.ifCond .eq 8, 3) := by decide +kernel
theorem dX7_spots_95 : decode cX7_spots 95 = .ok (.iload 5, 2) := by decide +kernel
theorem dX7_spots_97 : decode cX7_spots 97 = .ok (.goto 7, 3) := by decide +kernel
theorem dX7_spots_100 : decode cX7_spots 100 = .ok (.iload 5, 2) := by decide +kernel
theorem dX7_spots_102 : decode cX7_spots 102 = .ok (.iconst (-1), 1) := by decide +kernel
theorem dX7_spots_103 : decode cX7_spots 103 = .ok (.ixor, 1) := by decide +kernel
theorem dX7_spots_104 : decode cX7_spots 104 = .ok (.iand, 1) := by decide +kernel
theorem dX7_spots_105 : decode cX7_spots 105 = .ok (.istore_n 2, 1) := by decide +kernel
theorem dX7_spots_106 : decode cX7_spots 106 = .ok (.iinc 3 1, 3) := by decide +kernel
theorem dX7_spots_109 : decode cX7_spots 109 = .ok (.goto (-87), 3) := by decide +kernel
theorem dX7_spots_112 : decode cX7_spots 112 = .ok (.iload_n 2, 1) := by decide +kernel
theorem dX7_spots_113 : decode cX7_spots 113 = .ok (.ireturn, 1) := by decide +kernel
theorem dX7_photograph_0 : decode cX7_photograph 0 = .ok (.aload_n 0, 1) := by decide +kernel
theorem dX7_photograph_1 : decode cX7_photograph 1 = .ok (.iconst 0, 1) := by decide +kernel
theorem dX7_photograph_2 : decode cX7_photograph 2 = .ok (.putfield 102, 3) := by decide +kernel
theorem dX7_photograph_5 : decode cX7_photograph 5 = .ok (.iload_n 1, 1) := by decide +kernel
theorem dX7_photograph_6 : decode cX7_photograph 6 = .ok (.invokestatic 126, 3) := by decide +kernel
theorem dX7_photograph_9 : decode cX7_photograph 9 = .ok (.ifCond .ne 5, 3) := by decide +kernel
theorem dX7_photograph_12 : decode cX7_photograph 12 = .ok (.iconst (-1), 1) := by decide +kernel
theorem dX7_photograph_13 : decode cX7_photograph 13 = .ok (.ireturn, 1) := by decide +kernel
theorem dX7_photograph_14 : decode cX7_photograph 14 = .ok (.iload_n 2, 1) := by decide +kernel
theorem dX7_photograph_15 : decode cX7_photograph 15 = .ok (.invokestatic 129, 3) := by decide +kernel
theorem dX7_photograph_18 : decode cX7_photograph 18 = .ok (.ifCond .ne 6, 3) := by decide +kernel
theorem dX7_photograph_21 : decode cX7_photograph 21 = .ok (.bipush (-2), 2) := by decide +kernel
theorem dX7_photograph_23 : decode cX7_photograph 23 = .ok (.ireturn, 1) := by decide +kernel
theorem dX7_photograph_24 : decode cX7_photograph 24 = .ok (.aload_n 0, 1) := by decide +kernel
theorem dX7_photograph_25 : decode cX7_photograph 25 = .ok (.iload_n 1, 1) := by decide +kernel
theorem dX7_photograph_26 : decode cX7_photograph 26 = .ok (.iload_n 2, 1) := by decide +kernel
theorem dX7_photograph_27 : decode cX7_photograph 27 = .ok (.iload_n 3, 1) := by decide +kernel
theorem dX7_photograph_28 : decode cX7_photograph 28 = .ok (.iload 4, 2) := by decide +kernel
theorem dX7_photograph_30 : decode cX7_photograph 30 = .ok (.invokevirtual 132, 3) := by decide +kernel
theorem dX7_photograph_33 : decode cX7_photograph 33 = .ok (.istore 5, 2) := by decide +kernel
theorem dX7_photograph_35 : decode cX7_photograph 35 = .ok (.iload 5, 2) := by decide +kernel
theorem dX7_photograph_37 : decode cX7_photograph 37 = .ok (.ifCond .eq 10, 3) := by decide +kernel
theorem dX7_photograph_40 : decode cX7_photograph 40 = .ok (.aload_n 0, 1) := by decide +kernel
theorem dX7_photograph_41 : decode cX7_photograph 41 = .ok (.iload 5, 2) := by decide +kernel
theorem dX7_photograph_43 : decode cX7_photograph 43 = .ok (.invokevirtual 136, 3) := by decide +kernel
theorem dX7_photograph_46 : decode cX7_photograph 46 = .ok (.ireturn, 1) := by decide +kernel
theorem dX7_photograph_47 : decode cX7_photograph 47 = .ok (.iload 4, 2) := by decide +kernel
theorem dX7_photograph_49 : decode cX7_photograph 49 = .ok (.iconst 5, 1) := by decide +kernel
theorem dX7_photograph_50 : decode cX7_photograph 50 = .ok (.bipush 30, 2) := by decide +kernel
theorem dX7_photograph_52 : decode cX7_photograph 52 = .ok (.invokestatic 108, 3) := by decide +kernel
theorem dX7_photograph_55 : decode cX7_photograph 55 = .ok (.ifCond .eq 10, 3) := by decide +kernel
theorem dX7_photograph_58 : decode cX7_photograph 58 = .ok (.iload 4, 2) := by decide +kernel
theorem dX7_photograph_60 : decode cX7_photograph 60 = .ok (.iconst 5, 1) := by decide +kernel
theorem dX7_photograph_61 : decode cX7_photograph 61 = .ok (.irem, 1) := by decide +kernel
theorem dX7_photograph_62 : decode cX7_photograph 62 = .ok (.ifCond .eq 6, 3) := by decide +kernel
theorem dX7_photograph_65 : decode cX7_photograph 65 = .ok (.bipush (-2), 2) := by decide +kernel
theorem dX7_photograph_67 : decode cX7_photograph 67 = .ok (.ireturn, 1) := by decide +kernel
theorem dX7_photograph_68 : decode cX7_photograph 68 = .ok (.bipush 60, 2) := by decide +kernel
theorem dX7_photograph_70 : decode cX7_photograph 70 = .ok (.iload_n 1, 1) := by decide +kernel
theorem dX7_photograph_71 : decode cX7_photograph 71 = .ok (.imul, 1) := by decide +kernel
theorem dX7_photograph_72 : decode cX7_photograph 72 = .ok (.iload_n 3, 1) := by decide +kernel
theorem dX7_photograph_73 : decode cX7_photograph 73 = .ok (.iadd, 1) := by decide +kernel
theorem dX7_photograph_74 : decode cX7_photograph 74 = .ok (.istore 6, 2) := by decide +kernel
theorem dX7_photograph_76 : decode cX7_photograph 76 = .ok (.iconst 0, 1) := by decide +kernel
theorem dX7_photograph_77 : decode cX7_photograph 77 = .ok (.istore 7, 2) := by decide +kernel
theorem dX7_photograph_79 : decode cX7_photograph 79 = .ok (.iload 7, 2) := by decide +kernel
theorem dX7_photograph_81 : decode cX7_photograph 81 = .ok (.iload 4, 2) := by decide +kernel
theorem dX7_photograph_83 : decode cX7_photograph 83 = .ok (.if_icmp .ge 40, 3) := by decide +kernel
theorem dX7_photograph_86 : decode cX7_photograph 86 = .ok (.aload_n 0, 1) := by decide +kernel
theorem dX7_photograph_87 : decode cX7_photograph 87 = .ok (.getfield 16, 3) := by decide +kernel
theorem dX7_photograph_90 : decode cX7_photograph 90 = .ok (.iload 6, 2) := by decide +kernel
theorem dX7_photograph_92 : decode cX7_photograph 92 = .ok (.iload 7, 2) := by decide +kernel
theorem dX7_photograph_94 : decode cX7_photograph 94 = .ok (.iadd, 1) := by decide +kernel
theorem dX7_photograph_95 : decode cX7_photograph 95 = .ok (.iaload, 1) := by decide +kernel
theorem dX7_photograph_96 : decode cX7_photograph 96 = .ok (.aload_n 0, 1) := by decide +kernel
theorem dX7_photograph_97 : decode cX7_photograph 97 = .ok (.getfield 16, 3) := by decide +kernel
theorem dX7_photograph_100 : decode cX7_photograph 100 = .ok (.iload 6, 2) := by decide +kernel
theorem dX7_photograph_102 : decode cX7_photograph 102 = .ok (.iload 7, 2) := by decide +kernel
theorem dX7_photograph_104 : decode cX7_photograph 104 = .ok (.iadd, 1) := by decide +kernel
theorem dX7_photograph_105 : decode cX7_photograph 105 = .ok (.iconst 1, 1) := by decide +kernel
theorem dX7_photograph_106 : decode cX7_photograph 106 = .ok (.iadd, 1) := by decide +kernel
theorem dX7_photograph_107 : decode cX7_photograph 107 = .ok (.iaload, 1) := by decide +kernel
theorem dX7_photograph_108 : decode cX7_photograph 108 = .ok (.invokestatic 196, 3) := by decide +kernel
theorem dX7_photograph_111 : decode cX7_photograph 111 = .ok (.ifCond .ne 6, 3) := by decide +kernel
theorem dX7_photograph_114 : decode cX7_photograph 114 = .ok (.bipush (-2), 2) := by decide +kernel
theorem dX7_photograph_116 : decode cX7_photograph 116 = .ok (.ireturn, 1) := by decide +kernel
theorem dX7_photograph_117 : decode cX7_photograph 117 = .ok (.iinc 7 5, 3) := by decide +kernel
theorem dX7_photograph_120 : decode cX7_photograph 120 = .ok (.goto (-41), 3) := by decide +kernel
theorem dX7_photograph_123 : decode cX7_photograph 123 = .ok (.iconst 0, 1) := by decide +kernel
theorem dX7_photograph_124 : decode cX7_photograph 124 = .ok (.istore 7, 2) := by decide +kernel
theorem dX7_photograph_126 : decode cX7_photograph 126 = .ok (.iload 7, 2) := by decide +kernel
theorem dX7_photograph_128 : decode cX7_photograph 128 = .ok (.iload 4, 2) := by decide +kernel
theorem dX7_photograph_130 : decode cX7_photograph 130 = .ok (.if_icmp .ge 26, 3) := by decide +kernel
theorem dX7_photograph_133 : decode cX7_photograph 133 = .ok (.aload_n 0, 1) := by decide +kernel
theorem dX7_photograph_134 : decode cX7_photograph 134 = .ok (.getfield 56, 3) := by decide +kernel
theorem dX7_photograph_137 : decode cX7_photograph 137 = .ok (.iload 7, 2) := by decide +kernel
theorem dX7_photograph_139 : decode cX7_photograph 139 = .ok (.aload_n 0, 1) := by decide +kernel
theorem dX7_photograph_140 : decode cX7_photograph 140 = .ok (.getfield 16, 3) := by decide +kernel
theorem dX7_photograph_143 : decode cX7_photograph 143 = .ok (.iload 6, 2) := by decide +kernel
theorem dX7_photograph_145 : decode cX7_photograph 145 = .ok (.iload 7, 2) := by decide +kernel
theorem dX7_photograph_147 : decode cX7_photograph 147 = .ok (.iadd, 1) := by decide +kernel
theorem dX7_photograph_148 : decode cX7_photograph 148 = .ok (.iaload, 1) := by decide +kernel
theorem dX7_photograph_149 : decode cX7_photograph 149 = .ok (.iastore, 1) := by decide +kernel
theorem dX7_photograph_150 : decode cX7_photograph 150 = .ok (.iinc 7 1, 3) := by decide +kernel
theorem dX7_photograph_153 : decode cX7_photograph 153 = .ok (.goto (-27), 3) := by decide +kernel
theorem dX7_photograph_156 : decode cX7_photograph 156 = .ok (.aload_n 0, 1) := by decide +kernel
theorem dX7_photograph_157 : decode cX7_photograph 157 = .ok (.iload 4, 2) := by decide +kernel
theorem dX7_photograph_159 : decode cX7_photograph 159 = .ok (.iconst 5, 1) := by decide +kernel
theorem dX7_photograph_160 : decode cX7_photograph 160 = .ok (.idiv, 1) := by decide +kernel
theorem dX7_photograph_161 : decode cX7_photograph 161 = .ok (.putfield 216, 3) := by decide +kernel
theorem dX7_photograph_164 : decode cX7_photograph 164 = .ok (.aload_n 0, 1) := by decide +kernel
theorem dX7_photograph_165 : decode cX7_photograph 165 = .ok (.getfield 216, 3) := by decide +kernel
theorem dX7_photograph_168 : decode cX7_photograph 168 = .ok (.ireturn, 1) := by decide +kernel
theorem dX7_taken_0 : decode cX7_taken 0 = .ok (.aload_n 0, 1) := by decide +kernel
theorem dX7_taken_1 : decode cX7_taken 1 = .ok (.iload_n 1, 1) := by decide +kernel
theorem dX7_taken_2 : decode cX7_taken 2 = .ok (.invokevirtual 115, 3) := by decide +kernel
theorem dX7_taken_5 : decode cX7_taken 5 = .ok (.ifCond .ne 5, 3) := by decide +kernel
theorem dX7_taken_8 : decode cX7_taken 8 = .ok (.iconst (-1), 1) := by decide +kernel
theorem dX7_taken_9 : decode cX7_taken 9 = .ok (.ireturn, 1) := by decide +kernel
theorem dX7_taken_10 : decode cX7_taken 10 = .ok (.aload_n 0, 1) := by decide +kernel
theorem dX7_taken_11 : decode cX7_taken 11 = .ok (.getfield 216, 3) := by decide +kernel
theorem dX7_taken_14 : decode cX7_taken 14 = .ok (.ifCond .ne 6, 3) := by decide +kernel
theorem dX7_taken_17 : decode cX7_taken 17 = .ok (.bipush (-3), 2) := by decide +kernel
theorem dX7_taken_19 : decode cX7_taken 19 = .ok (.ireturn, 1) := by decide +kernel
theorem dX7_taken_20 : decode cX7_taken 20 = .ok (.iconst 0, 1) := by decide +kernel
theorem dX7_taken_21 : decode cX7_taken 21 = .ok (.istore_n 2, 1) := by decide +kernel
theorem dX7_taken_22 : decode cX7_taken 22 = .ok (.iconst 0, 1) := by decide +kernel
theorem dX7_taken_23 : decode cX7_taken 23 = .ok (.istore_n 3, 1) := by decide +kernel
theorem dX7_taken_24 : decode cX7_taken 24 = .ok (.iload_n 3, 1) := by decide +kernel
theorem dX7_taken_25 : decode cX7_taken 25 = .ok (.aload_n 0, 1) := by decide +kernel
theorem dX7_taken_26 : decode cX7_taken 26 = .ok (.iload_n 1, 1) := by decide +kernel
theorem dX7_taken_27 : decode cX7_taken 27 = .ok (.invokevirtual 119, 3) := by decide +kernel
theorem dX7_taken_30 : decode cX7_taken 30 = .ok (.if_icmp .ge 137, 3) := by decide +kernel
theorem dX7_taken_33 : decode cX7_taken 33 = .ok (.iconst 1, 1) := by decide +kernel
theorem dX7_taken_34 : decode cX7_taken 34 = .ok (.istore 4, 2) := by decide +kernel
theorem dX7_taken_36 : decode cX7_taken 36 = .ok (.iconst 0, 1) := by decide +kernel
theorem dX7_taken_37 : decode cX7_taken 37 = .ok (.istore 5, 2) := by decide +kernel
theorem dX7_taken_39 : decode cX7_taken 39 = .ok (.iload 5, 2) := by decide +kernel
theorem dX7_taken_41 : decode cX7_taken 41 = .ok (.aload_n 0, 1) := by decide +kernel
theorem dX7_taken_42 : decode cX7_taken 42 = .ok (.getfield 216, 3) := by decide +kernel
theorem dX7_taken_45 : decode cX7_taken 45 = .ok (.if_icmp .ge 101, 3) := by decide +kernel
theorem dX7_taken_48 : decode cX7_taken 48 = .ok (.aload_n 0, 1) := by decide +kernel
theorem dX7_taken_49 : decode cX7_taken 49 = .ok (.iload_n 1, 1) := by decide +kernel
theorem dX7_taken_50 : decode cX7_taken 50 = .ok (.iload_n 3, 1) := by decide +kernel
theorem dX7_taken_51 : decode cX7_taken 51 = .ok (.aload_n 0, 1) := by decide +kernel
theorem dX7_taken_52 : decode cX7_taken 52 = .ok (.getfield 56, 3) := by decide +kernel
theorem dX7_taken_55 : decode cX7_taken 55 = .ok (.iconst 5, 1) := by decide +kernel
theorem dX7_taken_56 : decode cX7_taken 56 = .ok (.iload 5, 2) := by decide +kernel
theorem dX7_taken_58 : decode cX7_taken 58 = .ok (.imul, 1) := by decide +kernel
theorem dX7_taken_59 : decode cX7_taken 59 = .ok (.iaload, 1) := by decide +kernel
theorem dX7_taken_60 : decode cX7_taken 60 = .ok (.aload_n 0, 1) := by decide +kernel
theorem dX7_taken_61 : decode cX7_taken 61 = .ok (.getfield 56, 3) := by decide +kernel
theorem dX7_taken_64 : decode cX7_taken 64 = .ok (.iconst 5, 1) := by decide +kernel
theorem dX7_taken_65 : decode cX7_taken 65 = .ok (.iload 5, 2) := by decide +kernel
theorem dX7_taken_67 : decode cX7_taken 67 = .ok (.imul, 1) := by decide +kernel
theorem dX7_taken_68 : decode cX7_taken 68 = .ok (.iconst 1, 1) := by decide +kernel
theorem dX7_taken_69 : decode cX7_taken 69 = .ok (.iadd, 1) := by decide +kernel
theorem dX7_taken_70 : decode cX7_taken 70 = .ok (.iaload, 1) := by decide +kernel
theorem dX7_taken_71 : decode cX7_taken 71 = .ok (.bipush 60, 2) := by decide +kernel
theorem dX7_taken_73 : decode cX7_taken 73 = .ok (.invokevirtual 199, 3) := by decide +kernel
theorem dX7_taken_76 : decode cX7_taken 76 = .ok (.iload 4, 2) := by decide +kernel
theorem dX7_taken_78 : decode cX7_taken 78 = .ok (.aload_n 0, 1) := by decide +kernel
theorem dX7_taken_79 : decode cX7_taken 79 = .ok (.getfield 178, 3) := by decide +kernel
theorem dX7_taken_82 : decode cX7_taken 82 = .ok (.aload_n 0, 1) := by decide +kernel
theorem dX7_taken_83 : decode cX7_taken 83 = .ok (.getfield 56, 3) := by decide +kernel
theorem dX7_taken_86 : decode cX7_taken 86 = .ok (.iconst 5, 1) := by decide +kernel
theorem dX7_taken_87 : decode cX7_taken 87 = .ok (.iload 5, 2) := by decide +kernel
theorem dX7_taken_89 : decode cX7_taken 89 = .ok (.imul, 1) := by decide +kernel
theorem dX7_taken_90 : decode cX7_taken 90 = .ok (.iconst 2, 1) := by decide +kernel
theorem dX7_taken_91 : decode cX7_taken 91 = .ok (.iadd, 1) := by decide +kernel
theorem dX7_taken_92 : decode cX7_taken 92 = .ok (.iaload, 1) := by decide +kernel
theorem dX7_taken_93 : decode cX7_taken 93 = .ok (.if_icmp .ne 43, 3) := by decide +kernel
theorem dX7_taken_96 : decode cX7_taken 96 = .ok (.aload_n 0, 1) := by decide +kernel
theorem dX7_taken_97 : decode cX7_taken 97 = .ok (.getfield 169, 3) := by decide +kernel
theorem dX7_taken_100 : decode cX7_taken 100 = .ok (.aload_n 0, 1) := by decide +kernel
theorem dX7_taken_101 : decode cX7_taken 101 = .ok (.getfield 56, 3) := by decide +kernel
theorem dX7_taken_104 : decode cX7_taken 104 = .ok (.iconst 5, 1) := by decide +kernel
theorem dX7_taken_105 : decode cX7_taken 105 = .ok (.iload 5, 2) := by decide +kernel
theorem dX7_taken_107 : decode cX7_taken 107 = .ok (.imul, 1) := by decide +kernel
theorem dX7_taken_108 : decode cX7_taken 108 = .ok (.iconst 3, 1) := by decide +kernel
theorem dX7_taken_109 : decode cX7_taken 109 = .ok (.iadd, 1) := by decide +kernel
theorem dX7_taken_110 : decode cX7_taken 110 = .ok (.iaload, 1) := by decide +kernel
theorem dX7_taken_111 : decode cX7_taken 111 = .ok (.if_icmp .ne 25, 3) := by decide +kernel
theorem dX7_taken_114 : decode cX7_taken 114 = .ok (.aload_n 0, 1) := by decide +kernel
theorem dX7_taken_115 : decode cX7_taken 115 = .ok (.getfield 172, 3) := by decide +kernel
theorem dX7_taken_118 : decode cX7_taken 118 = .ok (.aload_n 0, 1) := by decide +kernel
theorem dX7_taken_119 : decode cX7_taken 119 = .ok (.getfield 56, 3) := by decide +kernel
theorem dX7_taken_122 : decode cX7_taken 122 = .ok (.iconst 5, 1) := by decide +kernel
theorem dX7_taken_123 : decode cX7_taken 123 = .ok (.iload 5, 2) := by decide +kernel
theorem dX7_taken_125 : decode cX7_taken 125 = .ok (.imul, 1) := by decide +kernel
theorem dX7_taken_126 : decode cX7_taken 126 = .ok (.iconst 4, 1) := by decide +kernel
theorem dX7_taken_127 : decode cX7_taken 127 = .ok (.iadd, 1) := by decide +kernel
theorem dX7_taken_128 : decode cX7_taken 128 = .ok (.iaload, 1) := by decide +kernel
theorem dX7_taken_129 : decode cX7_taken 129 = .ok (.if_icmp .ne 7, 3) := by decide +kernel
theorem dX7_taken_132 : decode cX7_taken 132 = .ok (.iconst 1, 1) := by decide +kernel
theorem dX7_taken_133 : decode cX7_taken 133 = .ok (.goto 4, 3) := by decide +kernel
theorem dX7_taken_136 : decode cX7_taken 136 = .ok (.iconst 0, 1) := by decide +kernel
theorem dX7_taken_137 : decode cX7_taken 137 = .ok (.iand, 1) := by decide +kernel
theorem dX7_taken_138 : decode cX7_taken 138 = .ok (.istore 4, 2) := by decide +kernel
theorem dX7_taken_140 : decode cX7_taken 140 = .ok (.iinc 5 1, 3) := by decide +kernel
theorem dX7_taken_143 : decode cX7_taken 143 = .ok (.goto (-104), 3) := by decide +kernel
theorem dX7_taken_146 : decode cX7_taken 146 = .ok (.iload_n 2, 1) := by decide +kernel
theorem dX7_taken_147 : decode cX7_taken 147 = .ok (.iload 4, 2) := by decide +kernel
theorem dX7_taken_149 : decode cX7_taken 149 = .ok (.ifCond .eq 9, 3) := by decide +kernel
theorem dX7_taken_152 : decode cX7_taken 152 = .ok (.iconst 1, 1) := by decide +kernel
theorem dX7_taken_153 : decode cX7_taken 153 = .ok (.iload_n 3, 1) := by decide +kernel
theorem dX7_taken_154 : decode cX7_taken 154 = .ok (.ishl, 1) := by decide +kernel
theorem dX7_taken_155 : decode cX7_taken 155 = .ok (.goto 4, 3) := by decide +kernel
theorem dX7_taken_158 : decode cX7_taken 158 = .ok (.iconst 0, 1) := by decide +kernel
theorem dX7_taken_159 : decode cX7_taken 159 = .ok (.ior, 1) := by decide +kernel
theorem dX7_taken_160 : decode cX7_taken 160 = .ok (.istore_n 2, 1) := by decide +kernel
theorem dX7_taken_161 : decode cX7_taken 161 = .ok (.iinc 3 1, 3) := by decide +kernel
theorem dX7_taken_164 : decode cX7_taken 164 = .ok (.goto (-140), 3) := by decide +kernel
theorem dX7_taken_167 : decode cX7_taken 167 = .ok (.iload_n 2, 1) := by decide +kernel
theorem dX7_taken_168 : decode cX7_taken 168 = .ok (.ireturn, 1) := by decide +kernel
theorem dX7_isWalker_0 : decode cX7_isWalker 0 = .ok (.iload_n 1, 1) := by decide +kernel
theorem dX7_isWalker_1 : decode cX7_isWalker 1 = .ok (.ifCond .lt 15, 3) := by decide +kernel
theorem dX7_isWalker_4 : decode cX7_isWalker 4 = .ok (.iload_n 1, 1) := by decide +kernel
theorem dX7_isWalker_5 : decode cX7_isWalker 5 = .ok (.aload_n 0, 1) := by decide +kernel
theorem dX7_isWalker_6 : decode cX7_isWalker 6 = .ok (.getfield 219, 3) := by decide +kernel
theorem dX7_isWalker_9 : decode cX7_isWalker 9 = .ok (.if_icmp .ge 7, 3) := by decide +kernel
theorem dX7_isWalker_12 : decode cX7_isWalker 12 = .ok (.iconst 1, 1) := by decide +kernel
theorem dX7_isWalker_13 : decode cX7_isWalker 13 = .ok (.goto 4, 3) := by decide +kernel
theorem dX7_isWalker_16 : decode cX7_isWalker 16 = .ok (.iconst 0, 1) := by decide +kernel
theorem dX7_isWalker_17 : decode cX7_isWalker 17 = .ok (.ireturn, 1) := by decide +kernel
theorem dX7_walker_0 : decode cX7_walker 0 = .ok (.aload_n 0, 1) := by decide +kernel
theorem dX7_walker_1 : decode cX7_walker 1 = .ok (.iload_n 2, 1) := by decide +kernel
theorem dX7_walker_2 : decode cX7_walker 2 = .ok (.iload_n 3, 1) := by decide +kernel
theorem dX7_walker_3 : decode cX7_walker 3 = .ok (.invokevirtual 163, 3) := by decide +kernel
theorem dX7_walker_6 : decode cX7_walker 6 = .ok (.ifCond .ne 5, 3) := by decide +kernel
theorem dX7_walker_9 : decode cX7_walker 9 = .ok (.iconst (-1), 1) := by decide +kernel
theorem dX7_walker_10 : decode cX7_walker 10 = .ok (.ireturn, 1) := by decide +kernel
theorem dX7_walker_11 : decode cX7_walker 11 = .ok (.iload_n 1, 1) := by decide +kernel
theorem dX7_walker_12 : decode cX7_walker 12 = .ok (.iconst 0, 1) := by decide +kernel
theorem dX7_walker_13 : decode cX7_walker 13 = .ok (.iconst 2, 1) := by decide +kernel
theorem dX7_walker_14 : decode cX7_walker 14 = .ok (.invokestatic 108, 3) := by decide +kernel
theorem dX7_walker_17 : decode cX7_walker 17 = .ok (.ifCond .eq 13, 3) := by decide +kernel
theorem dX7_walker_20 : decode cX7_walker 20 = .ok (.iload 4, 2) := by decide +kernel
theorem dX7_walker_22 : decode cX7_walker 22 = .ok (.iconst 0, 1) := by decide +kernel
theorem dX7_walker_23 : decode cX7_walker 23 = .ok (.iconst 2, 1) := by decide +kernel
theorem dX7_walker_24 : decode cX7_walker 24 = .ok (.invokestatic 108, 3) := by decide +kernel
theorem dX7_walker_27 : decode cX7_walker 27 = .ok (.ifCond .ne 6, 3) := by decide +kernel
theorem dX7_walker_30 : decode cX7_walker 30 = .ok (.bipush (-2), 2) := by decide +kernel
theorem dX7_walker_32 : decode cX7_walker 32 = .ok (.ireturn, 1) := by decide +kernel
theorem dX7_walker_33 : decode cX7_walker 33 = .ok (.aload_n 0, 1) := by decide +kernel
theorem dX7_walker_34 : decode cX7_walker 34 = .ok (.getfield 219, 3) := by decide +kernel
theorem dX7_walker_37 : decode cX7_walker 37 = .ok (.bipush 8, 2) := by decide +kernel
theorem dX7_walker_39 : decode cX7_walker 39 = .ok (.if_icmp .ne 6, 3) := by decide +kernel
theorem dX7_walker_42 : decode cX7_walker 42 = .ok (.bipush (-4), 2) := by decide +kernel
theorem dX7_walker_44 : decode cX7_walker 44 = .ok (.ireturn, 1) := by decide +kernel
theorem dX7_walker_45 : decode cX7_walker 45 = .ok (.aload_n 0, 1) := by decide +kernel
theorem dX7_walker_46 : decode cX7_walker 46 = .ok (.getfield 219, 3) := by decide +kernel
theorem dX7_walker_49 : decode cX7_walker 49 = .ok (.istore 5, 2) := by decide +kernel
theorem dX7_walker_51 : decode cX7_walker 51 = .ok (.aload_n 0, 1) := by decide +kernel
theorem dX7_walker_52 : decode cX7_walker 52 = .ok (.getfield 59, 3) := by decide +kernel
theorem dX7_walker_55 : decode cX7_walker 55 = .ok (.iload 5, 2) := by decide +kernel
theorem dX7_walker_57 : decode cX7_walker 57 = .ok (.iload_n 1, 1) := by decide +kernel
theorem dX7_walker_58 : decode cX7_walker 58 = .ok (.iastore, 1) := by decide +kernel
theorem dX7_walker_59 : decode cX7_walker 59 = .ok (.aload_n 0, 1) := by decide +kernel
theorem dX7_walker_60 : decode cX7_walker 60 = .ok (.getfield 62, 3) := by decide +kernel
theorem dX7_walker_63 : decode cX7_walker 63 = .ok (.iload 5, 2) := by decide +kernel
theorem dX7_walker_65 : decode cX7_walker 65 = .ok (.iload_n 2, 1) := by decide +kernel
theorem dX7_walker_66 : decode cX7_walker 66 = .ok (.iastore, 1) := by decide +kernel
theorem dX7_walker_67 : decode cX7_walker 67 = .ok (.aload_n 0, 1) := by decide +kernel
theorem dX7_walker_68 : decode cX7_walker 68 = .ok (.getfield 65, 3) := by decide +kernel
theorem dX7_walker_71 : decode cX7_walker 71 = .ok (.iload 5, 2) := by decide +kernel
theorem dX7_walker_73 : decode cX7_walker 73 = .ok (.iload_n 3, 1) := by decide +kernel
theorem dX7_walker_74 : decode cX7_walker 74 = .ok (.iastore, 1) := by decide +kernel
theorem dX7_walker_75 : decode cX7_walker 75 = .ok (.aload_n 0, 1) := by decide +kernel
theorem dX7_walker_76 : decode cX7_walker 76 = .ok (.getfield 68, 3) := by decide +kernel
theorem dX7_walker_79 : decode cX7_walker 79 = .ok (.iload 5, 2) := by decide +kernel
theorem dX7_walker_81 : decode cX7_walker 81 = .ok (.iload 4, 2) := by decide +kernel
theorem dX7_walker_83 : decode cX7_walker 83 = .ok (.iastore, 1) := by decide +kernel
theorem dX7_walker_84 : decode cX7_walker 84 = .ok (.aload_n 0, 1) := by decide +kernel
theorem dX7_walker_85 : decode cX7_walker 85 = .ok (.getfield 71, 3) := by decide +kernel
theorem dX7_walker_88 : decode cX7_walker 88 = .ok (.iload 5, 2) := by decide +kernel
theorem dX7_walker_90 : decode cX7_walker 90 = .ok (.iconst 0, 1) := by decide +kernel
theorem dX7_walker_91 : decode cX7_walker 91 = .ok (.iastore, 1) := by decide +kernel
theorem dX7_walker_92 : decode cX7_walker 92 = .ok (.aload_n 0, 1) := by decide +kernel
theorem dX7_walker_93 : decode cX7_walker 93 = .ok (.getfield 74, 3) := by decide +kernel
theorem dX7_walker_96 : decode cX7_walker 96 = .ok (.iload 5, 2) := by decide +kernel
theorem dX7_walker_98 : decode cX7_walker 98 = .ok (.iconst 0, 1) := by decide +kernel
theorem dX7_walker_99 : decode cX7_walker 99 = .ok (.iastore, 1) := by decide +kernel
theorem dX7_walker_100 : decode cX7_walker 100 = .ok (.aload_n 0, 1) := by decide +kernel
theorem dX7_walker_101 : decode cX7_walker 101 = .ok (.getfield 77, 3) := by decide +kernel
theorem dX7_walker_104 : decode cX7_walker 104 = .ok (.iload 5, 2) := by decide +kernel
theorem dX7_walker_106 : decode cX7_walker 106 = .ok (.iconst 0, 1) := by decide +kernel
theorem dX7_walker_107 : decode cX7_walker 107 = .ok (.iastore, 1) := by decide +kernel
theorem dX7_walker_108 : decode cX7_walker 108 = .ok (.aload_n 0, 1) := by decide +kernel
theorem dX7_walker_109 : decode cX7_walker 109 = .ok (.getfield 80, 3) := by decide +kernel
theorem dX7_walker_112 : decode cX7_walker 112 = .ok (.iload 5, 2) := by decide +kernel
theorem dX7_walker_114 : decode cX7_walker 114 = .ok (.bipush (-9), 2) := by decide +kernel
theorem dX7_walker_116 : decode cX7_walker 116 = .ok (.iastore, 1) := by decide +kernel
theorem dX7_walker_117 : decode cX7_walker 117 = .ok (.iconst 0, 1) := by decide +kernel
theorem dX7_walker_118 : decode cX7_walker 118 = .ok (.istore 6, 2) := by decide +kernel
theorem dX7_walker_120 : decode cX7_walker 120 = .ok (.iload 6, 2) := by decide +kernel
theorem dX7_walker_122 : decode cX7_walker 122 = .ok (.bipush 50, 2) := by decide +kernel
theorem dX7_walker_124 : decode cX7_walker 124 = .ok (.if_icmp .ge 23, 3) := by decide +kernel
theorem dX7_walker_127 : decode cX7_walker 127 = .ok (.aload_n 0, 1) := by decide +kernel
theorem dX7_walker_128 : decode cX7_walker 128 = .ok (.getfield 83, 3) := by decide +kernel
theorem dX7_walker_131 : decode cX7_walker 131 = .ok (.bipush 50, 2) := by decide +kernel
theorem dX7_walker_133 : decode cX7_walker 133 = .ok (.iload 5, 2) := by decide +kernel
theorem dX7_walker_135 : decode cX7_walker 135 = .ok (.imul, 1) := by decide +kernel
theorem dX7_walker_136 : decode cX7_walker 136 = .ok (.iload 6, 2) := by decide +kernel
theorem dX7_walker_138 : decode cX7_walker 138 = .ok (.iadd, 1) := by decide +kernel
theorem dX7_walker_139 : decode cX7_walker 139 = .ok (.iconst 0, 1) := by decide +kernel
theorem dX7_walker_140 : decode cX7_walker 140 = .ok (.iastore, 1) := by decide +kernel
theorem dX7_walker_141 : decode cX7_walker 141 = .ok (.iinc 6 1, 3) := by decide +kernel
theorem dX7_walker_144 : decode cX7_walker 144 = .ok (.goto (-24), 3) := by decide +kernel
theorem dX7_walker_147 : decode cX7_walker 147 = .ok (.aload_n 0, 1) := by decide +kernel
theorem dX7_walker_148 : decode cX7_walker 148 = .ok (.dup, 1) := by decide +kernel
theorem dX7_walker_149 : decode cX7_walker 149 = .ok (.getfield 219, 3) := by decide +kernel
theorem dX7_walker_152 : decode cX7_walker 152 = .ok (.iconst 1, 1) := by decide +kernel
theorem dX7_walker_153 : decode cX7_walker 153 = .ok (.iadd, 1) := by decide +kernel
theorem dX7_walker_154 : decode cX7_walker 154 = .ok (.putfield 219, 3) := by decide +kernel
theorem dX7_walker_157 : decode cX7_walker 157 = .ok (.iload 5, 2) := by decide +kernel
theorem dX7_walker_159 : decode cX7_walker 159 = .ok (.ireturn, 1) := by decide +kernel
theorem dX7_hand_0 : decode cX7_hand 0 = .ok (.iload_n 2, 1) := by decide +kernel
theorem dX7_hand_1 : decode cX7_hand 1 = .ok (.iconst 2, 1) := by decide +kernel
theorem dX7_hand_2 : decode cX7_hand 2 = .ok (.if_icmp .ne 5, 3) := by decide +kernel
theorem dX7_hand_5 : decode cX7_hand 5 = .ok (.iload_n 1, 1) := by decide +kernel
theorem dX7_hand_6 : decode cX7_hand 6 = .ok (.ireturn, 1) := by decide +kernel
theorem dX7_hand_7 : decode cX7_hand 7 = .ok (.iload_n 0, 1) := by decide +kernel
theorem dX7_hand_8 : decode cX7_hand 8 = .ok (.iconst 2, 1) := by decide +kernel
theorem dX7_hand_9 : decode cX7_hand 9 = .ok (.irem, 1) := by decide +kernel
theorem dX7_hand_10 : decode cX7_hand 10 = .ok (.ifCond .ne 7, 3) := by decide +kernel
theorem dX7_hand_13 : decode cX7_hand 13 = .ok (.iconst 1, 1) := by decide +kernel
theorem dX7_hand_14 : decode cX7_hand 14 = .ok (.goto 4, 3) := by decide +kernel
theorem dX7_hand_17 : decode cX7_hand 17 = .ok (.iconst 0, 1) := by decide +kernel
theorem dX7_hand_18 : decode cX7_hand 18 = .ok (.iload_n 2, 1) := by decide +kernel
theorem dX7_hand_19 : decode cX7_hand 19 = .ok (.ifCond .ne 7, 3) := by decide +kernel
theorem dX7_hand_22 : decode cX7_hand 22 = .ok (.iconst 1, 1) := by decide +kernel
theorem dX7_hand_23 : decode cX7_hand 23 = .ok (.goto 4, 3) := by decide +kernel
theorem dX7_hand_26 : decode cX7_hand 26 = .ok (.iconst 0, 1) := by decide +kernel
theorem dX7_hand_27 : decode cX7_hand 27 = .ok (.if_icmp .ne 7, 3) := by decide +kernel
theorem dX7_hand_30 : decode cX7_hand 30 = .ok (.iconst 1, 1) := by decide +kernel
theorem dX7_hand_31 : decode cX7_hand 31 = .ok (.goto 4, 3) := by decide +kernel
theorem dX7_hand_34 : decode cX7_hand 34 = .ok (.iconst 0, 1) := by decide +kernel
theorem dX7_hand_35 : decode cX7_hand 35 = .ok (.istore_n 3, 1) := by decide +kernel
theorem dX7_hand_36 : decode cX7_hand 36 = .ok (.iload_n 1, 1) := by decide +kernel
theorem dX7_hand_37 : decode cX7_hand 37 = .ok (.iload_n 3, 1) := by decide +kernel
theorem dX7_hand_38 : decode cX7_hand 38 = .ok (.ifCond .eq 7, 3) := by decide +kernel
theorem dX7_hand_41 : decode cX7_hand 41 = .ok (.iconst 1, 1) := by decide +kernel
theorem dX7_hand_42 : decode cX7_hand 42 = .ok (.goto 4, 3) := by decide +kernel
theorem dX7_hand_45 : decode cX7_hand 45 = .ok (.iconst 2, 1) := by decide +kernel
theorem dX7_hand_46 : decode cX7_hand 46 = .ok (.iadd, 1) := by decide +kernel
theorem dX7_hand_47 : decode cX7_hand 47 = .ok (.iconst 3, 1) := by decide +kernel
theorem dX7_hand_48 : decode cX7_hand 48 = .ok (.irem, 1) := by decide +kernel
theorem dX7_hand_49 : decode cX7_hand 49 = .ok (.ireturn, 1) := by decide +kernel
theorem dX7_takes_0 : decode cX7_takes 0 = .ok (.aload_n 0, 1) := by decide +kernel
theorem dX7_takes_1 : decode cX7_takes 1 = .ok (.getfield 25, 3) := by decide +kernel
theorem dX7_takes_4 : decode cX7_takes 4 = .ok (.iload_n 2, 1) := by decide +kernel
theorem dX7_takes_5 : decode cX7_takes 5 = .ok (.iaload, 1) := by decide +kernel
theorem dX7_takes_6 : decode cX7_takes 6 = .ok (.iconst 2, 1) := by decide +kernel
theorem dX7_takes_7 : decode cX7_takes 7 = .ok (.if_icmp .eq 31, 3) := by decide +kernel
theorem dX7_takes_10 : decode cX7_takes 10 = .ok (.aload_n 0, 1) := by decide +kernel
theorem dX7_takes_11 : decode cX7_takes 11 = .ok (.getfield 59, 3) := by decide +kernel
theorem dX7_takes_14 : decode cX7_takes 14 = .ok (.iload_n 1, 1) := by decide +kernel
theorem dX7_takes_15 : decode cX7_takes 15 = .ok (.iaload, 1) := by decide +kernel
theorem dX7_takes_16 : decode cX7_takes 16 = .ok (.ifCond .le 26, 3) := by decide +kernel
theorem dX7_takes_19 : decode cX7_takes 19 = .ok (.aload_n 0, 1) := by decide +kernel
theorem dX7_takes_20 : decode cX7_takes 20 = .ok (.getfield 25, 3) := by decide +kernel
theorem dX7_takes_23 : decode cX7_takes 23 = .ok (.iload_n 2, 1) := by decide +kernel
theorem dX7_takes_24 : decode cX7_takes 24 = .ok (.iaload, 1) := by decide +kernel
theorem dX7_takes_25 : decode cX7_takes 25 = .ok (.iconst 1, 1) := by decide +kernel
theorem dX7_takes_26 : decode cX7_takes 26 = .ok (.if_icmp .ne 16, 3) := by decide +kernel
theorem dX7_takes_29 : decode cX7_takes 29 = .ok (.aload_n 0, 1) := by decide +kernel
theorem dX7_takes_30 : decode cX7_takes 30 = .ok (.getfield 28, 3) := by decide +kernel
theorem dX7_takes_33 : decode cX7_takes 33 = .ok (.iload_n 2, 1) := by decide +kernel
theorem dX7_takes_34 : decode cX7_takes 34 = .ok (.iaload, 1) := by decide +kernel
theorem dX7_takes_35 : decode cX7_takes 35 = .ok (.ifCond .ne 7, 3) := by decide +kernel
theorem dX7_takes_38 : decode cX7_takes 38 = .ok (.iconst 1, 1) := by decide +kernel
theorem dX7_takes_39 : decode cX7_takes 39 = .ok (.goto 4, 3) := by decide +kernel
theorem dX7_takes_42 : decode cX7_takes 42 = .ok (.iconst 0, 1) := by decide +kernel
theorem dX7_takes_43 : decode cX7_takes 43 = .ok (.ireturn, 1) := by decide +kernel
theorem dX7_choice_0 : decode cX7_choice 0 = .ok (.aload_n 0, 1) := by decide +kernel
theorem dX7_choice_1 : decode cX7_choice 1 = .ok (.getfield 62, 3) := by decide +kernel
theorem dX7_choice_4 : decode cX7_choice 4 = .ok (.iload_n 1, 1) := by decide +kernel
theorem dX7_choice_5 : decode cX7_choice 5 = .ok (.iaload, 1) := by decide +kernel
theorem dX7_choice_6 : decode cX7_choice 6 = .ok (.istore_n 2, 1) := by decide +kernel
theorem dX7_choice_7 : decode cX7_choice 7 = .ok (.bipush (-9), 2) := by decide +kernel
theorem dX7_choice_9 : decode cX7_choice 9 = .ok (.istore_n 3, 1) := by decide +kernel
theorem dX7_choice_10 : decode cX7_choice 10 = .ok (.iconst 0, 1) := by decide +kernel
theorem dX7_choice_11 : decode cX7_choice 11 = .ok (.istore 4, 2) := by decide +kernel
theorem dX7_choice_13 : decode cX7_choice 13 = .ok (.iconst 0, 1) := by decide +kernel
theorem dX7_choice_14 : decode cX7_choice 14 = .ok (.istore 5, 2) := by decide +kernel
theorem dX7_choice_16 : decode cX7_choice 16 = .ok (.iload 5, 2) := by decide +kernel
theorem dX7_choice_18 : decode cX7_choice 18 = .ok (.iconst 3, 1) := by decide +kernel
theorem dX7_choice_19 : decode cX7_choice 19 = .ok (.if_icmp .ge 106, 3) := by decide +kernel
theorem dX7_choice_22 : decode cX7_choice 22 = .ok (.aload_n 0, 1) := by decide +kernel
theorem dX7_choice_23 : decode cX7_choice 23 = .ok (.getfield 65, 3) := by decide +kernel
theorem dX7_choice_26 : decode cX7_choice 26 = .ok (.iload_n 1, 1) := by decide +kernel
theorem dX7_choice_27 : decode cX7_choice 27 = .ok (.iaload, 1) := by decide +kernel
theorem dX7_choice_28 : decode cX7_choice 28 = .ok (.aload_n 0, 1) := by decide +kernel
theorem dX7_choice_29 : decode cX7_choice 29 = .ok (.getfield 68, 3) := by decide +kernel
theorem dX7_choice_32 : decode cX7_choice 32 = .ok (.iload_n 1, 1) := by decide +kernel
theorem dX7_choice_33 : decode cX7_choice 33 = .ok (.iaload, 1) := by decide +kernel
theorem dX7_choice_34 : decode cX7_choice 34 = .ok (.iload 5, 2) := by decide +kernel
theorem dX7_choice_36 : decode cX7_choice 36 = .ok (.invokestatic 222, 3) := by decide +kernel
theorem dX7_choice_39 : decode cX7_choice 39 = .ok (.istore 6, 2) := by decide +kernel
theorem dX7_choice_41 : decode cX7_choice 41 = .ok (.aload_n 0, 1) := by decide +kernel
theorem dX7_choice_42 : decode cX7_choice 42 = .ok (.iload_n 2, 1) := by decide +kernel
theorem dX7_choice_43 : decode cX7_choice 43 = .ok (.aload_n 0, 1) := by decide +kernel
theorem dX7_choice_44 : decode cX7_choice 44 = .ok (.getfield 65, 3) := by decide +kernel
theorem dX7_choice_47 : decode cX7_choice 47 = .ok (.iload_n 1, 1) := by decide +kernel
theorem dX7_choice_48 : decode cX7_choice 48 = .ok (.iaload, 1) := by decide +kernel
theorem dX7_choice_49 : decode cX7_choice 49 = .ok (.iload 6, 2) := by decide +kernel
theorem dX7_choice_51 : decode cX7_choice 51 = .ok (.invokevirtual 159, 3) := by decide +kernel
theorem dX7_choice_54 : decode cX7_choice 54 = .ok (.istore 7, 2) := by decide +kernel
theorem dX7_choice_56 : decode cX7_choice 56 = .ok (.aload_n 0, 1) := by decide +kernel
theorem dX7_choice_57 : decode cX7_choice 57 = .ok (.getfield 59, 3) := by decide +kernel
theorem dX7_choice_60 : decode cX7_choice 60 = .ok (.iload_n 1, 1) := by decide +kernel
theorem dX7_choice_61 : decode cX7_choice 61 = .ok (.iaload, 1) := by decide +kernel
theorem dX7_choice_62 : decode cX7_choice 62 = .ok (.iconst 2, 1) := by decide +kernel
theorem dX7_choice_63 : decode cX7_choice 63 = .ok (.if_icmp .ne 18, 3) := by decide +kernel
theorem dX7_choice_66 : decode cX7_choice 66 = .ok (.aload_n 0, 1) := by decide +kernel
theorem dX7_choice_67 : decode cX7_choice 67 = .ok (.getfield 83, 3) := by decide +kernel
theorem dX7_choice_70 : decode cX7_choice 70 = .ok (.bipush 50, 2) := by decide +kernel
theorem dX7_choice_72 : decode cX7_choice 72 = .ok (.iload_n 1, 1) := by decide +kernel
theorem dX7_choice_73 : decode cX7_choice 73 = .ok (.imul, 1) := by decide +kernel
theorem dX7_choice_74 : decode cX7_choice 74 = .ok (.iload 7, 2) := by decide +kernel
theorem dX7_choice_76 : decode cX7_choice 76 = .ok (.iadd, 1) := by decide +kernel
theorem dX7_choice_77 : decode cX7_choice 77 = .ok (.iaload, 1) := by decide +kernel
theorem dX7_choice_78 : decode cX7_choice 78 = .ok (.goto 4, 3) := by decide +kernel
theorem dX7_choice_81 : decode cX7_choice 81 = .ok (.iconst 0, 1) := by decide +kernel
theorem dX7_choice_82 : decode cX7_choice 82 = .ok (.istore 8, 2) := by decide +kernel
theorem dX7_choice_84 : decode cX7_choice 84 = .ok (.aload_n 0, 1) := by decide +kernel
theorem dX7_choice_85 : decode cX7_choice 85 = .ok (.iload_n 1, 1) := by decide +kernel
theorem dX7_choice_86 : decode cX7_choice 86 = .ok (.bipush 50, 2) := by decide +kernel
theorem dX7_choice_88 : decode cX7_choice 88 = .ok (.iload_n 2, 1) := by decide +kernel
theorem dX7_choice_89 : decode cX7_choice 89 = .ok (.imul, 1) := by decide +kernel
theorem dX7_choice_90 : decode cX7_choice 90 = .ok (.iload 7, 2) := by decide +kernel
theorem dX7_choice_92 : decode cX7_choice 92 = .ok (.iadd, 1) := by decide +kernel
theorem dX7_choice_93 : decode cX7_choice 93 = .ok (.invokevirtual 225, 3) := by decide +kernel
theorem dX7_choice_96 : decode cX7_choice 96 = .ok (.ifCond .eq 23, 3) := by decide +kernel
theorem dX7_choice_99 : decode cX7_choice 99 = .ok (.iload_n 3, 1) := by decide +kernel
theorem dX7_choice_100 : decode cX7_choice 100 = .ok (.bipush (-9), 2) := by decide +kernel
theorem dX7_choice_102 : decode cX7_choice 102 = .ok (.if_icmp .eq 10, 3) := by decide +kernel
theorem dX7_choice_105 : decode cX7_choice 105 = .ok (.iload 8, 2) := by decide +kernel
theorem dX7_choice_107 : decode cX7_choice 107 = .ok (.iload 4, 2) := by decide +kernel
theorem dX7_choice_109 : decode cX7_choice 109 = .ok (.if_icmp .ge 10, 3) := by decide +kernel
theorem dX7_choice_112 : decode cX7_choice 112 = .ok (.iload 6, 2) := by decide +kernel
theorem dX7_choice_114 : decode cX7_choice 114 = .ok (.istore_n 3, 1) := by decide +kernel
theorem dX7_choice_115 : decode cX7_choice 115 = .ok (.iload 8, 2) := by decide +kernel
theorem dX7_choice_117 : decode cX7_choice 117 = .ok (.istore 4, 2) := by decide +kernel
theorem dX7_choice_119 : decode cX7_choice 119 = .ok (.iinc 5 1, 3) := by decide +kernel
theorem dX7_choice_122 : decode cX7_choice 122 = .ok (.goto (-106), 3) := by decide +kernel
theorem dX7_choice_125 : decode cX7_choice 125 = .ok (.iload_n 3, 1) := by decide +kernel
theorem dX7_choice_126 : decode cX7_choice 126 = .ok (.ireturn, 1) := by decide +kernel
theorem dX7_walk_0 : decode cX7_walk 0 = .ok (.aload_n 0, 1) := by decide +kernel
theorem dX7_walk_1 : decode cX7_walk 1 = .ok (.getfield 62, 3) := by decide +kernel
theorem dX7_walk_4 : decode cX7_walk 4 = .ok (.iload_n 1, 1) := by decide +kernel
theorem dX7_walk_5 : decode cX7_walk 5 = .ok (.iaload, 1) := by decide +kernel
theorem dX7_walk_6 : decode cX7_walk 6 = .ok (.istore_n 2, 1) := by decide +kernel
theorem dX7_walk_7 : decode cX7_walk 7 = .ok (.aload_n 0, 1) := by decide +kernel
theorem dX7_walk_8 : decode cX7_walk 8 = .ok (.getfield 77, 3) := by decide +kernel
theorem dX7_walk_11 : decode cX7_walk 11 = .ok (.iload_n 1, 1) := by decide +kernel
theorem dX7_walk_12 : decode cX7_walk 12 = .ok (.dup2, 1) := by decide +kernel
theorem dX7_walk_13 : decode cX7_walk 13 = .ok (.iaload, 1) := by decide +kernel
theorem dX7_walk_14 : decode cX7_walk 14 = .ok (.iconst 1, 1) := by decide +kernel
theorem dX7_walk_15 : decode cX7_walk 15 = .ok (.iadd, 1) := by decide +kernel
theorem dX7_walk_16 : decode cX7_walk 16 = .ok (.iastore, 1) := by decide +kernel
theorem dX7_walk_17 : decode cX7_walk 17 = .ok (.aload_n 0, 1) := by decide +kernel
theorem dX7_walk_18 : decode cX7_walk 18 = .ok (.iload_n 1, 1) := by decide +kernel
theorem dX7_walk_19 : decode cX7_walk 19 = .ok (.invokevirtual 228, 3) := by decide +kernel
theorem dX7_walk_22 : decode cX7_walk 22 = .ok (.istore_n 3, 1) := by decide +kernel
theorem dX7_walk_23 : decode cX7_walk 23 = .ok (.iload_n 3, 1) := by decide +kernel
theorem dX7_walk_24 : decode cX7_walk 24 = .ok (.bipush (-9), 2) := by decide +kernel
theorem dX7_walk_26 : decode cX7_walk 26 = .ok (.if_icmp .ne 4, 3) := by decide +kernel
theorem dX7_walk_29 : decode cX7_walk 29 = .ok (.return_, 1) := by decide +kernel
theorem dX7_walk_30 : decode cX7_walk 30 = .ok (.aload_n 0, 1) := by decide +kernel
theorem dX7_walk_31 : decode cX7_walk 31 = .ok (.iload_n 2, 1) := by decide +kernel
theorem dX7_walk_32 : decode cX7_walk 32 = .ok (.aload_n 0, 1) := by decide +kernel
theorem dX7_walk_33 : decode cX7_walk 33 = .ok (.getfield 65, 3) := by decide +kernel
theorem dX7_walk_36 : decode cX7_walk 36 = .ok (.iload_n 1, 1) := by decide +kernel
theorem dX7_walk_37 : decode cX7_walk 37 = .ok (.iaload, 1) := by decide +kernel
theorem dX7_walk_38 : decode cX7_walk 38 = .ok (.iload_n 3, 1) := by decide +kernel
theorem dX7_walk_39 : decode cX7_walk 39 = .ok (.invokevirtual 159, 3) := by decide +kernel
theorem dX7_walk_42 : decode cX7_walk 42 = .ok (.istore 4, 2) := by decide +kernel
theorem dX7_walk_44 : decode cX7_walk 44 = .ok (.aload_n 0, 1) := by decide +kernel
theorem dX7_walk_45 : decode cX7_walk 45 = .ok (.getfield 83, 3) := by decide +kernel
theorem dX7_walk_48 : decode cX7_walk 48 = .ok (.bipush 50, 2) := by decide +kernel
theorem dX7_walk_50 : decode cX7_walk 50 = .ok (.iload_n 1, 1) := by decide +kernel
theorem dX7_walk_51 : decode cX7_walk 51 = .ok (.imul, 1) := by decide +kernel
theorem dX7_walk_52 : decode cX7_walk 52 = .ok (.iload 4, 2) := by decide +kernel
theorem dX7_walk_54 : decode cX7_walk 54 = .ok (.iadd, 1) := by decide +kernel
theorem dX7_walk_55 : decode cX7_walk 55 = .ok (.dup2, 1) := by decide +kernel
theorem dX7_walk_56 : decode cX7_walk 56 = .ok (.iaload, 1) := by decide +kernel
theorem dX7_walk_57 : decode cX7_walk 57 = .ok (.iconst 1, 1) := by decide +kernel
theorem dX7_walk_58 : decode cX7_walk 58 = .ok (.iadd, 1) := by decide +kernel
theorem dX7_walk_59 : decode cX7_walk 59 = .ok (.iastore, 1) := by decide +kernel
theorem dX7_walk_60 : decode cX7_walk 60 = .ok (.aload_n 0, 1) := by decide +kernel
theorem dX7_walk_61 : decode cX7_walk 61 = .ok (.getfield 25, 3) := by decide +kernel
theorem dX7_walk_64 : decode cX7_walk 64 = .ok (.bipush 50, 2) := by decide +kernel
theorem dX7_walk_66 : decode cX7_walk 66 = .ok (.iload_n 2, 1) := by decide +kernel
theorem dX7_walk_67 : decode cX7_walk 67 = .ok (.imul, 1) := by decide +kernel
theorem dX7_walk_68 : decode cX7_walk 68 = .ok (.iload 4, 2) := by decide +kernel
theorem dX7_walk_70 : decode cX7_walk 70 = .ok (.iadd, 1) := by decide +kernel
theorem dX7_walk_71 : decode cX7_walk 71 = .ok (.iaload, 1) := by decide +kernel
theorem dX7_walk_72 : decode cX7_walk 72 = .ok (.iconst 1, 1) := by decide +kernel
theorem dX7_walk_73 : decode cX7_walk 73 = .ok (.if_icmp .ne 27, 3) := by decide +kernel
theorem dX7_walk_76 : decode cX7_walk 76 = .ok (.aload_n 0, 1) := by decide +kernel
theorem dX7_walk_77 : decode cX7_walk 77 = .ok (.getfield 28, 3) := by decide +kernel
theorem dX7_walk_80 : decode cX7_walk 80 = .ok (.bipush 50, 2) := by decide +kernel
theorem dX7_walk_82 : decode cX7_walk 82 = .ok (.iload_n 2, 1) := by decide +kernel
theorem dX7_walk_83 : decode cX7_walk 83 = .ok (.imul, 1) := by decide +kernel
theorem dX7_walk_84 : decode cX7_walk 84 = .ok (.iload 4, 2) := by decide +kernel
theorem dX7_walk_86 : decode cX7_walk 86 = .ok (.iadd, 1) := by decide +kernel
theorem dX7_walk_87 : decode cX7_walk 87 = .ok (.iconst 1, 1) := by decide +kernel
theorem dX7_walk_88 : decode cX7_walk 88 = .ok (.iastore, 1) := by decide +kernel
theorem dX7_walk_89 : decode cX7_walk 89 = .ok (.aload_n 0, 1) := by decide +kernel
theorem dX7_walk_90 : decode cX7_walk 90 = .ok (.getfield 74, 3) := by decide +kernel
theorem dX7_walk_93 : decode cX7_walk 93 = .ok (.iload_n 1, 1) := by decide +kernel
theorem dX7_walk_94 : decode cX7_walk 94 = .ok (.dup2, 1) := by decide +kernel
theorem dX7_walk_95 : decode cX7_walk 95 = .ok (.iaload, 1) := by decide +kernel
theorem dX7_walk_96 : decode cX7_walk 96 = .ok (.iconst 1, 1) := by decide +kernel
theorem dX7_walk_97 : decode cX7_walk 97 = .ok (.iadd, 1) := by decide +kernel
theorem dX7_walk_98 : decode cX7_walk 98 = .ok (.iastore, 1) := by decide +kernel
theorem dX7_walk_99 : decode cX7_walk 99 = .ok (.return_, 1) := by decide +kernel
theorem dX7_walk_100 : decode cX7_walk 100 = .ok (.aload_n 0, 1) := by decide +kernel
theorem dX7_walk_101 : decode cX7_walk 101 = .ok (.getfield 65, 3) := by decide +kernel
theorem dX7_walk_104 : decode cX7_walk 104 = .ok (.iload_n 1, 1) := by decide +kernel
theorem dX7_walk_105 : decode cX7_walk 105 = .ok (.aload_n 0, 1) := by decide +kernel
theorem dX7_walk_106 : decode cX7_walk 106 = .ok (.iload_n 2, 1) := by decide +kernel
theorem dX7_walk_107 : decode cX7_walk 107 = .ok (.aload_n 0, 1) := by decide +kernel
theorem dX7_walk_108 : decode cX7_walk 108 = .ok (.getfield 65, 3) := by decide +kernel
theorem dX7_walk_111 : decode cX7_walk 111 = .ok (.iload_n 1, 1) := by decide +kernel
theorem dX7_walk_112 : decode cX7_walk 112 = .ok (.iaload, 1) := by decide +kernel
theorem dX7_walk_113 : decode cX7_walk 113 = .ok (.iload_n 3, 1) := by decide +kernel
theorem dX7_walk_114 : decode cX7_walk 114 = .ok (.invokevirtual 185, 3) := by decide +kernel
theorem dX7_walk_117 : decode cX7_walk 117 = .ok (.iastore, 1) := by decide +kernel
theorem dX7_walk_118 : decode cX7_walk 118 = .ok (.aload_n 0, 1) := by decide +kernel
theorem dX7_walk_119 : decode cX7_walk 119 = .ok (.getfield 68, 3) := by decide +kernel
theorem dX7_walk_122 : decode cX7_walk 122 = .ok (.iload_n 1, 1) := by decide +kernel
theorem dX7_walk_123 : decode cX7_walk 123 = .ok (.iload_n 3, 1) := by decide +kernel
theorem dX7_walk_124 : decode cX7_walk 124 = .ok (.iastore, 1) := by decide +kernel
theorem dX7_walk_125 : decode cX7_walk 125 = .ok (.aload_n 0, 1) := by decide +kernel
theorem dX7_walk_126 : decode cX7_walk 126 = .ok (.getfield 71, 3) := by decide +kernel
theorem dX7_walk_129 : decode cX7_walk 129 = .ok (.iload_n 1, 1) := by decide +kernel
theorem dX7_walk_130 : decode cX7_walk 130 = .ok (.dup2, 1) := by decide +kernel
theorem dX7_walk_131 : decode cX7_walk 131 = .ok (.iaload, 1) := by decide +kernel
theorem dX7_walk_132 : decode cX7_walk 132 = .ok (.iconst 1, 1) := by decide +kernel
theorem dX7_walk_133 : decode cX7_walk 133 = .ok (.iadd, 1) := by decide +kernel
theorem dX7_walk_134 : decode cX7_walk 134 = .ok (.iastore, 1) := by decide +kernel
theorem dX7_walk_135 : decode cX7_walk 135 = .ok (.aload_n 0, 1) := by decide +kernel
theorem dX7_walk_136 : decode cX7_walk 136 = .ok (.getfield 65, 3) := by decide +kernel
theorem dX7_walk_139 : decode cX7_walk 139 = .ok (.iload_n 1, 1) := by decide +kernel
theorem dX7_walk_140 : decode cX7_walk 140 = .ok (.iaload, 1) := by decide +kernel
theorem dX7_walk_141 : decode cX7_walk 141 = .ok (.bipush (-9), 2) := by decide +kernel
theorem dX7_walk_143 : decode cX7_walk 143 = .ok (.if_icmp .ne 15, 3) := by decide +kernel
theorem dX7_walk_146 : decode cX7_walk 146 = .ok (.aload_n 0, 1) := by decide +kernel
theorem dX7_walk_147 : decode cX7_walk 147 = .ok (.getfield 80, 3) := by decide +kernel
theorem dX7_walk_150 : decode cX7_walk 150 = .ok (.iload_n 1, 1) := by decide +kernel
theorem dX7_walk_151 : decode cX7_walk 151 = .ok (.aload_n 0, 1) := by decide +kernel
theorem dX7_walk_152 : decode cX7_walk 152 = .ok (.getfield 77, 3) := by decide +kernel
theorem dX7_walk_155 : decode cX7_walk 155 = .ok (.iload_n 1, 1) := by decide +kernel
theorem dX7_walk_156 : decode cX7_walk 156 = .ok (.iaload, 1) := by decide +kernel
theorem dX7_walk_157 : decode cX7_walk 157 = .ok (.iastore, 1) := by decide +kernel
theorem dX7_walk_158 : decode cX7_walk 158 = .ok (.return_, 1) := by decide +kernel
theorem dX7_ticks_0 : decode cX7_ticks 0 = .ok (.aload_n 0, 1) := by decide +kernel
theorem dX7_ticks_1 : decode cX7_ticks 1 = .ok (.iload_n 1, 1) := by decide +kernel
theorem dX7_ticks_2 : decode cX7_ticks 2 = .ok (.invokevirtual 115, 3) := by decide +kernel
theorem dX7_ticks_5 : decode cX7_ticks 5 = .ok (.ifCond .ne 5, 3) := by decide +kernel
theorem dX7_ticks_8 : decode cX7_ticks 8 = .ok (.iconst (-1), 1) := by decide +kernel
theorem dX7_ticks_9 : decode cX7_ticks 9 = .ok (.ireturn, 1) := by decide +kernel
theorem dX7_ticks_10 : decode cX7_ticks 10 = .ok (.iload_n 2, 1) := by decide +kernel
theorem dX7_ticks_11 : decode cX7_ticks 11 = .ok (.iconst 0, 1) := by decide +kernel
theorem dX7_ticks_12 : decode cX7_ticks 12 = .ok (.sipush 200, 3) := by decide +kernel
theorem dX7_ticks_15 : decode cX7_ticks 15 = .ok (.invokestatic 108, 3) := by decide +kernel
theorem dX7_ticks_18 : decode cX7_ticks 18 = .ok (.ifCond .ne 6, 3) := by decide +kernel
theorem dX7_ticks_21 : decode cX7_ticks 21 = .ok (.bipush (-2), 2) := by decide +kernel
theorem dX7_ticks_23 : decode cX7_ticks 23 = .ok (.ireturn, 1) := by decide +kernel
theorem dX7_ticks_24 : decode cX7_ticks 24 = .ok (.iconst 0, 1) := by decide +kernel
theorem dX7_ticks_25 : decode cX7_ticks 25 = .ok (.istore_n 3, 1) := by decide +kernel
theorem dX7_ticks_26 : decode cX7_ticks 26 = .ok (.iload_n 3, 1) := by decide +kernel
theorem dX7_ticks_27 : decode cX7_ticks 27 = .ok (.iload_n 2, 1) := by decide +kernel
theorem dX7_ticks_28 : decode cX7_ticks 28 = .ok (.if_icmp .ge 56, 3) := by decide +kernel
theorem dX7_ticks_31 : decode cX7_ticks 31 = .ok (.iconst 0, 1) := by decide +kernel
theorem dX7_ticks_32 : decode cX7_ticks 32 = .ok (.istore 4, 2) := by decide +kernel
theorem dX7_ticks_34 : decode cX7_ticks 34 = .ok (.iload 4, 2) := by decide +kernel
theorem dX7_ticks_36 : decode cX7_ticks 36 = .ok (.aload_n 0, 1) := by decide +kernel
theorem dX7_ticks_37 : decode cX7_ticks 37 = .ok (.getfield 219, 3) := by decide +kernel
theorem dX7_ticks_40 : decode cX7_ticks 40 = .ok (.if_icmp .ge 38, 3) := by decide +kernel
theorem dX7_ticks_43 : decode cX7_ticks 43 = .ok (.aload_n 0, 1) := by decide +kernel
theorem dX7_ticks_44 : decode cX7_ticks 44 = .ok (.getfield 62, 3) := by decide +kernel
theorem dX7_ticks_47 : decode cX7_ticks 47 = .ok (.iload 4, 2) := by decide +kernel
theorem dX7_ticks_49 : decode cX7_ticks 49 = .ok (.iaload, 1) := by decide +kernel
theorem dX7_ticks_50 : decode cX7_ticks 50 = .ok (.iload_n 1, 1) := by decide +kernel
theorem dX7_ticks_51 : decode cX7_ticks 51 = .ok (.if_icmp .ne 21, 3) := by decide +kernel
theorem dX7_ticks_54 : decode cX7_ticks 54 = .ok (.aload_n 0, 1) := by decide +kernel
theorem dX7_ticks_55 : decode cX7_ticks 55 = .ok (.getfield 65, 3) := by decide +kernel
theorem dX7_ticks_58 : decode cX7_ticks 58 = .ok (.iload 4, 2) := by decide +kernel
theorem dX7_ticks_60 : decode cX7_ticks 60 = .ok (.iaload, 1) := by decide +kernel
theorem dX7_ticks_61 : decode cX7_ticks 61 = .ok (.bipush (-9), 2) := by decide +kernel
theorem dX7_ticks_63 : decode cX7_ticks 63 = .ok (.if_icmp .eq 9, 3) := by decide +kernel
theorem dX7_ticks_66 : decode cX7_ticks 66 = .ok (.aload_n 0, 1) := by decide +kernel
theorem dX7_ticks_67 : decode cX7_ticks 67 = .ok (.iload 4, 2) := by decide +kernel
theorem dX7_ticks_69 : decode cX7_ticks 69 = .ok (.invokevirtual 231, 3) := by decide +kernel
theorem dX7_ticks_72 : decode cX7_ticks 72 = .ok (.iinc 4 1, 3) := by decide +kernel
theorem dX7_ticks_75 : decode cX7_ticks 75 = .ok (.goto (-41), 3) := by decide +kernel
theorem dX7_ticks_78 : decode cX7_ticks 78 = .ok (.iinc 3 1, 3) := by decide +kernel
theorem dX7_ticks_81 : decode cX7_ticks 81 = .ok (.goto (-55), 3) := by decide +kernel
theorem dX7_ticks_84 : decode cX7_ticks 84 = .ok (.iconst 0, 1) := by decide +kernel
theorem dX7_ticks_85 : decode cX7_ticks 85 = .ok (.istore_n 3, 1) := by decide +kernel
theorem dX7_ticks_86 : decode cX7_ticks 86 = .ok (.iconst 0, 1) := by decide +kernel
theorem dX7_ticks_87 : decode cX7_ticks 87 = .ok (.istore 4, 2) := by decide +kernel
theorem dX7_ticks_89 : decode cX7_ticks 89 = .ok (.iload 4, 2) := by decide +kernel
theorem dX7_ticks_91 : decode cX7_ticks 91 = .ok (.aload_n 0, 1) := by decide +kernel
theorem dX7_ticks_92 : decode cX7_ticks 92 = .ok (.getfield 219, 3) := by decide +kernel
theorem dX7_ticks_95 : decode cX7_ticks 95 = .ok (.if_icmp .ge 40, 3) := by decide +kernel
theorem dX7_ticks_98 : decode cX7_ticks 98 = .ok (.iload_n 3, 1) := by decide +kernel
theorem dX7_ticks_99 : decode cX7_ticks 99 = .ok (.aload_n 0, 1) := by decide +kernel
theorem dX7_ticks_100 : decode cX7_ticks 100 = .ok (.getfield 62, 3) := by decide +kernel
theorem dX7_ticks_103 : decode cX7_ticks 103 = .ok (.iload 4, 2) := by decide +kernel
theorem dX7_ticks_105 : decode cX7_ticks 105 = .ok (.iaload, 1) := by decide +kernel
theorem dX7_ticks_106 : decode cX7_ticks 106 = .ok (.iload_n 1, 1) := by decide +kernel
theorem dX7_ticks_107 : decode cX7_ticks 107 = .ok (.if_icmp .ne 19, 3) := by decide +kernel
theorem dX7_ticks_110 : decode cX7_ticks 110 = .ok (.aload_n 0, 1) := by decide +kernel
theorem dX7_ticks_111 : decode cX7_ticks 111 = .ok (.getfield 65, 3) := by decide +kernel
theorem dX7_ticks_114 : decode cX7_ticks 114 = .ok (.iload 4, 2) := by decide +kernel
theorem dX7_ticks_116 : decode cX7_ticks 116 = .ok (.iaload, 1) := by decide +kernel
theorem dX7_ticks_117 : decode cX7_ticks 117 = .ok (.bipush (-9), 2) := by decide +kernel
theorem dX7_ticks_119 : decode cX7_ticks 119 = .ok (.if_icmp .eq 7, 3) := by decide +kernel
theorem dX7_ticks_122 : decode cX7_ticks 122 = .ok (.iconst 1, 1) := by decide +kernel
theorem dX7_ticks_123 : decode cX7_ticks 123 = .ok (.goto 4, 3) := by decide +kernel
theorem dX7_ticks_126 : decode cX7_ticks 126 = .ok (.iconst 0, 1) := by decide +kernel
theorem dX7_ticks_127 : decode cX7_ticks 127 = .ok (.iadd, 1) := by decide +kernel
theorem dX7_ticks_128 : decode cX7_ticks 128 = .ok (.istore_n 3, 1) := by decide +kernel
theorem dX7_ticks_129 : decode cX7_ticks 129 = .ok (.iinc 4 1, 3) := by decide +kernel
theorem dX7_ticks_132 : decode cX7_ticks 132 = .ok (.goto (-43), 3) := by decide +kernel
theorem dX7_ticks_135 : decode cX7_ticks 135 = .ok (.iload_n 3, 1) := by decide +kernel
theorem dX7_ticks_136 : decode cX7_ticks 136 = .ok (.ireturn, 1) := by decide +kernel
theorem dX7_ofWalker_0 : decode cX7_ofWalker 0 = .ok (.aload_n 0, 1) := by decide +kernel
theorem dX7_ofWalker_1 : decode cX7_ofWalker 1 = .ok (.iload_n 1, 1) := by decide +kernel
theorem dX7_ofWalker_2 : decode cX7_ofWalker 2 = .ok (.invokevirtual 234, 3) := by decide +kernel
theorem dX7_ofWalker_5 : decode cX7_ofWalker 5 = .ok (.ifCond .ne 5, 3) := by decide +kernel
theorem dX7_ofWalker_8 : decode cX7_ofWalker 8 = .ok (.iconst (-1), 1) := by decide +kernel
theorem dX7_ofWalker_9 : decode cX7_ofWalker 9 = .ok (.ireturn, 1) := by decide +kernel
theorem dX7_ofWalker_10 : decode cX7_ofWalker 10 = .ok (.iload_n 2, 1) := by decide +kernel
theorem dX7_ofWalker_11 : decode cX7_ofWalker 11 = .ok (.tableswitch 90 0 6 #[41, 48, 55, 62, 69, 76, 83], 41) := by decide +kernel
theorem dX7_ofWalker_52 : decode cX7_ofWalker 52 = .ok (.aload_n 0, 1) := by decide +kernel
theorem dX7_ofWalker_53 : decode cX7_ofWalker 53 = .ok (.getfield 59, 3) := by decide +kernel
theorem dX7_ofWalker_56 : decode cX7_ofWalker 56 = .ok (.iload_n 1, 1) := by decide +kernel
theorem dX7_ofWalker_57 : decode cX7_ofWalker 57 = .ok (.iaload, 1) := by decide +kernel
theorem dX7_ofWalker_58 : decode cX7_ofWalker 58 = .ok (.ireturn, 1) := by decide +kernel
theorem dX7_ofWalker_59 : decode cX7_ofWalker 59 = .ok (.aload_n 0, 1) := by decide +kernel
theorem dX7_ofWalker_60 : decode cX7_ofWalker 60 = .ok (.getfield 62, 3) := by decide +kernel
theorem dX7_ofWalker_63 : decode cX7_ofWalker 63 = .ok (.iload_n 1, 1) := by decide +kernel
theorem dX7_ofWalker_64 : decode cX7_ofWalker 64 = .ok (.iaload, 1) := by decide +kernel
theorem dX7_ofWalker_65 : decode cX7_ofWalker 65 = .ok (.ireturn, 1) := by decide +kernel
theorem dX7_ofWalker_66 : decode cX7_ofWalker 66 = .ok (.aload_n 0, 1) := by decide +kernel
theorem dX7_ofWalker_67 : decode cX7_ofWalker 67 = .ok (.getfield 65, 3) := by decide +kernel
theorem dX7_ofWalker_70 : decode cX7_ofWalker 70 = .ok (.iload_n 1, 1) := by decide +kernel
theorem dX7_ofWalker_71 : decode cX7_ofWalker 71 = .ok (.iaload, 1) := by decide +kernel
theorem dX7_ofWalker_72 : decode cX7_ofWalker 72 = .ok (.ireturn, 1) := by decide +kernel
theorem dX7_ofWalker_73 : decode cX7_ofWalker 73 = .ok (.aload_n 0, 1) := by decide +kernel
theorem dX7_ofWalker_74 : decode cX7_ofWalker 74 = .ok (.getfield 68, 3) := by decide +kernel
theorem dX7_ofWalker_77 : decode cX7_ofWalker 77 = .ok (.iload_n 1, 1) := by decide +kernel
theorem dX7_ofWalker_78 : decode cX7_ofWalker 78 = .ok (.iaload, 1) := by decide +kernel
theorem dX7_ofWalker_79 : decode cX7_ofWalker 79 = .ok (.ireturn, 1) := by decide +kernel
theorem dX7_ofWalker_80 : decode cX7_ofWalker 80 = .ok (.aload_n 0, 1) := by decide +kernel
theorem dX7_ofWalker_81 : decode cX7_ofWalker 81 = .ok (.getfield 71, 3) := by decide +kernel
theorem dX7_ofWalker_84 : decode cX7_ofWalker 84 = .ok (.iload_n 1, 1) := by decide +kernel
theorem dX7_ofWalker_85 : decode cX7_ofWalker 85 = .ok (.iaload, 1) := by decide +kernel
theorem dX7_ofWalker_86 : decode cX7_ofWalker 86 = .ok (.ireturn, 1) := by decide +kernel
theorem dX7_ofWalker_87 : decode cX7_ofWalker 87 = .ok (.aload_n 0, 1) := by decide +kernel
theorem dX7_ofWalker_88 : decode cX7_ofWalker 88 = .ok (.getfield 74, 3) := by decide +kernel
theorem dX7_ofWalker_91 : decode cX7_ofWalker 91 = .ok (.iload_n 1, 1) := by decide +kernel
theorem dX7_ofWalker_92 : decode cX7_ofWalker 92 = .ok (.iaload, 1) := by decide +kernel
theorem dX7_ofWalker_93 : decode cX7_ofWalker 93 = .ok (.ireturn, 1) := by decide +kernel
theorem dX7_ofWalker_94 : decode cX7_ofWalker 94 = .ok (.aload_n 0, 1) := by decide +kernel
theorem dX7_ofWalker_95 : decode cX7_ofWalker 95 = .ok (.getfield 80, 3) := by decide +kernel
theorem dX7_ofWalker_98 : decode cX7_ofWalker 98 = .ok (.iload_n 1, 1) := by decide +kernel
theorem dX7_ofWalker_99 : decode cX7_ofWalker 99 = .ok (.iaload, 1) := by decide +kernel
theorem dX7_ofWalker_100 : decode cX7_ofWalker 100 = .ok (.ireturn, 1) := by decide +kernel
theorem dX7_ofWalker_101 : decode cX7_ofWalker 101 = .ok (.bipush (-2), 2) := by decide +kernel
theorem dX7_ofWalker_103 : decode cX7_ofWalker 103 = .ok (.ireturn, 1) := by decide +kernel
theorem dX7_layFars_0 : decode cX7_layFars 0 = .ok (.iconst 0, 1) := by decide +kernel
theorem dX7_layFars_1 : decode cX7_layFars 1 = .ok (.istore_n 2, 1) := by decide +kernel
theorem dX7_layFars_2 : decode cX7_layFars 2 = .ok (.iload_n 2, 1) := by decide +kernel
theorem dX7_layFars_3 : decode cX7_layFars 3 = .ok (.bipush 24, 2) := by decide +kernel
theorem dX7_layFars_5 : decode cX7_layFars 5 = .ok (.if_icmp .ge 17, 3) := by decide +kernel
theorem dX7_layFars_8 : decode cX7_layFars 8 = .ok (.aload_n 0, 1) := by decide +kernel
theorem dX7_layFars_9 : decode cX7_layFars 9 = .ok (.getfield 86, 3) := by decide +kernel
theorem dX7_layFars_12 : decode cX7_layFars 12 = .ok (.iload_n 2, 1) := by decide +kernel
theorem dX7_layFars_13 : decode cX7_layFars 13 = .ok (.bipush (-9), 2) := by decide +kernel
theorem dX7_layFars_15 : decode cX7_layFars 15 = .ok (.iastore, 1) := by decide +kernel
theorem dX7_layFars_16 : decode cX7_layFars 16 = .ok (.iinc 2 1, 3) := by decide +kernel
theorem dX7_layFars_19 : decode cX7_layFars 19 = .ok (.goto (-17), 3) := by decide +kernel
theorem dX7_layFars_22 : decode cX7_layFars 22 = .ok (.iconst 1, 1) := by decide +kernel
theorem dX7_layFars_23 : decode cX7_layFars 23 = .ok (.istore_n 2, 1) := by decide +kernel
theorem dX7_layFars_24 : decode cX7_layFars 24 = .ok (.iconst 1, 1) := by decide +kernel
theorem dX7_layFars_25 : decode cX7_layFars 25 = .ok (.istore_n 3, 1) := by decide +kernel
theorem dX7_layFars_26 : decode cX7_layFars 26 = .ok (.iload_n 2, 1) := by decide +kernel
theorem dX7_layFars_27 : decode cX7_layFars 27 = .ok (.ifCond .eq 140, 3) := by decide +kernel
theorem dX7_layFars_30 : decode cX7_layFars 30 = .ok (.iconst 0, 1) := by decide +kernel
theorem dX7_layFars_31 : decode cX7_layFars 31 = .ok (.istore_n 2, 1) := by decide +kernel
theorem dX7_layFars_32 : decode cX7_layFars 32 = .ok (.iconst 0, 1) := by decide +kernel
theorem dX7_layFars_33 : decode cX7_layFars 33 = .ok (.istore 4, 2) := by decide +kernel
theorem dX7_layFars_35 : decode cX7_layFars 35 = .ok (.iload 4, 2) := by decide +kernel
theorem dX7_layFars_37 : decode cX7_layFars 37 = .ok (.aload_n 0, 1) := by decide +kernel
theorem dX7_layFars_38 : decode cX7_layFars 38 = .ok (.iload_n 1, 1) := by decide +kernel
theorem dX7_layFars_39 : decode cX7_layFars 39 = .ok (.invokevirtual 119, 3) := by decide +kernel
theorem dX7_layFars_42 : decode cX7_layFars 42 = .ok (.if_icmp .ge 119, 3) := by decide +kernel
theorem dX7_layFars_45 : decode cX7_layFars 45 = .ok (.aload_n 0, 1) := by decide +kernel
theorem dX7_layFars_46 : decode cX7_layFars 46 = .ok (.getfield 86, 3) := by decide +kernel
theorem dX7_layFars_49 : decode cX7_layFars 49 = .ok (.iload 4, 2) := by decide +kernel
theorem dX7_layFars_51 : decode cX7_layFars 51 = .ok (.iaload, 1) := by decide +kernel
theorem dX7_layFars_52 : decode cX7_layFars 52 = .ok (.bipush (-9), 2) := by decide +kernel
theorem dX7_layFars_54 : decode cX7_layFars 54 = .ok (.if_icmp .eq 6, 3) := by decide +kernel
theorem dX7_layFars_57 : decode cX7_layFars 57 = .ok (.goto 98, 3) := by decide +kernel
theorem dX7_layFars_60 : decode cX7_layFars 60 = .ok (.iconst 0, 1) := by decide +kernel
theorem dX7_layFars_61 : decode cX7_layFars 61 = .ok (.istore 5, 2) := by decide +kernel
theorem dX7_layFars_63 : decode cX7_layFars 63 = .ok (.iload 5, 2) := by decide +kernel
theorem dX7_layFars_65 : decode cX7_layFars 65 = .ok (.iconst 3, 1) := by decide +kernel
theorem dX7_layFars_66 : decode cX7_layFars 66 = .ok (.if_icmp .ge 89, 3) := by decide +kernel
theorem dX7_layFars_69 : decode cX7_layFars 69 = .ok (.aload_n 0, 1) := by decide +kernel
theorem dX7_layFars_70 : decode cX7_layFars 70 = .ok (.getfield 25, 3) := by decide +kernel
theorem dX7_layFars_73 : decode cX7_layFars 73 = .ok (.bipush 50, 2) := by decide +kernel
theorem dX7_layFars_75 : decode cX7_layFars 75 = .ok (.iload_n 1, 1) := by decide +kernel
theorem dX7_layFars_76 : decode cX7_layFars 76 = .ok (.imul, 1) := by decide +kernel
theorem dX7_layFars_77 : decode cX7_layFars 77 = .ok (.aload_n 0, 1) := by decide +kernel
theorem dX7_layFars_78 : decode cX7_layFars 78 = .ok (.iload_n 1, 1) := by decide +kernel
theorem dX7_layFars_79 : decode cX7_layFars 79 = .ok (.iload 4, 2) := by decide +kernel
theorem dX7_layFars_81 : decode cX7_layFars 81 = .ok (.iload 5, 2) := by decide +kernel
theorem dX7_layFars_83 : decode cX7_layFars 83 = .ok (.invokevirtual 159, 3) := by decide +kernel
theorem dX7_layFars_86 : decode cX7_layFars 86 = .ok (.iadd, 1) := by decide +kernel
theorem dX7_layFars_87 : decode cX7_layFars 87 = .ok (.iaload, 1) := by decide +kernel
theorem dX7_layFars_88 : decode cX7_layFars 88 = .ok (.iconst 2, 1) := by decide +kernel
theorem dX7_layFars_89 : decode cX7_layFars 89 = .ok (.if_icmp .eq 6, 3) := by decide +kernel
theorem dX7_layFars_92 : decode cX7_layFars 92 = .ok (.goto 57, 3) := by decide +kernel
theorem dX7_layFars_95 : decode cX7_layFars 95 = .ok (.aload_n 0, 1) := by decide +kernel
theorem dX7_layFars_96 : decode cX7_layFars 96 = .ok (.iload_n 1, 1) := by decide +kernel
theorem dX7_layFars_97 : decode cX7_layFars 97 = .ok (.iload 4, 2) := by decide +kernel
theorem dX7_layFars_99 : decode cX7_layFars 99 = .ok (.iload 5, 2) := by decide +kernel
theorem dX7_layFars_101 : decode cX7_layFars 101 = .ok (.invokevirtual 185, 3) := by decide +kernel
theorem dX7_layFars_104 : decode cX7_layFars 104 = .ok (.istore 6, 2) := by decide +kernel
theorem dX7_layFars_106 : decode cX7_layFars 106 = .ok (.iload 6, 2) := by decide +kernel
theorem dX7_layFars_108 : decode cX7_layFars 108 = .ok (.bipush (-9), 2) := by decide +kernel
theorem dX7_layFars_110 : decode cX7_layFars 110 = .ok (.if_icmp .ne 11, 3) := by decide +kernel
theorem dX7_layFars_113 : decode cX7_layFars 113 = .ok (.iload_n 3, 1) := by decide +kernel
theorem dX7_layFars_114 : decode cX7_layFars 114 = .ok (.iconst 1, 1) := by decide +kernel
theorem dX7_layFars_115 : decode cX7_layFars 115 = .ok (.if_icmp .ne 34, 3) := by decide +kernel
theorem dX7_layFars_118 : decode cX7_layFars 118 = .ok (.goto 21, 3) := by decide +kernel
theorem dX7_layFars_121 : decode cX7_layFars 121 = .ok (.aload_n 0, 1) := by decide +kernel
theorem dX7_layFars_122 : decode cX7_layFars 122 = .ok (.getfield 86, 3) := by decide +kernel
theorem dX7_layFars_125 : decode cX7_layFars 125 = .ok (.iload 6, 2) := by decide +kernel
theorem dX7_layFars_127 : decode cX7_layFars 127 = .ok (.iaload, 1) := by decide +kernel
theorem dX7_layFars_128 : decode cX7_layFars 128 = .ok (.iload_n 3, 1) := by decide +kernel
theorem dX7_layFars_129 : decode cX7_layFars 129 = .ok (.iconst 1, 1) := by decide +kernel
theorem dX7_layFars_130 : decode cX7_layFars 130 = .ok (.isub, 1) := by decide +kernel
theorem dX7_layFars_131 : decode cX7_layFars 131 = .ok (.if_icmp .ne 18, 3) := by decide +kernel
theorem dX7_layFars_134 : decode cX7_layFars 134 = .ok (.iload_n 3, 1) := by decide +kernel
theorem dX7_layFars_135 : decode cX7_layFars 135 = .ok (.iconst 1, 1) := by decide +kernel
theorem dX7_layFars_136 : decode cX7_layFars 136 = .ok (.if_icmp .le 13, 3) := by decide +kernel
theorem dX7_layFars_139 : decode cX7_layFars 139 = .ok (.aload_n 0, 1) := by decide +kernel
theorem dX7_layFars_140 : decode cX7_layFars 140 = .ok (.getfield 86, 3) := by decide +kernel
theorem dX7_layFars_143 : decode cX7_layFars 143 = .ok (.iload 4, 2) := by decide +kernel
theorem dX7_layFars_145 : decode cX7_layFars 145 = .ok (.iload_n 3, 1) := by decide +kernel
theorem dX7_layFars_146 : decode cX7_layFars 146 = .ok (.iastore, 1) := by decide +kernel
theorem dX7_layFars_147 : decode cX7_layFars 147 = .ok (.iconst 1, 1) := by decide +kernel
theorem dX7_layFars_148 : decode cX7_layFars 148 = .ok (.istore_n 2, 1) := by decide +kernel
theorem dX7_layFars_149 : decode cX7_layFars 149 = .ok (.iinc 5 1, 3) := by decide +kernel
theorem dX7_layFars_152 : decode cX7_layFars 152 = .ok (.goto (-89), 3) := by decide +kernel
theorem dX7_layFars_155 : decode cX7_layFars 155 = .ok (.iinc 4 1, 3) := by decide +kernel
theorem dX7_layFars_158 : decode cX7_layFars 158 = .ok (.goto (-123), 3) := by decide +kernel
theorem dX7_layFars_161 : decode cX7_layFars 161 = .ok (.iinc 3 1, 3) := by decide +kernel
theorem dX7_layFars_164 : decode cX7_layFars 164 = .ok (.goto (-138), 3) := by decide +kernel
theorem dX7_layFars_167 : decode cX7_layFars 167 = .ok (.return_, 1) := by decide +kernel
theorem dX7_shutOf_0 : decode cX7_shutOf 0 = .ok (.aload_n 0, 1) := by decide +kernel
theorem dX7_shutOf_1 : decode cX7_shutOf 1 = .ok (.iload_n 1, 1) := by decide +kernel
theorem dX7_shutOf_2 : decode cX7_shutOf 2 = .ok (.invokevirtual 237, 3) := by decide +kernel
theorem dX7_shutOf_5 : decode cX7_shutOf 5 = .ok (.iconst 0, 1) := by decide +kernel
theorem dX7_shutOf_6 : decode cX7_shutOf 6 = .ok (.istore_n 2, 1) := by decide +kernel
theorem dX7_shutOf_7 : decode cX7_shutOf 7 = .ok (.iload_n 2, 1) := by decide +kernel
theorem dX7_shutOf_8 : decode cX7_shutOf 8 = .ok (.aload_n 0, 1) := by decide +kernel
theorem dX7_shutOf_9 : decode cX7_shutOf 9 = .ok (.iload_n 1, 1) := by decide +kernel
theorem dX7_shutOf_10 : decode cX7_shutOf 10 = .ok (.invokevirtual 119, 3) := by decide +kernel
theorem dX7_shutOf_13 : decode cX7_shutOf 13 = .ok (.if_icmp .ge 22, 3) := by decide +kernel
theorem dX7_shutOf_16 : decode cX7_shutOf 16 = .ok (.aload_n 0, 1) := by decide +kernel
theorem dX7_shutOf_17 : decode cX7_shutOf 17 = .ok (.getfield 86, 3) := by decide +kernel
theorem dX7_shutOf_20 : decode cX7_shutOf 20 = .ok (.iload_n 2, 1) := by decide +kernel
theorem dX7_shutOf_21 : decode cX7_shutOf 21 = .ok (.iaload, 1) := by decide +kernel
theorem dX7_shutOf_22 : decode cX7_shutOf 22 = .ok (.bipush (-9), 2) := by decide +kernel
theorem dX7_shutOf_24 : decode cX7_shutOf 24 = .ok (.if_icmp .ne 5, 3) := by decide +kernel
theorem dX7_shutOf_27 : decode cX7_shutOf 27 = .ok (.iload_n 2, 1) := by decide +kernel
theorem dX7_shutOf_28 : decode cX7_shutOf 28 = .ok (.ireturn, 1) := by decide +kernel
theorem dX7_shutOf_29 : decode cX7_shutOf 29 = .ok (.iinc 2 1, 3) := by decide +kernel
theorem dX7_shutOf_32 : decode cX7_shutOf 32 = .ok (.goto (-25), 3) := by decide +kernel
theorem dX7_shutOf_35 : decode cX7_shutOf 35 = .ok (.bipush (-9), 2) := by decide +kernel
theorem dX7_shutOf_37 : decode cX7_shutOf 37 = .ok (.ireturn, 1) := by decide +kernel
theorem dX7_shut_0 : decode cX7_shut 0 = .ok (.aload_n 0, 1) := by decide +kernel
theorem dX7_shut_1 : decode cX7_shut 1 = .ok (.iload_n 1, 1) := by decide +kernel
theorem dX7_shut_2 : decode cX7_shut 2 = .ok (.invokevirtual 115, 3) := by decide +kernel
theorem dX7_shut_5 : decode cX7_shut 5 = .ok (.ifCond .eq 11, 3) := by decide +kernel
theorem dX7_shut_8 : decode cX7_shut 8 = .ok (.aload_n 0, 1) := by decide +kernel
theorem dX7_shut_9 : decode cX7_shut 9 = .ok (.iload_n 1, 1) := by decide +kernel
theorem dX7_shut_10 : decode cX7_shut 10 = .ok (.invokevirtual 240, 3) := by decide +kernel
theorem dX7_shut_13 : decode cX7_shut 13 = .ok (.goto 4, 3) := by decide +kernel
theorem dX7_shut_16 : decode cX7_shut 16 = .ok (.iconst (-1), 1) := by decide +kernel
theorem dX7_shut_17 : decode cX7_shut 17 = .ok (.ireturn, 1) := by decide +kernel
theorem dX7_far_0 : decode cX7_far 0 = .ok (.aload_n 0, 1) := by decide +kernel
theorem dX7_far_1 : decode cX7_far 1 = .ok (.iload_n 1, 1) := by decide +kernel
theorem dX7_far_2 : decode cX7_far 2 = .ok (.iload_n 2, 1) := by decide +kernel
theorem dX7_far_3 : decode cX7_far 3 = .ok (.invokevirtual 163, 3) := by decide +kernel
theorem dX7_far_6 : decode cX7_far 6 = .ok (.ifCond .ne 5, 3) := by decide +kernel
theorem dX7_far_9 : decode cX7_far 9 = .ok (.iconst (-1), 1) := by decide +kernel
theorem dX7_far_10 : decode cX7_far 10 = .ok (.ireturn, 1) := by decide +kernel
theorem dX7_far_11 : decode cX7_far 11 = .ok (.aload_n 0, 1) := by decide +kernel
theorem dX7_far_12 : decode cX7_far 12 = .ok (.iload_n 1, 1) := by decide +kernel
theorem dX7_far_13 : decode cX7_far 13 = .ok (.invokevirtual 237, 3) := by decide +kernel
theorem dX7_far_16 : decode cX7_far 16 = .ok (.aload_n 0, 1) := by decide +kernel
theorem dX7_far_17 : decode cX7_far 17 = .ok (.getfield 86, 3) := by decide +kernel
theorem dX7_far_20 : decode cX7_far 20 = .ok (.iload_n 2, 1) := by decide +kernel
theorem dX7_far_21 : decode cX7_far 21 = .ok (.iaload, 1) := by decide +kernel
theorem dX7_far_22 : decode cX7_far 22 = .ok (.ireturn, 1) := by decide +kernel
theorem dX7_areNear_0 : decode cX7_areNear 0 = .ok (.aload_n 0, 1) := by decide +kernel
theorem dX7_areNear_1 : decode cX7_areNear 1 = .ok (.iload_n 1, 1) := by decide +kernel
theorem dX7_areNear_2 : decode cX7_areNear 2 = .ok (.invokevirtual 240, 3) := by decide +kernel
theorem dX7_areNear_5 : decode cX7_areNear 5 = .ok (.bipush (-9), 2) := by decide +kernel
theorem dX7_areNear_7 : decode cX7_areNear 7 = .ok (.if_icmp .eq 5, 3) := by decide +kernel
theorem dX7_areNear_10 : decode cX7_areNear 10 = .ok (.iconst 0, 1) := by decide +kernel
theorem dX7_areNear_11 : decode cX7_areNear 11 = .ok (.ireturn, 1) := by decide +kernel
theorem dX7_areNear_12 : decode cX7_areNear 12 = .ok (.iconst 0, 1) := by decide +kernel
theorem dX7_areNear_13 : decode cX7_areNear 13 = .ok (.istore_n 3, 1) := by decide +kernel
theorem dX7_areNear_14 : decode cX7_areNear 14 = .ok (.iload_n 3, 1) := by decide +kernel
theorem dX7_areNear_15 : decode cX7_areNear 15 = .ok (.aload_n 0, 1) := by decide +kernel
theorem dX7_areNear_16 : decode cX7_areNear 16 = .ok (.iload_n 1, 1) := by decide +kernel
theorem dX7_areNear_17 : decode cX7_areNear 17 = .ok (.invokevirtual 119, 3) := by decide +kernel
theorem dX7_areNear_20 : decode cX7_areNear 20 = .ok (.if_icmp .ge 21, 3) := by decide +kernel
theorem dX7_areNear_23 : decode cX7_areNear 23 = .ok (.aload_n 0, 1) := by decide +kernel
theorem dX7_areNear_24 : decode cX7_areNear 24 = .ok (.getfield 86, 3) := by decide +kernel
theorem dX7_areNear_27 : decode cX7_areNear 27 = .ok (.iload_n 3, 1) := by decide +kernel
theorem dX7_areNear_28 : decode cX7_areNear 28 = .ok (.iaload, 1) := by decide +kernel
theorem dX7_areNear_29 : decode cX7_areNear 29 = .ok (.iload_n 2, 1) := by decide +kernel
theorem dX7_areNear_30 : decode cX7_areNear 30 = .ok (.if_icmp .le 5, 3) := by decide +kernel
theorem dX7_areNear_33 : decode cX7_areNear 33 = .ok (.iconst 0, 1) := by decide +kernel
theorem dX7_areNear_34 : decode cX7_areNear 34 = .ok (.ireturn, 1) := by decide +kernel
theorem dX7_areNear_35 : decode cX7_areNear 35 = .ok (.iinc 3 1, 3) := by decide +kernel
theorem dX7_areNear_38 : decode cX7_areNear 38 = .ok (.goto (-24), 3) := by decide +kernel
theorem dX7_areNear_41 : decode cX7_areNear 41 = .ok (.iconst 1, 1) := by decide +kernel
theorem dX7_areNear_42 : decode cX7_areNear 42 = .ok (.ireturn, 1) := by decide +kernel
theorem dX7_findOpened_0 : decode cX7_findOpened 0 = .ok (.aload_n 0, 1) := by decide +kernel
theorem dX7_findOpened_1 : decode cX7_findOpened 1 = .ok (.iload_n 1, 1) := by decide +kernel
theorem dX7_findOpened_2 : decode cX7_findOpened 2 = .ok (.iload_n 2, 1) := by decide +kernel
theorem dX7_findOpened_3 : decode cX7_findOpened 3 = .ok (.invokevirtual 243, 3) := by decide +kernel
theorem dX7_findOpened_6 : decode cX7_findOpened 6 = .ok (.ifCond .eq 5, 3) := by decide +kernel
theorem dX7_findOpened_9 : decode cX7_findOpened 9 = .ok (.iconst 0, 1) := by decide +kernel
theorem dX7_findOpened_10 : decode cX7_findOpened 10 = .ok (.ireturn, 1) := by decide +kernel
theorem dX7_findOpened_11 : decode cX7_findOpened 11 = .ok (.bipush (-9), 2) := by decide +kernel
theorem dX7_findOpened_13 : decode cX7_findOpened 13 = .ok (.istore_n 3, 1) := by decide +kernel
theorem dX7_findOpened_14 : decode cX7_findOpened 14 = .ok (.aload_n 0, 1) := by decide +kernel
theorem dX7_findOpened_15 : decode cX7_findOpened 15 = .ok (.iload_n 1, 1) := by decide +kernel
theorem dX7_findOpened_16 : decode cX7_findOpened 16 = .ok (.invokevirtual 123, 3) := by decide +kernel
theorem dX7_findOpened_19 : decode cX7_findOpened 19 = .ok (.istore 4, 2) := by decide +kernel
theorem dX7_findOpened_21 : decode cX7_findOpened 21 = .ok (.iconst 1, 1) := by decide +kernel
theorem dX7_findOpened_22 : decode cX7_findOpened 22 = .ok (.istore 5, 2) := by decide +kernel
theorem dX7_findOpened_24 : decode cX7_findOpened 24 = .ok (.iload 5, 2) := by decide +kernel
theorem dX7_findOpened_26 : decode cX7_findOpened 26 = .ok (.iconst 3, 1) := by decide +kernel
theorem dX7_findOpened_27 : decode cX7_findOpened 27 = .ok (.if_icmp .ge 211, 3) := by decide +kernel
theorem dX7_findOpened_30 : decode cX7_findOpened 30 = .ok (.iload_n 3, 1) := by decide +kernel
theorem dX7_findOpened_31 : decode cX7_findOpened 31 = .ok (.bipush (-9), 2) := by decide +kernel
theorem dX7_findOpened_33 : decode cX7_findOpened 33 = .ok (.if_icmp .ne 205, 3) := by decide +kernel
theorem dX7_findOpened_36 : decode cX7_findOpened 36 = .ok (.iconst 0, 1) := by decide +kernel
theorem dX7_findOpened_37 : decode cX7_findOpened 37 = .ok (.istore 6, 2) := by decide +kernel
theorem dX7_findOpened_39 : decode cX7_findOpened 39 = .ok (.iload 6, 2) := by decide +kernel
theorem dX7_findOpened_41 : decode cX7_findOpened 41 = .ok (.iload 4, 2) := by decide +kernel
theorem dX7_findOpened_43 : decode cX7_findOpened 43 = .ok (.if_icmp .ge 189, 3) := by decide +kernel
theorem dX7_findOpened_46 : decode cX7_findOpened 46 = .ok (.iload_n 3, 1) := by decide +kernel
theorem dX7_findOpened_47 : decode cX7_findOpened 47 = .ok (.bipush (-9), 2) := by decide +kernel
theorem dX7_findOpened_49 : decode cX7_findOpened 49 = .ok (.if_icmp .ne 183, 3) := by decide +kernel
theorem dX7_findOpened_52 : decode cX7_findOpened 52 = .ok (.aload_n 0, 1) := by decide +kernel
theorem dX7_findOpened_53 : decode cX7_findOpened 53 = .ok (.getfield 25, 3) := by decide +kernel
theorem dX7_findOpened_56 : decode cX7_findOpened 56 = .ok (.bipush 50, 2) := by decide +kernel
theorem dX7_findOpened_58 : decode cX7_findOpened 58 = .ok (.iload_n 1, 1) := by decide +kernel
theorem dX7_findOpened_59 : decode cX7_findOpened 59 = .ok (.imul, 1) := by decide +kernel
theorem dX7_findOpened_60 : decode cX7_findOpened 60 = .ok (.iload 6, 2) := by decide +kernel
theorem dX7_findOpened_62 : decode cX7_findOpened 62 = .ok (.iadd, 1) := by decide +kernel
theorem dX7_findOpened_63 : decode cX7_findOpened 63 = .ok (.iaload, 1) := by decide +kernel
theorem dX7_findOpened_64 : decode cX7_findOpened 64 = .ok (.istore 7, 2) := by decide +kernel
theorem dX7_findOpened_66 : decode cX7_findOpened 66 = .ok (.iload 7, 2) := by decide +kernel
theorem dX7_findOpened_68 : decode cX7_findOpened 68 = .ok (.iconst 2, 1) := by decide +kernel
theorem dX7_findOpened_69 : decode cX7_findOpened 69 = .ok (.if_icmp .ne 6, 3) := by decide +kernel
theorem dX7_findOpened_72 : decode cX7_findOpened 72 = .ok (.goto 154, 3) := by decide +kernel
theorem dX7_findOpened_75 : decode cX7_findOpened 75 = .ok (.aload_n 0, 1) := by decide +kernel
theorem dX7_findOpened_76 : decode cX7_findOpened 76 = .ok (.getfield 25, 3) := by decide +kernel
theorem dX7_findOpened_79 : decode cX7_findOpened 79 = .ok (.bipush 50, 2) := by decide +kernel
theorem dX7_findOpened_81 : decode cX7_findOpened 81 = .ok (.iload_n 1, 1) := by decide +kernel
theorem dX7_findOpened_82 : decode cX7_findOpened 82 = .ok (.imul, 1) := by decide +kernel
theorem dX7_findOpened_83 : decode cX7_findOpened 83 = .ok (.iload 6, 2) := by decide +kernel
theorem dX7_findOpened_85 : decode cX7_findOpened 85 = .ok (.iadd, 1) := by decide +kernel
theorem dX7_findOpened_86 : decode cX7_findOpened 86 = .ok (.iconst 2, 1) := by decide +kernel
theorem dX7_findOpened_87 : decode cX7_findOpened 87 = .ok (.iastore, 1) := by decide +kernel
theorem dX7_findOpened_88 : decode cX7_findOpened 88 = .ok (.iload 5, 2) := by decide +kernel
theorem dX7_findOpened_90 : decode cX7_findOpened 90 = .ok (.iconst 1, 1) := by decide +kernel
theorem dX7_findOpened_91 : decode cX7_findOpened 91 = .ok (.if_icmp .ne 23, 3) := by decide +kernel
theorem dX7_findOpened_94 : decode cX7_findOpened 94 = .ok (.aload_n 0, 1) := by decide +kernel
theorem dX7_findOpened_95 : decode cX7_findOpened 95 = .ok (.iload_n 1, 1) := by decide +kernel
theorem dX7_findOpened_96 : decode cX7_findOpened 96 = .ok (.iload_n 2, 1) := by decide +kernel
theorem dX7_findOpened_97 : decode cX7_findOpened 97 = .ok (.invokevirtual 243, 3) := by decide +kernel
theorem dX7_findOpened_100 : decode cX7_findOpened 100 = .ok (.ifCond .eq 112, 3) := by decide +kernel
theorem dX7_findOpened_103 : decode cX7_findOpened 103 = .ok (.iconst 1, 1) := by decide +kernel
theorem dX7_findOpened_104 : decode cX7_findOpened 104 = .ok (.istore_n 3, 1) := by decide +kernel
theorem dX7_findOpened_105 : decode cX7_findOpened 105 = .ok (.aload_n 0, 1) := by decide +kernel
theorem dX7_findOpened_106 : decode cX7_findOpened 106 = .ok (.iload 6, 2) := by decide +kernel
theorem dX7_findOpened_108 : decode cX7_findOpened 108 = .ok (.putfield 246, 3) := by decide +kernel
theorem dX7_findOpened_111 : decode cX7_findOpened 111 = .ok (.goto 101, 3) := by decide +kernel
theorem dX7_findOpened_114 : decode cX7_findOpened 114 = .ok (.iload 6, 2) := by decide +kernel
theorem dX7_findOpened_116 : decode cX7_findOpened 116 = .ok (.iconst 1, 1) := by decide +kernel
theorem dX7_findOpened_117 : decode cX7_findOpened 117 = .ok (.iadd, 1) := by decide +kernel
theorem dX7_findOpened_118 : decode cX7_findOpened 118 = .ok (.istore 8, 2) := by decide +kernel
theorem dX7_findOpened_120 : decode cX7_findOpened 120 = .ok (.iload 8, 2) := by decide +kernel
theorem dX7_findOpened_122 : decode cX7_findOpened 122 = .ok (.iload 4, 2) := by decide +kernel
theorem dX7_findOpened_124 : decode cX7_findOpened 124 = .ok (.if_icmp .ge 88, 3) := by decide +kernel
theorem dX7_findOpened_127 : decode cX7_findOpened 127 = .ok (.iload_n 3, 1) := by decide +kernel
theorem dX7_findOpened_128 : decode cX7_findOpened 128 = .ok (.bipush (-9), 2) := by decide +kernel
theorem dX7_findOpened_130 : decode cX7_findOpened 130 = .ok (.if_icmp .ne 82, 3) := by decide +kernel
theorem dX7_findOpened_133 : decode cX7_findOpened 133 = .ok (.aload_n 0, 1) := by decide +kernel
theorem dX7_findOpened_134 : decode cX7_findOpened 134 = .ok (.getfield 25, 3) := by decide +kernel
theorem dX7_findOpened_137 : decode cX7_findOpened 137 = .ok (.bipush 50, 2) := by decide +kernel
theorem dX7_findOpened_139 : decode cX7_findOpened 139 = .ok (.iload_n 1, 1) := by decide +kernel
theorem dX7_findOpened_140 : decode cX7_findOpened 140 = .ok (.imul, 1) := by decide +kernel
theorem dX7_findOpened_141 : decode cX7_findOpened 141 = .ok (.iload 8, 2) := by decide +kernel
theorem dX7_findOpened_143 : decode cX7_findOpened 143 = .ok (.iadd, 1) := by decide +kernel
theorem dX7_findOpened_144 : decode cX7_findOpened 144 = .ok (.iaload, 1) := by decide +kernel
theorem dX7_findOpened_145 : decode cX7_findOpened 145 = .ok (.istore 9, 2) := by decide +kernel
theorem dX7_findOpened_147 : decode cX7_findOpened 147 = .ok (.iload 9, 2) := by decide +kernel
theorem dX7_findOpened_149 : decode cX7_findOpened 149 = .ok (.iconst 2, 1) := by decide +kernel
theorem dX7_findOpened_150 : decode cX7_findOpened 150 = .ok (.if_icmp .ne 6, 3) := by decide +kernel
theorem dX7_findOpened_153 : decode cX7_findOpened 153 = .ok (.goto 53, 3) := by decide +kernel
theorem dX7_findOpened_156 : decode cX7_findOpened 156 = .ok (.aload_n 0, 1) := by decide +kernel
theorem dX7_findOpened_157 : decode cX7_findOpened 157 = .ok (.getfield 25, 3) := by decide +kernel
theorem dX7_findOpened_160 : decode cX7_findOpened 160 = .ok (.bipush 50, 2) := by decide +kernel
theorem dX7_findOpened_162 : decode cX7_findOpened 162 = .ok (.iload_n 1, 1) := by decide +kernel
theorem dX7_findOpened_163 : decode cX7_findOpened 163 = .ok (.imul, 1) := by decide +kernel
theorem dX7_findOpened_164 : decode cX7_findOpened 164 = .ok (.iload 8, 2) := by decide +kernel
theorem dX7_findOpened_166 : decode cX7_findOpened 166 = .ok (.iadd, 1) := by decide +kernel
theorem dX7_findOpened_167 : decode cX7_findOpened 167 = .ok (.iconst 2, 1) := by decide +kernel
theorem dX7_findOpened_168 : decode cX7_findOpened 168 = .ok (.iastore, 1) := by decide +kernel
theorem dX7_findOpened_169 : decode cX7_findOpened 169 = .ok (.aload_n 0, 1) := by decide +kernel
theorem dX7_findOpened_170 : decode cX7_findOpened 170 = .ok (.iload_n 1, 1) := by decide +kernel
theorem dX7_findOpened_171 : decode cX7_findOpened 171 = .ok (.iload_n 2, 1) := by decide +kernel
theorem dX7_findOpened_172 : decode cX7_findOpened 172 = .ok (.invokevirtual 243, 3) := by decide +kernel
theorem dX7_findOpened_175 : decode cX7_findOpened 175 = .ok (.ifCond .eq 17, 3) := by decide +kernel
theorem dX7_findOpened_178 : decode cX7_findOpened 178 = .ok (.iconst 2, 1) := by decide +kernel
theorem dX7_findOpened_179 : decode cX7_findOpened 179 = .ok (.istore_n 3, 1) := by decide +kernel
theorem dX7_findOpened_180 : decode cX7_findOpened 180 = .ok (.aload_n 0, 1) := by decide +kernel
theorem dX7_findOpened_181 : decode cX7_findOpened 181 = .ok (.iload 6, 2) := by decide +kernel
theorem dX7_findOpened_183 : decode cX7_findOpened 183 = .ok (.putfield 246, 3) := by decide +kernel
theorem dX7_findOpened_186 : decode cX7_findOpened 186 = .ok (.aload_n 0, 1) := by decide +kernel
theorem dX7_findOpened_187 : decode cX7_findOpened 187 = .ok (.iload 8, 2) := by decide +kernel
theorem dX7_findOpened_189 : decode cX7_findOpened 189 = .ok (.putfield 249, 3) := by decide +kernel
theorem dX7_findOpened_192 : decode cX7_findOpened 192 = .ok (.aload_n 0, 1) := by decide +kernel
theorem dX7_findOpened_193 : decode cX7_findOpened 193 = .ok (.getfield 25, 3) := by decide +kernel
theorem dX7_findOpened_196 : decode cX7_findOpened 196 = .ok (.bipush 50, 2) := by decide +kernel
theorem dX7_findOpened_198 : decode cX7_findOpened 198 = .ok (.iload_n 1, 1) := by decide +kernel
theorem dX7_findOpened_199 : decode cX7_findOpened 199 = .ok (.imul, 1) := by decide +kernel
theorem dX7_findOpened_200 : decode cX7_findOpened 200 = .ok (.iload 8, 2) := by decide +kernel
theorem dX7_findOpened_202 : decode cX7_findOpened 202 = .ok (.iadd, 1) := by decide +kernel
theorem dX7_findOpened_203 : decode cX7_findOpened 203 = .ok (.iload 9, 2) := by decide +kernel
theorem dX7_findOpened_205 : decode cX7_findOpened 205 = .ok (.iastore, 1) := by decide +kernel
theorem dX7_findOpened_206 : decode cX7_findOpened 206 = .ok (.iinc 8 1, 3) := by decide +kernel
theorem dX7_findOpened_209 : decode cX7_findOpened 209 = .ok (.goto (-89), 3) := by decide +kernel
theorem dX7_findOpened_212 : decode cX7_findOpened 212 = .ok (.aload_n 0, 1) := by decide +kernel
theorem dX7_findOpened_213 : decode cX7_findOpened 213 = .ok (.getfield 25, 3) := by decide +kernel
theorem dX7_findOpened_216 : decode cX7_findOpened 216 = .ok (.bipush 50, 2) := by decide +kernel
theorem dX7_findOpened_218 : decode cX7_findOpened 218 = .ok (.iload_n 1, 1) := by decide +kernel
theorem dX7_findOpened_219 : decode cX7_findOpened 219 = .ok (.imul, 1) := by decide +kernel
theorem dX7_findOpened_220 : decode cX7_findOpened 220 = .ok (.iload 6, 2) := by decide +kernel
theorem dX7_findOpened_222 : decode cX7_findOpened 222 = .ok (.iadd, 1) := by decide +kernel
theorem dX7_findOpened_223 : decode cX7_findOpened 223 = .ok (.iload 7, 2) := by decide +kernel
theorem dX7_findOpened_225 : decode cX7_findOpened 225 = .ok (.iastore, 1) := by decide +kernel
theorem dX7_findOpened_226 : decode cX7_findOpened 226 = .ok (.iinc 6 1, 3) := by decide +kernel
theorem dX7_findOpened_229 : decode cX7_findOpened 229 = .ok (.goto (-190), 3) := by decide +kernel
theorem dX7_findOpened_232 : decode cX7_findOpened 232 = .ok (.iinc 5 1, 3) := by decide +kernel
theorem dX7_findOpened_235 : decode cX7_findOpened 235 = .ok (.goto (-211), 3) := by decide +kernel
theorem dX7_findOpened_238 : decode cX7_findOpened 238 = .ok (.iload_n 3, 1) := by decide +kernel
theorem dX7_findOpened_239 : decode cX7_findOpened 239 = .ok (.ireturn, 1) := by decide +kernel
theorem dX7_opened_0 : decode cX7_opened 0 = .ok (.aload_n 0, 1) := by decide +kernel
theorem dX7_opened_1 : decode cX7_opened 1 = .ok (.iload_n 1, 1) := by decide +kernel
theorem dX7_opened_2 : decode cX7_opened 2 = .ok (.invokevirtual 115, 3) := by decide +kernel
theorem dX7_opened_5 : decode cX7_opened 5 = .ok (.ifCond .eq 12, 3) := by decide +kernel
theorem dX7_opened_8 : decode cX7_opened 8 = .ok (.iload_n 3, 1) := by decide +kernel
theorem dX7_opened_9 : decode cX7_opened 9 = .ok (.iconst (-1), 1) := by decide +kernel
theorem dX7_opened_10 : decode cX7_opened 10 = .ok (.iconst 1, 1) := by decide +kernel
theorem dX7_opened_11 : decode cX7_opened 11 = .ok (.invokestatic 108, 3) := by decide +kernel
theorem dX7_opened_14 : decode cX7_opened 14 = .ok (.ifCond .ne 5, 3) := by decide +kernel
theorem dX7_opened_17 : decode cX7_opened 17 = .ok (.iconst (-1), 1) := by decide +kernel
theorem dX7_opened_18 : decode cX7_opened 18 = .ok (.ireturn, 1) := by decide +kernel
theorem dX7_opened_19 : decode cX7_opened 19 = .ok (.iload_n 2, 1) := by decide +kernel
theorem dX7_opened_20 : decode cX7_opened 20 = .ok (.iconst 1, 1) := by decide +kernel
theorem dX7_opened_21 : decode cX7_opened 21 = .ok (.bipush 30, 2) := by decide +kernel
theorem dX7_opened_23 : decode cX7_opened 23 = .ok (.invokestatic 108, 3) := by decide +kernel
theorem dX7_opened_26 : decode cX7_opened 26 = .ok (.ifCond .ne 6, 3) := by decide +kernel
theorem dX7_opened_29 : decode cX7_opened 29 = .ok (.bipush (-2), 2) := by decide +kernel
theorem dX7_opened_31 : decode cX7_opened 31 = .ok (.ireturn, 1) := by decide +kernel
theorem dX7_opened_32 : decode cX7_opened 32 = .ok (.aload_n 0, 1) := by decide +kernel
theorem dX7_opened_33 : decode cX7_opened 33 = .ok (.iload_n 1, 1) := by decide +kernel
theorem dX7_opened_34 : decode cX7_opened 34 = .ok (.iload_n 2, 1) := by decide +kernel
theorem dX7_opened_35 : decode cX7_opened 35 = .ok (.invokevirtual 252, 3) := by decide +kernel
theorem dX7_opened_38 : decode cX7_opened 38 = .ok (.istore 4, 2) := by decide +kernel
theorem dX7_opened_40 : decode cX7_opened 40 = .ok (.iload_n 3, 1) := by decide +kernel
theorem dX7_opened_41 : decode cX7_opened 41 = .ok (.iconst (-1), 1) := by decide +kernel
theorem dX7_opened_42 : decode cX7_opened 42 = .ok (.if_icmp .ne 6, 3) := by decide +kernel
theorem dX7_opened_45 : decode cX7_opened 45 = .ok (.iload 4, 2) := by decide +kernel
theorem dX7_opened_47 : decode cX7_opened 47 = .ok (.ireturn, 1) := by decide +kernel
theorem dX7_opened_48 : decode cX7_opened 48 = .ok (.iload 4, 2) := by decide +kernel
theorem dX7_opened_50 : decode cX7_opened 50 = .ok (.bipush (-9), 2) := by decide +kernel
theorem dX7_opened_52 : decode cX7_opened 52 = .ok (.if_icmp .eq 9, 3) := by decide +kernel
theorem dX7_opened_55 : decode cX7_opened 55 = .ok (.iload_n 3, 1) := by decide +kernel
theorem dX7_opened_56 : decode cX7_opened 56 = .ok (.iload 4, 2) := by decide +kernel
theorem dX7_opened_58 : decode cX7_opened 58 = .ok (.if_icmp .lt 8, 3) := by decide +kernel
theorem dX7_opened_61 : decode cX7_opened 61 = .ok (.bipush (-9), 2) := by decide +kernel
theorem dX7_opened_63 : decode cX7_opened 63 = .ok (.goto 18, 3) := by decide +kernel
theorem dX7_opened_66 : decode cX7_opened 66 = .ok (.iload_n 3, 1) := by decide +kernel
theorem dX7_opened_67 : decode cX7_opened 67 = .ok (.ifCond .ne 10, 3) := by decide +kernel
theorem dX7_opened_70 : decode cX7_opened 70 = .ok (.aload_n 0, 1) := by decide +kernel
theorem dX7_opened_71 : decode cX7_opened 71 = .ok (.getfield 246, 3) := by decide +kernel
theorem dX7_opened_74 : decode cX7_opened 74 = .ok (.goto 7, 3) := by decide +kernel
theorem dX7_opened_77 : decode cX7_opened 77 = .ok (.aload_n 0, 1) := by decide +kernel
theorem dX7_opened_78 : decode cX7_opened 78 = .ok (.getfield 249, 3) := by decide +kernel
theorem dX7_opened_81 : decode cX7_opened 81 = .ok (.ireturn, 1) := by decide +kernel
theorem dX7_blindTicks_0 : decode cX7_blindTicks 0 = .ok (.iload_n 2, 1) := by decide +kernel
theorem dX7_blindTicks_1 : decode cX7_blindTicks 1 = .ok (.istore 4, 2) := by decide +kernel
theorem dX7_blindTicks_3 : decode cX7_blindTicks 3 = .ok (.iload_n 3, 1) := by decide +kernel
theorem dX7_blindTicks_4 : decode cX7_blindTicks 4 = .ok (.istore 5, 2) := by decide +kernel
theorem dX7_blindTicks_6 : decode cX7_blindTicks 6 = .ok (.iconst 1, 1) := by decide +kernel
theorem dX7_blindTicks_7 : decode cX7_blindTicks 7 = .ok (.istore 6, 2) := by decide +kernel
theorem dX7_blindTicks_9 : decode cX7_blindTicks 9 = .ok (.iload 6, 2) := by decide +kernel
theorem dX7_blindTicks_11 : decode cX7_blindTicks 11 = .ok (.sipush 200, 3) := by decide +kernel
theorem dX7_blindTicks_14 : decode cX7_blindTicks 14 = .ok (.if_icmp .gt 100, 3) := by decide +kernel
theorem dX7_blindTicks_17 : decode cX7_blindTicks 17 = .ok (.bipush (-9), 2) := by decide +kernel
theorem dX7_blindTicks_19 : decode cX7_blindTicks 19 = .ok (.istore 7, 2) := by decide +kernel
theorem dX7_blindTicks_21 : decode cX7_blindTicks 21 = .ok (.iconst 2, 1) := by decide +kernel
theorem dX7_blindTicks_22 : decode cX7_blindTicks 22 = .ok (.istore 8, 2) := by decide +kernel
theorem dX7_blindTicks_24 : decode cX7_blindTicks 24 = .ok (.iload 8, 2) := by decide +kernel
theorem dX7_blindTicks_26 : decode cX7_blindTicks 26 = .ok (.ifCond .lt 47, 3) := by decide +kernel
theorem dX7_blindTicks_29 : decode cX7_blindTicks 29 = .ok (.iload 4, 2) := by decide +kernel
theorem dX7_blindTicks_31 : decode cX7_blindTicks 31 = .ok (.iload 5, 2) := by decide +kernel
theorem dX7_blindTicks_33 : decode cX7_blindTicks 33 = .ok (.iload 8, 2) := by decide +kernel
theorem dX7_blindTicks_35 : decode cX7_blindTicks 35 = .ok (.invokestatic 222, 3) := by decide +kernel
theorem dX7_blindTicks_38 : decode cX7_blindTicks 38 = .ok (.istore 9, 2) := by decide +kernel
theorem dX7_blindTicks_40 : decode cX7_blindTicks 40 = .ok (.aload_n 0, 1) := by decide +kernel
theorem dX7_blindTicks_41 : decode cX7_blindTicks 41 = .ok (.getfield 25, 3) := by decide +kernel
theorem dX7_blindTicks_44 : decode cX7_blindTicks 44 = .ok (.bipush 50, 2) := by decide +kernel
theorem dX7_blindTicks_46 : decode cX7_blindTicks 46 = .ok (.iload_n 1, 1) := by decide +kernel
theorem dX7_blindTicks_47 : decode cX7_blindTicks 47 = .ok (.imul, 1) := by decide +kernel
theorem dX7_blindTicks_48 : decode cX7_blindTicks 48 = .ok (.aload_n 0, 1) := by decide +kernel
theorem dX7_blindTicks_49 : decode cX7_blindTicks 49 = .ok (.iload_n 1, 1) := by decide +kernel
theorem dX7_blindTicks_50 : decode cX7_blindTicks 50 = .ok (.iload 4, 2) := by decide +kernel
theorem dX7_blindTicks_52 : decode cX7_blindTicks 52 = .ok (.iload 9, 2) := by decide +kernel
theorem dX7_blindTicks_54 : decode cX7_blindTicks 54 = .ok (.invokevirtual 159, 3) := by decide +kernel
theorem dX7_blindTicks_57 : decode cX7_blindTicks 57 = .ok (.iadd, 1) := by decide +kernel
theorem dX7_blindTicks_58 : decode cX7_blindTicks 58 = .ok (.iaload, 1) := by decide +kernel
theorem dX7_blindTicks_59 : decode cX7_blindTicks 59 = .ok (.iconst 2, 1) := by decide +kernel
theorem dX7_blindTicks_60 : decode cX7_blindTicks 60 = .ok (.if_icmp .ne 7, 3) := by decide +kernel
theorem dX7_blindTicks_63 : decode cX7_blindTicks 63 = .ok (.iload 9, 2) := by decide +kernel
theorem dX7_blindTicks_65 : decode cX7_blindTicks 65 = .ok (.istore 7, 2) := by decide +kernel
theorem dX7_blindTicks_67 : decode cX7_blindTicks 67 = .ok (.iinc 8 (-1), 3) := by decide +kernel
theorem dX7_blindTicks_70 : decode cX7_blindTicks 70 = .ok (.goto (-46), 3) := by decide +kernel
theorem dX7_blindTicks_73 : decode cX7_blindTicks 73 = .ok (.iload 7, 2) := by decide +kernel
theorem dX7_blindTicks_75 : decode cX7_blindTicks 75 = .ok (.bipush (-9), 2) := by decide +kernel
theorem dX7_blindTicks_77 : decode cX7_blindTicks 77 = .ok (.if_icmp .ne 6, 3) := by decide +kernel
theorem dX7_blindTicks_80 : decode cX7_blindTicks 80 = .ok (.bipush (-9), 2) := by decide +kernel
theorem dX7_blindTicks_82 : decode cX7_blindTicks 82 = .ok (.ireturn, 1) := by decide +kernel
theorem dX7_blindTicks_83 : decode cX7_blindTicks 83 = .ok (.aload_n 0, 1) := by decide +kernel
theorem dX7_blindTicks_84 : decode cX7_blindTicks 84 = .ok (.iload_n 1, 1) := by decide +kernel
theorem dX7_blindTicks_85 : decode cX7_blindTicks 85 = .ok (.iload 4, 2) := by decide +kernel
theorem dX7_blindTicks_87 : decode cX7_blindTicks 87 = .ok (.iload 7, 2) := by decide +kernel
theorem dX7_blindTicks_89 : decode cX7_blindTicks 89 = .ok (.invokevirtual 185, 3) := by decide +kernel
theorem dX7_blindTicks_92 : decode cX7_blindTicks 92 = .ok (.istore 4, 2) := by decide +kernel
theorem dX7_blindTicks_94 : decode cX7_blindTicks 94 = .ok (.iload 7, 2) := by decide +kernel
theorem dX7_blindTicks_96 : decode cX7_blindTicks 96 = .ok (.istore 5, 2) := by decide +kernel
theorem dX7_blindTicks_98 : decode cX7_blindTicks 98 = .ok (.iload 4, 2) := by decide +kernel
theorem dX7_blindTicks_100 : decode cX7_blindTicks 100 = .ok (.bipush (-9), 2) := by decide +kernel
theorem dX7_blindTicks_102 : decode cX7_blindTicks 102 = .ok (.if_icmp .ne 6, 3) := by decide +kernel
theorem dX7_blindTicks_105 : decode cX7_blindTicks 105 = .ok (.iload 6, 2) := by decide +kernel
theorem dX7_blindTicks_107 : decode cX7_blindTicks 107 = .ok (.ireturn, 1) := by decide +kernel
theorem dX7_blindTicks_108 : decode cX7_blindTicks 108 = .ok (.iinc 6 1, 3) := by decide +kernel
theorem dX7_blindTicks_111 : decode cX7_blindTicks 111 = .ok (.goto (-102), 3) := by decide +kernel
theorem dX7_blindTicks_114 : decode cX7_blindTicks 114 = .ok (.bipush (-9), 2) := by decide +kernel
theorem dX7_blindTicks_116 : decode cX7_blindTicks 116 = .ok (.ireturn, 1) := by decide +kernel
theorem dX7_keeps_0 : decode cX7_keeps 0 = .ok (.aload_n 0, 1) := by decide +kernel
theorem dX7_keeps_1 : decode cX7_keeps 1 = .ok (.iconst 0, 1) := by decide +kernel
theorem dX7_keeps_2 : decode cX7_keeps 2 = .ok (.putfield 102, 3) := by decide +kernel
theorem dX7_keeps_5 : decode cX7_keeps 5 = .ok (.iload 4, 2) := by decide +kernel
theorem dX7_keeps_7 : decode cX7_keeps 7 = .ok (.invokestatic 126, 3) := by decide +kernel
theorem dX7_keeps_10 : decode cX7_keeps 10 = .ok (.ifCond .eq 12, 3) := by decide +kernel
theorem dX7_keeps_13 : decode cX7_keeps 13 = .ok (.aload_n 0, 1) := by decide +kernel
theorem dX7_keeps_14 : decode cX7_keeps 14 = .ok (.iload_n 1, 1) := by decide +kernel
theorem dX7_keeps_15 : decode cX7_keeps 15 = .ok (.iload_n 2, 1) := by decide +kernel
theorem dX7_keeps_16 : decode cX7_keeps 16 = .ok (.invokevirtual 163, 3) := by decide +kernel
theorem dX7_keeps_19 : decode cX7_keeps 19 = .ok (.ifCond .ne 5, 3) := by decide +kernel
theorem dX7_keeps_22 : decode cX7_keeps 22 = .ok (.iconst (-1), 1) := by decide +kernel
theorem dX7_keeps_23 : decode cX7_keeps 23 = .ok (.ireturn, 1) := by decide +kernel
theorem dX7_keeps_24 : decode cX7_keeps 24 = .ok (.iload 5, 2) := by decide +kernel
theorem dX7_keeps_26 : decode cX7_keeps 26 = .ok (.invokestatic 129, 3) := by decide +kernel
theorem dX7_keeps_29 : decode cX7_keeps 29 = .ok (.ifCond .eq 22, 3) := by decide +kernel
theorem dX7_keeps_32 : decode cX7_keeps 32 = .ok (.iload_n 3, 1) := by decide +kernel
theorem dX7_keeps_33 : decode cX7_keeps 33 = .ok (.iconst 0, 1) := by decide +kernel
theorem dX7_keeps_34 : decode cX7_keeps 34 = .ok (.iconst 2, 1) := by decide +kernel
theorem dX7_keeps_35 : decode cX7_keeps 35 = .ok (.invokestatic 108, 3) := by decide +kernel
theorem dX7_keeps_38 : decode cX7_keeps 38 = .ok (.ifCond .eq 13, 3) := by decide +kernel
theorem dX7_keeps_41 : decode cX7_keeps 41 = .ok (.iload 8, 2) := by decide +kernel
theorem dX7_keeps_43 : decode cX7_keeps 43 = .ok (.iconst 0, 1) := by decide +kernel
theorem dX7_keeps_44 : decode cX7_keeps 44 = .ok (.iconst 1, 1) := by decide +kernel
theorem dX7_keeps_45 : decode cX7_keeps 45 = .ok (.invokestatic 108, 3) := by decide +kernel
theorem dX7_keeps_48 : decode cX7_keeps 48 = .ok (.ifCond .ne 6, 3) := by decide +kernel
theorem dX7_keeps_51 : decode cX7_keeps 51 = .ok (.bipush (-2), 2) := by decide +kernel
theorem dX7_keeps_53 : decode cX7_keeps 53 = .ok (.ireturn, 1) := by decide +kernel
theorem dX7_keeps_54 : decode cX7_keeps 54 = .ok (.aload_n 0, 1) := by decide +kernel
theorem dX7_keeps_55 : decode cX7_keeps 55 = .ok (.iload 4, 2) := by decide +kernel
theorem dX7_keeps_57 : decode cX7_keeps 57 = .ok (.iload 5, 2) := by decide +kernel
theorem dX7_keeps_59 : decode cX7_keeps 59 = .ok (.iload 6, 2) := by decide +kernel
theorem dX7_keeps_61 : decode cX7_keeps 61 = .ok (.iload 7, 2) := by decide +kernel
theorem dX7_keeps_63 : decode cX7_keeps 63 = .ok (.invokevirtual 132, 3) := by decide +kernel
theorem dX7_keeps_66 : decode cX7_keeps 66 = .ok (.istore 9, 2) := by decide +kernel
theorem dX7_keeps_68 : decode cX7_keeps 68 = .ok (.iload 9, 2) := by decide +kernel
theorem dX7_keeps_70 : decode cX7_keeps 70 = .ok (.ifCond .eq 10, 3) := by decide +kernel
theorem dX7_keeps_73 : decode cX7_keeps 73 = .ok (.aload_n 0, 1) := by decide +kernel
theorem dX7_keeps_74 : decode cX7_keeps 74 = .ok (.iload 9, 2) := by decide +kernel
theorem dX7_keeps_76 : decode cX7_keeps 76 = .ok (.invokevirtual 136, 3) := by decide +kernel
theorem dX7_keeps_79 : decode cX7_keeps 79 = .ok (.ireturn, 1) := by decide +kernel
theorem dX7_keeps_80 : decode cX7_keeps 80 = .ok (.iload 7, 2) := by decide +kernel
theorem dX7_keeps_82 : decode cX7_keeps 82 = .ok (.iconst 1, 1) := by decide +kernel
theorem dX7_keeps_83 : decode cX7_keeps 83 = .ok (.bipush 8, 2) := by decide +kernel
theorem dX7_keeps_85 : decode cX7_keeps 85 = .ok (.invokestatic 108, 3) := by decide +kernel
theorem dX7_keeps_88 : decode cX7_keeps 88 = .ok (.ifCond .ne 6, 3) := by decide +kernel
theorem dX7_keeps_91 : decode cX7_keeps 91 = .ok (.bipush (-2), 2) := by decide +kernel
theorem dX7_keeps_93 : decode cX7_keeps 93 = .ok (.ireturn, 1) := by decide +kernel
theorem dX7_keeps_94 : decode cX7_keeps 94 = .ok (.bipush 60, 2) := by decide +kernel
theorem dX7_keeps_96 : decode cX7_keeps 96 = .ok (.iload 4, 2) := by decide +kernel
theorem dX7_keeps_98 : decode cX7_keeps 98 = .ok (.imul, 1) := by decide +kernel
theorem dX7_keeps_99 : decode cX7_keeps 99 = .ok (.iload 6, 2) := by decide +kernel
theorem dX7_keeps_101 : decode cX7_keeps 101 = .ok (.iadd, 1) := by decide +kernel
theorem dX7_keeps_102 : decode cX7_keeps 102 = .ok (.istore 10, 2) := by decide +kernel
theorem dX7_keeps_104 : decode cX7_keeps 104 = .ok (.iconst 0, 1) := by decide +kernel
theorem dX7_keeps_105 : decode cX7_keeps 105 = .ok (.istore 11, 2) := by decide +kernel
theorem dX7_keeps_107 : decode cX7_keeps 107 = .ok (.iload 11, 2) := by decide +kernel
theorem dX7_keeps_109 : decode cX7_keeps 109 = .ok (.iload 7, 2) := by decide +kernel
theorem dX7_keeps_111 : decode cX7_keeps 111 = .ok (.if_icmp .ge 29, 3) := by decide +kernel
theorem dX7_keeps_114 : decode cX7_keeps 114 = .ok (.aload_n 0, 1) := by decide +kernel
theorem dX7_keeps_115 : decode cX7_keeps 115 = .ok (.iload_n 1, 1) := by decide +kernel
theorem dX7_keeps_116 : decode cX7_keeps 116 = .ok (.aload_n 0, 1) := by decide +kernel
theorem dX7_keeps_117 : decode cX7_keeps 117 = .ok (.getfield 16, 3) := by decide +kernel
theorem dX7_keeps_120 : decode cX7_keeps 120 = .ok (.iload 10, 2) := by decide +kernel
theorem dX7_keeps_122 : decode cX7_keeps 122 = .ok (.iload 11, 2) := by decide +kernel
theorem dX7_keeps_124 : decode cX7_keeps 124 = .ok (.iadd, 1) := by decide +kernel
theorem dX7_keeps_125 : decode cX7_keeps 125 = .ok (.iaload, 1) := by decide +kernel
theorem dX7_keeps_126 : decode cX7_keeps 126 = .ok (.invokevirtual 155, 3) := by decide +kernel
theorem dX7_keeps_129 : decode cX7_keeps 129 = .ok (.ifCond .ne 5, 3) := by decide +kernel
theorem dX7_keeps_132 : decode cX7_keeps 132 = .ok (.iconst (-1), 1) := by decide +kernel
theorem dX7_keeps_133 : decode cX7_keeps 133 = .ok (.ireturn, 1) := by decide +kernel
theorem dX7_keeps_134 : decode cX7_keeps 134 = .ok (.iinc 11 1, 3) := by decide +kernel
theorem dX7_keeps_137 : decode cX7_keeps 137 = .ok (.goto (-30), 3) := by decide +kernel
theorem dX7_keeps_140 : decode cX7_keeps 140 = .ok (.iconst 0, 1) := by decide +kernel
theorem dX7_keeps_141 : decode cX7_keeps 141 = .ok (.istore 11, 2) := by decide +kernel
theorem dX7_keeps_143 : decode cX7_keeps 143 = .ok (.iload 11, 2) := by decide +kernel
theorem dX7_keeps_145 : decode cX7_keeps 145 = .ok (.iload 7, 2) := by decide +kernel
theorem dX7_keeps_147 : decode cX7_keeps 147 = .ok (.if_icmp .ge 51, 3) := by decide +kernel
theorem dX7_keeps_150 : decode cX7_keeps 150 = .ok (.iconst 0, 1) := by decide +kernel
theorem dX7_keeps_151 : decode cX7_keeps 151 = .ok (.istore 12, 2) := by decide +kernel
theorem dX7_keeps_153 : decode cX7_keeps 153 = .ok (.iload 12, 2) := by decide +kernel
theorem dX7_keeps_155 : decode cX7_keeps 155 = .ok (.iload 11, 2) := by decide +kernel
theorem dX7_keeps_157 : decode cX7_keeps 157 = .ok (.if_icmp .ge 35, 3) := by decide +kernel
theorem dX7_keeps_160 : decode cX7_keeps 160 = .ok (.aload_n 0, 1) := by decide +kernel
theorem dX7_keeps_161 : decode cX7_keeps 161 = .ok (.getfield 16, 3) := by decide +kernel
theorem dX7_keeps_164 : decode cX7_keeps 164 = .ok (.iload 10, 2) := by decide +kernel
theorem dX7_keeps_166 : decode cX7_keeps 166 = .ok (.iload 11, 2) := by decide +kernel
theorem dX7_keeps_168 : decode cX7_keeps 168 = .ok (.iadd, 1) := by decide +kernel
theorem dX7_keeps_169 : decode cX7_keeps 169 = .ok (.iaload, 1) := by decide +kernel
theorem dX7_keeps_170 : decode cX7_keeps 170 = .ok (.aload_n 0, 1) := by decide +kernel
theorem dX7_keeps_171 : decode cX7_keeps 171 = .ok (.getfield 16, 3) := by decide +kernel
theorem dX7_keeps_174 : decode cX7_keeps 174 = .ok (.iload 10, 2) := by decide +kernel
theorem dX7_keeps_176 : decode cX7_keeps 176 = .ok (.iload 12, 2) := by decide +kernel
theorem dX7_keeps_178 : decode cX7_keeps 178 = .ok (.iadd, 1) := by decide +kernel
theorem dX7_keeps_179 : decode cX7_keeps 179 = .ok (.iaload, 1) := by decide +kernel
theorem dX7_keeps_180 : decode cX7_keeps 180 = .ok (.if_icmp .ne 6, 3) := by decide +kernel
theorem dX7_keeps_183 : decode cX7_keeps 183 = .ok (.bipush (-2), 2) := by decide +kernel
theorem dX7_keeps_185 : decode cX7_keeps 185 = .ok (.ireturn, 1) := by decide +kernel
theorem dX7_keeps_186 : decode cX7_keeps 186 = .ok (.iinc 12 1, 3) := by decide +kernel
theorem dX7_keeps_189 : decode cX7_keeps 189 = .ok (.goto (-36), 3) := by decide +kernel
theorem dX7_keeps_192 : decode cX7_keeps 192 = .ok (.iinc 11 1, 3) := by decide +kernel
theorem dX7_keeps_195 : decode cX7_keeps 195 = .ok (.goto (-52), 3) := by decide +kernel
theorem dX7_keeps_198 : decode cX7_keeps 198 = .ok (.iconst 0, 1) := by decide +kernel
theorem dX7_keeps_199 : decode cX7_keeps 199 = .ok (.istore 11, 2) := by decide +kernel
theorem dX7_keeps_201 : decode cX7_keeps 201 = .ok (.iload 11, 2) := by decide +kernel
theorem dX7_keeps_203 : decode cX7_keeps 203 = .ok (.iload 7, 2) := by decide +kernel
theorem dX7_keeps_205 : decode cX7_keeps 205 = .ok (.if_icmp .ge 36, 3) := by decide +kernel
theorem dX7_keeps_208 : decode cX7_keeps 208 = .ok (.aload_n 0, 1) := by decide +kernel
theorem dX7_keeps_209 : decode cX7_keeps 209 = .ok (.getfield 89, 3) := by decide +kernel
theorem dX7_keeps_212 : decode cX7_keeps 212 = .ok (.iload 11, 2) := by decide +kernel
theorem dX7_keeps_214 : decode cX7_keeps 214 = .ok (.aload_n 0, 1) := by decide +kernel
theorem dX7_keeps_215 : decode cX7_keeps 215 = .ok (.getfield 25, 3) := by decide +kernel
theorem dX7_keeps_218 : decode cX7_keeps 218 = .ok (.bipush 50, 2) := by decide +kernel
theorem dX7_keeps_220 : decode cX7_keeps 220 = .ok (.iload_n 1, 1) := by decide +kernel
theorem dX7_keeps_221 : decode cX7_keeps 221 = .ok (.imul, 1) := by decide +kernel
theorem dX7_keeps_222 : decode cX7_keeps 222 = .ok (.aload_n 0, 1) := by decide +kernel
theorem dX7_keeps_223 : decode cX7_keeps 223 = .ok (.getfield 16, 3) := by decide +kernel
theorem dX7_keeps_226 : decode cX7_keeps 226 = .ok (.iload 10, 2) := by decide +kernel
theorem dX7_keeps_228 : decode cX7_keeps 228 = .ok (.iload 11, 2) := by decide +kernel
theorem dX7_keeps_230 : decode cX7_keeps 230 = .ok (.iadd, 1) := by decide +kernel
theorem dX7_keeps_231 : decode cX7_keeps 231 = .ok (.iaload, 1) := by decide +kernel
theorem dX7_keeps_232 : decode cX7_keeps 232 = .ok (.iadd, 1) := by decide +kernel
theorem dX7_keeps_233 : decode cX7_keeps 233 = .ok (.iaload, 1) := by decide +kernel
theorem dX7_keeps_234 : decode cX7_keeps 234 = .ok (.iastore, 1) := by decide +kernel
theorem dX7_keeps_235 : decode cX7_keeps 235 = .ok (.iinc 11 1, 3) := by decide +kernel
theorem dX7_keeps_238 : decode cX7_keeps 238 = .ok (.goto (-37), 3) := by decide +kernel
theorem dX7_keeps_241 : decode cX7_keeps 241 = .ok (.bipush (-9), 2) := by decide +kernel
theorem dX7_keeps_243 : decode cX7_keeps 243 = .ok (.istore 11, 2) := by decide +kernel
theorem dX7_keeps_245 : decode cX7_keeps 245 = .ok (.bipush (-9), 2) := by decide +kernel
theorem dX7_keeps_247 : decode cX7_keeps 247 = .ok (.istore 12, 2) := by decide +kernel
theorem dX7_keeps_249 : decode cX7_keeps 249 = .ok (.iconst 0, 1) := by decide +kernel
theorem dX7_keeps_250 : decode cX7_keeps 250 = .ok (.istore 13, 2) := by decide +kernel
theorem dX7_keeps_252 : decode cX7_keeps 252 = .ok (.iload 13, 2) := by decide +kernel
theorem dX7_keeps_254 : decode cX7_keeps 254 = .ok (.iconst 1, 1) := by decide +kernel
theorem dX7_keeps_255 : decode cX7_keeps 255 = .ok (.iload 7, 2) := by decide +kernel
theorem dX7_keeps_257 : decode cX7_keeps 257 = .ok (.ishl, 1) := by decide +kernel
theorem dX7_keeps_258 : decode cX7_keeps 258 = .ok (.if_icmp .ge 99, 3) := by decide +kernel
theorem dX7_keeps_261 : decode cX7_keeps 261 = .ok (.iconst 0, 1) := by decide +kernel
theorem dX7_keeps_262 : decode cX7_keeps 262 = .ok (.istore 14, 2) := by decide +kernel
theorem dX7_keeps_264 : decode cX7_keeps 264 = .ok (.iload 14, 2) := by decide +kernel
theorem dX7_keeps_266 : decode cX7_keeps 266 = .ok (.iload 7, 2) := by decide +kernel
theorem dX7_keeps_268 : decode cX7_keeps 268 = .ok (.if_icmp .ge 44, 3) := by decide +kernel
theorem dX7_keeps_271 : decode cX7_keeps 271 = .ok (.aload_n 0, 1) := by decide +kernel
theorem dX7_keeps_272 : decode cX7_keeps 272 = .ok (.getfield 25, 3) := by decide +kernel
theorem dX7_keeps_275 : decode cX7_keeps 275 = .ok (.bipush 50, 2) := by decide +kernel
theorem dX7_keeps_277 : decode cX7_keeps 277 = .ok (.iload_n 1, 1) := by decide +kernel
theorem dX7_keeps_278 : decode cX7_keeps 278 = .ok (.imul, 1) := by decide +kernel
theorem dX7_keeps_279 : decode cX7_keeps 279 = .ok (.aload_n 0, 1) := by decide +kernel
theorem dX7_keeps_280 : decode cX7_keeps 280 = .ok (.getfield 16, 3) := by decide +kernel
theorem dX7_keeps_283 : decode cX7_keeps 283 = .ok (.iload 10, 2) := by decide +kernel
theorem dX7_keeps_285 : decode cX7_keeps 285 = .ok (.iload 14, 2) := by decide +kernel
theorem dX7_keeps_287 : decode cX7_keeps 287 = .ok (.iadd, 1) := by decide +kernel
theorem dX7_keeps_288 : decode cX7_keeps 288 = .ok (.iaload, 1) := by decide +kernel
theorem dX7_keeps_289 : decode cX7_keeps 289 = .ok (.iadd, 1) := by decide +kernel
theorem dX7_keeps_290 : decode cX7_keeps 290 = .ok (.iload 13, 2) := by decide +kernel
theorem dX7_keeps_292 : decode cX7_keeps 292 = .ok (.iload 14, 2) := by decide +kernel
theorem dX7_keeps_294 : decode cX7_keeps 294 = .ok (.invokestatic 255, 3) := by decide +kernel
theorem dX7_keeps_297 : decode cX7_keeps 297 = .ok (.ifCond .eq 7, 3) := by decide +kernel
theorem dX7_keeps_300 : decode cX7_keeps 300 = .ok (.iconst 2, 1) := by decide +kernel
theorem dX7_keeps_301 : decode cX7_keeps 301 = .ok (.goto 4, 3) := by decide +kernel
theorem dX7_keeps_304 : decode cX7_keeps 304 = .ok (.iconst 1, 1) := by decide +kernel
theorem dX7_keeps_305 : decode cX7_keeps 305 = .ok (.iastore, 1) := by decide +kernel
theorem dX7_keeps_306 : decode cX7_keeps 306 = .ok (.iinc 14 1, 3) := by decide +kernel
theorem dX7_keeps_309 : decode cX7_keeps 309 = .ok (.goto (-45), 3) := by decide +kernel
theorem dX7_keeps_312 : decode cX7_keeps 312 = .ok (.aload_n 0, 1) := by decide +kernel
theorem dX7_keeps_313 : decode cX7_keeps 313 = .ok (.iload_n 1, 1) := by decide +kernel
theorem dX7_keeps_314 : decode cX7_keeps 314 = .ok (.invokevirtual 240, 3) := by decide +kernel
theorem dX7_keeps_317 : decode cX7_keeps 317 = .ok (.bipush (-9), 2) := by decide +kernel
theorem dX7_keeps_319 : decode cX7_keeps 319 = .ok (.if_icmp .ne 13, 3) := by decide +kernel
theorem dX7_keeps_322 : decode cX7_keeps 322 = .ok (.aload_n 0, 1) := by decide +kernel
theorem dX7_keeps_323 : decode cX7_keeps 323 = .ok (.iload_n 1, 1) := by decide +kernel
theorem dX7_keeps_324 : decode cX7_keeps 324 = .ok (.iload_n 2, 1) := by decide +kernel
theorem dX7_keeps_325 : decode cX7_keeps 325 = .ok (.iload_n 3, 1) := by decide +kernel
theorem dX7_keeps_326 : decode cX7_keeps 326 = .ok (.invokevirtual 258, 3) := by decide +kernel
theorem dX7_keeps_329 : decode cX7_keeps 329 = .ok (.goto 5, 3) := by decide +kernel
theorem dX7_keeps_332 : decode cX7_keeps 332 = .ok (.bipush (-9), 2) := by decide +kernel
theorem dX7_keeps_334 : decode cX7_keeps 334 = .ok (.istore 14, 2) := by decide +kernel
theorem dX7_keeps_336 : decode cX7_keeps 336 = .ok (.iload 14, 2) := by decide +kernel
theorem dX7_keeps_338 : decode cX7_keeps 338 = .ok (.iload 11, 2) := by decide +kernel
theorem dX7_keeps_340 : decode cX7_keeps 340 = .ok (.if_icmp .le 11, 3) := by decide +kernel
theorem dX7_keeps_343 : decode cX7_keeps 343 = .ok (.iload 14, 2) := by decide +kernel
theorem dX7_keeps_345 : decode cX7_keeps 345 = .ok (.istore 11, 2) := by decide +kernel
theorem dX7_keeps_347 : decode cX7_keeps 347 = .ok (.iload 13, 2) := by decide +kernel
theorem dX7_keeps_349 : decode cX7_keeps 349 = .ok (.istore 12, 2) := by decide +kernel
theorem dX7_keeps_351 : decode cX7_keeps 351 = .ok (.iinc 13 1, 3) := by decide +kernel
theorem dX7_keeps_354 : decode cX7_keeps 354 = .ok (.goto (-102), 3) := by decide +kernel
theorem dX7_keeps_357 : decode cX7_keeps 357 = .ok (.iconst 0, 1) := by decide +kernel
theorem dX7_keeps_358 : decode cX7_keeps 358 = .ok (.istore 13, 2) := by decide +kernel
theorem dX7_keeps_360 : decode cX7_keeps 360 = .ok (.iload 13, 2) := by decide +kernel
theorem dX7_keeps_362 : decode cX7_keeps 362 = .ok (.iload 7, 2) := by decide +kernel
theorem dX7_keeps_364 : decode cX7_keeps 364 = .ok (.if_icmp .ge 36, 3) := by decide +kernel
theorem dX7_keeps_367 : decode cX7_keeps 367 = .ok (.aload_n 0, 1) := by decide +kernel
theorem dX7_keeps_368 : decode cX7_keeps 368 = .ok (.getfield 25, 3) := by decide +kernel
theorem dX7_keeps_371 : decode cX7_keeps 371 = .ok (.bipush 50, 2) := by decide +kernel
theorem dX7_keeps_373 : decode cX7_keeps 373 = .ok (.iload_n 1, 1) := by decide +kernel
theorem dX7_keeps_374 : decode cX7_keeps 374 = .ok (.imul, 1) := by decide +kernel
theorem dX7_keeps_375 : decode cX7_keeps 375 = .ok (.aload_n 0, 1) := by decide +kernel
theorem dX7_keeps_376 : decode cX7_keeps 376 = .ok (.getfield 16, 3) := by decide +kernel
theorem dX7_keeps_379 : decode cX7_keeps 379 = .ok (.iload 10, 2) := by decide +kernel
theorem dX7_keeps_381 : decode cX7_keeps 381 = .ok (.iload 13, 2) := by decide +kernel
theorem dX7_keeps_383 : decode cX7_keeps 383 = .ok (.iadd, 1) := by decide +kernel
theorem dX7_keeps_384 : decode cX7_keeps 384 = .ok (.iaload, 1) := by decide +kernel
theorem dX7_keeps_385 : decode cX7_keeps 385 = .ok (.iadd, 1) := by decide +kernel
theorem dX7_keeps_386 : decode cX7_keeps 386 = .ok (.aload_n 0, 1) := by decide +kernel
theorem dX7_keeps_387 : decode cX7_keeps 387 = .ok (.getfield 89, 3) := by decide +kernel
theorem dX7_keeps_390 : decode cX7_keeps 390 = .ok (.iload 13, 2) := by decide +kernel
theorem dX7_keeps_392 : decode cX7_keeps 392 = .ok (.iaload, 1) := by decide +kernel
theorem dX7_keeps_393 : decode cX7_keeps 393 = .ok (.iastore, 1) := by decide +kernel
theorem dX7_keeps_394 : decode cX7_keeps 394 = .ok (.iinc 13 1, 3) := by decide +kernel
theorem dX7_keeps_397 : decode cX7_keeps 397 = .ok (.goto (-37), 3) := by decide +kernel
theorem dX7_keeps_400 : decode cX7_keeps 400 = .ok (.iload 8, 2) := by decide +kernel
theorem dX7_keeps_402 : decode cX7_keeps 402 = .ok (.ifCond .ne 8, 3) := by decide +kernel
theorem dX7_keeps_405 : decode cX7_keeps 405 = .ok (.iload 11, 2) := by decide +kernel
theorem dX7_keeps_407 : decode cX7_keeps 407 = .ok (.goto 5, 3) := by decide +kernel
theorem dX7_keeps_410 : decode cX7_keeps 410 = .ok (.iload 12, 2) := by decide +kernel
theorem dX7_keeps_412 : decode cX7_keeps 412 = .ok (.ireturn, 1) := by decide +kernel
theorem dX7_whyNot_0 : decode cX7_whyNot 0 = .ok (.aload_n 0, 1) := by decide +kernel
theorem dX7_whyNot_1 : decode cX7_whyNot 1 = .ok (.iload_n 1, 1) := by decide +kernel
theorem dX7_whyNot_2 : decode cX7_whyNot 2 = .ok (.invokevirtual 115, 3) := by decide +kernel
theorem dX7_whyNot_5 : decode cX7_whyNot 5 = .ok (.ifCond .eq 11, 3) := by decide +kernel
theorem dX7_whyNot_8 : decode cX7_whyNot 8 = .ok (.aload_n 0, 1) := by decide +kernel
theorem dX7_whyNot_9 : decode cX7_whyNot 9 = .ok (.iload_n 2, 1) := by decide +kernel
theorem dX7_whyNot_10 : decode cX7_whyNot 10 = .ok (.invokevirtual 115, 3) := by decide +kernel
theorem dX7_whyNot_13 : decode cX7_whyNot 13 = .ok (.ifCond .ne 5, 3) := by decide +kernel
theorem dX7_whyNot_16 : decode cX7_whyNot 16 = .ok (.iconst (-1), 1) := by decide +kernel
theorem dX7_whyNot_17 : decode cX7_whyNot 17 = .ok (.ireturn, 1) := by decide +kernel
theorem dX7_whyNot_18 : decode cX7_whyNot 18 = .ok (.iload_n 1, 1) := by decide +kernel
theorem dX7_whyNot_19 : decode cX7_whyNot 19 = .ok (.iload_n 2, 1) := by decide +kernel
theorem dX7_whyNot_20 : decode cX7_whyNot 20 = .ok (.if_icmp .ne 6, 3) := by decide +kernel
theorem dX7_whyNot_23 : decode cX7_whyNot 23 = .ok (.bipush (-2), 2) := by decide +kernel
theorem dX7_whyNot_25 : decode cX7_whyNot 25 = .ok (.ireturn, 1) := by decide +kernel
theorem dX7_whyNot_26 : decode cX7_whyNot 26 = .ok (.aload_n 0, 1) := by decide +kernel
theorem dX7_whyNot_27 : decode cX7_whyNot 27 = .ok (.getfield 19, 3) := by decide +kernel
theorem dX7_whyNot_30 : decode cX7_whyNot 30 = .ok (.iload_n 1, 1) := by decide +kernel
theorem dX7_whyNot_31 : decode cX7_whyNot 31 = .ok (.iaload, 1) := by decide +kernel
theorem dX7_whyNot_32 : decode cX7_whyNot 32 = .ok (.aload_n 0, 1) := by decide +kernel
theorem dX7_whyNot_33 : decode cX7_whyNot 33 = .ok (.getfield 19, 3) := by decide +kernel
theorem dX7_whyNot_36 : decode cX7_whyNot 36 = .ok (.iload_n 2, 1) := by decide +kernel
theorem dX7_whyNot_37 : decode cX7_whyNot 37 = .ok (.iaload, 1) := by decide +kernel
theorem dX7_whyNot_38 : decode cX7_whyNot 38 = .ok (.if_icmp .ne 18, 3) := by decide +kernel
theorem dX7_whyNot_41 : decode cX7_whyNot 41 = .ok (.aload_n 0, 1) := by decide +kernel
theorem dX7_whyNot_42 : decode cX7_whyNot 42 = .ok (.getfield 22, 3) := by decide +kernel
theorem dX7_whyNot_45 : decode cX7_whyNot 45 = .ok (.iload_n 1, 1) := by decide +kernel
theorem dX7_whyNot_46 : decode cX7_whyNot 46 = .ok (.iaload, 1) := by decide +kernel
theorem dX7_whyNot_47 : decode cX7_whyNot 47 = .ok (.aload_n 0, 1) := by decide +kernel
theorem dX7_whyNot_48 : decode cX7_whyNot 48 = .ok (.getfield 22, 3) := by decide +kernel
theorem dX7_whyNot_51 : decode cX7_whyNot 51 = .ok (.iload_n 2, 1) := by decide +kernel
theorem dX7_whyNot_52 : decode cX7_whyNot 52 = .ok (.iaload, 1) := by decide +kernel
theorem dX7_whyNot_53 : decode cX7_whyNot 53 = .ok (.if_icmp .eq 6, 3) := by decide +kernel
theorem dX7_whyNot_56 : decode cX7_whyNot 56 = .ok (.bipush (-3), 2) := by decide +kernel
theorem dX7_whyNot_58 : decode cX7_whyNot 58 = .ok (.ireturn, 1) := by decide +kernel
theorem dX7_whyNot_59 : decode cX7_whyNot 59 = .ok (.aload_n 0, 1) := by decide +kernel
theorem dX7_whyNot_60 : decode cX7_whyNot 60 = .ok (.iconst 0, 1) := by decide +kernel
theorem dX7_whyNot_61 : decode cX7_whyNot 61 = .ok (.putfield 261, 3) := by decide +kernel
theorem dX7_whyNot_64 : decode cX7_whyNot 64 = .ok (.iconst 0, 1) := by decide +kernel
theorem dX7_whyNot_65 : decode cX7_whyNot 65 = .ok (.istore_n 3, 1) := by decide +kernel
theorem dX7_whyNot_66 : decode cX7_whyNot 66 = .ok (.iload_n 3, 1) := by decide +kernel
theorem dX7_whyNot_67 : decode cX7_whyNot 67 = .ok (.aload_n 0, 1) := by decide +kernel
theorem dX7_whyNot_68 : decode cX7_whyNot 68 = .ok (.iload_n 1, 1) := by decide +kernel
theorem dX7_whyNot_69 : decode cX7_whyNot 69 = .ok (.invokevirtual 123, 3) := by decide +kernel
theorem dX7_whyNot_72 : decode cX7_whyNot 72 = .ok (.if_icmp .ge 69, 3) := by decide +kernel
theorem dX7_whyNot_75 : decode cX7_whyNot 75 = .ok (.aload_n 0, 1) := by decide +kernel
theorem dX7_whyNot_76 : decode cX7_whyNot 76 = .ok (.getfield 25, 3) := by decide +kernel
theorem dX7_whyNot_79 : decode cX7_whyNot 79 = .ok (.bipush 50, 2) := by decide +kernel
theorem dX7_whyNot_81 : decode cX7_whyNot 81 = .ok (.iload_n 1, 1) := by decide +kernel
theorem dX7_whyNot_82 : decode cX7_whyNot 82 = .ok (.imul, 1) := by decide +kernel
theorem dX7_whyNot_83 : decode cX7_whyNot 83 = .ok (.iload_n 3, 1) := by decide +kernel
theorem dX7_whyNot_84 : decode cX7_whyNot 84 = .ok (.iadd, 1) := by decide +kernel
theorem dX7_whyNot_85 : decode cX7_whyNot 85 = .ok (.iaload, 1) := by decide +kernel
theorem dX7_whyNot_86 : decode cX7_whyNot 86 = .ok (.aload_n 0, 1) := by decide +kernel
theorem dX7_whyNot_87 : decode cX7_whyNot 87 = .ok (.getfield 25, 3) := by decide +kernel
theorem dX7_whyNot_90 : decode cX7_whyNot 90 = .ok (.bipush 50, 2) := by decide +kernel
theorem dX7_whyNot_92 : decode cX7_whyNot 92 = .ok (.iload_n 2, 1) := by decide +kernel
theorem dX7_whyNot_93 : decode cX7_whyNot 93 = .ok (.imul, 1) := by decide +kernel
theorem dX7_whyNot_94 : decode cX7_whyNot 94 = .ok (.iload_n 3, 1) := by decide +kernel
theorem dX7_whyNot_95 : decode cX7_whyNot 95 = .ok (.iadd, 1) := by decide +kernel
theorem dX7_whyNot_96 : decode cX7_whyNot 96 = .ok (.iaload, 1) := by decide +kernel
theorem dX7_whyNot_97 : decode cX7_whyNot 97 = .ok (.if_icmp .ne 6, 3) := by decide +kernel
theorem dX7_whyNot_100 : decode cX7_whyNot 100 = .ok (.goto 35, 3) := by decide +kernel
theorem dX7_whyNot_103 : decode cX7_whyNot 103 = .ok (.aload_n 0, 1) := by decide +kernel
theorem dX7_whyNot_104 : decode cX7_whyNot 104 = .ok (.getfield 261, 3) := by decide +kernel
theorem dX7_whyNot_107 : decode cX7_whyNot 107 = .ok (.bipush 10, 2) := by decide +kernel
theorem dX7_whyNot_109 : decode cX7_whyNot 109 = .ok (.if_icmp .ne 6, 3) := by decide +kernel
theorem dX7_whyNot_112 : decode cX7_whyNot 112 = .ok (.bipush (-3), 2) := by decide +kernel
theorem dX7_whyNot_114 : decode cX7_whyNot 114 = .ok (.ireturn, 1) := by decide +kernel
theorem dX7_whyNot_115 : decode cX7_whyNot 115 = .ok (.aload_n 0, 1) := by decide +kernel
theorem dX7_whyNot_116 : decode cX7_whyNot 116 = .ok (.getfield 92, 3) := by decide +kernel
theorem dX7_whyNot_119 : decode cX7_whyNot 119 = .ok (.aload_n 0, 1) := by decide +kernel
theorem dX7_whyNot_120 : decode cX7_whyNot 120 = .ok (.getfield 261, 3) := by decide +kernel
theorem dX7_whyNot_123 : decode cX7_whyNot 123 = .ok (.iload_n 3, 1) := by decide +kernel
theorem dX7_whyNot_124 : decode cX7_whyNot 124 = .ok (.iastore, 1) := by decide +kernel
theorem dX7_whyNot_125 : decode cX7_whyNot 125 = .ok (.aload_n 0, 1) := by decide +kernel
theorem dX7_whyNot_126 : decode cX7_whyNot 126 = .ok (.dup, 1) := by decide +kernel
theorem dX7_whyNot_127 : decode cX7_whyNot 127 = .ok (.getfield 261, 3) := by decide +kernel
theorem dX7_whyNot_130 : decode cX7_whyNot 130 = .ok (.iconst 1, 1) := by decide +kernel
theorem dX7_whyNot_131 : decode cX7_whyNot 131 = .ok (.iadd, 1) := by decide +kernel
theorem dX7_whyNot_132 : decode cX7_whyNot 132 = .ok (.putfield 261, 3) := by decide +kernel
theorem dX7_whyNot_135 : decode cX7_whyNot 135 = .ok (.iinc 3 1, 3) := by decide +kernel
theorem dX7_whyNot_138 : decode cX7_whyNot 138 = .ok (.goto (-72), 3) := by decide +kernel
theorem dX7_whyNot_141 : decode cX7_whyNot 141 = .ok (.iconst 0, 1) := by decide +kernel
theorem dX7_whyNot_142 : decode cX7_whyNot 142 = .ok (.ireturn, 1) := by decide +kernel
theorem dX7_layRows_0 : decode cX7_layRows 0 = .ok (.iconst 0, 1) := by decide +kernel
theorem dX7_layRows_1 : decode cX7_layRows 1 = .ok (.istore_n 3, 1) := by decide +kernel
theorem dX7_layRows_2 : decode cX7_layRows 2 = .ok (.iload_n 3, 1) := by decide +kernel
theorem dX7_layRows_3 : decode cX7_layRows 3 = .ok (.aload_n 0, 1) := by decide +kernel
theorem dX7_layRows_4 : decode cX7_layRows 4 = .ok (.getfield 261, 3) := by decide +kernel
theorem dX7_layRows_7 : decode cX7_layRows 7 = .ok (.if_icmp .ge 31, 3) := by decide +kernel
theorem dX7_layRows_10 : decode cX7_layRows 10 = .ok (.aload_n 0, 1) := by decide +kernel
theorem dX7_layRows_11 : decode cX7_layRows 11 = .ok (.getfield 95, 3) := by decide +kernel
theorem dX7_layRows_14 : decode cX7_layRows 14 = .ok (.iload_n 3, 1) := by decide +kernel
theorem dX7_layRows_15 : decode cX7_layRows 15 = .ok (.aload_n 0, 1) := by decide +kernel
theorem dX7_layRows_16 : decode cX7_layRows 16 = .ok (.getfield 25, 3) := by decide +kernel
theorem dX7_layRows_19 : decode cX7_layRows 19 = .ok (.bipush 50, 2) := by decide +kernel
theorem dX7_layRows_21 : decode cX7_layRows 21 = .ok (.iload_n 1, 1) := by decide +kernel
theorem dX7_layRows_22 : decode cX7_layRows 22 = .ok (.imul, 1) := by decide +kernel
theorem dX7_layRows_23 : decode cX7_layRows 23 = .ok (.aload_n 0, 1) := by decide +kernel
theorem dX7_layRows_24 : decode cX7_layRows 24 = .ok (.getfield 92, 3) := by decide +kernel
theorem dX7_layRows_27 : decode cX7_layRows 27 = .ok (.iload_n 3, 1) := by decide +kernel
theorem dX7_layRows_28 : decode cX7_layRows 28 = .ok (.iaload, 1) := by decide +kernel
theorem dX7_layRows_29 : decode cX7_layRows 29 = .ok (.iadd, 1) := by decide +kernel
theorem dX7_layRows_30 : decode cX7_layRows 30 = .ok (.iaload, 1) := by decide +kernel
theorem dX7_layRows_31 : decode cX7_layRows 31 = .ok (.iastore, 1) := by decide +kernel
theorem dX7_layRows_32 : decode cX7_layRows 32 = .ok (.iinc 3 1, 3) := by decide +kernel
theorem dX7_layRows_35 : decode cX7_layRows 35 = .ok (.goto (-33), 3) := by decide +kernel
theorem dX7_layRows_38 : decode cX7_layRows 38 = .ok (.iconst 1, 1) := by decide +kernel
theorem dX7_layRows_39 : decode cX7_layRows 39 = .ok (.aload_n 0, 1) := by decide +kernel
theorem dX7_layRows_40 : decode cX7_layRows 40 = .ok (.getfield 261, 3) := by decide +kernel
theorem dX7_layRows_43 : decode cX7_layRows 43 = .ok (.ishl, 1) := by decide +kernel
theorem dX7_layRows_44 : decode cX7_layRows 44 = .ok (.istore_n 3, 1) := by decide +kernel
theorem dX7_layRows_45 : decode cX7_layRows 45 = .ok (.iload_n 3, 1) := by decide +kernel
theorem dX7_layRows_46 : decode cX7_layRows 46 = .ok (.iconst 1, 1) := by decide +kernel
theorem dX7_layRows_47 : decode cX7_layRows 47 = .ok (.isub, 1) := by decide +kernel
theorem dX7_layRows_48 : decode cX7_layRows 48 = .ok (.istore 4, 2) := by decide +kernel
theorem dX7_layRows_50 : decode cX7_layRows 50 = .ok (.iload 4, 2) := by decide +kernel
theorem dX7_layRows_52 : decode cX7_layRows 52 = .ok (.ifCond .lt 172, 3) := by decide +kernel
theorem dX7_layRows_55 : decode cX7_layRows 55 = .ok (.iconst 0, 1) := by decide +kernel
theorem dX7_layRows_56 : decode cX7_layRows 56 = .ok (.istore 5, 2) := by decide +kernel
theorem dX7_layRows_58 : decode cX7_layRows 58 = .ok (.iload 5, 2) := by decide +kernel
theorem dX7_layRows_60 : decode cX7_layRows 60 = .ok (.aload_n 0, 1) := by decide +kernel
theorem dX7_layRows_61 : decode cX7_layRows 61 = .ok (.getfield 261, 3) := by decide +kernel
theorem dX7_layRows_64 : decode cX7_layRows 64 = .ok (.if_icmp .ge 63, 3) := by decide +kernel
theorem dX7_layRows_67 : decode cX7_layRows 67 = .ok (.aload_n 0, 1) := by decide +kernel
theorem dX7_layRows_68 : decode cX7_layRows 68 = .ok (.getfield 25, 3) := by decide +kernel
theorem dX7_layRows_71 : decode cX7_layRows 71 = .ok (.bipush 50, 2) := by decide +kernel
theorem dX7_layRows_73 : decode cX7_layRows 73 = .ok (.iload_n 1, 1) := by decide +kernel
theorem dX7_layRows_74 : decode cX7_layRows 74 = .ok (.imul, 1) := by decide +kernel
theorem dX7_layRows_75 : decode cX7_layRows 75 = .ok (.aload_n 0, 1) := by decide +kernel
theorem dX7_layRows_76 : decode cX7_layRows 76 = .ok (.getfield 92, 3) := by decide +kernel
theorem dX7_layRows_79 : decode cX7_layRows 79 = .ok (.iload 5, 2) := by decide +kernel
theorem dX7_layRows_81 : decode cX7_layRows 81 = .ok (.iaload, 1) := by decide +kernel
theorem dX7_layRows_82 : decode cX7_layRows 82 = .ok (.iadd, 1) := by decide +kernel
theorem dX7_layRows_83 : decode cX7_layRows 83 = .ok (.iload 4, 2) := by decide +kernel
theorem dX7_layRows_85 : decode cX7_layRows 85 = .ok (.iload 5, 2) := by decide +kernel
theorem dX7_layRows_87 : decode cX7_layRows 87 = .ok (.invokestatic 255, 3) := by decide +kernel
theorem dX7_layRows_90 : decode cX7_layRows 90 = .ok (.ifCond .eq 23, 3) := by decide +kernel
theorem dX7_layRows_93 : decode cX7_layRows 93 = .ok (.aload_n 0, 1) := by decide +kernel
theorem dX7_layRows_94 : decode cX7_layRows 94 = .ok (.getfield 25, 3) := by decide +kernel
theorem dX7_layRows_97 : decode cX7_layRows 97 = .ok (.bipush 50, 2) := by decide +kernel
theorem dX7_layRows_99 : decode cX7_layRows 99 = .ok (.iload_n 2, 1) := by decide +kernel
theorem dX7_layRows_100 : decode cX7_layRows 100 = .ok (.imul, 1) := by decide +kernel
theorem dX7_layRows_101 : decode cX7_layRows 101 = .ok (.aload_n 0, 1) := by decide +kernel
theorem dX7_layRows_102 : decode cX7_layRows 102 = .ok (.getfield 92, 3) := by decide +kernel
theorem dX7_layRows_105 : decode cX7_layRows 105 = .ok (.iload 5, 2) := by decide +kernel
theorem dX7_layRows_107 : decode cX7_layRows 107 = .ok (.iaload, 1) := by decide +kernel
theorem dX7_layRows_108 : decode cX7_layRows 108 = .ok (.iadd, 1) := by decide +kernel
theorem dX7_layRows_109 : decode cX7_layRows 109 = .ok (.iaload, 1) := by decide +kernel
theorem dX7_layRows_110 : decode cX7_layRows 110 = .ok (.goto 10, 3) := by decide +kernel
theorem dX7_layRows_113 : decode cX7_layRows 113 = .ok (.aload_n 0, 1) := by decide +kernel
theorem dX7_layRows_114 : decode cX7_layRows 114 = .ok (.getfield 95, 3) := by decide +kernel
theorem dX7_layRows_117 : decode cX7_layRows 117 = .ok (.iload 5, 2) := by decide +kernel
theorem dX7_layRows_119 : decode cX7_layRows 119 = .ok (.iaload, 1) := by decide +kernel
theorem dX7_layRows_120 : decode cX7_layRows 120 = .ok (.iastore, 1) := by decide +kernel
theorem dX7_layRows_121 : decode cX7_layRows 121 = .ok (.iinc 5 1, 3) := by decide +kernel
theorem dX7_layRows_124 : decode cX7_layRows 124 = .ok (.goto (-66), 3) := by decide +kernel
theorem dX7_layRows_127 : decode cX7_layRows 127 = .ok (.aload_n 0, 1) := by decide +kernel
theorem dX7_layRows_128 : decode cX7_layRows 128 = .ok (.getfield 98, 3) := by decide +kernel
theorem dX7_layRows_131 : decode cX7_layRows 131 = .ok (.iload 4, 2) := by decide +kernel
theorem dX7_layRows_133 : decode cX7_layRows 133 = .ok (.lconst 0, 1) := by decide +kernel
theorem dX7_layRows_134 : decode cX7_layRows 134 = .ok (.lastore, 1) := by decide +kernel
theorem dX7_layRows_135 : decode cX7_layRows 135 = .ok (.aload_n 0, 1) := by decide +kernel
theorem dX7_layRows_136 : decode cX7_layRows 136 = .ok (.iload_n 1, 1) := by decide +kernel
theorem dX7_layRows_137 : decode cX7_layRows 137 = .ok (.invokevirtual 240, 3) := by decide +kernel
theorem dX7_layRows_140 : decode cX7_layRows 140 = .ok (.bipush (-9), 2) := by decide +kernel
theorem dX7_layRows_142 : decode cX7_layRows 142 = .ok (.if_icmp .eq 6, 3) := by decide +kernel
theorem dX7_layRows_145 : decode cX7_layRows 145 = .ok (.goto 73, 3) := by decide +kernel
theorem dX7_layRows_148 : decode cX7_layRows 148 = .ok (.iload 4, 2) := by decide +kernel
theorem dX7_layRows_150 : decode cX7_layRows 150 = .ok (.iload_n 3, 1) := by decide +kernel
theorem dX7_layRows_151 : decode cX7_layRows 151 = .ok (.iconst 1, 1) := by decide +kernel
theorem dX7_layRows_152 : decode cX7_layRows 152 = .ok (.isub, 1) := by decide +kernel
theorem dX7_layRows_153 : decode cX7_layRows 153 = .ok (.if_icmp .ne 11, 3) := by decide +kernel
theorem dX7_layRows_156 : decode cX7_layRows 156 = .ok (.aload_n 0, 1) := by decide +kernel
theorem dX7_layRows_157 : decode cX7_layRows 157 = .ok (.getfield 98, 3) := by decide +kernel
theorem dX7_layRows_160 : decode cX7_layRows 160 = .ok (.iload 4, 2) := by decide +kernel
theorem dX7_layRows_162 : decode cX7_layRows 162 = .ok (.lconst 1, 1) := by decide +kernel
theorem dX7_layRows_163 : decode cX7_layRows 163 = .ok (.lastore, 1) := by decide +kernel
theorem dX7_layRows_164 : decode cX7_layRows 164 = .ok (.iconst 0, 1) := by decide +kernel
theorem dX7_layRows_165 : decode cX7_layRows 165 = .ok (.istore 5, 2) := by decide +kernel
theorem dX7_layRows_167 : decode cX7_layRows 167 = .ok (.iload 5, 2) := by decide +kernel
theorem dX7_layRows_169 : decode cX7_layRows 169 = .ok (.aload_n 0, 1) := by decide +kernel
theorem dX7_layRows_170 : decode cX7_layRows 170 = .ok (.getfield 261, 3) := by decide +kernel
theorem dX7_layRows_173 : decode cX7_layRows 173 = .ok (.if_icmp .ge 45, 3) := by decide +kernel
theorem dX7_layRows_176 : decode cX7_layRows 176 = .ok (.aload_n 0, 1) := by decide +kernel
theorem dX7_layRows_177 : decode cX7_layRows 177 = .ok (.getfield 98, 3) := by decide +kernel
theorem dX7_layRows_180 : decode cX7_layRows 180 = .ok (.iload 4, 2) := by decide +kernel
theorem dX7_layRows_182 : decode cX7_layRows 182 = .ok (.dup2, 1) := by decide +kernel
theorem dX7_layRows_183 : decode cX7_layRows 183 = .ok (.laload, 1) := by decide +kernel
theorem dX7_layRows_184 : decode cX7_layRows 184 = .ok (.iload 4, 2) := by decide +kernel
theorem dX7_layRows_186 : decode cX7_layRows 186 = .ok (.iload 5, 2) := by decide +kernel
theorem dX7_layRows_188 : decode cX7_layRows 188 = .ok (.invokestatic 255, 3) := by decide +kernel
theorem dX7_layRows_191 : decode cX7_layRows 191 = .ok (.ifCond .eq 7, 3) := by decide +kernel
theorem dX7_layRows_194 : decode cX7_layRows 194 = .ok (.lconst 0, 1) := by decide +kernel
theorem dX7_layRows_195 : decode cX7_layRows 195 = .ok (.goto 15, 3) := by decide +kernel
theorem dX7_layRows_198 : decode cX7_layRows 198 = .ok (.aload_n 0, 1) := by decide +kernel
theorem dX7_layRows_199 : decode cX7_layRows 199 = .ok (.getfield 98, 3) := by decide +kernel
theorem dX7_layRows_202 : decode cX7_layRows 202 = .ok (.iload 4, 2) := by decide +kernel
theorem dX7_layRows_204 : decode cX7_layRows 204 = .ok (.iconst 1, 1) := by decide +kernel
theorem dX7_layRows_205 : decode cX7_layRows 205 = .ok (.iload 5, 2) := by decide +kernel
theorem dX7_layRows_207 : decode cX7_layRows 207 = .ok (.ishl, 1) := by decide +kernel
theorem dX7_layRows_208 : decode cX7_layRows 208 = .ok (.ior, 1) := by decide +kernel
theorem dX7_layRows_209 : decode cX7_layRows 209 = .ok (.laload, 1) := by decide +kernel
theorem dX7_layRows_210 : decode cX7_layRows 210 = .ok (.ladd, 1) := by decide +kernel
theorem dX7_layRows_211 : decode cX7_layRows 211 = .ok (.lastore, 1) := by decide +kernel
theorem dX7_layRows_212 : decode cX7_layRows 212 = .ok (.iinc 5 1, 3) := by decide +kernel
theorem dX7_layRows_215 : decode cX7_layRows 215 = .ok (.goto (-48), 3) := by decide +kernel
theorem dX7_layRows_218 : decode cX7_layRows 218 = .ok (.iinc 4 (-1), 3) := by decide +kernel
theorem dX7_layRows_221 : decode cX7_layRows 221 = .ok (.goto (-171), 3) := by decide +kernel
theorem dX7_layRows_224 : decode cX7_layRows 224 = .ok (.iconst 0, 1) := by decide +kernel
theorem dX7_layRows_225 : decode cX7_layRows 225 = .ok (.istore 4, 2) := by decide +kernel
theorem dX7_layRows_227 : decode cX7_layRows 227 = .ok (.iload 4, 2) := by decide +kernel
theorem dX7_layRows_229 : decode cX7_layRows 229 = .ok (.aload_n 0, 1) := by decide +kernel
theorem dX7_layRows_230 : decode cX7_layRows 230 = .ok (.getfield 261, 3) := by decide +kernel
theorem dX7_layRows_233 : decode cX7_layRows 233 = .ok (.if_icmp .ge 33, 3) := by decide +kernel
theorem dX7_layRows_236 : decode cX7_layRows 236 = .ok (.aload_n 0, 1) := by decide +kernel
theorem dX7_layRows_237 : decode cX7_layRows 237 = .ok (.getfield 25, 3) := by decide +kernel
theorem dX7_layRows_240 : decode cX7_layRows 240 = .ok (.bipush 50, 2) := by decide +kernel
theorem dX7_layRows_242 : decode cX7_layRows 242 = .ok (.iload_n 1, 1) := by decide +kernel
theorem dX7_layRows_243 : decode cX7_layRows 243 = .ok (.imul, 1) := by decide +kernel
theorem dX7_layRows_244 : decode cX7_layRows 244 = .ok (.aload_n 0, 1) := by decide +kernel
theorem dX7_layRows_245 : decode cX7_layRows 245 = .ok (.getfield 92, 3) := by decide +kernel
theorem dX7_layRows_248 : decode cX7_layRows 248 = .ok (.iload 4, 2) := by decide +kernel
theorem dX7_layRows_250 : decode cX7_layRows 250 = .ok (.iaload, 1) := by decide +kernel
theorem dX7_layRows_251 : decode cX7_layRows 251 = .ok (.iadd, 1) := by decide +kernel
theorem dX7_layRows_252 : decode cX7_layRows 252 = .ok (.aload_n 0, 1) := by decide +kernel
theorem dX7_layRows_253 : decode cX7_layRows 253 = .ok (.getfield 95, 3) := by decide +kernel
theorem dX7_layRows_256 : decode cX7_layRows 256 = .ok (.iload 4, 2) := by decide +kernel
theorem dX7_layRows_258 : decode cX7_layRows 258 = .ok (.iaload, 1) := by decide +kernel
theorem dX7_layRows_259 : decode cX7_layRows 259 = .ok (.iastore, 1) := by decide +kernel
theorem dX7_layRows_260 : decode cX7_layRows 260 = .ok (.iinc 4 1, 3) := by decide +kernel
theorem dX7_layRows_263 : decode cX7_layRows 263 = .ok (.goto (-36), 3) := by decide +kernel
theorem dX7_layRows_266 : decode cX7_layRows 266 = .ok (.return_, 1) := by decide +kernel
theorem dX7_changed_0 : decode cX7_changed 0 = .ok (.aload_n 0, 1) := by decide +kernel
theorem dX7_changed_1 : decode cX7_changed 1 = .ok (.iload_n 1, 1) := by decide +kernel
theorem dX7_changed_2 : decode cX7_changed 2 = .ok (.iload_n 2, 1) := by decide +kernel
theorem dX7_changed_3 : decode cX7_changed 3 = .ok (.invokevirtual 264, 3) := by decide +kernel
theorem dX7_changed_6 : decode cX7_changed 6 = .ok (.ifCond .eq 7, 3) := by decide +kernel
theorem dX7_changed_9 : decode cX7_changed 9 = .ok (.ldc2_w 106, 3) := by decide +kernel
theorem dX7_changed_12 : decode cX7_changed 12 = .ok (.lreturn, 1) := by decide +kernel
theorem dX7_changed_13 : decode cX7_changed 13 = .ok (.aload_n 0, 1) := by decide +kernel
theorem dX7_changed_14 : decode cX7_changed 14 = .ok (.iload_n 1, 1) := by decide +kernel
theorem dX7_changed_15 : decode cX7_changed 15 = .ok (.iload_n 2, 1) := by decide +kernel
theorem dX7_changed_16 : decode cX7_changed 16 = .ok (.invokevirtual 267, 3) := by decide +kernel
theorem dX7_changed_19 : decode cX7_changed 19 = .ok (.aload_n 0, 1) := by decide +kernel
theorem dX7_changed_20 : decode cX7_changed 20 = .ok (.getfield 98, 3) := by decide +kernel
theorem dX7_changed_23 : decode cX7_changed 23 = .ok (.iconst 0, 1) := by decide +kernel
theorem dX7_changed_24 : decode cX7_changed 24 = .ok (.laload, 1) := by decide +kernel
theorem dX7_changed_25 : decode cX7_changed 25 = .ok (.lreturn, 1) := by decide +kernel
theorem dX7_change_0 : decode cX7_change 0 = .ok (.aload_n 0, 1) := by decide +kernel
theorem dX7_change_1 : decode cX7_change 1 = .ok (.iload_n 1, 1) := by decide +kernel
theorem dX7_change_2 : decode cX7_change 2 = .ok (.invokevirtual 115, 3) := by decide +kernel
theorem dX7_change_5 : decode cX7_change 5 = .ok (.ifCond .eq 21, 3) := by decide +kernel
theorem dX7_change_8 : decode cX7_change 8 = .ok (.aload_n 0, 1) := by decide +kernel
theorem dX7_change_9 : decode cX7_change 9 = .ok (.iload_n 2, 1) := by decide +kernel
theorem dX7_change_10 : decode cX7_change 10 = .ok (.invokevirtual 115, 3) := by decide +kernel
theorem dX7_change_13 : decode cX7_change 13 = .ok (.ifCond .eq 13, 3) := by decide +kernel
theorem dX7_change_16 : decode cX7_change 16 = .ok (.iload_n 3, 1) := by decide +kernel
theorem dX7_change_17 : decode cX7_change 17 = .ok (.iconst 0, 1) := by decide +kernel
theorem dX7_change_18 : decode cX7_change 18 = .ok (.bipush 9, 2) := by decide +kernel
theorem dX7_change_20 : decode cX7_change 20 = .ok (.invokestatic 108, 3) := by decide +kernel
theorem dX7_change_23 : decode cX7_change 23 = .ok (.ifCond .ne 5, 3) := by decide +kernel
theorem dX7_change_26 : decode cX7_change 26 = .ok (.iconst (-1), 1) := by decide +kernel
theorem dX7_change_27 : decode cX7_change 27 = .ok (.ireturn, 1) := by decide +kernel
theorem dX7_change_28 : decode cX7_change 28 = .ok (.aload_n 0, 1) := by decide +kernel
theorem dX7_change_29 : decode cX7_change 29 = .ok (.iload_n 1, 1) := by decide +kernel
theorem dX7_change_30 : decode cX7_change 30 = .ok (.iload_n 2, 1) := by decide +kernel
theorem dX7_change_31 : decode cX7_change 31 = .ok (.invokevirtual 264, 3) := by decide +kernel
theorem dX7_change_34 : decode cX7_change 34 = .ok (.istore 4, 2) := by decide +kernel
theorem dX7_change_36 : decode cX7_change 36 = .ok (.iload 4, 2) := by decide +kernel
theorem dX7_change_38 : decode cX7_change 38 = .ok (.ifCond .eq 6, 3) := by decide +kernel
theorem dX7_change_41 : decode cX7_change 41 = .ok (.iload 4, 2) := by decide +kernel
theorem dX7_change_43 : decode cX7_change 43 = .ok (.ireturn, 1) := by decide +kernel
theorem dX7_change_44 : decode cX7_change 44 = .ok (.aload_n 0, 1) := by decide +kernel
theorem dX7_change_45 : decode cX7_change 45 = .ok (.iload_n 1, 1) := by decide +kernel
theorem dX7_change_46 : decode cX7_change 46 = .ok (.iload_n 2, 1) := by decide +kernel
theorem dX7_change_47 : decode cX7_change 47 = .ok (.invokevirtual 267, 3) := by decide +kernel
theorem dX7_change_50 : decode cX7_change 50 = .ok (.aload_n 0, 1) := by decide +kernel
theorem dX7_change_51 : decode cX7_change 51 = .ok (.getfield 98, 3) := by decide +kernel
theorem dX7_change_54 : decode cX7_change 54 = .ok (.iconst 0, 1) := by decide +kernel
theorem dX7_change_55 : decode cX7_change 55 = .ok (.laload, 1) := by decide +kernel
theorem dX7_change_56 : decode cX7_change 56 = .ok (.lconst 0, 1) := by decide +kernel
theorem dX7_change_57 : decode cX7_change 57 = .ok (.lcmp, 1) := by decide +kernel
theorem dX7_change_58 : decode cX7_change 58 = .ok (.ifCond .eq 11, 3) := by decide +kernel
theorem dX7_change_61 : decode cX7_change 61 = .ok (.iload_n 3, 1) := by decide +kernel
theorem dX7_change_62 : decode cX7_change 62 = .ok (.aload_n 0, 1) := by decide +kernel
theorem dX7_change_63 : decode cX7_change 63 = .ok (.getfield 261, 3) := by decide +kernel
theorem dX7_change_66 : decode cX7_change 66 = .ok (.if_icmp .lt 6, 3) := by decide +kernel
theorem dX7_change_69 : decode cX7_change 69 = .ok (.bipush (-9), 2) := by decide +kernel
theorem dX7_change_71 : decode cX7_change 71 = .ok (.ireturn, 1) := by decide +kernel
theorem dX7_change_72 : decode cX7_change 72 = .ok (.iconst 0, 1) := by decide +kernel
theorem dX7_change_73 : decode cX7_change 73 = .ok (.istore 5, 2) := by decide +kernel
theorem dX7_change_75 : decode cX7_change 75 = .ok (.iconst 0, 1) := by decide +kernel
theorem dX7_change_76 : decode cX7_change 76 = .ok (.istore 6, 2) := by decide +kernel
theorem dX7_change_78 : decode cX7_change 78 = .ok (.iconst 0, 1) := by decide +kernel
theorem dX7_change_79 : decode cX7_change 79 = .ok (.istore 7, 2) := by decide +kernel
theorem dX7_change_81 : decode cX7_change 81 = .ok (.iload 7, 2) := by decide +kernel
theorem dX7_change_83 : decode cX7_change 83 = .ok (.iload_n 3, 1) := by decide +kernel
theorem dX7_change_84 : decode cX7_change 84 = .ok (.if_icmp .gt 54, 3) := by decide +kernel
theorem dX7_change_87 : decode cX7_change 87 = .ok (.iconst 0, 1) := by decide +kernel
theorem dX7_change_88 : decode cX7_change 88 = .ok (.istore 6, 2) := by decide +kernel
theorem dX7_change_90 : decode cX7_change 90 = .ok (.iload 5, 2) := by decide +kernel
theorem dX7_change_92 : decode cX7_change 92 = .ok (.iload 6, 2) := by decide +kernel
theorem dX7_change_94 : decode cX7_change 94 = .ok (.invokestatic 255, 3) := by decide +kernel
theorem dX7_change_97 : decode cX7_change 97 = .ok (.ifCond .ne 20, 3) := by decide +kernel
theorem dX7_change_100 : decode cX7_change 100 = .ok (.aload_n 0, 1) := by decide +kernel
theorem dX7_change_101 : decode cX7_change 101 = .ok (.getfield 98, 3) := by decide +kernel
theorem dX7_change_104 : decode cX7_change 104 = .ok (.iload 5, 2) := by decide +kernel
theorem dX7_change_106 : decode cX7_change 106 = .ok (.iconst 1, 1) := by decide +kernel
theorem dX7_change_107 : decode cX7_change 107 = .ok (.iload 6, 2) := by decide +kernel
theorem dX7_change_109 : decode cX7_change 109 = .ok (.ishl, 1) := by decide +kernel
theorem dX7_change_110 : decode cX7_change 110 = .ok (.ior, 1) := by decide +kernel
theorem dX7_change_111 : decode cX7_change 111 = .ok (.laload, 1) := by decide +kernel
theorem dX7_change_112 : decode cX7_change 112 = .ok (.lconst 0, 1) := by decide +kernel
theorem dX7_change_113 : decode cX7_change 113 = .ok (.lcmp, 1) := by decide +kernel
theorem dX7_change_114 : decode cX7_change 114 = .ok (.ifCond .ne 9, 3) := by decide +kernel
theorem dX7_change_117 : decode cX7_change 117 = .ok (.iinc 6 1, 3) := by decide +kernel
theorem dX7_change_120 : decode cX7_change 120 = .ok (.goto (-30), 3) := by decide +kernel
theorem dX7_change_123 : decode cX7_change 123 = .ok (.iload 5, 2) := by decide +kernel
theorem dX7_change_125 : decode cX7_change 125 = .ok (.iconst 1, 1) := by decide +kernel
theorem dX7_change_126 : decode cX7_change 126 = .ok (.iload 6, 2) := by decide +kernel
theorem dX7_change_128 : decode cX7_change 128 = .ok (.ishl, 1) := by decide +kernel
theorem dX7_change_129 : decode cX7_change 129 = .ok (.ior, 1) := by decide +kernel
theorem dX7_change_130 : decode cX7_change 130 = .ok (.istore 5, 2) := by decide +kernel
theorem dX7_change_132 : decode cX7_change 132 = .ok (.iinc 7 1, 3) := by decide +kernel
theorem dX7_change_135 : decode cX7_change 135 = .ok (.goto (-54), 3) := by decide +kernel
theorem dX7_change_138 : decode cX7_change 138 = .ok (.aload_n 0, 1) := by decide +kernel
theorem dX7_change_139 : decode cX7_change 139 = .ok (.getfield 92, 3) := by decide +kernel
theorem dX7_change_142 : decode cX7_change 142 = .ok (.iload 6, 2) := by decide +kernel
theorem dX7_change_144 : decode cX7_change 144 = .ok (.iaload, 1) := by decide +kernel
theorem dX7_change_145 : decode cX7_change 145 = .ok (.ireturn, 1) := by decide +kernel
theorem dX7_sheet_0 : decode cX7_sheet 0 = .ok (.aload_n 0, 1) := by decide +kernel
theorem dX7_sheet_1 : decode cX7_sheet 1 = .ok (.iconst 0, 1) := by decide +kernel
theorem dX7_sheet_2 : decode cX7_sheet 2 = .ok (.putfield 102, 3) := by decide +kernel
theorem dX7_sheet_5 : decode cX7_sheet 5 = .ok (.iload_n 1, 1) := by decide +kernel
theorem dX7_sheet_6 : decode cX7_sheet 6 = .ok (.invokestatic 126, 3) := by decide +kernel
theorem dX7_sheet_9 : decode cX7_sheet 9 = .ok (.ifCond .ne 5, 3) := by decide +kernel
theorem dX7_sheet_12 : decode cX7_sheet 12 = .ok (.iconst (-1), 1) := by decide +kernel
theorem dX7_sheet_13 : decode cX7_sheet 13 = .ok (.ireturn, 1) := by decide +kernel
theorem dX7_sheet_14 : decode cX7_sheet 14 = .ok (.iload_n 2, 1) := by decide +kernel
theorem dX7_sheet_15 : decode cX7_sheet 15 = .ok (.invokestatic 129, 3) := by decide +kernel
theorem dX7_sheet_18 : decode cX7_sheet 18 = .ok (.ifCond .eq 9, 3) := by decide +kernel
theorem dX7_sheet_21 : decode cX7_sheet 21 = .ok (.iload_n 3, 1) := by decide +kernel
theorem dX7_sheet_22 : decode cX7_sheet 22 = .ok (.bipush 60, 2) := by decide +kernel
theorem dX7_sheet_24 : decode cX7_sheet 24 = .ok (.if_icmp .le 6, 3) := by decide +kernel
theorem dX7_sheet_27 : decode cX7_sheet 27 = .ok (.bipush (-2), 2) := by decide +kernel
theorem dX7_sheet_29 : decode cX7_sheet 29 = .ok (.ireturn, 1) := by decide +kernel
theorem dX7_sheet_30 : decode cX7_sheet 30 = .ok (.iload_n 3, 1) := by decide +kernel
theorem dX7_sheet_31 : decode cX7_sheet 31 = .ok (.ifCond .ge 9, 3) := by decide +kernel
theorem dX7_sheet_34 : decode cX7_sheet 34 = .ok (.aload_n 0, 1) := by decide +kernel
theorem dX7_sheet_35 : decode cX7_sheet 35 = .ok (.iconst 4, 1) := by decide +kernel
theorem dX7_sheet_36 : decode cX7_sheet 36 = .ok (.invokevirtual 136, 3) := by decide +kernel
theorem dX7_sheet_39 : decode cX7_sheet 39 = .ok (.ireturn, 1) := by decide +kernel
theorem dX7_sheet_40 : decode cX7_sheet 40 = .ok (.aload_n 0, 1) := by decide +kernel
theorem dX7_sheet_41 : decode cX7_sheet 41 = .ok (.getfield 9, 3) := by decide +kernel
theorem dX7_sheet_44 : decode cX7_sheet 44 = .ok (.iload_n 1, 1) := by decide +kernel
theorem dX7_sheet_45 : decode cX7_sheet 45 = .ok (.iload_n 2, 1) := by decide +kernel
theorem dX7_sheet_46 : decode cX7_sheet 46 = .ok (.iastore, 1) := by decide +kernel
theorem dX7_sheet_47 : decode cX7_sheet 47 = .ok (.aload_n 0, 1) := by decide +kernel
theorem dX7_sheet_48 : decode cX7_sheet 48 = .ok (.getfield 13, 3) := by decide +kernel
theorem dX7_sheet_51 : decode cX7_sheet 51 = .ok (.iload_n 1, 1) := by decide +kernel
theorem dX7_sheet_52 : decode cX7_sheet 52 = .ok (.iload_n 3, 1) := by decide +kernel
theorem dX7_sheet_53 : decode cX7_sheet 53 = .ok (.iastore, 1) := by decide +kernel
theorem dX7_sheet_54 : decode cX7_sheet 54 = .ok (.iconst 0, 1) := by decide +kernel
theorem dX7_sheet_55 : decode cX7_sheet 55 = .ok (.istore 4, 2) := by decide +kernel
theorem dX7_sheet_57 : decode cX7_sheet 57 = .ok (.iload 4, 2) := by decide +kernel
theorem dX7_sheet_59 : decode cX7_sheet 59 = .ok (.bipush 60, 2) := by decide +kernel
theorem dX7_sheet_61 : decode cX7_sheet 61 = .ok (.if_icmp .ge 22, 3) := by decide +kernel
theorem dX7_sheet_64 : decode cX7_sheet 64 = .ok (.aload_n 0, 1) := by decide +kernel
theorem dX7_sheet_65 : decode cX7_sheet 65 = .ok (.getfield 16, 3) := by decide +kernel
theorem dX7_sheet_68 : decode cX7_sheet 68 = .ok (.bipush 60, 2) := by decide +kernel
theorem dX7_sheet_70 : decode cX7_sheet 70 = .ok (.iload_n 1, 1) := by decide +kernel
theorem dX7_sheet_71 : decode cX7_sheet 71 = .ok (.imul, 1) := by decide +kernel
theorem dX7_sheet_72 : decode cX7_sheet 72 = .ok (.iload 4, 2) := by decide +kernel
theorem dX7_sheet_74 : decode cX7_sheet 74 = .ok (.iadd, 1) := by decide +kernel
theorem dX7_sheet_75 : decode cX7_sheet 75 = .ok (.iconst 0, 1) := by decide +kernel
theorem dX7_sheet_76 : decode cX7_sheet 76 = .ok (.iastore, 1) := by decide +kernel
theorem dX7_sheet_77 : decode cX7_sheet 77 = .ok (.iinc 4 1, 3) := by decide +kernel
theorem dX7_sheet_80 : decode cX7_sheet 80 = .ok (.goto (-23), 3) := by decide +kernel
theorem dX7_sheet_83 : decode cX7_sheet 83 = .ok (.iconst 1, 1) := by decide +kernel
theorem dX7_sheet_84 : decode cX7_sheet 84 = .ok (.ireturn, 1) := by decide +kernel
theorem dX7_lose_0 : decode cX7_lose 0 = .ok (.iload_n 1, 1) := by decide +kernel
theorem dX7_lose_1 : decode cX7_lose 1 = .ok (.invokestatic 126, 3) := by decide +kernel
theorem dX7_lose_4 : decode cX7_lose 4 = .ok (.ifCond .ne 5, 3) := by decide +kernel
theorem dX7_lose_7 : decode cX7_lose 7 = .ok (.iconst (-1), 1) := by decide +kernel
theorem dX7_lose_8 : decode cX7_lose 8 = .ok (.ireturn, 1) := by decide +kernel
theorem dX7_lose_9 : decode cX7_lose 9 = .ok (.aload_n 0, 1) := by decide +kernel
theorem dX7_lose_10 : decode cX7_lose 10 = .ok (.getfield 9, 3) := by decide +kernel
theorem dX7_lose_13 : decode cX7_lose 13 = .ok (.iload_n 1, 1) := by decide +kernel
theorem dX7_lose_14 : decode cX7_lose 14 = .ok (.iaload, 1) := by decide +kernel
theorem dX7_lose_15 : decode cX7_lose 15 = .ok (.bipush (-9), 2) := by decide +kernel
theorem dX7_lose_17 : decode cX7_lose 17 = .ok (.if_icmp .ne 7, 3) := by decide +kernel
theorem dX7_lose_20 : decode cX7_lose 20 = .ok (.iconst 0, 1) := by decide +kernel
theorem dX7_lose_21 : decode cX7_lose 21 = .ok (.goto 4, 3) := by decide +kernel
theorem dX7_lose_24 : decode cX7_lose 24 = .ok (.iconst 1, 1) := by decide +kernel
theorem dX7_lose_25 : decode cX7_lose 25 = .ok (.istore_n 2, 1) := by decide +kernel
theorem dX7_lose_26 : decode cX7_lose 26 = .ok (.aload_n 0, 1) := by decide +kernel
theorem dX7_lose_27 : decode cX7_lose 27 = .ok (.getfield 9, 3) := by decide +kernel
theorem dX7_lose_30 : decode cX7_lose 30 = .ok (.iload_n 1, 1) := by decide +kernel
theorem dX7_lose_31 : decode cX7_lose 31 = .ok (.bipush (-9), 2) := by decide +kernel
theorem dX7_lose_33 : decode cX7_lose 33 = .ok (.iastore, 1) := by decide +kernel
theorem dX7_lose_34 : decode cX7_lose 34 = .ok (.iload_n 2, 1) := by decide +kernel
theorem dX7_lose_35 : decode cX7_lose 35 = .ok (.ireturn, 1) := by decide +kernel
theorem dX7_put_0 : decode cX7_put 0 = .ok (.aload_n 0, 1) := by decide +kernel
theorem dX7_put_1 : decode cX7_put 1 = .ok (.iconst 0, 1) := by decide +kernel
theorem dX7_put_2 : decode cX7_put 2 = .ok (.putfield 102, 3) := by decide +kernel
theorem dX7_put_5 : decode cX7_put 5 = .ok (.iload_n 1, 1) := by decide +kernel
theorem dX7_put_6 : decode cX7_put 6 = .ok (.invokestatic 126, 3) := by decide +kernel
theorem dX7_put_9 : decode cX7_put 9 = .ok (.ifCond .ne 5, 3) := by decide +kernel
theorem dX7_put_12 : decode cX7_put 12 = .ok (.iconst (-1), 1) := by decide +kernel
theorem dX7_put_13 : decode cX7_put 13 = .ok (.ireturn, 1) := by decide +kernel
theorem dX7_put_14 : decode cX7_put 14 = .ok (.aload_n 0, 1) := by decide +kernel
theorem dX7_put_15 : decode cX7_put 15 = .ok (.getfield 9, 3) := by decide +kernel
theorem dX7_put_18 : decode cX7_put 18 = .ok (.iload_n 1, 1) := by decide +kernel
theorem dX7_put_19 : decode cX7_put 19 = .ok (.iaload, 1) := by decide +kernel
theorem dX7_put_20 : decode cX7_put 20 = .ok (.bipush (-9), 2) := by decide +kernel
theorem dX7_put_22 : decode cX7_put 22 = .ok (.if_icmp .ne 9, 3) := by decide +kernel
theorem dX7_put_25 : decode cX7_put 25 = .ok (.aload_n 0, 1) := by decide +kernel
theorem dX7_put_26 : decode cX7_put 26 = .ok (.iconst 1, 1) := by decide +kernel
theorem dX7_put_27 : decode cX7_put 27 = .ok (.invokevirtual 136, 3) := by decide +kernel
theorem dX7_put_30 : decode cX7_put 30 = .ok (.ireturn, 1) := by decide +kernel
theorem dX7_put_31 : decode cX7_put 31 = .ok (.iload_n 2, 1) := by decide +kernel
theorem dX7_put_32 : decode cX7_put 32 = .ok (.iconst 0, 1) := by decide +kernel
theorem dX7_put_33 : decode cX7_put 33 = .ok (.aload_n 0, 1) := by decide +kernel
theorem dX7_put_34 : decode cX7_put 34 = .ok (.getfield 13, 3) := by decide +kernel
theorem dX7_put_37 : decode cX7_put 37 = .ok (.iload_n 1, 1) := by decide +kernel
theorem dX7_put_38 : decode cX7_put 38 = .ok (.iaload, 1) := by decide +kernel
theorem dX7_put_39 : decode cX7_put 39 = .ok (.iconst 1, 1) := by decide +kernel
theorem dX7_put_40 : decode cX7_put 40 = .ok (.isub, 1) := by decide +kernel
theorem dX7_put_41 : decode cX7_put 41 = .ok (.invokestatic 108, 3) := by decide +kernel
theorem dX7_put_44 : decode cX7_put 44 = .ok (.ifCond .ne 9, 3) := by decide +kernel
theorem dX7_put_47 : decode cX7_put 47 = .ok (.aload_n 0, 1) := by decide +kernel
theorem dX7_put_48 : decode cX7_put 48 = .ok (.iconst 3, 1) := by decide +kernel
theorem dX7_put_49 : decode cX7_put 49 = .ok (.invokevirtual 136, 3) := by decide +kernel
theorem dX7_put_52 : decode cX7_put 52 = .ok (.ireturn, 1) := by decide +kernel
theorem dX7_put_53 : decode cX7_put 53 = .ok (.aload_n 0, 1) := by decide +kernel
theorem dX7_put_54 : decode cX7_put 54 = .ok (.getfield 16, 3) := by decide +kernel
theorem dX7_put_57 : decode cX7_put 57 = .ok (.bipush 60, 2) := by decide +kernel
theorem dX7_put_59 : decode cX7_put 59 = .ok (.iload_n 1, 1) := by decide +kernel
theorem dX7_put_60 : decode cX7_put 60 = .ok (.imul, 1) := by decide +kernel
theorem dX7_put_61 : decode cX7_put 61 = .ok (.iload_n 2, 1) := by decide +kernel
theorem dX7_put_62 : decode cX7_put 62 = .ok (.iadd, 1) := by decide +kernel
theorem dX7_put_63 : decode cX7_put 63 = .ok (.aload_n 0, 1) := by decide +kernel
theorem dX7_put_64 : decode cX7_put 64 = .ok (.getfield 9, 3) := by decide +kernel
theorem dX7_put_67 : decode cX7_put 67 = .ok (.iload_n 1, 1) := by decide +kernel
theorem dX7_put_68 : decode cX7_put 68 = .ok (.iaload, 1) := by decide +kernel
theorem dX7_put_69 : decode cX7_put 69 = .ok (.ifCond .ne 8, 3) := by decide +kernel
theorem dX7_put_72 : decode cX7_put 72 = .ok (.iload_n 3, 1) := by decide +kernel
theorem dX7_put_73 : decode cX7_put 73 = .ok (.i2b, 1) := by decide +kernel
theorem dX7_put_74 : decode cX7_put 74 = .ok (.goto 19, 3) := by decide +kernel
theorem dX7_put_77 : decode cX7_put 77 = .ok (.aload_n 0, 1) := by decide +kernel
theorem dX7_put_78 : decode cX7_put 78 = .ok (.getfield 9, 3) := by decide +kernel
theorem dX7_put_81 : decode cX7_put 81 = .ok (.iload_n 1, 1) := by decide +kernel
theorem dX7_put_82 : decode cX7_put 82 = .ok (.iaload, 1) := by decide +kernel
theorem dX7_put_83 : decode cX7_put 83 = .ok (.iconst 1, 1) := by decide +kernel
theorem dX7_put_84 : decode cX7_put 84 = .ok (.if_icmp .ne 8, 3) := by decide +kernel
theorem dX7_put_87 : decode cX7_put 87 = .ok (.iload_n 3, 1) := by decide +kernel
theorem dX7_put_88 : decode cX7_put 88 = .ok (.i2s, 1) := by decide +kernel
theorem dX7_put_89 : decode cX7_put 89 = .ok (.goto 4, 3) := by decide +kernel
theorem dX7_put_92 : decode cX7_put 92 = .ok (.iload_n 3, 1) := by decide +kernel
theorem dX7_put_93 : decode cX7_put 93 = .ok (.iastore, 1) := by decide +kernel
theorem dX7_put_94 : decode cX7_put 94 = .ok (.iconst 1, 1) := by decide +kernel
theorem dX7_put_95 : decode cX7_put 95 = .ok (.ireturn, 1) := by decide +kernel
theorem dX7_cell_0 : decode cX7_cell 0 = .ok (.aload_n 0, 1) := by decide +kernel
theorem dX7_cell_1 : decode cX7_cell 1 = .ok (.iconst 0, 1) := by decide +kernel
theorem dX7_cell_2 : decode cX7_cell 2 = .ok (.putfield 102, 3) := by decide +kernel
theorem dX7_cell_5 : decode cX7_cell 5 = .ok (.iload_n 1, 1) := by decide +kernel
theorem dX7_cell_6 : decode cX7_cell 6 = .ok (.invokestatic 126, 3) := by decide +kernel
theorem dX7_cell_9 : decode cX7_cell 9 = .ok (.ifCond .eq 10, 3) := by decide +kernel
theorem dX7_cell_12 : decode cX7_cell 12 = .ok (.iload_n 3, 1) := by decide +kernel
theorem dX7_cell_13 : decode cX7_cell 13 = .ok (.invokestatic 129, 3) := by decide +kernel
theorem dX7_cell_16 : decode cX7_cell 16 = .ok (.ifCond .ne 7, 3) := by decide +kernel
theorem dX7_cell_19 : decode cX7_cell 19 = .ok (.ldc2_w 106, 3) := by decide +kernel
theorem dX7_cell_22 : decode cX7_cell 22 = .ok (.lreturn, 1) := by decide +kernel
theorem dX7_cell_23 : decode cX7_cell 23 = .ok (.aload_n 0, 1) := by decide +kernel
theorem dX7_cell_24 : decode cX7_cell 24 = .ok (.getfield 9, 3) := by decide +kernel
theorem dX7_cell_27 : decode cX7_cell 27 = .ok (.iload_n 1, 1) := by decide +kernel
theorem dX7_cell_28 : decode cX7_cell 28 = .ok (.iaload, 1) := by decide +kernel
theorem dX7_cell_29 : decode cX7_cell 29 = .ok (.bipush (-9), 2) := by decide +kernel
theorem dX7_cell_31 : decode cX7_cell 31 = .ok (.if_icmp .eq 19, 3) := by decide +kernel
theorem dX7_cell_34 : decode cX7_cell 34 = .ok (.aload_n 0, 1) := by decide +kernel
theorem dX7_cell_35 : decode cX7_cell 35 = .ok (.getfield 9, 3) := by decide +kernel
theorem dX7_cell_38 : decode cX7_cell 38 = .ok (.iload_n 1, 1) := by decide +kernel
theorem dX7_cell_39 : decode cX7_cell 39 = .ok (.iaload, 1) := by decide +kernel
theorem dX7_cell_40 : decode cX7_cell 40 = .ok (.iload_n 3, 1) := by decide +kernel
theorem dX7_cell_41 : decode cX7_cell 41 = .ok (.if_icmp .eq 9, 3) := by decide +kernel
theorem dX7_cell_44 : decode cX7_cell 44 = .ok (.aload_n 0, 1) := by decide +kernel
theorem dX7_cell_45 : decode cX7_cell 45 = .ok (.iconst 2, 1) := by decide +kernel
theorem dX7_cell_46 : decode cX7_cell 46 = .ok (.invokevirtual 271, 3) := by decide +kernel
theorem dX7_cell_49 : decode cX7_cell 49 = .ok (.lreturn, 1) := by decide +kernel
theorem dX7_cell_50 : decode cX7_cell 50 = .ok (.aload_n 0, 1) := by decide +kernel
theorem dX7_cell_51 : decode cX7_cell 51 = .ok (.getfield 9, 3) := by decide +kernel
theorem dX7_cell_54 : decode cX7_cell 54 = .ok (.iload_n 1, 1) := by decide +kernel
theorem dX7_cell_55 : decode cX7_cell 55 = .ok (.iaload, 1) := by decide +kernel
theorem dX7_cell_56 : decode cX7_cell 56 = .ok (.bipush (-9), 2) := by decide +kernel
theorem dX7_cell_58 : decode cX7_cell 58 = .ok (.if_icmp .ne 9, 3) := by decide +kernel
theorem dX7_cell_61 : decode cX7_cell 61 = .ok (.aload_n 0, 1) := by decide +kernel
theorem dX7_cell_62 : decode cX7_cell 62 = .ok (.iconst 1, 1) := by decide +kernel
theorem dX7_cell_63 : decode cX7_cell 63 = .ok (.invokevirtual 271, 3) := by decide +kernel
theorem dX7_cell_66 : decode cX7_cell 66 = .ok (.lreturn, 1) := by decide +kernel
theorem dX7_cell_67 : decode cX7_cell 67 = .ok (.iload_n 2, 1) := by decide +kernel
theorem dX7_cell_68 : decode cX7_cell 68 = .ok (.iconst 0, 1) := by decide +kernel
theorem dX7_cell_69 : decode cX7_cell 69 = .ok (.aload_n 0, 1) := by decide +kernel
theorem dX7_cell_70 : decode cX7_cell 70 = .ok (.getfield 13, 3) := by decide +kernel
theorem dX7_cell_73 : decode cX7_cell 73 = .ok (.iload_n 1, 1) := by decide +kernel
theorem dX7_cell_74 : decode cX7_cell 74 = .ok (.iaload, 1) := by decide +kernel
theorem dX7_cell_75 : decode cX7_cell 75 = .ok (.iconst 1, 1) := by decide +kernel
theorem dX7_cell_76 : decode cX7_cell 76 = .ok (.isub, 1) := by decide +kernel
theorem dX7_cell_77 : decode cX7_cell 77 = .ok (.invokestatic 108, 3) := by decide +kernel
theorem dX7_cell_80 : decode cX7_cell 80 = .ok (.ifCond .ne 9, 3) := by decide +kernel
theorem dX7_cell_83 : decode cX7_cell 83 = .ok (.aload_n 0, 1) := by decide +kernel
theorem dX7_cell_84 : decode cX7_cell 84 = .ok (.iconst 3, 1) := by decide +kernel
theorem dX7_cell_85 : decode cX7_cell 85 = .ok (.invokevirtual 271, 3) := by decide +kernel
theorem dX7_cell_88 : decode cX7_cell 88 = .ok (.lreturn, 1) := by decide +kernel
theorem dX7_cell_89 : decode cX7_cell 89 = .ok (.aload_n 0, 1) := by decide +kernel
theorem dX7_cell_90 : decode cX7_cell 90 = .ok (.getfield 16, 3) := by decide +kernel
theorem dX7_cell_93 : decode cX7_cell 93 = .ok (.bipush 60, 2) := by decide +kernel
theorem dX7_cell_95 : decode cX7_cell 95 = .ok (.iload_n 1, 1) := by decide +kernel
theorem dX7_cell_96 : decode cX7_cell 96 = .ok (.imul, 1) := by decide +kernel
theorem dX7_cell_97 : decode cX7_cell 97 = .ok (.iload_n 2, 1) := by decide +kernel
theorem dX7_cell_98 : decode cX7_cell 98 = .ok (.iadd, 1) := by decide +kernel
theorem dX7_cell_99 : decode cX7_cell 99 = .ok (.iaload, 1) := by decide +kernel
theorem dX7_cell_100 : decode cX7_cell 100 = .ok (.i2l, 1) := by decide +kernel
theorem dX7_cell_101 : decode cX7_cell 101 = .ok (.lreturn, 1) := by decide +kernel
theorem dX7_copy_0 : decode cX7_copy 0 = .ok (.aload_n 0, 1) := by decide +kernel
theorem dX7_copy_1 : decode cX7_copy 1 = .ok (.iconst 0, 1) := by decide +kernel
theorem dX7_copy_2 : decode cX7_copy 2 = .ok (.putfield 102, 3) := by decide +kernel
theorem dX7_copy_5 : decode cX7_copy 5 = .ok (.iload_n 1, 1) := by decide +kernel
theorem dX7_copy_6 : decode cX7_copy 6 = .ok (.invokestatic 126, 3) := by decide +kernel
theorem dX7_copy_9 : decode cX7_copy 9 = .ok (.ifCond .eq 10, 3) := by decide +kernel
theorem dX7_copy_12 : decode cX7_copy 12 = .ok (.iload_n 3, 1) := by decide +kernel
theorem dX7_copy_13 : decode cX7_copy 13 = .ok (.invokestatic 126, 3) := by decide +kernel
theorem dX7_copy_16 : decode cX7_copy 16 = .ok (.ifCond .ne 5, 3) := by decide +kernel
theorem dX7_copy_19 : decode cX7_copy 19 = .ok (.iconst (-1), 1) := by decide +kernel
theorem dX7_copy_20 : decode cX7_copy 20 = .ok (.ireturn, 1) := by decide +kernel
theorem dX7_copy_21 : decode cX7_copy 21 = .ok (.aload_n 0, 1) := by decide +kernel
theorem dX7_copy_22 : decode cX7_copy 22 = .ok (.getfield 9, 3) := by decide +kernel
theorem dX7_copy_25 : decode cX7_copy 25 = .ok (.iload_n 1, 1) := by decide +kernel
theorem dX7_copy_26 : decode cX7_copy 26 = .ok (.iaload, 1) := by decide +kernel
theorem dX7_copy_27 : decode cX7_copy 27 = .ok (.bipush (-9), 2) := by decide +kernel
theorem dX7_copy_29 : decode cX7_copy 29 = .ok (.if_icmp .eq 14, 3) := by decide +kernel
theorem dX7_copy_32 : decode cX7_copy 32 = .ok (.aload_n 0, 1) := by decide +kernel
theorem dX7_copy_33 : decode cX7_copy 33 = .ok (.getfield 9, 3) := by decide +kernel
theorem dX7_copy_36 : decode cX7_copy 36 = .ok (.iload_n 3, 1) := by decide +kernel
theorem dX7_copy_37 : decode cX7_copy 37 = .ok (.iaload, 1) := by decide +kernel
theorem dX7_copy_38 : decode cX7_copy 38 = .ok (.bipush (-9), 2) := by decide +kernel
theorem dX7_copy_40 : decode cX7_copy 40 = .ok (.if_icmp .ne 9, 3) := by decide +kernel
theorem dX7_copy_43 : decode cX7_copy 43 = .ok (.aload_n 0, 1) := by decide +kernel
theorem dX7_copy_44 : decode cX7_copy 44 = .ok (.iconst 1, 1) := by decide +kernel
theorem dX7_copy_45 : decode cX7_copy 45 = .ok (.invokevirtual 136, 3) := by decide +kernel
theorem dX7_copy_48 : decode cX7_copy 48 = .ok (.ireturn, 1) := by decide +kernel
theorem dX7_copy_49 : decode cX7_copy 49 = .ok (.aload_n 0, 1) := by decide +kernel
theorem dX7_copy_50 : decode cX7_copy 50 = .ok (.getfield 9, 3) := by decide +kernel
theorem dX7_copy_53 : decode cX7_copy 53 = .ok (.iload_n 1, 1) := by decide +kernel
theorem dX7_copy_54 : decode cX7_copy 54 = .ok (.iaload, 1) := by decide +kernel
theorem dX7_copy_55 : decode cX7_copy 55 = .ok (.aload_n 0, 1) := by decide +kernel
theorem dX7_copy_56 : decode cX7_copy 56 = .ok (.getfield 9, 3) := by decide +kernel
theorem dX7_copy_59 : decode cX7_copy 59 = .ok (.iload_n 3, 1) := by decide +kernel
theorem dX7_copy_60 : decode cX7_copy 60 = .ok (.iaload, 1) := by decide +kernel
theorem dX7_copy_61 : decode cX7_copy 61 = .ok (.if_icmp .eq 9, 3) := by decide +kernel
theorem dX7_copy_64 : decode cX7_copy 64 = .ok (.aload_n 0, 1) := by decide +kernel
theorem dX7_copy_65 : decode cX7_copy 65 = .ok (.iconst 2, 1) := by decide +kernel
theorem dX7_copy_66 : decode cX7_copy 66 = .ok (.invokevirtual 136, 3) := by decide +kernel
theorem dX7_copy_69 : decode cX7_copy 69 = .ok (.ireturn, 1) := by decide +kernel
theorem dX7_copy_70 : decode cX7_copy 70 = .ok (.iload_n 2, 1) := by decide +kernel
theorem dX7_copy_71 : decode cX7_copy 71 = .ok (.ifCond .lt 38, 3) := by decide +kernel
theorem dX7_copy_74 : decode cX7_copy 74 = .ok (.iload 4, 2) := by decide +kernel
theorem dX7_copy_76 : decode cX7_copy 76 = .ok (.ifCond .lt 33, 3) := by decide +kernel
theorem dX7_copy_79 : decode cX7_copy 79 = .ok (.iload 5, 2) := by decide +kernel
theorem dX7_copy_81 : decode cX7_copy 81 = .ok (.ifCond .lt 28, 3) := by decide +kernel
theorem dX7_copy_84 : decode cX7_copy 84 = .ok (.iload_n 2, 1) := by decide +kernel
theorem dX7_copy_85 : decode cX7_copy 85 = .ok (.aload_n 0, 1) := by decide +kernel
theorem dX7_copy_86 : decode cX7_copy 86 = .ok (.getfield 13, 3) := by decide +kernel
theorem dX7_copy_89 : decode cX7_copy 89 = .ok (.iload_n 1, 1) := by decide +kernel
theorem dX7_copy_90 : decode cX7_copy 90 = .ok (.iaload, 1) := by decide +kernel
theorem dX7_copy_91 : decode cX7_copy 91 = .ok (.if_icmp .gt 18, 3) := by decide +kernel
theorem dX7_copy_94 : decode cX7_copy 94 = .ok (.iload 4, 2) := by decide +kernel
theorem dX7_copy_96 : decode cX7_copy 96 = .ok (.aload_n 0, 1) := by decide +kernel
theorem dX7_copy_97 : decode cX7_copy 97 = .ok (.getfield 13, 3) := by decide +kernel
theorem dX7_copy_100 : decode cX7_copy 100 = .ok (.iload_n 3, 1) := by decide +kernel
theorem dX7_copy_101 : decode cX7_copy 101 = .ok (.iaload, 1) := by decide +kernel
theorem dX7_copy_102 : decode cX7_copy 102 = .ok (.if_icmp .gt 7, 3) := by decide +kernel
theorem dX7_copy_105 : decode cX7_copy 105 = .ok (.iconst 1, 1) := by decide +kernel
theorem dX7_copy_106 : decode cX7_copy 106 = .ok (.goto 4, 3) := by decide +kernel
theorem dX7_copy_109 : decode cX7_copy 109 = .ok (.iconst 0, 1) := by decide +kernel
theorem dX7_copy_110 : decode cX7_copy 110 = .ok (.istore 6, 2) := by decide +kernel
theorem dX7_copy_112 : decode cX7_copy 112 = .ok (.iload 6, 2) := by decide +kernel
theorem dX7_copy_114 : decode cX7_copy 114 = .ok (.ifCond .eq 30, 3) := by decide +kernel
theorem dX7_copy_117 : decode cX7_copy 117 = .ok (.iload 5, 2) := by decide +kernel
theorem dX7_copy_119 : decode cX7_copy 119 = .ok (.aload_n 0, 1) := by decide +kernel
theorem dX7_copy_120 : decode cX7_copy 120 = .ok (.getfield 13, 3) := by decide +kernel
theorem dX7_copy_123 : decode cX7_copy 123 = .ok (.iload_n 1, 1) := by decide +kernel
theorem dX7_copy_124 : decode cX7_copy 124 = .ok (.iaload, 1) := by decide +kernel
theorem dX7_copy_125 : decode cX7_copy 125 = .ok (.iload_n 2, 1) := by decide +kernel
theorem dX7_copy_126 : decode cX7_copy 126 = .ok (.isub, 1) := by decide +kernel
theorem dX7_copy_127 : decode cX7_copy 127 = .ok (.if_icmp .gt 17, 3) := by decide +kernel
theorem dX7_copy_130 : decode cX7_copy 130 = .ok (.iload 5, 2) := by decide +kernel
theorem dX7_copy_132 : decode cX7_copy 132 = .ok (.aload_n 0, 1) := by decide +kernel
theorem dX7_copy_133 : decode cX7_copy 133 = .ok (.getfield 13, 3) := by decide +kernel
theorem dX7_copy_136 : decode cX7_copy 136 = .ok (.iload_n 3, 1) := by decide +kernel
theorem dX7_copy_137 : decode cX7_copy 137 = .ok (.iaload, 1) := by decide +kernel
theorem dX7_copy_138 : decode cX7_copy 138 = .ok (.iload 4, 2) := by decide +kernel
theorem dX7_copy_140 : decode cX7_copy 140 = .ok (.isub, 1) := by decide +kernel
theorem dX7_copy_141 : decode cX7_copy 141 = .ok (.if_icmp .le 9, 3) := by decide +kernel
theorem dX7_copy_144 : decode cX7_copy 144 = .ok (.aload_n 0, 1) := by decide +kernel
theorem dX7_copy_145 : decode cX7_copy 145 = .ok (.iconst 3, 1) := by decide +kernel
theorem dX7_copy_146 : decode cX7_copy 146 = .ok (.invokevirtual 136, 3) := by decide +kernel
theorem dX7_copy_149 : decode cX7_copy 149 = .ok (.ireturn, 1) := by decide +kernel
theorem dX7_copy_150 : decode cX7_copy 150 = .ok (.iload_n 2, 1) := by decide +kernel
theorem dX7_copy_151 : decode cX7_copy 151 = .ok (.iload 4, 2) := by decide +kernel
theorem dX7_copy_153 : decode cX7_copy 153 = .ok (.if_icmp .ge 7, 3) := by decide +kernel
theorem dX7_copy_156 : decode cX7_copy 156 = .ok (.iconst 1, 1) := by decide +kernel
theorem dX7_copy_157 : decode cX7_copy 157 = .ok (.goto 4, 3) := by decide +kernel
theorem dX7_copy_160 : decode cX7_copy 160 = .ok (.iconst 0, 1) := by decide +kernel
theorem dX7_copy_161 : decode cX7_copy 161 = .ok (.istore 7, 2) := by decide +kernel
theorem dX7_copy_163 : decode cX7_copy 163 = .ok (.iconst 0, 1) := by decide +kernel
theorem dX7_copy_164 : decode cX7_copy 164 = .ok (.istore 8, 2) := by decide +kernel
theorem dX7_copy_166 : decode cX7_copy 166 = .ok (.iload 8, 2) := by decide +kernel
theorem dX7_copy_168 : decode cX7_copy 168 = .ok (.iload 5, 2) := by decide +kernel
theorem dX7_copy_170 : decode cX7_copy 170 = .ok (.if_icmp .ge 57, 3) := by decide +kernel
theorem dX7_copy_173 : decode cX7_copy 173 = .ok (.iload 7, 2) := by decide +kernel
theorem dX7_copy_175 : decode cX7_copy 175 = .ok (.ifCond .eq 13, 3) := by decide +kernel
theorem dX7_copy_178 : decode cX7_copy 178 = .ok (.iload 5, 2) := by decide +kernel
theorem dX7_copy_180 : decode cX7_copy 180 = .ok (.iconst 1, 1) := by decide +kernel
theorem dX7_copy_181 : decode cX7_copy 181 = .ok (.isub, 1) := by decide +kernel
theorem dX7_copy_182 : decode cX7_copy 182 = .ok (.iload 8, 2) := by decide +kernel
theorem dX7_copy_184 : decode cX7_copy 184 = .ok (.isub, 1) := by decide +kernel
theorem dX7_copy_185 : decode cX7_copy 185 = .ok (.goto 5, 3) := by decide +kernel
theorem dX7_copy_188 : decode cX7_copy 188 = .ok (.iload 8, 2) := by decide +kernel
theorem dX7_copy_190 : decode cX7_copy 190 = .ok (.istore 9, 2) := by decide +kernel
theorem dX7_copy_192 : decode cX7_copy 192 = .ok (.aload_n 0, 1) := by decide +kernel
theorem dX7_copy_193 : decode cX7_copy 193 = .ok (.getfield 16, 3) := by decide +kernel
theorem dX7_copy_196 : decode cX7_copy 196 = .ok (.bipush 60, 2) := by decide +kernel
theorem dX7_copy_198 : decode cX7_copy 198 = .ok (.iload_n 3, 1) := by decide +kernel
theorem dX7_copy_199 : decode cX7_copy 199 = .ok (.imul, 1) := by decide +kernel
theorem dX7_copy_200 : decode cX7_copy 200 = .ok (.iload 4, 2) := by decide +kernel
theorem dX7_copy_202 : decode cX7_copy 202 = .ok (.iadd, 1) := by decide +kernel
theorem dX7_copy_203 : decode cX7_copy 203 = .ok (.iload 9, 2) := by decide +kernel
theorem dX7_copy_205 : decode cX7_copy 205 = .ok (.iadd, 1) := by decide +kernel
theorem dX7_copy_206 : decode cX7_copy 206 = .ok (.aload_n 0, 1) := by decide +kernel
theorem dX7_copy_207 : decode cX7_copy 207 = .ok (.getfield 16, 3) := by decide +kernel
theorem dX7_copy_210 : decode cX7_copy 210 = .ok (.bipush 60, 2) := by decide +kernel
theorem dX7_copy_212 : decode cX7_copy 212 = .ok (.iload_n 1, 1) := by decide +kernel
theorem dX7_copy_213 : decode cX7_copy 213 = .ok (.imul, 1) := by decide +kernel
theorem dX7_copy_214 : decode cX7_copy 214 = .ok (.iload_n 2, 1) := by decide +kernel
theorem dX7_copy_215 : decode cX7_copy 215 = .ok (.iadd, 1) := by decide +kernel
theorem dX7_copy_216 : decode cX7_copy 216 = .ok (.iload 9, 2) := by decide +kernel
theorem dX7_copy_218 : decode cX7_copy 218 = .ok (.iadd, 1) := by decide +kernel
theorem dX7_copy_219 : decode cX7_copy 219 = .ok (.iaload, 1) := by decide +kernel
theorem dX7_copy_220 : decode cX7_copy 220 = .ok (.iastore, 1) := by decide +kernel
theorem dX7_copy_221 : decode cX7_copy 221 = .ok (.iinc 8 1, 3) := by decide +kernel
theorem dX7_copy_224 : decode cX7_copy 224 = .ok (.goto (-58), 3) := by decide +kernel
theorem dX7_copy_227 : decode cX7_copy 227 = .ok (.iload 5, 2) := by decide +kernel
theorem dX7_copy_229 : decode cX7_copy 229 = .ok (.ireturn, 1) := by decide +kernel
theorem dX7_begins_0 : decode cX7_begins 0 = .ok (.aload_n 0, 1) := by decide +kernel
theorem dX7_begins_1 : decode cX7_begins 1 = .ok (.bipush 31, 2) := by decide +kernel
theorem dX7_begins_3 : decode cX7_begins 3 = .ok (.aload_n 0, 1) := by decide +kernel
theorem dX7_begins_4 : decode cX7_begins 4 = .ok (.getfield 275, 3) := by decide +kernel
theorem dX7_begins_7 : decode cX7_begins 7 = .ok (.imul, 1) := by decide +kernel
theorem dX7_begins_8 : decode cX7_begins 8 = .ok (.iload_n 1, 1) := by decide +kernel
theorem dX7_begins_9 : decode cX7_begins 9 = .ok (.iadd, 1) := by decide +kernel
theorem dX7_begins_10 : decode cX7_begins 10 = .ok (.putfield 275, 3) := by decide +kernel
theorem dX7_begins_13 : decode cX7_begins 13 = .ok (.return_, 1) := by decide +kernel
theorem dX7_tell_0 : decode cX7_tell 0 = .ok (.aload_n 0, 1) := by decide +kernel
theorem dX7_tell_1 : decode cX7_tell 1 = .ok (.iload_n 1, 1) := by decide +kernel
theorem dX7_tell_2 : decode cX7_tell 2 = .ok (.invokevirtual 234, 3) := by decide +kernel
theorem dX7_tell_5 : decode cX7_tell 5 = .ok (.ifCond .ne 5, 3) := by decide +kernel
theorem dX7_tell_8 : decode cX7_tell 8 = .ok (.iconst (-1), 1) := by decide +kernel
theorem dX7_tell_9 : decode cX7_tell 9 = .ok (.ireturn, 1) := by decide +kernel
theorem dX7_tell_10 : decode cX7_tell 10 = .ok (.aload_n 0, 1) := by decide +kernel
theorem dX7_tell_11 : decode cX7_tell 11 = .ok (.getfield 71, 3) := by decide +kernel
theorem dX7_tell_14 : decode cX7_tell 14 = .ok (.iload_n 1, 1) := by decide +kernel
theorem dX7_tell_15 : decode cX7_tell 15 = .ok (.iaload, 1) := by decide +kernel
theorem dX7_tell_16 : decode cX7_tell 16 = .ok (.istore_n 2, 1) := by decide +kernel
theorem dX7_tell_17 : decode cX7_tell 17 = .ok (.aload_n 0, 1) := by decide +kernel
theorem dX7_tell_18 : decode cX7_tell 18 = .ok (.getfield 59, 3) := by decide +kernel
theorem dX7_tell_21 : decode cX7_tell 21 = .ok (.iload_n 1, 1) := by decide +kernel
theorem dX7_tell_22 : decode cX7_tell 22 = .ok (.iaload, 1) := by decide +kernel
theorem dX7_tell_23 : decode cX7_tell 23 = .ok (.lookupswitch 67 #[(1, 25), (2, 40)], 25) := by decide +kernel
theorem dX7_tell_48 : decode cX7_tell 48 = .ok (.aload_n 0, 1) := by decide +kernel
theorem dX7_tell_49 : decode cX7_tell 49 = .ok (.iconst 2, 1) := by decide +kernel
theorem dX7_tell_50 : decode cX7_tell 50 = .ok (.invokevirtual 278, 3) := by decide +kernel
theorem dX7_tell_53 : decode cX7_tell 53 = .ok (.aload_n 0, 1) := by decide +kernel
theorem dX7_tell_54 : decode cX7_tell 54 = .ok (.iconst 1, 1) := by decide +kernel
theorem dX7_tell_55 : decode cX7_tell 55 = .ok (.invokevirtual 278, 3) := by decide +kernel
theorem dX7_tell_58 : decode cX7_tell 58 = .ok (.iload_n 2, 1) := by decide +kernel
theorem dX7_tell_59 : decode cX7_tell 59 = .ok (.bipush 100, 2) := by decide +kernel
theorem dX7_tell_61 : decode cX7_tell 61 = .ok (.iadd, 1) := by decide +kernel
theorem dX7_tell_62 : decode cX7_tell 62 = .ok (.ireturn, 1) := by decide +kernel
theorem dX7_tell_63 : decode cX7_tell 63 = .ok (.aload_n 0, 1) := by decide +kernel
theorem dX7_tell_64 : decode cX7_tell 64 = .ok (.iconst 3, 1) := by decide +kernel
theorem dX7_tell_65 : decode cX7_tell 65 = .ok (.invokevirtual 278, 3) := by decide +kernel
theorem dX7_tell_68 : decode cX7_tell 68 = .ok (.aload_n 0, 1) := by decide +kernel
theorem dX7_tell_69 : decode cX7_tell 69 = .ok (.iconst 2, 1) := by decide +kernel
theorem dX7_tell_70 : decode cX7_tell 70 = .ok (.invokevirtual 278, 3) := by decide +kernel
theorem dX7_tell_73 : decode cX7_tell 73 = .ok (.aload_n 0, 1) := by decide +kernel
theorem dX7_tell_74 : decode cX7_tell 74 = .ok (.iconst 1, 1) := by decide +kernel
theorem dX7_tell_75 : decode cX7_tell 75 = .ok (.invokevirtual 278, 3) := by decide +kernel
theorem dX7_tell_78 : decode cX7_tell 78 = .ok (.aload_n 0, 1) := by decide +kernel
theorem dX7_tell_79 : decode cX7_tell 79 = .ok (.iconst 1, 1) := by decide +kernel
theorem dX7_tell_80 : decode cX7_tell 80 = .ok (.invokevirtual 278, 3) := by decide +kernel
theorem dX7_tell_83 : decode cX7_tell 83 = .ok (.iconst 2, 1) := by decide +kernel
theorem dX7_tell_84 : decode cX7_tell 84 = .ok (.iload_n 2, 1) := by decide +kernel
theorem dX7_tell_85 : decode cX7_tell 85 = .ok (.imul, 1) := by decide +kernel
theorem dX7_tell_86 : decode cX7_tell 86 = .ok (.bipush 100, 2) := by decide +kernel
theorem dX7_tell_88 : decode cX7_tell 88 = .ok (.iadd, 1) := by decide +kernel
theorem dX7_tell_89 : decode cX7_tell 89 = .ok (.ireturn, 1) := by decide +kernel
theorem dX7_tell_90 : decode cX7_tell 90 = .ok (.aload_n 0, 1) := by decide +kernel
theorem dX7_tell_91 : decode cX7_tell 91 = .ok (.iconst 1, 1) := by decide +kernel
theorem dX7_tell_92 : decode cX7_tell 92 = .ok (.invokevirtual 278, 3) := by decide +kernel
theorem dX7_tell_95 : decode cX7_tell 95 = .ok (.iload_n 2, 1) := by decide +kernel
theorem dX7_tell_96 : decode cX7_tell 96 = .ok (.ireturn, 1) := by decide +kernel
theorem dX7_greet_0 : decode cX7_greet 0 = .ok (.aload_n 0, 1) := by decide +kernel
theorem dX7_greet_1 : decode cX7_greet 1 = .ok (.iload_n 1, 1) := by decide +kernel
theorem dX7_greet_2 : decode cX7_greet 2 = .ok (.invokevirtual 234, 3) := by decide +kernel
theorem dX7_greet_5 : decode cX7_greet 5 = .ok (.ifCond .ne 5, 3) := by decide +kernel
theorem dX7_greet_8 : decode cX7_greet 8 = .ok (.iconst (-1), 1) := by decide +kernel
theorem dX7_greet_9 : decode cX7_greet 9 = .ok (.ireturn, 1) := by decide +kernel
theorem dX7_greet_10 : decode cX7_greet 10 = .ok (.aload_n 0, 1) := by decide +kernel
theorem dX7_greet_11 : decode cX7_greet 11 = .ok (.aload_n 0, 1) := by decide +kernel
theorem dX7_greet_12 : decode cX7_greet 12 = .ok (.getfield 59, 3) := by decide +kernel
theorem dX7_greet_15 : decode cX7_greet 15 = .ok (.iload_n 1, 1) := by decide +kernel
theorem dX7_greet_16 : decode cX7_greet 16 = .ok (.iaload, 1) := by decide +kernel
theorem dX7_greet_17 : decode cX7_greet 17 = .ok (.iconst 2, 1) := by decide +kernel
theorem dX7_greet_18 : decode cX7_greet 18 = .ok (.if_icmp .ne 7, 3) := by decide +kernel
theorem dX7_greet_21 : decode cX7_greet 21 = .ok (.iconst 5, 1) := by decide +kernel
theorem dX7_greet_22 : decode cX7_greet 22 = .ok (.goto 4, 3) := by decide +kernel
theorem dX7_greet_25 : decode cX7_greet 25 = .ok (.iconst 4, 1) := by decide +kernel
theorem dX7_greet_26 : decode cX7_greet 26 = .ok (.invokevirtual 278, 3) := by decide +kernel
theorem dX7_greet_29 : decode cX7_greet 29 = .ok (.aload_n 0, 1) := by decide +kernel
theorem dX7_greet_30 : decode cX7_greet 30 = .ok (.getfield 59, 3) := by decide +kernel
theorem dX7_greet_33 : decode cX7_greet 33 = .ok (.iload_n 1, 1) := by decide +kernel
theorem dX7_greet_34 : decode cX7_greet 34 = .ok (.iaload, 1) := by decide +kernel
theorem dX7_greet_35 : decode cX7_greet 35 = .ok (.iconst 2, 1) := by decide +kernel
theorem dX7_greet_36 : decode cX7_greet 36 = .ok (.if_icmp .ne 8, 3) := by decide +kernel
theorem dX7_greet_39 : decode cX7_greet 39 = .ok (.bipush 70, 2) := by decide +kernel
theorem dX7_greet_41 : decode cX7_greet 41 = .ok (.goto 4, 3) := by decide +kernel
theorem dX7_greet_44 : decode cX7_greet 44 = .ok (.iload_n 1, 1) := by decide +kernel
theorem dX7_greet_45 : decode cX7_greet 45 = .ok (.ireturn, 1) := by decide +kernel
theorem dX7_as_0 : decode cX7_as 0 = .ok (.aload_n 0, 1) := by decide +kernel
theorem dX7_as_1 : decode cX7_as 1 = .ok (.iconst 0, 1) := by decide +kernel
theorem dX7_as_2 : decode cX7_as 2 = .ok (.putfield 102, 3) := by decide +kernel
theorem dX7_as_5 : decode cX7_as 5 = .ok (.aload_n 0, 1) := by decide +kernel
theorem dX7_as_6 : decode cX7_as 6 = .ok (.iload_n 1, 1) := by decide +kernel
theorem dX7_as_7 : decode cX7_as 7 = .ok (.invokevirtual 234, 3) := by decide +kernel
theorem dX7_as_10 : decode cX7_as 10 = .ok (.ifCond .ne 5, 3) := by decide +kernel
theorem dX7_as_13 : decode cX7_as 13 = .ok (.iconst (-1), 1) := by decide +kernel
theorem dX7_as_14 : decode cX7_as 14 = .ok (.ireturn, 1) := by decide +kernel
theorem dX7_as_15 : decode cX7_as 15 = .ok (.iload_n 2, 1) := by decide +kernel
theorem dX7_as_16 : decode cX7_as 16 = .ok (.iconst 0, 1) := by decide +kernel
theorem dX7_as_17 : decode cX7_as 17 = .ok (.iconst 2, 1) := by decide +kernel
theorem dX7_as_18 : decode cX7_as 18 = .ok (.invokestatic 108, 3) := by decide +kernel
theorem dX7_as_21 : decode cX7_as 21 = .ok (.ifCond .ne 6, 3) := by decide +kernel
theorem dX7_as_24 : decode cX7_as 24 = .ok (.bipush (-2), 2) := by decide +kernel
theorem dX7_as_26 : decode cX7_as 26 = .ok (.ireturn, 1) := by decide +kernel
theorem dX7_as_27 : decode cX7_as 27 = .ok (.aload_n 0, 1) := by decide +kernel
theorem dX7_as_28 : decode cX7_as 28 = .ok (.getfield 59, 3) := by decide +kernel
theorem dX7_as_31 : decode cX7_as 31 = .ok (.iload_n 1, 1) := by decide +kernel
theorem dX7_as_32 : decode cX7_as 32 = .ok (.iaload, 1) := by decide +kernel
theorem dX7_as_33 : decode cX7_as 33 = .ok (.iload_n 2, 1) := by decide +kernel
theorem dX7_as_34 : decode cX7_as 34 = .ok (.if_icmp .lt 7, 3) := by decide +kernel
theorem dX7_as_37 : decode cX7_as 37 = .ok (.iconst 1, 1) := by decide +kernel
theorem dX7_as_38 : decode cX7_as 38 = .ok (.goto 8, 3) := by decide +kernel
theorem dX7_as_41 : decode cX7_as 41 = .ok (.aload_n 0, 1) := by decide +kernel
theorem dX7_as_42 : decode cX7_as 42 = .ok (.iconst 2, 1) := by decide +kernel
theorem dX7_as_43 : decode cX7_as 43 = .ok (.invokevirtual 136, 3) := by decide +kernel
theorem dX7_as_46 : decode cX7_as 46 = .ok (.ireturn, 1) := by decide +kernel
theorem dX7_trace_0 : decode cX7_trace 0 = .ok (.aload_n 0, 1) := by decide +kernel
theorem dX7_trace_1 : decode cX7_trace 1 = .ok (.getfield 275, 3) := by decide +kernel
theorem dX7_trace_4 : decode cX7_trace 4 = .ok (.ireturn, 1) := by decide +kernel
theorem dX7_fault_0 : decode cX7_fault 0 = .ok (.aload_n 0, 1) := by decide +kernel
theorem dX7_fault_1 : decode cX7_fault 1 = .ok (.getfield 102, 3) := by decide +kernel
theorem dX7_fault_4 : decode cX7_fault 4 = .ok (.ireturn, 1) := by decide +kernel
theorem dX7_many_0 : decode cX7_many 0 = .ok (.iconst 0, 1) := by decide +kernel
theorem dX7_many_1 : decode cX7_many 1 = .ok (.istore_n 2, 1) := by decide +kernel
theorem dX7_many_2 : decode cX7_many 2 = .ok (.iconst 0, 1) := by decide +kernel
theorem dX7_many_3 : decode cX7_many 3 = .ok (.istore_n 3, 1) := by decide +kernel
theorem dX7_many_4 : decode cX7_many 4 = .ok (.iload_n 3, 1) := by decide +kernel
theorem dX7_many_5 : decode cX7_many 5 = .ok (.aload_n 0, 1) := by decide +kernel
theorem dX7_many_6 : decode cX7_many 6 = .ok (.getfield 219, 3) := by decide +kernel
theorem dX7_many_9 : decode cX7_many 9 = .ok (.if_icmp .ge 28, 3) := by decide +kernel
theorem dX7_many_12 : decode cX7_many 12 = .ok (.iload_n 2, 1) := by decide +kernel
theorem dX7_many_13 : decode cX7_many 13 = .ok (.aload_n 0, 1) := by decide +kernel
theorem dX7_many_14 : decode cX7_many 14 = .ok (.getfield 65, 3) := by decide +kernel
theorem dX7_many_17 : decode cX7_many 17 = .ok (.iload_n 3, 1) := by decide +kernel
theorem dX7_many_18 : decode cX7_many 18 = .ok (.iaload, 1) := by decide +kernel
theorem dX7_many_19 : decode cX7_many 19 = .ok (.bipush (-9), 2) := by decide +kernel
theorem dX7_many_21 : decode cX7_many 21 = .ok (.if_icmp .ne 7, 3) := by decide +kernel
theorem dX7_many_24 : decode cX7_many 24 = .ok (.iconst 1, 1) := by decide +kernel
theorem dX7_many_25 : decode cX7_many 25 = .ok (.goto 4, 3) := by decide +kernel
theorem dX7_many_28 : decode cX7_many 28 = .ok (.iconst 0, 1) := by decide +kernel
theorem dX7_many_29 : decode cX7_many 29 = .ok (.iadd, 1) := by decide +kernel
theorem dX7_many_30 : decode cX7_many 30 = .ok (.istore_n 2, 1) := by decide +kernel
theorem dX7_many_31 : decode cX7_many 31 = .ok (.iinc 3 1, 3) := by decide +kernel
theorem dX7_many_34 : decode cX7_many 34 = .ok (.goto (-30), 3) := by decide +kernel
theorem dX7_many_37 : decode cX7_many 37 = .ok (.iload_n 1, 1) := by decide +kernel
theorem dX7_many_38 : decode cX7_many 38 = .ok (.tableswitch 56 0 4 #[34, 39, 44, 49, 54], 34) := by decide +kernel
theorem dX7_many_72 : decode cX7_many 72 = .ok (.aload_n 0, 1) := by decide +kernel
theorem dX7_many_73 : decode cX7_many 73 = .ok (.getfield 112, 3) := by decide +kernel
theorem dX7_many_76 : decode cX7_many 76 = .ok (.ireturn, 1) := by decide +kernel
theorem dX7_many_77 : decode cX7_many 77 = .ok (.aload_n 0, 1) := by decide +kernel
theorem dX7_many_78 : decode cX7_many 78 = .ok (.getfield 213, 3) := by decide +kernel
theorem dX7_many_81 : decode cX7_many 81 = .ok (.ireturn, 1) := by decide +kernel
theorem dX7_many_82 : decode cX7_many 82 = .ok (.aload_n 0, 1) := by decide +kernel
theorem dX7_many_83 : decode cX7_many 83 = .ok (.getfield 216, 3) := by decide +kernel
theorem dX7_many_86 : decode cX7_many 86 = .ok (.ireturn, 1) := by decide +kernel
theorem dX7_many_87 : decode cX7_many 87 = .ok (.aload_n 0, 1) := by decide +kernel
theorem dX7_many_88 : decode cX7_many 88 = .ok (.getfield 219, 3) := by decide +kernel
theorem dX7_many_91 : decode cX7_many 91 = .ok (.ireturn, 1) := by decide +kernel
theorem dX7_many_92 : decode cX7_many 92 = .ok (.iload_n 2, 1) := by decide +kernel
theorem dX7_many_93 : decode cX7_many 93 = .ok (.ireturn, 1) := by decide +kernel
theorem dX7_many_94 : decode cX7_many 94 = .ok (.bipush (-2), 2) := by decide +kernel
theorem dX7_many_96 : decode cX7_many 96 = .ok (.ireturn, 1) := by decide +kernel
