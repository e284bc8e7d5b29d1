theorem dX0_init_0 : decode cX0_init 0 = .ok (.aload_n 0, 1) := by decide +kernel
theorem dX0_init_1 : decode cX0_init 1 = .ok (.invokespecial 3, 3) := by decide +kernel
theorem dX0_init_4 : decode cX0_init 4 = .ok (.aload_n 0, 1) := by decide +kernel
theorem dX0_init_5 : decode cX0_init 5 = .ok (.bipush 10, 2) := by decide +kernel
theorem dX0_init_7 : decode cX0_init 7 = .ok (.newarray .int, 2) := by decide +kernel
theorem dX0_init_9 : decode cX0_init 9 = .ok (.putfield 9, 3) := by decide +kernel
theorem dX0_init_12 : decode cX0_init 12 = .ok (.aload_n 0, 1) := by decide +kernel
theorem dX0_init_13 : decode cX0_init 13 = .ok (.sipush 1024, 3) := by decide +kernel
theorem dX0_init_16 : decode cX0_init 16 = .ok (.newarray .int, 2) := by decide +kernel
theorem dX0_init_18 : decode cX0_init 18 = .ok (.putfield 15, 3) := by decide +kernel
theorem dX0_init_21 : decode cX0_init 21 = .ok (.return_, 1) := by decide +kernel
theorem dX1_init_0 : decode cX1_init 0 = .ok (.aload_n 0, 1) := by decide +kernel
theorem dX1_init_1 : decode cX1_init 1 = .ok (.invokespecial 3, 3) := by decide +kernel
theorem dX1_init_4 : decode cX1_init 4 = .ok (.aload_n 0, 1) := by decide +kernel
theorem dX1_init_5 : decode cX1_init 5 = .ok (.bipush 43, 2) := by decide +kernel
theorem dX1_init_7 : decode cX1_init 7 = .ok (.newarray .int, 2) := by decide +kernel
theorem dX1_init_9 : decode cX1_init 9 = .ok (.putfield 9, 3) := by decide +kernel
theorem dX1_init_12 : decode cX1_init 12 = .ok (.aload_n 0, 1) := by decide +kernel
theorem dX1_init_13 : decode cX1_init 13 = .ok (.bipush 43, 2) := by decide +kernel
theorem dX1_init_15 : decode cX1_init 15 = .ok (.newarray .int, 2) := by decide +kernel
theorem dX1_init_17 : decode cX1_init 17 = .ok (.putfield 15, 3) := by decide +kernel
theorem dX1_init_20 : decode cX1_init 20 = .ok (.aload_n 0, 1) := by decide +kernel
theorem dX1_init_21 : decode cX1_init 21 = .ok (.bipush 43, 2) := by decide +kernel
theorem dX1_init_23 : decode cX1_init 23 = .ok (.newarray .int, 2) := by decide +kernel
theorem dX1_init_25 : decode cX1_init 25 = .ok (.putfield 18, 3) := by decide +kernel
theorem dX1_init_28 : decode cX1_init 28 = .ok (.aload_n 0, 1) := by decide +kernel
theorem dX1_init_29 : decode cX1_init 29 = .ok (.bipush 43, 2) := by decide +kernel
theorem dX1_init_31 : decode cX1_init 31 = .ok (.newarray .int, 2) := by decide +kernel
theorem dX1_init_33 : decode cX1_init 33 = .ok (.putfield 21, 3) := by decide +kernel
theorem dX1_init_36 : decode cX1_init 36 = .ok (.aload_n 0, 1) := by decide +kernel
theorem dX1_init_37 : decode cX1_init 37 = .ok (.bipush 43, 2) := by decide +kernel
theorem dX1_init_39 : decode cX1_init 39 = .ok (.newarray .int, 2) := by decide +kernel
theorem dX1_init_41 : decode cX1_init 41 = .ok (.putfield 24, 3) := by decide +kernel
theorem dX1_init_44 : decode cX1_init 44 = .ok (.aload_n 0, 1) := by decide +kernel
theorem dX1_init_45 : decode cX1_init 45 = .ok (.bipush (-9), 2) := by decide +kernel
theorem dX1_init_47 : decode cX1_init 47 = .ok (.putfield 27, 3) := by decide +kernel
theorem dX1_init_50 : decode cX1_init 50 = .ok (.aload_n 0, 1) := by decide +kernel
theorem dX1_init_51 : decode cX1_init 51 = .ok (.bipush (-9), 2) := by decide +kernel
theorem dX1_init_53 : decode cX1_init 53 = .ok (.putfield 31, 3) := by decide +kernel
theorem dX1_init_56 : decode cX1_init 56 = .ok (.aload_n 0, 1) := by decide +kernel
theorem dX1_init_57 : decode cX1_init 57 = .ok (.bipush (-9), 2) := by decide +kernel
theorem dX1_init_59 : decode cX1_init 59 = .ok (.putfield 34, 3) := by decide +kernel
theorem dX1_init_62 : decode cX1_init 62 = .ok (.aload_n 0, 1) := by decide +kernel
theorem dX1_init_63 : decode cX1_init 63 = .ok (.bipush (-9), 2) := by decide +kernel
theorem dX1_init_65 : decode cX1_init 65 = .ok (.putfield 37, 3) := by decide +kernel
theorem dX1_init_68 : decode cX1_init 68 = .ok (.aload_n 0, 1) := by decide +kernel
theorem dX1_init_69 : decode cX1_init 69 = .ok (.bipush 72, 2) := by decide +kernel
theorem dX1_init_71 : decode cX1_init 71 = .ok (.newarray .int, 2) := by decide +kernel
theorem dX1_init_73 : decode cX1_init 73 = .ok (.putfield 40, 3) := by decide +kernel
theorem dX1_init_76 : decode cX1_init 76 = .ok (.aload_n 0, 1) := by decide +kernel
theorem dX1_init_77 : decode cX1_init 77 = .ok (.bipush 43, 2) := by decide +kernel
theorem dX1_init_79 : decode cX1_init 79 = .ok (.newarray .int, 2) := by decide +kernel
theorem dX1_init_81 : decode cX1_init 81 = .ok (.putfield 43, 3) := by decide +kernel
theorem dX1_init_84 : decode cX1_init 84 = .ok (.aload_n 0, 1) := by decide +kernel
theorem dX1_init_85 : decode cX1_init 85 = .ok (.iconst 4, 1) := by decide +kernel
theorem dX1_init_86 : decode cX1_init 86 = .ok (.newarray .int, 2) := by decide +kernel
theorem dX1_init_88 : decode cX1_init 88 = .ok (.putfield 46, 3) := by decide +kernel
theorem dX1_init_91 : decode cX1_init 91 = .ok (.aload_n 0, 1) := by decide +kernel
theorem dX1_init_92 : decode cX1_init 92 = .ok (.iconst 4, 1) := by decide +kernel
theorem dX1_init_93 : decode cX1_init 93 = .ok (.newarray .int, 2) := by decide +kernel
theorem dX1_init_95 : decode cX1_init 95 = .ok (.putfield 49, 3) := by decide +kernel
theorem dX1_init_98 : decode cX1_init 98 = .ok (.aload_n 0, 1) := by decide +kernel
theorem dX1_init_99 : decode cX1_init 99 = .ok (.iconst 3, 1) := by decide +kernel
theorem dX1_init_100 : decode cX1_init 100 = .ok (.newarray .int, 2) := by decide +kernel
theorem dX1_init_102 : decode cX1_init 102 = .ok (.putfield 52, 3) := by decide +kernel
theorem dX1_init_105 : decode cX1_init 105 = .ok (.aload_n 0, 1) := by decide +kernel
theorem dX1_init_106 : decode cX1_init 106 = .ok (.iload_n 1, 1) := by decide +kernel
theorem dX1_init_107 : decode cX1_init 107 = .ok (.putfield 55, 3) := by decide +kernel
theorem dX1_init_110 : decode cX1_init 110 = .ok (.aload_n 0, 1) := by decide +kernel
theorem dX1_init_111 : decode cX1_init 111 = .ok (.iload_n 2, 1) := by decide +kernel
theorem dX1_init_112 : decode cX1_init 112 = .ok (.putfield 58, 3) := by decide +kernel
theorem dX1_init_115 : decode cX1_init 115 = .ok (.aload_n 0, 1) := by decide +kernel
theorem dX1_init_116 : decode cX1_init 116 = .ok (.iconst 2, 1) := by decide +kernel
theorem dX1_init_117 : decode cX1_init 117 = .ok (.iload_n 1, 1) := by decide +kernel
theorem dX1_init_118 : decode cX1_init 118 = .ok (.imul, 1) := by decide +kernel
theorem dX1_init_119 : decode cX1_init 119 = .ok (.iload_n 2, 1) := by decide +kernel
theorem dX1_init_120 : decode cX1_init 120 = .ok (.imul, 1) := by decide +kernel
theorem dX1_init_121 : decode cX1_init 121 = .ok (.putfield 61, 3) := by decide +kernel
theorem dX1_init_124 : decode cX1_init 124 = .ok (.aload_n 0, 1) := by decide +kernel
theorem dX1_init_125 : decode cX1_init 125 = .ok (.iload_n 1, 1) := by decide +kernel
theorem dX1_init_126 : decode cX1_init 126 = .ok (.iload_n 2, 1) := by decide +kernel
theorem dX1_init_127 : decode cX1_init 127 = .ok (.invokestatic 64, 3) := by decide +kernel
theorem dX1_init_130 : decode cX1_init 130 = .ok (.putfield 68, 3) := by decide +kernel
theorem dX1_init_133 : decode cX1_init 133 = .ok (.aload_n 0, 1) := by decide +kernel
theorem dX1_init_134 : decode cX1_init 134 = .ok (.getfield 52, 3) := by decide +kernel
theorem dX1_init_137 : decode cX1_init 137 = .ok (.iconst 0, 1) := by decide +kernel
theorem dX1_init_138 : decode cX1_init 138 = .ok (.iconst 1, 1) := by decide +kernel
theorem dX1_init_139 : decode cX1_init 139 = .ok (.iconst 2, 1) := by decide +kernel
theorem dX1_init_140 : decode cX1_init 140 = .ok (.iload_n 1, 1) := by decide +kernel
theorem dX1_init_141 : decode cX1_init 141 = .ok (.imul, 1) := by decide +kernel
theorem dX1_init_142 : decode cX1_init 142 = .ok (.isub, 1) := by decide +kernel
theorem dX1_init_143 : decode cX1_init 143 = .ok (.iastore, 1) := by decide +kernel
theorem dX1_init_144 : decode cX1_init 144 = .ok (.aload_n 0, 1) := by decide +kernel
theorem dX1_init_145 : decode cX1_init 145 = .ok (.getfield 52, 3) := by decide +kernel
theorem dX1_init_148 : decode cX1_init 148 = .ok (.iconst 1, 1) := by decide +kernel
theorem dX1_init_149 : decode cX1_init 149 = .ok (.iconst (-1), 1) := by decide +kernel
theorem dX1_init_150 : decode cX1_init 150 = .ok (.iastore, 1) := by decide +kernel
theorem dX1_init_151 : decode cX1_init 151 = .ok (.aload_n 0, 1) := by decide +kernel
theorem dX1_init_152 : decode cX1_init 152 = .ok (.getfield 52, 3) := by decide +kernel
theorem dX1_init_155 : decode cX1_init 155 = .ok (.iconst 2, 1) := by decide +kernel
theorem dX1_init_156 : decode cX1_init 156 = .ok (.iconst 1, 1) := by decide +kernel
theorem dX1_init_157 : decode cX1_init 157 = .ok (.iastore, 1) := by decide +kernel
theorem dX1_init_158 : decode cX1_init 158 = .ok (.iconst 0, 1) := by decide +kernel
theorem dX1_init_159 : decode cX1_init 159 = .ok (.istore_n 3, 1) := by decide +kernel
theorem dX1_init_160 : decode cX1_init 160 = .ok (.iload_n 3, 1) := by decide +kernel
theorem dX1_init_161 : decode cX1_init 161 = .ok (.iload_n 2, 1) := by decide +kernel
theorem dX1_init_162 : decode cX1_init 162 = .ok (.if_icmp .ge 31, 3) := by decide +kernel
theorem dX1_init_165 : decode cX1_init 165 = .ok (.iconst 0, 1) := by decide +kernel
theorem dX1_init_166 : decode cX1_init 166 = .ok (.istore 4, 2) := by decide +kernel
theorem dX1_init_168 : decode cX1_init 168 = .ok (.iload 4, 2) := by decide +kernel
theorem dX1_init_170 : decode cX1_init 170 = .ok (.iload_n 1, 1) := by decide +kernel
theorem dX1_init_171 : decode cX1_init 171 = .ok (.if_icmp .ge 16, 3) := by decide +kernel
theorem dX1_init_174 : decode cX1_init 174 = .ok (.aload_n 0, 1) := by decide +kernel
theorem dX1_init_175 : decode cX1_init 175 = .ok (.iload 4, 2) := by decide +kernel
theorem dX1_init_177 : decode cX1_init 177 = .ok (.iload_n 3, 1) := by decide +kernel
theorem dX1_init_178 : decode cX1_init 178 = .ok (.invokevirtual 71, 3) := by decide +kernel
theorem dX1_init_181 : decode cX1_init 181 = .ok (.iinc 4 1, 3) := by decide +kernel
theorem dX1_init_184 : decode cX1_init 184 = .ok (.goto (-16), 3) := by decide +kernel
theorem dX1_init_187 : decode cX1_init 187 = .ok (.iinc 3 1, 3) := by decide +kernel
theorem dX1_init_190 : decode cX1_init 190 = .ok (.goto (-30), 3) := by decide +kernel
theorem dX1_init_193 : decode cX1_init 193 = .ok (.iconst 0, 1) := by decide +kernel
theorem dX1_init_194 : decode cX1_init 194 = .ok (.istore_n 3, 1) := by decide +kernel
theorem dX1_init_195 : decode cX1_init 195 = .ok (.iload_n 3, 1) := by decide +kernel
theorem dX1_init_196 : decode cX1_init 196 = .ok (.iload_n 2, 1) := by decide +kernel
theorem dX1_init_197 : decode cX1_init 197 = .ok (.if_icmp .ge 31, 3) := by decide +kernel
theorem dX1_init_200 : decode cX1_init 200 = .ok (.aload_n 0, 1) := by decide +kernel
theorem dX1_init_201 : decode cX1_init 201 = .ok (.iconst 3, 1) := by decide +kernel
theorem dX1_init_202 : decode cX1_init 202 = .ok (.iload_n 1, 1) := by decide +kernel
theorem dX1_init_203 : decode cX1_init 203 = .ok (.imul, 1) := by decide +kernel
theorem dX1_init_204 : decode cX1_init 204 = .ok (.iload_n 2, 1) := by decide +kernel
theorem dX1_init_205 : decode cX1_init 205 = .ok (.imul, 1) := by decide +kernel
theorem dX1_init_206 : decode cX1_init 206 = .ok (.iload_n 3, 1) := by decide +kernel
theorem dX1_init_207 : decode cX1_init 207 = .ok (.iadd, 1) := by decide +kernel
theorem dX1_init_208 : decode cX1_init 208 = .ok (.iconst 1, 1) := by decide +kernel
theorem dX1_init_209 : decode cX1_init 209 = .ok (.bipush (-9), 2) := by decide +kernel
theorem dX1_init_211 : decode cX1_init 211 = .ok (.aload_n 0, 1) := by decide +kernel
theorem dX1_init_212 : decode cX1_init 212 = .ok (.iload_n 1, 1) := by decide +kernel
theorem dX1_init_213 : decode cX1_init 213 = .ok (.iconst 1, 1) := by decide +kernel
theorem dX1_init_214 : decode cX1_init 214 = .ok (.isub, 1) := by decide +kernel
theorem dX1_init_215 : decode cX1_init 215 = .ok (.iload_n 3, 1) := by decide +kernel
theorem dX1_init_216 : decode cX1_init 216 = .ok (.invokevirtual 75, 3) := by decide +kernel
theorem dX1_init_219 : decode cX1_init 219 = .ok (.invokevirtual 78, 3) := by decide +kernel
theorem dX1_init_222 : decode cX1_init 222 = .ok (.iinc 3 1, 3) := by decide +kernel
theorem dX1_init_225 : decode cX1_init 225 = .ok (.goto (-30), 3) := by decide +kernel
theorem dX1_init_228 : decode cX1_init 228 = .ok (.iconst 0, 1) := by decide +kernel
theorem dX1_init_229 : decode cX1_init 229 = .ok (.istore_n 3, 1) := by decide +kernel
theorem dX1_init_230 : decode cX1_init 230 = .ok (.iload_n 3, 1) := by decide +kernel
theorem dX1_init_231 : decode cX1_init 231 = .ok (.iload_n 1, 1) := by decide +kernel
theorem dX1_init_232 : decode cX1_init 232 = .ok (.if_icmp .ge 33, 3) := by decide +kernel
theorem dX1_init_235 : decode cX1_init 235 = .ok (.aload_n 0, 1) := by decide +kernel
theorem dX1_init_236 : decode cX1_init 236 = .ok (.iconst 3, 1) := by decide +kernel
theorem dX1_init_237 : decode cX1_init 237 = .ok (.iload_n 1, 1) := by decide +kernel
theorem dX1_init_238 : decode cX1_init 238 = .ok (.imul, 1) := by decide +kernel
theorem dX1_init_239 : decode cX1_init 239 = .ok (.iload_n 2, 1) := by decide +kernel
theorem dX1_init_240 : decode cX1_init 240 = .ok (.imul, 1) := by decide +kernel
theorem dX1_init_241 : decode cX1_init 241 = .ok (.iload_n 2, 1) := by decide +kernel
theorem dX1_init_242 : decode cX1_init 242 = .ok (.iadd, 1) := by decide +kernel
theorem dX1_init_243 : decode cX1_init 243 = .ok (.iload_n 3, 1) := by decide +kernel
theorem dX1_init_244 : decode cX1_init 244 = .ok (.iadd, 1) := by decide +kernel
theorem dX1_init_245 : decode cX1_init 245 = .ok (.iconst 0, 1) := by decide +kernel
theorem dX1_init_246 : decode cX1_init 246 = .ok (.bipush (-9), 2) := by decide +kernel
theorem dX1_init_248 : decode cX1_init 248 = .ok (.aload_n 0, 1) := by decide +kernel
theorem dX1_init_249 : decode cX1_init 249 = .ok (.iload_n 3, 1) := by decide +kernel
theorem dX1_init_250 : decode cX1_init 250 = .ok (.iload_n 2, 1) := by decide +kernel
theorem dX1_init_251 : decode cX1_init 251 = .ok (.iconst 1, 1) := by decide +kernel
theorem dX1_init_252 : decode cX1_init 252 = .ok (.isub, 1) := by decide +kernel
theorem dX1_init_253 : decode cX1_init 253 = .ok (.invokevirtual 75, 3) := by decide +kernel
theorem dX1_init_256 : decode cX1_init 256 = .ok (.invokevirtual 78, 3) := by decide +kernel
theorem dX1_init_259 : decode cX1_init 259 = .ok (.iinc 3 1, 3) := by decide +kernel
theorem dX1_init_262 : decode cX1_init 262 = .ok (.goto (-32), 3) := by decide +kernel
theorem dX1_init_265 : decode cX1_init 265 = .ok (.return_, 1) := by decide +kernel
theorem dX1_second_0 : decode cX1_second 0 = .ok (.iconst 2, 1) := by decide +kernel
theorem dX1_second_1 : decode cX1_second 1 = .ok (.aload_n 0, 1) := by decide +kernel
theorem dX1_second_2 : decode cX1_second 2 = .ok (.getfield 55, 3) := by decide +kernel
theorem dX1_second_5 : decode cX1_second 5 = .ok (.iload_n 2, 1) := by decide +kernel
theorem dX1_second_6 : decode cX1_second 6 = .ok (.imul, 1) := by decide +kernel
theorem dX1_second_7 : decode cX1_second 7 = .ok (.iload_n 1, 1) := by decide +kernel
theorem dX1_second_8 : decode cX1_second 8 = .ok (.iadd, 1) := by decide +kernel
theorem dX1_second_9 : decode cX1_second 9 = .ok (.imul, 1) := by decide +kernel
theorem dX1_second_10 : decode cX1_second 10 = .ok (.iconst 1, 1) := by decide +kernel
theorem dX1_second_11 : decode cX1_second 11 = .ok (.iadd, 1) := by decide +kernel
theorem dX1_second_12 : decode cX1_second 12 = .ok (.ireturn, 1) := by decide +kernel
theorem dX1_placeSides_0 : decode cX1_placeSides 0 = .ok (.aload_n 0, 1) := by decide +kernel
theorem dX1_placeSides_1 : decode cX1_placeSides 1 = .ok (.getfield 55, 3) := by decide +kernel
theorem dX1_placeSides_4 : decode cX1_placeSides 4 = .ok (.iload_n 2, 1) := by decide +kernel
theorem dX1_placeSides_5 : decode cX1_placeSides 5 = .ok (.imul, 1) := by decide +kernel
theorem dX1_placeSides_6 : decode cX1_placeSides 6 = .ok (.iload_n 1, 1) := by decide +kernel
theorem dX1_placeSides_7 : decode cX1_placeSides 7 = .ok (.iadd, 1) := by decide +kernel
theorem dX1_placeSides_8 : decode cX1_placeSides 8 = .ok (.istore_n 3, 1) := by decide +kernel
theorem dX1_placeSides_9 : decode cX1_placeSides 9 = .ok (.aload_n 0, 1) := by decide +kernel
theorem dX1_placeSides_10 : decode cX1_placeSides 10 = .ok (.iconst 3, 1) := by decide +kernel
theorem dX1_placeSides_11 : decode cX1_placeSides 11 = .ok (.iload_n 3, 1) := by decide +kernel
theorem dX1_placeSides_12 : decode cX1_placeSides 12 = .ok (.imul, 1) := by decide +kernel
theorem dX1_placeSides_13 : decode cX1_placeSides 13 = .ok (.iconst 2, 1) := by decide +kernel
theorem dX1_placeSides_14 : decode cX1_placeSides 14 = .ok (.iconst 2, 1) := by decide +kernel
theorem dX1_placeSides_15 : decode cX1_placeSides 15 = .ok (.iload_n 3, 1) := by decide +kernel
theorem dX1_placeSides_16 : decode cX1_placeSides 16 = .ok (.imul, 1) := by decide +kernel
theorem dX1_placeSides_17 : decode cX1_placeSides 17 = .ok (.iconst 2, 1) := by decide +kernel
theorem dX1_placeSides_18 : decode cX1_placeSides 18 = .ok (.iload_n 3, 1) := by decide +kernel
theorem dX1_placeSides_19 : decode cX1_placeSides 19 = .ok (.imul, 1) := by decide +kernel
theorem dX1_placeSides_20 : decode cX1_placeSides 20 = .ok (.iconst 1, 1) := by decide +kernel
theorem dX1_placeSides_21 : decode cX1_placeSides 21 = .ok (.iadd, 1) := by decide +kernel
theorem dX1_placeSides_22 : decode cX1_placeSides 22 = .ok (.invokevirtual 78, 3) := by decide +kernel
theorem dX1_placeSides_25 : decode cX1_placeSides 25 = .ok (.aload_n 0, 1) := by decide +kernel
theorem dX1_placeSides_26 : decode cX1_placeSides 26 = .ok (.iconst 3, 1) := by decide +kernel
theorem dX1_placeSides_27 : decode cX1_placeSides 27 = .ok (.iload_n 3, 1) := by decide +kernel
theorem dX1_placeSides_28 : decode cX1_placeSides 28 = .ok (.imul, 1) := by decide +kernel
theorem dX1_placeSides_29 : decode cX1_placeSides 29 = .ok (.iconst 1, 1) := by decide +kernel
theorem dX1_placeSides_30 : decode cX1_placeSides 30 = .ok (.iadd, 1) := by decide +kernel
theorem dX1_placeSides_31 : decode cX1_placeSides 31 = .ok (.iconst 1, 1) := by decide +kernel
theorem dX1_placeSides_32 : decode cX1_placeSides 32 = .ok (.iconst 2, 1) := by decide +kernel
theorem dX1_placeSides_33 : decode cX1_placeSides 33 = .ok (.iload_n 3, 1) := by decide +kernel
theorem dX1_placeSides_34 : decode cX1_placeSides 34 = .ok (.imul, 1) := by decide +kernel
theorem dX1_placeSides_35 : decode cX1_placeSides 35 = .ok (.iload_n 1, 1) := by decide +kernel
theorem dX1_placeSides_36 : decode cX1_placeSides 36 = .ok (.ifCond .ne 8, 3) := by decide +kernel
theorem dX1_placeSides_39 : decode cX1_placeSides 39 = .ok (.bipush (-9), 2) := by decide +kernel
theorem dX1_placeSides_41 : decode cX1_placeSides 41 = .ok (.goto 11, 3) := by decide +kernel
theorem dX1_placeSides_44 : decode cX1_placeSides 44 = .ok (.aload_n 0, 1) := by decide +kernel
theorem dX1_placeSides_45 : decode cX1_placeSides 45 = .ok (.iload_n 1, 1) := by decide +kernel
theorem dX1_placeSides_46 : decode cX1_placeSides 46 = .ok (.iconst 1, 1) := by decide +kernel
theorem dX1_placeSides_47 : decode cX1_placeSides 47 = .ok (.isub, 1) := by decide +kernel
theorem dX1_placeSides_48 : decode cX1_placeSides 48 = .ok (.iload_n 2, 1) := by decide +kernel
theorem dX1_placeSides_49 : decode cX1_placeSides 49 = .ok (.invokevirtual 75, 3) := by decide +kernel
theorem dX1_placeSides_52 : decode cX1_placeSides 52 = .ok (.invokevirtual 78, 3) := by decide +kernel
theorem dX1_placeSides_55 : decode cX1_placeSides 55 = .ok (.aload_n 0, 1) := by decide +kernel
theorem dX1_placeSides_56 : decode cX1_placeSides 56 = .ok (.iconst 3, 1) := by decide +kernel
theorem dX1_placeSides_57 : decode cX1_placeSides 57 = .ok (.iload_n 3, 1) := by decide +kernel
theorem dX1_placeSides_58 : decode cX1_placeSides 58 = .ok (.imul, 1) := by decide +kernel
theorem dX1_placeSides_59 : decode cX1_placeSides 59 = .ok (.iconst 2, 1) := by decide +kernel
theorem dX1_placeSides_60 : decode cX1_placeSides 60 = .ok (.iadd, 1) := by decide +kernel
theorem dX1_placeSides_61 : decode cX1_placeSides 61 = .ok (.iconst 0, 1) := by decide +kernel
theorem dX1_placeSides_62 : decode cX1_placeSides 62 = .ok (.iconst 2, 1) := by decide +kernel
theorem dX1_placeSides_63 : decode cX1_placeSides 63 = .ok (.iload_n 3, 1) := by decide +kernel
theorem dX1_placeSides_64 : decode cX1_placeSides 64 = .ok (.imul, 1) := by decide +kernel
theorem dX1_placeSides_65 : decode cX1_placeSides 65 = .ok (.iload_n 2, 1) := by decide +kernel
theorem dX1_placeSides_66 : decode cX1_placeSides 66 = .ok (.ifCond .ne 8, 3) := by decide +kernel
theorem dX1_placeSides_69 : decode cX1_placeSides 69 = .ok (.bipush (-9), 2) := by decide +kernel
theorem dX1_placeSides_71 : decode cX1_placeSides 71 = .ok (.goto 11, 3) := by decide +kernel
theorem dX1_placeSides_74 : decode cX1_placeSides 74 = .ok (.aload_n 0, 1) := by decide +kernel
theorem dX1_placeSides_75 : decode cX1_placeSides 75 = .ok (.iload_n 1, 1) := by decide +kernel
theorem dX1_placeSides_76 : decode cX1_placeSides 76 = .ok (.iload_n 2, 1) := by decide +kernel
theorem dX1_placeSides_77 : decode cX1_placeSides 77 = .ok (.iconst 1, 1) := by decide +kernel
theorem dX1_placeSides_78 : decode cX1_placeSides 78 = .ok (.isub, 1) := by decide +kernel
theorem dX1_placeSides_79 : decode cX1_placeSides 79 = .ok (.invokevirtual 75, 3) := by decide +kernel
theorem dX1_placeSides_82 : decode cX1_placeSides 82 = .ok (.invokevirtual 78, 3) := by decide +kernel
theorem dX1_placeSides_85 : decode cX1_placeSides 85 = .ok (.return_, 1) := by decide +kernel
theorem dX1_place_0 : decode cX1_place 0 = .ok (.aload_n 0, 1) := by decide +kernel
theorem dX1_place_1 : decode cX1_place 1 = .ok (.getfield 18, 3) := by decide +kernel
theorem dX1_place_4 : decode cX1_place 4 = .ok (.iload_n 1, 1) := by decide +kernel
theorem dX1_place_5 : decode cX1_place 5 = .ok (.iload_n 2, 1) := by decide +kernel
theorem dX1_place_6 : decode cX1_place 6 = .ok (.iastore, 1) := by decide +kernel
theorem dX1_place_7 : decode cX1_place 7 = .ok (.aload_n 0, 1) := by decide +kernel
theorem dX1_place_8 : decode cX1_place 8 = .ok (.getfield 21, 3) := by decide +kernel
theorem dX1_place_11 : decode cX1_place 11 = .ok (.iload_n 1, 1) := by decide +kernel
theorem dX1_place_12 : decode cX1_place 12 = .ok (.iload_n 3, 1) := by decide +kernel
theorem dX1_place_13 : decode cX1_place 13 = .ok (.iastore, 1) := by decide +kernel
theorem dX1_place_14 : decode cX1_place 14 = .ok (.aload_n 0, 1) := by decide +kernel
theorem dX1_place_15 : decode cX1_place 15 = .ok (.getfield 24, 3) := by decide +kernel
theorem dX1_place_18 : decode cX1_place 18 = .ok (.iload_n 1, 1) := by decide +kernel
theorem dX1_place_19 : decode cX1_place 19 = .ok (.iload 4, 2) := by decide +kernel
theorem dX1_place_21 : decode cX1_place 21 = .ok (.iastore, 1) := by decide +kernel
theorem dX1_place_22 : decode cX1_place 22 = .ok (.iload_n 3, 1) := by decide +kernel
theorem dX1_place_23 : decode cX1_place 23 = .ok (.bipush (-9), 2) := by decide +kernel
theorem dX1_place_25 : decode cX1_place 25 = .ok (.if_icmp .eq 14, 3) := by decide +kernel
theorem dX1_place_28 : decode cX1_place 28 = .ok (.aload_n 0, 1) := by decide +kernel
theorem dX1_place_29 : decode cX1_place 29 = .ok (.getfield 40, 3) := by decide +kernel
theorem dX1_place_32 : decode cX1_place 32 = .ok (.iconst 3, 1) := by decide +kernel
theorem dX1_place_33 : decode cX1_place 33 = .ok (.iload_n 3, 1) := by decide +kernel
theorem dX1_place_34 : decode cX1_place 34 = .ok (.imul, 1) := by decide +kernel
theorem dX1_place_35 : decode cX1_place 35 = .ok (.iload_n 2, 1) := by decide +kernel
theorem dX1_place_36 : decode cX1_place 36 = .ok (.iadd, 1) := by decide +kernel
theorem dX1_place_37 : decode cX1_place 37 = .ok (.iload_n 1, 1) := by decide +kernel
theorem dX1_place_38 : decode cX1_place 38 = .ok (.iastore, 1) := by decide +kernel
theorem dX1_place_39 : decode cX1_place 39 = .ok (.iload 4, 2) := by decide +kernel
theorem dX1_place_41 : decode cX1_place 41 = .ok (.bipush (-9), 2) := by decide +kernel
theorem dX1_place_43 : decode cX1_place 43 = .ok (.if_icmp .eq 15, 3) := by decide +kernel
theorem dX1_place_46 : decode cX1_place 46 = .ok (.aload_n 0, 1) := by decide +kernel
theorem dX1_place_47 : decode cX1_place 47 = .ok (.getfield 40, 3) := by decide +kernel
theorem dX1_place_50 : decode cX1_place 50 = .ok (.iconst 3, 1) := by decide +kernel
theorem dX1_place_51 : decode cX1_place 51 = .ok (.iload 4, 2) := by decide +kernel
theorem dX1_place_53 : decode cX1_place 53 = .ok (.imul, 1) := by decide +kernel
theorem dX1_place_54 : decode cX1_place 54 = .ok (.iload_n 2, 1) := by decide +kernel
theorem dX1_place_55 : decode cX1_place 55 = .ok (.iadd, 1) := by decide +kernel
theorem dX1_place_56 : decode cX1_place 56 = .ok (.iload_n 1, 1) := by decide +kernel
theorem dX1_place_57 : decode cX1_place 57 = .ok (.iastore, 1) := by decide +kernel
theorem dX1_place_58 : decode cX1_place 58 = .ok (.return_, 1) := by decide +kernel
theorem dX1_hasRoom_0 : decode cX1_hasRoom 0 = .ok (.iload_n 1, 1) := by decide +kernel
theorem dX1_hasRoom_1 : decode cX1_hasRoom 1 = .ok (.iconst 0, 1) := by decide +kernel
theorem dX1_hasRoom_2 : decode cX1_hasRoom 2 = .ok (.aload_n 0, 1) := by decide +kernel
theorem dX1_hasRoom_3 : decode cX1_hasRoom 3 = .ok (.getfield 61, 3) := by decide +kernel
theorem dX1_hasRoom_6 : decode cX1_hasRoom 6 = .ok (.iconst 1, 1) := by decide +kernel
theorem dX1_hasRoom_7 : decode cX1_hasRoom 7 = .ok (.isub, 1) := by decide +kernel
theorem dX1_hasRoom_8 : decode cX1_hasRoom 8 = .ok (.invokestatic 82, 3) := by decide +kernel
theorem dX1_hasRoom_11 : decode cX1_hasRoom 11 = .ok (.ireturn, 1) := by decide +kernel
theorem dX1_hasSide_0 : decode cX1_hasSide 0 = .ok (.iload_n 1, 1) := by decide +kernel
theorem dX1_hasSide_1 : decode cX1_hasSide 1 = .ok (.iconst 0, 1) := by decide +kernel
theorem dX1_hasSide_2 : decode cX1_hasSide 2 = .ok (.aload_n 0, 1) := by decide +kernel
theorem dX1_hasSide_3 : decode cX1_hasSide 3 = .ok (.getfield 68, 3) := by decide +kernel
theorem dX1_hasSide_6 : decode cX1_hasSide 6 = .ok (.iconst 1, 1) := by decide +kernel
theorem dX1_hasSide_7 : decode cX1_hasSide 7 = .ok (.isub, 1) := by decide +kernel
theorem dX1_hasSide_8 : decode cX1_hasSide 8 = .ok (.invokestatic 82, 3) := by decide +kernel
theorem dX1_hasSide_11 : decode cX1_hasSide 11 = .ok (.ireturn, 1) := by decide +kernel
theorem dX1_allRooms_0 : decode cX1_allRooms 0 = .ok (.iconst 1, 1) := by decide +kernel
theorem dX1_allRooms_1 : decode cX1_allRooms 1 = .ok (.aload_n 0, 1) := by decide +kernel
theorem dX1_allRooms_2 : decode cX1_allRooms 2 = .ok (.getfield 61, 3) := by decide +kernel
theorem dX1_allRooms_5 : decode cX1_allRooms 5 = .ok (.ishl, 1) := by decide +kernel
theorem dX1_allRooms_6 : decode cX1_allRooms 6 = .ok (.iconst 1, 1) := by decide +kernel
theorem dX1_allRooms_7 : decode cX1_allRooms 7 = .ok (.isub, 1) := by decide +kernel
theorem dX1_allRooms_8 : decode cX1_allRooms 8 = .ok (.ireturn, 1) := by decide +kernel
theorem dX1_sideOf_0 : decode cX1_sideOf 0 = .ok (.aload_n 0, 1) := by decide +kernel
theorem dX1_sideOf_1 : decode cX1_sideOf 1 = .ok (.getfield 40, 3) := by decide +kernel
theorem dX1_sideOf_4 : decode cX1_sideOf 4 = .ok (.iconst 3, 1) := by decide +kernel
theorem dX1_sideOf_5 : decode cX1_sideOf 5 = .ok (.iload_n 1, 1) := by decide +kernel
theorem dX1_sideOf_6 : decode cX1_sideOf 6 = .ok (.imul, 1) := by decide +kernel
theorem dX1_sideOf_7 : decode cX1_sideOf 7 = .ok (.iload_n 2, 1) := by decide +kernel
theorem dX1_sideOf_8 : decode cX1_sideOf 8 = .ok (.iadd, 1) := by decide +kernel
theorem dX1_sideOf_9 : decode cX1_sideOf 9 = .ok (.iaload, 1) := by decide +kernel
theorem dX1_sideOf_10 : decode cX1_sideOf 10 = .ok (.ireturn, 1) := by decide +kernel
theorem dX1_behind_0 : decode cX1_behind 0 = .ok (.aload_n 0, 1) := by decide +kernel
theorem dX1_behind_1 : decode cX1_behind 1 = .ok (.iload_n 1, 1) := by decide +kernel
theorem dX1_behind_2 : decode cX1_behind 2 = .ok (.iload_n 2, 1) := by decide +kernel
theorem dX1_behind_3 : decode cX1_behind 3 = .ok (.invokevirtual 86, 3) := by decide +kernel
theorem dX1_behind_6 : decode cX1_behind 6 = .ok (.istore_n 3, 1) := by decide +kernel
theorem dX1_behind_7 : decode cX1_behind 7 = .ok (.iload_n 1, 1) := by decide +kernel
theorem dX1_behind_8 : decode cX1_behind 8 = .ok (.iconst 2, 1) := by decide +kernel
theorem dX1_behind_9 : decode cX1_behind 9 = .ok (.irem, 1) := by decide +kernel
theorem dX1_behind_10 : decode cX1_behind 10 = .ok (.ifCond .ne 12, 3) := by decide +kernel
theorem dX1_behind_13 : decode cX1_behind 13 = .ok (.aload_n 0, 1) := by decide +kernel
theorem dX1_behind_14 : decode cX1_behind 14 = .ok (.getfield 24, 3) := by decide +kernel
theorem dX1_behind_17 : decode cX1_behind 17 = .ok (.iload_n 3, 1) := by decide +kernel
theorem dX1_behind_18 : decode cX1_behind 18 = .ok (.iaload, 1) := by decide +kernel
theorem dX1_behind_19 : decode cX1_behind 19 = .ok (.goto 9, 3) := by decide +kernel
theorem dX1_behind_22 : decode cX1_behind 22 = .ok (.aload_n 0, 1) := by decide +kernel
theorem dX1_behind_23 : decode cX1_behind 23 = .ok (.getfield 21, 3) := by decide +kernel
theorem dX1_behind_26 : decode cX1_behind 26 = .ok (.iload_n 3, 1) := by decide +kernel
theorem dX1_behind_27 : decode cX1_behind 27 = .ok (.iaload, 1) := by decide +kernel
theorem dX1_behind_28 : decode cX1_behind 28 = .ok (.ireturn, 1) := by decide +kernel
theorem dX1_become_0 : decode cX1_become 0 = .ok (.aload_n 0, 1) := by decide +kernel
theorem dX1_become_1 : decode cX1_become 1 = .ok (.getfield 9, 3) := by decide +kernel
theorem dX1_become_4 : decode cX1_become 4 = .ok (.iload_n 1, 1) := by decide +kernel
theorem dX1_become_5 : decode cX1_become 5 = .ok (.iaload, 1) := by decide +kernel
theorem dX1_become_6 : decode cX1_become 6 = .ok (.istore_n 3, 1) := by decide +kernel
theorem dX1_become_7 : decode cX1_become 7 = .ok (.aload_n 0, 1) := by decide +kernel
theorem dX1_become_8 : decode cX1_become 8 = .ok (.getfield 9, 3) := by decide +kernel
theorem dX1_become_11 : decode cX1_become 11 = .ok (.iload_n 1, 1) := by decide +kernel
theorem dX1_become_12 : decode cX1_become 12 = .ok (.iload_n 2, 1) := by decide +kernel
theorem dX1_become_13 : decode cX1_become 13 = .ok (.iastore, 1) := by decide +kernel
theorem dX1_become_14 : decode cX1_become 14 = .ok (.iload_n 3, 1) := by decide +kernel
theorem dX1_become_15 : decode cX1_become 15 = .ok (.iload_n 2, 1) := by decide +kernel
theorem dX1_become_16 : decode cX1_become 16 = .ok (.if_icmp .eq 10, 3) := by decide +kernel
theorem dX1_become_19 : decode cX1_become 19 = .ok (.aload_n 0, 1) := by decide +kernel
theorem dX1_become_20 : decode cX1_become 20 = .ok (.getfield 15, 3) := by decide +kernel
theorem dX1_become_23 : decode cX1_become 23 = .ok (.iload_n 1, 1) := by decide +kernel
theorem dX1_become_24 : decode cX1_become 24 = .ok (.iconst 0, 1) := by decide +kernel
theorem dX1_become_25 : decode cX1_become 25 = .ok (.iastore, 1) := by decide +kernel
theorem dX1_become_26 : decode cX1_become 26 = .ok (.iload_n 3, 1) := by decide +kernel
theorem dX1_become_27 : decode cX1_become 27 = .ok (.ireturn, 1) := by decide +kernel
theorem dX2_init_0 : decode cX2_init 0 = .ok (.aload_n 0, 1) := by decide +kernel
theorem dX2_init_1 : decode cX2_init 1 = .ok (.invokespecial 1, 3) := by decide +kernel
theorem dX2_init_4 : decode cX2_init 4 = .ok (.aload_n 0, 1) := by decide +kernel
theorem dX2_init_5 : decode cX2_init 5 = .ok (.iload_n 1, 1) := by decide +kernel
theorem dX2_init_6 : decode cX2_init 6 = .ok (.putfield 7, 3) := by decide +kernel
theorem dX2_init_9 : decode cX2_init 9 = .ok (.aload_n 0, 1) := by decide +kernel
theorem dX2_init_10 : decode cX2_init 10 = .ok (.iload_n 2, 1) := by decide +kernel
theorem dX2_init_11 : decode cX2_init 11 = .ok (.putfield 13, 3) := by decide +kernel
theorem dX2_init_14 : decode cX2_init 14 = .ok (.aload_n 0, 1) := by decide +kernel
theorem dX2_init_15 : decode cX2_init 15 = .ok (.iload_n 3, 1) := by decide +kernel
theorem dX2_init_16 : decode cX2_init 16 = .ok (.putfield 16, 3) := by decide +kernel
theorem dX2_init_19 : decode cX2_init 19 = .ok (.aload_n 0, 1) := by decide +kernel
theorem dX2_init_20 : decode cX2_init 20 = .ok (.iload 4, 2) := by decide +kernel
theorem dX2_init_22 : decode cX2_init 22 = .ok (.putfield 19, 3) := by decide +kernel
theorem dX2_init_25 : decode cX2_init 25 = .ok (.aload_n 0, 1) := by decide +kernel
theorem dX2_init_26 : decode cX2_init 26 = .ok (.iload 5, 2) := by decide +kernel
theorem dX2_init_28 : decode cX2_init 28 = .ok (.putfield 22, 3) := by decide +kernel
theorem dX2_init_31 : decode cX2_init 31 = .ok (.return_, 1) := by decide +kernel
theorem dX3_init_0 : decode cX3_init 0 = .ok (.aload_n 0, 1) := by decide +kernel
theorem dX3_init_1 : decode cX3_init 1 = .ok (.invokespecial 3, 3) := by decide +kernel
theorem dX3_init_4 : decode cX3_init 4 = .ok (.aload_n 0, 1) := by decide +kernel
theorem dX3_init_5 : decode cX3_init 5 = .ok (.bipush 60, 2) := by decide +kernel
theorem dX3_init_7 : decode cX3_init 7 = .ok (.newarray .int, 2) := by decide +kernel
theorem dX3_init_9 : decode cX3_init 9 = .ok (.putfield 9, 3) := by decide +kernel
theorem dX3_init_12 : decode cX3_init 12 = .ok (.aload_n 0, 1) := by decide +kernel
theorem dX3_init_13 : decode cX3_init 13 = .ok (.bipush (-9), 2) := by decide +kernel
theorem dX3_init_15 : decode cX3_init 15 = .ok (.putfield 15, 3) := by decide +kernel
theorem dX3_init_18 : decode cX3_init 18 = .ok (.aload_n 0, 1) := by decide +kernel
theorem dX3_init_19 : decode cX3_init 19 = .ok (.iconst 0, 1) := by decide +kernel
theorem dX3_init_20 : decode cX3_init 20 = .ok (.putfield 19, 3) := by decide +kernel
theorem dX3_init_23 : decode cX3_init 23 = .ok (.return_, 1) := by decide +kernel
theorem dX3_renew_0 : decode cX3_renew 0 = .ok (.aload_n 0, 1) := by decide +kernel
theorem dX3_renew_1 : decode cX3_renew 1 = .ok (.iload_n 1, 1) := by decide +kernel
theorem dX3_renew_2 : decode cX3_renew 2 = .ok (.putfield 15, 3) := by decide +kernel
theorem dX3_renew_5 : decode cX3_renew 5 = .ok (.aload_n 0, 1) := by decide +kernel
theorem dX3_renew_6 : decode cX3_renew 6 = .ok (.iload_n 2, 1) := by decide +kernel
theorem dX3_renew_7 : decode cX3_renew 7 = .ok (.putfield 19, 3) := by decide +kernel
theorem dX3_renew_10 : decode cX3_renew 10 = .ok (.aload_n 0, 1) := by decide +kernel
theorem dX3_renew_11 : decode cX3_renew 11 = .ok (.getfield 9, 3) := by decide +kernel
theorem dX3_renew_14 : decode cX3_renew 14 = .ok (.iconst 0, 1) := by decide +kernel
theorem dX3_renew_15 : decode cX3_renew 15 = .ok (.invokestatic 22, 3) := by decide +kernel
theorem dX3_renew_18 : decode cX3_renew 18 = .ok (.return_, 1) := by decide +kernel
theorem dX3_isNothing_0 : decode cX3_isNothing 0 = .ok (.aload_n 0, 1) := by decide +kernel
theorem dX3_isNothing_1 : decode cX3_isNothing 1 = .ok (.getfield 15, 3) := by decide +kernel
theorem dX3_isNothing_4 : decode cX3_isNothing 4 = .ok (.bipush (-9), 2) := by decide +kernel
theorem dX3_isNothing_6 : decode cX3_isNothing 6 = .ok (.if_icmp .ne 7, 3) := by decide +kernel
theorem dX3_isNothing_9 : decode cX3_isNothing 9 = .ok (.iconst 1, 1) := by decide +kernel
theorem dX3_isNothing_10 : decode cX3_isNothing 10 = .ok (.goto 4, 3) := by decide +kernel
theorem dX3_isNothing_13 : decode cX3_isNothing 13 = .ok (.iconst 0, 1) := by decide +kernel
theorem dX3_isNothing_14 : decode cX3_isNothing 14 = .ok (.ireturn, 1) := by decide +kernel
theorem dX3_canBe_0 : decode cX3_canBe 0 = .ok (.aload_n 0, 1) := by decide +kernel
theorem dX3_canBe_1 : decode cX3_canBe 1 = .ok (.invokevirtual 28, 3) := by decide +kernel
theorem dX3_canBe_4 : decode cX3_canBe 4 = .ok (.ifCond .ne 11, 3) := by decide +kernel
theorem dX3_canBe_7 : decode cX3_canBe 7 = .ok (.aload_n 0, 1) := by decide +kernel
theorem dX3_canBe_8 : decode cX3_canBe 8 = .ok (.getfield 15, 3) := by decide +kernel
theorem dX3_canBe_11 : decode cX3_canBe 11 = .ok (.iload_n 1, 1) := by decide +kernel
theorem dX3_canBe_12 : decode cX3_canBe 12 = .ok (.if_icmp .ne 7, 3) := by decide +kernel
theorem dX3_canBe_15 : decode cX3_canBe 15 = .ok (.iconst 1, 1) := by decide +kernel
theorem dX3_canBe_16 : decode cX3_canBe 16 = .ok (.goto 4, 3) := by decide +kernel
theorem dX3_canBe_19 : decode cX3_canBe 19 = .ok (.iconst 0, 1) := by decide +kernel
theorem dX3_canBe_20 : decode cX3_canBe 20 = .ok (.ireturn, 1) := by decide +kernel
theorem dX3_hasCells_0 : decode cX3_hasCells 0 = .ok (.iload_n 1, 1) := by decide +kernel
theorem dX3_hasCells_1 : decode cX3_hasCells 1 = .ok (.ifCond .lt 25, 3) := by decide +kernel
theorem dX3_hasCells_4 : decode cX3_hasCells 4 = .ok (.iload_n 1, 1) := by decide +kernel
theorem dX3_hasCells_5 : decode cX3_hasCells 5 = .ok (.aload_n 0, 1) := by decide +kernel
theorem dX3_hasCells_6 : decode cX3_hasCells 6 = .ok (.getfield 19, 3) := by decide +kernel
theorem dX3_hasCells_9 : decode cX3_hasCells 9 = .ok (.if_icmp .gt 17, 3) := by decide +kernel
theorem dX3_hasCells_12 : decode cX3_hasCells 12 = .ok (.iload_n 2, 1) := by decide +kernel
theorem dX3_hasCells_13 : decode cX3_hasCells 13 = .ok (.aload_n 0, 1) := by decide +kernel
theorem dX3_hasCells_14 : decode cX3_hasCells 14 = .ok (.getfield 19, 3) := by decide +kernel
theorem dX3_hasCells_17 : decode cX3_hasCells 17 = .ok (.iload_n 1, 1) := by decide +kernel
theorem dX3_hasCells_18 : decode cX3_hasCells 18 = .ok (.isub, 1) := by decide +kernel
theorem dX3_hasCells_19 : decode cX3_hasCells 19 = .ok (.if_icmp .gt 7, 3) := by decide +kernel
theorem dX3_hasCells_22 : decode cX3_hasCells 22 = .ok (.iconst 1, 1) := by decide +kernel
theorem dX3_hasCells_23 : decode cX3_hasCells 23 = .ok (.goto 4, 3) := by decide +kernel
theorem dX3_hasCells_26 : decode cX3_hasCells 26 = .ok (.iconst 0, 1) := by decide +kernel
theorem dX3_hasCells_27 : decode cX3_hasCells 27 = .ok (.ireturn, 1) := by decide +kernel
theorem dX3_cut_0 : decode cX3_cut 0 = .ok (.aload_n 0, 1) := by decide +kernel
theorem dX3_cut_1 : decode cX3_cut 1 = .ok (.getfield 15, 3) := by decide +kernel
theorem dX3_cut_4 : decode cX3_cut 4 = .ok (.ifCond .ne 6, 3) := by decide +kernel
theorem dX3_cut_7 : decode cX3_cut 7 = .ok (.iload_n 1, 1) := by decide +kernel
theorem dX3_cut_8 : decode cX3_cut 8 = .ok (.i2b, 1) := by decide +kernel
theorem dX3_cut_9 : decode cX3_cut 9 = .ok (.ireturn, 1) := by decide +kernel
theorem dX3_cut_10 : decode cX3_cut 10 = .ok (.aload_n 0, 1) := by decide +kernel
theorem dX3_cut_11 : decode cX3_cut 11 = .ok (.getfield 15, 3) := by decide +kernel
theorem dX3_cut_14 : decode cX3_cut 14 = .ok (.iconst 1, 1) := by decide +kernel
theorem dX3_cut_15 : decode cX3_cut 15 = .ok (.if_icmp .ne 8, 3) := by decide +kernel
theorem dX3_cut_18 : decode cX3_cut 18 = .ok (.iload_n 1, 1) := by decide +kernel
theorem dX3_cut_19 : decode cX3_cut 19 = .ok (.i2s, 1) := by decide +kernel
theorem dX3_cut_20 : decode cX3_cut 20 = .ok (.goto 4, 3) := by decide +kernel
theorem dX3_cut_23 : decode cX3_cut 23 = .ok (.iload_n 1, 1) := by decide +kernel
theorem dX3_cut_24 : decode cX3_cut 24 = .ok (.ireturn, 1) := by decide +kernel
theorem dX3_faultOfRow_0 : decode cX3_faultOfRow 0 = .ok (.aload_n 0, 1) := by decide +kernel
theorem dX3_faultOfRow_1 : decode cX3_faultOfRow 1 = .ok (.iload_n 1, 1) := by decide +kernel
theorem dX3_faultOfRow_2 : decode cX3_faultOfRow 2 = .ok (.invokevirtual 32, 3) := by decide +kernel
theorem dX3_faultOfRow_5 : decode cX3_faultOfRow 5 = .ok (.ifCond .ne 5, 3) := by decide +kernel
theorem dX3_faultOfRow_8 : decode cX3_faultOfRow 8 = .ok (.iconst 2, 1) := by decide +kernel
theorem dX3_faultOfRow_9 : decode cX3_faultOfRow 9 = .ok (.ireturn, 1) := by decide +kernel
theorem dX3_faultOfRow_10 : decode cX3_faultOfRow 10 = .ok (.aload_n 0, 1) := by decide +kernel
theorem dX3_faultOfRow_11 : decode cX3_faultOfRow 11 = .ok (.invokevirtual 28, 3) := by decide +kernel
theorem dX3_faultOfRow_14 : decode cX3_faultOfRow 14 = .ok (.ifCond .eq 5, 3) := by decide +kernel
theorem dX3_faultOfRow_17 : decode cX3_faultOfRow 17 = .ok (.iconst 1, 1) := by decide +kernel
theorem dX3_faultOfRow_18 : decode cX3_faultOfRow 18 = .ok (.ireturn, 1) := by decide +kernel
theorem dX3_faultOfRow_19 : decode cX3_faultOfRow 19 = .ok (.iload_n 3, 1) := by decide +kernel
theorem dX3_faultOfRow_20 : decode cX3_faultOfRow 20 = .ok (.ifCond .ge 5, 3) := by decide +kernel
theorem dX3_faultOfRow_23 : decode cX3_faultOfRow 23 = .ok (.iconst 4, 1) := by decide +kernel
theorem dX3_faultOfRow_24 : decode cX3_faultOfRow 24 = .ok (.ireturn, 1) := by decide +kernel
theorem dX3_faultOfRow_25 : decode cX3_faultOfRow 25 = .ok (.aload_n 0, 1) := by decide +kernel
theorem dX3_faultOfRow_26 : decode cX3_faultOfRow 26 = .ok (.iload_n 2, 1) := by decide +kernel
theorem dX3_faultOfRow_27 : decode cX3_faultOfRow 27 = .ok (.iload_n 3, 1) := by decide +kernel
theorem dX3_faultOfRow_28 : decode cX3_faultOfRow 28 = .ok (.invokevirtual 36, 3) := by decide +kernel
theorem dX3_faultOfRow_31 : decode cX3_faultOfRow 31 = .ok (.ifCond .eq 7, 3) := by decide +kernel
theorem dX3_faultOfRow_34 : decode cX3_faultOfRow 34 = .ok (.iconst 0, 1) := by decide +kernel
theorem dX3_faultOfRow_35 : decode cX3_faultOfRow 35 = .ok (.goto 4, 3) := by decide +kernel
theorem dX3_faultOfRow_38 : decode cX3_faultOfRow 38 = .ok (.iconst 3, 1) := by decide +kernel
theorem dX3_faultOfRow_39 : decode cX3_faultOfRow 39 = .ok (.ireturn, 1) := by decide +kernel
theorem dX4_init_0 : decode cX4_init 0 = .ok (.aload_n 0, 1) := by decide +kernel
theorem dX4_init_1 : decode cX4_init 1 = .ok (.invokespecial 3, 3) := by decide +kernel
theorem dX4_init_4 : decode cX4_init 4 = .ok (.aload_n 0, 1) := by decide +kernel
theorem dX4_init_5 : decode cX4_init 5 = .ok (.iconst 3, 1) := by decide +kernel
theorem dX4_init_6 : decode cX4_init 6 = .ok (.newarray .int, 2) := by decide +kernel
theorem dX4_init_8 : decode cX4_init 8 = .ok (.putfield 9, 3) := by decide +kernel
theorem dX4_init_11 : decode cX4_init 11 = .ok (.aload_n 0, 1) := by decide +kernel
theorem dX4_init_12 : decode cX4_init 12 = .ok (.iconst 3, 1) := by decide +kernel
theorem dX4_init_13 : decode cX4_init 13 = .ok (.newarray .int, 2) := by decide +kernel
theorem dX4_init_15 : decode cX4_init 15 = .ok (.putfield 15, 3) := by decide +kernel
theorem dX4_init_18 : decode cX4_init 18 = .ok (.aload_n 0, 1) := by decide +kernel
theorem dX4_init_19 : decode cX4_init 19 = .ok (.iconst 3, 1) := by decide +kernel
theorem dX4_init_20 : decode cX4_init 20 = .ok (.newarray .int, 2) := by decide +kernel
theorem dX4_init_22 : decode cX4_init 22 = .ok (.putfield 18, 3) := by decide +kernel
theorem dX4_init_25 : decode cX4_init 25 = .ok (.return_, 1) := by decide +kernel
theorem dX4_look_0 : decode cX4_look 0 = .ok (.aload_n 0, 1) := by decide +kernel
theorem dX4_look_1 : decode cX4_look 1 = .ok (.iload_n 2, 1) := by decide +kernel
theorem dX4_look_2 : decode cX4_look 2 = .ok (.iload_n 3, 1) := by decide +kernel
theorem dX4_look_3 : decode cX4_look 3 = .ok (.iload 4, 2) := by decide +kernel
theorem dX4_look_5 : decode cX4_look 5 = .ok (.invokevirtual 21, 3) := by decide +kernel
theorem dX4_look_8 : decode cX4_look 8 = .ok (.iconst 0, 1) := by decide +kernel
theorem dX4_look_9 : decode cX4_look 9 = .ok (.istore 6, 2) := by decide +kernel
theorem dX4_look_11 : decode cX4_look 11 = .ok (.iload 6, 2) := by decide +kernel
theorem dX4_look_13 : decode cX4_look 13 = .ok (.iload 5, 2) := by decide +kernel
theorem dX4_look_15 : decode cX4_look 15 = .ok (.if_icmp .ge 22, 3) := by decide +kernel
theorem dX4_look_18 : decode cX4_look 18 = .ok (.aload_n 0, 1) := by decide +kernel
theorem dX4_look_19 : decode cX4_look 19 = .ok (.getfield 25, 3) := by decide +kernel
theorem dX4_look_22 : decode cX4_look 22 = .ok (.iconst 2, 1) := by decide +kernel
theorem dX4_look_23 : decode cX4_look 23 = .ok (.if_icmp .ne 14, 3) := by decide +kernel
theorem dX4_look_26 : decode cX4_look 26 = .ok (.aload_n 0, 1) := by decide +kernel
theorem dX4_look_27 : decode cX4_look 27 = .ok (.aload_n 1, 1) := by decide +kernel
theorem dX4_look_28 : decode cX4_look 28 = .ok (.invokevirtual 29, 3) := by decide +kernel
theorem dX4_look_31 : decode cX4_look 31 = .ok (.iinc 6 1, 3) := by decide +kernel
theorem dX4_look_34 : decode cX4_look 34 = .ok (.goto (-23), 3) := by decide +kernel
theorem dX4_look_37 : decode cX4_look 37 = .ok (.return_, 1) := by decide +kernel
theorem dX4_setOut_0 : decode cX4_setOut 0 = .ok (.aload_n 0, 1) := by decide +kernel
theorem dX4_setOut_1 : decode cX4_setOut 1 = .ok (.iconst 2, 1) := by decide +kernel
theorem dX4_setOut_2 : decode cX4_setOut 2 = .ok (.putfield 25, 3) := by decide +kernel
theorem dX4_setOut_5 : decode cX4_setOut 5 = .ok (.aload_n 0, 1) := by decide +kernel
theorem dX4_setOut_6 : decode cX4_setOut 6 = .ok (.iconst 0, 1) := by decide +kernel
theorem dX4_setOut_7 : decode cX4_setOut 7 = .ok (.putfield 33, 3) := by decide +kernel
theorem dX4_setOut_10 : decode cX4_setOut 10 = .ok (.aload_n 0, 1) := by decide +kernel
theorem dX4_setOut_11 : decode cX4_setOut 11 = .ok (.iconst 0, 1) := by decide +kernel
theorem dX4_setOut_12 : decode cX4_setOut 12 = .ok (.putfield 36, 3) := by decide +kernel
theorem dX4_setOut_15 : decode cX4_setOut 15 = .ok (.aload_n 0, 1) := by decide +kernel
theorem dX4_setOut_16 : decode cX4_setOut 16 = .ok (.iload_n 1, 1) := by decide +kernel
theorem dX4_setOut_17 : decode cX4_setOut 17 = .ok (.putfield 39, 3) := by decide +kernel
theorem dX4_setOut_20 : decode cX4_setOut 20 = .ok (.aload_n 0, 1) := by decide +kernel
theorem dX4_setOut_21 : decode cX4_setOut 21 = .ok (.bipush (-9), 2) := by decide +kernel
theorem dX4_setOut_23 : decode cX4_setOut 23 = .ok (.putfield 42, 3) := by decide +kernel
theorem dX4_setOut_26 : decode cX4_setOut 26 = .ok (.iload_n 1, 1) := by decide +kernel
theorem dX4_setOut_27 : decode cX4_setOut 27 = .ok (.invokestatic 45, 3) := by decide +kernel
theorem dX4_setOut_30 : decode cX4_setOut 30 = .ok (.istore 4, 2) := by decide +kernel
theorem dX4_setOut_32 : decode cX4_setOut 32 = .ok (.aload_n 0, 1) := by decide +kernel
theorem dX4_setOut_33 : decode cX4_setOut 33 = .ok (.iconst 0, 1) := by decide +kernel
theorem dX4_setOut_34 : decode cX4_setOut 34 = .ok (.iload 4, 2) := by decide +kernel
theorem dX4_setOut_36 : decode cX4_setOut 36 = .ok (.iload_n 3, 1) := by decide +kernel
theorem dX4_setOut_37 : decode cX4_setOut 37 = .ok (.invokevirtual 49, 3) := by decide +kernel
theorem dX4_setOut_40 : decode cX4_setOut 40 = .ok (.aload_n 0, 1) := by decide +kernel
theorem dX4_setOut_41 : decode cX4_setOut 41 = .ok (.iconst 1, 1) := by decide +kernel
theorem dX4_setOut_42 : decode cX4_setOut 42 = .ok (.iload 4, 2) := by decide +kernel
theorem dX4_setOut_44 : decode cX4_setOut 44 = .ok (.iload_n 2, 1) := by decide +kernel
theorem dX4_setOut_45 : decode cX4_setOut 45 = .ok (.invokevirtual 49, 3) := by decide +kernel
theorem dX4_setOut_48 : decode cX4_setOut 48 = .ok (.aload_n 0, 1) := by decide +kernel
theorem dX4_setOut_49 : decode cX4_setOut 49 = .ok (.iconst 2, 1) := by decide +kernel
theorem dX4_setOut_50 : decode cX4_setOut 50 = .ok (.iconst 2, 1) := by decide +kernel
theorem dX4_setOut_51 : decode cX4_setOut 51 = .ok (.iload 4, 2) := by decide +kernel
theorem dX4_setOut_53 : decode cX4_setOut 53 = .ok (.imul, 1) := by decide +kernel
theorem dX4_setOut_54 : decode cX4_setOut 54 = .ok (.iload_n 2, 1) := by decide +kernel
theorem dX4_setOut_55 : decode cX4_setOut 55 = .ok (.iload_n 3, 1) := by decide +kernel
theorem dX4_setOut_56 : decode cX4_setOut 56 = .ok (.iadd, 1) := by decide +kernel
theorem dX4_setOut_57 : decode cX4_setOut 57 = .ok (.invokevirtual 49, 3) := by decide +kernel
theorem dX4_setOut_60 : decode cX4_setOut 60 = .ok (.return_, 1) := by decide +kernel
theorem dX4_thirdsIn_0 : decode cX4_thirdsIn 0 = .ok (.iload_n 0, 1) := by decide +kernel
theorem dX4_thirdsIn_1 : decode cX4_thirdsIn 1 = .ok (.iconst 2, 1) := by decide +kernel
theorem dX4_thirdsIn_2 : decode cX4_thirdsIn 2 = .ok (.irem, 1) := by decide +kernel
theorem dX4_thirdsIn_3 : decode cX4_thirdsIn 3 = .ok (.ifCond .ne 7, 3) := by decide +kernel
theorem dX4_thirdsIn_6 : decode cX4_thirdsIn 6 = .ok (.iconst 1, 1) := by decide +kernel
theorem dX4_thirdsIn_7 : decode cX4_thirdsIn 7 = .ok (.goto 4, 3) := by decide +kernel
theorem dX4_thirdsIn_10 : decode cX4_thirdsIn 10 = .ok (.iconst 2, 1) := by decide +kernel
theorem dX4_thirdsIn_11 : decode cX4_thirdsIn 11 = .ok (.ireturn, 1) := by decide +kernel
theorem dX4_aim_0 : decode cX4_aim 0 = .ok (.iload_n 2, 1) := by decide +kernel
theorem dX4_aim_1 : decode cX4_aim 1 = .ok (.iconst 3, 1) := by decide +kernel
theorem dX4_aim_2 : decode cX4_aim 2 = .ok (.irem, 1) := by decide +kernel
theorem dX4_aim_3 : decode cX4_aim 3 = .ok (.istore 4, 2) := by decide +kernel
theorem dX4_aim_5 : decode cX4_aim 5 = .ok (.aload_n 0, 1) := by decide +kernel
theorem dX4_aim_6 : decode cX4_aim 6 = .ok (.getfield 9, 3) := by decide +kernel
theorem dX4_aim_9 : decode cX4_aim 9 = .ok (.iload_n 1, 1) := by decide +kernel
theorem dX4_aim_10 : decode cX4_aim 10 = .ok (.iload_n 3, 1) := by decide +kernel
theorem dX4_aim_11 : decode cX4_aim 11 = .ok (.ifCond .le 10, 3) := by decide +kernel
theorem dX4_aim_14 : decode cX4_aim 14 = .ok (.iconst 3, 1) := by decide +kernel
theorem dX4_aim_15 : decode cX4_aim 15 = .ok (.iload 4, 2) := by decide +kernel
theorem dX4_aim_17 : decode cX4_aim 17 = .ok (.isub, 1) := by decide +kernel
theorem dX4_aim_18 : decode cX4_aim 18 = .ok (.goto 5, 3) := by decide +kernel
theorem dX4_aim_21 : decode cX4_aim 21 = .ok (.iload 4, 2) := by decide +kernel
theorem dX4_aim_23 : decode cX4_aim 23 = .ok (.iastore, 1) := by decide +kernel
theorem dX4_aim_24 : decode cX4_aim 24 = .ok (.aload_n 0, 1) := by decide +kernel
theorem dX4_aim_25 : decode cX4_aim 25 = .ok (.getfield 15, 3) := by decide +kernel
theorem dX4_aim_28 : decode cX4_aim 28 = .ok (.iload_n 1, 1) := by decide +kernel
theorem dX4_aim_29 : decode cX4_aim 29 = .ok (.iload_n 3, 1) := by decide +kernel
theorem dX4_aim_30 : decode cX4_aim 30 = .ok (.invokestatic 52, 3) := by decide +kernel
theorem dX4_aim_33 : decode cX4_aim 33 = .ok (.iastore, 1) := by decide +kernel
theorem dX4_aim_34 : decode cX4_aim 34 = .ok (.aload_n 0, 1) := by decide +kernel
theorem dX4_aim_35 : decode cX4_aim 35 = .ok (.getfield 18, 3) := by decide +kernel
theorem dX4_aim_38 : decode cX4_aim 38 = .ok (.iload_n 1, 1) := by decide +kernel
theorem dX4_aim_39 : decode cX4_aim 39 = .ok (.iload_n 1, 1) := by decide +kernel
theorem dX4_aim_40 : decode cX4_aim 40 = .ok (.iastore, 1) := by decide +kernel
theorem dX4_aim_41 : decode cX4_aim 41 = .ok (.return_, 1) := by decide +kernel
theorem dX4_goOn_0 : decode cX4_goOn 0 = .ok (.aload_n 0, 1) := by decide +kernel
theorem dX4_goOn_1 : decode cX4_goOn 1 = .ok (.invokevirtual 57, 3) := by decide +kernel
theorem dX4_goOn_4 : decode cX4_goOn 4 = .ok (.istore_n 2, 1) := by decide +kernel
theorem dX4_goOn_5 : decode cX4_goOn 5 = .ok (.iload_n 2, 1) := by decide +kernel
theorem dX4_goOn_6 : decode cX4_goOn 6 = .ok (.bipush (-9), 2) := by decide +kernel
theorem dX4_goOn_8 : decode cX4_goOn 8 = .ok (.if_icmp .ne 9, 3) := by decide +kernel
theorem dX4_goOn_11 : decode cX4_goOn 11 = .ok (.aload_n 0, 1) := by decide +kernel
theorem dX4_goOn_12 : decode cX4_goOn 12 = .ok (.iconst 0, 1) := by decide +kernel
theorem dX4_goOn_13 : decode cX4_goOn 13 = .ok (.putfield 25, 3) := by decide +kernel
theorem dX4_goOn_16 : decode cX4_goOn 16 = .ok (.return_, 1) := by decide +kernel
theorem dX4_goOn_17 : decode cX4_goOn 17 = .ok (.aload_n 0, 1) := by decide +kernel
theorem dX4_goOn_18 : decode cX4_goOn 18 = .ok (.getfield 9, 3) := by decide +kernel
theorem dX4_goOn_21 : decode cX4_goOn 21 = .ok (.iload_n 2, 1) := by decide +kernel
theorem dX4_goOn_22 : decode cX4_goOn 22 = .ok (.dup2, 1) := by decide +kernel
theorem dX4_goOn_23 : decode cX4_goOn 23 = .ok (.iaload, 1) := by decide +kernel
theorem dX4_goOn_24 : decode cX4_goOn 24 = .ok (.iconst 3, 1) := by decide +kernel
theorem dX4_goOn_25 : decode cX4_goOn 25 = .ok (.iadd, 1) := by decide +kernel
theorem dX4_goOn_26 : decode cX4_goOn 26 = .ok (.iastore, 1) := by decide +kernel
theorem dX4_goOn_27 : decode cX4_goOn 27 = .ok (.aload_n 0, 1) := by decide +kernel
theorem dX4_goOn_28 : decode cX4_goOn 28 = .ok (.dup, 1) := by decide +kernel
theorem dX4_goOn_29 : decode cX4_goOn 29 = .ok (.getfield 33, 3) := by decide +kernel
theorem dX4_goOn_32 : decode cX4_goOn 32 = .ok (.iconst 1, 1) := by decide +kernel
theorem dX4_goOn_33 : decode cX4_goOn 33 = .ok (.iadd, 1) := by decide +kernel
theorem dX4_goOn_34 : decode cX4_goOn 34 = .ok (.putfield 33, 3) := by decide +kernel
theorem dX4_goOn_37 : decode cX4_goOn 37 = .ok (.aload_n 0, 1) := by decide +kernel
theorem dX4_goOn_38 : decode cX4_goOn 38 = .ok (.aload_n 1, 1) := by decide +kernel
theorem dX4_goOn_39 : decode cX4_goOn 39 = .ok (.aload_n 0, 1) := by decide +kernel
theorem dX4_goOn_40 : decode cX4_goOn 40 = .ok (.getfield 39, 3) := by decide +kernel
theorem dX4_goOn_43 : decode cX4_goOn 43 = .ok (.aload_n 0, 1) := by decide +kernel
theorem dX4_goOn_44 : decode cX4_goOn 44 = .ok (.getfield 18, 3) := by decide +kernel
theorem dX4_goOn_47 : decode cX4_goOn 47 = .ok (.iload_n 2, 1) := by decide +kernel
theorem dX4_goOn_48 : decode cX4_goOn 48 = .ok (.iaload, 1) := by decide +kernel
theorem dX4_goOn_49 : decode cX4_goOn 49 = .ok (.invokevirtual 61, 3) := by decide +kernel
theorem dX4_goOn_52 : decode cX4_goOn 52 = .ok (.putfield 42, 3) := by decide +kernel
theorem dX4_goOn_55 : decode cX4_goOn 55 = .ok (.aload_n 1, 1) := by decide +kernel
theorem dX4_goOn_56 : decode cX4_goOn 56 = .ok (.getfield 67, 3) := by decide +kernel
theorem dX4_goOn_59 : decode cX4_goOn 59 = .ok (.aload_n 0, 1) := by decide +kernel
theorem dX4_goOn_60 : decode cX4_goOn 60 = .ok (.getfield 42, 3) := by decide +kernel
theorem dX4_goOn_63 : decode cX4_goOn 63 = .ok (.iaload, 1) := by decide +kernel
theorem dX4_goOn_64 : decode cX4_goOn 64 = .ok (.ifCond .ne 19, 3) := by decide +kernel
theorem dX4_goOn_67 : decode cX4_goOn 67 = .ok (.aload_n 0, 1) := by decide +kernel
theorem dX4_goOn_68 : decode cX4_goOn 68 = .ok (.dup, 1) := by decide +kernel
theorem dX4_goOn_69 : decode cX4_goOn 69 = .ok (.getfield 36, 3) := by decide +kernel
theorem dX4_goOn_72 : decode cX4_goOn 72 = .ok (.iconst 1, 1) := by decide +kernel
theorem dX4_goOn_73 : decode cX4_goOn 73 = .ok (.iadd, 1) := by decide +kernel
theorem dX4_goOn_74 : decode cX4_goOn 74 = .ok (.putfield 36, 3) := by decide +kernel
theorem dX4_goOn_77 : decode cX4_goOn 77 = .ok (.aload_n 0, 1) := by decide +kernel
theorem dX4_goOn_78 : decode cX4_goOn 78 = .ok (.iload_n 2, 1) := by decide +kernel
theorem dX4_goOn_79 : decode cX4_goOn 79 = .ok (.invokevirtual 70, 3) := by decide +kernel
theorem dX4_goOn_82 : decode cX4_goOn 82 = .ok (.return_, 1) := by decide +kernel
theorem dX4_goOn_83 : decode cX4_goOn 83 = .ok (.aload_n 1, 1) := by decide +kernel
theorem dX4_goOn_84 : decode cX4_goOn 84 = .ok (.aload_n 0, 1) := by decide +kernel
theorem dX4_goOn_85 : decode cX4_goOn 85 = .ok (.getfield 39, 3) := by decide +kernel
theorem dX4_goOn_88 : decode cX4_goOn 88 = .ok (.aload_n 0, 1) := by decide +kernel
theorem dX4_goOn_89 : decode cX4_goOn 89 = .ok (.getfield 18, 3) := by decide +kernel
theorem dX4_goOn_92 : decode cX4_goOn 92 = .ok (.iload_n 2, 1) := by decide +kernel
theorem dX4_goOn_93 : decode cX4_goOn 93 = .ok (.iaload, 1) := by decide +kernel
theorem dX4_goOn_94 : decode cX4_goOn 94 = .ok (.invokevirtual 74, 3) := by decide +kernel
theorem dX4_goOn_97 : decode cX4_goOn 97 = .ok (.istore_n 3, 1) := by decide +kernel
theorem dX4_goOn_98 : decode cX4_goOn 98 = .ok (.iload_n 3, 1) := by decide +kernel
theorem dX4_goOn_99 : decode cX4_goOn 99 = .ok (.bipush (-9), 2) := by decide +kernel
theorem dX4_goOn_101 : decode cX4_goOn 101 = .ok (.if_icmp .ne 11, 3) := by decide +kernel
theorem dX4_goOn_104 : decode cX4_goOn 104 = .ok (.aload_n 0, 1) := by decide +kernel
theorem dX4_goOn_105 : decode cX4_goOn 105 = .ok (.iconst 1, 1) := by decide +kernel
theorem dX4_goOn_106 : decode cX4_goOn 106 = .ok (.putfield 25, 3) := by decide +kernel
theorem dX4_goOn_109 : decode cX4_goOn 109 = .ok (.goto 8, 3) := by decide +kernel
theorem dX4_goOn_112 : decode cX4_goOn 112 = .ok (.aload_n 0, 1) := by decide +kernel
theorem dX4_goOn_113 : decode cX4_goOn 113 = .ok (.iload_n 3, 1) := by decide +kernel
theorem dX4_goOn_114 : decode cX4_goOn 114 = .ok (.putfield 39, 3) := by decide +kernel
theorem dX4_goOn_117 : decode cX4_goOn 117 = .ok (.return_, 1) := by decide +kernel
theorem dX4_nextWay_0 : decode cX4_nextWay 0 = .ok (.bipush (-9), 2) := by decide +kernel
theorem dX4_nextWay_2 : decode cX4_nextWay 2 = .ok (.istore_n 1, 1) := by decide +kernel
theorem dX4_nextWay_3 : decode cX4_nextWay 3 = .ok (.iconst 0, 1) := by decide +kernel
theorem dX4_nextWay_4 : decode cX4_nextWay 4 = .ok (.istore_n 2, 1) := by decide +kernel
theorem dX4_nextWay_5 : decode cX4_nextWay 5 = .ok (.iconst 0, 1) := by decide +kernel
theorem dX4_nextWay_6 : decode cX4_nextWay 6 = .ok (.istore_n 3, 1) := by decide +kernel
theorem dX4_nextWay_7 : decode cX4_nextWay 7 = .ok (.iload_n 3, 1) := by decide +kernel
theorem dX4_nextWay_8 : decode cX4_nextWay 8 = .ok (.iconst 3, 1) := by decide +kernel
theorem dX4_nextWay_9 : decode cX4_nextWay 9 = .ok (.if_icmp .ge 87, 3) := by decide +kernel
theorem dX4_nextWay_12 : decode cX4_nextWay 12 = .ok (.aload_n 0, 1) := by decide +kernel
theorem dX4_nextWay_13 : decode cX4_nextWay 13 = .ok (.getfield 15, 3) := by decide +kernel
theorem dX4_nextWay_16 : decode cX4_nextWay 16 = .ok (.iload_n 3, 1) := by decide +kernel
theorem dX4_nextWay_17 : decode cX4_nextWay 17 = .ok (.iaload, 1) := by decide +kernel
theorem dX4_nextWay_18 : decode cX4_nextWay 18 = .ok (.ifCond .ne 6, 3) := by decide +kernel
theorem dX4_nextWay_21 : decode cX4_nextWay 21 = .ok (.goto 69, 3) := by decide +kernel
theorem dX4_nextWay_24 : decode cX4_nextWay 24 = .ok (.iload_n 1, 1) := by decide +kernel
theorem dX4_nextWay_25 : decode cX4_nextWay 25 = .ok (.bipush (-9), 2) := by decide +kernel
theorem dX4_nextWay_27 : decode cX4_nextWay 27 = .ok (.if_icmp .ne 7, 3) := by decide +kernel
theorem dX4_nextWay_30 : decode cX4_nextWay 30 = .ok (.iconst (-1), 1) := by decide +kernel
theorem dX4_nextWay_31 : decode cX4_nextWay 31 = .ok (.goto 30, 3) := by decide +kernel
theorem dX4_nextWay_34 : decode cX4_nextWay 34 = .ok (.aload_n 0, 1) := by decide +kernel
theorem dX4_nextWay_35 : decode cX4_nextWay 35 = .ok (.getfield 9, 3) := by decide +kernel
theorem dX4_nextWay_38 : decode cX4_nextWay 38 = .ok (.iload_n 3, 1) := by decide +kernel
theorem dX4_nextWay_39 : decode cX4_nextWay 39 = .ok (.iaload, 1) := by decide +kernel
theorem dX4_nextWay_40 : decode cX4_nextWay 40 = .ok (.aload_n 0, 1) := by decide +kernel
theorem dX4_nextWay_41 : decode cX4_nextWay 41 = .ok (.getfield 15, 3) := by decide +kernel
theorem dX4_nextWay_44 : decode cX4_nextWay 44 = .ok (.iload_n 1, 1) := by decide +kernel
theorem dX4_nextWay_45 : decode cX4_nextWay 45 = .ok (.iaload, 1) := by decide +kernel
theorem dX4_nextWay_46 : decode cX4_nextWay 46 = .ok (.imul, 1) := by decide +kernel
theorem dX4_nextWay_47 : decode cX4_nextWay 47 = .ok (.aload_n 0, 1) := by decide +kernel
theorem dX4_nextWay_48 : decode cX4_nextWay 48 = .ok (.getfield 9, 3) := by decide +kernel
theorem dX4_nextWay_51 : decode cX4_nextWay 51 = .ok (.iload_n 1, 1) := by decide +kernel
theorem dX4_nextWay_52 : decode cX4_nextWay 52 = .ok (.iaload, 1) := by decide +kernel
theorem dX4_nextWay_53 : decode cX4_nextWay 53 = .ok (.aload_n 0, 1) := by decide +kernel
theorem dX4_nextWay_54 : decode cX4_nextWay 54 = .ok (.getfield 15, 3) := by decide +kernel
theorem dX4_nextWay_57 : decode cX4_nextWay 57 = .ok (.iload_n 3, 1) := by decide +kernel
theorem dX4_nextWay_58 : decode cX4_nextWay 58 = .ok (.iaload, 1) := by decide +kernel
theorem dX4_nextWay_59 : decode cX4_nextWay 59 = .ok (.imul, 1) := by decide +kernel
theorem dX4_nextWay_60 : decode cX4_nextWay 60 = .ok (.isub, 1) := by decide +kernel
theorem dX4_nextWay_61 : decode cX4_nextWay 61 = .ok (.istore 4, 2) := by decide +kernel
theorem dX4_nextWay_63 : decode cX4_nextWay 63 = .ok (.iload 4, 2) := by decide +kernel
theorem dX4_nextWay_65 : decode cX4_nextWay 65 = .ok (.ifCond .ge 5, 3) := by decide +kernel
theorem dX4_nextWay_68 : decode cX4_nextWay 68 = .ok (.iload_n 3, 1) := by decide +kernel
theorem dX4_nextWay_69 : decode cX4_nextWay 69 = .ok (.istore_n 1, 1) := by decide +kernel
theorem dX4_nextWay_70 : decode cX4_nextWay 70 = .ok (.iload 4, 2) := by decide +kernel
theorem dX4_nextWay_72 : decode cX4_nextWay 72 = .ok (.ifCond .eq 12, 3) := by decide +kernel
theorem dX4_nextWay_75 : decode cX4_nextWay 75 = .ok (.iload_n 2, 1) := by decide +kernel
theorem dX4_nextWay_76 : decode cX4_nextWay 76 = .ok (.ifCond .eq 12, 3) := by decide +kernel
theorem dX4_nextWay_79 : decode cX4_nextWay 79 = .ok (.iload 4, 2) := by decide +kernel
theorem dX4_nextWay_81 : decode cX4_nextWay 81 = .ok (.ifCond .le 7, 3) := by decide +kernel
theorem dX4_nextWay_84 : decode cX4_nextWay 84 = .ok (.iconst 1, 1) := by decide +kernel
theorem dX4_nextWay_85 : decode cX4_nextWay 85 = .ok (.goto 4, 3) := by decide +kernel
theorem dX4_nextWay_88 : decode cX4_nextWay 88 = .ok (.iconst 0, 1) := by decide +kernel
theorem dX4_nextWay_89 : decode cX4_nextWay 89 = .ok (.istore_n 2, 1) := by decide +kernel
theorem dX4_nextWay_90 : decode cX4_nextWay 90 = .ok (.iinc 3 1, 3) := by decide +kernel
theorem dX4_nextWay_93 : decode cX4_nextWay 93 = .ok (.goto (-86), 3) := by decide +kernel
theorem dX4_nextWay_96 : decode cX4_nextWay 96 = .ok (.iload_n 2, 1) := by decide +kernel
theorem dX4_nextWay_97 : decode cX4_nextWay 97 = .ok (.ifCond .eq 8, 3) := by decide +kernel
theorem dX4_nextWay_100 : decode cX4_nextWay 100 = .ok (.bipush (-9), 2) := by decide +kernel
theorem dX4_nextWay_102 : decode cX4_nextWay 102 = .ok (.goto 4, 3) := by decide +kernel
theorem dX4_nextWay_105 : decode cX4_nextWay 105 = .ok (.iload_n 1, 1) := by decide +kernel
theorem dX4_nextWay_106 : decode cX4_nextWay 106 = .ok (.ireturn, 1) := by decide +kernel
theorem dX4_foldOver_0 : decode cX4_foldOver 0 = .ok (.iload_n 1, 1) := by decide +kernel
theorem dX4_foldOver_1 : decode cX4_foldOver 1 = .ok (.iconst 1, 1) := by decide +kernel
theorem dX4_foldOver_2 : decode cX4_foldOver 2 = .ok (.iadd, 1) := by decide +kernel
theorem dX4_foldOver_3 : decode cX4_foldOver 3 = .ok (.iconst 3, 1) := by decide +kernel
theorem dX4_foldOver_4 : decode cX4_foldOver 4 = .ok (.irem, 1) := by decide +kernel
theorem dX4_foldOver_5 : decode cX4_foldOver 5 = .ok (.istore_n 2, 1) := by decide +kernel
theorem dX4_foldOver_6 : decode cX4_foldOver 6 = .ok (.iload_n 1, 1) := by decide +kernel
theorem dX4_foldOver_7 : decode cX4_foldOver 7 = .ok (.iconst 2, 1) := by decide +kernel
theorem dX4_foldOver_8 : decode cX4_foldOver 8 = .ok (.iadd, 1) := by decide +kernel
theorem dX4_foldOver_9 : decode cX4_foldOver 9 = .ok (.iconst 3, 1) := by decide +kernel
theorem dX4_foldOver_10 : decode cX4_foldOver 10 = .ok (.irem, 1) := by decide +kernel
theorem dX4_foldOver_11 : decode cX4_foldOver 11 = .ok (.istore_n 3, 1) := by decide +kernel
theorem dX4_foldOver_12 : decode cX4_foldOver 12 = .ok (.aload_n 0, 1) := by decide +kernel
theorem dX4_foldOver_13 : decode cX4_foldOver 13 = .ok (.getfield 18, 3) := by decide +kernel
theorem dX4_foldOver_16 : decode cX4_foldOver 16 = .ok (.iload_n 2, 1) := by decide +kernel
theorem dX4_foldOver_17 : decode cX4_foldOver 17 = .ok (.iaload, 1) := by decide +kernel
theorem dX4_foldOver_18 : decode cX4_foldOver 18 = .ok (.istore 4, 2) := by decide +kernel
theorem dX4_foldOver_20 : decode cX4_foldOver 20 = .ok (.aload_n 0, 1) := by decide +kernel
theorem dX4_foldOver_21 : decode cX4_foldOver 21 = .ok (.getfield 18, 3) := by decide +kernel
theorem dX4_foldOver_24 : decode cX4_foldOver 24 = .ok (.iload_n 2, 1) := by decide +kernel
theorem dX4_foldOver_25 : decode cX4_foldOver 25 = .ok (.aload_n 0, 1) := by decide +kernel
theorem dX4_foldOver_26 : decode cX4_foldOver 26 = .ok (.getfield 18, 3) := by decide +kernel
theorem dX4_foldOver_29 : decode cX4_foldOver 29 = .ok (.iload_n 3, 1) := by decide +kernel
theorem dX4_foldOver_30 : decode cX4_foldOver 30 = .ok (.iaload, 1) := by decide +kernel
theorem dX4_foldOver_31 : decode cX4_foldOver 31 = .ok (.iastore, 1) := by decide +kernel
theorem dX4_foldOver_32 : decode cX4_foldOver 32 = .ok (.aload_n 0, 1) := by decide +kernel
theorem dX4_foldOver_33 : decode cX4_foldOver 33 = .ok (.getfield 18, 3) := by decide +kernel
theorem dX4_foldOver_36 : decode cX4_foldOver 36 = .ok (.iload_n 3, 1) := by decide +kernel
theorem dX4_foldOver_37 : decode cX4_foldOver 37 = .ok (.iload 4, 2) := by decide +kernel
theorem dX4_foldOver_39 : decode cX4_foldOver 39 = .ok (.iastore, 1) := by decide +kernel
theorem dX4_foldOver_40 : decode cX4_foldOver 40 = .ok (.return_, 1) := by decide +kernel
theorem dX4_imageBy_0 : decode cX4_imageBy 0 = .ok (.iload_n 2, 1) := by decide +kernel
theorem dX4_imageBy_1 : decode cX4_imageBy 1 = .ok (.invokestatic 45, 3) := by decide +kernel
theorem dX4_imageBy_4 : decode cX4_imageBy 4 = .ok (.iload_n 3, 1) := by decide +kernel
theorem dX4_imageBy_5 : decode cX4_imageBy 5 = .ok (.iadd, 1) := by decide +kernel
theorem dX4_imageBy_6 : decode cX4_imageBy 6 = .ok (.iconst 3, 1) := by decide +kernel
theorem dX4_imageBy_7 : decode cX4_imageBy 7 = .ok (.invokestatic 77, 3) := by decide +kernel
theorem dX4_imageBy_10 : decode cX4_imageBy 10 = .ok (.istore 5, 2) := by decide +kernel
theorem dX4_imageBy_12 : decode cX4_imageBy 12 = .ok (.iload_n 2, 1) := by decide +kernel
theorem dX4_imageBy_13 : decode cX4_imageBy 13 = .ok (.invokestatic 45, 3) := by decide +kernel
theorem dX4_imageBy_16 : decode cX4_imageBy 16 = .ok (.iload 4, 2) := by decide +kernel
theorem dX4_imageBy_18 : decode cX4_imageBy 18 = .ok (.iadd, 1) := by decide +kernel
theorem dX4_imageBy_19 : decode cX4_imageBy 19 = .ok (.iconst 3, 1) := by decide +kernel
theorem dX4_imageBy_20 : decode cX4_imageBy 20 = .ok (.invokestatic 77, 3) := by decide +kernel
theorem dX4_imageBy_23 : decode cX4_imageBy 23 = .ok (.istore 6, 2) := by decide +kernel
theorem dX4_imageBy_25 : decode cX4_imageBy 25 = .ok (.iload 5, 2) := by decide +kernel
theorem dX4_imageBy_27 : decode cX4_imageBy 27 = .ok (.ifCond .eq 10, 3) := by decide +kernel
theorem dX4_imageBy_30 : decode cX4_imageBy 30 = .ok (.iload 5, 2) := by decide +kernel
theorem dX4_imageBy_32 : decode cX4_imageBy 32 = .ok (.iload 6, 2) := by decide +kernel
theorem dX4_imageBy_34 : decode cX4_imageBy 34 = .ok (.if_icmp .eq 6, 3) := by decide +kernel
theorem dX4_imageBy_37 : decode cX4_imageBy 37 = .ok (.bipush (-9), 2) := by decide +kernel
theorem dX4_imageBy_39 : decode cX4_imageBy 39 = .ok (.ireturn, 1) := by decide +kernel
theorem dX4_imageBy_40 : decode cX4_imageBy 40 = .ok (.aload_n 0, 1) := by decide +kernel
theorem dX4_imageBy_41 : decode cX4_imageBy 41 = .ok (.iload_n 2, 1) := by decide +kernel
theorem dX4_imageBy_42 : decode cX4_imageBy 42 = .ok (.iload_n 3, 1) := by decide +kernel
theorem dX4_imageBy_43 : decode cX4_imageBy 43 = .ok (.iload 4, 2) := by decide +kernel
theorem dX4_imageBy_45 : decode cX4_imageBy 45 = .ok (.invokevirtual 21, 3) := by decide +kernel
theorem dX4_imageBy_48 : decode cX4_imageBy 48 = .ok (.iconst 0, 1) := by decide +kernel
theorem dX4_imageBy_49 : decode cX4_imageBy 49 = .ok (.istore 7, 2) := by decide +kernel
theorem dX4_imageBy_51 : decode cX4_imageBy 51 = .ok (.iload 7, 2) := by decide +kernel
theorem dX4_imageBy_53 : decode cX4_imageBy 53 = .ok (.sipush 200, 3) := by decide +kernel
theorem dX4_imageBy_56 : decode cX4_imageBy 56 = .ok (.if_icmp .ge 29, 3) := by decide +kernel
theorem dX4_imageBy_59 : decode cX4_imageBy 59 = .ok (.aload_n 0, 1) := by decide +kernel
theorem dX4_imageBy_60 : decode cX4_imageBy 60 = .ok (.getfield 25, 3) := by decide +kernel
theorem dX4_imageBy_63 : decode cX4_imageBy 63 = .ok (.iconst 2, 1) := by decide +kernel
theorem dX4_imageBy_64 : decode cX4_imageBy 64 = .ok (.if_icmp .ne 21, 3) := by decide +kernel
theorem dX4_imageBy_67 : decode cX4_imageBy 67 = .ok (.aload_n 0, 1) := by decide +kernel
theorem dX4_imageBy_68 : decode cX4_imageBy 68 = .ok (.invokevirtual 80, 3) := by decide +kernel
theorem dX4_imageBy_71 : decode cX4_imageBy 71 = .ok (.ifCond .eq 14, 3) := by decide +kernel
theorem dX4_imageBy_74 : decode cX4_imageBy 74 = .ok (.aload_n 0, 1) := by decide +kernel
theorem dX4_imageBy_75 : decode cX4_imageBy 75 = .ok (.aload_n 1, 1) := by decide +kernel
theorem dX4_imageBy_76 : decode cX4_imageBy 76 = .ok (.invokevirtual 29, 3) := by decide +kernel
theorem dX4_imageBy_79 : decode cX4_imageBy 79 = .ok (.iinc 7 1, 3) := by decide +kernel
theorem dX4_imageBy_82 : decode cX4_imageBy 82 = .ok (.goto (-31), 3) := by decide +kernel
theorem dX4_imageBy_85 : decode cX4_imageBy 85 = .ok (.aload_n 0, 1) := by decide +kernel
theorem dX4_imageBy_86 : decode cX4_imageBy 86 = .ok (.getfield 25, 3) := by decide +kernel
theorem dX4_imageBy_89 : decode cX4_imageBy 89 = .ok (.iconst 2, 1) := by decide +kernel
theorem dX4_imageBy_90 : decode cX4_imageBy 90 = .ok (.if_icmp .ne 10, 3) := by decide +kernel
theorem dX4_imageBy_93 : decode cX4_imageBy 93 = .ok (.aload_n 0, 1) := by decide +kernel
theorem dX4_imageBy_94 : decode cX4_imageBy 94 = .ok (.getfield 39, 3) := by decide +kernel
theorem dX4_imageBy_97 : decode cX4_imageBy 97 = .ok (.goto 5, 3) := by decide +kernel
theorem dX4_imageBy_100 : decode cX4_imageBy 100 = .ok (.bipush (-9), 2) := by decide +kernel
theorem dX4_imageBy_102 : decode cX4_imageBy 102 = .ok (.ireturn, 1) := by decide +kernel
theorem dX4_crossesMore_0 : decode cX4_crossesMore 0 = .ok (.iconst 0, 1) := by decide +kernel
theorem dX4_crossesMore_1 : decode cX4_crossesMore 1 = .ok (.istore_n 1, 1) := by decide +kernel
theorem dX4_crossesMore_2 : decode cX4_crossesMore 2 = .ok (.iload_n 1, 1) := by decide +kernel
theorem dX4_crossesMore_3 : decode cX4_crossesMore 3 = .ok (.iconst 3, 1) := by decide +kernel
theorem dX4_crossesMore_4 : decode cX4_crossesMore 4 = .ok (.if_icmp .ge 26, 3) := by decide +kernel
theorem dX4_crossesMore_7 : decode cX4_crossesMore 7 = .ok (.aload_n 0, 1) := by decide +kernel
theorem dX4_crossesMore_8 : decode cX4_crossesMore 8 = .ok (.getfield 9, 3) := by decide +kernel
theorem dX4_crossesMore_11 : decode cX4_crossesMore 11 = .ok (.iload_n 1, 1) := by decide +kernel
theorem dX4_crossesMore_12 : decode cX4_crossesMore 12 = .ok (.iaload, 1) := by decide +kernel
theorem dX4_crossesMore_13 : decode cX4_crossesMore 13 = .ok (.aload_n 0, 1) := by decide +kernel
theorem dX4_crossesMore_14 : decode cX4_crossesMore 14 = .ok (.getfield 15, 3) := by decide +kernel
theorem dX4_crossesMore_17 : decode cX4_crossesMore 17 = .ok (.iload_n 1, 1) := by decide +kernel
theorem dX4_crossesMore_18 : decode cX4_crossesMore 18 = .ok (.iaload, 1) := by decide +kernel
theorem dX4_crossesMore_19 : decode cX4_crossesMore 19 = .ok (.if_icmp .ge 5, 3) := by decide +kernel
theorem dX4_crossesMore_22 : decode cX4_crossesMore 22 = .ok (.iconst 1, 1) := by decide +kernel
theorem dX4_crossesMore_23 : decode cX4_crossesMore 23 = .ok (.ireturn, 1) := by decide +kernel
theorem dX4_crossesMore_24 : decode cX4_crossesMore 24 = .ok (.iinc 1 1, 3) := by decide +kernel
theorem dX4_crossesMore_27 : decode cX4_crossesMore 27 = .ok (.goto (-25), 3) := by decide +kernel
theorem dX4_crossesMore_30 : decode cX4_crossesMore 30 = .ok (.iconst 0, 1) := by decide +kernel
theorem dX4_crossesMore_31 : decode cX4_crossesMore 31 = .ok (.ireturn, 1) := by decide +kernel
theorem dJ7_fill_53178_0 : decode cJ7_fill_53178 0 = .ok (.iconst 0, 1) := by decide +kernel
theorem dJ7_fill_53178_1 : decode cJ7_fill_53178 1 = .ok (.istore_n 2, 1) := by decide +kernel
theorem dJ7_fill_53178_2 : decode cJ7_fill_53178 2 = .ok (.aload_n 0, 1) := by decide +kernel
theorem dJ7_fill_53178_3 : decode cJ7_fill_53178 3 = .ok (.arraylength, 1) := by decide +kernel
theorem dJ7_fill_53178_4 : decode cJ7_fill_53178 4 = .ok (.istore_n 3, 1) := by decide +kernel
theorem dJ7_fill_53178_5 : decode cJ7_fill_53178 5 = .ok (.iload_n 2, 1) := by decide +kernel
theorem dJ7_fill_53178_6 : decode cJ7_fill_53178 6 = .ok (.iload_n 3, 1) := by decide +kernel
theorem dJ7_fill_53178_7 : decode cJ7_fill_53178 7 = .ok (.if_icmp .ge 13, 3) := by decide +kernel
theorem dJ7_fill_53178_10 : decode cJ7_fill_53178 10 = .ok (.aload_n 0, 1) := by decide +kernel
theorem dJ7_fill_53178_11 : decode cJ7_fill_53178 11 = .ok (.iload_n 2, 1) := by decide +kernel
theorem dJ7_fill_53178_12 : decode cJ7_fill_53178 12 = .ok (.iload_n 1, 1) := by decide +kernel
theorem dJ7_fill_53178_13 : decode cJ7_fill_53178 13 = .ok (.iastore, 1) := by decide +kernel
theorem dJ7_fill_53178_14 : decode cJ7_fill_53178 14 = .ok (.iinc 2 1, 3) := by decide +kernel
theorem dJ7_fill_53178_17 : decode cJ7_fill_53178 17 = .ok (.goto (-12), 3) := by decide +kernel
theorem dJ7_fill_53178_20 : decode cJ7_fill_53178 20 = .ok (.return_, 1) := by decide +kernel
theorem dJ9_floorMod_7cf53_0 : decode cJ9_floorMod_7cf53 0 = .ok (.iload_n 0, 1) := by decide +kernel
theorem dJ9_floorMod_7cf53_1 : decode cJ9_floorMod_7cf53 1 = .ok (.iload_n 1, 1) := by decide +kernel
theorem dJ9_floorMod_7cf53_2 : decode cJ9_floorMod_7cf53 2 = .ok (.irem, 1) := by decide +kernel
theorem dJ9_floorMod_7cf53_3 : decode cJ9_floorMod_7cf53 3 = .ok (.istore_n 2, 1) := by decide +kernel
theorem dJ9_floorMod_7cf53_4 : decode cJ9_floorMod_7cf53 4 = .ok (.iload_n 0, 1) := by decide +kernel
theorem dJ9_floorMod_7cf53_5 : decode cJ9_floorMod_7cf53 5 = .ok (.iload_n 1, 1) := by decide +kernel
theorem dJ9_floorMod_7cf53_6 : decode cJ9_floorMod_7cf53 6 = .ok (.ixor, 1) := by decide +kernel
theorem dJ9_floorMod_7cf53_7 : decode cJ9_floorMod_7cf53 7 = .ok (.ifCond .ge 11, 3) := by decide +kernel
theorem dJ9_floorMod_7cf53_10 : decode cJ9_floorMod_7cf53 10 = .ok (.iload_n 2, 1) := by decide +kernel
theorem dJ9_floorMod_7cf53_11 : decode cJ9_floorMod_7cf53 11 = .ok (.ifCond .eq 7, 3) := by decide +kernel
theorem dJ9_floorMod_7cf53_14 : decode cJ9_floorMod_7cf53 14 = .ok (.iload_n 2, 1) := by decide +kernel
theorem dJ9_floorMod_7cf53_15 : decode cJ9_floorMod_7cf53 15 = .ok (.iload_n 1, 1) := by decide +kernel
theorem dJ9_floorMod_7cf53_16 : decode cJ9_floorMod_7cf53 16 = .ok (.iadd, 1) := by decide +kernel
theorem dJ9_floorMod_7cf53_17 : decode cJ9_floorMod_7cf53 17 = .ok (.ireturn, 1) := by decide +kernel
theorem dJ9_floorMod_7cf53_18 : decode cJ9_floorMod_7cf53 18 = .ok (.iload_n 2, 1) := by decide +kernel
theorem dJ9_floorMod_7cf53_19 : decode cJ9_floorMod_7cf53 19 = .ok (.ireturn, 1) := by decide +kernel
theorem dJ9_abs_0f7a4_0 : decode cJ9_abs_0f7a4 0 = .ok (.iload_n 0, 1) := by decide +kernel
theorem dJ9_abs_0f7a4_1 : decode cJ9_abs_0f7a4 1 = .ok (.ifCond .ge 8, 3) := by decide +kernel
theorem dJ9_abs_0f7a4_4 : decode cJ9_abs_0f7a4 4 = .ok (.iload_n 0, 1) := by decide +kernel
theorem dJ9_abs_0f7a4_5 : decode cJ9_abs_0f7a4 5 = .ok (.ineg, 1) := by decide +kernel
theorem dJ9_abs_0f7a4_6 : decode cJ9_abs_0f7a4 6 = .ok (.goto 4, 3) := by decide +kernel
theorem dJ9_abs_0f7a4_9 : decode cJ9_abs_0f7a4 9 = .ok (.iload_n 0, 1) := by decide +kernel
theorem dJ9_abs_0f7a4_10 : decode cJ9_abs_0f7a4 10 = .ok (.ireturn, 1) := by decide +kernel
