theorem dL_cell_0 : decode cL_cell 0 = .ok (.iload_n 1, 1) := by decide +kernel
theorem dL_cell_1 : decode cL_cell 1 = .ok (.aload_n 0, 1) := by decide +kernel
theorem dL_cell_2 : decode cL_cell 2 = .ok (.arraylength, 1) := by decide +kernel
theorem dL_cell_3 : decode cL_cell 3 = .ok (.if_icmp .ge 9, 3) := by decide +kernel
theorem dL_cell_6 : decode cL_cell 6 = .ok (.aload_n 0, 1) := by decide +kernel
theorem dL_cell_7 : decode cL_cell 7 = .ok (.iload_n 1, 1) := by decide +kernel
theorem dL_cell_8 : decode cL_cell 8 = .ok (.iaload, 1) := by decide +kernel
theorem dL_cell_9 : decode cL_cell 9 = .ok (.goto 9, 3) := by decide +kernel
theorem dL_cell_12 : decode cL_cell 12 = .ok (.ldc 7, 2) := by decide +kernel
theorem dL_cell_14 : decode cL_cell 14 = .ok (.iload_n 1, 1) := by decide +kernel
theorem dL_cell_15 : decode cL_cell 15 = .ok (.iconst 1, 1) := by decide +kernel
theorem dL_cell_16 : decode cL_cell 16 = .ok (.iadd, 1) := by decide +kernel
theorem dL_cell_17 : decode cL_cell 17 = .ok (.imul, 1) := by decide +kernel
theorem dL_cell_18 : decode cL_cell 18 = .ok (.ireturn, 1) := by decide +kernel
theorem dL_some_0 : decode cL_some 0 = .ok (.iload_n 0, 1) := by decide +kernel
theorem dL_some_1 : decode cL_some 1 = .ok (.ldc 8, 2) := by decide +kernel
theorem dL_some_3 : decode cL_some 3 = .ok (.iand, 1) := by decide +kernel
theorem dL_some_4 : decode cL_some 4 = .ok (.iload_n 1, 1) := by decide +kernel
theorem dL_some_5 : decode cL_some 5 = .ok (.irem, 1) := by decide +kernel
theorem dL_some_6 : decode cL_some 6 = .ok (.ireturn, 1) := by decide +kernel
theorem dL_put_0 : decode cL_put 0 = .ok (.aload_n 1, 1) := by decide +kernel
theorem dL_put_1 : decode cL_put 1 = .ok (.iload_n 2, 1) := by decide +kernel
theorem dL_put_2 : decode cL_put 2 = .ok (.invokestatic 9, 3) := by decide +kernel
theorem dL_put_5 : decode cL_put 5 = .ok (.istore 6, 2) := by decide +kernel
theorem dL_put_7 : decode cL_put 7 = .ok (.aload 5, 2) := by decide +kernel
theorem dL_put_9 : decode cL_put 9 = .ok (.iconst 0, 1) := by decide +kernel
theorem dL_put_10 : decode cL_put 10 = .ok (.iconst 1, 1) := by decide +kernel
theorem dL_put_11 : decode cL_put 11 = .ok (.iload 6, 2) := by decide +kernel
theorem dL_put_13 : decode cL_put 13 = .ok (.iload_n 3, 1) := by decide +kernel
theorem dL_put_14 : decode cL_put 14 = .ok (.invokestatic 15, 3) := by decide +kernel
theorem dL_put_17 : decode cL_put 17 = .ok (.iadd, 1) := by decide +kernel
theorem dL_put_18 : decode cL_put 18 = .ok (.iastore, 1) := by decide +kernel
theorem dL_put_19 : decode cL_put 19 = .ok (.aload 5, 2) := by decide +kernel
theorem dL_put_21 : decode cL_put 21 = .ok (.iconst 1, 1) := by decide +kernel
theorem dL_put_22 : decode cL_put 22 = .ok (.iconst 1, 1) := by decide +kernel
theorem dL_put_23 : decode cL_put 23 = .ok (.iload 6, 2) := by decide +kernel
theorem dL_put_25 : decode cL_put 25 = .ok (.iconst 3, 1) := by decide +kernel
theorem dL_put_26 : decode cL_put 26 = .ok (.ishr, 1) := by decide +kernel
theorem dL_put_27 : decode cL_put 27 = .ok (.iload 4, 2) := by decide +kernel
theorem dL_put_29 : decode cL_put 29 = .ok (.invokestatic 15, 3) := by decide +kernel
theorem dL_put_32 : decode cL_put 32 = .ok (.iadd, 1) := by decide +kernel
theorem dL_put_33 : decode cL_put 33 = .ok (.iastore, 1) := by decide +kernel
theorem dL_put_34 : decode cL_put 34 = .ok (.aload 5, 2) := by decide +kernel
theorem dL_put_36 : decode cL_put 36 = .ok (.iconst 2, 1) := by decide +kernel
theorem dL_put_37 : decode cL_put 37 = .ok (.iconst 3, 1) := by decide +kernel
theorem dL_put_38 : decode cL_put 38 = .ok (.aload 5, 2) := by decide +kernel
theorem dL_put_40 : decode cL_put 40 = .ok (.iconst 0, 1) := by decide +kernel
theorem dL_put_41 : decode cL_put 41 = .ok (.iaload, 1) := by decide +kernel
theorem dL_put_42 : decode cL_put 42 = .ok (.imul, 1) := by decide +kernel
theorem dL_put_43 : decode cL_put 43 = .ok (.aload 5, 2) := by decide +kernel
theorem dL_put_45 : decode cL_put 45 = .ok (.iconst 1, 1) := by decide +kernel
theorem dL_put_46 : decode cL_put 46 = .ok (.iaload, 1) := by decide +kernel
theorem dL_put_47 : decode cL_put 47 = .ok (.imul, 1) := by decide +kernel
theorem dL_put_48 : decode cL_put 48 = .ok (.aload 5, 2) := by decide +kernel
theorem dL_put_50 : decode cL_put 50 = .ok (.iconst 0, 1) := by decide +kernel
theorem dL_put_51 : decode cL_put 51 = .ok (.iaload, 1) := by decide +kernel
theorem dL_put_52 : decode cL_put 52 = .ok (.iadd, 1) := by decide +kernel
theorem dL_put_53 : decode cL_put 53 = .ok (.aload 5, 2) := by decide +kernel
theorem dL_put_55 : decode cL_put 55 = .ok (.iconst 1, 1) := by decide +kernel
theorem dL_put_56 : decode cL_put 56 = .ok (.iaload, 1) := by decide +kernel
theorem dL_put_57 : decode cL_put 57 = .ok (.iadd, 1) := by decide +kernel
theorem dL_put_58 : decode cL_put 58 = .ok (.iastore, 1) := by decide +kernel
theorem dL_put_59 : decode cL_put 59 = .ok (.iload 6, 2) := by decide +kernel
theorem dL_put_61 : decode cL_put 61 = .ok (.bipush 6, 2) := by decide +kernel
theorem dL_put_63 : decode cL_put 63 = .ok (.ishr, 1) := by decide +kernel
theorem dL_put_64 : decode cL_put 64 = .ok (.iconst 4, 1) := by decide +kernel
theorem dL_put_65 : decode cL_put 65 = .ok (.invokestatic 15, 3) := by decide +kernel
theorem dL_put_68 : decode cL_put 68 = .ok (.istore 7, 2) := by decide +kernel
theorem dL_put_70 : decode cL_put 70 = .ok (.aload_n 0, 1) := by decide +kernel
theorem dL_put_71 : decode cL_put 71 = .ok (.iconst 0, 1) := by decide +kernel
theorem dL_put_72 : decode cL_put 72 = .ok (.iconst 1, 1) := by decide +kernel
theorem dL_put_73 : decode cL_put 73 = .ok (.bipush 60, 2) := by decide +kernel
theorem dL_put_75 : decode cL_put 75 = .ok (.invokevirtual 19, 3) := by decide +kernel
theorem dL_put_78 : decode cL_put 78 = .ok (.iconst 1, 1) := by decide +kernel
theorem dL_put_79 : decode cL_put 79 = .ok (.if_icmp .ne 73, 3) := by decide +kernel
theorem dL_put_82 : decode cL_put 82 = .ok (.aload_n 0, 1) := by decide +kernel
theorem dL_put_83 : decode cL_put 83 = .ok (.iconst 0, 1) := by decide +kernel
theorem dL_put_84 : decode cL_put 84 = .ok (.iconst 0, 1) := by decide +kernel
theorem dL_put_85 : decode cL_put 85 = .ok (.bipush 119, 2) := by decide +kernel
theorem dL_put_87 : decode cL_put 87 = .ok (.invokevirtual 25, 3) := by decide +kernel
theorem dL_put_90 : decode cL_put 90 = .ok (.iconst 1, 1) := by decide +kernel
theorem dL_put_91 : decode cL_put 91 = .ok (.if_icmp .ne 61, 3) := by decide +kernel
theorem dL_put_94 : decode cL_put 94 = .ok (.aload_n 0, 1) := by decide +kernel
theorem dL_put_95 : decode cL_put 95 = .ok (.iconst 0, 1) := by decide +kernel
theorem dL_put_96 : decode cL_put 96 = .ok (.iconst 1, 1) := by decide +kernel
theorem dL_put_97 : decode cL_put 97 = .ok (.bipush 48, 2) := by decide +kernel
theorem dL_put_99 : decode cL_put 99 = .ok (.aload 5, 2) := by decide +kernel
theorem dL_put_101 : decode cL_put 101 = .ok (.iconst 0, 1) := by decide +kernel
theorem dL_put_102 : decode cL_put 102 = .ok (.iaload, 1) := by decide +kernel
theorem dL_put_103 : decode cL_put 103 = .ok (.iadd, 1) := by decide +kernel
theorem dL_put_104 : decode cL_put 104 = .ok (.invokevirtual 25, 3) := by decide +kernel
theorem dL_put_107 : decode cL_put 107 = .ok (.iconst 1, 1) := by decide +kernel
theorem dL_put_108 : decode cL_put 108 = .ok (.if_icmp .ne 44, 3) := by decide +kernel
theorem dL_put_111 : decode cL_put 111 = .ok (.aload_n 0, 1) := by decide +kernel
theorem dL_put_112 : decode cL_put 112 = .ok (.iconst 0, 1) := by decide +kernel
theorem dL_put_113 : decode cL_put 113 = .ok (.iconst 2, 1) := by decide +kernel
theorem dL_put_114 : decode cL_put 114 = .ok (.bipush 104, 2) := by decide +kernel
theorem dL_put_116 : decode cL_put 116 = .ok (.invokevirtual 25, 3) := by decide +kernel
theorem dL_put_119 : decode cL_put 119 = .ok (.iconst 1, 1) := by decide +kernel
theorem dL_put_120 : decode cL_put 120 = .ok (.if_icmp .ne 32, 3) := by decide +kernel
theorem dL_put_123 : decode cL_put 123 = .ok (.aload_n 0, 1) := by decide +kernel
theorem dL_put_124 : decode cL_put 124 = .ok (.iconst 0, 1) := by decide +kernel
theorem dL_put_125 : decode cL_put 125 = .ok (.iconst 3, 1) := by decide +kernel
theorem dL_put_126 : decode cL_put 126 = .ok (.bipush 48, 2) := by decide +kernel
theorem dL_put_128 : decode cL_put 128 = .ok (.aload 5, 2) := by decide +kernel
theorem dL_put_130 : decode cL_put 130 = .ok (.iconst 1, 1) := by decide +kernel
theorem dL_put_131 : decode cL_put 131 = .ok (.iaload, 1) := by decide +kernel
theorem dL_put_132 : decode cL_put 132 = .ok (.iadd, 1) := by decide +kernel
theorem dL_put_133 : decode cL_put 133 = .ok (.invokevirtual 25, 3) := by decide +kernel
theorem dL_put_136 : decode cL_put 136 = .ok (.iconst 1, 1) := by decide +kernel
theorem dL_put_137 : decode cL_put 137 = .ok (.if_icmp .ne 15, 3) := by decide +kernel
theorem dL_put_140 : decode cL_put 140 = .ok (.aload_n 0, 1) := by decide +kernel
theorem dL_put_141 : decode cL_put 141 = .ok (.iconst 0, 1) := by decide +kernel
theorem dL_put_142 : decode cL_put 142 = .ok (.iconst 4, 1) := by decide +kernel
theorem dL_put_143 : decode cL_put 143 = .ok (.bipush 59, 2) := by decide +kernel
theorem dL_put_145 : decode cL_put 145 = .ok (.invokevirtual 25, 3) := by decide +kernel
theorem dL_put_148 : decode cL_put 148 = .ok (.iconst 1, 1) := by decide +kernel
theorem dL_put_149 : decode cL_put 149 = .ok (.if_icmp .eq 6, 3) := by decide +kernel
theorem dL_put_152 : decode cL_put 152 = .ok (.bipush (-9), 2) := by decide +kernel
theorem dL_put_154 : decode cL_put 154 = .ok (.ireturn, 1) := by decide +kernel
theorem dL_put_155 : decode cL_put 155 = .ok (.iconst 0, 1) := by decide +kernel
theorem dL_put_156 : decode cL_put 156 = .ok (.istore 8, 2) := by decide +kernel
theorem dL_put_158 : decode cL_put 158 = .ok (.iload 8, 2) := by decide +kernel
theorem dL_put_160 : decode cL_put 160 = .ok (.aload 5, 2) := by decide +kernel
theorem dL_put_162 : decode cL_put 162 = .ok (.iconst 2, 1) := by decide +kernel
theorem dL_put_163 : decode cL_put 163 = .ok (.iaload, 1) := by decide +kernel
theorem dL_put_164 : decode cL_put 164 = .ok (.if_icmp .ge 131, 3) := by decide +kernel
theorem dL_put_167 : decode cL_put 167 = .ok (.aload_n 1, 1) := by decide +kernel
theorem dL_put_168 : decode cL_put 168 = .ok (.iload_n 2, 1) := by decide +kernel
theorem dL_put_169 : decode cL_put 169 = .ok (.iconst 1, 1) := by decide +kernel
theorem dL_put_170 : decode cL_put 170 = .ok (.iadd, 1) := by decide +kernel
theorem dL_put_171 : decode cL_put 171 = .ok (.iload 8, 2) := by decide +kernel
theorem dL_put_173 : decode cL_put 173 = .ok (.iconst 5, 1) := by decide +kernel
theorem dL_put_174 : decode cL_put 174 = .ok (.irem, 1) := by decide +kernel
theorem dL_put_175 : decode cL_put 175 = .ok (.iadd, 1) := by decide +kernel
theorem dL_put_176 : decode cL_put 176 = .ok (.invokestatic 9, 3) := by decide +kernel
theorem dL_put_179 : decode cL_put 179 = .ok (.iload 8, 2) := by decide +kernel
theorem dL_put_181 : decode cL_put 181 = .ok (.iconst 5, 1) := by decide +kernel
theorem dL_put_182 : decode cL_put 182 = .ok (.idiv, 1) := by decide +kernel
theorem dL_put_183 : decode cL_put 183 = .ok (.iconst 3, 1) := by decide +kernel
theorem dL_put_184 : decode cL_put 184 = .ok (.imul, 1) := by decide +kernel
theorem dL_put_185 : decode cL_put 185 = .ok (.ishr, 1) := by decide +kernel
theorem dL_put_186 : decode cL_put 186 = .ok (.iload 7, 2) := by decide +kernel
theorem dL_put_188 : decode cL_put 188 = .ok (.ifCond .ne 7, 3) := by decide +kernel
theorem dL_put_191 : decode cL_put 191 = .ok (.iconst 3, 1) := by decide +kernel
theorem dL_put_192 : decode cL_put 192 = .ok (.goto 5, 3) := by decide +kernel
theorem dL_put_195 : decode cL_put 195 = .ok (.bipush 6, 2) := by decide +kernel
theorem dL_put_197 : decode cL_put 197 = .ok (.invokestatic 15, 3) := by decide +kernel
theorem dL_put_200 : decode cL_put 200 = .ok (.istore 9, 2) := by decide +kernel
theorem dL_put_202 : decode cL_put 202 = .ok (.iload 9, 2) := by decide +kernel
theorem dL_put_204 : decode cL_put 204 = .ok (.iconst 3, 1) := by decide +kernel
theorem dL_put_205 : decode cL_put 205 = .ok (.if_icmp .ge 8, 3) := by decide +kernel
theorem dL_put_208 : decode cL_put 208 = .ok (.iload 9, 2) := by decide +kernel
theorem dL_put_210 : decode cL_put 210 = .ok (.goto 29, 3) := by decide +kernel
theorem dL_put_213 : decode cL_put 213 = .ok (.iload 7, 2) := by decide +kernel
theorem dL_put_215 : decode cL_put 215 = .ok (.iconst 1, 1) := by decide +kernel
theorem dL_put_216 : decode cL_put 216 = .ok (.if_icmp .ne 7, 3) := by decide +kernel
theorem dL_put_219 : decode cL_put 219 = .ok (.iconst 0, 1) := by decide +kernel
theorem dL_put_220 : decode cL_put 220 = .ok (.goto 19, 3) := by decide +kernel
theorem dL_put_223 : decode cL_put 223 = .ok (.iload 7, 2) := by decide +kernel
theorem dL_put_225 : decode cL_put 225 = .ok (.iconst 2, 1) := by decide +kernel
theorem dL_put_226 : decode cL_put 226 = .ok (.if_icmp .ne 7, 3) := by decide +kernel
theorem dL_put_229 : decode cL_put 229 = .ok (.iconst 2, 1) := by decide +kernel
theorem dL_put_230 : decode cL_put 230 = .ok (.goto 9, 3) := by decide +kernel
theorem dL_put_233 : decode cL_put 233 = .ok (.iload 9, 2) := by decide +kernel
theorem dL_put_235 : decode cL_put 235 = .ok (.iconst 2, 1) := by decide +kernel
theorem dL_put_236 : decode cL_put 236 = .ok (.irem, 1) := by decide +kernel
theorem dL_put_237 : decode cL_put 237 = .ok (.iconst 2, 1) := by decide +kernel
theorem dL_put_238 : decode cL_put 238 = .ok (.imul, 1) := by decide +kernel
theorem dL_put_239 : decode cL_put 239 = .ok (.istore 9, 2) := by decide +kernel
theorem dL_put_241 : decode cL_put 241 = .ok (.aload 5, 2) := by decide +kernel
theorem dL_put_243 : decode cL_put 243 = .ok (.iconst 3, 1) := by decide +kernel
theorem dL_put_244 : decode cL_put 244 = .ok (.iload 8, 2) := by decide +kernel
theorem dL_put_246 : decode cL_put 246 = .ok (.iadd, 1) := by decide +kernel
theorem dL_put_247 : decode cL_put 247 = .ok (.iload 9, 2) := by decide +kernel
theorem dL_put_249 : decode cL_put 249 = .ok (.iastore, 1) := by decide +kernel
theorem dL_put_250 : decode cL_put 250 = .ok (.aload_n 0, 1) := by decide +kernel
theorem dL_put_251 : decode cL_put 251 = .ok (.iconst 0, 1) := by decide +kernel
theorem dL_put_252 : decode cL_put 252 = .ok (.iconst 5, 1) := by decide +kernel
theorem dL_put_253 : decode cL_put 253 = .ok (.iload 8, 2) := by decide +kernel
theorem dL_put_255 : decode cL_put 255 = .ok (.iadd, 1) := by decide +kernel
theorem dL_put_256 : decode cL_put 256 = .ok (.iload 9, 2) := by decide +kernel
theorem dL_put_258 : decode cL_put 258 = .ok (.ifCond .ne 8, 3) := by decide +kernel
theorem dL_put_261 : decode cL_put 261 = .ok (.bipush 109, 2) := by decide +kernel
theorem dL_put_263 : decode cL_put 263 = .ok (.goto 16, 3) := by decide +kernel
theorem dL_put_266 : decode cL_put 266 = .ok (.iload 9, 2) := by decide +kernel
theorem dL_put_268 : decode cL_put 268 = .ok (.iconst 1, 1) := by decide +kernel
theorem dL_put_269 : decode cL_put 269 = .ok (.if_icmp .ne 8, 3) := by decide +kernel
theorem dL_put_272 : decode cL_put 272 = .ok (.bipush 103, 2) := by decide +kernel
theorem dL_put_274 : decode cL_put 274 = .ok (.goto 5, 3) := by decide +kernel
theorem dL_put_277 : decode cL_put 277 = .ok (.bipush 111, 2) := by decide +kernel
theorem dL_put_279 : decode cL_put 279 = .ok (.invokevirtual 25, 3) := by decide +kernel
theorem dL_put_282 : decode cL_put 282 = .ok (.iconst 1, 1) := by decide +kernel
theorem dL_put_283 : decode cL_put 283 = .ok (.if_icmp .eq 6, 3) := by decide +kernel
theorem dL_put_286 : decode cL_put 286 = .ok (.bipush (-9), 2) := by decide +kernel
theorem dL_put_288 : decode cL_put 288 = .ok (.ireturn, 1) := by decide +kernel
theorem dL_put_289 : decode cL_put 289 = .ok (.iinc 8 1, 3) := by decide +kernel
theorem dL_put_292 : decode cL_put 292 = .ok (.goto (-134), 3) := by decide +kernel
theorem dL_put_295 : decode cL_put 295 = .ok (.iconst 5, 1) := by decide +kernel
theorem dL_put_296 : decode cL_put 296 = .ok (.aload 5, 2) := by decide +kernel
theorem dL_put_298 : decode cL_put 298 = .ok (.iconst 2, 1) := by decide +kernel
theorem dL_put_299 : decode cL_put 299 = .ok (.iaload, 1) := by decide +kernel
theorem dL_put_300 : decode cL_put 300 = .ok (.iadd, 1) := by decide +kernel
theorem dL_put_301 : decode cL_put 301 = .ok (.ireturn, 1) := by decide +kernel
theorem dL_side_0 : decode cL_side 0 = .ok (.iload_n 1, 1) := by decide +kernel
theorem dL_side_1 : decode cL_side 1 = .ok (.iconst 2, 1) := by decide +kernel
theorem dL_side_2 : decode cL_side 2 = .ok (.idiv, 1) := by decide +kernel
theorem dL_side_3 : decode cL_side 3 = .ok (.istore_n 3, 1) := by decide +kernel
theorem dL_side_4 : decode cL_side 4 = .ok (.iload_n 1, 1) := by decide +kernel
theorem dL_side_5 : decode cL_side 5 = .ok (.iconst 2, 1) := by decide +kernel
theorem dL_side_6 : decode cL_side 6 = .ok (.irem, 1) := by decide +kernel
theorem dL_side_7 : decode cL_side 7 = .ok (.ifCond .ne 27, 3) := by decide +kernel
theorem dL_side_10 : decode cL_side 10 = .ok (.iconst 3, 1) := by decide +kernel
theorem dL_side_11 : decode cL_side 11 = .ok (.iload_n 3, 1) := by decide +kernel
theorem dL_side_12 : decode cL_side 12 = .ok (.imul, 1) := by decide +kernel
theorem dL_side_13 : decode cL_side 13 = .ok (.iload_n 2, 1) := by decide +kernel
theorem dL_side_14 : decode cL_side 14 = .ok (.iconst 2, 1) := by decide +kernel
theorem dL_side_15 : decode cL_side 15 = .ok (.if_icmp .ne 7, 3) := by decide +kernel
theorem dL_side_18 : decode cL_side 18 = .ok (.iconst 0, 1) := by decide +kernel
theorem dL_side_19 : decode cL_side 19 = .ok (.goto 13, 3) := by decide +kernel
theorem dL_side_22 : decode cL_side 22 = .ok (.iload_n 2, 1) := by decide +kernel
theorem dL_side_23 : decode cL_side 23 = .ok (.iconst 1, 1) := by decide +kernel
theorem dL_side_24 : decode cL_side 24 = .ok (.if_icmp .ne 7, 3) := by decide +kernel
theorem dL_side_27 : decode cL_side 27 = .ok (.iconst 1, 1) := by decide +kernel
theorem dL_side_28 : decode cL_side 28 = .ok (.goto 4, 3) := by decide +kernel
theorem dL_side_31 : decode cL_side 31 = .ok (.iconst 2, 1) := by decide +kernel
theorem dL_side_32 : decode cL_side 32 = .ok (.iadd, 1) := by decide +kernel
theorem dL_side_33 : decode cL_side 33 = .ok (.ireturn, 1) := by decide +kernel
theorem dL_side_34 : decode cL_side 34 = .ok (.iload_n 2, 1) := by decide +kernel
theorem dL_side_35 : decode cL_side 35 = .ok (.iconst 2, 1) := by decide +kernel
theorem dL_side_36 : decode cL_side 36 = .ok (.if_icmp .ne 7, 3) := by decide +kernel
theorem dL_side_39 : decode cL_side 39 = .ok (.iconst 3, 1) := by decide +kernel
theorem dL_side_40 : decode cL_side 40 = .ok (.iload_n 3, 1) := by decide +kernel
theorem dL_side_41 : decode cL_side 41 = .ok (.imul, 1) := by decide +kernel
theorem dL_side_42 : decode cL_side 42 = .ok (.ireturn, 1) := by decide +kernel
theorem dL_side_43 : decode cL_side 43 = .ok (.iload_n 3, 1) := by decide +kernel
theorem dL_side_44 : decode cL_side 44 = .ok (.aload_n 0, 1) := by decide +kernel
theorem dL_side_45 : decode cL_side 45 = .ok (.iconst 0, 1) := by decide +kernel
theorem dL_side_46 : decode cL_side 46 = .ok (.iaload, 1) := by decide +kernel
theorem dL_side_47 : decode cL_side 47 = .ok (.irem, 1) := by decide +kernel
theorem dL_side_48 : decode cL_side 48 = .ok (.istore 4, 2) := by decide +kernel
theorem dL_side_50 : decode cL_side 50 = .ok (.iload_n 3, 1) := by decide +kernel
theorem dL_side_51 : decode cL_side 51 = .ok (.aload_n 0, 1) := by decide +kernel
theorem dL_side_52 : decode cL_side 52 = .ok (.iconst 0, 1) := by decide +kernel
theorem dL_side_53 : decode cL_side 53 = .ok (.iaload, 1) := by decide +kernel
theorem dL_side_54 : decode cL_side 54 = .ok (.idiv, 1) := by decide +kernel
theorem dL_side_55 : decode cL_side 55 = .ok (.istore 5, 2) := by decide +kernel
theorem dL_side_57 : decode cL_side 57 = .ok (.iload_n 2, 1) := by decide +kernel
theorem dL_side_58 : decode cL_side 58 = .ok (.iconst 1, 1) := by decide +kernel
theorem dL_side_59 : decode cL_side 59 = .ok (.if_icmp .ne 34, 3) := by decide +kernel
theorem dL_side_62 : decode cL_side 62 = .ok (.iload 4, 2) := by decide +kernel
theorem dL_side_64 : decode cL_side 64 = .ok (.aload_n 0, 1) := by decide +kernel
theorem dL_side_65 : decode cL_side 65 = .ok (.iconst 0, 1) := by decide +kernel
theorem dL_side_66 : decode cL_side 66 = .ok (.iaload, 1) := by decide +kernel
theorem dL_side_67 : decode cL_side 67 = .ok (.iconst 1, 1) := by decide +kernel
theorem dL_side_68 : decode cL_side 68 = .ok (.isub, 1) := by decide +kernel
theorem dL_side_69 : decode cL_side 69 = .ok (.if_icmp .ne 18, 3) := by decide +kernel
theorem dL_side_72 : decode cL_side 72 = .ok (.iconst 3, 1) := by decide +kernel
theorem dL_side_73 : decode cL_side 73 = .ok (.aload_n 0, 1) := by decide +kernel
theorem dL_side_74 : decode cL_side 74 = .ok (.iconst 0, 1) := by decide +kernel
theorem dL_side_75 : decode cL_side 75 = .ok (.iaload, 1) := by decide +kernel
theorem dL_side_76 : decode cL_side 76 = .ok (.imul, 1) := by decide +kernel
theorem dL_side_77 : decode cL_side 77 = .ok (.aload_n 0, 1) := by decide +kernel
theorem dL_side_78 : decode cL_side 78 = .ok (.iconst 1, 1) := by decide +kernel
theorem dL_side_79 : decode cL_side 79 = .ok (.iaload, 1) := by decide +kernel
theorem dL_side_80 : decode cL_side 80 = .ok (.imul, 1) := by decide +kernel
theorem dL_side_81 : decode cL_side 81 = .ok (.iload 5, 2) := by decide +kernel
theorem dL_side_83 : decode cL_side 83 = .ok (.iadd, 1) := by decide +kernel
theorem dL_side_84 : decode cL_side 84 = .ok (.goto 8, 3) := by decide +kernel
theorem dL_side_87 : decode cL_side 87 = .ok (.iconst 3, 1) := by decide +kernel
theorem dL_side_88 : decode cL_side 88 = .ok (.iload_n 3, 1) := by decide +kernel
theorem dL_side_89 : decode cL_side 89 = .ok (.imul, 1) := by decide +kernel
theorem dL_side_90 : decode cL_side 90 = .ok (.iconst 4, 1) := by decide +kernel
theorem dL_side_91 : decode cL_side 91 = .ok (.iadd, 1) := by decide +kernel
theorem dL_side_92 : decode cL_side 92 = .ok (.ireturn, 1) := by decide +kernel
theorem dL_side_93 : decode cL_side 93 = .ok (.iload 5, 2) := by decide +kernel
theorem dL_side_95 : decode cL_side 95 = .ok (.aload_n 0, 1) := by decide +kernel
theorem dL_side_96 : decode cL_side 96 = .ok (.iconst 1, 1) := by decide +kernel
theorem dL_side_97 : decode cL_side 97 = .ok (.iaload, 1) := by decide +kernel
theorem dL_side_98 : decode cL_side 98 = .ok (.iconst 1, 1) := by decide +kernel
theorem dL_side_99 : decode cL_side 99 = .ok (.isub, 1) := by decide +kernel
theorem dL_side_100 : decode cL_side 100 = .ok (.if_icmp .ne 22, 3) := by decide +kernel
theorem dL_side_103 : decode cL_side 103 = .ok (.iconst 3, 1) := by decide +kernel
theorem dL_side_104 : decode cL_side 104 = .ok (.aload_n 0, 1) := by decide +kernel
theorem dL_side_105 : decode cL_side 105 = .ok (.iconst 0, 1) := by decide +kernel
theorem dL_side_106 : decode cL_side 106 = .ok (.iaload, 1) := by decide +kernel
theorem dL_side_107 : decode cL_side 107 = .ok (.imul, 1) := by decide +kernel
theorem dL_side_108 : decode cL_side 108 = .ok (.aload_n 0, 1) := by decide +kernel
theorem dL_side_109 : decode cL_side 109 = .ok (.iconst 1, 1) := by decide +kernel
theorem dL_side_110 : decode cL_side 110 = .ok (.iaload, 1) := by decide +kernel
theorem dL_side_111 : decode cL_side 111 = .ok (.imul, 1) := by decide +kernel
theorem dL_side_112 : decode cL_side 112 = .ok (.aload_n 0, 1) := by decide +kernel
theorem dL_side_113 : decode cL_side 113 = .ok (.iconst 1, 1) := by decide +kernel
theorem dL_side_114 : decode cL_side 114 = .ok (.iaload, 1) := by decide +kernel
theorem dL_side_115 : decode cL_side 115 = .ok (.iadd, 1) := by decide +kernel
theorem dL_side_116 : decode cL_side 116 = .ok (.iload 4, 2) := by decide +kernel
theorem dL_side_118 : decode cL_side 118 = .ok (.iadd, 1) := by decide +kernel
theorem dL_side_119 : decode cL_side 119 = .ok (.goto 12, 3) := by decide +kernel
theorem dL_side_122 : decode cL_side 122 = .ok (.iconst 3, 1) := by decide +kernel
theorem dL_side_123 : decode cL_side 123 = .ok (.iload_n 3, 1) := by decide +kernel
theorem dL_side_124 : decode cL_side 124 = .ok (.aload_n 0, 1) := by decide +kernel
theorem dL_side_125 : decode cL_side 125 = .ok (.iconst 0, 1) := by decide +kernel
theorem dL_side_126 : decode cL_side 126 = .ok (.iaload, 1) := by decide +kernel
theorem dL_side_127 : decode cL_side 127 = .ok (.iadd, 1) := by decide +kernel
theorem dL_side_128 : decode cL_side 128 = .ok (.imul, 1) := by decide +kernel
theorem dL_side_129 : decode cL_side 129 = .ok (.iconst 2, 1) := by decide +kernel
theorem dL_side_130 : decode cL_side 130 = .ok (.iadd, 1) := by decide +kernel
theorem dL_side_131 : decode cL_side 131 = .ok (.ireturn, 1) := by decide +kernel
theorem dL_behind_0 : decode cL_behind 0 = .ok (.iconst 0, 1) := by decide +kernel
theorem dL_behind_1 : decode cL_behind 1 = .ok (.istore_n 3, 1) := by decide +kernel
theorem dL_behind_2 : decode cL_behind 2 = .ok (.iload_n 3, 1) := by decide +kernel
theorem dL_behind_3 : decode cL_behind 3 = .ok (.iconst 2, 1) := by decide +kernel
theorem dL_behind_4 : decode cL_behind 4 = .ok (.aload_n 0, 1) := by decide +kernel
theorem dL_behind_5 : decode cL_behind 5 = .ok (.iconst 0, 1) := by decide +kernel
theorem dL_behind_6 : decode cL_behind 6 = .ok (.iaload, 1) := by decide +kernel
theorem dL_behind_7 : decode cL_behind 7 = .ok (.imul, 1) := by decide +kernel
theorem dL_behind_8 : decode cL_behind 8 = .ok (.aload_n 0, 1) := by decide +kernel
theorem dL_behind_9 : decode cL_behind 9 = .ok (.iconst 1, 1) := by decide +kernel
theorem dL_behind_10 : decode cL_behind 10 = .ok (.iaload, 1) := by decide +kernel
theorem dL_behind_11 : decode cL_behind 11 = .ok (.imul, 1) := by decide +kernel
theorem dL_behind_12 : decode cL_behind 12 = .ok (.if_icmp .ge 45, 3) := by decide +kernel
theorem dL_behind_15 : decode cL_behind 15 = .ok (.iload_n 3, 1) := by decide +kernel
theorem dL_behind_16 : decode cL_behind 16 = .ok (.iload_n 1, 1) := by decide +kernel
theorem dL_behind_17 : decode cL_behind 17 = .ok (.if_icmp .ne 6, 3) := by decide +kernel
theorem dL_behind_20 : decode cL_behind 20 = .ok (.goto 31, 3) := by decide +kernel
theorem dL_behind_23 : decode cL_behind 23 = .ok (.iconst 0, 1) := by decide +kernel
theorem dL_behind_24 : decode cL_behind 24 = .ok (.istore 4, 2) := by decide +kernel
theorem dL_behind_26 : decode cL_behind 26 = .ok (.iload 4, 2) := by decide +kernel
theorem dL_behind_28 : decode cL_behind 28 = .ok (.iconst 3, 1) := by decide +kernel
theorem dL_behind_29 : decode cL_behind 29 = .ok (.if_icmp .ge 22, 3) := by decide +kernel
theorem dL_behind_32 : decode cL_behind 32 = .ok (.aload_n 0, 1) := by decide +kernel
theorem dL_behind_33 : decode cL_behind 33 = .ok (.iload_n 3, 1) := by decide +kernel
theorem dL_behind_34 : decode cL_behind 34 = .ok (.iload 4, 2) := by decide +kernel
theorem dL_behind_36 : decode cL_behind 36 = .ok (.invokestatic 28, 3) := by decide +kernel
theorem dL_behind_39 : decode cL_behind 39 = .ok (.iload_n 2, 1) := by decide +kernel
theorem dL_behind_40 : decode cL_behind 40 = .ok (.if_icmp .ne 5, 3) := by decide +kernel
theorem dL_behind_43 : decode cL_behind 43 = .ok (.iload_n 3, 1) := by decide +kernel
theorem dL_behind_44 : decode cL_behind 44 = .ok (.ireturn, 1) := by decide +kernel
theorem dL_behind_45 : decode cL_behind 45 = .ok (.iinc 4 1, 3) := by decide +kernel
theorem dL_behind_48 : decode cL_behind 48 = .ok (.goto (-22), 3) := by decide +kernel
theorem dL_behind_51 : decode cL_behind 51 = .ok (.iinc 3 1, 3) := by decide +kernel
theorem dL_behind_54 : decode cL_behind 54 = .ok (.goto (-52), 3) := by decide +kernel
theorem dL_behind_57 : decode cL_behind 57 = .ok (.bipush (-9), 2) := by decide +kernel
theorem dL_behind_59 : decode cL_behind 59 = .ok (.ireturn, 1) := by decide +kernel
theorem dL_go_0 : decode cL_go 0 = .ok (.iconst 3, 1) := by decide +kernel
theorem dL_go_1 : decode cL_go 1 = .ok (.iload_n 1, 1) := by decide +kernel
theorem dL_go_2 : decode cL_go 2 = .ok (.iconst 2, 1) := by decide +kernel
theorem dL_go_3 : decode cL_go 3 = .ok (.idiv, 1) := by decide +kernel
theorem dL_go_4 : decode cL_go 4 = .ok (.aload_n 0, 1) := by decide +kernel
theorem dL_go_5 : decode cL_go 5 = .ok (.iconst 0, 1) := by decide +kernel
theorem dL_go_6 : decode cL_go 6 = .ok (.iaload, 1) := by decide +kernel
theorem dL_go_7 : decode cL_go 7 = .ok (.irem, 1) := by decide +kernel
theorem dL_go_8 : decode cL_go 8 = .ok (.imul, 1) := by decide +kernel
theorem dL_go_9 : decode cL_go 9 = .ok (.iconst 1, 1) := by decide +kernel
theorem dL_go_10 : decode cL_go 10 = .ok (.iadd, 1) := by decide +kernel
theorem dL_go_11 : decode cL_go 11 = .ok (.iload_n 1, 1) := by decide +kernel
theorem dL_go_12 : decode cL_go 12 = .ok (.iconst 2, 1) := by decide +kernel
theorem dL_go_13 : decode cL_go 13 = .ok (.irem, 1) := by decide +kernel
theorem dL_go_14 : decode cL_go 14 = .ok (.iadd, 1) := by decide +kernel
theorem dL_go_15 : decode cL_go 15 = .ok (.i2l, 1) := by decide +kernel
theorem dL_go_16 : decode cL_go 16 = .ok (.lstore 6, 2) := by decide +kernel
theorem dL_go_18 : decode cL_go 18 = .ok (.iconst 3, 1) := by decide +kernel
theorem dL_go_19 : decode cL_go 19 = .ok (.iload_n 1, 1) := by decide +kernel
theorem dL_go_20 : decode cL_go 20 = .ok (.iconst 2, 1) := by decide +kernel
theorem dL_go_21 : decode cL_go 21 = .ok (.idiv, 1) := by decide +kernel
theorem dL_go_22 : decode cL_go 22 = .ok (.aload_n 0, 1) := by decide +kernel
theorem dL_go_23 : decode cL_go 23 = .ok (.iconst 0, 1) := by decide +kernel
theorem dL_go_24 : decode cL_go 24 = .ok (.iaload, 1) := by decide +kernel
theorem dL_go_25 : decode cL_go 25 = .ok (.idiv, 1) := by decide +kernel
theorem dL_go_26 : decode cL_go 26 = .ok (.imul, 1) := by decide +kernel
theorem dL_go_27 : decode cL_go 27 = .ok (.iconst 1, 1) := by decide +kernel
theorem dL_go_28 : decode cL_go 28 = .ok (.iadd, 1) := by decide +kernel
theorem dL_go_29 : decode cL_go 29 = .ok (.iload_n 1, 1) := by decide +kernel
theorem dL_go_30 : decode cL_go 30 = .ok (.iconst 2, 1) := by decide +kernel
theorem dL_go_31 : decode cL_go 31 = .ok (.irem, 1) := by decide +kernel
theorem dL_go_32 : decode cL_go 32 = .ok (.iadd, 1) := by decide +kernel
theorem dL_go_33 : decode cL_go 33 = .ok (.i2l, 1) := by decide +kernel
theorem dL_go_34 : decode cL_go 34 = .ok (.lstore 8, 2) := by decide +kernel
theorem dL_go_36 : decode cL_go 36 = .ok (.iload_n 2, 1) := by decide +kernel
theorem dL_go_37 : decode cL_go 37 = .ok (.i2l, 1) := by decide +kernel
theorem dL_go_38 : decode cL_go 38 = .ok (.lstore 10, 2) := by decide +kernel
theorem dL_go_40 : decode cL_go 40 = .ok (.iload_n 3, 1) := by decide +kernel
theorem dL_go_41 : decode cL_go 41 = .ok (.i2l, 1) := by decide +kernel
theorem dL_go_42 : decode cL_go 42 = .ok (.lstore 12, 2) := by decide +kernel
theorem dL_go_44 : decode cL_go 44 = .ok (.lconst 0, 1) := by decide +kernel
theorem dL_go_45 : decode cL_go 45 = .ok (.lstore 14, 2) := by decide +kernel
theorem dL_go_47 : decode cL_go 47 = .ok (.lconst 1, 1) := by decide +kernel
theorem dL_go_48 : decode cL_go 48 = .ok (.lstore 16, 2) := by decide +kernel
theorem dL_go_50 : decode cL_go 50 = .ok (.aload 5, 2) := by decide +kernel
theorem dL_go_52 : decode cL_go 52 = .ok (.iconst 0, 1) := by decide +kernel
theorem dL_go_53 : decode cL_go 53 = .ok (.iconst 0, 1) := by decide +kernel
theorem dL_go_54 : decode cL_go 54 = .ok (.iastore, 1) := by decide +kernel
theorem dL_go_55 : decode cL_go 55 = .ok (.aload 5, 2) := by decide +kernel
theorem dL_go_57 : decode cL_go 57 = .ok (.iconst 1, 1) := by decide +kernel
theorem dL_go_58 : decode cL_go 58 = .ok (.iconst 0, 1) := by decide +kernel
theorem dL_go_59 : decode cL_go 59 = .ok (.iastore, 1) := by decide +kernel
theorem dL_go_60 : decode cL_go 60 = .ok (.aload 5, 2) := by decide +kernel
theorem dL_go_62 : decode cL_go 62 = .ok (.iconst 2, 1) := by decide +kernel
theorem dL_go_63 : decode cL_go 63 = .ok (.iload_n 1, 1) := by decide +kernel
theorem dL_go_64 : decode cL_go 64 = .ok (.iastore, 1) := by decide +kernel
theorem dL_go_65 : decode cL_go 65 = .ok (.aload 5, 2) := by decide +kernel
theorem dL_go_67 : decode cL_go 67 = .ok (.iconst 3, 1) := by decide +kernel
theorem dL_go_68 : decode cL_go 68 = .ok (.bipush (-9), 2) := by decide +kernel
theorem dL_go_70 : decode cL_go 70 = .ok (.iastore, 1) := by decide +kernel
theorem dL_go_71 : decode cL_go 71 = .ok (.aload 5, 2) := by decide +kernel
theorem dL_go_73 : decode cL_go 73 = .ok (.iconst 4, 1) := by decide +kernel
theorem dL_go_74 : decode cL_go 74 = .ok (.iconst 0, 1) := by decide +kernel
theorem dL_go_75 : decode cL_go 75 = .ok (.iastore, 1) := by decide +kernel
theorem dL_go_76 : decode cL_go 76 = .ok (.iload 4, 2) := by decide +kernel
theorem dL_go_78 : decode cL_go 78 = .ok (.ifCond .lt 12, 3) := by decide +kernel
theorem dL_go_81 : decode cL_go 81 = .ok (.aload 5, 2) := by decide +kernel
theorem dL_go_83 : decode cL_go 83 = .ok (.iconst 0, 1) := by decide +kernel
theorem dL_go_84 : decode cL_go 84 = .ok (.iaload, 1) := by decide +kernel
theorem dL_go_85 : decode cL_go 85 = .ok (.iload 4, 2) := by decide +kernel
theorem dL_go_87 : decode cL_go 87 = .ok (.if_icmp .ge 551, 3) := by decide +kernel
theorem dL_go_90 : decode cL_go 90 = .ok (.aload 5, 2) := by decide +kernel
theorem dL_go_92 : decode cL_go 92 = .ok (.iconst 2, 1) := by decide +kernel
theorem dL_go_93 : decode cL_go 93 = .ok (.iaload, 1) := by decide +kernel
theorem dL_go_94 : decode cL_go 94 = .ok (.istore 18, 2) := by decide +kernel
theorem dL_go_96 : decode cL_go 96 = .ok (.iconst 3, 1) := by decide +kernel
theorem dL_go_97 : decode cL_go 97 = .ok (.iload 18, 2) := by decide +kernel
theorem dL_go_99 : decode cL_go 99 = .ok (.iconst 2, 1) := by decide +kernel
theorem dL_go_100 : decode cL_go 100 = .ok (.idiv, 1) := by decide +kernel
theorem dL_go_101 : decode cL_go 101 = .ok (.aload_n 0, 1) := by decide +kernel
theorem dL_go_102 : decode cL_go 102 = .ok (.iconst 0, 1) := by decide +kernel
theorem dL_go_103 : decode cL_go 103 = .ok (.iaload, 1) := by decide +kernel
theorem dL_go_104 : decode cL_go 104 = .ok (.irem, 1) := by decide +kernel
theorem dL_go_105 : decode cL_go 105 = .ok (.imul, 1) := by decide +kernel
theorem dL_go_106 : decode cL_go 106 = .ok (.i2l, 1) := by decide +kernel
theorem dL_go_107 : decode cL_go 107 = .ok (.lstore 19, 2) := by decide +kernel
theorem dL_go_109 : decode cL_go 109 = .ok (.iconst 3, 1) := by decide +kernel
theorem dL_go_110 : decode cL_go 110 = .ok (.iload 18, 2) := by decide +kernel
theorem dL_go_112 : decode cL_go 112 = .ok (.iconst 2, 1) := by decide +kernel
theorem dL_go_113 : decode cL_go 113 = .ok (.idiv, 1) := by decide +kernel
theorem dL_go_114 : decode cL_go 114 = .ok (.aload_n 0, 1) := by decide +kernel
theorem dL_go_115 : decode cL_go 115 = .ok (.iconst 0, 1) := by decide +kernel
theorem dL_go_116 : decode cL_go 116 = .ok (.iaload, 1) := by decide +kernel
theorem dL_go_117 : decode cL_go 117 = .ok (.idiv, 1) := by decide +kernel
theorem dL_go_118 : decode cL_go 118 = .ok (.imul, 1) := by decide +kernel
theorem dL_go_119 : decode cL_go 119 = .ok (.i2l, 1) := by decide +kernel
theorem dL_go_120 : decode cL_go 120 = .ok (.lstore 21, 2) := by decide +kernel
theorem dL_go_122 : decode cL_go 122 = .ok (.iload 18, 2) := by decide +kernel
theorem dL_go_124 : decode cL_go 124 = .ok (.iconst 2, 1) := by decide +kernel
theorem dL_go_125 : decode cL_go 125 = .ok (.irem, 1) := by decide +kernel
theorem dL_go_126 : decode cL_go 126 = .ok (.istore 23, 2) := by decide +kernel
theorem dL_go_128 : decode cL_go 128 = .ok (.iconst (-1), 1) := by decide +kernel
theorem dL_go_129 : decode cL_go 129 = .ok (.istore 24, 2) := by decide +kernel
theorem dL_go_131 : decode cL_go 131 = .ok (.iconst 0, 1) := by decide +kernel
theorem dL_go_132 : decode cL_go 132 = .ok (.istore 25, 2) := by decide +kernel
theorem dL_go_134 : decode cL_go 134 = .ok (.lconst 0, 1) := by decide +kernel
theorem dL_go_135 : decode cL_go 135 = .ok (.lstore 26, 2) := by decide +kernel
theorem dL_go_137 : decode cL_go 137 = .ok (.lconst 1, 1) := by decide +kernel
theorem dL_go_138 : decode cL_go 138 = .ok (.lstore 28, 2) := by decide +kernel
theorem dL_go_140 : decode cL_go 140 = .ok (.lconst 0, 1) := by decide +kernel
theorem dL_go_141 : decode cL_go 141 = .ok (.lstore 30, 2) := by decide +kernel
theorem dL_go_143 : decode cL_go 143 = .ok (.iconst 0, 1) := by decide +kernel
theorem dL_go_144 : decode cL_go 144 = .ok (.istore 32, 2) := by decide +kernel
theorem dL_go_146 : decode cL_go 146 = .ok (.iload 32, 2) := by decide +kernel
theorem dL_go_148 : decode cL_go 148 = .ok (.iconst 3, 1) := by decide +kernel
theorem dL_go_149 : decode cL_go 149 = .ok (.if_icmp .ge 231, 3) := by decide +kernel
theorem dL_go_152 : decode cL_go 152 = .ok (.iload 32, 2) := by decide +kernel
theorem dL_go_154 : decode cL_go 154 = .ok (.ifCond .ne 14, 3) := by decide +kernel
theorem dL_go_157 : decode cL_go 157 = .ok (.lload 21, 2) := by decide +kernel
theorem dL_go_159 : decode cL_go 159 = .ok (.iconst 3, 1) := by decide +kernel
theorem dL_go_160 : decode cL_go 160 = .ok (.iload 23, 2) := by decide +kernel
theorem dL_go_162 : decode cL_go 162 = .ok (.imul, 1) := by decide +kernel
theorem dL_go_163 : decode cL_go 163 = .ok (.i2l, 1) := by decide +kernel
theorem dL_go_164 : decode cL_go 164 = .ok (.ladd, 1) := by decide +kernel
theorem dL_go_165 : decode cL_go 165 = .ok (.goto 29, 3) := by decide +kernel
theorem dL_go_168 : decode cL_go 168 = .ok (.iload 32, 2) := by decide +kernel
theorem dL_go_170 : decode cL_go 170 = .ok (.iconst 1, 1) := by decide +kernel
theorem dL_go_171 : decode cL_go 171 = .ok (.if_icmp .ne 14, 3) := by decide +kernel
theorem dL_go_174 : decode cL_go 174 = .ok (.lload 19, 2) := by decide +kernel
theorem dL_go_176 : decode cL_go 176 = .ok (.iconst 3, 1) := by decide +kernel
theorem dL_go_177 : decode cL_go 177 = .ok (.iload 23, 2) := by decide +kernel
theorem dL_go_179 : decode cL_go 179 = .ok (.imul, 1) := by decide +kernel
theorem dL_go_180 : decode cL_go 180 = .ok (.i2l, 1) := by decide +kernel
theorem dL_go_181 : decode cL_go 181 = .ok (.ladd, 1) := by decide +kernel
theorem dL_go_182 : decode cL_go 182 = .ok (.goto 12, 3) := by decide +kernel
theorem dL_go_185 : decode cL_go 185 = .ok (.lload 19, 2) := by decide +kernel
theorem dL_go_187 : decode cL_go 187 = .ok (.lload 21, 2) := by decide +kernel
theorem dL_go_189 : decode cL_go 189 = .ok (.ladd, 1) := by decide +kernel
theorem dL_go_190 : decode cL_go 190 = .ok (.ldc2_w 32, 3) := by decide +kernel
theorem dL_go_193 : decode cL_go 193 = .ok (.ladd, 1) := by decide +kernel
theorem dL_go_194 : decode cL_go 194 = .ok (.lstore 33, 2) := by decide +kernel
theorem dL_go_196 : decode cL_go 196 = .ok (.iload 32, 2) := by decide +kernel
theorem dL_go_198 : decode cL_go 198 = .ok (.ifCond .ne 8, 3) := by decide +kernel
theorem dL_go_201 : decode cL_go 201 = .ok (.lload 12, 2) := by decide +kernel
theorem dL_go_203 : decode cL_go 203 = .ok (.goto 19, 3) := by decide +kernel
theorem dL_go_206 : decode cL_go 206 = .ok (.iload 32, 2) := by decide +kernel
theorem dL_go_208 : decode cL_go 208 = .ok (.iconst 1, 1) := by decide +kernel
theorem dL_go_209 : decode cL_go 209 = .ok (.if_icmp .ne 8, 3) := by decide +kernel
theorem dL_go_212 : decode cL_go 212 = .ok (.lload 10, 2) := by decide +kernel
theorem dL_go_214 : decode cL_go 214 = .ok (.goto 8, 3) := by decide +kernel
theorem dL_go_217 : decode cL_go 217 = .ok (.lload 10, 2) := by decide +kernel
theorem dL_go_219 : decode cL_go 219 = .ok (.lload 12, 2) := by decide +kernel
theorem dL_go_221 : decode cL_go 221 = .ok (.ladd, 1) := by decide +kernel
theorem dL_go_222 : decode cL_go 222 = .ok (.lstore 35, 2) := by decide +kernel
theorem dL_go_224 : decode cL_go 224 = .ok (.lload 33, 2) := by decide +kernel
theorem dL_go_226 : decode cL_go 226 = .ok (.iload 32, 2) := by decide +kernel
theorem dL_go_228 : decode cL_go 228 = .ok (.ifCond .ne 8, 3) := by decide +kernel
theorem dL_go_231 : decode cL_go 231 = .ok (.lload 8, 2) := by decide +kernel
theorem dL_go_233 : decode cL_go 233 = .ok (.goto 19, 3) := by decide +kernel
theorem dL_go_236 : decode cL_go 236 = .ok (.iload 32, 2) := by decide +kernel
theorem dL_go_238 : decode cL_go 238 = .ok (.iconst 1, 1) := by decide +kernel
theorem dL_go_239 : decode cL_go 239 = .ok (.if_icmp .ne 8, 3) := by decide +kernel
theorem dL_go_242 : decode cL_go 242 = .ok (.lload 6, 2) := by decide +kernel
theorem dL_go_244 : decode cL_go 244 = .ok (.goto 8, 3) := by decide +kernel
theorem dL_go_247 : decode cL_go 247 = .ok (.lload 6, 2) := by decide +kernel
theorem dL_go_249 : decode cL_go 249 = .ok (.lload 8, 2) := by decide +kernel
theorem dL_go_251 : decode cL_go 251 = .ok (.ladd, 1) := by decide +kernel
theorem dL_go_252 : decode cL_go 252 = .ok (.lsub, 1) := by decide +kernel
theorem dL_go_253 : decode cL_go 253 = .ok (.lstore 37, 2) := by decide +kernel
theorem dL_go_255 : decode cL_go 255 = .ok (.lload 35, 2) := by decide +kernel
theorem dL_go_257 : decode cL_go 257 = .ok (.lconst 0, 1) := by decide +kernel
theorem dL_go_258 : decode cL_go 258 = .ok (.lcmp, 1) := by decide +kernel
theorem dL_go_259 : decode cL_go 259 = .ok (.ifCond .ge 9, 3) := by decide +kernel
theorem dL_go_262 : decode cL_go 262 = .ok (.lload 37, 2) := by decide +kernel
theorem dL_go_264 : decode cL_go 264 = .ok (.lneg, 1) := by decide +kernel
theorem dL_go_265 : decode cL_go 265 = .ok (.goto 5, 3) := by decide +kernel
theorem dL_go_268 : decode cL_go 268 = .ok (.lload 37, 2) := by decide +kernel
theorem dL_go_270 : decode cL_go 270 = .ok (.lstore 37, 2) := by decide +kernel
theorem dL_go_272 : decode cL_go 272 = .ok (.lload 35, 2) := by decide +kernel
theorem dL_go_274 : decode cL_go 274 = .ok (.lconst 0, 1) := by decide +kernel
theorem dL_go_275 : decode cL_go 275 = .ok (.lcmp, 1) := by decide +kernel
theorem dL_go_276 : decode cL_go 276 = .ok (.ifCond .ge 9, 3) := by decide +kernel
theorem dL_go_279 : decode cL_go 279 = .ok (.lload 35, 2) := by decide +kernel
theorem dL_go_281 : decode cL_go 281 = .ok (.lneg, 1) := by decide +kernel
theorem dL_go_282 : decode cL_go 282 = .ok (.goto 5, 3) := by decide +kernel
theorem dL_go_285 : decode cL_go 285 = .ok (.lload 35, 2) := by decide +kernel
theorem dL_go_287 : decode cL_go 287 = .ok (.lstore 35, 2) := by decide +kernel
theorem dL_go_289 : decode cL_go 289 = .ok (.lload 35, 2) := by decide +kernel
theorem dL_go_291 : decode cL_go 291 = .ok (.lconst 0, 1) := by decide +kernel
theorem dL_go_292 : decode cL_go 292 = .ok (.lcmp, 1) := by decide +kernel
theorem dL_go_293 : decode cL_go 293 = .ok (.ifCond .eq 81, 3) := by decide +kernel
theorem dL_go_296 : decode cL_go 296 = .ok (.lload 37, 2) := by decide +kernel
theorem dL_go_298 : decode cL_go 298 = .ok (.lload 16, 2) := by decide +kernel
theorem dL_go_300 : decode cL_go 300 = .ok (.lmul, 1) := by decide +kernel
theorem dL_go_301 : decode cL_go 301 = .ok (.lload 14, 2) := by decide +kernel
theorem dL_go_303 : decode cL_go 303 = .ok (.lload 35, 2) := by decide +kernel
theorem dL_go_305 : decode cL_go 305 = .ok (.lmul, 1) := by decide +kernel
theorem dL_go_306 : decode cL_go 306 = .ok (.lcmp, 1) := by decide +kernel
theorem dL_go_307 : decode cL_go 307 = .ok (.ifCond .le 67, 3) := by decide +kernel
theorem dL_go_310 : decode cL_go 310 = .ok (.iload 24, 2) := by decide +kernel
theorem dL_go_312 : decode cL_go 312 = .ok (.ifCond .lt 20, 3) := by decide +kernel
theorem dL_go_315 : decode cL_go 315 = .ok (.lload 37, 2) := by decide +kernel
theorem dL_go_317 : decode cL_go 317 = .ok (.lload 28, 2) := by decide +kernel
theorem dL_go_319 : decode cL_go 319 = .ok (.lmul, 1) := by decide +kernel
theorem dL_go_320 : decode cL_go 320 = .ok (.lload 26, 2) := by decide +kernel
theorem dL_go_322 : decode cL_go 322 = .ok (.lload 35, 2) := by decide +kernel
theorem dL_go_324 : decode cL_go 324 = .ok (.lmul, 1) := by decide +kernel
theorem dL_go_325 : decode cL_go 325 = .ok (.lcmp, 1) := by decide +kernel
theorem dL_go_326 : decode cL_go 326 = .ok (.ifCond .le 6, 3) := by decide +kernel
theorem dL_go_329 : decode cL_go 329 = .ok (.goto 45, 3) := by decide +kernel
theorem dL_go_332 : decode cL_go 332 = .ok (.iload 24, 2) := by decide +kernel
theorem dL_go_334 : decode cL_go 334 = .ok (.ifCond .lt 21, 3) := by decide +kernel
theorem dL_go_337 : decode cL_go 337 = .ok (.lload 37, 2) := by decide +kernel
theorem dL_go_339 : decode cL_go 339 = .ok (.lload 28, 2) := by decide +kernel
theorem dL_go_341 : decode cL_go 341 = .ok (.lmul, 1) := by decide +kernel
theorem dL_go_342 : decode cL_go 342 = .ok (.lload 26, 2) := by decide +kernel
theorem dL_go_344 : decode cL_go 344 = .ok (.lload 35, 2) := by decide +kernel
theorem dL_go_346 : decode cL_go 346 = .ok (.lmul, 1) := by decide +kernel
theorem dL_go_347 : decode cL_go 347 = .ok (.lcmp, 1) := by decide +kernel
theorem dL_go_348 : decode cL_go 348 = .ok (.ifCond .ne 7, 3) := by decide +kernel
theorem dL_go_351 : decode cL_go 351 = .ok (.iconst 1, 1) := by decide +kernel
theorem dL_go_352 : decode cL_go 352 = .ok (.goto 4, 3) := by decide +kernel
theorem dL_go_355 : decode cL_go 355 = .ok (.iconst 0, 1) := by decide +kernel
theorem dL_go_356 : decode cL_go 356 = .ok (.istore 25, 2) := by decide +kernel
theorem dL_go_358 : decode cL_go 358 = .ok (.iload 32, 2) := by decide +kernel
theorem dL_go_360 : decode cL_go 360 = .ok (.istore 24, 2) := by decide +kernel
theorem dL_go_362 : decode cL_go 362 = .ok (.lload 37, 2) := by decide +kernel
theorem dL_go_364 : decode cL_go 364 = .ok (.lstore 26, 2) := by decide +kernel
theorem dL_go_366 : decode cL_go 366 = .ok (.lload 35, 2) := by decide +kernel
theorem dL_go_368 : decode cL_go 368 = .ok (.lstore 28, 2) := by decide +kernel
theorem dL_go_370 : decode cL_go 370 = .ok (.lload 33, 2) := by decide +kernel
theorem dL_go_372 : decode cL_go 372 = .ok (.lstore 30, 2) := by decide +kernel
theorem dL_go_374 : decode cL_go 374 = .ok (.iinc 32 1, 3) := by decide +kernel
theorem dL_go_377 : decode cL_go 377 = .ok (.goto (-231), 3) := by decide +kernel
theorem dL_go_380 : decode cL_go 380 = .ok (.iload 4, 2) := by decide +kernel
theorem dL_go_382 : decode cL_go 382 = .ok (.ifCond .ge 56, 3) := by decide +kernel
theorem dL_go_385 : decode cL_go 385 = .ok (.lload 26, 2) := by decide +kernel
theorem dL_go_387 : decode cL_go 387 = .ok (.lload 28, 2) := by decide +kernel
theorem dL_go_389 : decode cL_go 389 = .ok (.lcmp, 1) := by decide +kernel
theorem dL_go_390 : decode cL_go 390 = .ok (.ifCond .lt 48, 3) := by decide +kernel
theorem dL_go_393 : decode cL_go 393 = .ok (.aload 5, 2) := by decide +kernel
theorem dL_go_395 : decode cL_go 395 = .ok (.iconst 4, 1) := by decide +kernel
theorem dL_go_396 : decode cL_go 396 = .ok (.lload 6, 2) := by decide +kernel
theorem dL_go_398 : decode cL_go 398 = .ok (.lload 10, 2) := by decide +kernel
theorem dL_go_400 : decode cL_go 400 = .ok (.ladd, 1) := by decide +kernel
theorem dL_go_401 : decode cL_go 401 = .ok (.lload 19, 2) := by decide +kernel
theorem dL_go_403 : decode cL_go 403 = .ok (.lconst 1, 1) := by decide +kernel
theorem dL_go_404 : decode cL_go 404 = .ok (.ladd, 1) := by decide +kernel
theorem dL_go_405 : decode cL_go 405 = .ok (.iload 23, 2) := by decide +kernel
theorem dL_go_407 : decode cL_go 407 = .ok (.i2l, 1) := by decide +kernel
theorem dL_go_408 : decode cL_go 408 = .ok (.ladd, 1) := by decide +kernel
theorem dL_go_409 : decode cL_go 409 = .ok (.lcmp, 1) := by decide +kernel
theorem dL_go_410 : decode cL_go 410 = .ok (.ifCond .ne 24, 3) := by decide +kernel
theorem dL_go_413 : decode cL_go 413 = .ok (.lload 8, 2) := by decide +kernel
theorem dL_go_415 : decode cL_go 415 = .ok (.lload 12, 2) := by decide +kernel
theorem dL_go_417 : decode cL_go 417 = .ok (.ladd, 1) := by decide +kernel
theorem dL_go_418 : decode cL_go 418 = .ok (.lload 21, 2) := by decide +kernel
theorem dL_go_420 : decode cL_go 420 = .ok (.lconst 1, 1) := by decide +kernel
theorem dL_go_421 : decode cL_go 421 = .ok (.ladd, 1) := by decide +kernel
theorem dL_go_422 : decode cL_go 422 = .ok (.iload 23, 2) := by decide +kernel
theorem dL_go_424 : decode cL_go 424 = .ok (.i2l, 1) := by decide +kernel
theorem dL_go_425 : decode cL_go 425 = .ok (.ladd, 1) := by decide +kernel
theorem dL_go_426 : decode cL_go 426 = .ok (.lcmp, 1) := by decide +kernel
theorem dL_go_427 : decode cL_go 427 = .ok (.ifCond .ne 7, 3) := by decide +kernel
theorem dL_go_430 : decode cL_go 430 = .ok (.iconst 1, 1) := by decide +kernel
theorem dL_go_431 : decode cL_go 431 = .ok (.goto 4, 3) := by decide +kernel
theorem dL_go_434 : decode cL_go 434 = .ok (.iconst 0, 1) := by decide +kernel
theorem dL_go_435 : decode cL_go 435 = .ok (.iastore, 1) := by decide +kernel
theorem dL_go_436 : decode cL_go 436 = .ok (.iconst 2, 1) := by decide +kernel
theorem dL_go_437 : decode cL_go 437 = .ok (.ireturn, 1) := by decide +kernel
theorem dL_go_438 : decode cL_go 438 = .ok (.iload 25, 2) := by decide +kernel
theorem dL_go_440 : decode cL_go 440 = .ok (.ifCond .eq 5, 3) := by decide +kernel
theorem dL_go_443 : decode cL_go 443 = .ok (.iconst 0, 1) := by decide +kernel
theorem dL_go_444 : decode cL_go 444 = .ok (.ireturn, 1) := by decide +kernel
theorem dL_go_445 : decode cL_go 445 = .ok (.aload_n 0, 1) := by decide +kernel
theorem dL_go_446 : decode cL_go 446 = .ok (.iload 18, 2) := by decide +kernel
theorem dL_go_448 : decode cL_go 448 = .ok (.iload 24, 2) := by decide +kernel
theorem dL_go_450 : decode cL_go 450 = .ok (.invokestatic 28, 3) := by decide +kernel
theorem dL_go_453 : decode cL_go 453 = .ok (.istore 32, 2) := by decide +kernel
theorem dL_go_455 : decode cL_go 455 = .ok (.aload 5, 2) := by decide +kernel
theorem dL_go_457 : decode cL_go 457 = .ok (.iconst 0, 1) := by decide +kernel
theorem dL_go_458 : decode cL_go 458 = .ok (.dup2, 1) := by decide +kernel
theorem dL_go_459 : decode cL_go 459 = .ok (.iaload, 1) := by decide +kernel
theorem dL_go_460 : decode cL_go 460 = .ok (.iconst 1, 1) := by decide +kernel
theorem dL_go_461 : decode cL_go 461 = .ok (.iadd, 1) := by decide +kernel
theorem dL_go_462 : decode cL_go 462 = .ok (.iastore, 1) := by decide +kernel
theorem dL_go_463 : decode cL_go 463 = .ok (.aload 5, 2) := by decide +kernel
theorem dL_go_465 : decode cL_go 465 = .ok (.iconst 3, 1) := by decide +kernel
theorem dL_go_466 : decode cL_go 466 = .ok (.iload 32, 2) := by decide +kernel
theorem dL_go_468 : decode cL_go 468 = .ok (.iastore, 1) := by decide +kernel
theorem dL_go_469 : decode cL_go 469 = .ok (.lload 26, 2) := by decide +kernel
theorem dL_go_471 : decode cL_go 471 = .ok (.lstore 14, 2) := by decide +kernel
theorem dL_go_473 : decode cL_go 473 = .ok (.lload 28, 2) := by decide +kernel
theorem dL_go_475 : decode cL_go 475 = .ok (.lstore 16, 2) := by decide +kernel
theorem dL_go_477 : decode cL_go 477 = .ok (.aload_n 0, 1) := by decide +kernel
theorem dL_go_478 : decode cL_go 478 = .ok (.iconst 3, 1) := by decide +kernel
theorem dL_go_479 : decode cL_go 479 = .ok (.iload 32, 2) := by decide +kernel
theorem dL_go_481 : decode cL_go 481 = .ok (.iadd, 1) := by decide +kernel
theorem dL_go_482 : decode cL_go 482 = .ok (.iaload, 1) := by decide +kernel
theorem dL_go_483 : decode cL_go 483 = .ok (.ifCond .le 29, 3) := by decide +kernel
theorem dL_go_486 : decode cL_go 486 = .ok (.aload_n 0, 1) := by decide +kernel
theorem dL_go_487 : decode cL_go 487 = .ok (.iload 18, 2) := by decide +kernel
theorem dL_go_489 : decode cL_go 489 = .ok (.iload 32, 2) := by decide +kernel
theorem dL_go_491 : decode cL_go 491 = .ok (.invokestatic 34, 3) := by decide +kernel
theorem dL_go_494 : decode cL_go 494 = .ok (.istore 33, 2) := by decide +kernel
theorem dL_go_496 : decode cL_go 496 = .ok (.iload 33, 2) := by decide +kernel
theorem dL_go_498 : decode cL_go 498 = .ok (.ifCond .ge 5, 3) := by decide +kernel
theorem dL_go_501 : decode cL_go 501 = .ok (.iconst 1, 1) := by decide +kernel
theorem dL_go_502 : decode cL_go 502 = .ok (.ireturn, 1) := by decide +kernel
theorem dL_go_503 : decode cL_go 503 = .ok (.aload 5, 2) := by decide +kernel
theorem dL_go_505 : decode cL_go 505 = .ok (.iconst 2, 1) := by decide +kernel
theorem dL_go_506 : decode cL_go 506 = .ok (.iload 33, 2) := by decide +kernel
theorem dL_go_508 : decode cL_go 508 = .ok (.iastore, 1) := by decide +kernel
theorem dL_go_509 : decode cL_go 509 = .ok (.goto (-433), 3) := by decide +kernel
theorem dL_go_512 : decode cL_go 512 = .ok (.aload 5, 2) := by decide +kernel
theorem dL_go_514 : decode cL_go 514 = .ok (.iconst 1, 1) := by decide +kernel
theorem dL_go_515 : decode cL_go 515 = .ok (.dup2, 1) := by decide +kernel
theorem dL_go_516 : decode cL_go 516 = .ok (.iaload, 1) := by decide +kernel
theorem dL_go_517 : decode cL_go 517 = .ok (.iconst 1, 1) := by decide +kernel
theorem dL_go_518 : decode cL_go 518 = .ok (.iadd, 1) := by decide +kernel
theorem dL_go_519 : decode cL_go 519 = .ok (.iastore, 1) := by decide +kernel
theorem dL_go_520 : decode cL_go 520 = .ok (.lload 6, 2) := by decide +kernel
theorem dL_go_522 : decode cL_go 522 = .ok (.lstore 33, 2) := by decide +kernel
theorem dL_go_524 : decode cL_go 524 = .ok (.lload 10, 2) := by decide +kernel
theorem dL_go_526 : decode cL_go 526 = .ok (.lstore 35, 2) := by decide +kernel
theorem dL_go_528 : decode cL_go 528 = .ok (.iload 24, 2) := by decide +kernel
theorem dL_go_530 : decode cL_go 530 = .ok (.ifCond .ne 39, 3) := by decide +kernel
theorem dL_go_533 : decode cL_go 533 = .ok (.lload 6, 2) := by decide +kernel
theorem dL_go_535 : decode cL_go 535 = .ok (.lload 8, 2) := by decide +kernel
theorem dL_go_537 : decode cL_go 537 = .ok (.ladd, 1) := by decide +kernel
theorem dL_go_538 : decode cL_go 538 = .ok (.lload 30, 2) := by decide +kernel
theorem dL_go_540 : decode cL_go 540 = .ok (.lsub, 1) := by decide +kernel
theorem dL_go_541 : decode cL_go 541 = .ok (.lstore 6, 2) := by decide +kernel
theorem dL_go_543 : decode cL_go 543 = .ok (.ldc2_w 37, 3) := by decide +kernel
theorem dL_go_546 : decode cL_go 546 = .ok (.lload 30, 2) := by decide +kernel
theorem dL_go_548 : decode cL_go 548 = .ok (.lmul, 1) := by decide +kernel
theorem dL_go_549 : decode cL_go 549 = .ok (.lload 8, 2) := by decide +kernel
theorem dL_go_551 : decode cL_go 551 = .ok (.lsub, 1) := by decide +kernel
theorem dL_go_552 : decode cL_go 552 = .ok (.lstore 8, 2) := by decide +kernel
theorem dL_go_554 : decode cL_go 554 = .ok (.lload 10, 2) := by decide +kernel
theorem dL_go_556 : decode cL_go 556 = .ok (.lload 12, 2) := by decide +kernel
theorem dL_go_558 : decode cL_go 558 = .ok (.ladd, 1) := by decide +kernel
theorem dL_go_559 : decode cL_go 559 = .ok (.lstore 10, 2) := by decide +kernel
theorem dL_go_561 : decode cL_go 561 = .ok (.lload 12, 2) := by decide +kernel
theorem dL_go_563 : decode cL_go 563 = .ok (.lneg, 1) := by decide +kernel
theorem dL_go_564 : decode cL_go 564 = .ok (.lstore 12, 2) := by decide +kernel
theorem dL_go_566 : decode cL_go 566 = .ok (.goto 69, 3) := by decide +kernel
theorem dL_go_569 : decode cL_go 569 = .ok (.iload 24, 2) := by decide +kernel
theorem dL_go_571 : decode cL_go 571 = .ok (.iconst 1, 1) := by decide +kernel
theorem dL_go_572 : decode cL_go 572 = .ok (.if_icmp .ne 39, 3) := by decide +kernel
theorem dL_go_575 : decode cL_go 575 = .ok (.lload 8, 2) := by decide +kernel
theorem dL_go_577 : decode cL_go 577 = .ok (.lload 6, 2) := by decide +kernel
theorem dL_go_579 : decode cL_go 579 = .ok (.ladd, 1) := by decide +kernel
theorem dL_go_580 : decode cL_go 580 = .ok (.lload 30, 2) := by decide +kernel
theorem dL_go_582 : decode cL_go 582 = .ok (.lsub, 1) := by decide +kernel
theorem dL_go_583 : decode cL_go 583 = .ok (.lstore 8, 2) := by decide +kernel
theorem dL_go_585 : decode cL_go 585 = .ok (.ldc2_w 37, 3) := by decide +kernel
theorem dL_go_588 : decode cL_go 588 = .ok (.lload 30, 2) := by decide +kernel
theorem dL_go_590 : decode cL_go 590 = .ok (.lmul, 1) := by decide +kernel
theorem dL_go_591 : decode cL_go 591 = .ok (.lload 33, 2) := by decide +kernel
theorem dL_go_593 : decode cL_go 593 = .ok (.lsub, 1) := by decide +kernel
theorem dL_go_594 : decode cL_go 594 = .ok (.lstore 6, 2) := by decide +kernel
theorem dL_go_596 : decode cL_go 596 = .ok (.lload 12, 2) := by decide +kernel
theorem dL_go_598 : decode cL_go 598 = .ok (.lload 10, 2) := by decide +kernel
theorem dL_go_600 : decode cL_go 600 = .ok (.ladd, 1) := by decide +kernel
theorem dL_go_601 : decode cL_go 601 = .ok (.lstore 12, 2) := by decide +kernel
theorem dL_go_603 : decode cL_go 603 = .ok (.lload 35, 2) := by decide +kernel
theorem dL_go_605 : decode cL_go 605 = .ok (.lneg, 1) := by decide +kernel
theorem dL_go_606 : decode cL_go 606 = .ok (.lstore 10, 2) := by decide +kernel
theorem dL_go_608 : decode cL_go 608 = .ok (.goto 27, 3) := by decide +kernel
theorem dL_go_611 : decode cL_go 611 = .ok (.lload 30, 2) := by decide +kernel
theorem dL_go_613 : decode cL_go 613 = .ok (.lload 8, 2) := by decide +kernel
theorem dL_go_615 : decode cL_go 615 = .ok (.lsub, 1) := by decide +kernel
theorem dL_go_616 : decode cL_go 616 = .ok (.lstore 6, 2) := by decide +kernel
theorem dL_go_618 : decode cL_go 618 = .ok (.lload 30, 2) := by decide +kernel
theorem dL_go_620 : decode cL_go 620 = .ok (.lload 33, 2) := by decide +kernel
theorem dL_go_622 : decode cL_go 622 = .ok (.lsub, 1) := by decide +kernel
theorem dL_go_623 : decode cL_go 623 = .ok (.lstore 8, 2) := by decide +kernel
theorem dL_go_625 : decode cL_go 625 = .ok (.lload 12, 2) := by decide +kernel
theorem dL_go_627 : decode cL_go 627 = .ok (.lneg, 1) := by decide +kernel
theorem dL_go_628 : decode cL_go 628 = .ok (.lstore 10, 2) := by decide +kernel
theorem dL_go_630 : decode cL_go 630 = .ok (.lload 35, 2) := by decide +kernel
theorem dL_go_632 : decode cL_go 632 = .ok (.lneg, 1) := by decide +kernel
theorem dL_go_633 : decode cL_go 633 = .ok (.lstore 12, 2) := by decide +kernel
theorem dL_go_635 : decode cL_go 635 = .ok (.goto (-559), 3) := by decide +kernel
theorem dL_go_638 : decode cL_go 638 = .ok (.iconst 2, 1) := by decide +kernel
theorem dL_go_639 : decode cL_go 639 = .ok (.ireturn, 1) := by decide +kernel
theorem dL_law_0 : decode cL_law 0 = .ok (.new 20, 3) := by decide +kernel
theorem dL_law_3 : decode cL_law 3 = .ok (.dup, 1) := by decide +kernel
theorem dL_law_4 : decode cL_law 4 = .ok (.invokespecial 39, 3) := by decide +kernel
theorem dL_law_7 : decode cL_law 7 = .ok (.astore_n 1, 1) := by decide +kernel
theorem dL_law_8 : decode cL_law 8 = .ok (.bipush 50, 2) := by decide +kernel
theorem dL_law_10 : decode cL_law 10 = .ok (.newarray .int, 2) := by decide +kernel
theorem dL_law_12 : decode cL_law 12 = .ok (.astore_n 2, 1) := by decide +kernel
theorem dL_law_13 : decode cL_law 13 = .ok (.aload_n 1, 1) := by decide +kernel
theorem dL_law_14 : decode cL_law 14 = .ok (.aload_n 0, 1) := by decide +kernel
theorem dL_law_15 : decode cL_law 15 = .ok (.iconst 0, 1) := by decide +kernel
theorem dL_law_16 : decode cL_law 16 = .ok (.iconst 4, 1) := by decide +kernel
theorem dL_law_17 : decode cL_law 17 = .ok (.iconst 3, 1) := by decide +kernel
theorem dL_law_18 : decode cL_law 18 = .ok (.aload_n 2, 1) := by decide +kernel
theorem dL_law_19 : decode cL_law 19 = .ok (.invokestatic 40, 3) := by decide +kernel
theorem dL_law_22 : decode cL_law 22 = .ok (.istore_n 3, 1) := by decide +kernel
theorem dL_law_23 : decode cL_law 23 = .ok (.iload_n 3, 1) := by decide +kernel
theorem dL_law_24 : decode cL_law 24 = .ok (.bipush 10, 2) := by decide +kernel
theorem dL_law_26 : decode cL_law 26 = .ok (.if_icmp .lt 14, 3) := by decide +kernel
theorem dL_law_29 : decode cL_law 29 = .ok (.aload_n 1, 1) := by decide +kernel
theorem dL_law_30 : decode cL_law 30 = .ok (.iconst 0, 1) := by decide +kernel
theorem dL_law_31 : decode cL_law 31 = .ok (.iconst 1, 1) := by decide +kernel
theorem dL_law_32 : decode cL_law 32 = .ok (.iconst 0, 1) := by decide +kernel
theorem dL_law_33 : decode cL_law 33 = .ok (.iload_n 3, 1) := by decide +kernel
theorem dL_law_34 : decode cL_law 34 = .ok (.invokevirtual 43, 3) := by decide +kernel
theorem dL_law_37 : decode cL_law 37 = .ok (.ifCond .eq 5, 3) := by decide +kernel
theorem dL_law_40 : decode cL_law 40 = .ok (.iconst 0, 1) := by decide +kernel
theorem dL_law_41 : decode cL_law 41 = .ok (.ireturn, 1) := by decide +kernel
theorem dL_law_42 : decode cL_law 42 = .ok (.iconst 2, 1) := by decide +kernel
theorem dL_law_43 : decode cL_law 43 = .ok (.aload_n 2, 1) := by decide +kernel
theorem dL_law_44 : decode cL_law 44 = .ok (.iconst 0, 1) := by decide +kernel
theorem dL_law_45 : decode cL_law 45 = .ok (.iaload, 1) := by decide +kernel
theorem dL_law_46 : decode cL_law 46 = .ok (.imul, 1) := by decide +kernel
theorem dL_law_47 : decode cL_law 47 = .ok (.aload_n 2, 1) := by decide +kernel
theorem dL_law_48 : decode cL_law 48 = .ok (.iconst 1, 1) := by decide +kernel
theorem dL_law_49 : decode cL_law 49 = .ok (.iaload, 1) := by decide +kernel
theorem dL_law_50 : decode cL_law 50 = .ok (.imul, 1) := by decide +kernel
theorem dL_law_51 : decode cL_law 51 = .ok (.istore 4, 2) := by decide +kernel
theorem dL_law_53 : decode cL_law 53 = .ok (.iconst 5, 1) := by decide +kernel
theorem dL_law_54 : decode cL_law 54 = .ok (.newarray .int, 2) := by decide +kernel
theorem dL_law_56 : decode cL_law 56 = .ok (.astore 5, 2) := by decide +kernel
theorem dL_law_58 : decode cL_law 58 = .ok (.iconst 0, 1) := by decide +kernel
theorem dL_law_59 : decode cL_law 59 = .ok (.istore 6, 2) := by decide +kernel
theorem dL_law_61 : decode cL_law 61 = .ok (.iload 6, 2) := by decide +kernel
theorem dL_law_63 : decode cL_law 63 = .ok (.bipush 14, 2) := by decide +kernel
theorem dL_law_65 : decode cL_law 65 = .ok (.if_icmp .ge 570, 3) := by decide +kernel
theorem dL_law_68 : decode cL_law 68 = .ok (.aload_n 0, 1) := by decide +kernel
theorem dL_law_69 : decode cL_law 69 = .ok (.bipush 6, 2) := by decide +kernel
theorem dL_law_71 : decode cL_law 71 = .ok (.iload 6, 2) := by decide +kernel
theorem dL_law_73 : decode cL_law 73 = .ok (.iadd, 1) := by decide +kernel
theorem dL_law_74 : decode cL_law 74 = .ok (.invokestatic 9, 3) := by decide +kernel
theorem dL_law_77 : decode cL_law 77 = .ok (.istore 7, 2) := by decide +kernel
theorem dL_law_79 : decode cL_law 79 = .ok (.iload 7, 2) := by decide +kernel
theorem dL_law_81 : decode cL_law 81 = .ok (.iload 4, 2) := by decide +kernel
theorem dL_law_83 : decode cL_law 83 = .ok (.invokestatic 15, 3) := by decide +kernel
theorem dL_law_86 : decode cL_law 86 = .ok (.istore 8, 2) := by decide +kernel
theorem dL_law_88 : decode cL_law 88 = .ok (.iload 7, 2) := by decide +kernel
theorem dL_law_90 : decode cL_law 90 = .ok (.bipush 20, 2) := by decide +kernel
theorem dL_law_92 : decode cL_law 92 = .ok (.ishr, 1) := by decide +kernel
theorem dL_law_93 : decode cL_law 93 = .ok (.iconst 3, 1) := by decide +kernel
theorem dL_law_94 : decode cL_law 94 = .ok (.invokestatic 15, 3) := by decide +kernel
theorem dL_law_97 : decode cL_law 97 = .ok (.ifCond .ne 8, 3) := by decide +kernel
theorem dL_law_100 : decode cL_law 100 = .ok (.bipush 60, 2) := by decide +kernel
theorem dL_law_102 : decode cL_law 102 = .ok (.goto 5, 3) := by decide +kernel
theorem dL_law_105 : decode cL_law 105 = .ok (.bipush 12, 2) := by decide +kernel
theorem dL_law_107 : decode cL_law 107 = .ok (.istore 9, 2) := by decide +kernel
theorem dL_law_109 : decode cL_law 109 = .ok (.iload 7, 2) := by decide +kernel
theorem dL_law_111 : decode cL_law 111 = .ok (.iconst 5, 1) := by decide +kernel
theorem dL_law_112 : decode cL_law 112 = .ok (.ishr, 1) := by decide +kernel
theorem dL_law_113 : decode cL_law 113 = .ok (.iconst 2, 1) := by decide +kernel
theorem dL_law_114 : decode cL_law 114 = .ok (.iload 9, 2) := by decide +kernel
theorem dL_law_116 : decode cL_law 116 = .ok (.imul, 1) := by decide +kernel
theorem dL_law_117 : decode cL_law 117 = .ok (.iconst 1, 1) := by decide +kernel
theorem dL_law_118 : decode cL_law 118 = .ok (.iadd, 1) := by decide +kernel
theorem dL_law_119 : decode cL_law 119 = .ok (.invokestatic 15, 3) := by decide +kernel
theorem dL_law_122 : decode cL_law 122 = .ok (.iload 9, 2) := by decide +kernel
theorem dL_law_124 : decode cL_law 124 = .ok (.isub, 1) := by decide +kernel
theorem dL_law_125 : decode cL_law 125 = .ok (.istore 10, 2) := by decide +kernel
theorem dL_law_127 : decode cL_law 127 = .ok (.iload 7, 2) := by decide +kernel
theorem dL_law_129 : decode cL_law 129 = .ok (.bipush 12, 2) := by decide +kernel
theorem dL_law_131 : decode cL_law 131 = .ok (.ishr, 1) := by decide +kernel
theorem dL_law_132 : decode cL_law 132 = .ok (.iconst 2, 1) := by decide +kernel
theorem dL_law_133 : decode cL_law 133 = .ok (.iload 9, 2) := by decide +kernel
theorem dL_law_135 : decode cL_law 135 = .ok (.imul, 1) := by decide +kernel
theorem dL_law_136 : decode cL_law 136 = .ok (.iconst 1, 1) := by decide +kernel
theorem dL_law_137 : decode cL_law 137 = .ok (.iadd, 1) := by decide +kernel
theorem dL_law_138 : decode cL_law 138 = .ok (.invokestatic 15, 3) := by decide +kernel
theorem dL_law_141 : decode cL_law 141 = .ok (.iload 9, 2) := by decide +kernel
theorem dL_law_143 : decode cL_law 143 = .ok (.isub, 1) := by decide +kernel
theorem dL_law_144 : decode cL_law 144 = .ok (.istore 11, 2) := by decide +kernel
theorem dL_law_146 : decode cL_law 146 = .ok (.iconst 1, 1) := by decide +kernel
theorem dL_law_147 : decode cL_law 147 = .ok (.iload 7, 2) := by decide +kernel
theorem dL_law_149 : decode cL_law 149 = .ok (.bipush 18, 2) := by decide +kernel
theorem dL_law_151 : decode cL_law 151 = .ok (.ishr, 1) := by decide +kernel
theorem dL_law_152 : decode cL_law 152 = .ok (.iload 7, 2) := by decide +kernel
theorem dL_law_154 : decode cL_law 154 = .ok (.bipush 21, 2) := by decide +kernel
theorem dL_law_156 : decode cL_law 156 = .ok (.ishr, 1) := by decide +kernel
theorem dL_law_157 : decode cL_law 157 = .ok (.iconst 2, 1) := by decide +kernel
theorem dL_law_158 : decode cL_law 158 = .ok (.invokestatic 15, 3) := by decide +kernel
theorem dL_law_161 : decode cL_law 161 = .ok (.ifCond .ne 9, 3) := by decide +kernel
theorem dL_law_164 : decode cL_law 164 = .ok (.sipush 200, 3) := by decide +kernel
theorem dL_law_167 : decode cL_law 167 = .ok (.goto 5, 3) := by decide +kernel
theorem dL_law_170 : decode cL_law 170 = .ok (.bipush 12, 2) := by decide +kernel
theorem dL_law_172 : decode cL_law 172 = .ok (.invokestatic 15, 3) := by decide +kernel
theorem dL_law_175 : decode cL_law 175 = .ok (.iadd, 1) := by decide +kernel
theorem dL_law_176 : decode cL_law 176 = .ok (.istore 12, 2) := by decide +kernel
theorem dL_law_178 : decode cL_law 178 = .ok (.iload 10, 2) := by decide +kernel
theorem dL_law_180 : decode cL_law 180 = .ok (.ifCond .ne 56, 3) := by decide +kernel
theorem dL_law_183 : decode cL_law 183 = .ok (.iload 11, 2) := by decide +kernel
theorem dL_law_185 : decode cL_law 185 = .ok (.ifCond .ne 51, 3) := by decide +kernel
theorem dL_law_188 : decode cL_law 188 = .ok (.aload_n 1, 1) := by decide +kernel
theorem dL_law_189 : decode cL_law 189 = .ok (.iconst 0, 1) := by decide +kernel
theorem dL_law_190 : decode cL_law 190 = .ok (.iload 8, 2) := by decide +kernel
theorem dL_law_192 : decode cL_law 192 = .ok (.iconst 0, 1) := by decide +kernel
theorem dL_law_193 : decode cL_law 193 = .ok (.iconst 0, 1) := by decide +kernel
theorem dL_law_194 : decode cL_law 194 = .ok (.iload 12, 2) := by decide +kernel
theorem dL_law_196 : decode cL_law 196 = .ok (.iconst 0, 1) := by decide +kernel
theorem dL_law_197 : decode cL_law 197 = .ok (.invokevirtual 47, 3) := by decide +kernel
theorem dL_law_200 : decode cL_law 200 = .ok (.bipush (-2), 2) := by decide +kernel
theorem dL_law_202 : decode cL_law 202 = .ok (.if_icmp .ne 32, 3) := by decide +kernel
theorem dL_law_205 : decode cL_law 205 = .ok (.aload_n 1, 1) := by decide +kernel
theorem dL_law_206 : decode cL_law 206 = .ok (.iconst 0, 1) := by decide +kernel
theorem dL_law_207 : decode cL_law 207 = .ok (.iload 8, 2) := by decide +kernel
theorem dL_law_209 : decode cL_law 209 = .ok (.iconst 0, 1) := by decide +kernel
theorem dL_law_210 : decode cL_law 210 = .ok (.iconst 0, 1) := by decide +kernel
theorem dL_law_211 : decode cL_law 211 = .ok (.iconst 0, 1) := by decide +kernel
theorem dL_law_212 : decode cL_law 212 = .ok (.invokevirtual 51, 3) := by decide +kernel
theorem dL_law_215 : decode cL_law 215 = .ok (.bipush (-2), 2) := by decide +kernel
theorem dL_law_217 : decode cL_law 217 = .ok (.if_icmp .ne 17, 3) := by decide +kernel
theorem dL_law_220 : decode cL_law 220 = .ok (.aload_n 1, 1) := by decide +kernel
theorem dL_law_221 : decode cL_law 221 = .ok (.iconst 0, 1) := by decide +kernel
theorem dL_law_222 : decode cL_law 222 = .ok (.iload 8, 2) := by decide +kernel
theorem dL_law_224 : decode cL_law 224 = .ok (.iconst 0, 1) := by decide +kernel
theorem dL_law_225 : decode cL_law 225 = .ok (.iconst 0, 1) := by decide +kernel
theorem dL_law_226 : decode cL_law 226 = .ok (.invokevirtual 55, 3) := by decide +kernel
theorem dL_law_229 : decode cL_law 229 = .ok (.bipush (-2), 2) := by decide +kernel
theorem dL_law_231 : decode cL_law 231 = .ok (.if_icmp .eq 398, 3) := by decide +kernel
theorem dL_law_234 : decode cL_law 234 = .ok (.iconst 0, 1) := by decide +kernel
theorem dL_law_235 : decode cL_law 235 = .ok (.ireturn, 1) := by decide +kernel
theorem dL_law_236 : decode cL_law 236 = .ok (.aload_n 2, 1) := by decide +kernel
theorem dL_law_237 : decode cL_law 237 = .ok (.iload 8, 2) := by decide +kernel
theorem dL_law_239 : decode cL_law 239 = .ok (.iload 10, 2) := by decide +kernel
theorem dL_law_241 : decode cL_law 241 = .ok (.iload 11, 2) := by decide +kernel
theorem dL_law_243 : decode cL_law 243 = .ok (.iload 12, 2) := by decide +kernel
theorem dL_law_245 : decode cL_law 245 = .ok (.aload 5, 2) := by decide +kernel
theorem dL_law_247 : decode cL_law 247 = .ok (.invokestatic 58, 3) := by decide +kernel
theorem dL_law_250 : decode cL_law 250 = .ok (.istore 13, 2) := by decide +kernel
theorem dL_law_252 : decode cL_law 252 = .ok (.aload_n 1, 1) := by decide +kernel
theorem dL_law_253 : decode cL_law 253 = .ok (.iconst 0, 1) := by decide +kernel
theorem dL_law_254 : decode cL_law 254 = .ok (.iload 8, 2) := by decide +kernel
theorem dL_law_256 : decode cL_law 256 = .ok (.iload 10, 2) := by decide +kernel
theorem dL_law_258 : decode cL_law 258 = .ok (.iload 11, 2) := by decide +kernel
theorem dL_law_260 : decode cL_law 260 = .ok (.iload 12, 2) := by decide +kernel
theorem dL_law_262 : decode cL_law 262 = .ok (.iconst 0, 1) := by decide +kernel
theorem dL_law_263 : decode cL_law 263 = .ok (.invokevirtual 47, 3) := by decide +kernel
theorem dL_law_266 : decode cL_law 266 = .ok (.iload 13, 2) := by decide +kernel
theorem dL_law_268 : decode cL_law 268 = .ok (.if_icmp .ne 66, 3) := by decide +kernel
theorem dL_law_271 : decode cL_law 271 = .ok (.aload_n 1, 1) := by decide +kernel
theorem dL_law_272 : decode cL_law 272 = .ok (.iconst 0, 1) := by decide +kernel
theorem dL_law_273 : decode cL_law 273 = .ok (.iload 8, 2) := by decide +kernel
theorem dL_law_275 : decode cL_law 275 = .ok (.iload 10, 2) := by decide +kernel
theorem dL_law_277 : decode cL_law 277 = .ok (.iload 11, 2) := by decide +kernel
theorem dL_law_279 : decode cL_law 279 = .ok (.iload 12, 2) := by decide +kernel
theorem dL_law_281 : decode cL_law 281 = .ok (.iconst 1, 1) := by decide +kernel
theorem dL_law_282 : decode cL_law 282 = .ok (.invokevirtual 47, 3) := by decide +kernel
theorem dL_law_285 : decode cL_law 285 = .ok (.aload 5, 2) := by decide +kernel
theorem dL_law_287 : decode cL_law 287 = .ok (.iconst 0, 1) := by decide +kernel
theorem dL_law_288 : decode cL_law 288 = .ok (.iaload, 1) := by decide +kernel
theorem dL_law_289 : decode cL_law 289 = .ok (.if_icmp .ne 45, 3) := by decide +kernel
theorem dL_law_292 : decode cL_law 292 = .ok (.aload_n 1, 1) := by decide +kernel
theorem dL_law_293 : decode cL_law 293 = .ok (.iconst 0, 1) := by decide +kernel
theorem dL_law_294 : decode cL_law 294 = .ok (.iload 8, 2) := by decide +kernel
theorem dL_law_296 : decode cL_law 296 = .ok (.iload 10, 2) := by decide +kernel
theorem dL_law_298 : decode cL_law 298 = .ok (.iload 11, 2) := by decide +kernel
theorem dL_law_300 : decode cL_law 300 = .ok (.iload 12, 2) := by decide +kernel
theorem dL_law_302 : decode cL_law 302 = .ok (.iconst 2, 1) := by decide +kernel
theorem dL_law_303 : decode cL_law 303 = .ok (.invokevirtual 47, 3) := by decide +kernel
theorem dL_law_306 : decode cL_law 306 = .ok (.aload 5, 2) := by decide +kernel
theorem dL_law_308 : decode cL_law 308 = .ok (.iconst 1, 1) := by decide +kernel
theorem dL_law_309 : decode cL_law 309 = .ok (.iaload, 1) := by decide +kernel
theorem dL_law_310 : decode cL_law 310 = .ok (.if_icmp .ne 24, 3) := by decide +kernel
theorem dL_law_313 : decode cL_law 313 = .ok (.aload_n 1, 1) := by decide +kernel
theorem dL_law_314 : decode cL_law 314 = .ok (.iconst 0, 1) := by decide +kernel
theorem dL_law_315 : decode cL_law 315 = .ok (.iload 8, 2) := by decide +kernel
theorem dL_law_317 : decode cL_law 317 = .ok (.iload 10, 2) := by decide +kernel
theorem dL_law_319 : decode cL_law 319 = .ok (.iload 11, 2) := by decide +kernel
theorem dL_law_321 : decode cL_law 321 = .ok (.iload 12, 2) := by decide +kernel
theorem dL_law_323 : decode cL_law 323 = .ok (.iconst 3, 1) := by decide +kernel
theorem dL_law_324 : decode cL_law 324 = .ok (.invokevirtual 47, 3) := by decide +kernel
theorem dL_law_327 : decode cL_law 327 = .ok (.aload 5, 2) := by decide +kernel
theorem dL_law_329 : decode cL_law 329 = .ok (.iconst 2, 1) := by decide +kernel
theorem dL_law_330 : decode cL_law 330 = .ok (.iaload, 1) := by decide +kernel
theorem dL_law_331 : decode cL_law 331 = .ok (.if_icmp .eq 5, 3) := by decide +kernel
theorem dL_law_334 : decode cL_law 334 = .ok (.iconst 0, 1) := by decide +kernel
theorem dL_law_335 : decode cL_law 335 = .ok (.ireturn, 1) := by decide +kernel
theorem dL_law_336 : decode cL_law 336 = .ok (.aload 5, 2) := by decide +kernel
theorem dL_law_338 : decode cL_law 338 = .ok (.iconst 0, 1) := by decide +kernel
theorem dL_law_339 : decode cL_law 339 = .ok (.iaload, 1) := by decide +kernel
theorem dL_law_340 : decode cL_law 340 = .ok (.istore 14, 2) := by decide +kernel
theorem dL_law_342 : decode cL_law 342 = .ok (.iconst 0, 1) := by decide +kernel
theorem dL_law_343 : decode cL_law 343 = .ok (.istore 15, 2) := by decide +kernel
theorem dL_law_345 : decode cL_law 345 = .ok (.iload 15, 2) := by decide +kernel
theorem dL_law_347 : decode cL_law 347 = .ok (.bipush 6, 2) := by decide +kernel
theorem dL_law_349 : decode cL_law 349 = .ok (.if_icmp .ge 111, 3) := by decide +kernel
theorem dL_law_352 : decode cL_law 352 = .ok (.iload 15, 2) := by decide +kernel
theorem dL_law_354 : decode cL_law 354 = .ok (.iconst 4, 1) := by decide +kernel
theorem dL_law_355 : decode cL_law 355 = .ok (.if_icmp .ge 8, 3) := by decide +kernel
theorem dL_law_358 : decode cL_law 358 = .ok (.iload 15, 2) := by decide +kernel
theorem dL_law_360 : decode cL_law 360 = .ok (.goto 13, 3) := by decide +kernel
theorem dL_law_363 : decode cL_law 363 = .ok (.iload 7, 2) := by decide +kernel
theorem dL_law_365 : decode cL_law 365 = .ok (.iload 15, 2) := by decide +kernel
theorem dL_law_367 : decode cL_law 367 = .ok (.ishr, 1) := by decide +kernel
theorem dL_law_368 : decode cL_law 368 = .ok (.iload 12, 2) := by decide +kernel
theorem dL_law_370 : decode cL_law 370 = .ok (.invokestatic 15, 3) := by decide +kernel
theorem dL_law_373 : decode cL_law 373 = .ok (.istore 16, 2) := by decide +kernel
theorem dL_law_375 : decode cL_law 375 = .ok (.aload_n 2, 1) := by decide +kernel
theorem dL_law_376 : decode cL_law 376 = .ok (.iload 8, 2) := by decide +kernel
theorem dL_law_378 : decode cL_law 378 = .ok (.iload 10, 2) := by decide +kernel
theorem dL_law_380 : decode cL_law 380 = .ok (.iload 11, 2) := by decide +kernel
theorem dL_law_382 : decode cL_law 382 = .ok (.iload 16, 2) := by decide +kernel
theorem dL_law_384 : decode cL_law 384 = .ok (.iconst 1, 1) := by decide +kernel
theorem dL_law_385 : decode cL_law 385 = .ok (.iadd, 1) := by decide +kernel
theorem dL_law_386 : decode cL_law 386 = .ok (.aload 5, 2) := by decide +kernel
theorem dL_law_388 : decode cL_law 388 = .ok (.invokestatic 58, 3) := by decide +kernel
theorem dL_law_391 : decode cL_law 391 = .ok (.istore 17, 2) := by decide +kernel
theorem dL_law_393 : decode cL_law 393 = .ok (.aload_n 1, 1) := by decide +kernel
theorem dL_law_394 : decode cL_law 394 = .ok (.iconst 0, 1) := by decide +kernel
theorem dL_law_395 : decode cL_law 395 = .ok (.iload 8, 2) := by decide +kernel
theorem dL_law_397 : decode cL_law 397 = .ok (.iload 10, 2) := by decide +kernel
theorem dL_law_399 : decode cL_law 399 = .ok (.iload 11, 2) := by decide +kernel
theorem dL_law_401 : decode cL_law 401 = .ok (.iload 16, 2) := by decide +kernel
theorem dL_law_403 : decode cL_law 403 = .ok (.invokevirtual 51, 3) := by decide +kernel
theorem dL_law_406 : decode cL_law 406 = .ok (.aload 5, 2) := by decide +kernel
theorem dL_law_408 : decode cL_law 408 = .ok (.iconst 0, 1) := by decide +kernel
theorem dL_law_409 : decode cL_law 409 = .ok (.iaload, 1) := by decide +kernel
theorem dL_law_410 : decode cL_law 410 = .ok (.iload 16, 2) := by decide +kernel
theorem dL_law_412 : decode cL_law 412 = .ok (.iconst 1, 1) := by decide +kernel
theorem dL_law_413 : decode cL_law 413 = .ok (.iadd, 1) := by decide +kernel
theorem dL_law_414 : decode cL_law 414 = .ok (.if_icmp .ne 10, 3) := by decide +kernel
theorem dL_law_417 : decode cL_law 417 = .ok (.aload 5, 2) := by decide +kernel
theorem dL_law_419 : decode cL_law 419 = .ok (.iconst 3, 1) := by decide +kernel
theorem dL_law_420 : decode cL_law 420 = .ok (.iaload, 1) := by decide +kernel
theorem dL_law_421 : decode cL_law 421 = .ok (.goto 5, 3) := by decide +kernel
theorem dL_law_424 : decode cL_law 424 = .ok (.bipush (-9), 2) := by decide +kernel
theorem dL_law_426 : decode cL_law 426 = .ok (.if_icmp .ne 26, 3) := by decide +kernel
theorem dL_law_429 : decode cL_law 429 = .ok (.iload 17, 2) := by decide +kernel
theorem dL_law_431 : decode cL_law 431 = .ok (.ifCond .lt 21, 3) := by decide +kernel
theorem dL_law_434 : decode cL_law 434 = .ok (.iload 16, 2) := by decide +kernel
theorem dL_law_436 : decode cL_law 436 = .ok (.iload 14, 2) := by decide +kernel
theorem dL_law_438 : decode cL_law 438 = .ok (.if_icmp .ge 16, 3) := by decide +kernel
theorem dL_law_441 : decode cL_law 441 = .ok (.aload 5, 2) := by decide +kernel
theorem dL_law_443 : decode cL_law 443 = .ok (.iconst 0, 1) := by decide +kernel
theorem dL_law_444 : decode cL_law 444 = .ok (.iaload, 1) := by decide +kernel
theorem dL_law_445 : decode cL_law 445 = .ok (.iload 16, 2) := by decide +kernel
theorem dL_law_447 : decode cL_law 447 = .ok (.iconst 1, 1) := by decide +kernel
theorem dL_law_448 : decode cL_law 448 = .ok (.iadd, 1) := by decide +kernel
theorem dL_law_449 : decode cL_law 449 = .ok (.if_icmp .eq 5, 3) := by decide +kernel
theorem dL_law_452 : decode cL_law 452 = .ok (.iconst 0, 1) := by decide +kernel
theorem dL_law_453 : decode cL_law 453 = .ok (.ireturn, 1) := by decide +kernel
theorem dL_law_454 : decode cL_law 454 = .ok (.iinc 15 1, 3) := by decide +kernel
theorem dL_law_457 : decode cL_law 457 = .ok (.goto (-112), 3) := by decide +kernel
theorem dL_law_460 : decode cL_law 460 = .ok (.aload_n 2, 1) := by decide +kernel
theorem dL_law_461 : decode cL_law 461 = .ok (.iload 8, 2) := by decide +kernel
theorem dL_law_463 : decode cL_law 463 = .ok (.iload 10, 2) := by decide +kernel
theorem dL_law_465 : decode cL_law 465 = .ok (.iload 11, 2) := by decide +kernel
theorem dL_law_467 : decode cL_law 467 = .ok (.iconst (-1), 1) := by decide +kernel
theorem dL_law_468 : decode cL_law 468 = .ok (.aload 5, 2) := by decide +kernel
theorem dL_law_470 : decode cL_law 470 = .ok (.invokestatic 58, 3) := by decide +kernel
theorem dL_law_473 : decode cL_law 473 = .ok (.istore 15, 2) := by decide +kernel
theorem dL_law_475 : decode cL_law 475 = .ok (.aload_n 1, 1) := by decide +kernel
theorem dL_law_476 : decode cL_law 476 = .ok (.iconst 0, 1) := by decide +kernel
theorem dL_law_477 : decode cL_law 477 = .ok (.iload 8, 2) := by decide +kernel
theorem dL_law_479 : decode cL_law 479 = .ok (.iload 10, 2) := by decide +kernel
theorem dL_law_481 : decode cL_law 481 = .ok (.iload 11, 2) := by decide +kernel
theorem dL_law_483 : decode cL_law 483 = .ok (.invokevirtual 55, 3) := by decide +kernel
theorem dL_law_486 : decode cL_law 486 = .ok (.iload 15, 2) := by decide +kernel
theorem dL_law_488 : decode cL_law 488 = .ok (.iconst 2, 1) := by decide +kernel
theorem dL_law_489 : decode cL_law 489 = .ok (.if_icmp .ne 18, 3) := by decide +kernel
theorem dL_law_492 : decode cL_law 492 = .ok (.aload 5, 2) := by decide +kernel
theorem dL_law_494 : decode cL_law 494 = .ok (.iconst 4, 1) := by decide +kernel
theorem dL_law_495 : decode cL_law 495 = .ok (.iaload, 1) := by decide +kernel
theorem dL_law_496 : decode cL_law 496 = .ok (.iconst 1, 1) := by decide +kernel
theorem dL_law_497 : decode cL_law 497 = .ok (.if_icmp .ne 10, 3) := by decide +kernel
theorem dL_law_500 : decode cL_law 500 = .ok (.aload 5, 2) := by decide +kernel
theorem dL_law_502 : decode cL_law 502 = .ok (.iconst 2, 1) := by decide +kernel
theorem dL_law_503 : decode cL_law 503 = .ok (.iaload, 1) := by decide +kernel
theorem dL_law_504 : decode cL_law 504 = .ok (.goto 5, 3) := by decide +kernel
theorem dL_law_507 : decode cL_law 507 = .ok (.bipush (-9), 2) := by decide +kernel
theorem dL_law_509 : decode cL_law 509 = .ok (.if_icmp .eq 5, 3) := by decide +kernel
theorem dL_law_512 : decode cL_law 512 = .ok (.iconst 0, 1) := by decide +kernel
theorem dL_law_513 : decode cL_law 513 = .ok (.ireturn, 1) := by decide +kernel
theorem dL_law_514 : decode cL_law 514 = .ok (.iload 6, 2) := by decide +kernel
theorem dL_law_516 : decode cL_law 516 = .ok (.iconst 3, 1) := by decide +kernel
theorem dL_law_517 : decode cL_law 517 = .ok (.if_icmp .gt 112, 3) := by decide +kernel
theorem dL_law_520 : decode cL_law 520 = .ok (.aload 5, 2) := by decide +kernel
theorem dL_law_522 : decode cL_law 522 = .ok (.iconst 0, 1) := by decide +kernel
theorem dL_law_523 : decode cL_law 523 = .ok (.iaload, 1) := by decide +kernel
theorem dL_law_524 : decode cL_law 524 = .ok (.bipush 60, 2) := by decide +kernel
theorem dL_law_526 : decode cL_law 526 = .ok (.if_icmp .le 6, 3) := by decide +kernel
theorem dL_law_529 : decode cL_law 529 = .ok (.goto 100, 3) := by decide +kernel
theorem dL_law_532 : decode cL_law 532 = .ok (.aload_n 1, 1) := by decide +kernel
theorem dL_law_533 : decode cL_law 533 = .ok (.iconst 0, 1) := by decide +kernel
theorem dL_law_534 : decode cL_law 534 = .ok (.iload 8, 2) := by decide +kernel
theorem dL_law_536 : decode cL_law 536 = .ok (.iload 10, 2) := by decide +kernel
theorem dL_law_538 : decode cL_law 538 = .ok (.iload 11, 2) := by decide +kernel
theorem dL_law_540 : decode cL_law 540 = .ok (.iload 15, 2) := by decide +kernel
theorem dL_law_542 : decode cL_law 542 = .ok (.iconst 2, 1) := by decide +kernel
theorem dL_law_543 : decode cL_law 543 = .ok (.if_icmp .ne 15, 3) := by decide +kernel
theorem dL_law_546 : decode cL_law 546 = .ok (.aload 5, 2) := by decide +kernel
theorem dL_law_548 : decode cL_law 548 = .ok (.iconst 4, 1) := by decide +kernel
theorem dL_law_549 : decode cL_law 549 = .ok (.iaload, 1) := by decide +kernel
theorem dL_law_550 : decode cL_law 550 = .ok (.iconst 1, 1) := by decide +kernel
theorem dL_law_551 : decode cL_law 551 = .ok (.if_icmp .ne 7, 3) := by decide +kernel
theorem dL_law_554 : decode cL_law 554 = .ok (.iconst 1, 1) := by decide +kernel
theorem dL_law_555 : decode cL_law 555 = .ok (.goto 4, 3) := by decide +kernel
theorem dL_law_558 : decode cL_law 558 = .ok (.iconst 0, 1) := by decide +kernel
theorem dL_law_559 : decode cL_law 559 = .ok (.invokevirtual 62, 3) := by decide +kernel
theorem dL_law_562 : decode cL_law 562 = .ok (.istore 16, 2) := by decide +kernel
theorem dL_law_564 : decode cL_law 564 = .ok (.iload 16, 2) := by decide +kernel
theorem dL_law_566 : decode cL_law 566 = .ok (.ifCond .lt 61, 3) := by decide +kernel
theorem dL_law_569 : decode cL_law 569 = .ok (.iload 15, 2) := by decide +kernel
theorem dL_law_571 : decode cL_law 571 = .ok (.iconst 2, 1) := by decide +kernel
theorem dL_law_572 : decode cL_law 572 = .ok (.if_icmp .ne 28, 3) := by decide +kernel
theorem dL_law_575 : decode cL_law 575 = .ok (.aload 5, 2) := by decide +kernel
theorem dL_law_577 : decode cL_law 577 = .ok (.iconst 4, 1) := by decide +kernel
theorem dL_law_578 : decode cL_law 578 = .ok (.iaload, 1) := by decide +kernel
theorem dL_law_579 : decode cL_law 579 = .ok (.iconst 1, 1) := by decide +kernel
theorem dL_law_580 : decode cL_law 580 = .ok (.if_icmp .ne 20, 3) := by decide +kernel
theorem dL_law_583 : decode cL_law 583 = .ok (.aload_n 1, 1) := by decide +kernel
theorem dL_law_584 : decode cL_law 584 = .ok (.iconst 0, 1) := by decide +kernel
theorem dL_law_585 : decode cL_law 585 = .ok (.invokevirtual 66, 3) := by decide +kernel
theorem dL_law_588 : decode cL_law 588 = .ok (.iconst 1, 1) := by decide +kernel
theorem dL_law_589 : decode cL_law 589 = .ok (.aload 5, 2) := by decide +kernel
theorem dL_law_591 : decode cL_law 591 = .ok (.iconst 2, 1) := by decide +kernel
theorem dL_law_592 : decode cL_law 592 = .ok (.iaload, 1) := by decide +kernel
theorem dL_law_593 : decode cL_law 593 = .ok (.ishl, 1) := by decide +kernel
theorem dL_law_594 : decode cL_law 594 = .ok (.iconst (-1), 1) := by decide +kernel
theorem dL_law_595 : decode cL_law 595 = .ok (.ixor, 1) := by decide +kernel
theorem dL_law_596 : decode cL_law 596 = .ok (.iand, 1) := by decide +kernel
theorem dL_law_597 : decode cL_law 597 = .ok (.ifCond .ne 30, 3) := by decide +kernel
theorem dL_law_600 : decode cL_law 600 = .ok (.iload 15, 2) := by decide +kernel
theorem dL_law_602 : decode cL_law 602 = .ok (.iconst 2, 1) := by decide +kernel
theorem dL_law_603 : decode cL_law 603 = .ok (.if_icmp .ne 26, 3) := by decide +kernel
theorem dL_law_606 : decode cL_law 606 = .ok (.aload 5, 2) := by decide +kernel
theorem dL_law_608 : decode cL_law 608 = .ok (.iconst 4, 1) := by decide +kernel
theorem dL_law_609 : decode cL_law 609 = .ok (.iaload, 1) := by decide +kernel
theorem dL_law_610 : decode cL_law 610 = .ok (.ifCond .ne 19, 3) := by decide +kernel
theorem dL_law_613 : decode cL_law 613 = .ok (.aload_n 1, 1) := by decide +kernel
theorem dL_law_614 : decode cL_law 614 = .ok (.iconst 0, 1) := by decide +kernel
theorem dL_law_615 : decode cL_law 615 = .ok (.invokevirtual 66, 3) := by decide +kernel
theorem dL_law_618 : decode cL_law 618 = .ok (.iconst 1, 1) := by decide +kernel
theorem dL_law_619 : decode cL_law 619 = .ok (.iload 4, 2) := by decide +kernel
theorem dL_law_621 : decode cL_law 621 = .ok (.ishl, 1) := by decide +kernel
theorem dL_law_622 : decode cL_law 622 = .ok (.iconst 1, 1) := by decide +kernel
theorem dL_law_623 : decode cL_law 623 = .ok (.isub, 1) := by decide +kernel
theorem dL_law_624 : decode cL_law 624 = .ok (.if_icmp .le 5, 3) := by decide +kernel
theorem dL_law_627 : decode cL_law 627 = .ok (.iconst 0, 1) := by decide +kernel
theorem dL_law_628 : decode cL_law 628 = .ok (.ireturn, 1) := by decide +kernel
theorem dL_law_629 : decode cL_law 629 = .ok (.iinc 6 1, 3) := by decide +kernel
theorem dL_law_632 : decode cL_law 632 = .ok (.goto (-571), 3) := by decide +kernel
theorem dL_law_635 : decode cL_law 635 = .ok (.aload_n 0, 1) := by decide +kernel
theorem dL_law_636 : decode cL_law 636 = .ok (.bipush 20, 2) := by decide +kernel
theorem dL_law_638 : decode cL_law 638 = .ok (.invokestatic 9, 3) := by decide +kernel
theorem dL_law_641 : decode cL_law 641 = .ok (.aload_n 2, 1) := by decide +kernel
theorem dL_law_642 : decode cL_law 642 = .ok (.iconst 2, 1) := by decide +kernel
theorem dL_law_643 : decode cL_law 643 = .ok (.iaload, 1) := by decide +kernel
theorem dL_law_644 : decode cL_law 644 = .ok (.invokestatic 15, 3) := by decide +kernel
theorem dL_law_647 : decode cL_law 647 = .ok (.istore 6, 2) := by decide +kernel
theorem dL_law_649 : decode cL_law 649 = .ok (.aload_n 0, 1) := by decide +kernel
theorem dL_law_650 : decode cL_law 650 = .ok (.bipush 21, 2) := by decide +kernel
theorem dL_law_652 : decode cL_law 652 = .ok (.invokestatic 9, 3) := by decide +kernel
theorem dL_law_655 : decode cL_law 655 = .ok (.iconst 3, 1) := by decide +kernel
theorem dL_law_656 : decode cL_law 656 = .ok (.invokestatic 15, 3) := by decide +kernel
theorem dL_law_659 : decode cL_law 659 = .ok (.istore 7, 2) := by decide +kernel
theorem dL_law_661 : decode cL_law 661 = .ok (.aload_n 1, 1) := by decide +kernel
theorem dL_law_662 : decode cL_law 662 = .ok (.iconst 0, 1) := by decide +kernel
theorem dL_law_663 : decode cL_law 663 = .ok (.iload 6, 2) := by decide +kernel
theorem dL_law_665 : decode cL_law 665 = .ok (.iload 7, 2) := by decide +kernel
theorem dL_law_667 : decode cL_law 667 = .ok (.invokevirtual 70, 3) := by decide +kernel
theorem dL_law_670 : decode cL_law 670 = .ok (.aload_n 2, 1) := by decide +kernel
theorem dL_law_671 : decode cL_law 671 = .ok (.iconst 3, 1) := by decide +kernel
theorem dL_law_672 : decode cL_law 672 = .ok (.iload 6, 2) := by decide +kernel
theorem dL_law_674 : decode cL_law 674 = .ok (.iadd, 1) := by decide +kernel
theorem dL_law_675 : decode cL_law 675 = .ok (.iaload, 1) := by decide +kernel
theorem dL_law_676 : decode cL_law 676 = .ok (.if_icmp .ne 21, 3) := by decide +kernel
theorem dL_law_679 : decode cL_law 679 = .ok (.aload_n 1, 1) := by decide +kernel
theorem dL_law_680 : decode cL_law 680 = .ok (.iconst 0, 1) := by decide +kernel
theorem dL_law_681 : decode cL_law 681 = .ok (.iload 6, 2) := by decide +kernel
theorem dL_law_683 : decode cL_law 683 = .ok (.aload_n 2, 1) := by decide +kernel
theorem dL_law_684 : decode cL_law 684 = .ok (.iconst 3, 1) := by decide +kernel
theorem dL_law_685 : decode cL_law 685 = .ok (.iload 6, 2) := by decide +kernel
theorem dL_law_687 : decode cL_law 687 = .ok (.iadd, 1) := by decide +kernel
theorem dL_law_688 : decode cL_law 688 = .ok (.iaload, 1) := by decide +kernel
theorem dL_law_689 : decode cL_law 689 = .ok (.invokevirtual 70, 3) := by decide +kernel
theorem dL_law_692 : decode cL_law 692 = .ok (.iload 7, 2) := by decide +kernel
theorem dL_law_694 : decode cL_law 694 = .ok (.if_icmp .eq 5, 3) := by decide +kernel
theorem dL_law_697 : decode cL_law 697 = .ok (.iconst 0, 1) := by decide +kernel
theorem dL_law_698 : decode cL_law 698 = .ok (.ireturn, 1) := by decide +kernel
theorem dL_law_699 : decode cL_law 699 = .ok (.iconst 0, 1) := by decide +kernel
theorem dL_law_700 : decode cL_law 700 = .ok (.istore 8, 2) := by decide +kernel
theorem dL_law_702 : decode cL_law 702 = .ok (.iload 8, 2) := by decide +kernel
theorem dL_law_704 : decode cL_law 704 = .ok (.bipush 6, 2) := by decide +kernel
theorem dL_law_706 : decode cL_law 706 = .ok (.if_icmp .ge 217, 3) := by decide +kernel
theorem dL_law_709 : decode cL_law 709 = .ok (.aload_n 0, 1) := by decide +kernel
theorem dL_law_710 : decode cL_law 710 = .ok (.bipush 22, 2) := by decide +kernel
theorem dL_law_712 : decode cL_law 712 = .ok (.iload 8, 2) := by decide +kernel
theorem dL_law_714 : decode cL_law 714 = .ok (.iadd, 1) := by decide +kernel
theorem dL_law_715 : decode cL_law 715 = .ok (.invokestatic 9, 3) := by decide +kernel
theorem dL_law_718 : decode cL_law 718 = .ok (.istore 9, 2) := by decide +kernel
theorem dL_law_720 : decode cL_law 720 = .ok (.iload 9, 2) := by decide +kernel
theorem dL_law_722 : decode cL_law 722 = .ok (.iload 4, 2) := by decide +kernel
theorem dL_law_724 : decode cL_law 724 = .ok (.invokestatic 15, 3) := by decide +kernel
theorem dL_law_727 : decode cL_law 727 = .ok (.istore 10, 2) := by decide +kernel
theorem dL_law_729 : decode cL_law 729 = .ok (.iload 9, 2) := by decide +kernel
theorem dL_law_731 : decode cL_law 731 = .ok (.iconst 5, 1) := by decide +kernel
theorem dL_law_732 : decode cL_law 732 = .ok (.ishr, 1) := by decide +kernel
theorem dL_law_733 : decode cL_law 733 = .ok (.bipush 25, 2) := by decide +kernel
theorem dL_law_735 : decode cL_law 735 = .ok (.invokestatic 15, 3) := by decide +kernel
theorem dL_law_738 : decode cL_law 738 = .ok (.bipush 12, 2) := by decide +kernel
theorem dL_law_740 : decode cL_law 740 = .ok (.isub, 1) := by decide +kernel
theorem dL_law_741 : decode cL_law 741 = .ok (.istore 11, 2) := by decide +kernel
theorem dL_law_743 : decode cL_law 743 = .ok (.iconst 1, 1) := by decide +kernel
theorem dL_law_744 : decode cL_law 744 = .ok (.iload 9, 2) := by decide +kernel
theorem dL_law_746 : decode cL_law 746 = .ok (.bipush 10, 2) := by decide +kernel
theorem dL_law_748 : decode cL_law 748 = .ok (.ishr, 1) := by decide +kernel
theorem dL_law_749 : decode cL_law 749 = .ok (.bipush 12, 2) := by decide +kernel
theorem dL_law_751 : decode cL_law 751 = .ok (.invokestatic 15, 3) := by decide +kernel
theorem dL_law_754 : decode cL_law 754 = .ok (.iadd, 1) := by decide +kernel
theorem dL_law_755 : decode cL_law 755 = .ok (.istore 12, 2) := by decide +kernel
theorem dL_law_757 : decode cL_law 757 = .ok (.aload_n 1, 1) := by decide +kernel
theorem dL_law_758 : decode cL_law 758 = .ok (.iconst 0, 1) := by decide +kernel
theorem dL_law_759 : decode cL_law 759 = .ok (.iload 6, 2) := by decide +kernel
theorem dL_law_761 : decode cL_law 761 = .ok (.iload 7, 2) := by decide +kernel
theorem dL_law_763 : decode cL_law 763 = .ok (.invokevirtual 70, 3) := by decide +kernel
theorem dL_law_766 : decode cL_law 766 = .ok (.aload_n 2, 1) := by decide +kernel
theorem dL_law_767 : decode cL_law 767 = .ok (.iconst 3, 1) := by decide +kernel
theorem dL_law_768 : decode cL_law 768 = .ok (.iload 6, 2) := by decide +kernel
theorem dL_law_770 : decode cL_law 770 = .ok (.iadd, 1) := by decide +kernel
theorem dL_law_771 : decode cL_law 771 = .ok (.iaload, 1) := by decide +kernel
theorem dL_law_772 : decode cL_law 772 = .ok (.if_icmp .eq 5, 3) := by decide +kernel
theorem dL_law_775 : decode cL_law 775 = .ok (.iconst 0, 1) := by decide +kernel
theorem dL_law_776 : decode cL_law 776 = .ok (.ireturn, 1) := by decide +kernel
theorem dL_law_777 : decode cL_law 777 = .ok (.aload_n 2, 1) := by decide +kernel
theorem dL_law_778 : decode cL_law 778 = .ok (.iconst 3, 1) := by decide +kernel
theorem dL_law_779 : decode cL_law 779 = .ok (.iload 6, 2) := by decide +kernel
theorem dL_law_781 : decode cL_law 781 = .ok (.iadd, 1) := by decide +kernel
theorem dL_law_782 : decode cL_law 782 = .ok (.iaload, 1) := by decide +kernel
theorem dL_law_783 : decode cL_law 783 = .ok (.istore 13, 2) := by decide +kernel
theorem dL_law_785 : decode cL_law 785 = .ok (.aload_n 2, 1) := by decide +kernel
theorem dL_law_786 : decode cL_law 786 = .ok (.iconst 3, 1) := by decide +kernel
theorem dL_law_787 : decode cL_law 787 = .ok (.iload 6, 2) := by decide +kernel
theorem dL_law_789 : decode cL_law 789 = .ok (.iadd, 1) := by decide +kernel
theorem dL_law_790 : decode cL_law 790 = .ok (.iload 7, 2) := by decide +kernel
theorem dL_law_792 : decode cL_law 792 = .ok (.iastore, 1) := by decide +kernel
theorem dL_law_793 : decode cL_law 793 = .ok (.aload_n 2, 1) := by decide +kernel
theorem dL_law_794 : decode cL_law 794 = .ok (.iload 10, 2) := by decide +kernel
theorem dL_law_796 : decode cL_law 796 = .ok (.iload 11, 2) := by decide +kernel
theorem dL_law_798 : decode cL_law 798 = .ok (.iload 12, 2) := by decide +kernel
theorem dL_law_800 : decode cL_law 800 = .ok (.bipush 40, 2) := by decide +kernel
theorem dL_law_802 : decode cL_law 802 = .ok (.aload 5, 2) := by decide +kernel
theorem dL_law_804 : decode cL_law 804 = .ok (.invokestatic 58, 3) := by decide +kernel
theorem dL_law_807 : decode cL_law 807 = .ok (.istore 14, 2) := by decide +kernel
theorem dL_law_809 : decode cL_law 809 = .ok (.aload_n 1, 1) := by decide +kernel
theorem dL_law_810 : decode cL_law 810 = .ok (.iconst 0, 1) := by decide +kernel
theorem dL_law_811 : decode cL_law 811 = .ok (.iload 10, 2) := by decide +kernel
theorem dL_law_813 : decode cL_law 813 = .ok (.iload 11, 2) := by decide +kernel
theorem dL_law_815 : decode cL_law 815 = .ok (.iload 12, 2) := by decide +kernel
theorem dL_law_817 : decode cL_law 817 = .ok (.bipush 40, 2) := by decide +kernel
theorem dL_law_819 : decode cL_law 819 = .ok (.iconst 0, 1) := by decide +kernel
theorem dL_law_820 : decode cL_law 820 = .ok (.invokevirtual 47, 3) := by decide +kernel
theorem dL_law_823 : decode cL_law 823 = .ok (.iload 14, 2) := by decide +kernel
theorem dL_law_825 : decode cL_law 825 = .ok (.if_icmp .ne 66, 3) := by decide +kernel
theorem dL_law_828 : decode cL_law 828 = .ok (.aload_n 1, 1) := by decide +kernel
theorem dL_law_829 : decode cL_law 829 = .ok (.iconst 0, 1) := by decide +kernel
theorem dL_law_830 : decode cL_law 830 = .ok (.iload 10, 2) := by decide +kernel
theorem dL_law_832 : decode cL_law 832 = .ok (.iload 11, 2) := by decide +kernel
theorem dL_law_834 : decode cL_law 834 = .ok (.iload 12, 2) := by decide +kernel
theorem dL_law_836 : decode cL_law 836 = .ok (.bipush 40, 2) := by decide +kernel
theorem dL_law_838 : decode cL_law 838 = .ok (.iconst 1, 1) := by decide +kernel
theorem dL_law_839 : decode cL_law 839 = .ok (.invokevirtual 47, 3) := by decide +kernel
theorem dL_law_842 : decode cL_law 842 = .ok (.aload 5, 2) := by decide +kernel
theorem dL_law_844 : decode cL_law 844 = .ok (.iconst 0, 1) := by decide +kernel
theorem dL_law_845 : decode cL_law 845 = .ok (.iaload, 1) := by decide +kernel
theorem dL_law_846 : decode cL_law 846 = .ok (.if_icmp .ne 45, 3) := by decide +kernel
theorem dL_law_849 : decode cL_law 849 = .ok (.aload_n 1, 1) := by decide +kernel
theorem dL_law_850 : decode cL_law 850 = .ok (.iconst 0, 1) := by decide +kernel
theorem dL_law_851 : decode cL_law 851 = .ok (.iload 10, 2) := by decide +kernel
theorem dL_law_853 : decode cL_law 853 = .ok (.iload 11, 2) := by decide +kernel
theorem dL_law_855 : decode cL_law 855 = .ok (.iload 12, 2) := by decide +kernel
theorem dL_law_857 : decode cL_law 857 = .ok (.bipush 40, 2) := by decide +kernel
theorem dL_law_859 : decode cL_law 859 = .ok (.iconst 2, 1) := by decide +kernel
theorem dL_law_860 : decode cL_law 860 = .ok (.invokevirtual 47, 3) := by decide +kernel
theorem dL_law_863 : decode cL_law 863 = .ok (.aload 5, 2) := by decide +kernel
theorem dL_law_865 : decode cL_law 865 = .ok (.iconst 1, 1) := by decide +kernel
theorem dL_law_866 : decode cL_law 866 = .ok (.iaload, 1) := by decide +kernel
theorem dL_law_867 : decode cL_law 867 = .ok (.if_icmp .ne 24, 3) := by decide +kernel
theorem dL_law_870 : decode cL_law 870 = .ok (.aload_n 1, 1) := by decide +kernel
theorem dL_law_871 : decode cL_law 871 = .ok (.iconst 0, 1) := by decide +kernel
theorem dL_law_872 : decode cL_law 872 = .ok (.iload 10, 2) := by decide +kernel
theorem dL_law_874 : decode cL_law 874 = .ok (.iload 11, 2) := by decide +kernel
theorem dL_law_876 : decode cL_law 876 = .ok (.iload 12, 2) := by decide +kernel
theorem dL_law_878 : decode cL_law 878 = .ok (.bipush 40, 2) := by decide +kernel
theorem dL_law_880 : decode cL_law 880 = .ok (.iconst 3, 1) := by decide +kernel
theorem dL_law_881 : decode cL_law 881 = .ok (.invokevirtual 47, 3) := by decide +kernel
theorem dL_law_884 : decode cL_law 884 = .ok (.aload 5, 2) := by decide +kernel
theorem dL_law_886 : decode cL_law 886 = .ok (.iconst 2, 1) := by decide +kernel
theorem dL_law_887 : decode cL_law 887 = .ok (.iaload, 1) := by decide +kernel
theorem dL_law_888 : decode cL_law 888 = .ok (.if_icmp .eq 5, 3) := by decide +kernel
theorem dL_law_891 : decode cL_law 891 = .ok (.iconst 0, 1) := by decide +kernel
theorem dL_law_892 : decode cL_law 892 = .ok (.ireturn, 1) := by decide +kernel
theorem dL_law_893 : decode cL_law 893 = .ok (.aload_n 2, 1) := by decide +kernel
theorem dL_law_894 : decode cL_law 894 = .ok (.iconst 3, 1) := by decide +kernel
theorem dL_law_895 : decode cL_law 895 = .ok (.iload 6, 2) := by decide +kernel
theorem dL_law_897 : decode cL_law 897 = .ok (.iadd, 1) := by decide +kernel
theorem dL_law_898 : decode cL_law 898 = .ok (.iload 13, 2) := by decide +kernel
theorem dL_law_900 : decode cL_law 900 = .ok (.iastore, 1) := by decide +kernel
theorem dL_law_901 : decode cL_law 901 = .ok (.aload_n 1, 1) := by decide +kernel
theorem dL_law_902 : decode cL_law 902 = .ok (.iconst 0, 1) := by decide +kernel
theorem dL_law_903 : decode cL_law 903 = .ok (.iload 6, 2) := by decide +kernel
theorem dL_law_905 : decode cL_law 905 = .ok (.iload 13, 2) := by decide +kernel
theorem dL_law_907 : decode cL_law 907 = .ok (.invokevirtual 70, 3) := by decide +kernel
theorem dL_law_910 : decode cL_law 910 = .ok (.iload 7, 2) := by decide +kernel
theorem dL_law_912 : decode cL_law 912 = .ok (.if_icmp .eq 5, 3) := by decide +kernel
theorem dL_law_915 : decode cL_law 915 = .ok (.iconst 0, 1) := by decide +kernel
theorem dL_law_916 : decode cL_law 916 = .ok (.ireturn, 1) := by decide +kernel
theorem dL_law_917 : decode cL_law 917 = .ok (.iinc 8 1, 3) := by decide +kernel
theorem dL_law_920 : decode cL_law 920 = .ok (.goto (-218), 3) := by decide +kernel
theorem dL_law_923 : decode cL_law 923 = .ok (.aload_n 1, 1) := by decide +kernel
theorem dL_law_924 : decode cL_law 924 = .ok (.iconst 0, 1) := by decide +kernel
theorem dL_law_925 : decode cL_law 925 = .ok (.iload 4, 2) := by decide +kernel
theorem dL_law_927 : decode cL_law 927 = .ok (.iconst 1, 1) := by decide +kernel
theorem dL_law_928 : decode cL_law 928 = .ok (.iconst 0, 1) := by decide +kernel
theorem dL_law_929 : decode cL_law 929 = .ok (.iconst 1, 1) := by decide +kernel
theorem dL_law_930 : decode cL_law 930 = .ok (.iconst 0, 1) := by decide +kernel
theorem dL_law_931 : decode cL_law 931 = .ok (.invokevirtual 47, 3) := by decide +kernel
theorem dL_law_934 : decode cL_law 934 = .ok (.iconst (-1), 1) := by decide +kernel
theorem dL_law_935 : decode cL_law 935 = .ok (.if_icmp .ne 156, 3) := by decide +kernel
theorem dL_law_938 : decode cL_law 938 = .ok (.aload_n 1, 1) := by decide +kernel
theorem dL_law_939 : decode cL_law 939 = .ok (.iconst 1, 1) := by decide +kernel
theorem dL_law_940 : decode cL_law 940 = .ok (.iconst 0, 1) := by decide +kernel
theorem dL_law_941 : decode cL_law 941 = .ok (.iconst 1, 1) := by decide +kernel
theorem dL_law_942 : decode cL_law 942 = .ok (.iconst 0, 1) := by decide +kernel
theorem dL_law_943 : decode cL_law 943 = .ok (.iconst 1, 1) := by decide +kernel
theorem dL_law_944 : decode cL_law 944 = .ok (.iconst 0, 1) := by decide +kernel
theorem dL_law_945 : decode cL_law 945 = .ok (.invokevirtual 47, 3) := by decide +kernel
theorem dL_law_948 : decode cL_law 948 = .ok (.iconst (-1), 1) := by decide +kernel
theorem dL_law_949 : decode cL_law 949 = .ok (.if_icmp .ne 142, 3) := by decide +kernel
theorem dL_law_952 : decode cL_law 952 = .ok (.aload_n 1, 1) := by decide +kernel
theorem dL_law_953 : decode cL_law 953 = .ok (.iconst 0, 1) := by decide +kernel
theorem dL_law_954 : decode cL_law 954 = .ok (.iconst 0, 1) := by decide +kernel
theorem dL_law_955 : decode cL_law 955 = .ok (.bipush 61, 2) := by decide +kernel
theorem dL_law_957 : decode cL_law 957 = .ok (.iconst 0, 1) := by decide +kernel
theorem dL_law_958 : decode cL_law 958 = .ok (.iconst 1, 1) := by decide +kernel
theorem dL_law_959 : decode cL_law 959 = .ok (.iconst 0, 1) := by decide +kernel
theorem dL_law_960 : decode cL_law 960 = .ok (.invokevirtual 47, 3) := by decide +kernel
theorem dL_law_963 : decode cL_law 963 = .ok (.bipush (-2), 2) := by decide +kernel
theorem dL_law_965 : decode cL_law 965 = .ok (.if_icmp .ne 126, 3) := by decide +kernel
theorem dL_law_968 : decode cL_law 968 = .ok (.aload_n 1, 1) := by decide +kernel
theorem dL_law_969 : decode cL_law 969 = .ok (.iconst 0, 1) := by decide +kernel
theorem dL_law_970 : decode cL_law 970 = .ok (.iconst 0, 1) := by decide +kernel
theorem dL_law_971 : decode cL_law 971 = .ok (.iconst 0, 1) := by decide +kernel
theorem dL_law_972 : decode cL_law 972 = .ok (.bipush (-61), 2) := by decide +kernel
theorem dL_law_974 : decode cL_law 974 = .ok (.iconst 1, 1) := by decide +kernel
theorem dL_law_975 : decode cL_law 975 = .ok (.iconst 0, 1) := by decide +kernel
theorem dL_law_976 : decode cL_law 976 = .ok (.invokevirtual 47, 3) := by decide +kernel
theorem dL_law_979 : decode cL_law 979 = .ok (.bipush (-2), 2) := by decide +kernel
theorem dL_law_981 : decode cL_law 981 = .ok (.if_icmp .ne 110, 3) := by decide +kernel
theorem dL_law_984 : decode cL_law 984 = .ok (.aload_n 1, 1) := by decide +kernel
theorem dL_law_985 : decode cL_law 985 = .ok (.iconst 0, 1) := by decide +kernel
theorem dL_law_986 : decode cL_law 986 = .ok (.iconst 0, 1) := by decide +kernel
theorem dL_law_987 : decode cL_law 987 = .ok (.iconst 1, 1) := by decide +kernel
theorem dL_law_988 : decode cL_law 988 = .ok (.iconst 0, 1) := by decide +kernel
theorem dL_law_989 : decode cL_law 989 = .ok (.iconst 0, 1) := by decide +kernel
theorem dL_law_990 : decode cL_law 990 = .ok (.iconst 0, 1) := by decide +kernel
theorem dL_law_991 : decode cL_law 991 = .ok (.invokevirtual 47, 3) := by decide +kernel
theorem dL_law_994 : decode cL_law 994 = .ok (.bipush (-2), 2) := by decide +kernel
theorem dL_law_996 : decode cL_law 996 = .ok (.if_icmp .ne 95, 3) := by decide +kernel
theorem dL_law_999 : decode cL_law 999 = .ok (.aload_n 1, 1) := by decide +kernel
theorem dL_law_1000 : decode cL_law 1000 = .ok (.iconst 0, 1) := by decide +kernel
theorem dL_law_1001 : decode cL_law 1001 = .ok (.iconst 0, 1) := by decide +kernel
theorem dL_law_1002 : decode cL_law 1002 = .ok (.iconst 1, 1) := by decide +kernel
theorem dL_law_1003 : decode cL_law 1003 = .ok (.iconst 0, 1) := by decide +kernel
theorem dL_law_1004 : decode cL_law 1004 = .ok (.sipush 201, 3) := by decide +kernel
theorem dL_law_1007 : decode cL_law 1007 = .ok (.iconst 0, 1) := by decide +kernel
theorem dL_law_1008 : decode cL_law 1008 = .ok (.invokevirtual 47, 3) := by decide +kernel
theorem dL_law_1011 : decode cL_law 1011 = .ok (.bipush (-2), 2) := by decide +kernel
theorem dL_law_1013 : decode cL_law 1013 = .ok (.if_icmp .ne 78, 3) := by decide +kernel
theorem dL_law_1016 : decode cL_law 1016 = .ok (.aload_n 1, 1) := by decide +kernel
theorem dL_law_1017 : decode cL_law 1017 = .ok (.iconst 0, 1) := by decide +kernel
theorem dL_law_1018 : decode cL_law 1018 = .ok (.iconst 0, 1) := by decide +kernel
theorem dL_law_1019 : decode cL_law 1019 = .ok (.iconst 1, 1) := by decide +kernel
theorem dL_law_1020 : decode cL_law 1020 = .ok (.iconst 0, 1) := by decide +kernel
theorem dL_law_1021 : decode cL_law 1021 = .ok (.iconst 1, 1) := by decide +kernel
theorem dL_law_1022 : decode cL_law 1022 = .ok (.iconst 4, 1) := by decide +kernel
theorem dL_law_1023 : decode cL_law 1023 = .ok (.invokevirtual 47, 3) := by decide +kernel
theorem dL_law_1026 : decode cL_law 1026 = .ok (.bipush (-2), 2) := by decide +kernel
theorem dL_law_1028 : decode cL_law 1028 = .ok (.if_icmp .ne 63, 3) := by decide +kernel
theorem dL_law_1031 : decode cL_law 1031 = .ok (.aload_n 1, 1) := by decide +kernel
theorem dL_law_1032 : decode cL_law 1032 = .ok (.iconst 0, 1) := by decide +kernel
theorem dL_law_1033 : decode cL_law 1033 = .ok (.iconst 0, 1) := by decide +kernel
theorem dL_law_1034 : decode cL_law 1034 = .ok (.iconst 1, 1) := by decide +kernel
theorem dL_law_1035 : decode cL_law 1035 = .ok (.iconst 0, 1) := by decide +kernel
theorem dL_law_1036 : decode cL_law 1036 = .ok (.iconst (-1), 1) := by decide +kernel
theorem dL_law_1037 : decode cL_law 1037 = .ok (.invokevirtual 51, 3) := by decide +kernel
theorem dL_law_1040 : decode cL_law 1040 = .ok (.bipush (-2), 2) := by decide +kernel
theorem dL_law_1042 : decode cL_law 1042 = .ok (.if_icmp .ne 49, 3) := by decide +kernel
theorem dL_law_1045 : decode cL_law 1045 = .ok (.aload_n 1, 1) := by decide +kernel
theorem dL_law_1046 : decode cL_law 1046 = .ok (.iconst 0, 1) := by decide +kernel
theorem dL_law_1047 : decode cL_law 1047 = .ok (.iconst 0, 1) := by decide +kernel
theorem dL_law_1048 : decode cL_law 1048 = .ok (.iconst 1, 1) := by decide +kernel
theorem dL_law_1049 : decode cL_law 1049 = .ok (.iconst 0, 1) := by decide +kernel
theorem dL_law_1050 : decode cL_law 1050 = .ok (.sipush 200, 3) := by decide +kernel
theorem dL_law_1053 : decode cL_law 1053 = .ok (.invokevirtual 51, 3) := by decide +kernel
theorem dL_law_1056 : decode cL_law 1056 = .ok (.bipush (-9), 2) := by decide +kernel
theorem dL_law_1058 : decode cL_law 1058 = .ok (.if_icmp .ne 33, 3) := by decide +kernel
theorem dL_law_1061 : decode cL_law 1061 = .ok (.aload_n 1, 1) := by decide +kernel
theorem dL_law_1062 : decode cL_law 1062 = .ok (.iconst 0, 1) := by decide +kernel
theorem dL_law_1063 : decode cL_law 1063 = .ok (.iconst (-1), 1) := by decide +kernel
theorem dL_law_1064 : decode cL_law 1064 = .ok (.iconst 1, 1) := by decide +kernel
theorem dL_law_1065 : decode cL_law 1065 = .ok (.iconst 1, 1) := by decide +kernel
theorem dL_law_1066 : decode cL_law 1066 = .ok (.invokevirtual 55, 3) := by decide +kernel
theorem dL_law_1069 : decode cL_law 1069 = .ok (.iconst (-1), 1) := by decide +kernel
theorem dL_law_1070 : decode cL_law 1070 = .ok (.if_icmp .ne 21, 3) := by decide +kernel
theorem dL_law_1073 : decode cL_law 1073 = .ok (.aload_n 1, 1) := by decide +kernel
theorem dL_law_1074 : decode cL_law 1074 = .ok (.iconst 0, 1) := by decide +kernel
theorem dL_law_1075 : decode cL_law 1075 = .ok (.iconst 0, 1) := by decide +kernel
theorem dL_law_1076 : decode cL_law 1076 = .ok (.bipush 61, 2) := by decide +kernel
theorem dL_law_1078 : decode cL_law 1078 = .ok (.iconst 1, 1) := by decide +kernel
theorem dL_law_1079 : decode cL_law 1079 = .ok (.invokevirtual 55, 3) := by decide +kernel
theorem dL_law_1082 : decode cL_law 1082 = .ok (.bipush (-2), 2) := by decide +kernel
theorem dL_law_1084 : decode cL_law 1084 = .ok (.if_icmp .ne 7, 3) := by decide +kernel
theorem dL_law_1087 : decode cL_law 1087 = .ok (.iconst 1, 1) := by decide +kernel
theorem dL_law_1088 : decode cL_law 1088 = .ok (.goto 4, 3) := by decide +kernel
theorem dL_law_1091 : decode cL_law 1091 = .ok (.iconst 0, 1) := by decide +kernel
theorem dL_law_1092 : decode cL_law 1092 = .ok (.ireturn, 1) := by decide +kernel
