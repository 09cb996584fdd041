theorem dL_below_0 : decode cL_below 0 = .ok (.iload_n 0, 1) := by decide +kernel
theorem dL_below_1 : decode cL_below 1 = .ok (.ldc 7, 2) := by decide +kernel
theorem dL_below_3 : decode cL_below 3 = .ok (.iand, 1) := by decide +kernel
theorem dL_below_4 : decode cL_below 4 = .ok (.iload_n 1, 1) := by decide +kernel
theorem dL_below_5 : decode cL_below 5 = .ok (.irem, 1) := by decide +kernel
theorem dL_below_6 : decode cL_below 6 = .ok (.ireturn, 1) := by decide +kernel
theorem dL_cell_0 : decode cL_cell 0 = .ok (.iload_n 1, 1) := by decide +kernel
theorem dL_cell_1 : decode cL_cell 1 = .ok (.aload_n 0, 1) := by decide +kernel
theorem dL_cell_2 : decode cL_cell 2 = .ok (.arraylength, 1) := by decide +kernel
theorem dL_cell_3 : decode cL_cell 3 = .ok (.if_icmp .ge 9, 3) := by decide +kernel
theorem dL_cell_6 : decode cL_cell 6 = .ok (.aload_n 0, 1) := by decide +kernel
theorem dL_cell_7 : decode cL_cell 7 = .ok (.iload_n 1, 1) := by decide +kernel
theorem dL_cell_8 : decode cL_cell 8 = .ok (.iaload, 1) := by decide +kernel
theorem dL_cell_9 : decode cL_cell 9 = .ok (.goto 9, 3) := by decide +kernel
theorem dL_cell_12 : decode cL_cell 12 = .ok (.ldc 8, 2) := by decide +kernel
theorem dL_cell_14 : decode cL_cell 14 = .ok (.iload_n 1, 1) := by decide +kernel
theorem dL_cell_15 : decode cL_cell 15 = .ok (.iconst 3, 1) := by decide +kernel
theorem dL_cell_16 : decode cL_cell 16 = .ok (.iadd, 1) := by decide +kernel
theorem dL_cell_17 : decode cL_cell 17 = .ok (.imul, 1) := by decide +kernel
theorem dL_cell_18 : decode cL_cell 18 = .ok (.ireturn, 1) := by decide +kernel
theorem dL_build_0 : decode cL_build 0 = .ok (.iconst 0, 1) := by decide +kernel
theorem dL_build_1 : decode cL_build 1 = .ok (.istore 5, 2) := by decide +kernel
theorem dL_build_3 : decode cL_build 3 = .ok (.iload 5, 2) := by decide +kernel
theorem dL_build_5 : decode cL_build 5 = .ok (.aload_n 3, 1) := by decide +kernel
theorem dL_build_6 : decode cL_build 6 = .ok (.arraylength, 1) := by decide +kernel
theorem dL_build_7 : decode cL_build 7 = .ok (.if_icmp .ge 75, 3) := by decide +kernel
theorem dL_build_10 : decode cL_build 10 = .ok (.aload_n 3, 1) := by decide +kernel
theorem dL_build_11 : decode cL_build 11 = .ok (.iload 5, 2) := by decide +kernel
theorem dL_build_13 : decode cL_build 13 = .ok (.iload 5, 2) := by decide +kernel
theorem dL_build_15 : decode cL_build 15 = .ok (.iconst 4, 1) := by decide +kernel
theorem dL_build_16 : decode cL_build 16 = .ok (.if_icmp .ge 8, 3) := by decide +kernel
theorem dL_build_19 : decode cL_build 19 = .ok (.iload 5, 2) := by decide +kernel
theorem dL_build_21 : decode cL_build 21 = .ok (.goto 15, 3) := by decide +kernel
theorem dL_build_24 : decode cL_build 24 = .ok (.aload_n 1, 1) := by decide +kernel
theorem dL_build_25 : decode cL_build 25 = .ok (.iconst 0, 1) := by decide +kernel
theorem dL_build_26 : decode cL_build 26 = .ok (.invokestatic 9, 3) := by decide +kernel
theorem dL_build_29 : decode cL_build 29 = .ok (.iload 5, 2) := by decide +kernel
theorem dL_build_31 : decode cL_build 31 = .ok (.ishr, 1) := by decide +kernel
theorem dL_build_32 : decode cL_build 32 = .ok (.iconst 4, 1) := by decide +kernel
theorem dL_build_33 : decode cL_build 33 = .ok (.invokestatic 15, 3) := by decide +kernel
theorem dL_build_36 : decode cL_build 36 = .ok (.iastore, 1) := by decide +kernel
theorem dL_build_37 : decode cL_build 37 = .ok (.aload 4, 2) := by decide +kernel
theorem dL_build_39 : decode cL_build 39 = .ok (.iload 5, 2) := by decide +kernel
theorem dL_build_41 : decode cL_build 41 = .ok (.aload_n 1, 1) := by decide +kernel
theorem dL_build_42 : decode cL_build 42 = .ok (.iconst 1, 1) := by decide +kernel
theorem dL_build_43 : decode cL_build 43 = .ok (.invokestatic 9, 3) := by decide +kernel
theorem dL_build_46 : decode cL_build 46 = .ok (.iload 5, 2) := by decide +kernel
theorem dL_build_48 : decode cL_build 48 = .ok (.ishr, 1) := by decide +kernel
theorem dL_build_49 : decode cL_build 49 = .ok (.iconst 2, 1) := by decide +kernel
theorem dL_build_50 : decode cL_build 50 = .ok (.invokestatic 15, 3) := by decide +kernel
theorem dL_build_53 : decode cL_build 53 = .ok (.ifCond .ne 7, 3) := by decide +kernel
theorem dL_build_56 : decode cL_build 56 = .ok (.iconst 1, 1) := by decide +kernel
theorem dL_build_57 : decode cL_build 57 = .ok (.goto 4, 3) := by decide +kernel
theorem dL_build_60 : decode cL_build 60 = .ok (.iconst 0, 1) := by decide +kernel
theorem dL_build_61 : decode cL_build 61 = .ok (.bastore, 1) := by decide +kernel
theorem dL_build_62 : decode cL_build 62 = .ok (.aload_n 0, 1) := by decide +kernel
theorem dL_build_63 : decode cL_build 63 = .ok (.aload_n 3, 1) := by decide +kernel
theorem dL_build_64 : decode cL_build 64 = .ok (.iload 5, 2) := by decide +kernel
theorem dL_build_66 : decode cL_build 66 = .ok (.iaload, 1) := by decide +kernel
theorem dL_build_67 : decode cL_build 67 = .ok (.aload 4, 2) := by decide +kernel
theorem dL_build_69 : decode cL_build 69 = .ok (.iload 5, 2) := by decide +kernel
theorem dL_build_71 : decode cL_build 71 = .ok (.baload, 1) := by decide +kernel
theorem dL_build_72 : decode cL_build 72 = .ok (.invokevirtual 19, 3) := by decide +kernel
theorem dL_build_75 : decode cL_build 75 = .ok (.pop, 1) := by decide +kernel
theorem dL_build_76 : decode cL_build 76 = .ok (.iinc 5 1, 3) := by decide +kernel
theorem dL_build_79 : decode cL_build 79 = .ok (.goto (-76), 3) := by decide +kernel
theorem dL_build_82 : decode cL_build 82 = .ok (.iload_n 2, 1) := by decide +kernel
theorem dL_build_83 : decode cL_build 83 = .ok (.anewarray 25, 3) := by decide +kernel
theorem dL_build_86 : decode cL_build 86 = .ok (.astore 5, 2) := by decide +kernel
theorem dL_build_88 : decode cL_build 88 = .ok (.iconst 0, 1) := by decide +kernel
theorem dL_build_89 : decode cL_build 89 = .ok (.istore 6, 2) := by decide +kernel
theorem dL_build_91 : decode cL_build 91 = .ok (.iconst 0, 1) := by decide +kernel
theorem dL_build_92 : decode cL_build 92 = .ok (.istore 7, 2) := by decide +kernel
theorem dL_build_94 : decode cL_build 94 = .ok (.iload 6, 2) := by decide +kernel
theorem dL_build_96 : decode cL_build 96 = .ok (.iload_n 2, 1) := by decide +kernel
theorem dL_build_97 : decode cL_build 97 = .ok (.if_icmp .ge 150, 3) := by decide +kernel
theorem dL_build_100 : decode cL_build 100 = .ok (.iload 7, 2) := by decide +kernel
theorem dL_build_102 : decode cL_build 102 = .ok (.bipush 6, 2) := by decide +kernel
theorem dL_build_104 : decode cL_build 104 = .ok (.iload_n 2, 1) := by decide +kernel
theorem dL_build_105 : decode cL_build 105 = .ok (.imul, 1) := by decide +kernel
theorem dL_build_106 : decode cL_build 106 = .ok (.if_icmp .ge 141, 3) := by decide +kernel
theorem dL_build_109 : decode cL_build 109 = .ok (.aload_n 1, 1) := by decide +kernel
theorem dL_build_110 : decode cL_build 110 = .ok (.iconst 2, 1) := by decide +kernel
theorem dL_build_111 : decode cL_build 111 = .ok (.iload 7, 2) := by decide +kernel
theorem dL_build_113 : decode cL_build 113 = .ok (.bipush 14, 2) := by decide +kernel
theorem dL_build_115 : decode cL_build 115 = .ok (.irem, 1) := by decide +kernel
theorem dL_build_116 : decode cL_build 116 = .ok (.iadd, 1) := by decide +kernel
theorem dL_build_117 : decode cL_build 117 = .ok (.invokestatic 9, 3) := by decide +kernel
theorem dL_build_120 : decode cL_build 120 = .ok (.iload 7, 2) := by decide +kernel
theorem dL_build_122 : decode cL_build 122 = .ok (.bipush 14, 2) := by decide +kernel
theorem dL_build_124 : decode cL_build 124 = .ok (.idiv, 1) := by decide +kernel
theorem dL_build_125 : decode cL_build 125 = .ok (.iconst 2, 1) := by decide +kernel
theorem dL_build_126 : decode cL_build 126 = .ok (.imul, 1) := by decide +kernel
theorem dL_build_127 : decode cL_build 127 = .ok (.ishr, 1) := by decide +kernel
theorem dL_build_128 : decode cL_build 128 = .ok (.iconst 5, 1) := by decide +kernel
theorem dL_build_129 : decode cL_build 129 = .ok (.iload 7, 2) := by decide +kernel
theorem dL_build_131 : decode cL_build 131 = .ok (.imul, 1) := by decide +kernel
theorem dL_build_132 : decode cL_build 132 = .ok (.iadd, 1) := by decide +kernel
theorem dL_build_133 : decode cL_build 133 = .ok (.istore 8, 2) := by decide +kernel
theorem dL_build_135 : decode cL_build 135 = .ok (.bipush 6, 2) := by decide +kernel
theorem dL_build_137 : decode cL_build 137 = .ok (.newarray .int, 2) := by decide +kernel
theorem dL_build_139 : decode cL_build 139 = .ok (.dup, 1) := by decide +kernel
theorem dL_build_140 : decode cL_build 140 = .ok (.iconst 0, 1) := by decide +kernel
theorem dL_build_141 : decode cL_build 141 = .ok (.iload 8, 2) := by decide +kernel
theorem dL_build_143 : decode cL_build 143 = .ok (.bipush 10, 2) := by decide +kernel
theorem dL_build_145 : decode cL_build 145 = .ok (.invokestatic 15, 3) := by decide +kernel
theorem dL_build_148 : decode cL_build 148 = .ok (.iastore, 1) := by decide +kernel
theorem dL_build_149 : decode cL_build 149 = .ok (.dup, 1) := by decide +kernel
theorem dL_build_150 : decode cL_build 150 = .ok (.iconst 1, 1) := by decide +kernel
theorem dL_build_151 : decode cL_build 151 = .ok (.iload 8, 2) := by decide +kernel
theorem dL_build_153 : decode cL_build 153 = .ok (.iconst 2, 1) := by decide +kernel
theorem dL_build_154 : decode cL_build 154 = .ok (.ishr, 1) := by decide +kernel
theorem dL_build_155 : decode cL_build 155 = .ok (.aload_n 3, 1) := by decide +kernel
theorem dL_build_156 : decode cL_build 156 = .ok (.arraylength, 1) := by decide +kernel
theorem dL_build_157 : decode cL_build 157 = .ok (.invokestatic 15, 3) := by decide +kernel
theorem dL_build_160 : decode cL_build 160 = .ok (.iastore, 1) := by decide +kernel
theorem dL_build_161 : decode cL_build 161 = .ok (.dup, 1) := by decide +kernel
theorem dL_build_162 : decode cL_build 162 = .ok (.iconst 2, 1) := by decide +kernel
theorem dL_build_163 : decode cL_build 163 = .ok (.iload 8, 2) := by decide +kernel
theorem dL_build_165 : decode cL_build 165 = .ok (.iconst 4, 1) := by decide +kernel
theorem dL_build_166 : decode cL_build 166 = .ok (.ishr, 1) := by decide +kernel
theorem dL_build_167 : decode cL_build 167 = .ok (.aload_n 3, 1) := by decide +kernel
theorem dL_build_168 : decode cL_build 168 = .ok (.arraylength, 1) := by decide +kernel
theorem dL_build_169 : decode cL_build 169 = .ok (.invokestatic 15, 3) := by decide +kernel
theorem dL_build_172 : decode cL_build 172 = .ok (.iastore, 1) := by decide +kernel
theorem dL_build_173 : decode cL_build 173 = .ok (.dup, 1) := by decide +kernel
theorem dL_build_174 : decode cL_build 174 = .ok (.iconst 3, 1) := by decide +kernel
theorem dL_build_175 : decode cL_build 175 = .ok (.iload 8, 2) := by decide +kernel
theorem dL_build_177 : decode cL_build 177 = .ok (.iconst 1, 1) := by decide +kernel
theorem dL_build_178 : decode cL_build 178 = .ok (.ishr, 1) := by decide +kernel
theorem dL_build_179 : decode cL_build 179 = .ok (.iconst 5, 1) := by decide +kernel
theorem dL_build_180 : decode cL_build 180 = .ok (.invokestatic 15, 3) := by decide +kernel
theorem dL_build_183 : decode cL_build 183 = .ok (.iconst 1, 1) := by decide +kernel
theorem dL_build_184 : decode cL_build 184 = .ok (.isub, 1) := by decide +kernel
theorem dL_build_185 : decode cL_build 185 = .ok (.iastore, 1) := by decide +kernel
theorem dL_build_186 : decode cL_build 186 = .ok (.dup, 1) := by decide +kernel
theorem dL_build_187 : decode cL_build 187 = .ok (.iconst 4, 1) := by decide +kernel
theorem dL_build_188 : decode cL_build 188 = .ok (.iload 8, 2) := by decide +kernel
theorem dL_build_190 : decode cL_build 190 = .ok (.iconst 3, 1) := by decide +kernel
theorem dL_build_191 : decode cL_build 191 = .ok (.ishr, 1) := by decide +kernel
theorem dL_build_192 : decode cL_build 192 = .ok (.iconst 4, 1) := by decide +kernel
theorem dL_build_193 : decode cL_build 193 = .ok (.invokestatic 15, 3) := by decide +kernel
theorem dL_build_196 : decode cL_build 196 = .ok (.iastore, 1) := by decide +kernel
theorem dL_build_197 : decode cL_build 197 = .ok (.dup, 1) := by decide +kernel
theorem dL_build_198 : decode cL_build 198 = .ok (.iconst 5, 1) := by decide +kernel
theorem dL_build_199 : decode cL_build 199 = .ok (.iload 8, 2) := by decide +kernel
theorem dL_build_201 : decode cL_build 201 = .ok (.iconst 3, 1) := by decide +kernel
theorem dL_build_202 : decode cL_build 202 = .ok (.ishr, 1) := by decide +kernel
theorem dL_build_203 : decode cL_build 203 = .ok (.iload_n 2, 1) := by decide +kernel
theorem dL_build_204 : decode cL_build 204 = .ok (.iconst 2, 1) := by decide +kernel
theorem dL_build_205 : decode cL_build 205 = .ok (.iadd, 1) := by decide +kernel
theorem dL_build_206 : decode cL_build 206 = .ok (.invokestatic 15, 3) := by decide +kernel
theorem dL_build_209 : decode cL_build 209 = .ok (.iastore, 1) := by decide +kernel
theorem dL_build_210 : decode cL_build 210 = .ok (.astore 9, 2) := by decide +kernel
theorem dL_build_212 : decode cL_build 212 = .ok (.aload_n 3, 1) := by decide +kernel
theorem dL_build_213 : decode cL_build 213 = .ok (.aload 9, 2) := by decide +kernel
theorem dL_build_215 : decode cL_build 215 = .ok (.invokestatic 27, 3) := by decide +kernel
theorem dL_build_218 : decode cL_build 218 = .ok (.ifCond .ne 6, 3) := by decide +kernel
theorem dL_build_221 : decode cL_build 221 = .ok (.goto 20, 3) := by decide +kernel
theorem dL_build_224 : decode cL_build 224 = .ok (.aload_n 0, 1) := by decide +kernel
theorem dL_build_225 : decode cL_build 225 = .ok (.aload 9, 2) := by decide +kernel
theorem dL_build_227 : decode cL_build 227 = .ok (.invokestatic 31, 3) := by decide +kernel
theorem dL_build_230 : decode cL_build 230 = .ok (.pop, 1) := by decide +kernel
theorem dL_build_231 : decode cL_build 231 = .ok (.aload 5, 2) := by decide +kernel
theorem dL_build_233 : decode cL_build 233 = .ok (.iload 6, 2) := by decide +kernel
theorem dL_build_235 : decode cL_build 235 = .ok (.iinc 6 1, 3) := by decide +kernel
theorem dL_build_238 : decode cL_build 238 = .ok (.aload 9, 2) := by decide +kernel
theorem dL_build_240 : decode cL_build 240 = .ok (.aastore, 1) := by decide +kernel
theorem dL_build_241 : decode cL_build 241 = .ok (.iinc 7 1, 3) := by decide +kernel
theorem dL_build_244 : decode cL_build 244 = .ok (.goto (-150), 3) := by decide +kernel
theorem dL_build_247 : decode cL_build 247 = .ok (.iload 6, 2) := by decide +kernel
theorem dL_build_249 : decode cL_build 249 = .ok (.iload_n 2, 1) := by decide +kernel
theorem dL_build_250 : decode cL_build 250 = .ok (.if_icmp .ge 57, 3) := by decide +kernel
theorem dL_build_253 : decode cL_build 253 = .ok (.bipush 6, 2) := by decide +kernel
theorem dL_build_255 : decode cL_build 255 = .ok (.newarray .int, 2) := by decide +kernel
theorem dL_build_257 : decode cL_build 257 = .ok (.dup, 1) := by decide +kernel
theorem dL_build_258 : decode cL_build 258 = .ok (.iconst 0, 1) := by decide +kernel
theorem dL_build_259 : decode cL_build 259 = .ok (.iconst 5, 1) := by decide +kernel
theorem dL_build_260 : decode cL_build 260 = .ok (.iastore, 1) := by decide +kernel
theorem dL_build_261 : decode cL_build 261 = .ok (.dup, 1) := by decide +kernel
theorem dL_build_262 : decode cL_build 262 = .ok (.iconst 1, 1) := by decide +kernel
theorem dL_build_263 : decode cL_build 263 = .ok (.iconst (-1), 1) := by decide +kernel
theorem dL_build_264 : decode cL_build 264 = .ok (.iastore, 1) := by decide +kernel
theorem dL_build_265 : decode cL_build 265 = .ok (.dup, 1) := by decide +kernel
theorem dL_build_266 : decode cL_build 266 = .ok (.iconst 2, 1) := by decide +kernel
theorem dL_build_267 : decode cL_build 267 = .ok (.iload 6, 2) := by decide +kernel
theorem dL_build_269 : decode cL_build 269 = .ok (.aload_n 3, 1) := by decide +kernel
theorem dL_build_270 : decode cL_build 270 = .ok (.arraylength, 1) := by decide +kernel
theorem dL_build_271 : decode cL_build 271 = .ok (.irem, 1) := by decide +kernel
theorem dL_build_272 : decode cL_build 272 = .ok (.iastore, 1) := by decide +kernel
theorem dL_build_273 : decode cL_build 273 = .ok (.dup, 1) := by decide +kernel
theorem dL_build_274 : decode cL_build 274 = .ok (.iconst 3, 1) := by decide +kernel
theorem dL_build_275 : decode cL_build 275 = .ok (.iconst (-1), 1) := by decide +kernel
theorem dL_build_276 : decode cL_build 276 = .ok (.iastore, 1) := by decide +kernel
theorem dL_build_277 : decode cL_build 277 = .ok (.dup, 1) := by decide +kernel
theorem dL_build_278 : decode cL_build 278 = .ok (.iconst 4, 1) := by decide +kernel
theorem dL_build_279 : decode cL_build 279 = .ok (.iconst 0, 1) := by decide +kernel
theorem dL_build_280 : decode cL_build 280 = .ok (.iastore, 1) := by decide +kernel
theorem dL_build_281 : decode cL_build 281 = .ok (.dup, 1) := by decide +kernel
theorem dL_build_282 : decode cL_build 282 = .ok (.iconst 5, 1) := by decide +kernel
theorem dL_build_283 : decode cL_build 283 = .ok (.iconst 0, 1) := by decide +kernel
theorem dL_build_284 : decode cL_build 284 = .ok (.iastore, 1) := by decide +kernel
theorem dL_build_285 : decode cL_build 285 = .ok (.astore 7, 2) := by decide +kernel
theorem dL_build_287 : decode cL_build 287 = .ok (.aload_n 0, 1) := by decide +kernel
theorem dL_build_288 : decode cL_build 288 = .ok (.aload 7, 2) := by decide +kernel
theorem dL_build_290 : decode cL_build 290 = .ok (.invokestatic 31, 3) := by decide +kernel
theorem dL_build_293 : decode cL_build 293 = .ok (.pop, 1) := by decide +kernel
theorem dL_build_294 : decode cL_build 294 = .ok (.aload 5, 2) := by decide +kernel
theorem dL_build_296 : decode cL_build 296 = .ok (.iload 6, 2) := by decide +kernel
theorem dL_build_298 : decode cL_build 298 = .ok (.iinc 6 1, 3) := by decide +kernel
theorem dL_build_301 : decode cL_build 301 = .ok (.aload 7, 2) := by decide +kernel
theorem dL_build_303 : decode cL_build 303 = .ok (.aastore, 1) := by decide +kernel
theorem dL_build_304 : decode cL_build 304 = .ok (.goto (-57), 3) := by decide +kernel
theorem dL_build_307 : decode cL_build 307 = .ok (.aload 5, 2) := by decide +kernel
theorem dL_build_309 : decode cL_build 309 = .ok (.areturn, 1) := by decide +kernel
theorem dL_isField_0 : decode cL_isField 0 = .ok (.aload_n 0, 1) := by decide +kernel
theorem dL_isField_1 : decode cL_isField 1 = .ok (.iload_n 1, 1) := by decide +kernel
theorem dL_isField_2 : decode cL_isField 2 = .ok (.iaload, 1) := by decide +kernel
theorem dL_isField_3 : decode cL_isField 3 = .ok (.iconst 1, 1) := by decide +kernel
theorem dL_isField_4 : decode cL_isField 4 = .ok (.if_icmp .ne 16, 3) := by decide +kernel
theorem dL_isField_7 : decode cL_isField 7 = .ok (.iload_n 2, 1) := by decide +kernel
theorem dL_isField_8 : decode cL_isField 8 = .ok (.ifCond .lt 12, 3) := by decide +kernel
theorem dL_isField_11 : decode cL_isField 11 = .ok (.iload_n 2, 1) := by decide +kernel
theorem dL_isField_12 : decode cL_isField 12 = .ok (.iconst 3, 1) := by decide +kernel
theorem dL_isField_13 : decode cL_isField 13 = .ok (.if_icmp .ge 7, 3) := by decide +kernel
theorem dL_isField_16 : decode cL_isField 16 = .ok (.iconst 1, 1) := by decide +kernel
theorem dL_isField_17 : decode cL_isField 17 = .ok (.goto 4, 3) := by decide +kernel
theorem dL_isField_20 : decode cL_isField 20 = .ok (.iconst 0, 1) := by decide +kernel
theorem dL_isField_21 : decode cL_isField 21 = .ok (.ireturn, 1) := by decide +kernel
theorem dL_canTell_0 : decode cL_canTell 0 = .ok (.aload_n 0, 1) := by decide +kernel
theorem dL_canTell_1 : decode cL_canTell 1 = .ok (.aload_n 1, 1) := by decide +kernel
theorem dL_canTell_2 : decode cL_canTell 2 = .ok (.iconst 2, 1) := by decide +kernel
theorem dL_canTell_3 : decode cL_canTell 3 = .ok (.iaload, 1) := by decide +kernel
theorem dL_canTell_4 : decode cL_canTell 4 = .ok (.iaload, 1) := by decide +kernel
theorem dL_canTell_5 : decode cL_canTell 5 = .ok (.istore_n 2, 1) := by decide +kernel
theorem dL_canTell_6 : decode cL_canTell 6 = .ok (.aload_n 1, 1) := by decide +kernel
theorem dL_canTell_7 : decode cL_canTell 7 = .ok (.iconst 0, 1) := by decide +kernel
theorem dL_canTell_8 : decode cL_canTell 8 = .ok (.iaload, 1) := by decide +kernel
theorem dL_canTell_9 : decode cL_canTell 9 = .ok (.tableswitch 289 0 6 #[43, 86, 139, 179, 222, 289, 260], 43) := by decide +kernel
theorem dL_canTell_52 : decode cL_canTell 52 = .ok (.aload_n 1, 1) := by decide +kernel
theorem dL_canTell_53 : decode cL_canTell 53 = .ok (.iconst 3, 1) := by decide +kernel
theorem dL_canTell_54 : decode cL_canTell 54 = .ok (.iaload, 1) := by decide +kernel
theorem dL_canTell_55 : decode cL_canTell 55 = .ok (.iconst (-1), 1) := by decide +kernel
theorem dL_canTell_56 : decode cL_canTell 56 = .ok (.if_icmp .ne 8, 3) := by decide +kernel
theorem dL_canTell_59 : decode cL_canTell 59 = .ok (.iload_n 2, 1) := by decide +kernel
theorem dL_canTell_60 : decode cL_canTell 60 = .ok (.iconst 2, 1) := by decide +kernel
theorem dL_canTell_61 : decode cL_canTell 61 = .ok (.if_icmp .lt 28, 3) := by decide +kernel
theorem dL_canTell_64 : decode cL_canTell 64 = .ok (.aload_n 0, 1) := by decide +kernel
theorem dL_canTell_65 : decode cL_canTell 65 = .ok (.aload_n 1, 1) := by decide +kernel
theorem dL_canTell_66 : decode cL_canTell 66 = .ok (.iconst 2, 1) := by decide +kernel
theorem dL_canTell_67 : decode cL_canTell 67 = .ok (.iaload, 1) := by decide +kernel
theorem dL_canTell_68 : decode cL_canTell 68 = .ok (.aload_n 1, 1) := by decide +kernel
theorem dL_canTell_69 : decode cL_canTell 69 = .ok (.iconst 3, 1) := by decide +kernel
theorem dL_canTell_70 : decode cL_canTell 70 = .ok (.iaload, 1) := by decide +kernel
theorem dL_canTell_71 : decode cL_canTell 71 = .ok (.invokestatic 35, 3) := by decide +kernel
theorem dL_canTell_74 : decode cL_canTell 74 = .ok (.ifCond .ne 15, 3) := by decide +kernel
theorem dL_canTell_77 : decode cL_canTell 77 = .ok (.aload_n 1, 1) := by decide +kernel
theorem dL_canTell_78 : decode cL_canTell 78 = .ok (.iconst 3, 1) := by decide +kernel
theorem dL_canTell_79 : decode cL_canTell 79 = .ok (.iaload, 1) := by decide +kernel
theorem dL_canTell_80 : decode cL_canTell 80 = .ok (.iconst 3, 1) := by decide +kernel
theorem dL_canTell_81 : decode cL_canTell 81 = .ok (.if_icmp .ne 12, 3) := by decide +kernel
theorem dL_canTell_84 : decode cL_canTell 84 = .ok (.iload_n 2, 1) := by decide +kernel
theorem dL_canTell_85 : decode cL_canTell 85 = .ok (.iconst 3, 1) := by decide +kernel
theorem dL_canTell_86 : decode cL_canTell 86 = .ok (.if_icmp .ne 7, 3) := by decide +kernel
theorem dL_canTell_89 : decode cL_canTell 89 = .ok (.iconst 1, 1) := by decide +kernel
theorem dL_canTell_90 : decode cL_canTell 90 = .ok (.goto 4, 3) := by decide +kernel
theorem dL_canTell_93 : decode cL_canTell 93 = .ok (.iconst 0, 1) := by decide +kernel
theorem dL_canTell_94 : decode cL_canTell 94 = .ok (.ireturn, 1) := by decide +kernel
theorem dL_canTell_95 : decode cL_canTell 95 = .ok (.aload_n 0, 1) := by decide +kernel
theorem dL_canTell_96 : decode cL_canTell 96 = .ok (.aload_n 1, 1) := by decide +kernel
theorem dL_canTell_97 : decode cL_canTell 97 = .ok (.iconst 2, 1) := by decide +kernel
theorem dL_canTell_98 : decode cL_canTell 98 = .ok (.iaload, 1) := by decide +kernel
theorem dL_canTell_99 : decode cL_canTell 99 = .ok (.aload_n 1, 1) := by decide +kernel
theorem dL_canTell_100 : decode cL_canTell 100 = .ok (.iconst 3, 1) := by decide +kernel
theorem dL_canTell_101 : decode cL_canTell 101 = .ok (.iaload, 1) := by decide +kernel
theorem dL_canTell_102 : decode cL_canTell 102 = .ok (.invokestatic 35, 3) := by decide +kernel
theorem dL_canTell_105 : decode cL_canTell 105 = .ok (.ifCond .eq 12, 3) := by decide +kernel
theorem dL_canTell_108 : decode cL_canTell 108 = .ok (.aload_n 0, 1) := by decide +kernel
theorem dL_canTell_109 : decode cL_canTell 109 = .ok (.aload_n 1, 1) := by decide +kernel
theorem dL_canTell_110 : decode cL_canTell 110 = .ok (.iconst 1, 1) := by decide +kernel
theorem dL_canTell_111 : decode cL_canTell 111 = .ok (.iaload, 1) := by decide +kernel
theorem dL_canTell_112 : decode cL_canTell 112 = .ok (.iaload, 1) := by decide +kernel
theorem dL_canTell_113 : decode cL_canTell 113 = .ok (.iconst 1, 1) := by decide +kernel
theorem dL_canTell_114 : decode cL_canTell 114 = .ok (.if_icmp .eq 28, 3) := by decide +kernel
theorem dL_canTell_117 : decode cL_canTell 117 = .ok (.aload_n 1, 1) := by decide +kernel
theorem dL_canTell_118 : decode cL_canTell 118 = .ok (.iconst 3, 1) := by decide +kernel
theorem dL_canTell_119 : decode cL_canTell 119 = .ok (.iaload, 1) := by decide +kernel
theorem dL_canTell_120 : decode cL_canTell 120 = .ok (.iconst (-1), 1) := by decide +kernel
theorem dL_canTell_121 : decode cL_canTell 121 = .ok (.if_icmp .ne 25, 3) := by decide +kernel
theorem dL_canTell_124 : decode cL_canTell 124 = .ok (.aload_n 1, 1) := by decide +kernel
theorem dL_canTell_125 : decode cL_canTell 125 = .ok (.iconst 1, 1) := by decide +kernel
theorem dL_canTell_126 : decode cL_canTell 126 = .ok (.iaload, 1) := by decide +kernel
theorem dL_canTell_127 : decode cL_canTell 127 = .ok (.aload_n 1, 1) := by decide +kernel
theorem dL_canTell_128 : decode cL_canTell 128 = .ok (.iconst 2, 1) := by decide +kernel
theorem dL_canTell_129 : decode cL_canTell 129 = .ok (.iaload, 1) := by decide +kernel
theorem dL_canTell_130 : decode cL_canTell 130 = .ok (.if_icmp .eq 16, 3) := by decide +kernel
theorem dL_canTell_133 : decode cL_canTell 133 = .ok (.aload_n 0, 1) := by decide +kernel
theorem dL_canTell_134 : decode cL_canTell 134 = .ok (.aload_n 1, 1) := by decide +kernel
theorem dL_canTell_135 : decode cL_canTell 135 = .ok (.iconst 1, 1) := by decide +kernel
theorem dL_canTell_136 : decode cL_canTell 136 = .ok (.iaload, 1) := by decide +kernel
theorem dL_canTell_137 : decode cL_canTell 137 = .ok (.iaload, 1) := by decide +kernel
theorem dL_canTell_138 : decode cL_canTell 138 = .ok (.iload_n 2, 1) := by decide +kernel
theorem dL_canTell_139 : decode cL_canTell 139 = .ok (.if_icmp .ne 7, 3) := by decide +kernel
theorem dL_canTell_142 : decode cL_canTell 142 = .ok (.iconst 1, 1) := by decide +kernel
theorem dL_canTell_143 : decode cL_canTell 143 = .ok (.goto 4, 3) := by decide +kernel
theorem dL_canTell_146 : decode cL_canTell 146 = .ok (.iconst 0, 1) := by decide +kernel
theorem dL_canTell_147 : decode cL_canTell 147 = .ok (.ireturn, 1) := by decide +kernel
theorem dL_canTell_148 : decode cL_canTell 148 = .ok (.aload_n 0, 1) := by decide +kernel
theorem dL_canTell_149 : decode cL_canTell 149 = .ok (.aload_n 1, 1) := by decide +kernel
theorem dL_canTell_150 : decode cL_canTell 150 = .ok (.iconst 1, 1) := by decide +kernel
theorem dL_canTell_151 : decode cL_canTell 151 = .ok (.iaload, 1) := by decide +kernel
theorem dL_canTell_152 : decode cL_canTell 152 = .ok (.iaload, 1) := by decide +kernel
theorem dL_canTell_153 : decode cL_canTell 153 = .ok (.iconst 1, 1) := by decide +kernel
theorem dL_canTell_154 : decode cL_canTell 154 = .ok (.if_icmp .le 32, 3) := by decide +kernel
theorem dL_canTell_157 : decode cL_canTell 157 = .ok (.iload_n 2, 1) := by decide +kernel
theorem dL_canTell_158 : decode cL_canTell 158 = .ok (.iconst 2, 1) := by decide +kernel
theorem dL_canTell_159 : decode cL_canTell 159 = .ok (.if_icmp .ge 27, 3) := by decide +kernel
theorem dL_canTell_162 : decode cL_canTell 162 = .ok (.aload_n 1, 1) := by decide +kernel
theorem dL_canTell_163 : decode cL_canTell 163 = .ok (.iconst 3, 1) := by decide +kernel
theorem dL_canTell_164 : decode cL_canTell 164 = .ok (.iaload, 1) := by decide +kernel
theorem dL_canTell_165 : decode cL_canTell 165 = .ok (.iconst (-1), 1) := by decide +kernel
theorem dL_canTell_166 : decode cL_canTell 166 = .ok (.if_icmp .eq 16, 3) := by decide +kernel
theorem dL_canTell_169 : decode cL_canTell 169 = .ok (.aload_n 0, 1) := by decide +kernel
theorem dL_canTell_170 : decode cL_canTell 170 = .ok (.aload_n 1, 1) := by decide +kernel
theorem dL_canTell_171 : decode cL_canTell 171 = .ok (.iconst 2, 1) := by decide +kernel
theorem dL_canTell_172 : decode cL_canTell 172 = .ok (.iaload, 1) := by decide +kernel
theorem dL_canTell_173 : decode cL_canTell 173 = .ok (.aload_n 1, 1) := by decide +kernel
theorem dL_canTell_174 : decode cL_canTell 174 = .ok (.iconst 3, 1) := by decide +kernel
theorem dL_canTell_175 : decode cL_canTell 175 = .ok (.iaload, 1) := by decide +kernel
theorem dL_canTell_176 : decode cL_canTell 176 = .ok (.invokestatic 35, 3) := by decide +kernel
theorem dL_canTell_179 : decode cL_canTell 179 = .ok (.ifCond .eq 7, 3) := by decide +kernel
theorem dL_canTell_182 : decode cL_canTell 182 = .ok (.iconst 1, 1) := by decide +kernel
theorem dL_canTell_183 : decode cL_canTell 183 = .ok (.goto 4, 3) := by decide +kernel
theorem dL_canTell_186 : decode cL_canTell 186 = .ok (.iconst 0, 1) := by decide +kernel
theorem dL_canTell_187 : decode cL_canTell 187 = .ok (.ireturn, 1) := by decide +kernel
theorem dL_canTell_188 : decode cL_canTell 188 = .ok (.aload_n 1, 1) := by decide +kernel
theorem dL_canTell_189 : decode cL_canTell 189 = .ok (.iconst 1, 1) := by decide +kernel
theorem dL_canTell_190 : decode cL_canTell 190 = .ok (.iaload, 1) := by decide +kernel
theorem dL_canTell_191 : decode cL_canTell 191 = .ok (.aload_n 1, 1) := by decide +kernel
theorem dL_canTell_192 : decode cL_canTell 192 = .ok (.iconst 2, 1) := by decide +kernel
theorem dL_canTell_193 : decode cL_canTell 193 = .ok (.iaload, 1) := by decide +kernel
theorem dL_canTell_194 : decode cL_canTell 194 = .ok (.if_icmp .eq 35, 3) := by decide +kernel
theorem dL_canTell_197 : decode cL_canTell 197 = .ok (.aload_n 0, 1) := by decide +kernel
theorem dL_canTell_198 : decode cL_canTell 198 = .ok (.aload_n 1, 1) := by decide +kernel
theorem dL_canTell_199 : decode cL_canTell 199 = .ok (.iconst 1, 1) := by decide +kernel
theorem dL_canTell_200 : decode cL_canTell 200 = .ok (.iaload, 1) := by decide +kernel
theorem dL_canTell_201 : decode cL_canTell 201 = .ok (.iaload, 1) := by decide +kernel
theorem dL_canTell_202 : decode cL_canTell 202 = .ok (.iconst 1, 1) := by decide +kernel
theorem dL_canTell_203 : decode cL_canTell 203 = .ok (.if_icmp .le 26, 3) := by decide +kernel
theorem dL_canTell_206 : decode cL_canTell 206 = .ok (.iload_n 2, 1) := by decide +kernel
theorem dL_canTell_207 : decode cL_canTell 207 = .ok (.iconst 1, 1) := by decide +kernel
theorem dL_canTell_208 : decode cL_canTell 208 = .ok (.if_icmp .le 21, 3) := by decide +kernel
theorem dL_canTell_211 : decode cL_canTell 211 = .ok (.aload_n 0, 1) := by decide +kernel
theorem dL_canTell_212 : decode cL_canTell 212 = .ok (.aload_n 1, 1) := by decide +kernel
theorem dL_canTell_213 : decode cL_canTell 213 = .ok (.iconst 1, 1) := by decide +kernel
theorem dL_canTell_214 : decode cL_canTell 214 = .ok (.iaload, 1) := by decide +kernel
theorem dL_canTell_215 : decode cL_canTell 215 = .ok (.iaload, 1) := by decide +kernel
theorem dL_canTell_216 : decode cL_canTell 216 = .ok (.iconst 2, 1) := by decide +kernel
theorem dL_canTell_217 : decode cL_canTell 217 = .ok (.if_icmp .eq 8, 3) := by decide +kernel
theorem dL_canTell_220 : decode cL_canTell 220 = .ok (.iload_n 2, 1) := by decide +kernel
theorem dL_canTell_221 : decode cL_canTell 221 = .ok (.iconst 3, 1) := by decide +kernel
theorem dL_canTell_222 : decode cL_canTell 222 = .ok (.if_icmp .ne 7, 3) := by decide +kernel
theorem dL_canTell_225 : decode cL_canTell 225 = .ok (.iconst 1, 1) := by decide +kernel
theorem dL_canTell_226 : decode cL_canTell 226 = .ok (.goto 4, 3) := by decide +kernel
theorem dL_canTell_229 : decode cL_canTell 229 = .ok (.iconst 0, 1) := by decide +kernel
theorem dL_canTell_230 : decode cL_canTell 230 = .ok (.ireturn, 1) := by decide +kernel
theorem dL_canTell_231 : decode cL_canTell 231 = .ok (.aload_n 1, 1) := by decide +kernel
theorem dL_canTell_232 : decode cL_canTell 232 = .ok (.iconst 3, 1) := by decide +kernel
theorem dL_canTell_233 : decode cL_canTell 233 = .ok (.iaload, 1) := by decide +kernel
theorem dL_canTell_234 : decode cL_canTell 234 = .ok (.iconst (-1), 1) := by decide +kernel
theorem dL_canTell_235 : decode cL_canTell 235 = .ok (.if_icmp .eq 28, 3) := by decide +kernel
theorem dL_canTell_238 : decode cL_canTell 238 = .ok (.aload_n 0, 1) := by decide +kernel
theorem dL_canTell_239 : decode cL_canTell 239 = .ok (.aload_n 1, 1) := by decide +kernel
theorem dL_canTell_240 : decode cL_canTell 240 = .ok (.iconst 2, 1) := by decide +kernel
theorem dL_canTell_241 : decode cL_canTell 241 = .ok (.iaload, 1) := by decide +kernel
theorem dL_canTell_242 : decode cL_canTell 242 = .ok (.aload_n 1, 1) := by decide +kernel
theorem dL_canTell_243 : decode cL_canTell 243 = .ok (.iconst 3, 1) := by decide +kernel
theorem dL_canTell_244 : decode cL_canTell 244 = .ok (.iaload, 1) := by decide +kernel
theorem dL_canTell_245 : decode cL_canTell 245 = .ok (.invokestatic 35, 3) := by decide +kernel
theorem dL_canTell_248 : decode cL_canTell 248 = .ok (.ifCond .ne 15, 3) := by decide +kernel
theorem dL_canTell_251 : decode cL_canTell 251 = .ok (.aload_n 1, 1) := by decide +kernel
theorem dL_canTell_252 : decode cL_canTell 252 = .ok (.iconst 3, 1) := by decide +kernel
theorem dL_canTell_253 : decode cL_canTell 253 = .ok (.iaload, 1) := by decide +kernel
theorem dL_canTell_254 : decode cL_canTell 254 = .ok (.iconst 3, 1) := by decide +kernel
theorem dL_canTell_255 : decode cL_canTell 255 = .ok (.if_icmp .ne 12, 3) := by decide +kernel
theorem dL_canTell_258 : decode cL_canTell 258 = .ok (.iload_n 2, 1) := by decide +kernel
theorem dL_canTell_259 : decode cL_canTell 259 = .ok (.iconst 1, 1) := by decide +kernel
theorem dL_canTell_260 : decode cL_canTell 260 = .ok (.if_icmp .le 7, 3) := by decide +kernel
theorem dL_canTell_263 : decode cL_canTell 263 = .ok (.iconst 1, 1) := by decide +kernel
theorem dL_canTell_264 : decode cL_canTell 264 = .ok (.goto 4, 3) := by decide +kernel
theorem dL_canTell_267 : decode cL_canTell 267 = .ok (.iconst 0, 1) := by decide +kernel
theorem dL_canTell_268 : decode cL_canTell 268 = .ok (.ireturn, 1) := by decide +kernel
theorem dL_canTell_269 : decode cL_canTell 269 = .ok (.aload_n 1, 1) := by decide +kernel
theorem dL_canTell_270 : decode cL_canTell 270 = .ok (.iconst 3, 1) := by decide +kernel
theorem dL_canTell_271 : decode cL_canTell 271 = .ok (.iaload, 1) := by decide +kernel
theorem dL_canTell_272 : decode cL_canTell 272 = .ok (.ifCond .lt 20, 3) := by decide +kernel
theorem dL_canTell_275 : decode cL_canTell 275 = .ok (.aload_n 1, 1) := by decide +kernel
theorem dL_canTell_276 : decode cL_canTell 276 = .ok (.iconst 3, 1) := by decide +kernel
theorem dL_canTell_277 : decode cL_canTell 277 = .ok (.iaload, 1) := by decide +kernel
theorem dL_canTell_278 : decode cL_canTell 278 = .ok (.aload_n 0, 1) := by decide +kernel
theorem dL_canTell_279 : decode cL_canTell 279 = .ok (.arraylength, 1) := by decide +kernel
theorem dL_canTell_280 : decode cL_canTell 280 = .ok (.if_icmp .ge 16, 3) := by decide +kernel
theorem dL_canTell_283 : decode cL_canTell 283 = .ok (.aload_n 1, 1) := by decide +kernel
theorem dL_canTell_284 : decode cL_canTell 284 = .ok (.iconst 3, 1) := by decide +kernel
theorem dL_canTell_285 : decode cL_canTell 285 = .ok (.iaload, 1) := by decide +kernel
theorem dL_canTell_286 : decode cL_canTell 286 = .ok (.aload_n 1, 1) := by decide +kernel
theorem dL_canTell_287 : decode cL_canTell 287 = .ok (.iconst 2, 1) := by decide +kernel
theorem dL_canTell_288 : decode cL_canTell 288 = .ok (.iaload, 1) := by decide +kernel
theorem dL_canTell_289 : decode cL_canTell 289 = .ok (.if_icmp .eq 7, 3) := by decide +kernel
theorem dL_canTell_292 : decode cL_canTell 292 = .ok (.iconst 1, 1) := by decide +kernel
theorem dL_canTell_293 : decode cL_canTell 293 = .ok (.goto 4, 3) := by decide +kernel
theorem dL_canTell_296 : decode cL_canTell 296 = .ok (.iconst 0, 1) := by decide +kernel
theorem dL_canTell_297 : decode cL_canTell 297 = .ok (.ireturn, 1) := by decide +kernel
theorem dL_canTell_298 : decode cL_canTell 298 = .ok (.iconst 1, 1) := by decide +kernel
theorem dL_canTell_299 : decode cL_canTell 299 = .ok (.ireturn, 1) := by decide +kernel
theorem dL_tell_0 : decode cL_tell 0 = .ok (.aload_n 1, 1) := by decide +kernel
theorem dL_tell_1 : decode cL_tell 1 = .ok (.iconst 0, 1) := by decide +kernel
theorem dL_tell_2 : decode cL_tell 2 = .ok (.iaload, 1) := by decide +kernel
theorem dL_tell_3 : decode cL_tell 3 = .ok (.tableswitch 156 0 8 #[49, 60, 74, 88, 99, 110, 118, 135, 135], 49) := by decide +kernel
theorem dL_tell_52 : decode cL_tell 52 = .ok (.aload_n 0, 1) := by decide +kernel
theorem dL_tell_53 : decode cL_tell 53 = .ok (.aload_n 1, 1) := by decide +kernel
theorem dL_tell_54 : decode cL_tell 54 = .ok (.iconst 2, 1) := by decide +kernel
theorem dL_tell_55 : decode cL_tell 55 = .ok (.iaload, 1) := by decide +kernel
theorem dL_tell_56 : decode cL_tell 56 = .ok (.aload_n 1, 1) := by decide +kernel
theorem dL_tell_57 : decode cL_tell 57 = .ok (.iconst 3, 1) := by decide +kernel
theorem dL_tell_58 : decode cL_tell 58 = .ok (.iaload, 1) := by decide +kernel
theorem dL_tell_59 : decode cL_tell 59 = .ok (.invokevirtual 39, 3) := by decide +kernel
theorem dL_tell_62 : decode cL_tell 62 = .ok (.ireturn, 1) := by decide +kernel
theorem dL_tell_63 : decode cL_tell 63 = .ok (.aload_n 0, 1) := by decide +kernel
theorem dL_tell_64 : decode cL_tell 64 = .ok (.aload_n 1, 1) := by decide +kernel
theorem dL_tell_65 : decode cL_tell 65 = .ok (.iconst 1, 1) := by decide +kernel
theorem dL_tell_66 : decode cL_tell 66 = .ok (.iaload, 1) := by decide +kernel
theorem dL_tell_67 : decode cL_tell 67 = .ok (.aload_n 1, 1) := by decide +kernel
theorem dL_tell_68 : decode cL_tell 68 = .ok (.iconst 2, 1) := by decide +kernel
theorem dL_tell_69 : decode cL_tell 69 = .ok (.iaload, 1) := by decide +kernel
theorem dL_tell_70 : decode cL_tell 70 = .ok (.aload_n 1, 1) := by decide +kernel
theorem dL_tell_71 : decode cL_tell 71 = .ok (.iconst 3, 1) := by decide +kernel
theorem dL_tell_72 : decode cL_tell 72 = .ok (.iaload, 1) := by decide +kernel
theorem dL_tell_73 : decode cL_tell 73 = .ok (.invokevirtual 42, 3) := by decide +kernel
theorem dL_tell_76 : decode cL_tell 76 = .ok (.ireturn, 1) := by decide +kernel
theorem dL_tell_77 : decode cL_tell 77 = .ok (.aload_n 0, 1) := by decide +kernel
theorem dL_tell_78 : decode cL_tell 78 = .ok (.aload_n 1, 1) := by decide +kernel
theorem dL_tell_79 : decode cL_tell 79 = .ok (.iconst 1, 1) := by decide +kernel
theorem dL_tell_80 : decode cL_tell 80 = .ok (.iaload, 1) := by decide +kernel
theorem dL_tell_81 : decode cL_tell 81 = .ok (.aload_n 1, 1) := by decide +kernel
theorem dL_tell_82 : decode cL_tell 82 = .ok (.iconst 2, 1) := by decide +kernel
theorem dL_tell_83 : decode cL_tell 83 = .ok (.iaload, 1) := by decide +kernel
theorem dL_tell_84 : decode cL_tell 84 = .ok (.aload_n 1, 1) := by decide +kernel
theorem dL_tell_85 : decode cL_tell 85 = .ok (.iconst 3, 1) := by decide +kernel
theorem dL_tell_86 : decode cL_tell 86 = .ok (.iaload, 1) := by decide +kernel
theorem dL_tell_87 : decode cL_tell 87 = .ok (.invokevirtual 46, 3) := by decide +kernel
theorem dL_tell_90 : decode cL_tell 90 = .ok (.ireturn, 1) := by decide +kernel
theorem dL_tell_91 : decode cL_tell 91 = .ok (.aload_n 0, 1) := by decide +kernel
theorem dL_tell_92 : decode cL_tell 92 = .ok (.aload_n 1, 1) := by decide +kernel
theorem dL_tell_93 : decode cL_tell 93 = .ok (.iconst 1, 1) := by decide +kernel
theorem dL_tell_94 : decode cL_tell 94 = .ok (.iaload, 1) := by decide +kernel
theorem dL_tell_95 : decode cL_tell 95 = .ok (.aload_n 1, 1) := by decide +kernel
theorem dL_tell_96 : decode cL_tell 96 = .ok (.iconst 2, 1) := by decide +kernel
theorem dL_tell_97 : decode cL_tell 97 = .ok (.iaload, 1) := by decide +kernel
theorem dL_tell_98 : decode cL_tell 98 = .ok (.invokevirtual 49, 3) := by decide +kernel
theorem dL_tell_101 : decode cL_tell 101 = .ok (.ireturn, 1) := by decide +kernel
theorem dL_tell_102 : decode cL_tell 102 = .ok (.aload_n 0, 1) := by decide +kernel
theorem dL_tell_103 : decode cL_tell 103 = .ok (.aload_n 1, 1) := by decide +kernel
theorem dL_tell_104 : decode cL_tell 104 = .ok (.iconst 2, 1) := by decide +kernel
theorem dL_tell_105 : decode cL_tell 105 = .ok (.iaload, 1) := by decide +kernel
theorem dL_tell_106 : decode cL_tell 106 = .ok (.aload_n 1, 1) := by decide +kernel
theorem dL_tell_107 : decode cL_tell 107 = .ok (.iconst 3, 1) := by decide +kernel
theorem dL_tell_108 : decode cL_tell 108 = .ok (.iaload, 1) := by decide +kernel
theorem dL_tell_109 : decode cL_tell 109 = .ok (.invokevirtual 52, 3) := by decide +kernel
theorem dL_tell_112 : decode cL_tell 112 = .ok (.ireturn, 1) := by decide +kernel
theorem dL_tell_113 : decode cL_tell 113 = .ok (.aload_n 0, 1) := by decide +kernel
theorem dL_tell_114 : decode cL_tell 114 = .ok (.aload_n 1, 1) := by decide +kernel
theorem dL_tell_115 : decode cL_tell 115 = .ok (.iconst 2, 1) := by decide +kernel
theorem dL_tell_116 : decode cL_tell 116 = .ok (.iaload, 1) := by decide +kernel
theorem dL_tell_117 : decode cL_tell 117 = .ok (.invokevirtual 55, 3) := by decide +kernel
theorem dL_tell_120 : decode cL_tell 120 = .ok (.ireturn, 1) := by decide +kernel
theorem dL_tell_121 : decode cL_tell 121 = .ok (.aload_n 0, 1) := by decide +kernel
theorem dL_tell_122 : decode cL_tell 122 = .ok (.aload_n 1, 1) := by decide +kernel
theorem dL_tell_123 : decode cL_tell 123 = .ok (.iconst 1, 1) := by decide +kernel
theorem dL_tell_124 : decode cL_tell 124 = .ok (.iaload, 1) := by decide +kernel
theorem dL_tell_125 : decode cL_tell 125 = .ok (.aload_n 1, 1) := by decide +kernel
theorem dL_tell_126 : decode cL_tell 126 = .ok (.iconst 2, 1) := by decide +kernel
theorem dL_tell_127 : decode cL_tell 127 = .ok (.iaload, 1) := by decide +kernel
theorem dL_tell_128 : decode cL_tell 128 = .ok (.aload_n 1, 1) := by decide +kernel
theorem dL_tell_129 : decode cL_tell 129 = .ok (.iconst 3, 1) := by decide +kernel
theorem dL_tell_130 : decode cL_tell 130 = .ok (.iaload, 1) := by decide +kernel
theorem dL_tell_131 : decode cL_tell 131 = .ok (.aload_n 1, 1) := by decide +kernel
theorem dL_tell_132 : decode cL_tell 132 = .ok (.iconst 4, 1) := by decide +kernel
theorem dL_tell_133 : decode cL_tell 133 = .ok (.iaload, 1) := by decide +kernel
theorem dL_tell_134 : decode cL_tell 134 = .ok (.invokevirtual 59, 3) := by decide +kernel
theorem dL_tell_137 : decode cL_tell 137 = .ok (.ireturn, 1) := by decide +kernel
theorem dL_tell_138 : decode cL_tell 138 = .ok (.aload_n 0, 1) := by decide +kernel
theorem dL_tell_139 : decode cL_tell 139 = .ok (.aload_n 1, 1) := by decide +kernel
theorem dL_tell_140 : decode cL_tell 140 = .ok (.iconst 0, 1) := by decide +kernel
theorem dL_tell_141 : decode cL_tell 141 = .ok (.iaload, 1) := by decide +kernel
theorem dL_tell_142 : decode cL_tell 142 = .ok (.bipush 8, 2) := by decide +kernel
theorem dL_tell_144 : decode cL_tell 144 = .ok (.if_icmp .ne 7, 3) := by decide +kernel
theorem dL_tell_147 : decode cL_tell 147 = .ok (.iconst 1, 1) := by decide +kernel
theorem dL_tell_148 : decode cL_tell 148 = .ok (.goto 4, 3) := by decide +kernel
theorem dL_tell_151 : decode cL_tell 151 = .ok (.iconst 0, 1) := by decide +kernel
theorem dL_tell_152 : decode cL_tell 152 = .ok (.aload_n 1, 1) := by decide +kernel
theorem dL_tell_153 : decode cL_tell 153 = .ok (.iconst 5, 1) := by decide +kernel
theorem dL_tell_154 : decode cL_tell 154 = .ok (.iaload, 1) := by decide +kernel
theorem dL_tell_155 : decode cL_tell 155 = .ok (.invokevirtual 63, 3) := by decide +kernel
theorem dL_tell_158 : decode cL_tell 158 = .ok (.ireturn, 1) := by decide +kernel
theorem dL_tell_159 : decode cL_tell 159 = .ok (.aload_n 0, 1) := by decide +kernel
theorem dL_tell_160 : decode cL_tell 160 = .ok (.aload_n 1, 1) := by decide +kernel
theorem dL_tell_161 : decode cL_tell 161 = .ok (.iconst 2, 1) := by decide +kernel
theorem dL_tell_162 : decode cL_tell 162 = .ok (.iaload, 1) := by decide +kernel
theorem dL_tell_163 : decode cL_tell 163 = .ok (.invokevirtual 67, 3) := by decide +kernel
theorem dL_tell_166 : decode cL_tell 166 = .ok (.ireturn, 1) := by decide +kernel
theorem dL_law_0 : decode cL_law 0 = .ok (.new 20, 3) := by decide +kernel
theorem dL_law_3 : decode cL_law 3 = .ok (.dup, 1) := by decide +kernel
theorem dL_law_4 : decode cL_law 4 = .ok (.invokespecial 70, 3) := by decide +kernel
theorem dL_law_7 : decode cL_law 7 = .ok (.astore_n 1, 1) := by decide +kernel
theorem dL_law_8 : decode cL_law 8 = .ok (.bipush 6, 2) := by decide +kernel
theorem dL_law_10 : decode cL_law 10 = .ok (.newarray .int, 2) := by decide +kernel
theorem dL_law_12 : decode cL_law 12 = .ok (.astore_n 2, 1) := by decide +kernel
theorem dL_law_13 : decode cL_law 13 = .ok (.bipush 6, 2) := by decide +kernel
theorem dL_law_15 : decode cL_law 15 = .ok (.newarray .boolean, 2) := by decide +kernel
theorem dL_law_17 : decode cL_law 17 = .ok (.astore_n 3, 1) := by decide +kernel
theorem dL_law_18 : decode cL_law 18 = .ok (.iconst 3, 1) := by decide +kernel
theorem dL_law_19 : decode cL_law 19 = .ok (.aload_n 0, 1) := by decide +kernel
theorem dL_law_20 : decode cL_law 20 = .ok (.iconst 0, 1) := by decide +kernel
theorem dL_law_21 : decode cL_law 21 = .ok (.invokestatic 9, 3) := by decide +kernel
theorem dL_law_24 : decode cL_law 24 = .ok (.bipush 18, 2) := by decide +kernel
theorem dL_law_26 : decode cL_law 26 = .ok (.invokestatic 15, 3) := by decide +kernel
theorem dL_law_29 : decode cL_law 29 = .ok (.iadd, 1) := by decide +kernel
theorem dL_law_30 : decode cL_law 30 = .ok (.istore 4, 2) := by decide +kernel
theorem dL_law_32 : decode cL_law 32 = .ok (.aload_n 1, 1) := by decide +kernel
theorem dL_law_33 : decode cL_law 33 = .ok (.aload_n 0, 1) := by decide +kernel
theorem dL_law_34 : decode cL_law 34 = .ok (.iload 4, 2) := by decide +kernel
theorem dL_law_36 : decode cL_law 36 = .ok (.aload_n 2, 1) := by decide +kernel
theorem dL_law_37 : decode cL_law 37 = .ok (.aload_n 3, 1) := by decide +kernel
theorem dL_law_38 : decode cL_law 38 = .ok (.invokestatic 71, 3) := by decide +kernel
theorem dL_law_41 : decode cL_law 41 = .ok (.pop, 1) := by decide +kernel
theorem dL_law_42 : decode cL_law 42 = .ok (.aload_n 1, 1) := by decide +kernel
theorem dL_law_43 : decode cL_law 43 = .ok (.invokevirtual 75, 3) := by decide +kernel
theorem dL_law_46 : decode cL_law 46 = .ok (.lstore 5, 2) := by decide +kernel
theorem dL_law_48 : decode cL_law 48 = .ok (.iconst 0, 1) := by decide +kernel
theorem dL_law_49 : decode cL_law 49 = .ok (.istore 7, 2) := by decide +kernel
theorem dL_law_51 : decode cL_law 51 = .ok (.iconst 0, 1) := by decide +kernel
theorem dL_law_52 : decode cL_law 52 = .ok (.istore 8, 2) := by decide +kernel
theorem dL_law_54 : decode cL_law 54 = .ok (.iconst 0, 1) := by decide +kernel
theorem dL_law_55 : decode cL_law 55 = .ok (.istore 9, 2) := by decide +kernel
theorem dL_law_57 : decode cL_law 57 = .ok (.iload 9, 2) := by decide +kernel
theorem dL_law_59 : decode cL_law 59 = .ok (.iload 4, 2) := by decide +kernel
theorem dL_law_61 : decode cL_law 61 = .ok (.if_icmp .ge 377, 3) := by decide +kernel
theorem dL_law_64 : decode cL_law 64 = .ok (.aload_n 1, 1) := by decide +kernel
theorem dL_law_65 : decode cL_law 65 = .ok (.iload 9, 2) := by decide +kernel
theorem dL_law_67 : decode cL_law 67 = .ok (.invokevirtual 79, 3) := by decide +kernel
theorem dL_law_70 : decode cL_law 70 = .ok (.istore 10, 2) := by decide +kernel
theorem dL_law_72 : decode cL_law 72 = .ok (.iload 8, 2) := by decide +kernel
theorem dL_law_74 : decode cL_law 74 = .ok (.iload 10, 2) := by decide +kernel
theorem dL_law_76 : decode cL_law 76 = .ok (.ifCond .eq 7, 3) := by decide +kernel
theorem dL_law_79 : decode cL_law 79 = .ok (.iconst 1, 1) := by decide +kernel
theorem dL_law_80 : decode cL_law 80 = .ok (.goto 4, 3) := by decide +kernel
theorem dL_law_83 : decode cL_law 83 = .ok (.iconst 0, 1) := by decide +kernel
theorem dL_law_84 : decode cL_law 84 = .ok (.iadd, 1) := by decide +kernel
theorem dL_law_85 : decode cL_law 85 = .ok (.istore 8, 2) := by decide +kernel
theorem dL_law_87 : decode cL_law 87 = .ok (.aload_n 1, 1) := by decide +kernel
theorem dL_law_88 : decode cL_law 88 = .ok (.iload 9, 2) := by decide +kernel
theorem dL_law_90 : decode cL_law 90 = .ok (.invokevirtual 83, 3) := by decide +kernel
theorem dL_law_93 : decode cL_law 93 = .ok (.istore 11, 2) := by decide +kernel
theorem dL_law_95 : decode cL_law 95 = .ok (.iload 10, 2) := by decide +kernel
theorem dL_law_97 : decode cL_law 97 = .ok (.ifCond .eq 19, 3) := by decide +kernel
theorem dL_law_100 : decode cL_law 100 = .ok (.iload 11, 2) := by decide +kernel
theorem dL_law_102 : decode cL_law 102 = .ok (.iconst 2, 1) := by decide +kernel
theorem dL_law_103 : decode cL_law 103 = .ok (.if_icmp .eq 9, 3) := by decide +kernel
theorem dL_law_106 : decode cL_law 106 = .ok (.iload 11, 2) := by decide +kernel
theorem dL_law_108 : decode cL_law 108 = .ok (.iconst 3, 1) := by decide +kernel
theorem dL_law_109 : decode cL_law 109 = .ok (.if_icmp .ne 7, 3) := by decide +kernel
theorem dL_law_112 : decode cL_law 112 = .ok (.iconst 1, 1) := by decide +kernel
theorem dL_law_113 : decode cL_law 113 = .ok (.goto 4, 3) := by decide +kernel
theorem dL_law_116 : decode cL_law 116 = .ok (.iconst 0, 1) := by decide +kernel
theorem dL_law_117 : decode cL_law 117 = .ok (.istore 12, 2) := by decide +kernel
theorem dL_law_119 : decode cL_law 119 = .ok (.iload 7, 2) := by decide +kernel
theorem dL_law_121 : decode cL_law 121 = .ok (.iload 12, 2) := by decide +kernel
theorem dL_law_123 : decode cL_law 123 = .ok (.ifCond .eq 7, 3) := by decide +kernel
theorem dL_law_126 : decode cL_law 126 = .ok (.iconst 1, 1) := by decide +kernel
theorem dL_law_127 : decode cL_law 127 = .ok (.goto 4, 3) := by decide +kernel
theorem dL_law_130 : decode cL_law 130 = .ok (.iconst 0, 1) := by decide +kernel
theorem dL_law_131 : decode cL_law 131 = .ok (.iadd, 1) := by decide +kernel
theorem dL_law_132 : decode cL_law 132 = .ok (.istore 7, 2) := by decide +kernel
theorem dL_law_134 : decode cL_law 134 = .ok (.aload_n 1, 1) := by decide +kernel
theorem dL_law_135 : decode cL_law 135 = .ok (.iload 9, 2) := by decide +kernel
theorem dL_law_137 : decode cL_law 137 = .ok (.invokevirtual 86, 3) := by decide +kernel
theorem dL_law_140 : decode cL_law 140 = .ok (.ifCond .lt 7, 3) := by decide +kernel
theorem dL_law_143 : decode cL_law 143 = .ok (.iconst 1, 1) := by decide +kernel
theorem dL_law_144 : decode cL_law 144 = .ok (.goto 4, 3) := by decide +kernel
theorem dL_law_147 : decode cL_law 147 = .ok (.iconst 0, 1) := by decide +kernel
theorem dL_law_148 : decode cL_law 148 = .ok (.iload 12, 2) := by decide +kernel
theorem dL_law_150 : decode cL_law 150 = .ok (.if_icmp .ne 26, 3) := by decide +kernel
theorem dL_law_153 : decode cL_law 153 = .ok (.iload 10, 2) := by decide +kernel
theorem dL_law_155 : decode cL_law 155 = .ok (.ifCond .ne 23, 3) := by decide +kernel
theorem dL_law_158 : decode cL_law 158 = .ok (.aload_n 1, 1) := by decide +kernel
theorem dL_law_159 : decode cL_law 159 = .ok (.iload 9, 2) := by decide +kernel
theorem dL_law_161 : decode cL_law 161 = .ok (.invokevirtual 89, 3) := by decide +kernel
theorem dL_law_164 : decode cL_law 164 = .ok (.ifCond .ne 12, 3) := by decide +kernel
theorem dL_law_167 : decode cL_law 167 = .ok (.aload_n 1, 1) := by decide +kernel
theorem dL_law_168 : decode cL_law 168 = .ok (.iload 9, 2) := by decide +kernel
theorem dL_law_170 : decode cL_law 170 = .ok (.invokevirtual 92, 3) := by decide +kernel
theorem dL_law_173 : decode cL_law 173 = .ok (.ifCond .eq 5, 3) := by decide +kernel
theorem dL_law_176 : decode cL_law 176 = .ok (.iconst 0, 1) := by decide +kernel
theorem dL_law_177 : decode cL_law 177 = .ok (.ireturn, 1) := by decide +kernel
theorem dL_law_178 : decode cL_law 178 = .ok (.iconst 0, 1) := by decide +kernel
theorem dL_law_179 : decode cL_law 179 = .ok (.istore 13, 2) := by decide +kernel
theorem dL_law_181 : decode cL_law 181 = .ok (.iload 13, 2) := by decide +kernel
theorem dL_law_183 : decode cL_law 183 = .ok (.bipush 6, 2) := by decide +kernel
theorem dL_law_185 : decode cL_law 185 = .ok (.if_icmp .ge 159, 3) := by decide +kernel
theorem dL_law_188 : decode cL_law 188 = .ok (.aload_n 1, 1) := by decide +kernel
theorem dL_law_189 : decode cL_law 189 = .ok (.iload 9, 2) := by decide +kernel
theorem dL_law_191 : decode cL_law 191 = .ok (.iload 13, 2) := by decide +kernel
theorem dL_law_193 : decode cL_law 193 = .ok (.iconst (-1), 1) := by decide +kernel
theorem dL_law_194 : decode cL_law 194 = .ok (.invokevirtual 95, 3) := by decide +kernel
theorem dL_law_197 : decode cL_law 197 = .ok (.istore 14, 2) := by decide +kernel
theorem dL_law_199 : decode cL_law 199 = .ok (.iconst 0, 1) := by decide +kernel
theorem dL_law_200 : decode cL_law 200 = .ok (.istore 15, 2) := by decide +kernel
theorem dL_law_202 : decode cL_law 202 = .ok (.iconst 0, 1) := by decide +kernel
theorem dL_law_203 : decode cL_law 203 = .ok (.istore 16, 2) := by decide +kernel
theorem dL_law_205 : decode cL_law 205 = .ok (.iload 16, 2) := by decide +kernel
theorem dL_law_207 : decode cL_law 207 = .ok (.iload 4, 2) := by decide +kernel
theorem dL_law_209 : decode cL_law 209 = .ok (.if_icmp .ge 32, 3) := by decide +kernel
theorem dL_law_212 : decode cL_law 212 = .ok (.iload 15, 2) := by decide +kernel
theorem dL_law_214 : decode cL_law 214 = .ok (.aload_n 1, 1) := by decide +kernel
theorem dL_law_215 : decode cL_law 215 = .ok (.iload 9, 2) := by decide +kernel
theorem dL_law_217 : decode cL_law 217 = .ok (.iload 13, 2) := by decide +kernel
theorem dL_law_219 : decode cL_law 219 = .ok (.iload 16, 2) := by decide +kernel
theorem dL_law_221 : decode cL_law 221 = .ok (.invokevirtual 98, 3) := by decide +kernel
theorem dL_law_224 : decode cL_law 224 = .ok (.ifCond .eq 7, 3) := by decide +kernel
theorem dL_law_227 : decode cL_law 227 = .ok (.iconst 1, 1) := by decide +kernel
theorem dL_law_228 : decode cL_law 228 = .ok (.goto 4, 3) := by decide +kernel
theorem dL_law_231 : decode cL_law 231 = .ok (.iconst 0, 1) := by decide +kernel
theorem dL_law_232 : decode cL_law 232 = .ok (.iadd, 1) := by decide +kernel
theorem dL_law_233 : decode cL_law 233 = .ok (.istore 15, 2) := by decide +kernel
theorem dL_law_235 : decode cL_law 235 = .ok (.iinc 16 1, 3) := by decide +kernel
theorem dL_law_238 : decode cL_law 238 = .ok (.goto (-33), 3) := by decide +kernel
theorem dL_law_241 : decode cL_law 241 = .ok (.iload 14, 2) := by decide +kernel
theorem dL_law_243 : decode cL_law 243 = .ok (.ifCond .le 7, 3) := by decide +kernel
theorem dL_law_246 : decode cL_law 246 = .ok (.iconst 1, 1) := by decide +kernel
theorem dL_law_247 : decode cL_law 247 = .ok (.goto 4, 3) := by decide +kernel
theorem dL_law_250 : decode cL_law 250 = .ok (.iconst 0, 1) := by decide +kernel
theorem dL_law_251 : decode cL_law 251 = .ok (.iload 10, 2) := by decide +kernel
theorem dL_law_253 : decode cL_law 253 = .ok (.if_icmp .ne 39, 3) := by decide +kernel
theorem dL_law_256 : decode cL_law 256 = .ok (.iload 15, 2) := by decide +kernel
theorem dL_law_258 : decode cL_law 258 = .ok (.aload_n 1, 1) := by decide +kernel
theorem dL_law_259 : decode cL_law 259 = .ok (.iload 9, 2) := by decide +kernel
theorem dL_law_261 : decode cL_law 261 = .ok (.iload 13, 2) := by decide +kernel
theorem dL_law_263 : decode cL_law 263 = .ok (.invokevirtual 102, 3) := by decide +kernel
theorem dL_law_266 : decode cL_law 266 = .ok (.if_icmp .ne 26, 3) := by decide +kernel
theorem dL_law_269 : decode cL_law 269 = .ok (.aload_n 2, 1) := by decide +kernel
theorem dL_law_270 : decode cL_law 270 = .ok (.iload 13, 2) := by decide +kernel
theorem dL_law_272 : decode cL_law 272 = .ok (.iaload, 1) := by decide +kernel
theorem dL_law_273 : decode cL_law 273 = .ok (.iconst 2, 1) := by decide +kernel
theorem dL_law_274 : decode cL_law 274 = .ok (.if_icmp .ge 8, 3) := by decide +kernel
theorem dL_law_277 : decode cL_law 277 = .ok (.iload 15, 2) := by decide +kernel
theorem dL_law_279 : decode cL_law 279 = .ok (.ifCond .gt 13, 3) := by decide +kernel
theorem dL_law_282 : decode cL_law 282 = .ok (.iload 10, 2) := by decide +kernel
theorem dL_law_284 : decode cL_law 284 = .ok (.ifCond .ne 10, 3) := by decide +kernel
theorem dL_law_287 : decode cL_law 287 = .ok (.iload 15, 2) := by decide +kernel
theorem dL_law_289 : decode cL_law 289 = .ok (.ifCond .le 5, 3) := by decide +kernel
theorem dL_law_292 : decode cL_law 292 = .ok (.iconst 0, 1) := by decide +kernel
theorem dL_law_293 : decode cL_law 293 = .ok (.ireturn, 1) := by decide +kernel
theorem dL_law_294 : decode cL_law 294 = .ok (.aload_n 2, 1) := by decide +kernel
theorem dL_law_295 : decode cL_law 295 = .ok (.iload 13, 2) := by decide +kernel
theorem dL_law_297 : decode cL_law 297 = .ok (.iaload, 1) := by decide +kernel
theorem dL_law_298 : decode cL_law 298 = .ok (.iconst 1, 1) := by decide +kernel
theorem dL_law_299 : decode cL_law 299 = .ok (.if_icmp .ne 39, 3) := by decide +kernel
theorem dL_law_302 : decode cL_law 302 = .ok (.aload_n 1, 1) := by decide +kernel
theorem dL_law_303 : decode cL_law 303 = .ok (.iload 9, 2) := by decide +kernel
theorem dL_law_305 : decode cL_law 305 = .ok (.iload 13, 2) := by decide +kernel
theorem dL_law_307 : decode cL_law 307 = .ok (.iconst 0, 1) := by decide +kernel
theorem dL_law_308 : decode cL_law 308 = .ok (.invokevirtual 95, 3) := by decide +kernel
theorem dL_law_311 : decode cL_law 311 = .ok (.aload_n 1, 1) := by decide +kernel
theorem dL_law_312 : decode cL_law 312 = .ok (.iload 9, 2) := by decide +kernel
theorem dL_law_314 : decode cL_law 314 = .ok (.iload 13, 2) := by decide +kernel
theorem dL_law_316 : decode cL_law 316 = .ok (.iconst 1, 1) := by decide +kernel
theorem dL_law_317 : decode cL_law 317 = .ok (.invokevirtual 95, 3) := by decide +kernel
theorem dL_law_320 : decode cL_law 320 = .ok (.ior, 1) := by decide +kernel
theorem dL_law_321 : decode cL_law 321 = .ok (.aload_n 1, 1) := by decide +kernel
theorem dL_law_322 : decode cL_law 322 = .ok (.iload 9, 2) := by decide +kernel
theorem dL_law_324 : decode cL_law 324 = .ok (.iload 13, 2) := by decide +kernel
theorem dL_law_326 : decode cL_law 326 = .ok (.iconst 2, 1) := by decide +kernel
theorem dL_law_327 : decode cL_law 327 = .ok (.invokevirtual 95, 3) := by decide +kernel
theorem dL_law_330 : decode cL_law 330 = .ok (.ior, 1) := by decide +kernel
theorem dL_law_331 : decode cL_law 331 = .ok (.iload 14, 2) := by decide +kernel
theorem dL_law_333 : decode cL_law 333 = .ok (.if_icmp .eq 5, 3) := by decide +kernel
theorem dL_law_336 : decode cL_law 336 = .ok (.iconst 0, 1) := by decide +kernel
theorem dL_law_337 : decode cL_law 337 = .ok (.ireturn, 1) := by decide +kernel
theorem dL_law_338 : decode cL_law 338 = .ok (.iinc 13 1, 3) := by decide +kernel
theorem dL_law_341 : decode cL_law 341 = .ok (.goto (-160), 3) := by decide +kernel
theorem dL_law_344 : decode cL_law 344 = .ok (.iconst 0, 1) := by decide +kernel
theorem dL_law_345 : decode cL_law 345 = .ok (.istore 13, 2) := by decide +kernel
theorem dL_law_347 : decode cL_law 347 = .ok (.iload 13, 2) := by decide +kernel
theorem dL_law_349 : decode cL_law 349 = .ok (.iload 4, 2) := by decide +kernel
theorem dL_law_351 : decode cL_law 351 = .ok (.if_icmp .ge 81, 3) := by decide +kernel
theorem dL_law_354 : decode cL_law 354 = .ok (.iconst 0, 1) := by decide +kernel
theorem dL_law_355 : decode cL_law 355 = .ok (.istore 14, 2) := by decide +kernel
theorem dL_law_357 : decode cL_law 357 = .ok (.iconst 0, 1) := by decide +kernel
theorem dL_law_358 : decode cL_law 358 = .ok (.istore 15, 2) := by decide +kernel
theorem dL_law_360 : decode cL_law 360 = .ok (.iload 15, 2) := by decide +kernel
theorem dL_law_362 : decode cL_law 362 = .ok (.bipush 6, 2) := by decide +kernel
theorem dL_law_364 : decode cL_law 364 = .ok (.if_icmp .ge 47, 3) := by decide +kernel
theorem dL_law_367 : decode cL_law 367 = .ok (.iload 14, 2) := by decide +kernel
theorem dL_law_369 : decode cL_law 369 = .ok (.aload_n 1, 1) := by decide +kernel
theorem dL_law_370 : decode cL_law 370 = .ok (.iload 9, 2) := by decide +kernel
theorem dL_law_372 : decode cL_law 372 = .ok (.iload 15, 2) := by decide +kernel
theorem dL_law_374 : decode cL_law 374 = .ok (.iload 13, 2) := by decide +kernel
theorem dL_law_376 : decode cL_law 376 = .ok (.invokevirtual 98, 3) := by decide +kernel
theorem dL_law_379 : decode cL_law 379 = .ok (.ifCond .eq 22, 3) := by decide +kernel
theorem dL_law_382 : decode cL_law 382 = .ok (.aload_n 1, 1) := by decide +kernel
theorem dL_law_383 : decode cL_law 383 = .ok (.iload 9, 2) := by decide +kernel
theorem dL_law_385 : decode cL_law 385 = .ok (.invokevirtual 89, 3) := by decide +kernel
theorem dL_law_388 : decode cL_law 388 = .ok (.iload 15, 2) := by decide +kernel
theorem dL_law_390 : decode cL_law 390 = .ok (.ishr, 1) := by decide +kernel
theorem dL_law_391 : decode cL_law 391 = .ok (.iconst 1, 1) := by decide +kernel
theorem dL_law_392 : decode cL_law 392 = .ok (.iand, 1) := by decide +kernel
theorem dL_law_393 : decode cL_law 393 = .ok (.iconst 1, 1) := by decide +kernel
theorem dL_law_394 : decode cL_law 394 = .ok (.if_icmp .ne 7, 3) := by decide +kernel
theorem dL_law_397 : decode cL_law 397 = .ok (.iconst 1, 1) := by decide +kernel
theorem dL_law_398 : decode cL_law 398 = .ok (.goto 4, 3) := by decide +kernel
theorem dL_law_401 : decode cL_law 401 = .ok (.iconst 0, 1) := by decide +kernel
theorem dL_law_402 : decode cL_law 402 = .ok (.ior, 1) := by decide +kernel
theorem dL_law_403 : decode cL_law 403 = .ok (.istore 14, 2) := by decide +kernel
theorem dL_law_405 : decode cL_law 405 = .ok (.iinc 15 1, 3) := by decide +kernel
theorem dL_law_408 : decode cL_law 408 = .ok (.goto (-48), 3) := by decide +kernel
theorem dL_law_411 : decode cL_law 411 = .ok (.aload_n 1, 1) := by decide +kernel
theorem dL_law_412 : decode cL_law 412 = .ok (.iload 13, 2) := by decide +kernel
theorem dL_law_414 : decode cL_law 414 = .ok (.iload 9, 2) := by decide +kernel
theorem dL_law_416 : decode cL_law 416 = .ok (.invokevirtual 105, 3) := by decide +kernel
theorem dL_law_419 : decode cL_law 419 = .ok (.iload 14, 2) := by decide +kernel
theorem dL_law_421 : decode cL_law 421 = .ok (.if_icmp .eq 5, 3) := by decide +kernel
theorem dL_law_424 : decode cL_law 424 = .ok (.iconst 0, 1) := by decide +kernel
theorem dL_law_425 : decode cL_law 425 = .ok (.ireturn, 1) := by decide +kernel
theorem dL_law_426 : decode cL_law 426 = .ok (.iinc 13 1, 3) := by decide +kernel
theorem dL_law_429 : decode cL_law 429 = .ok (.goto (-82), 3) := by decide +kernel
theorem dL_law_432 : decode cL_law 432 = .ok (.iinc 9 1, 3) := by decide +kernel
theorem dL_law_435 : decode cL_law 435 = .ok (.goto (-378), 3) := by decide +kernel
theorem dL_law_438 : decode cL_law 438 = .ok (.aload_n 1, 1) := by decide +kernel
theorem dL_law_439 : decode cL_law 439 = .ok (.invokevirtual 109, 3) := by decide +kernel
theorem dL_law_442 : decode cL_law 442 = .ok (.iload 7, 2) := by decide +kernel
theorem dL_law_444 : decode cL_law 444 = .ok (.if_icmp .ne 11, 3) := by decide +kernel
theorem dL_law_447 : decode cL_law 447 = .ok (.aload_n 1, 1) := by decide +kernel
theorem dL_law_448 : decode cL_law 448 = .ok (.iconst 0, 1) := by decide +kernel
theorem dL_law_449 : decode cL_law 449 = .ok (.invokevirtual 79, 3) := by decide +kernel
theorem dL_law_452 : decode cL_law 452 = .ok (.ifCond .ne 5, 3) := by decide +kernel
theorem dL_law_455 : decode cL_law 455 = .ok (.iconst 0, 1) := by decide +kernel
theorem dL_law_456 : decode cL_law 456 = .ok (.ireturn, 1) := by decide +kernel
theorem dL_law_457 : decode cL_law 457 = .ok (.aload_n 1, 1) := by decide +kernel
theorem dL_law_458 : decode cL_law 458 = .ok (.invokevirtual 113, 3) := by decide +kernel
theorem dL_law_461 : decode cL_law 461 = .ok (.istore 9, 2) := by decide +kernel
theorem dL_law_463 : decode cL_law 463 = .ok (.iconst 0, 1) := by decide +kernel
theorem dL_law_464 : decode cL_law 464 = .ok (.istore 10, 2) := by decide +kernel
theorem dL_law_466 : decode cL_law 466 = .ok (.iconst 0, 1) := by decide +kernel
theorem dL_law_467 : decode cL_law 467 = .ok (.istore 11, 2) := by decide +kernel
theorem dL_law_469 : decode cL_law 469 = .ok (.iload 11, 2) := by decide +kernel
theorem dL_law_471 : decode cL_law 471 = .ok (.iload 9, 2) := by decide +kernel
theorem dL_law_473 : decode cL_law 473 = .ok (.if_icmp .ge 332, 3) := by decide +kernel
theorem dL_law_476 : decode cL_law 476 = .ok (.aload_n 1, 1) := by decide +kernel
theorem dL_law_477 : decode cL_law 477 = .ok (.iload 11, 2) := by decide +kernel
theorem dL_law_479 : decode cL_law 479 = .ok (.iconst 0, 1) := by decide +kernel
theorem dL_law_480 : decode cL_law 480 = .ok (.invokevirtual 116, 3) := by decide +kernel
theorem dL_law_483 : decode cL_law 483 = .ok (.istore 12, 2) := by decide +kernel
theorem dL_law_485 : decode cL_law 485 = .ok (.aload_n 1, 1) := by decide +kernel
theorem dL_law_486 : decode cL_law 486 = .ok (.iload 11, 2) := by decide +kernel
theorem dL_law_488 : decode cL_law 488 = .ok (.iconst 1, 1) := by decide +kernel
theorem dL_law_489 : decode cL_law 489 = .ok (.invokevirtual 116, 3) := by decide +kernel
theorem dL_law_492 : decode cL_law 492 = .ok (.istore 13, 2) := by decide +kernel
theorem dL_law_494 : decode cL_law 494 = .ok (.aload_n 1, 1) := by decide +kernel
theorem dL_law_495 : decode cL_law 495 = .ok (.iload 11, 2) := by decide +kernel
theorem dL_law_497 : decode cL_law 497 = .ok (.iconst 2, 1) := by decide +kernel
theorem dL_law_498 : decode cL_law 498 = .ok (.invokevirtual 116, 3) := by decide +kernel
theorem dL_law_501 : decode cL_law 501 = .ok (.istore 14, 2) := by decide +kernel
theorem dL_law_503 : decode cL_law 503 = .ok (.aload_n 1, 1) := by decide +kernel
theorem dL_law_504 : decode cL_law 504 = .ok (.iload 11, 2) := by decide +kernel
theorem dL_law_506 : decode cL_law 506 = .ok (.iconst 4, 1) := by decide +kernel
theorem dL_law_507 : decode cL_law 507 = .ok (.invokevirtual 116, 3) := by decide +kernel
theorem dL_law_510 : decode cL_law 510 = .ok (.istore 15, 2) := by decide +kernel
theorem dL_law_512 : decode cL_law 512 = .ok (.aload_n 1, 1) := by decide +kernel
theorem dL_law_513 : decode cL_law 513 = .ok (.iload 11, 2) := by decide +kernel
theorem dL_law_515 : decode cL_law 515 = .ok (.iconst 5, 1) := by decide +kernel
theorem dL_law_516 : decode cL_law 516 = .ok (.invokevirtual 116, 3) := by decide +kernel
theorem dL_law_519 : decode cL_law 519 = .ok (.istore 16, 2) := by decide +kernel
theorem dL_law_521 : decode cL_law 521 = .ok (.aload_n 1, 1) := by decide +kernel
theorem dL_law_522 : decode cL_law 522 = .ok (.iload 11, 2) := by decide +kernel
theorem dL_law_524 : decode cL_law 524 = .ok (.bipush 6, 2) := by decide +kernel
theorem dL_law_526 : decode cL_law 526 = .ok (.invokevirtual 116, 3) := by decide +kernel
theorem dL_law_529 : decode cL_law 529 = .ok (.istore 17, 2) := by decide +kernel
theorem dL_law_531 : decode cL_law 531 = .ok (.iload 12, 2) := by decide +kernel
theorem dL_law_533 : decode cL_law 533 = .ok (.iload 10, 2) := by decide +kernel
theorem dL_law_535 : decode cL_law 535 = .ok (.if_icmp .lt 105, 3) := by decide +kernel
theorem dL_law_538 : decode cL_law 538 = .ok (.iload 13, 2) := by decide +kernel
theorem dL_law_540 : decode cL_law 540 = .ok (.iconst 1, 1) := by decide +kernel
theorem dL_law_541 : decode cL_law 541 = .ok (.if_icmp .lt 99, 3) := by decide +kernel
theorem dL_law_544 : decode cL_law 544 = .ok (.iload 13, 2) := by decide +kernel
theorem dL_law_546 : decode cL_law 546 = .ok (.bipush 6, 2) := by decide +kernel
theorem dL_law_548 : decode cL_law 548 = .ok (.if_icmp .gt 92, 3) := by decide +kernel
theorem dL_law_551 : decode cL_law 551 = .ok (.iload 14, 2) := by decide +kernel
theorem dL_law_553 : decode cL_law 553 = .ok (.ifCond .lt 87, 3) := by decide +kernel
theorem dL_law_556 : decode cL_law 556 = .ok (.iload 14, 2) := by decide +kernel
theorem dL_law_558 : decode cL_law 558 = .ok (.iconst 5, 1) := by decide +kernel
theorem dL_law_559 : decode cL_law 559 = .ok (.if_icmp .gt 81, 3) := by decide +kernel
theorem dL_law_562 : decode cL_law 562 = .ok (.iload 15, 2) := by decide +kernel
theorem dL_law_564 : decode cL_law 564 = .ok (.ifCond .ge 7, 3) := by decide +kernel
theorem dL_law_567 : decode cL_law 567 = .ok (.iconst 1, 1) := by decide +kernel
theorem dL_law_568 : decode cL_law 568 = .ok (.goto 4, 3) := by decide +kernel
theorem dL_law_571 : decode cL_law 571 = .ok (.iconst 0, 1) := by decide +kernel
theorem dL_law_572 : decode cL_law 572 = .ok (.iload 13, 2) := by decide +kernel
theorem dL_law_574 : decode cL_law 574 = .ok (.iconst 1, 1) := by decide +kernel
theorem dL_law_575 : decode cL_law 575 = .ok (.if_icmp .ne 7, 3) := by decide +kernel
theorem dL_law_578 : decode cL_law 578 = .ok (.iconst 1, 1) := by decide +kernel
theorem dL_law_579 : decode cL_law 579 = .ok (.goto 4, 3) := by decide +kernel
theorem dL_law_582 : decode cL_law 582 = .ok (.iconst 0, 1) := by decide +kernel
theorem dL_law_583 : decode cL_law 583 = .ok (.if_icmp .ne 57, 3) := by decide +kernel
theorem dL_law_586 : decode cL_law 586 = .ok (.iload 16, 2) := by decide +kernel
theorem dL_law_588 : decode cL_law 588 = .ok (.ifCond .ge 7, 3) := by decide +kernel
theorem dL_law_591 : decode cL_law 591 = .ok (.iconst 1, 1) := by decide +kernel
theorem dL_law_592 : decode cL_law 592 = .ok (.goto 4, 3) := by decide +kernel
theorem dL_law_595 : decode cL_law 595 = .ok (.iconst 0, 1) := by decide +kernel
theorem dL_law_596 : decode cL_law 596 = .ok (.iload 13, 2) := by decide +kernel
theorem dL_law_598 : decode cL_law 598 = .ok (.iconst 3, 1) := by decide +kernel
theorem dL_law_599 : decode cL_law 599 = .ok (.if_icmp .lt 10, 3) := by decide +kernel
theorem dL_law_602 : decode cL_law 602 = .ok (.iload 13, 2) := by decide +kernel
theorem dL_law_604 : decode cL_law 604 = .ok (.bipush 6, 2) := by decide +kernel
theorem dL_law_606 : decode cL_law 606 = .ok (.if_icmp .ne 7, 3) := by decide +kernel
theorem dL_law_609 : decode cL_law 609 = .ok (.iconst 1, 1) := by decide +kernel
theorem dL_law_610 : decode cL_law 610 = .ok (.goto 4, 3) := by decide +kernel
theorem dL_law_613 : decode cL_law 613 = .ok (.iconst 0, 1) := by decide +kernel
theorem dL_law_614 : decode cL_law 614 = .ok (.if_icmp .ne 26, 3) := by decide +kernel
theorem dL_law_617 : decode cL_law 617 = .ok (.iload 17, 2) := by decide +kernel
theorem dL_law_619 : decode cL_law 619 = .ok (.ifCond .ge 7, 3) := by decide +kernel
theorem dL_law_622 : decode cL_law 622 = .ok (.iconst 1, 1) := by decide +kernel
theorem dL_law_623 : decode cL_law 623 = .ok (.goto 4, 3) := by decide +kernel
theorem dL_law_626 : decode cL_law 626 = .ok (.iconst 0, 1) := by decide +kernel
theorem dL_law_627 : decode cL_law 627 = .ok (.iload 16, 2) := by decide +kernel
theorem dL_law_629 : decode cL_law 629 = .ok (.ifCond .ge 7, 3) := by decide +kernel
theorem dL_law_632 : decode cL_law 632 = .ok (.iconst 1, 1) := by decide +kernel
theorem dL_law_633 : decode cL_law 633 = .ok (.goto 4, 3) := by decide +kernel
theorem dL_law_636 : decode cL_law 636 = .ok (.iconst 0, 1) := by decide +kernel
theorem dL_law_637 : decode cL_law 637 = .ok (.if_icmp .eq 5, 3) := by decide +kernel
theorem dL_law_640 : decode cL_law 640 = .ok (.iconst 0, 1) := by decide +kernel
theorem dL_law_641 : decode cL_law 641 = .ok (.ireturn, 1) := by decide +kernel
theorem dL_law_642 : decode cL_law 642 = .ok (.iload 12, 2) := by decide +kernel
theorem dL_law_644 : decode cL_law 644 = .ok (.istore 10, 2) := by decide +kernel
theorem dL_law_646 : decode cL_law 646 = .ok (.iload 13, 2) := by decide +kernel
theorem dL_law_648 : decode cL_law 648 = .ok (.iconst 2, 1) := by decide +kernel
theorem dL_law_649 : decode cL_law 649 = .ok (.if_icmp .ne 17, 3) := by decide +kernel
theorem dL_law_652 : decode cL_law 652 = .ok (.aload_n 1, 1) := by decide +kernel
theorem dL_law_653 : decode cL_law 653 = .ok (.iload 12, 2) := by decide +kernel
theorem dL_law_655 : decode cL_law 655 = .ok (.iload 14, 2) := by decide +kernel
theorem dL_law_657 : decode cL_law 657 = .ok (.iconst (-1), 1) := by decide +kernel
theorem dL_law_658 : decode cL_law 658 = .ok (.invokevirtual 95, 3) := by decide +kernel
theorem dL_law_661 : decode cL_law 661 = .ok (.iconst 4, 1) := by decide +kernel
theorem dL_law_662 : decode cL_law 662 = .ok (.iand, 1) := by decide +kernel
theorem dL_law_663 : decode cL_law 663 = .ok (.ifCond .eq 23, 3) := by decide +kernel
theorem dL_law_666 : decode cL_law 666 = .ok (.iload 13, 2) := by decide +kernel
theorem dL_law_668 : decode cL_law 668 = .ok (.iconst 1, 1) := by decide +kernel
theorem dL_law_669 : decode cL_law 669 = .ok (.if_icmp .ne 19, 3) := by decide +kernel
theorem dL_law_672 : decode cL_law 672 = .ok (.aload_n 1, 1) := by decide +kernel
theorem dL_law_673 : decode cL_law 673 = .ok (.iload 12, 2) := by decide +kernel
theorem dL_law_675 : decode cL_law 675 = .ok (.iload 14, 2) := by decide +kernel
theorem dL_law_677 : decode cL_law 677 = .ok (.iconst (-1), 1) := by decide +kernel
theorem dL_law_678 : decode cL_law 678 = .ok (.invokevirtual 95, 3) := by decide +kernel
theorem dL_law_681 : decode cL_law 681 = .ok (.iconst 1, 1) := by decide +kernel
theorem dL_law_682 : decode cL_law 682 = .ok (.iand, 1) := by decide +kernel
theorem dL_law_683 : decode cL_law 683 = .ok (.ifCond .ne 5, 3) := by decide +kernel
theorem dL_law_686 : decode cL_law 686 = .ok (.iconst 0, 1) := by decide +kernel
theorem dL_law_687 : decode cL_law 687 = .ok (.ireturn, 1) := by decide +kernel
theorem dL_law_688 : decode cL_law 688 = .ok (.iload 16, 2) := by decide +kernel
theorem dL_law_690 : decode cL_law 690 = .ok (.ifCond .lt 66, 3) := by decide +kernel
theorem dL_law_693 : decode cL_law 693 = .ok (.aload_n 1, 1) := by decide +kernel
theorem dL_law_694 : decode cL_law 694 = .ok (.iload 15, 2) := by decide +kernel
theorem dL_law_696 : decode cL_law 696 = .ok (.iload 12, 2) := by decide +kernel
theorem dL_law_698 : decode cL_law 698 = .ok (.invokevirtual 105, 3) := by decide +kernel
theorem dL_law_701 : decode cL_law 701 = .ok (.ifCond .eq 53, 3) := by decide +kernel
theorem dL_law_704 : decode cL_law 704 = .ok (.aload_n 1, 1) := by decide +kernel
theorem dL_law_705 : decode cL_law 705 = .ok (.iload 12, 2) := by decide +kernel
theorem dL_law_707 : decode cL_law 707 = .ok (.iload 16, 2) := by decide +kernel
theorem dL_law_709 : decode cL_law 709 = .ok (.iload 15, 2) := by decide +kernel
theorem dL_law_711 : decode cL_law 711 = .ok (.invokevirtual 98, 3) := by decide +kernel
theorem dL_law_714 : decode cL_law 714 = .ok (.ifCond .eq 40, 3) := by decide +kernel
theorem dL_law_717 : decode cL_law 717 = .ok (.aload_n 1, 1) := by decide +kernel
theorem dL_law_718 : decode cL_law 718 = .ok (.iload 12, 2) := by decide +kernel
theorem dL_law_720 : decode cL_law 720 = .ok (.invokevirtual 89, 3) := by decide +kernel
theorem dL_law_723 : decode cL_law 723 = .ok (.iload 16, 2) := by decide +kernel
theorem dL_law_725 : decode cL_law 725 = .ok (.ishr, 1) := by decide +kernel
theorem dL_law_726 : decode cL_law 726 = .ok (.iconst 1, 1) := by decide +kernel
theorem dL_law_727 : decode cL_law 727 = .ok (.iand, 1) := by decide +kernel
theorem dL_law_728 : decode cL_law 728 = .ok (.ifCond .eq 26, 3) := by decide +kernel
theorem dL_law_731 : decode cL_law 731 = .ok (.aload_n 1, 1) := by decide +kernel
theorem dL_law_732 : decode cL_law 732 = .ok (.iload 17, 2) := by decide +kernel
theorem dL_law_734 : decode cL_law 734 = .ok (.invokevirtual 79, 3) := by decide +kernel
theorem dL_law_737 : decode cL_law 737 = .ok (.ifCond .eq 17, 3) := by decide +kernel
theorem dL_law_740 : decode cL_law 740 = .ok (.aload_n 1, 1) := by decide +kernel
theorem dL_law_741 : decode cL_law 741 = .ok (.iload 17, 2) := by decide +kernel
theorem dL_law_743 : decode cL_law 743 = .ok (.invokevirtual 89, 3) := by decide +kernel
theorem dL_law_746 : decode cL_law 746 = .ok (.iload 16, 2) := by decide +kernel
theorem dL_law_748 : decode cL_law 748 = .ok (.ishr, 1) := by decide +kernel
theorem dL_law_749 : decode cL_law 749 = .ok (.iconst 1, 1) := by decide +kernel
theorem dL_law_750 : decode cL_law 750 = .ok (.iand, 1) := by decide +kernel
theorem dL_law_751 : decode cL_law 751 = .ok (.ifCond .ne 5, 3) := by decide +kernel
theorem dL_law_754 : decode cL_law 754 = .ok (.iconst 0, 1) := by decide +kernel
theorem dL_law_755 : decode cL_law 755 = .ok (.ireturn, 1) := by decide +kernel
theorem dL_law_756 : decode cL_law 756 = .ok (.iload 13, 2) := by decide +kernel
theorem dL_law_758 : decode cL_law 758 = .ok (.bipush 6, 2) := by decide +kernel
theorem dL_law_760 : decode cL_law 760 = .ok (.if_icmp .ne 39, 3) := by decide +kernel
theorem dL_law_763 : decode cL_law 763 = .ok (.aload_n 1, 1) := by decide +kernel
theorem dL_law_764 : decode cL_law 764 = .ok (.iload 12, 2) := by decide +kernel
theorem dL_law_766 : decode cL_law 766 = .ok (.invokevirtual 83, 3) := by decide +kernel
theorem dL_law_769 : decode cL_law 769 = .ok (.bipush 9, 2) := by decide +kernel
theorem dL_law_771 : decode cL_law 771 = .ok (.if_icmp .ne 26, 3) := by decide +kernel
theorem dL_law_774 : decode cL_law 774 = .ok (.aload_n 1, 1) := by decide +kernel
theorem dL_law_775 : decode cL_law 775 = .ok (.iload 12, 2) := by decide +kernel
theorem dL_law_777 : decode cL_law 777 = .ok (.iload 14, 2) := by decide +kernel
theorem dL_law_779 : decode cL_law 779 = .ok (.iload 15, 2) := by decide +kernel
theorem dL_law_781 : decode cL_law 781 = .ok (.invokevirtual 98, 3) := by decide +kernel
theorem dL_law_784 : decode cL_law 784 = .ok (.ifCond .eq 13, 3) := by decide +kernel
theorem dL_law_787 : decode cL_law 787 = .ok (.aload_n 1, 1) := by decide +kernel
theorem dL_law_788 : decode cL_law 788 = .ok (.iload 15, 2) := by decide +kernel
theorem dL_law_790 : decode cL_law 790 = .ok (.invokevirtual 83, 3) := by decide +kernel
theorem dL_law_793 : decode cL_law 793 = .ok (.iconst 2, 1) := by decide +kernel
theorem dL_law_794 : decode cL_law 794 = .ok (.if_icmp .eq 5, 3) := by decide +kernel
theorem dL_law_797 : decode cL_law 797 = .ok (.iconst 0, 1) := by decide +kernel
theorem dL_law_798 : decode cL_law 798 = .ok (.ireturn, 1) := by decide +kernel
theorem dL_law_799 : decode cL_law 799 = .ok (.iinc 11 1, 3) := by decide +kernel
theorem dL_law_802 : decode cL_law 802 = .ok (.goto (-333), 3) := by decide +kernel
theorem dL_law_805 : decode cL_law 805 = .ok (.iconst 0, 1) := by decide +kernel
theorem dL_law_806 : decode cL_law 806 = .ok (.istore 11, 2) := by decide +kernel
theorem dL_law_808 : decode cL_law 808 = .ok (.iload 9, 2) := by decide +kernel
theorem dL_law_810 : decode cL_law 810 = .ok (.istore 12, 2) := by decide +kernel
theorem dL_law_812 : decode cL_law 812 = .ok (.iconst 1, 1) := by decide +kernel
theorem dL_law_813 : decode cL_law 813 = .ok (.istore 13, 2) := by decide +kernel
theorem dL_law_815 : decode cL_law 815 = .ok (.iload 13, 2) := by decide +kernel
theorem dL_law_817 : decode cL_law 817 = .ok (.bipush 6, 2) := by decide +kernel
theorem dL_law_819 : decode cL_law 819 = .ok (.if_icmp .gt 20, 3) := by decide +kernel
theorem dL_law_822 : decode cL_law 822 = .ok (.iload 11, 2) := by decide +kernel
theorem dL_law_824 : decode cL_law 824 = .ok (.aload_n 1, 1) := by decide +kernel
theorem dL_law_825 : decode cL_law 825 = .ok (.iload 13, 2) := by decide +kernel
theorem dL_law_827 : decode cL_law 827 = .ok (.invokevirtual 119, 3) := by decide +kernel
theorem dL_law_830 : decode cL_law 830 = .ok (.iadd, 1) := by decide +kernel
theorem dL_law_831 : decode cL_law 831 = .ok (.istore 11, 2) := by decide +kernel
theorem dL_law_833 : decode cL_law 833 = .ok (.iinc 13 1, 3) := by decide +kernel
theorem dL_law_836 : decode cL_law 836 = .ok (.goto (-21), 3) := by decide +kernel
theorem dL_law_839 : decode cL_law 839 = .ok (.iconst 0, 1) := by decide +kernel
theorem dL_law_840 : decode cL_law 840 = .ok (.istore 13, 2) := by decide +kernel
theorem dL_law_842 : decode cL_law 842 = .ok (.iload 13, 2) := by decide +kernel
theorem dL_law_844 : decode cL_law 844 = .ok (.iload 4, 2) := by decide +kernel
theorem dL_law_846 : decode cL_law 846 = .ok (.if_icmp .ge 74, 3) := by decide +kernel
theorem dL_law_849 : decode cL_law 849 = .ok (.iload 11, 2) := by decide +kernel
theorem dL_law_851 : decode cL_law 851 = .ok (.aload_n 1, 1) := by decide +kernel
theorem dL_law_852 : decode cL_law 852 = .ok (.iload 13, 2) := by decide +kernel
theorem dL_law_854 : decode cL_law 854 = .ok (.invokevirtual 92, 3) := by decide +kernel
theorem dL_law_857 : decode cL_law 857 = .ok (.isub, 1) := by decide +kernel
theorem dL_law_858 : decode cL_law 858 = .ok (.istore 11, 2) := by decide +kernel
theorem dL_law_860 : decode cL_law 860 = .ok (.iload 12, 2) := by decide +kernel
theorem dL_law_862 : decode cL_law 862 = .ok (.aload_n 1, 1) := by decide +kernel
theorem dL_law_863 : decode cL_law 863 = .ok (.iload 13, 2) := by decide +kernel
theorem dL_law_865 : decode cL_law 865 = .ok (.invokevirtual 122, 3) := by decide +kernel
theorem dL_law_868 : decode cL_law 868 = .ok (.invokestatic 125, 3) := by decide +kernel
theorem dL_law_871 : decode cL_law 871 = .ok (.istore 12, 2) := by decide +kernel
theorem dL_law_873 : decode cL_law 873 = .ok (.aload_n 1, 1) := by decide +kernel
theorem dL_law_874 : decode cL_law 874 = .ok (.iload 13, 2) := by decide +kernel
theorem dL_law_876 : decode cL_law 876 = .ok (.invokevirtual 83, 3) := by decide +kernel
theorem dL_law_879 : decode cL_law 879 = .ok (.istore 14, 2) := by decide +kernel
theorem dL_law_881 : decode cL_law 881 = .ok (.iload 14, 2) := by decide +kernel
theorem dL_law_883 : decode cL_law 883 = .ok (.iconst 1, 1) := by decide +kernel
theorem dL_law_884 : decode cL_law 884 = .ok (.if_icmp .eq 30, 3) := by decide +kernel
theorem dL_law_887 : decode cL_law 887 = .ok (.iload 14, 2) := by decide +kernel
theorem dL_law_889 : decode cL_law 889 = .ok (.bipush 6, 2) := by decide +kernel
theorem dL_law_891 : decode cL_law 891 = .ok (.if_icmp .eq 23, 3) := by decide +kernel
theorem dL_law_894 : decode cL_law 894 = .ok (.iload 14, 2) := by decide +kernel
theorem dL_law_896 : decode cL_law 896 = .ok (.bipush 9, 2) := by decide +kernel
theorem dL_law_898 : decode cL_law 898 = .ok (.if_icmp .eq 16, 3) := by decide +kernel
theorem dL_law_901 : decode cL_law 901 = .ok (.aload_n 1, 1) := by decide +kernel
theorem dL_law_902 : decode cL_law 902 = .ok (.iload 13, 2) := by decide +kernel
theorem dL_law_904 : decode cL_law 904 = .ok (.invokevirtual 130, 3) := by decide +kernel
theorem dL_law_907 : decode cL_law 907 = .ok (.iload 9, 2) := by decide +kernel
theorem dL_law_909 : decode cL_law 909 = .ok (.if_icmp .eq 5, 3) := by decide +kernel
theorem dL_law_912 : decode cL_law 912 = .ok (.iconst 0, 1) := by decide +kernel
theorem dL_law_913 : decode cL_law 913 = .ok (.ireturn, 1) := by decide +kernel
theorem dL_law_914 : decode cL_law 914 = .ok (.iinc 13 1, 3) := by decide +kernel
theorem dL_law_917 : decode cL_law 917 = .ok (.goto (-75), 3) := by decide +kernel
theorem dL_law_920 : decode cL_law 920 = .ok (.aload_n 1, 1) := by decide +kernel
theorem dL_law_921 : decode cL_law 921 = .ok (.invokevirtual 133, 3) := by decide +kernel
theorem dL_law_924 : decode cL_law 924 = .ok (.istore 13, 2) := by decide +kernel
theorem dL_law_926 : decode cL_law 926 = .ok (.iload 11, 2) := by decide +kernel
theorem dL_law_928 : decode cL_law 928 = .ok (.ifCond .ne 59, 3) := by decide +kernel
theorem dL_law_931 : decode cL_law 931 = .ok (.iload 13, 2) := by decide +kernel
theorem dL_law_933 : decode cL_law 933 = .ok (.ifCond .ge 7, 3) := by decide +kernel
theorem dL_law_936 : decode cL_law 936 = .ok (.iconst 1, 1) := by decide +kernel
theorem dL_law_937 : decode cL_law 937 = .ok (.goto 4, 3) := by decide +kernel
theorem dL_law_940 : decode cL_law 940 = .ok (.iconst 0, 1) := by decide +kernel
theorem dL_law_941 : decode cL_law 941 = .ok (.iload 12, 2) := by decide +kernel
theorem dL_law_943 : decode cL_law 943 = .ok (.iload 9, 2) := by decide +kernel
theorem dL_law_945 : decode cL_law 945 = .ok (.if_icmp .ne 7, 3) := by decide +kernel
theorem dL_law_948 : decode cL_law 948 = .ok (.iconst 1, 1) := by decide +kernel
theorem dL_law_949 : decode cL_law 949 = .ok (.goto 4, 3) := by decide +kernel
theorem dL_law_952 : decode cL_law 952 = .ok (.iconst 0, 1) := by decide +kernel
theorem dL_law_953 : decode cL_law 953 = .ok (.if_icmp .ne 34, 3) := by decide +kernel
theorem dL_law_956 : decode cL_law 956 = .ok (.iload 13, 2) := by decide +kernel
theorem dL_law_958 : decode cL_law 958 = .ok (.ifCond .lt 14, 3) := by decide +kernel
theorem dL_law_961 : decode cL_law 961 = .ok (.aload_n 1, 1) := by decide +kernel
theorem dL_law_962 : decode cL_law 962 = .ok (.iload 13, 2) := by decide +kernel
theorem dL_law_964 : decode cL_law 964 = .ok (.invokevirtual 122, 3) := by decide +kernel
theorem dL_law_967 : decode cL_law 967 = .ok (.iload 12, 2) := by decide +kernel
theorem dL_law_969 : decode cL_law 969 = .ok (.if_icmp .ne 18, 3) := by decide +kernel
theorem dL_law_972 : decode cL_law 972 = .ok (.aload_n 1, 1) := by decide +kernel
theorem dL_law_973 : decode cL_law 973 = .ok (.invokevirtual 136, 3) := by decide +kernel
theorem dL_law_976 : decode cL_law 976 = .ok (.iload 9, 2) := by decide +kernel
theorem dL_law_978 : decode cL_law 978 = .ok (.i2d, 1) := by decide +kernel
theorem dL_law_979 : decode cL_law 979 = .ok (.iload 8, 2) := by decide +kernel
theorem dL_law_981 : decode cL_law 981 = .ok (.i2d, 1) := by decide +kernel
theorem dL_law_982 : decode cL_law 982 = .ok (.ddiv, 1) := by decide +kernel
theorem dL_law_983 : decode cL_law 983 = .ok (.dcmp .l, 1) := by decide +kernel
theorem dL_law_984 : decode cL_law 984 = .ok (.ifCond .eq 5, 3) := by decide +kernel
theorem dL_law_987 : decode cL_law 987 = .ok (.iconst 0, 1) := by decide +kernel
theorem dL_law_988 : decode cL_law 988 = .ok (.ireturn, 1) := by decide +kernel
theorem dL_law_989 : decode cL_law 989 = .ok (.aload_n 1, 1) := by decide +kernel
theorem dL_law_990 : decode cL_law 990 = .ok (.invokevirtual 75, 3) := by decide +kernel
theorem dL_law_993 : decode cL_law 993 = .ok (.lload 5, 2) := by decide +kernel
theorem dL_law_995 : decode cL_law 995 = .ok (.lcmp, 1) := by decide +kernel
theorem dL_law_996 : decode cL_law 996 = .ok (.ifCond .ne 29, 3) := by decide +kernel
theorem dL_law_999 : decode cL_law 999 = .ok (.aload_n 1, 1) := by decide +kernel
theorem dL_law_1000 : decode cL_law 1000 = .ok (.invokevirtual 140, 3) := by decide +kernel
theorem dL_law_1003 : decode cL_law 1003 = .ok (.iload 4, 2) := by decide +kernel
theorem dL_law_1005 : decode cL_law 1005 = .ok (.iconst 1, 1) := by decide +kernel
theorem dL_law_1006 : decode cL_law 1006 = .ok (.isub, 1) := by decide +kernel
theorem dL_law_1007 : decode cL_law 1007 = .ok (.if_icmp .ne 18, 3) := by decide +kernel
theorem dL_law_1010 : decode cL_law 1010 = .ok (.aload_n 1, 1) := by decide +kernel
theorem dL_law_1011 : decode cL_law 1011 = .ok (.invokevirtual 143, 3) := by decide +kernel
theorem dL_law_1014 : decode cL_law 1014 = .ok (.iload 4, 2) := by decide +kernel
theorem dL_law_1016 : decode cL_law 1016 = .ok (.iconst 1, 1) := by decide +kernel
theorem dL_law_1017 : decode cL_law 1017 = .ok (.isub, 1) := by decide +kernel
theorem dL_law_1018 : decode cL_law 1018 = .ok (.if_icmp .ne 7, 3) := by decide +kernel
theorem dL_law_1021 : decode cL_law 1021 = .ok (.iconst 1, 1) := by decide +kernel
theorem dL_law_1022 : decode cL_law 1022 = .ok (.goto 4, 3) := by decide +kernel
theorem dL_law_1025 : decode cL_law 1025 = .ok (.iconst 0, 1) := by decide +kernel
theorem dL_law_1026 : decode cL_law 1026 = .ok (.ireturn, 1) := by decide +kernel
