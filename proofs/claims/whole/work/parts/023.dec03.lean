theorem dX12_clauseHere_74 : decode cX12_clauseHere 74 = .ok (.iconst 1, 1) := by decide +kernel
theorem dX12_clauseHere_75 : decode cX12_clauseHere 75 = .ok (.bipush 11, 2) := by decide +kernel
theorem dX12_clauseHere_77 : decode cX12_clauseHere 77 = .ok (.iconst 5, 1) := by decide +kernel
theorem dX12_clauseHere_78 : decode cX12_clauseHere 78 = .ok (.iconst 0, 1) := by decide +kernel
theorem dX12_clauseHere_79 : decode cX12_clauseHere 79 = .ok (.iconst 0, 1) := by decide +kernel
theorem dX12_clauseHere_80 : decode cX12_clauseHere 80 = .ok (.invokevirtual 140, 3) := by decide +kernel
theorem dX12_clauseHere_83 : decode cX12_clauseHere 83 = .ok (.ifCond .eq 5, 3) := by decide +kernel
theorem dX12_clauseHere_86 : decode cX12_clauseHere 86 = .ok (.iconst 4, 1) := by decide +kernel
theorem dX12_clauseHere_87 : decode cX12_clauseHere 87 = .ok (.ireturn, 1) := by decide +kernel
theorem dX12_clauseHere_88 : decode cX12_clauseHere 88 = .ok (.aload_n 0, 1) := by decide +kernel
theorem dX12_clauseHere_89 : decode cX12_clauseHere 89 = .ok (.iconst 1, 1) := by decide +kernel
theorem dX12_clauseHere_90 : decode cX12_clauseHere 90 = .ok (.bipush 12, 2) := by decide +kernel
theorem dX12_clauseHere_92 : decode cX12_clauseHere 92 = .ok (.bipush 9, 2) := by decide +kernel
theorem dX12_clauseHere_94 : decode cX12_clauseHere 94 = .ok (.bipush 11, 2) := by decide +kernel
theorem dX12_clauseHere_96 : decode cX12_clauseHere 96 = .ok (.iconst 5, 1) := by decide +kernel
theorem dX12_clauseHere_97 : decode cX12_clauseHere 97 = .ok (.iconst 0, 1) := by decide +kernel
theorem dX12_clauseHere_98 : decode cX12_clauseHere 98 = .ok (.invokevirtual 140, 3) := by decide +kernel
theorem dX12_clauseHere_101 : decode cX12_clauseHere 101 = .ok (.ifCond .eq 5, 3) := by decide +kernel
theorem dX12_clauseHere_104 : decode cX12_clauseHere 104 = .ok (.iconst 5, 1) := by decide +kernel
theorem dX12_clauseHere_105 : decode cX12_clauseHere 105 = .ok (.ireturn, 1) := by decide +kernel
theorem dX12_clauseHere_106 : decode cX12_clauseHere 106 = .ok (.aload_n 0, 1) := by decide +kernel
theorem dX12_clauseHere_107 : decode cX12_clauseHere 107 = .ok (.iconst 3, 1) := by decide +kernel
theorem dX12_clauseHere_108 : decode cX12_clauseHere 108 = .ok (.bipush 15, 2) := by decide +kernel
theorem dX12_clauseHere_110 : decode cX12_clauseHere 110 = .ok (.bipush 13, 2) := by decide +kernel
theorem dX12_clauseHere_112 : decode cX12_clauseHere 112 = .ok (.bipush 13, 2) := by decide +kernel
theorem dX12_clauseHere_114 : decode cX12_clauseHere 114 = .ok (.bipush 15, 2) := by decide +kernel
theorem dX12_clauseHere_116 : decode cX12_clauseHere 116 = .ok (.bipush 14, 2) := by decide +kernel
theorem dX12_clauseHere_118 : decode cX12_clauseHere 118 = .ok (.invokevirtual 140, 3) := by decide +kernel
theorem dX12_clauseHere_121 : decode cX12_clauseHere 121 = .ok (.ifCond .eq 8, 3) := by decide +kernel
theorem dX12_clauseHere_124 : decode cX12_clauseHere 124 = .ok (.bipush 6, 2) := by decide +kernel
theorem dX12_clauseHere_126 : decode cX12_clauseHere 126 = .ok (.goto 4, 3) := by decide +kernel
theorem dX12_clauseHere_129 : decode cX12_clauseHere 129 = .ok (.iconst (-1), 1) := by decide +kernel
theorem dX12_clauseHere_130 : decode cX12_clauseHere 130 = .ok (.ireturn, 1) := by decide +kernel
theorem dX12_clause_0 : decode cX12_clause 0 = .ok (.aload_n 0, 1) := by decide +kernel
theorem dX12_clause_1 : decode cX12_clause 1 = .ok (.invokevirtual 144, 3) := by decide +kernel
theorem dX12_clause_4 : decode cX12_clause 4 = .ok (.istore_n 1, 1) := by decide +kernel
theorem dX12_clause_5 : decode cX12_clause 5 = .ok (.iload_n 1, 1) := by decide +kernel
theorem dX12_clause_6 : decode cX12_clause 6 = .ok (.iconst (-1), 1) := by decide +kernel
theorem dX12_clause_7 : decode cX12_clause 7 = .ok (.if_icmp .ne 15, 3) := by decide +kernel
theorem dX12_clause_10 : decode cX12_clause 10 = .ok (.aload_n 0, 1) := by decide +kernel
theorem dX12_clause_11 : decode cX12_clause 11 = .ok (.iconst 1, 1) := by decide +kernel
theorem dX12_clause_12 : decode cX12_clause 12 = .ok (.aload_n 0, 1) := by decide +kernel
theorem dX12_clause_13 : decode cX12_clause 13 = .ok (.getfield 103, 3) := by decide +kernel
theorem dX12_clause_16 : decode cX12_clause 16 = .ok (.invokevirtual 123, 3) := by decide +kernel
theorem dX12_clause_19 : decode cX12_clause 19 = .ok (.goto 21, 3) := by decide +kernel
theorem dX12_clause_22 : decode cX12_clause 22 = .ok (.aload_n 0, 1) := by decide +kernel
theorem dX12_clause_23 : decode cX12_clause 23 = .ok (.getfield 147, 3) := by decide +kernel
theorem dX12_clause_26 : decode cX12_clause 26 = .ok (.bipush 24, 2) := by decide +kernel
theorem dX12_clause_28 : decode cX12_clause 28 = .ok (.if_icmp .ne 12, 3) := by decide +kernel
theorem dX12_clause_31 : decode cX12_clause 31 = .ok (.aload_n 0, 1) := by decide +kernel
theorem dX12_clause_32 : decode cX12_clause 32 = .ok (.iconst 3, 1) := by decide +kernel
theorem dX12_clause_33 : decode cX12_clause 33 = .ok (.aload_n 0, 1) := by decide +kernel
theorem dX12_clause_34 : decode cX12_clause 34 = .ok (.getfield 103, 3) := by decide +kernel
theorem dX12_clause_37 : decode cX12_clause 37 = .ok (.invokevirtual 123, 3) := by decide +kernel
theorem dX12_clause_40 : decode cX12_clause 40 = .ok (.aload_n 0, 1) := by decide +kernel
theorem dX12_clause_41 : decode cX12_clause 41 = .ok (.getfield 110, 3) := by decide +kernel
theorem dX12_clause_44 : decode cX12_clause 44 = .ok (.ifCond .eq 4, 3) := by decide +kernel
theorem dX12_clause_47 : decode cX12_clause 47 = .ok (.return_, 1) := by decide +kernel
theorem dX12_clause_48 : decode cX12_clause 48 = .ok (.aload_n 0, 1) := by decide +kernel
theorem dX12_clause_49 : decode cX12_clause 49 = .ok (.invokevirtual 150, 3) := by decide +kernel
theorem dX12_clause_52 : decode cX12_clause 52 = .ok (.iload_n 1, 1) := by decide +kernel
theorem dX12_clause_53 : decode cX12_clause 53 = .ok (.ifCond .ne 14, 3) := by decide +kernel
theorem dX12_clause_56 : decode cX12_clause 56 = .ok (.aload_n 0, 1) := by decide +kernel
theorem dX12_clause_57 : decode cX12_clause 57 = .ok (.iconst 0, 1) := by decide +kernel
theorem dX12_clause_58 : decode cX12_clause 58 = .ok (.bipush 7, 2) := by decide +kernel
theorem dX12_clause_60 : decode cX12_clause 60 = .ok (.iconst (-1), 1) := by decide +kernel
theorem dX12_clause_61 : decode cX12_clause 61 = .ok (.invokevirtual 153, 3) := by decide +kernel
theorem dX12_clause_64 : decode cX12_clause 64 = .ok (.goto 4, 3) := by decide +kernel
theorem dX12_clause_67 : decode cX12_clause 67 = .ok (.iconst 0, 1) := by decide +kernel
theorem dX12_clause_68 : decode cX12_clause 68 = .ok (.istore_n 2, 1) := by decide +kernel
theorem dX12_clause_69 : decode cX12_clause 69 = .ok (.iload_n 1, 1) := by decide +kernel
theorem dX12_clause_70 : decode cX12_clause 70 = .ok (.iconst 2, 1) := by decide +kernel
theorem dX12_clause_71 : decode cX12_clause 71 = .ok (.if_icmp .lt 8, 3) := by decide +kernel
theorem dX12_clause_74 : decode cX12_clause 74 = .ok (.iload_n 1, 1) := by decide +kernel
theorem dX12_clause_75 : decode cX12_clause 75 = .ok (.iconst 4, 1) := by decide +kernel
theorem dX12_clause_76 : decode cX12_clause 76 = .ok (.if_icmp .le 14, 3) := by decide +kernel
theorem dX12_clause_79 : decode cX12_clause 79 = .ok (.aload_n 0, 1) := by decide +kernel
theorem dX12_clause_80 : decode cX12_clause 80 = .ok (.iconst 0, 1) := by decide +kernel
theorem dX12_clause_81 : decode cX12_clause 81 = .ok (.bipush 9, 2) := by decide +kernel
theorem dX12_clause_83 : decode cX12_clause 83 = .ok (.iconst (-1), 1) := by decide +kernel
theorem dX12_clause_84 : decode cX12_clause 84 = .ok (.invokevirtual 153, 3) := by decide +kernel
theorem dX12_clause_87 : decode cX12_clause 87 = .ok (.goto 4, 3) := by decide +kernel
theorem dX12_clause_90 : decode cX12_clause 90 = .ok (.iconst 0, 1) := by decide +kernel
theorem dX12_clause_91 : decode cX12_clause 91 = .ok (.istore_n 3, 1) := by decide +kernel
theorem dX12_clause_92 : decode cX12_clause 92 = .ok (.iload_n 1, 1) := by decide +kernel
theorem dX12_clause_93 : decode cX12_clause 93 = .ok (.iconst 5, 1) := by decide +kernel
theorem dX12_clause_94 : decode cX12_clause 94 = .ok (.if_icmp .ne 14, 3) := by decide +kernel
theorem dX12_clause_97 : decode cX12_clause 97 = .ok (.aload_n 0, 1) := by decide +kernel
theorem dX12_clause_98 : decode cX12_clause 98 = .ok (.iconst 0, 1) := by decide +kernel
theorem dX12_clause_99 : decode cX12_clause 99 = .ok (.bipush 9, 2) := by decide +kernel
theorem dX12_clause_101 : decode cX12_clause 101 = .ok (.iload_n 3, 1) := by decide +kernel
theorem dX12_clause_102 : decode cX12_clause 102 = .ok (.invokevirtual 153, 3) := by decide +kernel
theorem dX12_clause_105 : decode cX12_clause 105 = .ok (.goto 61, 3) := by decide +kernel
theorem dX12_clause_108 : decode cX12_clause 108 = .ok (.aload_n 0, 1) := by decide +kernel
theorem dX12_clause_109 : decode cX12_clause 109 = .ok (.iload_n 1, 1) := by decide +kernel
theorem dX12_clause_110 : decode cX12_clause 110 = .ok (.iconst 4, 1) := by decide +kernel
theorem dX12_clause_111 : decode cX12_clause 111 = .ok (.if_icmp .ne 7, 3) := by decide +kernel
theorem dX12_clause_114 : decode cX12_clause 114 = .ok (.iconst 1, 1) := by decide +kernel
theorem dX12_clause_115 : decode cX12_clause 115 = .ok (.goto 4, 3) := by decide +kernel
theorem dX12_clause_118 : decode cX12_clause 118 = .ok (.iconst 0, 1) := by decide +kernel
theorem dX12_clause_119 : decode cX12_clause 119 = .ok (.iload_n 1, 1) := by decide +kernel
theorem dX12_clause_120 : decode cX12_clause 120 = .ok (.ifCond .ne 9, 3) := by decide +kernel
theorem dX12_clause_123 : decode cX12_clause 123 = .ok (.sipush 200, 3) := by decide +kernel
theorem dX12_clause_126 : decode cX12_clause 126 = .ok (.goto 36, 3) := by decide +kernel
theorem dX12_clause_129 : decode cX12_clause 129 = .ok (.iload_n 1, 1) := by decide +kernel
theorem dX12_clause_130 : decode cX12_clause 130 = .ok (.iconst 3, 1) := by decide +kernel
theorem dX12_clause_131 : decode cX12_clause 131 = .ok (.if_icmp .ne 8, 3) := by decide +kernel
theorem dX12_clause_134 : decode cX12_clause 134 = .ok (.bipush 8, 2) := by decide +kernel
theorem dX12_clause_136 : decode cX12_clause 136 = .ok (.goto 26, 3) := by decide +kernel
theorem dX12_clause_139 : decode cX12_clause 139 = .ok (.iload_n 1, 1) := by decide +kernel
theorem dX12_clause_140 : decode cX12_clause 140 = .ok (.iconst 4, 1) := by decide +kernel
theorem dX12_clause_141 : decode cX12_clause 141 = .ok (.if_icmp .ne 8, 3) := by decide +kernel
theorem dX12_clause_144 : decode cX12_clause 144 = .ok (.bipush 15, 2) := by decide +kernel
theorem dX12_clause_146 : decode cX12_clause 146 = .ok (.goto 16, 3) := by decide +kernel
theorem dX12_clause_149 : decode cX12_clause 149 = .ok (.iload_n 1, 1) := by decide +kernel
theorem dX12_clause_150 : decode cX12_clause 150 = .ok (.bipush 6, 2) := by decide +kernel
theorem dX12_clause_152 : decode cX12_clause 152 = .ok (.if_icmp .ne 8, 3) := by decide +kernel
theorem dX12_clause_155 : decode cX12_clause 155 = .ok (.bipush 20, 2) := by decide +kernel
theorem dX12_clause_157 : decode cX12_clause 157 = .ok (.goto 5, 3) := by decide +kernel
theorem dX12_clause_160 : decode cX12_clause 160 = .ok (.bipush 16, 2) := by decide +kernel
theorem dX12_clause_162 : decode cX12_clause 162 = .ok (.iconst (-1), 1) := by decide +kernel
theorem dX12_clause_163 : decode cX12_clause 163 = .ok (.invokevirtual 153, 3) := by decide +kernel
theorem dX12_clause_166 : decode cX12_clause 166 = .ok (.istore 4, 2) := by decide +kernel
theorem dX12_clause_168 : decode cX12_clause 168 = .ok (.aload_n 0, 1) := by decide +kernel
theorem dX12_clause_169 : decode cX12_clause 169 = .ok (.bipush 59, 2) := by decide +kernel
theorem dX12_clause_171 : decode cX12_clause 171 = .ok (.invokevirtual 157, 3) := by decide +kernel
theorem dX12_clause_174 : decode cX12_clause 174 = .ok (.aload_n 0, 1) := by decide +kernel
theorem dX12_clause_175 : decode cX12_clause 175 = .ok (.dup, 1) := by decide +kernel
theorem dX12_clause_176 : decode cX12_clause 176 = .ok (.getfield 147, 3) := by decide +kernel
theorem dX12_clause_179 : decode cX12_clause 179 = .ok (.iconst 1, 1) := by decide +kernel
theorem dX12_clause_180 : decode cX12_clause 180 = .ok (.iadd, 1) := by decide +kernel
theorem dX12_clause_181 : decode cX12_clause 181 = .ok (.putfield 147, 3) := by decide +kernel
theorem dX12_clause_184 : decode cX12_clause 184 = .ok (.aload_n 0, 1) := by decide +kernel
theorem dX12_clause_185 : decode cX12_clause 185 = .ok (.getfield 110, 3) := by decide +kernel
theorem dX12_clause_188 : decode cX12_clause 188 = .ok (.ifCond .eq 4, 3) := by decide +kernel
theorem dX12_clause_191 : decode cX12_clause 191 = .ok (.return_, 1) := by decide +kernel
theorem dX12_clause_192 : decode cX12_clause 192 = .ok (.iload_n 1, 1) := by decide +kernel
theorem dX12_clause_193 : decode cX12_clause 193 = .ok (.ifCond .ne 13, 3) := by decide +kernel
theorem dX12_clause_196 : decode cX12_clause 196 = .ok (.aload_n 0, 1) := by decide +kernel
theorem dX12_clause_197 : decode cX12_clause 197 = .ok (.getfield 34, 3) := by decide +kernel
theorem dX12_clause_200 : decode cX12_clause 200 = .ok (.iload_n 2, 1) := by decide +kernel
theorem dX12_clause_201 : decode cX12_clause 201 = .ok (.aaload, 1) := by decide +kernel
theorem dX12_clause_202 : decode cX12_clause 202 = .ok (.iload_n 3, 1) := by decide +kernel
theorem dX12_clause_203 : decode cX12_clause 203 = .ok (.iload 4, 2) := by decide +kernel
theorem dX12_clause_205 : decode cX12_clause 205 = .ok (.iastore, 1) := by decide +kernel
theorem dX12_clause_206 : decode cX12_clause 206 = .ok (.iload_n 1, 1) := by decide +kernel
theorem dX12_clause_207 : decode cX12_clause 207 = .ok (.iconst 1, 1) := by decide +kernel
theorem dX12_clause_208 : decode cX12_clause 208 = .ok (.if_icmp .ne 11, 3) := by decide +kernel
theorem dX12_clause_211 : decode cX12_clause 211 = .ok (.aload_n 0, 1) := by decide +kernel
theorem dX12_clause_212 : decode cX12_clause 212 = .ok (.getfield 37, 3) := by decide +kernel
theorem dX12_clause_215 : decode cX12_clause 215 = .ok (.iload_n 3, 1) := by decide +kernel
theorem dX12_clause_216 : decode cX12_clause 216 = .ok (.iload 4, 2) := by decide +kernel
theorem dX12_clause_218 : decode cX12_clause 218 = .ok (.iastore, 1) := by decide +kernel
theorem dX12_clause_219 : decode cX12_clause 219 = .ok (.iload_n 1, 1) := by decide +kernel
theorem dX12_clause_220 : decode cX12_clause 220 = .ok (.iconst 2, 1) := by decide +kernel
theorem dX12_clause_221 : decode cX12_clause 221 = .ok (.if_icmp .ne 9, 3) := by decide +kernel
theorem dX12_clause_224 : decode cX12_clause 224 = .ok (.aload_n 0, 1) := by decide +kernel
theorem dX12_clause_225 : decode cX12_clause 225 = .ok (.iload 4, 2) := by decide +kernel
theorem dX12_clause_227 : decode cX12_clause 227 = .ok (.putfield 161, 3) := by decide +kernel
theorem dX12_clause_230 : decode cX12_clause 230 = .ok (.iload_n 1, 1) := by decide +kernel
theorem dX12_clause_231 : decode cX12_clause 231 = .ok (.iconst 3, 1) := by decide +kernel
theorem dX12_clause_232 : decode cX12_clause 232 = .ok (.if_icmp .ne 9, 3) := by decide +kernel
theorem dX12_clause_235 : decode cX12_clause 235 = .ok (.aload_n 0, 1) := by decide +kernel
theorem dX12_clause_236 : decode cX12_clause 236 = .ok (.iload 4, 2) := by decide +kernel
theorem dX12_clause_238 : decode cX12_clause 238 = .ok (.putfield 164, 3) := by decide +kernel
theorem dX12_clause_241 : decode cX12_clause 241 = .ok (.iload_n 1, 1) := by decide +kernel
theorem dX12_clause_242 : decode cX12_clause 242 = .ok (.iconst 4, 1) := by decide +kernel
theorem dX12_clause_243 : decode cX12_clause 243 = .ok (.if_icmp .ne 9, 3) := by decide +kernel
theorem dX12_clause_246 : decode cX12_clause 246 = .ok (.aload_n 0, 1) := by decide +kernel
theorem dX12_clause_247 : decode cX12_clause 247 = .ok (.iload 4, 2) := by decide +kernel
theorem dX12_clause_249 : decode cX12_clause 249 = .ok (.putfield 167, 3) := by decide +kernel
theorem dX12_clause_252 : decode cX12_clause 252 = .ok (.iload_n 1, 1) := by decide +kernel
theorem dX12_clause_253 : decode cX12_clause 253 = .ok (.iconst 5, 1) := by decide +kernel
theorem dX12_clause_254 : decode cX12_clause 254 = .ok (.if_icmp .ne 29, 3) := by decide +kernel
theorem dX12_clause_257 : decode cX12_clause 257 = .ok (.aload_n 0, 1) := by decide +kernel
theorem dX12_clause_258 : decode cX12_clause 258 = .ok (.getfield 43, 3) := by decide +kernel
theorem dX12_clause_261 : decode cX12_clause 261 = .ok (.iload_n 3, 1) := by decide +kernel
theorem dX12_clause_262 : decode cX12_clause 262 = .ok (.dup2, 1) := by decide +kernel
theorem dX12_clause_263 : decode cX12_clause 263 = .ok (.iaload, 1) := by decide +kernel
theorem dX12_clause_264 : decode cX12_clause 264 = .ok (.iconst 1, 1) := by decide +kernel
theorem dX12_clause_265 : decode cX12_clause 265 = .ok (.iload 4, 2) := by decide +kernel
theorem dX12_clause_267 : decode cX12_clause 267 = .ok (.ishl, 1) := by decide +kernel
theorem dX12_clause_268 : decode cX12_clause 268 = .ok (.ior, 1) := by decide +kernel
theorem dX12_clause_269 : decode cX12_clause 269 = .ok (.iastore, 1) := by decide +kernel
theorem dX12_clause_270 : decode cX12_clause 270 = .ok (.aload_n 0, 1) := by decide +kernel
theorem dX12_clause_271 : decode cX12_clause 271 = .ok (.getfield 43, 3) := by decide +kernel
theorem dX12_clause_274 : decode cX12_clause 274 = .ok (.iload 4, 2) := by decide +kernel
theorem dX12_clause_276 : decode cX12_clause 276 = .ok (.dup2, 1) := by decide +kernel
theorem dX12_clause_277 : decode cX12_clause 277 = .ok (.iaload, 1) := by decide +kernel
theorem dX12_clause_278 : decode cX12_clause 278 = .ok (.iconst 1, 1) := by decide +kernel
theorem dX12_clause_279 : decode cX12_clause 279 = .ok (.iload_n 3, 1) := by decide +kernel
theorem dX12_clause_280 : decode cX12_clause 280 = .ok (.ishl, 1) := by decide +kernel
theorem dX12_clause_281 : decode cX12_clause 281 = .ok (.ior, 1) := by decide +kernel
theorem dX12_clause_282 : decode cX12_clause 282 = .ok (.iastore, 1) := by decide +kernel
theorem dX12_clause_283 : decode cX12_clause 283 = .ok (.iload_n 1, 1) := by decide +kernel
theorem dX12_clause_284 : decode cX12_clause 284 = .ok (.bipush 6, 2) := by decide +kernel
theorem dX12_clause_286 : decode cX12_clause 286 = .ok (.if_icmp .ne 11, 3) := by decide +kernel
theorem dX12_clause_289 : decode cX12_clause 289 = .ok (.aload_n 0, 1) := by decide +kernel
theorem dX12_clause_290 : decode cX12_clause 290 = .ok (.getfield 40, 3) := by decide +kernel
theorem dX12_clause_293 : decode cX12_clause 293 = .ok (.iload_n 3, 1) := by decide +kernel
theorem dX12_clause_294 : decode cX12_clause 294 = .ok (.iload 4, 2) := by decide +kernel
theorem dX12_clause_296 : decode cX12_clause 296 = .ok (.iastore, 1) := by decide +kernel
theorem dX12_clause_297 : decode cX12_clause 297 = .ok (.return_, 1) := by decide +kernel
theorem dX12_begins_0 : decode cX12_begins 0 = .ok (.aload_n 0, 1) := by decide +kernel
theorem dX12_begins_1 : decode cX12_begins 1 = .ok (.iload_n 1, 1) := by decide +kernel
theorem dX12_begins_2 : decode cX12_begins 2 = .ok (.putfield 100, 3) := by decide +kernel
theorem dX12_begins_5 : decode cX12_begins 5 = .ok (.aload_n 0, 1) := by decide +kernel
theorem dX12_begins_6 : decode cX12_begins 6 = .ok (.iconst 0, 1) := by decide +kernel
theorem dX12_begins_7 : decode cX12_begins 7 = .ok (.putfield 97, 3) := by decide +kernel
theorem dX12_begins_10 : decode cX12_begins 10 = .ok (.aload_n 0, 1) := by decide +kernel
theorem dX12_begins_11 : decode cX12_begins 11 = .ok (.iconst 0, 1) := by decide +kernel
theorem dX12_begins_12 : decode cX12_begins 12 = .ok (.putfield 103, 3) := by decide +kernel
theorem dX12_begins_15 : decode cX12_begins 15 = .ok (.aload_n 0, 1) := by decide +kernel
theorem dX12_begins_16 : decode cX12_begins 16 = .ok (.iconst 0, 1) := by decide +kernel
theorem dX12_begins_17 : decode cX12_begins 17 = .ok (.putfield 110, 3) := by decide +kernel
theorem dX12_begins_20 : decode cX12_begins 20 = .ok (.aload_n 0, 1) := by decide +kernel
theorem dX12_begins_21 : decode cX12_begins 21 = .ok (.iconst (-1), 1) := by decide +kernel
theorem dX12_begins_22 : decode cX12_begins 22 = .ok (.putfield 113, 3) := by decide +kernel
theorem dX12_begins_25 : decode cX12_begins 25 = .ok (.aload_n 0, 1) := by decide +kernel
theorem dX12_begins_26 : decode cX12_begins 26 = .ok (.invokevirtual 116, 3) := by decide +kernel
theorem dX12_begins_29 : decode cX12_begins 29 = .ok (.return_, 1) := by decide +kernel
theorem dX12_law_0 : decode cX12_law 0 = .ok (.aload_n 0, 1) := by decide +kernel
theorem dX12_law_1 : decode cX12_law 1 = .ok (.iconst 0, 1) := by decide +kernel
theorem dX12_law_2 : decode cX12_law 2 = .ok (.putfield 94, 3) := by decide +kernel
theorem dX12_law_5 : decode cX12_law 5 = .ok (.aload_n 0, 1) := by decide +kernel
theorem dX12_law_6 : decode cX12_law 6 = .ok (.iload_n 1, 1) := by decide +kernel
theorem dX12_law_7 : decode cX12_law 7 = .ok (.iconst 0, 1) := by decide +kernel
theorem dX12_law_8 : decode cX12_law 8 = .ok (.aload_n 0, 1) := by decide +kernel
theorem dX12_law_9 : decode cX12_law 9 = .ok (.getfield 97, 3) := by decide +kernel
theorem dX12_law_12 : decode cX12_law 12 = .ok (.invokestatic 128, 3) := by decide +kernel
theorem dX12_law_15 : decode cX12_law 15 = .ok (.ifCond .ne 7, 3) := by decide +kernel
theorem dX12_law_18 : decode cX12_law 18 = .ok (.iconst 1, 1) := by decide +kernel
theorem dX12_law_19 : decode cX12_law 19 = .ok (.goto 4, 3) := by decide +kernel
theorem dX12_law_22 : decode cX12_law 22 = .ok (.iconst 0, 1) := by decide +kernel
theorem dX12_law_23 : decode cX12_law 23 = .ok (.iconst 1, 1) := by decide +kernel
theorem dX12_law_24 : decode cX12_law 24 = .ok (.invokevirtual 170, 3) := by decide +kernel
theorem dX12_law_27 : decode cX12_law 27 = .ok (.ifCond .eq 5, 3) := by decide +kernel
theorem dX12_law_30 : decode cX12_law 30 = .ok (.iconst 0, 1) := by decide +kernel
theorem dX12_law_31 : decode cX12_law 31 = .ok (.ireturn, 1) := by decide +kernel
theorem dX12_law_32 : decode cX12_law 32 = .ok (.aload_n 0, 1) := by decide +kernel
theorem dX12_law_33 : decode cX12_law 33 = .ok (.iload_n 1, 1) := by decide +kernel
theorem dX12_law_34 : decode cX12_law 34 = .ok (.invokevirtual 174, 3) := by decide +kernel
theorem dX12_law_37 : decode cX12_law 37 = .ok (.aload_n 0, 1) := by decide +kernel
theorem dX12_law_38 : decode cX12_law 38 = .ok (.iconst 0, 1) := by decide +kernel
theorem dX12_law_39 : decode cX12_law 39 = .ok (.putfield 147, 3) := by decide +kernel
theorem dX12_law_42 : decode cX12_law 42 = .ok (.aload_n 0, 1) := by decide +kernel
theorem dX12_law_43 : decode cX12_law 43 = .ok (.iconst 0, 1) := by decide +kernel
theorem dX12_law_44 : decode cX12_law 44 = .ok (.putfield 161, 3) := by decide +kernel
theorem dX12_law_47 : decode cX12_law 47 = .ok (.aload_n 0, 1) := by decide +kernel
theorem dX12_law_48 : decode cX12_law 48 = .ok (.iconst 0, 1) := by decide +kernel
theorem dX12_law_49 : decode cX12_law 49 = .ok (.putfield 164, 3) := by decide +kernel
theorem dX12_law_52 : decode cX12_law 52 = .ok (.aload_n 0, 1) := by decide +kernel
theorem dX12_law_53 : decode cX12_law 53 = .ok (.bipush 8, 2) := by decide +kernel
theorem dX12_law_55 : decode cX12_law 55 = .ok (.putfield 167, 3) := by decide +kernel
theorem dX12_law_58 : decode cX12_law 58 = .ok (.iconst 0, 1) := by decide +kernel
theorem dX12_law_59 : decode cX12_law 59 = .ok (.istore_n 2, 1) := by decide +kernel
theorem dX12_law_60 : decode cX12_law 60 = .ok (.iload_n 2, 1) := by decide +kernel
theorem dX12_law_61 : decode cX12_law 61 = .ok (.bipush 10, 2) := by decide +kernel
theorem dX12_law_63 : decode cX12_law 63 = .ok (.if_icmp .ge 54, 3) := by decide +kernel
theorem dX12_law_66 : decode cX12_law 66 = .ok (.aload_n 0, 1) := by decide +kernel
theorem dX12_law_67 : decode cX12_law 67 = .ok (.getfield 37, 3) := by decide +kernel
theorem dX12_law_70 : decode cX12_law 70 = .ok (.iload_n 2, 1) := by decide +kernel
theorem dX12_law_71 : decode cX12_law 71 = .ok (.bipush 16, 2) := by decide +kernel
theorem dX12_law_73 : decode cX12_law 73 = .ok (.iastore, 1) := by decide +kernel
theorem dX12_law_74 : decode cX12_law 74 = .ok (.aload_n 0, 1) := by decide +kernel
theorem dX12_law_75 : decode cX12_law 75 = .ok (.getfield 40, 3) := by decide +kernel
theorem dX12_law_78 : decode cX12_law 78 = .ok (.iload_n 2, 1) := by decide +kernel
theorem dX12_law_79 : decode cX12_law 79 = .ok (.iconst 0, 1) := by decide +kernel
theorem dX12_law_80 : decode cX12_law 80 = .ok (.iastore, 1) := by decide +kernel
theorem dX12_law_81 : decode cX12_law 81 = .ok (.aload_n 0, 1) := by decide +kernel
theorem dX12_law_82 : decode cX12_law 82 = .ok (.getfield 43, 3) := by decide +kernel
theorem dX12_law_85 : decode cX12_law 85 = .ok (.iload_n 2, 1) := by decide +kernel
theorem dX12_law_86 : decode cX12_law 86 = .ok (.iconst 0, 1) := by decide +kernel
theorem dX12_law_87 : decode cX12_law 87 = .ok (.iastore, 1) := by decide +kernel
theorem dX12_law_88 : decode cX12_law 88 = .ok (.iconst 0, 1) := by decide +kernel
theorem dX12_law_89 : decode cX12_law 89 = .ok (.istore_n 3, 1) := by decide +kernel
theorem dX12_law_90 : decode cX12_law 90 = .ok (.iload_n 3, 1) := by decide +kernel
theorem dX12_law_91 : decode cX12_law 91 = .ok (.bipush 8, 2) := by decide +kernel
theorem dX12_law_93 : decode cX12_law 93 = .ok (.if_icmp .ge 18, 3) := by decide +kernel
theorem dX12_law_96 : decode cX12_law 96 = .ok (.aload_n 0, 1) := by decide +kernel
theorem dX12_law_97 : decode cX12_law 97 = .ok (.getfield 34, 3) := by decide +kernel
theorem dX12_law_100 : decode cX12_law 100 = .ok (.iload_n 3, 1) := by decide +kernel
theorem dX12_law_101 : decode cX12_law 101 = .ok (.aaload, 1) := by decide +kernel
theorem dX12_law_102 : decode cX12_law 102 = .ok (.iload_n 2, 1) := by decide +kernel
theorem dX12_law_103 : decode cX12_law 103 = .ok (.iconst 0, 1) := by decide +kernel
theorem dX12_law_104 : decode cX12_law 104 = .ok (.iastore, 1) := by decide +kernel
theorem dX12_law_105 : decode cX12_law 105 = .ok (.iinc 3 1, 3) := by decide +kernel
theorem dX12_law_108 : decode cX12_law 108 = .ok (.goto (-18), 3) := by decide +kernel
theorem dX12_law_111 : decode cX12_law 111 = .ok (.iinc 2 1, 3) := by decide +kernel
theorem dX12_law_114 : decode cX12_law 114 = .ok (.goto (-54), 3) := by decide +kernel
theorem dX12_law_117 : decode cX12_law 117 = .ok (.aload_n 0, 1) := by decide +kernel
theorem dX12_law_118 : decode cX12_law 118 = .ok (.getfield 110, 3) := by decide +kernel
theorem dX12_law_121 : decode cX12_law 121 = .ok (.ifCond .ne 25, 3) := by decide +kernel
theorem dX12_law_124 : decode cX12_law 124 = .ok (.aload_n 0, 1) := by decide +kernel
theorem dX12_law_125 : decode cX12_law 125 = .ok (.getfield 103, 3) := by decide +kernel
theorem dX12_law_128 : decode cX12_law 128 = .ok (.aload_n 0, 1) := by decide +kernel
theorem dX12_law_129 : decode cX12_law 129 = .ok (.getfield 100, 3) := by decide +kernel
theorem dX12_law_132 : decode cX12_law 132 = .ok (.if_icmp .ge 14, 3) := by decide +kernel
theorem dX12_law_135 : decode cX12_law 135 = .ok (.aload_n 0, 1) := by decide +kernel
theorem dX12_law_136 : decode cX12_law 136 = .ok (.invokevirtual 177, 3) := by decide +kernel
theorem dX12_law_139 : decode cX12_law 139 = .ok (.aload_n 0, 1) := by decide +kernel
theorem dX12_law_140 : decode cX12_law 140 = .ok (.invokevirtual 116, 3) := by decide +kernel
theorem dX12_law_143 : decode cX12_law 143 = .ok (.goto (-26), 3) := by decide +kernel
theorem dX12_law_146 : decode cX12_law 146 = .ok (.aload_n 0, 1) := by decide +kernel
theorem dX12_law_147 : decode cX12_law 147 = .ok (.aload_n 0, 1) := by decide +kernel
theorem dX12_law_148 : decode cX12_law 148 = .ok (.getfield 113, 3) := by decide +kernel
theorem dX12_law_151 : decode cX12_law 151 = .ok (.putfield 9, 3) := by decide +kernel
theorem dX12_law_154 : decode cX12_law 154 = .ok (.aload_n 0, 1) := by decide +kernel
theorem dX12_law_155 : decode cX12_law 155 = .ok (.getfield 110, 3) := by decide +kernel
theorem dX12_law_158 : decode cX12_law 158 = .ok (.ifCond .eq 11, 3) := by decide +kernel
theorem dX12_law_161 : decode cX12_law 161 = .ok (.aload_n 0, 1) := by decide +kernel
theorem dX12_law_162 : decode cX12_law 162 = .ok (.getfield 110, 3) := by decide +kernel
theorem dX12_law_165 : decode cX12_law 165 = .ok (.bipush 10, 2) := by decide +kernel
theorem dX12_law_167 : decode cX12_law 167 = .ok (.isub, 1) := by decide +kernel
theorem dX12_law_168 : decode cX12_law 168 = .ok (.ireturn, 1) := by decide +kernel
theorem dX12_law_169 : decode cX12_law 169 = .ok (.aload_n 0, 1) := by decide +kernel
theorem dX12_law_170 : decode cX12_law 170 = .ok (.aload_n 0, 1) := by decide +kernel
theorem dX12_law_171 : decode cX12_law 171 = .ok (.getfield 147, 3) := by decide +kernel
theorem dX12_law_174 : decode cX12_law 174 = .ok (.putfield 180, 3) := by decide +kernel
theorem dX12_law_177 : decode cX12_law 177 = .ok (.aload_n 0, 1) := by decide +kernel
theorem dX12_law_178 : decode cX12_law 178 = .ok (.aload_n 0, 1) := by decide +kernel
theorem dX12_law_179 : decode cX12_law 179 = .ok (.getfield 161, 3) := by decide +kernel
theorem dX12_law_182 : decode cX12_law 182 = .ok (.putfield 183, 3) := by decide +kernel
theorem dX12_law_185 : decode cX12_law 185 = .ok (.aload_n 0, 1) := by decide +kernel
theorem dX12_law_186 : decode cX12_law 186 = .ok (.aload_n 0, 1) := by decide +kernel
theorem dX12_law_187 : decode cX12_law 187 = .ok (.getfield 164, 3) := by decide +kernel
theorem dX12_law_190 : decode cX12_law 190 = .ok (.putfield 186, 3) := by decide +kernel
theorem dX12_law_193 : decode cX12_law 193 = .ok (.aload_n 0, 1) := by decide +kernel
theorem dX12_law_194 : decode cX12_law 194 = .ok (.aload_n 0, 1) := by decide +kernel
theorem dX12_law_195 : decode cX12_law 195 = .ok (.getfield 167, 3) := by decide +kernel
theorem dX12_law_198 : decode cX12_law 198 = .ok (.putfield 17, 3) := by decide +kernel
theorem dX12_law_201 : decode cX12_law 201 = .ok (.iconst 0, 1) := by decide +kernel
theorem dX12_law_202 : decode cX12_law 202 = .ok (.istore_n 2, 1) := by decide +kernel
theorem dX12_law_203 : decode cX12_law 203 = .ok (.iload_n 2, 1) := by decide +kernel
theorem dX12_law_204 : decode cX12_law 204 = .ok (.bipush 10, 2) := by decide +kernel
theorem dX12_law_206 : decode cX12_law 206 = .ok (.if_icmp .ge 75, 3) := by decide +kernel
theorem dX12_law_209 : decode cX12_law 209 = .ok (.aload_n 0, 1) := by decide +kernel
theorem dX12_law_210 : decode cX12_law 210 = .ok (.getfield 25, 3) := by decide +kernel
theorem dX12_law_213 : decode cX12_law 213 = .ok (.iload_n 2, 1) := by decide +kernel
theorem dX12_law_214 : decode cX12_law 214 = .ok (.aload_n 0, 1) := by decide +kernel
theorem dX12_law_215 : decode cX12_law 215 = .ok (.getfield 37, 3) := by decide +kernel
theorem dX12_law_218 : decode cX12_law 218 = .ok (.iload_n 2, 1) := by decide +kernel
theorem dX12_law_219 : decode cX12_law 219 = .ok (.iaload, 1) := by decide +kernel
theorem dX12_law_220 : decode cX12_law 220 = .ok (.iastore, 1) := by decide +kernel
theorem dX12_law_221 : decode cX12_law 221 = .ok (.aload_n 0, 1) := by decide +kernel
theorem dX12_law_222 : decode cX12_law 222 = .ok (.getfield 28, 3) := by decide +kernel
theorem dX12_law_225 : decode cX12_law 225 = .ok (.iload_n 2, 1) := by decide +kernel
theorem dX12_law_226 : decode cX12_law 226 = .ok (.aload_n 0, 1) := by decide +kernel
theorem dX12_law_227 : decode cX12_law 227 = .ok (.getfield 40, 3) := by decide +kernel
theorem dX12_law_230 : decode cX12_law 230 = .ok (.iload_n 2, 1) := by decide +kernel
theorem dX12_law_231 : decode cX12_law 231 = .ok (.iaload, 1) := by decide +kernel
theorem dX12_law_232 : decode cX12_law 232 = .ok (.iastore, 1) := by decide +kernel
theorem dX12_law_233 : decode cX12_law 233 = .ok (.aload_n 0, 1) := by decide +kernel
theorem dX12_law_234 : decode cX12_law 234 = .ok (.getfield 31, 3) := by decide +kernel
theorem dX12_law_237 : decode cX12_law 237 = .ok (.iload_n 2, 1) := by decide +kernel
theorem dX12_law_238 : decode cX12_law 238 = .ok (.aload_n 0, 1) := by decide +kernel
theorem dX12_law_239 : decode cX12_law 239 = .ok (.getfield 43, 3) := by decide +kernel
theorem dX12_law_242 : decode cX12_law 242 = .ok (.iload_n 2, 1) := by decide +kernel
theorem dX12_law_243 : decode cX12_law 243 = .ok (.iaload, 1) := by decide +kernel
theorem dX12_law_244 : decode cX12_law 244 = .ok (.iastore, 1) := by decide +kernel
theorem dX12_law_245 : decode cX12_law 245 = .ok (.iconst 0, 1) := by decide +kernel
theorem dX12_law_246 : decode cX12_law 246 = .ok (.istore_n 3, 1) := by decide +kernel
theorem dX12_law_247 : decode cX12_law 247 = .ok (.iload_n 3, 1) := by decide +kernel
theorem dX12_law_248 : decode cX12_law 248 = .ok (.bipush 8, 2) := by decide +kernel
theorem dX12_law_250 : decode cX12_law 250 = .ok (.if_icmp .ge 25, 3) := by decide +kernel
theorem dX12_law_253 : decode cX12_law 253 = .ok (.aload_n 0, 1) := by decide +kernel
theorem dX12_law_254 : decode cX12_law 254 = .ok (.getfield 22, 3) := by decide +kernel
theorem dX12_law_257 : decode cX12_law 257 = .ok (.iload_n 3, 1) := by decide +kernel
theorem dX12_law_258 : decode cX12_law 258 = .ok (.aaload, 1) := by decide +kernel
theorem dX12_law_259 : decode cX12_law 259 = .ok (.iload_n 2, 1) := by decide +kernel
theorem dX12_law_260 : decode cX12_law 260 = .ok (.aload_n 0, 1) := by decide +kernel
theorem dX12_law_261 : decode cX12_law 261 = .ok (.getfield 34, 3) := by decide +kernel
theorem dX12_law_264 : decode cX12_law 264 = .ok (.iload_n 3, 1) := by decide +kernel
theorem dX12_law_265 : decode cX12_law 265 = .ok (.aaload, 1) := by decide +kernel
theorem dX12_law_266 : decode cX12_law 266 = .ok (.iload_n 2, 1) := by decide +kernel
theorem dX12_law_267 : decode cX12_law 267 = .ok (.iaload, 1) := by decide +kernel
theorem dX12_law_268 : decode cX12_law 268 = .ok (.iastore, 1) := by decide +kernel
theorem dX12_law_269 : decode cX12_law 269 = .ok (.iinc 3 1, 3) := by decide +kernel
theorem dX12_law_272 : decode cX12_law 272 = .ok (.goto (-25), 3) := by decide +kernel
theorem dX12_law_275 : decode cX12_law 275 = .ok (.iinc 2 1, 3) := by decide +kernel
theorem dX12_law_278 : decode cX12_law 278 = .ok (.goto (-75), 3) := by decide +kernel
theorem dX12_law_281 : decode cX12_law 281 = .ok (.aload_n 0, 1) := by decide +kernel
theorem dX12_law_282 : decode cX12_law 282 = .ok (.getfield 180, 3) := by decide +kernel
theorem dX12_law_285 : decode cX12_law 285 = .ok (.ireturn, 1) := by decide +kernel
theorem dX12_eventHere_0 : decode cX12_eventHere 0 = .ok (.aload_n 0, 1) := by decide +kernel
theorem dX12_eventHere_1 : decode cX12_eventHere 1 = .ok (.bipush 23, 2) := by decide +kernel
theorem dX12_eventHere_3 : decode cX12_eventHere 3 = .ok (.iconst 5, 1) := by decide +kernel
theorem dX12_eventHere_4 : decode cX12_eventHere 4 = .ok (.iconst 1, 1) := by decide +kernel
theorem dX12_eventHere_5 : decode cX12_eventHere 5 = .ok (.bipush 18, 2) := by decide +kernel
theorem dX12_eventHere_7 : decode cX12_eventHere 7 = .ok (.iconst 0, 1) := by decide +kernel
theorem dX12_eventHere_8 : decode cX12_eventHere 8 = .ok (.iconst 0, 1) := by decide +kernel
theorem dX12_eventHere_9 : decode cX12_eventHere 9 = .ok (.invokevirtual 140, 3) := by decide +kernel
theorem dX12_eventHere_12 : decode cX12_eventHere 12 = .ok (.ifCond .eq 5, 3) := by decide +kernel
theorem dX12_eventHere_15 : decode cX12_eventHere 15 = .ok (.iconst 0, 1) := by decide +kernel
theorem dX12_eventHere_16 : decode cX12_eventHere 16 = .ok (.ireturn, 1) := by decide +kernel
theorem dX12_eventHere_17 : decode cX12_eventHere 17 = .ok (.aload_n 0, 1) := by decide +kernel
theorem dX12_eventHere_18 : decode cX12_eventHere 18 = .ok (.iconst 2, 1) := by decide +kernel
theorem dX12_eventHere_19 : decode cX12_eventHere 19 = .ok (.iconst 1, 1) := by decide +kernel
theorem dX12_eventHere_20 : decode cX12_eventHere 20 = .ok (.bipush 18, 2) := by decide +kernel
theorem dX12_eventHere_22 : decode cX12_eventHere 22 = .ok (.iconst 5, 1) := by decide +kernel
theorem dX12_eventHere_23 : decode cX12_eventHere 23 = .ok (.iconst 0, 1) := by decide +kernel
theorem dX12_eventHere_24 : decode cX12_eventHere 24 = .ok (.iconst 0, 1) := by decide +kernel
theorem dX12_eventHere_25 : decode cX12_eventHere 25 = .ok (.invokevirtual 140, 3) := by decide +kernel
theorem dX12_eventHere_28 : decode cX12_eventHere 28 = .ok (.ifCond .eq 5, 3) := by decide +kernel
theorem dX12_eventHere_31 : decode cX12_eventHere 31 = .ok (.iconst 1, 1) := by decide +kernel
theorem dX12_eventHere_32 : decode cX12_eventHere 32 = .ok (.ireturn, 1) := by decide +kernel
theorem dX12_eventHere_33 : decode cX12_eventHere 33 = .ok (.aload_n 0, 1) := by decide +kernel
theorem dX12_eventHere_34 : decode cX12_eventHere 34 = .ok (.bipush 20, 2) := by decide +kernel
theorem dX12_eventHere_36 : decode cX12_eventHere 36 = .ok (.bipush 15, 2) := by decide +kernel
theorem dX12_eventHere_38 : decode cX12_eventHere 38 = .ok (.bipush 21, 2) := by decide +kernel
theorem dX12_eventHere_40 : decode cX12_eventHere 40 = .ok (.iconst 3, 1) := by decide +kernel
theorem dX12_eventHere_41 : decode cX12_eventHere 41 = .ok (.bipush 8, 2) := by decide +kernel
theorem dX12_eventHere_43 : decode cX12_eventHere 43 = .ok (.iconst 0, 1) := by decide +kernel
theorem dX12_eventHere_44 : decode cX12_eventHere 44 = .ok (.invokevirtual 140, 3) := by decide +kernel
theorem dX12_eventHere_47 : decode cX12_eventHere 47 = .ok (.ifCond .eq 5, 3) := by decide +kernel
theorem dX12_eventHere_50 : decode cX12_eventHere 50 = .ok (.iconst 2, 1) := by decide +kernel
theorem dX12_eventHere_51 : decode cX12_eventHere 51 = .ok (.ireturn, 1) := by decide +kernel
theorem dX12_eventHere_52 : decode cX12_eventHere 52 = .ok (.aload_n 0, 1) := by decide +kernel
theorem dX12_eventHere_53 : decode cX12_eventHere 53 = .ok (.bipush 23, 2) := by decide +kernel
theorem dX12_eventHere_55 : decode cX12_eventHere 55 = .ok (.iconst 1, 1) := by decide +kernel
theorem dX12_eventHere_56 : decode cX12_eventHere 56 = .ok (.bipush 19, 2) := by decide +kernel
theorem dX12_eventHere_58 : decode cX12_eventHere 58 = .ok (.bipush 8, 2) := by decide +kernel
theorem dX12_eventHere_60 : decode cX12_eventHere 60 = .ok (.iconst 0, 1) := by decide +kernel
theorem dX12_eventHere_61 : decode cX12_eventHere 61 = .ok (.iconst 0, 1) := by decide +kernel
theorem dX12_eventHere_62 : decode cX12_eventHere 62 = .ok (.invokevirtual 140, 3) := by decide +kernel
theorem dX12_eventHere_65 : decode cX12_eventHere 65 = .ok (.ifCond .eq 5, 3) := by decide +kernel
theorem dX12_eventHere_68 : decode cX12_eventHere 68 = .ok (.iconst 3, 1) := by decide +kernel
theorem dX12_eventHere_69 : decode cX12_eventHere 69 = .ok (.ireturn, 1) := by decide +kernel
theorem dX12_eventHere_70 : decode cX12_eventHere 70 = .ok (.aload_n 0, 1) := by decide +kernel
theorem dX12_eventHere_71 : decode cX12_eventHere 71 = .ok (.bipush 19, 2) := by decide +kernel
theorem dX12_eventHere_73 : decode cX12_eventHere 73 = .ok (.bipush 8, 2) := by decide +kernel
theorem dX12_eventHere_75 : decode cX12_eventHere 75 = .ok (.iconst 1, 1) := by decide +kernel
theorem dX12_eventHere_76 : decode cX12_eventHere 76 = .ok (.bipush 11, 2) := by decide +kernel
theorem dX12_eventHere_78 : decode cX12_eventHere 78 = .ok (.iconst 5, 1) := by decide +kernel
theorem dX12_eventHere_79 : decode cX12_eventHere 79 = .ok (.iconst 0, 1) := by decide +kernel
theorem dX12_eventHere_80 : decode cX12_eventHere 80 = .ok (.invokevirtual 140, 3) := by decide +kernel
theorem dX12_eventHere_83 : decode cX12_eventHere 83 = .ok (.ifCond .eq 7, 3) := by decide +kernel
theorem dX12_eventHere_86 : decode cX12_eventHere 86 = .ok (.iconst 4, 1) := by decide +kernel
theorem dX12_eventHere_87 : decode cX12_eventHere 87 = .ok (.goto 4, 3) := by decide +kernel
theorem dX12_eventHere_90 : decode cX12_eventHere 90 = .ok (.iconst (-1), 1) := by decide +kernel
theorem dX12_eventHere_91 : decode cX12_eventHere 91 = .ok (.ireturn, 1) := by decide +kernel
theorem dX12_eventAt_0 : decode cX12_eventAt 0 = .ok (.aload_n 0, 1) := by decide +kernel
theorem dX12_eventAt_1 : decode cX12_eventAt 1 = .ok (.invokevirtual 189, 3) := by decide +kernel
theorem dX12_eventAt_4 : decode cX12_eventAt 4 = .ok (.istore_n 2, 1) := by decide +kernel
theorem dX12_eventAt_5 : decode cX12_eventAt 5 = .ok (.iload_n 2, 1) := by decide +kernel
theorem dX12_eventAt_6 : decode cX12_eventAt 6 = .ok (.iconst (-1), 1) := by decide +kernel
theorem dX12_eventAt_7 : decode cX12_eventAt 7 = .ok (.if_icmp .ne 15, 3) := by decide +kernel
theorem dX12_eventAt_10 : decode cX12_eventAt 10 = .ok (.aload_n 0, 1) := by decide +kernel
theorem dX12_eventAt_11 : decode cX12_eventAt 11 = .ok (.iconst 1, 1) := by decide +kernel
theorem dX12_eventAt_12 : decode cX12_eventAt 12 = .ok (.aload_n 0, 1) := by decide +kernel
theorem dX12_eventAt_13 : decode cX12_eventAt 13 = .ok (.getfield 103, 3) := by decide +kernel
theorem dX12_eventAt_16 : decode cX12_eventAt 16 = .ok (.invokevirtual 123, 3) := by decide +kernel
theorem dX12_eventAt_19 : decode cX12_eventAt 19 = .ok (.goto 18, 3) := by decide +kernel
theorem dX12_eventAt_22 : decode cX12_eventAt 22 = .ok (.iload_n 1, 1) := by decide +kernel
theorem dX12_eventAt_23 : decode cX12_eventAt 23 = .ok (.bipush 20, 2) := by decide +kernel
theorem dX12_eventAt_25 : decode cX12_eventAt 25 = .ok (.if_icmp .ne 12, 3) := by decide +kernel
theorem dX12_eventAt_28 : decode cX12_eventAt 28 = .ok (.aload_n 0, 1) := by decide +kernel
theorem dX12_eventAt_29 : decode cX12_eventAt 29 = .ok (.iconst 3, 1) := by decide +kernel
theorem dX12_eventAt_30 : decode cX12_eventAt 30 = .ok (.aload_n 0, 1) := by decide +kernel
theorem dX12_eventAt_31 : decode cX12_eventAt 31 = .ok (.getfield 103, 3) := by decide +kernel
theorem dX12_eventAt_34 : decode cX12_eventAt 34 = .ok (.invokevirtual 123, 3) := by decide +kernel
theorem dX12_eventAt_37 : decode cX12_eventAt 37 = .ok (.aload_n 0, 1) := by decide +kernel
theorem dX12_eventAt_38 : decode cX12_eventAt 38 = .ok (.getfield 110, 3) := by decide +kernel
theorem dX12_eventAt_41 : decode cX12_eventAt 41 = .ok (.ifCond .eq 4, 3) := by decide +kernel
theorem dX12_eventAt_44 : decode cX12_eventAt 44 = .ok (.return_, 1) := by decide +kernel
theorem dX12_eventAt_45 : decode cX12_eventAt 45 = .ok (.aload_n 0, 1) := by decide +kernel
theorem dX12_eventAt_46 : decode cX12_eventAt 46 = .ok (.invokevirtual 150, 3) := by decide +kernel
theorem dX12_eventAt_49 : decode cX12_eventAt 49 = .ok (.aload_n 0, 1) := by decide +kernel
theorem dX12_eventAt_50 : decode cX12_eventAt 50 = .ok (.getfield 52, 3) := by decide +kernel
theorem dX12_eventAt_53 : decode cX12_eventAt 53 = .ok (.iload_n 1, 1) := by decide +kernel
theorem dX12_eventAt_54 : decode cX12_eventAt 54 = .ok (.aaload, 1) := by decide +kernel
theorem dX12_eventAt_55 : decode cX12_eventAt 55 = .ok (.astore_n 3, 1) := by decide +kernel
theorem dX12_eventAt_56 : decode cX12_eventAt 56 = .ok (.aload_n 3, 1) := by decide +kernel
theorem dX12_eventAt_57 : decode cX12_eventAt 57 = .ok (.iconst 0, 1) := by decide +kernel
theorem dX12_eventAt_58 : decode cX12_eventAt 58 = .ok (.iload_n 2, 1) := by decide +kernel
theorem dX12_eventAt_59 : decode cX12_eventAt 59 = .ok (.iastore, 1) := by decide +kernel
theorem dX12_eventAt_60 : decode cX12_eventAt 60 = .ok (.aload_n 3, 1) := by decide +kernel
theorem dX12_eventAt_61 : decode cX12_eventAt 61 = .ok (.iconst 1, 1) := by decide +kernel
theorem dX12_eventAt_62 : decode cX12_eventAt 62 = .ok (.aload_n 0, 1) := by decide +kernel
theorem dX12_eventAt_63 : decode cX12_eventAt 63 = .ok (.iconst 0, 1) := by decide +kernel
theorem dX12_eventAt_64 : decode cX12_eventAt 64 = .ok (.bipush 9, 2) := by decide +kernel
theorem dX12_eventAt_66 : decode cX12_eventAt 66 = .ok (.iconst (-1), 1) := by decide +kernel
theorem dX12_eventAt_67 : decode cX12_eventAt 67 = .ok (.invokevirtual 153, 3) := by decide +kernel
theorem dX12_eventAt_70 : decode cX12_eventAt 70 = .ok (.iastore, 1) := by decide +kernel
theorem dX12_eventAt_71 : decode cX12_eventAt 71 = .ok (.aload_n 3, 1) := by decide +kernel
theorem dX12_eventAt_72 : decode cX12_eventAt 72 = .ok (.iconst 2, 1) := by decide +kernel
theorem dX12_eventAt_73 : decode cX12_eventAt 73 = .ok (.iload_n 2, 1) := by decide +kernel
theorem dX12_eventAt_74 : decode cX12_eventAt 74 = .ok (.ifCond .ne 14, 3) := by decide +kernel
theorem dX12_eventAt_77 : decode cX12_eventAt 77 = .ok (.aload_n 0, 1) := by decide +kernel
theorem dX12_eventAt_78 : decode cX12_eventAt 78 = .ok (.iconst 0, 1) := by decide +kernel
theorem dX12_eventAt_79 : decode cX12_eventAt 79 = .ok (.bipush 7, 2) := by decide +kernel
theorem dX12_eventAt_81 : decode cX12_eventAt 81 = .ok (.iconst (-1), 1) := by decide +kernel
theorem dX12_eventAt_82 : decode cX12_eventAt 82 = .ok (.invokevirtual 153, 3) := by decide +kernel
theorem dX12_eventAt_85 : decode cX12_eventAt 85 = .ok (.goto 38, 3) := by decide +kernel
theorem dX12_eventAt_88 : decode cX12_eventAt 88 = .ok (.iload_n 2, 1) := by decide +kernel
theorem dX12_eventAt_89 : decode cX12_eventAt 89 = .ok (.iconst 2, 1) := by decide +kernel
theorem dX12_eventAt_90 : decode cX12_eventAt 90 = .ok (.if_icmp .ne 16, 3) := by decide +kernel
theorem dX12_eventAt_93 : decode cX12_eventAt 93 = .ok (.aload_n 0, 1) := by decide +kernel
theorem dX12_eventAt_94 : decode cX12_eventAt 94 = .ok (.iconst 0, 1) := by decide +kernel
theorem dX12_eventAt_95 : decode cX12_eventAt 95 = .ok (.bipush 9, 2) := by decide +kernel
theorem dX12_eventAt_97 : decode cX12_eventAt 97 = .ok (.aload_n 3, 1) := by decide +kernel
theorem dX12_eventAt_98 : decode cX12_eventAt 98 = .ok (.iconst 1, 1) := by decide +kernel
theorem dX12_eventAt_99 : decode cX12_eventAt 99 = .ok (.iaload, 1) := by decide +kernel
theorem dX12_eventAt_100 : decode cX12_eventAt 100 = .ok (.invokevirtual 153, 3) := by decide +kernel
theorem dX12_eventAt_103 : decode cX12_eventAt 103 = .ok (.goto 20, 3) := by decide +kernel
theorem dX12_eventAt_106 : decode cX12_eventAt 106 = .ok (.iload_n 2, 1) := by decide +kernel
theorem dX12_eventAt_107 : decode cX12_eventAt 107 = .ok (.iconst 4, 1) := by decide +kernel
theorem dX12_eventAt_108 : decode cX12_eventAt 108 = .ok (.if_icmp .ne 14, 3) := by decide +kernel
theorem dX12_eventAt_111 : decode cX12_eventAt 111 = .ok (.aload_n 0, 1) := by decide +kernel
theorem dX12_eventAt_112 : decode cX12_eventAt 112 = .ok (.iconst 0, 1) := by decide +kernel
theorem dX12_eventAt_113 : decode cX12_eventAt 113 = .ok (.bipush 16, 2) := by decide +kernel
theorem dX12_eventAt_115 : decode cX12_eventAt 115 = .ok (.iconst (-1), 1) := by decide +kernel
theorem dX12_eventAt_116 : decode cX12_eventAt 116 = .ok (.invokevirtual 153, 3) := by decide +kernel
theorem dX12_eventAt_119 : decode cX12_eventAt 119 = .ok (.goto 4, 3) := by decide +kernel
theorem dX12_eventAt_122 : decode cX12_eventAt 122 = .ok (.iconst 0, 1) := by decide +kernel
theorem dX12_eventAt_123 : decode cX12_eventAt 123 = .ok (.iastore, 1) := by decide +kernel
theorem dX12_eventAt_124 : decode cX12_eventAt 124 = .ok (.aload_n 0, 1) := by decide +kernel
theorem dX12_eventAt_125 : decode cX12_eventAt 125 = .ok (.getfield 110, 3) := by decide +kernel
theorem dX12_eventAt_128 : decode cX12_eventAt 128 = .ok (.ifCond .ne 24, 3) := by decide +kernel
theorem dX12_eventAt_131 : decode cX12_eventAt 131 = .ok (.aload_n 0, 1) := by decide +kernel
theorem dX12_eventAt_132 : decode cX12_eventAt 132 = .ok (.iconst 1, 1) := by decide +kernel
theorem dX12_eventAt_133 : decode cX12_eventAt 133 = .ok (.bipush 20, 2) := by decide +kernel
theorem dX12_eventAt_135 : decode cX12_eventAt 135 = .ok (.iconst 0, 1) := by decide +kernel
theorem dX12_eventAt_136 : decode cX12_eventAt 136 = .ok (.iconst 0, 1) := by decide +kernel
theorem dX12_eventAt_137 : decode cX12_eventAt 137 = .ok (.iconst 0, 1) := by decide +kernel
theorem dX12_eventAt_138 : decode cX12_eventAt 138 = .ok (.iconst 0, 1) := by decide +kernel
theorem dX12_eventAt_139 : decode cX12_eventAt 139 = .ok (.invokevirtual 140, 3) := by decide +kernel
theorem dX12_eventAt_142 : decode cX12_eventAt 142 = .ok (.ifCond .eq 10, 3) := by decide +kernel
theorem dX12_eventAt_145 : decode cX12_eventAt 145 = .ok (.aload_n 0, 1) := by decide +kernel
theorem dX12_eventAt_146 : decode cX12_eventAt 146 = .ok (.invokevirtual 150, 3) := by decide +kernel
theorem dX12_eventAt_149 : decode cX12_eventAt 149 = .ok (.goto 12, 3) := by decide +kernel
theorem dX12_eventAt_152 : decode cX12_eventAt 152 = .ok (.aload_n 0, 1) := by decide +kernel
theorem dX12_eventAt_153 : decode cX12_eventAt 153 = .ok (.iconst 1, 1) := by decide +kernel
theorem dX12_eventAt_154 : decode cX12_eventAt 154 = .ok (.aload_n 0, 1) := by decide +kernel
theorem dX12_eventAt_155 : decode cX12_eventAt 155 = .ok (.getfield 103, 3) := by decide +kernel
theorem dX12_eventAt_158 : decode cX12_eventAt 158 = .ok (.invokevirtual 123, 3) := by decide +kernel
theorem dX12_eventAt_161 : decode cX12_eventAt 161 = .ok (.aload_n 0, 1) := by decide +kernel
theorem dX12_eventAt_162 : decode cX12_eventAt 162 = .ok (.getfield 110, 3) := by decide +kernel
theorem dX12_eventAt_165 : decode cX12_eventAt 165 = .ok (.ifCond .ne 7, 3) := by decide +kernel
theorem dX12_eventAt_168 : decode cX12_eventAt 168 = .ok (.aload_n 0, 1) := by decide +kernel
theorem dX12_eventAt_169 : decode cX12_eventAt 169 = .ok (.invokevirtual 116, 3) := by decide +kernel
theorem dX12_eventAt_172 : decode cX12_eventAt 172 = .ok (.aload_n 0, 1) := by decide +kernel
theorem dX12_eventAt_173 : decode cX12_eventAt 173 = .ok (.getfield 103, 3) := by decide +kernel
theorem dX12_eventAt_176 : decode cX12_eventAt 176 = .ok (.istore 4, 2) := by decide +kernel
theorem dX12_eventAt_178 : decode cX12_eventAt 178 = .ok (.aload_n 3, 1) := by decide +kernel
theorem dX12_eventAt_179 : decode cX12_eventAt 179 = .ok (.iconst 3, 1) := by decide +kernel
theorem dX12_eventAt_180 : decode cX12_eventAt 180 = .ok (.aload_n 0, 1) := by decide +kernel
theorem dX12_eventAt_181 : decode cX12_eventAt 181 = .ok (.iconst 0, 1) := by decide +kernel
theorem dX12_eventAt_182 : decode cX12_eventAt 182 = .ok (.bipush 99, 2) := by decide +kernel
theorem dX12_eventAt_184 : decode cX12_eventAt 184 = .ok (.iconst (-1), 1) := by decide +kernel
theorem dX12_eventAt_185 : decode cX12_eventAt 185 = .ok (.invokevirtual 153, 3) := by decide +kernel
theorem dX12_eventAt_188 : decode cX12_eventAt 188 = .ok (.iastore, 1) := by decide +kernel
theorem dX12_eventAt_189 : decode cX12_eventAt 189 = .ok (.aload_n 0, 1) := by decide +kernel
theorem dX12_eventAt_190 : decode cX12_eventAt 190 = .ok (.getfield 110, 3) := by decide +kernel
theorem dX12_eventAt_193 : decode cX12_eventAt 193 = .ok (.ifCond .ne 30, 3) := by decide +kernel
theorem dX12_eventAt_196 : decode cX12_eventAt 196 = .ok (.iload_n 1, 1) := by decide +kernel
theorem dX12_eventAt_197 : decode cX12_eventAt 197 = .ok (.ifCond .le 26, 3) := by decide +kernel
theorem dX12_eventAt_200 : decode cX12_eventAt 200 = .ok (.aload_n 3, 1) := by decide +kernel
theorem dX12_eventAt_201 : decode cX12_eventAt 201 = .ok (.iconst 3, 1) := by decide +kernel
theorem dX12_eventAt_202 : decode cX12_eventAt 202 = .ok (.iaload, 1) := by decide +kernel
theorem dX12_eventAt_203 : decode cX12_eventAt 203 = .ok (.aload_n 0, 1) := by decide +kernel
theorem dX12_eventAt_204 : decode cX12_eventAt 204 = .ok (.getfield 52, 3) := by decide +kernel
theorem dX12_eventAt_207 : decode cX12_eventAt 207 = .ok (.iload_n 1, 1) := by decide +kernel
theorem dX12_eventAt_208 : decode cX12_eventAt 208 = .ok (.iconst 1, 1) := by decide +kernel
theorem dX12_eventAt_209 : decode cX12_eventAt 209 = .ok (.isub, 1) := by decide +kernel
theorem dX12_eventAt_210 : decode cX12_eventAt 210 = .ok (.aaload, 1) := by decide +kernel
theorem dX12_eventAt_211 : decode cX12_eventAt 211 = .ok (.iconst 3, 1) := by decide +kernel
theorem dX12_eventAt_212 : decode cX12_eventAt 212 = .ok (.iaload, 1) := by decide +kernel
theorem dX12_eventAt_213 : decode cX12_eventAt 213 = .ok (.if_icmp .ge 10, 3) := by decide +kernel
theorem dX12_eventAt_216 : decode cX12_eventAt 216 = .ok (.aload_n 0, 1) := by decide +kernel
theorem dX12_eventAt_217 : decode cX12_eventAt 217 = .ok (.iconst 3, 1) := by decide +kernel
theorem dX12_eventAt_218 : decode cX12_eventAt 218 = .ok (.iload 4, 2) := by decide +kernel
theorem dX12_eventAt_220 : decode cX12_eventAt 220 = .ok (.invokevirtual 123, 3) := by decide +kernel
theorem dX12_eventAt_223 : decode cX12_eventAt 223 = .ok (.aload_n 0, 1) := by decide +kernel
theorem dX12_eventAt_224 : decode cX12_eventAt 224 = .ok (.bipush 59, 2) := by decide +kernel
theorem dX12_eventAt_226 : decode cX12_eventAt 226 = .ok (.invokevirtual 157, 3) := by decide +kernel
theorem dX12_eventAt_229 : decode cX12_eventAt 229 = .ok (.return_, 1) := by decide +kernel
theorem dX12_story_0 : decode cX12_story 0 = .ok (.aload_n 0, 1) := by decide +kernel
theorem dX12_story_1 : decode cX12_story 1 = .ok (.iconst 0, 1) := by decide +kernel
theorem dX12_story_2 : decode cX12_story 2 = .ok (.putfield 94, 3) := by decide +kernel
theorem dX12_story_5 : decode cX12_story 5 = .ok (.aload_n 0, 1) := by decide +kernel
theorem dX12_story_6 : decode cX12_story 6 = .ok (.iload_n 1, 1) := by decide +kernel
theorem dX12_story_7 : decode cX12_story 7 = .ok (.iconst 0, 1) := by decide +kernel
theorem dX12_story_8 : decode cX12_story 8 = .ok (.aload_n 0, 1) := by decide +kernel
theorem dX12_story_9 : decode cX12_story 9 = .ok (.getfield 97, 3) := by decide +kernel
theorem dX12_story_12 : decode cX12_story 12 = .ok (.sipush 300, 3) := by decide +kernel
theorem dX12_story_15 : decode cX12_story 15 = .ok (.invokestatic 192, 3) := by decide +kernel
theorem dX12_story_18 : decode cX12_story 18 = .ok (.invokestatic 128, 3) := by decide +kernel
theorem dX12_story_21 : decode cX12_story 21 = .ok (.ifCond .ne 7, 3) := by decide +kernel
theorem dX12_story_24 : decode cX12_story 24 = .ok (.iconst 1, 1) := by decide +kernel
theorem dX12_story_25 : decode cX12_story 25 = .ok (.goto 4, 3) := by decide +kernel
theorem dX12_story_28 : decode cX12_story 28 = .ok (.iconst 0, 1) := by decide +kernel
theorem dX12_story_29 : decode cX12_story 29 = .ok (.iconst 1, 1) := by decide +kernel
theorem dX12_story_30 : decode cX12_story 30 = .ok (.invokevirtual 170, 3) := by decide +kernel
theorem dX12_story_33 : decode cX12_story 33 = .ok (.ifCond .eq 5, 3) := by decide +kernel
theorem dX12_story_36 : decode cX12_story 36 = .ok (.iconst 0, 1) := by decide +kernel
theorem dX12_story_37 : decode cX12_story 37 = .ok (.ireturn, 1) := by decide +kernel
theorem dX12_story_38 : decode cX12_story 38 = .ok (.aload_n 0, 1) := by decide +kernel
theorem dX12_story_39 : decode cX12_story 39 = .ok (.iload_n 1, 1) := by decide +kernel
theorem dX12_story_40 : decode cX12_story 40 = .ok (.invokevirtual 174, 3) := by decide +kernel
theorem dX12_story_43 : decode cX12_story 43 = .ok (.aload_n 0, 1) := by decide +kernel
theorem dX12_story_44 : decode cX12_story 44 = .ok (.iconst (-1), 1) := by decide +kernel
theorem dX12_story_45 : decode cX12_story 45 = .ok (.putfield 9, 3) := by decide +kernel
theorem dX12_story_48 : decode cX12_story 48 = .ok (.aload_n 0, 1) := by decide +kernel
theorem dX12_story_49 : decode cX12_story 49 = .ok (.getfield 196, 3) := by decide +kernel
theorem dX12_story_52 : decode cX12_story 52 = .ok (.iconst 4, 1) := by decide +kernel
theorem dX12_story_53 : decode cX12_story 53 = .ok (.if_icmp .ne 5, 3) := by decide +kernel
theorem dX12_story_56 : decode cX12_story 56 = .ok (.iconst (-1), 1) := by decide +kernel
theorem dX12_story_57 : decode cX12_story 57 = .ok (.ireturn, 1) := by decide +kernel
theorem dX12_story_58 : decode cX12_story 58 = .ok (.iconst 0, 1) := by decide +kernel
theorem dX12_story_59 : decode cX12_story 59 = .ok (.istore_n 2, 1) := by decide +kernel
theorem dX12_story_60 : decode cX12_story 60 = .ok (.aload_n 0, 1) := by decide +kernel
theorem dX12_story_61 : decode cX12_story 61 = .ok (.getfield 110, 3) := by decide +kernel
theorem dX12_story_64 : decode cX12_story 64 = .ok (.ifCond .ne 29, 3) := by decide +kernel
theorem dX12_story_67 : decode cX12_story 67 = .ok (.aload_n 0, 1) := by decide +kernel
theorem dX12_story_68 : decode cX12_story 68 = .ok (.getfield 103, 3) := by decide +kernel
theorem dX12_story_71 : decode cX12_story 71 = .ok (.aload_n 0, 1) := by decide +kernel
theorem dX12_story_72 : decode cX12_story 72 = .ok (.getfield 100, 3) := by decide +kernel
theorem dX12_story_75 : decode cX12_story 75 = .ok (.if_icmp .ge 18, 3) := by decide +kernel
theorem dX12_story_78 : decode cX12_story 78 = .ok (.aload_n 0, 1) := by decide +kernel
theorem dX12_story_79 : decode cX12_story 79 = .ok (.iload_n 2, 1) := by decide +kernel
theorem dX12_story_80 : decode cX12_story 80 = .ok (.invokevirtual 199, 3) := by decide +kernel
theorem dX12_story_83 : decode cX12_story 83 = .ok (.iinc 2 1, 3) := by decide +kernel
theorem dX12_story_86 : decode cX12_story 86 = .ok (.aload_n 0, 1) := by decide +kernel
theorem dX12_story_87 : decode cX12_story 87 = .ok (.invokevirtual 116, 3) := by decide +kernel
theorem dX12_story_90 : decode cX12_story 90 = .ok (.goto (-30), 3) := by decide +kernel
theorem dX12_story_93 : decode cX12_story 93 = .ok (.aload_n 0, 1) := by decide +kernel
theorem dX12_story_94 : decode cX12_story 94 = .ok (.aload_n 0, 1) := by decide +kernel
theorem dX12_story_95 : decode cX12_story 95 = .ok (.getfield 113, 3) := by decide +kernel
theorem dX12_story_98 : decode cX12_story 98 = .ok (.putfield 9, 3) := by decide +kernel
theorem dX12_story_101 : decode cX12_story 101 = .ok (.aload_n 0, 1) := by decide +kernel
theorem dX12_story_102 : decode cX12_story 102 = .ok (.getfield 110, 3) := by decide +kernel
theorem dX12_story_105 : decode cX12_story 105 = .ok (.ifCond .eq 11, 3) := by decide +kernel
theorem dX12_story_108 : decode cX12_story 108 = .ok (.aload_n 0, 1) := by decide +kernel
theorem dX12_story_109 : decode cX12_story 109 = .ok (.getfield 110, 3) := by decide +kernel
theorem dX12_story_112 : decode cX12_story 112 = .ok (.bipush 10, 2) := by decide +kernel
theorem dX12_story_114 : decode cX12_story 114 = .ok (.isub, 1) := by decide +kernel
theorem dX12_story_115 : decode cX12_story 115 = .ok (.ireturn, 1) := by decide +kernel
theorem dX12_story_116 : decode cX12_story 116 = .ok (.iconst 0, 1) := by decide +kernel
theorem dX12_story_117 : decode cX12_story 117 = .ok (.istore_n 3, 1) := by decide +kernel
theorem dX12_story_118 : decode cX12_story 118 = .ok (.iload_n 3, 1) := by decide +kernel
theorem dX12_story_119 : decode cX12_story 119 = .ok (.iload_n 2, 1) := by decide +kernel
theorem dX12_story_120 : decode cX12_story 120 = .ok (.if_icmp .ge 50, 3) := by decide +kernel
theorem dX12_story_123 : decode cX12_story 123 = .ok (.iconst 0, 1) := by decide +kernel
theorem dX12_story_124 : decode cX12_story 124 = .ok (.istore 4, 2) := by decide +kernel
theorem dX12_story_126 : decode cX12_story 126 = .ok (.iload 4, 2) := by decide +kernel
theorem dX12_story_128 : decode cX12_story 128 = .ok (.iconst 4, 1) := by decide +kernel
theorem dX12_story_129 : decode cX12_story 129 = .ok (.if_icmp .ge 35, 3) := by decide +kernel
theorem dX12_story_132 : decode cX12_story 132 = .ok (.aload_n 0, 1) := by decide +kernel
theorem dX12_story_133 : decode cX12_story 133 = .ok (.getfield 49, 3) := by decide +kernel
theorem dX12_story_136 : decode cX12_story 136 = .ok (.bipush 20, 2) := by decide +kernel
theorem dX12_story_138 : decode cX12_story 138 = .ok (.aload_n 0, 1) := by decide +kernel
theorem dX12_story_139 : decode cX12_story 139 = .ok (.getfield 196, 3) := by decide +kernel
theorem dX12_story_142 : decode cX12_story 142 = .ok (.imul, 1) := by decide +kernel
theorem dX12_story_143 : decode cX12_story 143 = .ok (.iload_n 3, 1) := by decide +kernel
theorem dX12_story_144 : decode cX12_story 144 = .ok (.iadd, 1) := by decide +kernel
theorem dX12_story_145 : decode cX12_story 145 = .ok (.aaload, 1) := by decide +kernel
theorem dX12_story_146 : decode cX12_story 146 = .ok (.iload 4, 2) := by decide +kernel
theorem dX12_story_148 : decode cX12_story 148 = .ok (.aload_n 0, 1) := by decide +kernel
theorem dX12_story_149 : decode cX12_story 149 = .ok (.getfield 52, 3) := by decide +kernel
theorem dX12_story_152 : decode cX12_story 152 = .ok (.iload_n 3, 1) := by decide +kernel
theorem dX12_story_153 : decode cX12_story 153 = .ok (.aaload, 1) := by decide +kernel
theorem dX12_story_154 : decode cX12_story 154 = .ok (.iload 4, 2) := by decide +kernel
theorem dX12_story_156 : decode cX12_story 156 = .ok (.iaload, 1) := by decide +kernel
theorem dX12_story_157 : decode cX12_story 157 = .ok (.iastore, 1) := by decide +kernel
theorem dX12_story_158 : decode cX12_story 158 = .ok (.iinc 4 1, 3) := by decide +kernel
theorem dX12_story_161 : decode cX12_story 161 = .ok (.goto (-35), 3) := by decide +kernel
theorem dX12_story_164 : decode cX12_story 164 = .ok (.iinc 3 1, 3) := by decide +kernel
theorem dX12_story_167 : decode cX12_story 167 = .ok (.goto (-49), 3) := by decide +kernel
theorem dX12_story_170 : decode cX12_story 170 = .ok (.aload_n 0, 1) := by decide +kernel
theorem dX12_story_171 : decode cX12_story 171 = .ok (.getfield 46, 3) := by decide +kernel
theorem dX12_story_174 : decode cX12_story 174 = .ok (.aload_n 0, 1) := by decide +kernel
theorem dX12_story_175 : decode cX12_story 175 = .ok (.getfield 196, 3) := by decide +kernel
theorem dX12_story_178 : decode cX12_story 178 = .ok (.iload_n 2, 1) := by decide +kernel
theorem dX12_story_179 : decode cX12_story 179 = .ok (.iastore, 1) := by decide +kernel
theorem dX12_story_180 : decode cX12_story 180 = .ok (.aload_n 0, 1) := by decide +kernel
theorem dX12_story_181 : decode cX12_story 181 = .ok (.dup, 1) := by decide +kernel
theorem dX12_story_182 : decode cX12_story 182 = .ok (.getfield 196, 3) := by decide +kernel
theorem dX12_story_185 : decode cX12_story 185 = .ok (.iconst 1, 1) := by decide +kernel
theorem dX12_story_186 : decode cX12_story 186 = .ok (.iadd, 1) := by decide +kernel
theorem dX12_story_187 : decode cX12_story 187 = .ok (.putfield 196, 3) := by decide +kernel
theorem dX12_story_190 : decode cX12_story 190 = .ok (.aload_n 0, 1) := by decide +kernel
theorem dX12_story_191 : decode cX12_story 191 = .ok (.getfield 196, 3) := by decide +kernel
theorem dX12_story_194 : decode cX12_story 194 = .ok (.iconst 1, 1) := by decide +kernel
theorem dX12_story_195 : decode cX12_story 195 = .ok (.isub, 1) := by decide +kernel
theorem dX12_story_196 : decode cX12_story 196 = .ok (.ireturn, 1) := by decide +kernel
theorem dX12_fault_0 : decode cX12_fault 0 = .ok (.aload_n 0, 1) := by decide +kernel
theorem dX12_fault_1 : decode cX12_fault 1 = .ok (.iconst 0, 1) := by decide +kernel
theorem dX12_fault_2 : decode cX12_fault 2 = .ok (.putfield 94, 3) := by decide +kernel
theorem dX12_fault_5 : decode cX12_fault 5 = .ok (.aload_n 0, 1) := by decide +kernel
theorem dX12_fault_6 : decode cX12_fault 6 = .ok (.getfield 9, 3) := by decide +kernel
theorem dX12_fault_9 : decode cX12_fault 9 = .ok (.ireturn, 1) := by decide +kernel
theorem dX12_sheds_0 : decode cX12_sheds 0 = .ok (.aload_n 0, 1) := by decide +kernel
theorem dX12_sheds_1 : decode cX12_sheds 1 = .ok (.iconst 0, 1) := by decide +kernel
theorem dX12_sheds_2 : decode cX12_sheds 2 = .ok (.putfield 94, 3) := by decide +kernel
theorem dX12_sheds_5 : decode cX12_sheds 5 = .ok (.aload_n 0, 1) := by decide +kernel
theorem dX12_sheds_6 : decode cX12_sheds 6 = .ok (.iload_n 1, 1) := by decide +kernel
theorem dX12_sheds_7 : decode cX12_sheds 7 = .ok (.iconst 0, 1) := by decide +kernel
theorem dX12_sheds_8 : decode cX12_sheds 8 = .ok (.bipush 7, 2) := by decide +kernel
theorem dX12_sheds_10 : decode cX12_sheds 10 = .ok (.invokestatic 128, 3) := by decide +kernel
theorem dX12_sheds_13 : decode cX12_sheds 13 = .ok (.ifCond .eq 13, 3) := by decide +kernel
theorem dX12_sheds_16 : decode cX12_sheds 16 = .ok (.iload_n 2, 1) := by decide +kernel
theorem dX12_sheds_17 : decode cX12_sheds 17 = .ok (.iconst 0, 1) := by decide +kernel
theorem dX12_sheds_18 : decode cX12_sheds 18 = .ok (.bipush 9, 2) := by decide +kernel
theorem dX12_sheds_20 : decode cX12_sheds 20 = .ok (.invokestatic 128, 3) := by decide +kernel
theorem dX12_sheds_23 : decode cX12_sheds 23 = .ok (.ifCond .ne 7, 3) := by decide +kernel
theorem dX12_sheds_26 : decode cX12_sheds 26 = .ok (.iconst 1, 1) := by decide +kernel
theorem dX12_sheds_27 : decode cX12_sheds 27 = .ok (.goto 4, 3) := by decide +kernel
theorem dX12_sheds_30 : decode cX12_sheds 30 = .ok (.iconst 0, 1) := by decide +kernel
theorem dX12_sheds_31 : decode cX12_sheds 31 = .ok (.iconst 1, 1) := by decide +kernel
theorem dX12_sheds_32 : decode cX12_sheds 32 = .ok (.invokevirtual 170, 3) := by decide +kernel
theorem dX12_sheds_35 : decode cX12_sheds 35 = .ok (.ifCond .eq 5, 3) := by decide +kernel
theorem dX12_sheds_38 : decode cX12_sheds 38 = .ok (.iconst 0, 1) := by decide +kernel
theorem dX12_sheds_39 : decode cX12_sheds 39 = .ok (.ireturn, 1) := by decide +kernel
theorem dX12_sheds_40 : decode cX12_sheds 40 = .ok (.aload_n 0, 1) := by decide +kernel
theorem dX12_sheds_41 : decode cX12_sheds 41 = .ok (.getfield 22, 3) := by decide +kernel
theorem dX12_sheds_44 : decode cX12_sheds 44 = .ok (.iload_n 1, 1) := by decide +kernel
theorem dX12_sheds_45 : decode cX12_sheds 45 = .ok (.aaload, 1) := by decide +kernel
theorem dX12_sheds_46 : decode cX12_sheds 46 = .ok (.iload_n 2, 1) := by decide +kernel
theorem dX12_sheds_47 : decode cX12_sheds 47 = .ok (.iaload, 1) := by decide +kernel
theorem dX12_sheds_48 : decode cX12_sheds 48 = .ok (.ireturn, 1) := by decide +kernel
theorem dX12_told_0 : decode cX12_told 0 = .ok (.aload_n 0, 1) := by decide +kernel
theorem dX12_told_1 : decode cX12_told 1 = .ok (.iconst 0, 1) := by decide +kernel
theorem dX12_told_2 : decode cX12_told 2 = .ok (.putfield 94, 3) := by decide +kernel
theorem dX12_told_5 : decode cX12_told 5 = .ok (.aload_n 0, 1) := by decide +kernel
theorem dX12_told_6 : decode cX12_told 6 = .ok (.iload_n 1, 1) := by decide +kernel
theorem dX12_told_7 : decode cX12_told 7 = .ok (.iconst 0, 1) := by decide +kernel
theorem dX12_told_8 : decode cX12_told 8 = .ok (.bipush 9, 2) := by decide +kernel
theorem dX12_told_10 : decode cX12_told 10 = .ok (.invokestatic 128, 3) := by decide +kernel
theorem dX12_told_13 : decode cX12_told 13 = .ok (.ifCond .eq 12, 3) := by decide +kernel
theorem dX12_told_16 : decode cX12_told 16 = .ok (.iload_n 2, 1) := by decide +kernel
theorem dX12_told_17 : decode cX12_told 17 = .ok (.iconst 0, 1) := by decide +kernel
theorem dX12_told_18 : decode cX12_told 18 = .ok (.iconst 4, 1) := by decide +kernel
theorem dX12_told_19 : decode cX12_told 19 = .ok (.invokestatic 128, 3) := by decide +kernel
theorem dX12_told_22 : decode cX12_told 22 = .ok (.ifCond .ne 7, 3) := by decide +kernel
theorem dX12_told_25 : decode cX12_told 25 = .ok (.iconst 1, 1) := by decide +kernel
theorem dX12_told_26 : decode cX12_told 26 = .ok (.goto 4, 3) := by decide +kernel
theorem dX12_told_29 : decode cX12_told 29 = .ok (.iconst 0, 1) := by decide +kernel
theorem dX12_told_30 : decode cX12_told 30 = .ok (.iconst 1, 1) := by decide +kernel
theorem dX12_told_31 : decode cX12_told 31 = .ok (.invokevirtual 170, 3) := by decide +kernel
theorem dX12_told_34 : decode cX12_told 34 = .ok (.ifCond .eq 5, 3) := by decide +kernel
theorem dX12_told_37 : decode cX12_told 37 = .ok (.iconst 0, 1) := by decide +kernel
theorem dX12_told_38 : decode cX12_told 38 = .ok (.ireturn, 1) := by decide +kernel
theorem dX12_told_39 : decode cX12_told 39 = .ok (.iload_n 2, 1) := by decide +kernel
theorem dX12_told_40 : decode cX12_told 40 = .ok (.ifCond .ne 12, 3) := by decide +kernel
theorem dX12_told_43 : decode cX12_told 43 = .ok (.aload_n 0, 1) := by decide +kernel
theorem dX12_told_44 : decode cX12_told 44 = .ok (.getfield 25, 3) := by decide +kernel
theorem dX12_told_47 : decode cX12_told 47 = .ok (.iload_n 1, 1) := by decide +kernel
theorem dX12_told_48 : decode cX12_told 48 = .ok (.iaload, 1) := by decide +kernel
theorem dX12_told_49 : decode cX12_told 49 = .ok (.goto 45, 3) := by decide +kernel
theorem dX12_told_52 : decode cX12_told 52 = .ok (.iload_n 2, 1) := by decide +kernel
theorem dX12_told_53 : decode cX12_told 53 = .ok (.iconst 1, 1) := by decide +kernel
theorem dX12_told_54 : decode cX12_told 54 = .ok (.if_icmp .ne 12, 3) := by decide +kernel
theorem dX12_told_57 : decode cX12_told 57 = .ok (.aload_n 0, 1) := by decide +kernel
theorem dX12_told_58 : decode cX12_told 58 = .ok (.getfield 28, 3) := by decide +kernel
theorem dX12_told_61 : decode cX12_told 61 = .ok (.iload_n 1, 1) := by decide +kernel
theorem dX12_told_62 : decode cX12_told 62 = .ok (.iaload, 1) := by decide +kernel
theorem dX12_told_63 : decode cX12_told 63 = .ok (.goto 31, 3) := by decide +kernel
theorem dX12_told_66 : decode cX12_told 66 = .ok (.iload_n 2, 1) := by decide +kernel
theorem dX12_told_67 : decode cX12_told 67 = .ok (.iconst 2, 1) := by decide +kernel
theorem dX12_told_68 : decode cX12_told 68 = .ok (.if_icmp .ne 10, 3) := by decide +kernel
theorem dX12_told_71 : decode cX12_told 71 = .ok (.aload_n 0, 1) := by decide +kernel
theorem dX12_told_72 : decode cX12_told 72 = .ok (.getfield 183, 3) := by decide +kernel
theorem dX12_told_75 : decode cX12_told 75 = .ok (.goto 19, 3) := by decide +kernel
theorem dX12_told_78 : decode cX12_told 78 = .ok (.iload_n 2, 1) := by decide +kernel
theorem dX12_told_79 : decode cX12_told 79 = .ok (.iconst 3, 1) := by decide +kernel
theorem dX12_told_80 : decode cX12_told 80 = .ok (.if_icmp .ne 10, 3) := by decide +kernel
theorem dX12_told_83 : decode cX12_told 83 = .ok (.aload_n 0, 1) := by decide +kernel
theorem dX12_told_84 : decode cX12_told 84 = .ok (.getfield 186, 3) := by decide +kernel
theorem dX12_told_87 : decode cX12_told 87 = .ok (.goto 7, 3) := by decide +kernel
theorem dX12_told_90 : decode cX12_told 90 = .ok (.aload_n 0, 1) := by decide +kernel
theorem dX12_told_91 : decode cX12_told 91 = .ok (.getfield 17, 3) := by decide +kernel
theorem dX12_told_94 : decode cX12_told 94 = .ok (.ireturn, 1) := by decide +kernel
theorem dX12_alikeOf_0 : decode cX12_alikeOf 0 = .ok (.iconst 1, 1) := by decide +kernel
theorem dX12_alikeOf_1 : decode cX12_alikeOf 1 = .ok (.iload_n 1, 1) := by decide +kernel
theorem dX12_alikeOf_2 : decode cX12_alikeOf 2 = .ok (.ishl, 1) := by decide +kernel
theorem dX12_alikeOf_3 : decode cX12_alikeOf 3 = .ok (.istore_n 2, 1) := by decide +kernel
theorem dX12_alikeOf_4 : decode cX12_alikeOf 4 = .ok (.iconst 0, 1) := by decide +kernel
theorem dX12_alikeOf_5 : decode cX12_alikeOf 5 = .ok (.istore_n 3, 1) := by decide +kernel
theorem dX12_alikeOf_6 : decode cX12_alikeOf 6 = .ok (.iload_n 2, 1) := by decide +kernel
theorem dX12_alikeOf_7 : decode cX12_alikeOf 7 = .ok (.iload_n 3, 1) := by decide +kernel
theorem dX12_alikeOf_8 : decode cX12_alikeOf 8 = .ok (.if_icmp .eq 44, 3) := by decide +kernel
theorem dX12_alikeOf_11 : decode cX12_alikeOf 11 = .ok (.iload_n 2, 1) := by decide +kernel
theorem dX12_alikeOf_12 : decode cX12_alikeOf 12 = .ok (.istore_n 3, 1) := by decide +kernel
theorem dX12_alikeOf_13 : decode cX12_alikeOf 13 = .ok (.iconst 0, 1) := by decide +kernel
theorem dX12_alikeOf_14 : decode cX12_alikeOf 14 = .ok (.istore 4, 2) := by decide +kernel
theorem dX12_alikeOf_16 : decode cX12_alikeOf 16 = .ok (.iload 4, 2) := by decide +kernel
theorem dX12_alikeOf_18 : decode cX12_alikeOf 18 = .ok (.bipush 10, 2) := by decide +kernel
theorem dX12_alikeOf_20 : decode cX12_alikeOf 20 = .ok (.if_icmp .ge 29, 3) := by decide +kernel
theorem dX12_alikeOf_23 : decode cX12_alikeOf 23 = .ok (.iload_n 3, 1) := by decide +kernel
theorem dX12_alikeOf_24 : decode cX12_alikeOf 24 = .ok (.iload 4, 2) := by decide +kernel
theorem dX12_alikeOf_26 : decode cX12_alikeOf 26 = .ok (.ishr, 1) := by decide +kernel
theorem dX12_alikeOf_27 : decode cX12_alikeOf 27 = .ok (.iconst 1, 1) := by decide +kernel
theorem dX12_alikeOf_28 : decode cX12_alikeOf 28 = .ok (.iand, 1) := by decide +kernel
theorem dX12_alikeOf_29 : decode cX12_alikeOf 29 = .ok (.iconst 1, 1) := by decide +kernel
theorem dX12_alikeOf_30 : decode cX12_alikeOf 30 = .ok (.if_icmp .ne 13, 3) := by decide +kernel
theorem dX12_alikeOf_33 : decode cX12_alikeOf 33 = .ok (.iload_n 2, 1) := by decide +kernel
theorem dX12_alikeOf_34 : decode cX12_alikeOf 34 = .ok (.aload_n 0, 1) := by decide +kernel
theorem dX12_alikeOf_35 : decode cX12_alikeOf 35 = .ok (.getfield 31, 3) := by decide +kernel
theorem dX12_alikeOf_38 : decode cX12_alikeOf 38 = .ok (.iload 4, 2) := by decide +kernel
theorem dX12_alikeOf_40 : decode cX12_alikeOf 40 = .ok (.iaload, 1) := by decide +kernel
theorem dX12_alikeOf_41 : decode cX12_alikeOf 41 = .ok (.ior, 1) := by decide +kernel
theorem dX12_alikeOf_42 : decode cX12_alikeOf 42 = .ok (.istore_n 2, 1) := by decide +kernel
theorem dX12_alikeOf_43 : decode cX12_alikeOf 43 = .ok (.iinc 4 1, 3) := by decide +kernel
theorem dX12_alikeOf_46 : decode cX12_alikeOf 46 = .ok (.goto (-30), 3) := by decide +kernel
theorem dX12_alikeOf_49 : decode cX12_alikeOf 49 = .ok (.goto (-43), 3) := by decide +kernel
theorem dX12_alikeOf_52 : decode cX12_alikeOf 52 = .ok (.iload_n 2, 1) := by decide +kernel
theorem dX12_alikeOf_53 : decode cX12_alikeOf 53 = .ok (.ireturn, 1) := by decide +kernel
theorem dX12_alike_0 : decode cX12_alike 0 = .ok (.aload_n 0, 1) := by decide +kernel
theorem dX12_alike_1 : decode cX12_alike 1 = .ok (.iconst 0, 1) := by decide +kernel
theorem dX12_alike_2 : decode cX12_alike 2 = .ok (.putfield 94, 3) := by decide +kernel
theorem dX12_alike_5 : decode cX12_alike 5 = .ok (.aload_n 0, 1) := by decide +kernel
theorem dX12_alike_6 : decode cX12_alike 6 = .ok (.iload_n 1, 1) := by decide +kernel
theorem dX12_alike_7 : decode cX12_alike 7 = .ok (.iconst 0, 1) := by decide +kernel
theorem dX12_alike_8 : decode cX12_alike 8 = .ok (.bipush 9, 2) := by decide +kernel
theorem dX12_alike_10 : decode cX12_alike 10 = .ok (.invokestatic 128, 3) := by decide +kernel
theorem dX12_alike_13 : decode cX12_alike 13 = .ok (.ifCond .ne 7, 3) := by decide +kernel
theorem dX12_alike_16 : decode cX12_alike 16 = .ok (.iconst 1, 1) := by decide +kernel
theorem dX12_alike_17 : decode cX12_alike 17 = .ok (.goto 4, 3) := by decide +kernel
theorem dX12_alike_20 : decode cX12_alike 20 = .ok (.iconst 0, 1) := by decide +kernel
theorem dX12_alike_21 : decode cX12_alike 21 = .ok (.iconst 1, 1) := by decide +kernel
theorem dX12_alike_22 : decode cX12_alike 22 = .ok (.invokevirtual 170, 3) := by decide +kernel
theorem dX12_alike_25 : decode cX12_alike 25 = .ok (.ifCond .eq 5, 3) := by decide +kernel
theorem dX12_alike_28 : decode cX12_alike 28 = .ok (.iconst 0, 1) := by decide +kernel
theorem dX12_alike_29 : decode cX12_alike 29 = .ok (.ireturn, 1) := by decide +kernel
theorem dX12_alike_30 : decode cX12_alike 30 = .ok (.aload_n 0, 1) := by decide +kernel
theorem dX12_alike_31 : decode cX12_alike 31 = .ok (.iload_n 1, 1) := by decide +kernel
theorem dX12_alike_32 : decode cX12_alike 32 = .ok (.invokevirtual 202, 3) := by decide +kernel
theorem dX12_alike_35 : decode cX12_alike 35 = .ok (.ireturn, 1) := by decide +kernel
theorem dX12_touches_0 : decode cX12_touches 0 = .ok (.iconst 0, 1) := by decide +kernel
theorem dX12_touches_1 : decode cX12_touches 1 = .ok (.istore_n 3, 1) := by decide +kernel
theorem dX12_touches_2 : decode cX12_touches 2 = .ok (.iload_n 3, 1) := by decide +kernel
theorem dX12_touches_3 : decode cX12_touches 3 = .ok (.bipush 10, 2) := by decide +kernel
theorem dX12_touches_5 : decode cX12_touches 5 = .ok (.if_icmp .ge 161, 3) := by decide +kernel
theorem dX12_touches_8 : decode cX12_touches 8 = .ok (.aload_n 0, 1) := by decide +kernel
theorem dX12_touches_9 : decode cX12_touches 9 = .ok (.getfield 76, 3) := by decide +kernel
theorem dX12_touches_12 : decode cX12_touches 12 = .ok (.iload_n 1, 1) := by decide +kernel
theorem dX12_touches_13 : decode cX12_touches 13 = .ok (.aaload, 1) := by decide +kernel
theorem dX12_touches_14 : decode cX12_touches 14 = .ok (.iload_n 3, 1) := by decide +kernel
theorem dX12_touches_15 : decode cX12_touches 15 = .ok (.iaload, 1) := by decide +kernel
theorem dX12_touches_16 : decode cX12_touches 16 = .ok (.istore 4, 2) := by decide +kernel
theorem dX12_touches_18 : decode cX12_touches 18 = .ok (.aload_n 0, 1) := by decide +kernel
theorem dX12_touches_19 : decode cX12_touches 19 = .ok (.getfield 76, 3) := by decide +kernel
theorem dX12_touches_22 : decode cX12_touches 22 = .ok (.iload_n 2, 1) := by decide +kernel
theorem dX12_touches_23 : decode cX12_touches 23 = .ok (.aaload, 1) := by decide +kernel
theorem dX12_touches_24 : decode cX12_touches 24 = .ok (.iload_n 3, 1) := by decide +kernel
theorem dX12_touches_25 : decode cX12_touches 25 = .ok (.iaload, 1) := by decide +kernel
theorem dX12_touches_26 : decode cX12_touches 26 = .ok (.istore 5, 2) := by decide +kernel
theorem dX12_touches_28 : decode cX12_touches 28 = .ok (.iload 4, 2) := by decide +kernel
theorem dX12_touches_30 : decode cX12_touches 30 = .ok (.aload_n 0, 1) := by decide +kernel
theorem dX12_touches_31 : decode cX12_touches 31 = .ok (.getfield 186, 3) := by decide +kernel
theorem dX12_touches_34 : decode cX12_touches 34 = .ok (.imul, 1) := by decide +kernel
theorem dX12_touches_35 : decode cX12_touches 35 = .ok (.bipush 16, 2) := by decide +kernel
theorem dX12_touches_37 : decode cX12_touches 37 = .ok (.idiv, 1) := by decide +kernel
theorem dX12_touches_38 : decode cX12_touches 38 = .ok (.istore 6, 2) := by decide +kernel
theorem dX12_touches_40 : decode cX12_touches 40 = .ok (.iload 5, 2) := by decide +kernel
theorem dX12_touches_42 : decode cX12_touches 42 = .ok (.aload_n 0, 1) := by decide +kernel
theorem dX12_touches_43 : decode cX12_touches 43 = .ok (.getfield 186, 3) := by decide +kernel
theorem dX12_touches_46 : decode cX12_touches 46 = .ok (.imul, 1) := by decide +kernel
theorem dX12_touches_47 : decode cX12_touches 47 = .ok (.bipush 16, 2) := by decide +kernel
theorem dX12_touches_49 : decode cX12_touches 49 = .ok (.idiv, 1) := by decide +kernel
theorem dX12_touches_50 : decode cX12_touches 50 = .ok (.istore 7, 2) := by decide +kernel
theorem dX12_touches_52 : decode cX12_touches 52 = .ok (.aload_n 0, 1) := by decide +kernel
theorem dX12_touches_53 : decode cX12_touches 53 = .ok (.getfield 79, 3) := by decide +kernel
theorem dX12_touches_56 : decode cX12_touches 56 = .ok (.iload_n 2, 1) := by decide +kernel
theorem dX12_touches_57 : decode cX12_touches 57 = .ok (.iaload, 1) := by decide +kernel
theorem dX12_touches_58 : decode cX12_touches 58 = .ok (.iconst (-1), 1) := by decide +kernel
theorem dX12_touches_59 : decode cX12_touches 59 = .ok (.if_icmp .ne 7, 3) := by decide +kernel
theorem dX12_touches_62 : decode cX12_touches 62 = .ok (.iconst 0, 1) := by decide +kernel
theorem dX12_touches_63 : decode cX12_touches 63 = .ok (.goto 16, 3) := by decide +kernel
theorem dX12_touches_66 : decode cX12_touches 66 = .ok (.aload_n 0, 1) := by decide +kernel
theorem dX12_touches_67 : decode cX12_touches 67 = .ok (.getfield 22, 3) := by decide +kernel
theorem dX12_touches_70 : decode cX12_touches 70 = .ok (.aload_n 0, 1) := by decide +kernel
theorem dX12_touches_71 : decode cX12_touches 71 = .ok (.getfield 79, 3) := by decide +kernel
theorem dX12_touches_74 : decode cX12_touches 74 = .ok (.iload_n 2, 1) := by decide +kernel
theorem dX12_touches_75 : decode cX12_touches 75 = .ok (.iaload, 1) := by decide +kernel
theorem dX12_touches_76 : decode cX12_touches 76 = .ok (.aaload, 1) := by decide +kernel
theorem dX12_touches_77 : decode cX12_touches 77 = .ok (.iload_n 3, 1) := by decide +kernel
theorem dX12_touches_78 : decode cX12_touches 78 = .ok (.iaload, 1) := by decide +kernel
theorem dX12_touches_79 : decode cX12_touches 79 = .ok (.istore 8, 2) := by decide +kernel
theorem dX12_touches_81 : decode cX12_touches 81 = .ok (.aload_n 0, 1) := by decide +kernel
theorem dX12_touches_82 : decode cX12_touches 82 = .ok (.getfield 79, 3) := by decide +kernel
theorem dX12_touches_85 : decode cX12_touches 85 = .ok (.iload_n 1, 1) := by decide +kernel
theorem dX12_touches_86 : decode cX12_touches 86 = .ok (.iaload, 1) := by decide +kernel
theorem dX12_touches_87 : decode cX12_touches 87 = .ok (.iconst (-1), 1) := by decide +kernel
theorem dX12_touches_88 : decode cX12_touches 88 = .ok (.if_icmp .ne 7, 3) := by decide +kernel
theorem dX12_touches_91 : decode cX12_touches 91 = .ok (.iconst 0, 1) := by decide +kernel
theorem dX12_touches_92 : decode cX12_touches 92 = .ok (.goto 16, 3) := by decide +kernel
theorem dX12_touches_95 : decode cX12_touches 95 = .ok (.aload_n 0, 1) := by decide +kernel
theorem dX12_touches_96 : decode cX12_touches 96 = .ok (.getfield 22, 3) := by decide +kernel
theorem dX12_touches_99 : decode cX12_touches 99 = .ok (.aload_n 0, 1) := by decide +kernel
theorem dX12_touches_100 : decode cX12_touches 100 = .ok (.getfield 79, 3) := by decide +kernel
theorem dX12_touches_103 : decode cX12_touches 103 = .ok (.iload_n 1, 1) := by decide +kernel
theorem dX12_touches_104 : decode cX12_touches 104 = .ok (.iaload, 1) := by decide +kernel
theorem dX12_touches_105 : decode cX12_touches 105 = .ok (.aaload, 1) := by decide +kernel
theorem dX12_touches_106 : decode cX12_touches 106 = .ok (.iload_n 3, 1) := by decide +kernel
theorem dX12_touches_107 : decode cX12_touches 107 = .ok (.iaload, 1) := by decide +kernel
theorem dX12_touches_108 : decode cX12_touches 108 = .ok (.istore 9, 2) := by decide +kernel
theorem dX12_touches_110 : decode cX12_touches 110 = .ok (.aload_n 0, 1) := by decide +kernel
theorem dX12_touches_111 : decode cX12_touches 111 = .ok (.getfield 76, 3) := by decide +kernel
theorem dX12_touches_114 : decode cX12_touches 114 = .ok (.iload_n 1, 1) := by decide +kernel
theorem dX12_touches_115 : decode cX12_touches 115 = .ok (.aaload, 1) := by decide +kernel
theorem dX12_touches_116 : decode cX12_touches 116 = .ok (.iload_n 3, 1) := by decide +kernel
theorem dX12_touches_117 : decode cX12_touches 117 = .ok (.sipush 9999, 3) := by decide +kernel
theorem dX12_touches_120 : decode cX12_touches 120 = .ok (.iload 4, 2) := by decide +kernel
theorem dX12_touches_122 : decode cX12_touches 122 = .ok (.iload 6, 2) := by decide +kernel
theorem dX12_touches_124 : decode cX12_touches 124 = .ok (.isub, 1) := by decide +kernel
theorem dX12_touches_125 : decode cX12_touches 125 = .ok (.iload 7, 2) := by decide +kernel
theorem dX12_touches_127 : decode cX12_touches 127 = .ok (.iadd, 1) := by decide +kernel
theorem dX12_touches_128 : decode cX12_touches 128 = .ok (.iload 8, 2) := by decide +kernel
theorem dX12_touches_130 : decode cX12_touches 130 = .ok (.iadd, 1) := by decide +kernel
theorem dX12_touches_131 : decode cX12_touches 131 = .ok (.invokestatic 192, 3) := by decide +kernel
theorem dX12_touches_134 : decode cX12_touches 134 = .ok (.iastore, 1) := by decide +kernel
theorem dX12_touches_135 : decode cX12_touches 135 = .ok (.aload_n 0, 1) := by decide +kernel
theorem dX12_touches_136 : decode cX12_touches 136 = .ok (.getfield 76, 3) := by decide +kernel
theorem dX12_touches_139 : decode cX12_touches 139 = .ok (.iload_n 2, 1) := by decide +kernel
theorem dX12_touches_140 : decode cX12_touches 140 = .ok (.aaload, 1) := by decide +kernel
theorem dX12_touches_141 : decode cX12_touches 141 = .ok (.iload_n 3, 1) := by decide +kernel
theorem dX12_touches_142 : decode cX12_touches 142 = .ok (.sipush 9999, 3) := by decide +kernel
theorem dX12_touches_145 : decode cX12_touches 145 = .ok (.iload 5, 2) := by decide +kernel
theorem dX12_touches_147 : decode cX12_touches 147 = .ok (.iload 7, 2) := by decide +kernel
theorem dX12_touches_149 : decode cX12_touches 149 = .ok (.isub, 1) := by decide +kernel
theorem dX12_touches_150 : decode cX12_touches 150 = .ok (.iload 6, 2) := by decide +kernel
theorem dX12_touches_152 : decode cX12_touches 152 = .ok (.iadd, 1) := by decide +kernel
theorem dX12_touches_153 : decode cX12_touches 153 = .ok (.iload 9, 2) := by decide +kernel
theorem dX12_touches_155 : decode cX12_touches 155 = .ok (.iadd, 1) := by decide +kernel
theorem dX12_touches_156 : decode cX12_touches 156 = .ok (.invokestatic 192, 3) := by decide +kernel
theorem dX12_touches_159 : decode cX12_touches 159 = .ok (.iastore, 1) := by decide +kernel
theorem dX12_touches_160 : decode cX12_touches 160 = .ok (.iinc 3 1, 3) := by decide +kernel
theorem dX12_touches_163 : decode cX12_touches 163 = .ok (.goto (-161), 3) := by decide +kernel
theorem dX12_touches_166 : decode cX12_touches 166 = .ok (.return_, 1) := by decide +kernel
theorem dX12_areTwo_0 : decode cX12_areTwo 0 = .ok (.iload_n 0, 1) := by decide +kernel
theorem dX12_areTwo_1 : decode cX12_areTwo 1 = .ok (.iload_n 2, 1) := by decide +kernel
theorem dX12_areTwo_2 : decode cX12_areTwo 2 = .ok (.if_icmp .ne 8, 3) := by decide +kernel
theorem dX12_areTwo_5 : decode cX12_areTwo 5 = .ok (.iload_n 1, 1) := by decide +kernel
theorem dX12_areTwo_6 : decode cX12_areTwo 6 = .ok (.iload_n 3, 1) := by decide +kernel
theorem dX12_areTwo_7 : decode cX12_areTwo 7 = .ok (.if_icmp .eq 13, 3) := by decide +kernel
theorem dX12_areTwo_10 : decode cX12_areTwo 10 = .ok (.iload_n 0, 1) := by decide +kernel
theorem dX12_areTwo_11 : decode cX12_areTwo 11 = .ok (.iload_n 3, 1) := by decide +kernel
theorem dX12_areTwo_12 : decode cX12_areTwo 12 = .ok (.if_icmp .ne 12, 3) := by decide +kernel
theorem dX12_areTwo_15 : decode cX12_areTwo 15 = .ok (.iload_n 1, 1) := by decide +kernel
theorem dX12_areTwo_16 : decode cX12_areTwo 16 = .ok (.iload_n 2, 1) := by decide +kernel
theorem dX12_areTwo_17 : decode cX12_areTwo 17 = .ok (.if_icmp .ne 7, 3) := by decide +kernel
theorem dX12_areTwo_20 : decode cX12_areTwo 20 = .ok (.iconst 1, 1) := by decide +kernel
theorem dX12_areTwo_21 : decode cX12_areTwo 21 = .ok (.goto 4, 3) := by decide +kernel
theorem dX12_areTwo_24 : decode cX12_areTwo 24 = .ok (.iconst 0, 1) := by decide +kernel
theorem dX12_areTwo_25 : decode cX12_areTwo 25 = .ok (.ireturn, 1) := by decide +kernel
theorem dX12_comes_0 : decode cX12_comes 0 = .ok (.iload_n 1, 1) := by decide +kernel
theorem dX12_comes_1 : decode cX12_comes 1 = .ok (.aload_n 0, 1) := by decide +kernel
theorem dX12_comes_2 : decode cX12_comes 2 = .ok (.getfield 82, 3) := by decide +kernel
theorem dX12_comes_5 : decode cX12_comes 5 = .ok (.if_icmp .ne 5, 3) := by decide +kernel
theorem dX12_comes_8 : decode cX12_comes 8 = .ok (.iconst 0, 1) := by decide +kernel
theorem dX12_comes_9 : decode cX12_comes 9 = .ok (.ireturn, 1) := by decide +kernel
theorem dX12_comes_10 : decode cX12_comes 10 = .ok (.aload_n 0, 1) := by decide +kernel
theorem dX12_comes_11 : decode cX12_comes 11 = .ok (.getfield 88, 3) := by decide +kernel
theorem dX12_comes_14 : decode cX12_comes 14 = .ok (.iconst (-1), 1) := by decide +kernel
theorem dX12_comes_15 : decode cX12_comes 15 = .ok (.if_icmp .eq 50, 3) := by decide +kernel
theorem dX12_comes_18 : decode cX12_comes 18 = .ok (.aload_n 2, 1) := by decide +kernel
theorem dX12_comes_19 : decode cX12_comes 19 = .ok (.iconst 0, 1) := by decide +kernel
theorem dX12_comes_20 : decode cX12_comes 20 = .ok (.iaload, 1) := by decide +kernel
theorem dX12_comes_21 : decode cX12_comes 21 = .ok (.iconst 2, 1) := by decide +kernel
theorem dX12_comes_22 : decode cX12_comes 22 = .ok (.if_icmp .ne 43, 3) := by decide +kernel
theorem dX12_comes_25 : decode cX12_comes 25 = .ok (.aload_n 2, 1) := by decide +kernel
theorem dX12_comes_26 : decode cX12_comes 26 = .ok (.iconst 1, 1) := by decide +kernel
theorem dX12_comes_27 : decode cX12_comes 27 = .ok (.iaload, 1) := by decide +kernel
theorem dX12_comes_28 : decode cX12_comes 28 = .ok (.aload_n 2, 1) := by decide +kernel
theorem dX12_comes_29 : decode cX12_comes 29 = .ok (.iconst 2, 1) := by decide +kernel
theorem dX12_comes_30 : decode cX12_comes 30 = .ok (.iaload, 1) := by decide +kernel
theorem dX12_comes_31 : decode cX12_comes 31 = .ok (.aload_n 0, 1) := by decide +kernel
theorem dX12_comes_32 : decode cX12_comes 32 = .ok (.getfield 88, 3) := by decide +kernel
theorem dX12_comes_35 : decode cX12_comes 35 = .ok (.aload_n 0, 1) := by decide +kernel
theorem dX12_comes_36 : decode cX12_comes 36 = .ok (.getfield 205, 3) := by decide +kernel
theorem dX12_comes_39 : decode cX12_comes 39 = .ok (.invokestatic 208, 3) := by decide +kernel
theorem dX12_comes_42 : decode cX12_comes 42 = .ok (.ifCond .ne 23, 3) := by decide +kernel
theorem dX12_comes_45 : decode cX12_comes 45 = .ok (.aload_n 2, 1) := by decide +kernel
theorem dX12_comes_46 : decode cX12_comes 46 = .ok (.iconst 1, 1) := by decide +kernel
theorem dX12_comes_47 : decode cX12_comes 47 = .ok (.iaload, 1) := by decide +kernel
theorem dX12_comes_48 : decode cX12_comes 48 = .ok (.aload_n 2, 1) := by decide +kernel
theorem dX12_comes_49 : decode cX12_comes 49 = .ok (.iconst 2, 1) := by decide +kernel
theorem dX12_comes_50 : decode cX12_comes 50 = .ok (.iaload, 1) := by decide +kernel
theorem dX12_comes_51 : decode cX12_comes 51 = .ok (.aload_n 0, 1) := by decide +kernel
theorem dX12_comes_52 : decode cX12_comes 52 = .ok (.getfield 212, 3) := by decide +kernel
theorem dX12_comes_55 : decode cX12_comes 55 = .ok (.aload_n 0, 1) := by decide +kernel
theorem dX12_comes_56 : decode cX12_comes 56 = .ok (.getfield 205, 3) := by decide +kernel
theorem dX12_comes_59 : decode cX12_comes 59 = .ok (.invokestatic 208, 3) := by decide +kernel
theorem dX12_comes_62 : decode cX12_comes 62 = .ok (.ifCond .eq 7, 3) := by decide +kernel
theorem dX12_comes_65 : decode cX12_comes 65 = .ok (.iconst 1, 1) := by decide +kernel
theorem dX12_comes_66 : decode cX12_comes 66 = .ok (.goto 4, 3) := by decide +kernel
theorem dX12_comes_69 : decode cX12_comes 69 = .ok (.iconst 0, 1) := by decide +kernel
theorem dX12_comes_70 : decode cX12_comes 70 = .ok (.ireturn, 1) := by decide +kernel
theorem dX12_does_0 : decode cX12_does 0 = .ok (.aload_n 1, 1) := by decide +kernel
theorem dX12_does_1 : decode cX12_does 1 = .ok (.iconst 1, 1) := by decide +kernel
theorem dX12_does_2 : decode cX12_does 2 = .ok (.iaload, 1) := by decide +kernel
theorem dX12_does_3 : decode cX12_does 3 = .ok (.istore_n 2, 1) := by decide +kernel
theorem dX12_does_4 : decode cX12_does 4 = .ok (.aload_n 1, 1) := by decide +kernel
theorem dX12_does_5 : decode cX12_does 5 = .ok (.iconst 0, 1) := by decide +kernel
theorem dX12_does_6 : decode cX12_does 6 = .ok (.iaload, 1) := by decide +kernel
theorem dX12_does_7 : decode cX12_does 7 = .ok (.ifCond .ne 12, 3) := by decide +kernel
theorem dX12_does_10 : decode cX12_does 10 = .ok (.aload_n 0, 1) := by decide +kernel
theorem dX12_does_11 : decode cX12_does 11 = .ok (.getfield 79, 3) := by decide +kernel
theorem dX12_does_14 : decode cX12_does 14 = .ok (.iload_n 2, 1) := by decide +kernel
theorem dX12_does_15 : decode cX12_does 15 = .ok (.aload_n 1, 1) := by decide +kernel
theorem dX12_does_16 : decode cX12_does 16 = .ok (.iconst 2, 1) := by decide +kernel
theorem dX12_does_17 : decode cX12_does 17 = .ok (.iaload, 1) := by decide +kernel
theorem dX12_does_18 : decode cX12_does 18 = .ok (.iastore, 1) := by decide +kernel
theorem dX12_does_19 : decode cX12_does 19 = .ok (.aload_n 1, 1) := by decide +kernel
theorem dX12_does_20 : decode cX12_does 20 = .ok (.iconst 0, 1) := by decide +kernel
theorem dX12_does_21 : decode cX12_does 21 = .ok (.iaload, 1) := by decide +kernel
theorem dX12_does_22 : decode cX12_does 22 = .ok (.iconst 1, 1) := by decide +kernel
theorem dX12_does_23 : decode cX12_does 23 = .ok (.if_icmp .ne 10, 3) := by decide +kernel
theorem dX12_does_26 : decode cX12_does 26 = .ok (.aload_n 0, 1) := by decide +kernel
theorem dX12_does_27 : decode cX12_does 27 = .ok (.getfield 79, 3) := by decide +kernel
theorem dX12_does_30 : decode cX12_does 30 = .ok (.iload_n 2, 1) := by decide +kernel
theorem dX12_does_31 : decode cX12_does 31 = .ok (.iconst (-1), 1) := by decide +kernel
theorem dX12_does_32 : decode cX12_does 32 = .ok (.iastore, 1) := by decide +kernel
theorem dX12_does_33 : decode cX12_does 33 = .ok (.aload_n 1, 1) := by decide +kernel
theorem dX12_does_34 : decode cX12_does 34 = .ok (.iconst 0, 1) := by decide +kernel
theorem dX12_does_35 : decode cX12_does 35 = .ok (.iaload, 1) := by decide +kernel
theorem dX12_does_36 : decode cX12_does 36 = .ok (.iconst 2, 1) := by decide +kernel
theorem dX12_does_37 : decode cX12_does 37 = .ok (.if_icmp .ne 11, 3) := by decide +kernel
theorem dX12_does_40 : decode cX12_does 40 = .ok (.aload_n 0, 1) := by decide +kernel
theorem dX12_does_41 : decode cX12_does 41 = .ok (.iload_n 2, 1) := by decide +kernel
theorem dX12_does_42 : decode cX12_does 42 = .ok (.aload_n 1, 1) := by decide +kernel
theorem dX12_does_43 : decode cX12_does 43 = .ok (.iconst 2, 1) := by decide +kernel
theorem dX12_does_44 : decode cX12_does 44 = .ok (.iaload, 1) := by decide +kernel
theorem dX12_does_45 : decode cX12_does 45 = .ok (.invokevirtual 215, 3) := by decide +kernel
theorem dX12_does_48 : decode cX12_does 48 = .ok (.aload_n 1, 1) := by decide +kernel
theorem dX12_does_49 : decode cX12_does 49 = .ok (.iconst 0, 1) := by decide +kernel
theorem dX12_does_50 : decode cX12_does 50 = .ok (.iaload, 1) := by decide +kernel
theorem dX12_does_51 : decode cX12_does 51 = .ok (.iconst 3, 1) := by decide +kernel
theorem dX12_does_52 : decode cX12_does 52 = .ok (.if_icmp .ne 12, 3) := by decide +kernel
theorem dX12_does_55 : decode cX12_does 55 = .ok (.aload_n 0, 1) := by decide +kernel
theorem dX12_does_56 : decode cX12_does 56 = .ok (.iload_n 2, 1) := by decide +kernel
theorem dX12_does_57 : decode cX12_does 57 = .ok (.aload_n 0, 1) := by decide +kernel
theorem dX12_does_58 : decode cX12_does 58 = .ok (.getfield 183, 3) := by decide +kernel
theorem dX12_does_61 : decode cX12_does 61 = .ok (.invokevirtual 218, 3) := by decide +kernel
theorem dX12_does_64 : decode cX12_does 64 = .ok (.aload_n 1, 1) := by decide +kernel
theorem dX12_does_65 : decode cX12_does 65 = .ok (.iconst 0, 1) := by decide +kernel
theorem dX12_does_66 : decode cX12_does 66 = .ok (.iaload, 1) := by decide +kernel
theorem dX12_does_67 : decode cX12_does 67 = .ok (.iconst 4, 1) := by decide +kernel
theorem dX12_does_68 : decode cX12_does 68 = .ok (.if_icmp .ne 11, 3) := by decide +kernel
theorem dX12_does_71 : decode cX12_does 71 = .ok (.aload_n 0, 1) := by decide +kernel
theorem dX12_does_72 : decode cX12_does 72 = .ok (.iload_n 2, 1) := by decide +kernel
theorem dX12_does_73 : decode cX12_does 73 = .ok (.aload_n 1, 1) := by decide +kernel
theorem dX12_does_74 : decode cX12_does 74 = .ok (.iconst 2, 1) := by decide +kernel
theorem dX12_does_75 : decode cX12_does 75 = .ok (.iaload, 1) := by decide +kernel
theorem dX12_does_76 : decode cX12_does 76 = .ok (.invokevirtual 218, 3) := by decide +kernel
theorem dX12_does_79 : decode cX12_does 79 = .ok (.return_, 1) := by decide +kernel
theorem dX12_stays_0 : decode cX12_stays 0 = .ok (.iconst 0, 1) := by decide +kernel
theorem dX12_stays_1 : decode cX12_stays 1 = .ok (.istore_n 3, 1) := by decide +kernel
theorem dX12_stays_2 : decode cX12_stays 2 = .ok (.iload_n 3, 1) := by decide +kernel
theorem dX12_stays_3 : decode cX12_stays 3 = .ok (.bipush 10, 2) := by decide +kernel
theorem dX12_stays_5 : decode cX12_stays 5 = .ok (.if_icmp .ge 30, 3) := by decide +kernel
theorem dX12_stays_8 : decode cX12_stays 8 = .ok (.aload_n 0, 1) := by decide +kernel
theorem dX12_stays_9 : decode cX12_stays 9 = .ok (.getfield 76, 3) := by decide +kernel
theorem dX12_stays_12 : decode cX12_stays 12 = .ok (.iload_n 1, 1) := by decide +kernel
theorem dX12_stays_13 : decode cX12_stays 13 = .ok (.aaload, 1) := by decide +kernel
theorem dX12_stays_14 : decode cX12_stays 14 = .ok (.iload_n 3, 1) := by decide +kernel
theorem dX12_stays_15 : decode cX12_stays 15 = .ok (.aload_n 0, 1) := by decide +kernel
theorem dX12_stays_16 : decode cX12_stays 16 = .ok (.getfield 76, 3) := by decide +kernel
theorem dX12_stays_19 : decode cX12_stays 19 = .ok (.iload_n 1, 1) := by decide +kernel
theorem dX12_stays_20 : decode cX12_stays 20 = .ok (.aaload, 1) := by decide +kernel
theorem dX12_stays_21 : decode cX12_stays 21 = .ok (.iload_n 3, 1) := by decide +kernel
theorem dX12_stays_22 : decode cX12_stays 22 = .ok (.iaload, 1) := by decide +kernel
theorem dX12_stays_23 : decode cX12_stays 23 = .ok (.iload_n 2, 1) := by decide +kernel
theorem dX12_stays_24 : decode cX12_stays 24 = .ok (.imul, 1) := by decide +kernel
theorem dX12_stays_25 : decode cX12_stays 25 = .ok (.bipush 16, 2) := by decide +kernel
theorem dX12_stays_27 : decode cX12_stays 27 = .ok (.idiv, 1) := by decide +kernel
theorem dX12_stays_28 : decode cX12_stays 28 = .ok (.iastore, 1) := by decide +kernel
theorem dX12_stays_29 : decode cX12_stays 29 = .ok (.iinc 3 1, 3) := by decide +kernel
theorem dX12_stays_32 : decode cX12_stays 32 = .ok (.goto (-30), 3) := by decide +kernel
theorem dX12_stays_35 : decode cX12_stays 35 = .ok (.return_, 1) := by decide +kernel
theorem dX12_runs_0 : decode cX12_runs 0 = .ok (.iconst 0, 1) := by decide +kernel
theorem dX12_runs_1 : decode cX12_runs 1 = .ok (.istore_n 3, 1) := by decide +kernel
theorem dX12_runs_2 : decode cX12_runs 2 = .ok (.iload_n 3, 1) := by decide +kernel
theorem dX12_runs_3 : decode cX12_runs 3 = .ok (.bipush 10, 2) := by decide +kernel
theorem dX12_runs_5 : decode cX12_runs 5 = .ok (.if_icmp .ge 42, 3) := by decide +kernel
theorem dX12_runs_8 : decode cX12_runs 8 = .ok (.aload_n 0, 1) := by decide +kernel
theorem dX12_runs_9 : decode cX12_runs 9 = .ok (.getfield 79, 3) := by decide +kernel
theorem dX12_runs_12 : decode cX12_runs 12 = .ok (.iload_n 3, 1) := by decide +kernel
theorem dX12_runs_13 : decode cX12_runs 13 = .ok (.iconst (-1), 1) := by decide +kernel
theorem dX12_runs_14 : decode cX12_runs 14 = .ok (.iastore, 1) := by decide +kernel
theorem dX12_runs_15 : decode cX12_runs 15 = .ok (.iconst 0, 1) := by decide +kernel
theorem dX12_runs_16 : decode cX12_runs 16 = .ok (.istore 4, 2) := by decide +kernel
theorem dX12_runs_18 : decode cX12_runs 18 = .ok (.iload 4, 2) := by decide +kernel
theorem dX12_runs_20 : decode cX12_runs 20 = .ok (.bipush 10, 2) := by decide +kernel
theorem dX12_runs_22 : decode cX12_runs 22 = .ok (.if_icmp .ge 19, 3) := by decide +kernel
theorem dX12_runs_25 : decode cX12_runs 25 = .ok (.aload_n 0, 1) := by decide +kernel
theorem dX12_runs_26 : decode cX12_runs 26 = .ok (.getfield 76, 3) := by decide +kernel
theorem dX12_runs_29 : decode cX12_runs 29 = .ok (.iload_n 3, 1) := by decide +kernel
theorem dX12_runs_30 : decode cX12_runs 30 = .ok (.aaload, 1) := by decide +kernel
theorem dX12_runs_31 : decode cX12_runs 31 = .ok (.iload 4, 2) := by decide +kernel
theorem dX12_runs_33 : decode cX12_runs 33 = .ok (.iconst 0, 1) := by decide +kernel
theorem dX12_runs_34 : decode cX12_runs 34 = .ok (.iastore, 1) := by decide +kernel
theorem dX12_runs_35 : decode cX12_runs 35 = .ok (.iinc 4 1, 3) := by decide +kernel
theorem dX12_runs_38 : decode cX12_runs 38 = .ok (.goto (-20), 3) := by decide +kernel
theorem dX12_runs_41 : decode cX12_runs 41 = .ok (.iinc 3 1, 3) := by decide +kernel
theorem dX12_runs_44 : decode cX12_runs 44 = .ok (.goto (-42), 3) := by decide +kernel
theorem dX12_runs_47 : decode cX12_runs 47 = .ok (.iconst 0, 1) := by decide +kernel
theorem dX12_runs_48 : decode cX12_runs 48 = .ok (.istore_n 3, 1) := by decide +kernel
theorem dX12_runs_49 : decode cX12_runs 49 = .ok (.iconst 0, 1) := by decide +kernel
theorem dX12_runs_50 : decode cX12_runs 50 = .ok (.istore 4, 2) := by decide +kernel
theorem dX12_runs_52 : decode cX12_runs 52 = .ok (.iload 4, 2) := by decide +kernel
theorem dX12_runs_54 : decode cX12_runs 54 = .ok (.iload_n 2, 1) := by decide +kernel
theorem dX12_runs_55 : decode cX12_runs 55 = .ok (.if_icmp .gt 174, 3) := by decide +kernel
theorem dX12_runs_58 : decode cX12_runs 58 = .ok (.iconst 0, 1) := by decide +kernel
theorem dX12_runs_59 : decode cX12_runs 59 = .ok (.istore 5, 2) := by decide +kernel
theorem dX12_runs_61 : decode cX12_runs 61 = .ok (.iload 5, 2) := by decide +kernel
theorem dX12_runs_63 : decode cX12_runs 63 = .ok (.bipush 10, 2) := by decide +kernel
theorem dX12_runs_65 : decode cX12_runs 65 = .ok (.if_icmp .ge 61, 3) := by decide +kernel
theorem dX12_runs_68 : decode cX12_runs 68 = .ok (.iload 4, 2) := by decide +kernel
theorem dX12_runs_70 : decode cX12_runs 70 = .ok (.ifCond .le 56, 3) := by decide +kernel
theorem dX12_runs_73 : decode cX12_runs 73 = .ok (.iconst 0, 1) := by decide +kernel
theorem dX12_runs_74 : decode cX12_runs 74 = .ok (.istore 6, 2) := by decide +kernel
theorem dX12_runs_76 : decode cX12_runs 76 = .ok (.iload 6, 2) := by decide +kernel
theorem dX12_runs_78 : decode cX12_runs 78 = .ok (.bipush 10, 2) := by decide +kernel
theorem dX12_runs_80 : decode cX12_runs 80 = .ok (.if_icmp .ge 40, 3) := by decide +kernel
theorem dX12_runs_83 : decode cX12_runs 83 = .ok (.aload_n 0, 1) := by decide +kernel
theorem dX12_runs_84 : decode cX12_runs 84 = .ok (.getfield 76, 3) := by decide +kernel
theorem dX12_runs_87 : decode cX12_runs 87 = .ok (.iload 5, 2) := by decide +kernel
theorem dX12_runs_89 : decode cX12_runs 89 = .ok (.aaload, 1) := by decide +kernel
theorem dX12_runs_90 : decode cX12_runs 90 = .ok (.iload 6, 2) := by decide +kernel
theorem dX12_runs_92 : decode cX12_runs 92 = .ok (.aload_n 0, 1) := by decide +kernel
theorem dX12_runs_93 : decode cX12_runs 93 = .ok (.getfield 76, 3) := by decide +kernel
theorem dX12_runs_96 : decode cX12_runs 96 = .ok (.iload 5, 2) := by decide +kernel
theorem dX12_runs_98 : decode cX12_runs 98 = .ok (.aaload, 1) := by decide +kernel
theorem dX12_runs_99 : decode cX12_runs 99 = .ok (.iload 6, 2) := by decide +kernel
theorem dX12_runs_101 : decode cX12_runs 101 = .ok (.iaload, 1) := by decide +kernel
theorem dX12_runs_102 : decode cX12_runs 102 = .ok (.aload_n 0, 1) := by decide +kernel
theorem dX12_runs_103 : decode cX12_runs 103 = .ok (.getfield 25, 3) := by decide +kernel
theorem dX12_runs_106 : decode cX12_runs 106 = .ok (.iload 6, 2) := by decide +kernel
theorem dX12_runs_108 : decode cX12_runs 108 = .ok (.iaload, 1) := by decide +kernel
theorem dX12_runs_109 : decode cX12_runs 109 = .ok (.imul, 1) := by decide +kernel
theorem dX12_runs_110 : decode cX12_runs 110 = .ok (.bipush 16, 2) := by decide +kernel
theorem dX12_runs_112 : decode cX12_runs 112 = .ok (.idiv, 1) := by decide +kernel
theorem dX12_runs_113 : decode cX12_runs 113 = .ok (.iastore, 1) := by decide +kernel
theorem dX12_runs_114 : decode cX12_runs 114 = .ok (.iinc 6 1, 3) := by decide +kernel
theorem dX12_runs_117 : decode cX12_runs 117 = .ok (.goto (-41), 3) := by decide +kernel
theorem dX12_runs_120 : decode cX12_runs 120 = .ok (.iinc 5 1, 3) := by decide +kernel
theorem dX12_runs_123 : decode cX12_runs 123 = .ok (.goto (-62), 3) := by decide +kernel
theorem dX12_runs_126 : decode cX12_runs 126 = .ok (.iload_n 3, 1) := by decide +kernel
theorem dX12_runs_127 : decode cX12_runs 127 = .ok (.aload_n 0, 1) := by decide +kernel
theorem dX12_runs_128 : decode cX12_runs 128 = .ok (.getfield 46, 3) := by decide +kernel
theorem dX12_runs_131 : decode cX12_runs 131 = .ok (.iload_n 1, 1) := by decide +kernel
theorem dX12_runs_132 : decode cX12_runs 132 = .ok (.iaload, 1) := by decide +kernel
theorem dX12_runs_133 : decode cX12_runs 133 = .ok (.if_icmp .ge 61, 3) := by decide +kernel
theorem dX12_runs_136 : decode cX12_runs 136 = .ok (.aload_n 0, 1) := by decide +kernel
theorem dX12_runs_137 : decode cX12_runs 137 = .ok (.getfield 49, 3) := by decide +kernel
theorem dX12_runs_140 : decode cX12_runs 140 = .ok (.bipush 20, 2) := by decide +kernel
theorem dX12_runs_142 : decode cX12_runs 142 = .ok (.iload_n 1, 1) := by decide +kernel
theorem dX12_runs_143 : decode cX12_runs 143 = .ok (.imul, 1) := by decide +kernel
theorem dX12_runs_144 : decode cX12_runs 144 = .ok (.iload_n 3, 1) := by decide +kernel
theorem dX12_runs_145 : decode cX12_runs 145 = .ok (.iadd, 1) := by decide +kernel
theorem dX12_runs_146 : decode cX12_runs 146 = .ok (.aaload, 1) := by decide +kernel
theorem dX12_runs_147 : decode cX12_runs 147 = .ok (.iconst 3, 1) := by decide +kernel
theorem dX12_runs_148 : decode cX12_runs 148 = .ok (.iaload, 1) := by decide +kernel
theorem dX12_runs_149 : decode cX12_runs 149 = .ok (.iload 4, 2) := by decide +kernel
theorem dX12_runs_151 : decode cX12_runs 151 = .ok (.if_icmp .ne 43, 3) := by decide +kernel
theorem dX12_runs_154 : decode cX12_runs 154 = .ok (.aload_n 0, 1) := by decide +kernel
theorem dX12_runs_155 : decode cX12_runs 155 = .ok (.iload_n 3, 1) := by decide +kernel
theorem dX12_runs_156 : decode cX12_runs 156 = .ok (.aload_n 0, 1) := by decide +kernel
theorem dX12_runs_157 : decode cX12_runs 157 = .ok (.getfield 49, 3) := by decide +kernel
theorem dX12_runs_160 : decode cX12_runs 160 = .ok (.bipush 20, 2) := by decide +kernel
theorem dX12_runs_162 : decode cX12_runs 162 = .ok (.iload_n 1, 1) := by decide +kernel
theorem dX12_runs_163 : decode cX12_runs 163 = .ok (.imul, 1) := by decide +kernel
theorem dX12_runs_164 : decode cX12_runs 164 = .ok (.iload_n 3, 1) := by decide +kernel
theorem dX12_runs_165 : decode cX12_runs 165 = .ok (.iadd, 1) := by decide +kernel
theorem dX12_runs_166 : decode cX12_runs 166 = .ok (.aaload, 1) := by decide +kernel
theorem dX12_runs_167 : decode cX12_runs 167 = .ok (.invokevirtual 221, 3) := by decide +kernel
theorem dX12_runs_170 : decode cX12_runs 170 = .ok (.ifCond .eq 18, 3) := by decide +kernel
theorem dX12_runs_173 : decode cX12_runs 173 = .ok (.aload_n 0, 1) := by decide +kernel
theorem dX12_runs_174 : decode cX12_runs 174 = .ok (.aload_n 0, 1) := by decide +kernel
theorem dX12_runs_175 : decode cX12_runs 175 = .ok (.getfield 49, 3) := by decide +kernel
theorem dX12_runs_178 : decode cX12_runs 178 = .ok (.bipush 20, 2) := by decide +kernel
theorem dX12_runs_180 : decode cX12_runs 180 = .ok (.iload_n 1, 1) := by decide +kernel
theorem dX12_runs_181 : decode cX12_runs 181 = .ok (.imul, 1) := by decide +kernel
theorem dX12_runs_182 : decode cX12_runs 182 = .ok (.iload_n 3, 1) := by decide +kernel
theorem dX12_runs_183 : decode cX12_runs 183 = .ok (.iadd, 1) := by decide +kernel
theorem dX12_runs_184 : decode cX12_runs 184 = .ok (.aaload, 1) := by decide +kernel
theorem dX12_runs_185 : decode cX12_runs 185 = .ok (.invokevirtual 225, 3) := by decide +kernel
theorem dX12_runs_188 : decode cX12_runs 188 = .ok (.iinc 3 1, 3) := by decide +kernel
theorem dX12_runs_191 : decode cX12_runs 191 = .ok (.goto (-65), 3) := by decide +kernel
theorem dX12_runs_194 : decode cX12_runs 194 = .ok (.aload_n 0, 1) := by decide +kernel
theorem dX12_runs_195 : decode cX12_runs 195 = .ok (.getfield 85, 3) := by decide +kernel
theorem dX12_runs_198 : decode cX12_runs 198 = .ok (.iconst (-1), 1) := by decide +kernel
theorem dX12_runs_199 : decode cX12_runs 199 = .ok (.if_icmp .eq 24, 3) := by decide +kernel
theorem dX12_runs_202 : decode cX12_runs 202 = .ok (.aload_n 0, 1) := by decide +kernel
theorem dX12_runs_203 : decode cX12_runs 203 = .ok (.getfield 229, 3) := by decide +kernel
theorem dX12_runs_206 : decode cX12_runs 206 = .ok (.iload 4, 2) := by decide +kernel
theorem dX12_runs_208 : decode cX12_runs 208 = .ok (.if_icmp .ne 15, 3) := by decide +kernel
theorem dX12_runs_211 : decode cX12_runs 211 = .ok (.aload_n 0, 1) := by decide +kernel
theorem dX12_runs_212 : decode cX12_runs 212 = .ok (.aload_n 0, 1) := by decide +kernel
theorem dX12_runs_213 : decode cX12_runs 213 = .ok (.getfield 85, 3) := by decide +kernel
theorem dX12_runs_216 : decode cX12_runs 216 = .ok (.aload_n 0, 1) := by decide +kernel
theorem dX12_runs_217 : decode cX12_runs 217 = .ok (.getfield 232, 3) := by decide +kernel
theorem dX12_runs_220 : decode cX12_runs 220 = .ok (.invokevirtual 215, 3) := by decide +kernel
theorem dX12_runs_223 : decode cX12_runs 223 = .ok (.iinc 4 1, 3) := by decide +kernel
theorem dX12_runs_226 : decode cX12_runs 226 = .ok (.goto (-174), 3) := by decide +kernel
theorem dX12_runs_229 : decode cX12_runs 229 = .ok (.return_, 1) := by decide +kernel
theorem dX12_plain_0 : decode cX12_plain 0 = .ok (.aload_n 0, 1) := by decide +kernel
theorem dX12_plain_1 : decode cX12_plain 1 = .ok (.iconst (-1), 1) := by decide +kernel
theorem dX12_plain_2 : decode cX12_plain 2 = .ok (.putfield 82, 3) := by decide +kernel
theorem dX12_plain_5 : decode cX12_plain 5 = .ok (.aload_n 0, 1) := by decide +kernel
theorem dX12_plain_6 : decode cX12_plain 6 = .ok (.iconst (-1), 1) := by decide +kernel
theorem dX12_plain_7 : decode cX12_plain 7 = .ok (.putfield 85, 3) := by decide +kernel
theorem dX12_plain_10 : decode cX12_plain 10 = .ok (.aload_n 0, 1) := by decide +kernel
theorem dX12_plain_11 : decode cX12_plain 11 = .ok (.iconst (-1), 1) := by decide +kernel
theorem dX12_plain_12 : decode cX12_plain 12 = .ok (.putfield 88, 3) := by decide +kernel
theorem dX12_plain_15 : decode cX12_plain 15 = .ok (.return_, 1) := by decide +kernel
theorem dX12_isStory_0 : decode cX12_isStory 0 = .ok (.iload_n 1, 1) := by decide +kernel
theorem dX12_isStory_1 : decode cX12_isStory 1 = .ok (.iconst 0, 1) := by decide +kernel
theorem dX12_isStory_2 : decode cX12_isStory 2 = .ok (.aload_n 0, 1) := by decide +kernel
theorem dX12_isStory_3 : decode cX12_isStory 3 = .ok (.getfield 196, 3) := by decide +kernel
theorem dX12_isStory_6 : decode cX12_isStory 6 = .ok (.iconst 1, 1) := by decide +kernel
theorem dX12_isStory_7 : decode cX12_isStory 7 = .ok (.isub, 1) := by decide +kernel
theorem dX12_isStory_8 : decode cX12_isStory 8 = .ok (.invokestatic 128, 3) := by decide +kernel
theorem dX12_isStory_11 : decode cX12_isStory 11 = .ok (.ireturn, 1) := by decide +kernel
theorem dX12_badPlace_0 : decode cX12_badPlace 0 = .ok (.aload_n 0, 1) := by decide +kernel
theorem dX12_badPlace_1 : decode cX12_badPlace 1 = .ok (.iload_n 1, 1) := by decide +kernel
theorem dX12_badPlace_2 : decode cX12_badPlace 2 = .ok (.iconst 0, 1) := by decide +kernel
theorem dX12_badPlace_3 : decode cX12_badPlace 3 = .ok (.bipush 9, 2) := by decide +kernel
theorem dX12_badPlace_5 : decode cX12_badPlace 5 = .ok (.invokestatic 128, 3) := by decide +kernel
theorem dX12_badPlace_8 : decode cX12_badPlace 8 = .ok (.ifCond .eq 23, 3) := by decide +kernel
theorem dX12_badPlace_11 : decode cX12_badPlace 11 = .ok (.iload_n 2, 1) := by decide +kernel
theorem dX12_badPlace_12 : decode cX12_badPlace 12 = .ok (.iconst 0, 1) := by decide +kernel
theorem dX12_badPlace_13 : decode cX12_badPlace 13 = .ok (.bipush 9, 2) := by decide +kernel
theorem dX12_badPlace_15 : decode cX12_badPlace 15 = .ok (.invokestatic 128, 3) := by decide +kernel
theorem dX12_badPlace_18 : decode cX12_badPlace 18 = .ok (.ifCond .eq 13, 3) := by decide +kernel
theorem dX12_badPlace_21 : decode cX12_badPlace 21 = .ok (.iload_n 3, 1) := by decide +kernel
theorem dX12_badPlace_22 : decode cX12_badPlace 22 = .ok (.iconst 0, 1) := by decide +kernel
theorem dX12_badPlace_23 : decode cX12_badPlace 23 = .ok (.bipush 99, 2) := by decide +kernel
theorem dX12_badPlace_25 : decode cX12_badPlace 25 = .ok (.invokestatic 128, 3) := by decide +kernel
theorem dX12_badPlace_28 : decode cX12_badPlace 28 = .ok (.ifCond .ne 7, 3) := by decide +kernel
theorem dX12_badPlace_31 : decode cX12_badPlace 31 = .ok (.iconst 1, 1) := by decide +kernel
theorem dX12_badPlace_32 : decode cX12_badPlace 32 = .ok (.goto 4, 3) := by decide +kernel
theorem dX12_badPlace_35 : decode cX12_badPlace 35 = .ok (.iconst 0, 1) := by decide +kernel
theorem dX12_badPlace_36 : decode cX12_badPlace 36 = .ok (.iload 4, 2) := by decide +kernel
theorem dX12_badPlace_38 : decode cX12_badPlace 38 = .ok (.invokevirtual 170, 3) := by decide +kernel
theorem dX12_badPlace_41 : decode cX12_badPlace 41 = .ok (.ireturn, 1) := by decide +kernel
theorem dX12_lies_0 : decode cX12_lies 0 = .ok (.aload_n 0, 1) := by decide +kernel
theorem dX12_lies_1 : decode cX12_lies 1 = .ok (.iconst 0, 1) := by decide +kernel
theorem dX12_lies_2 : decode cX12_lies 2 = .ok (.putfield 94, 3) := by decide +kernel
theorem dX12_lies_5 : decode cX12_lies 5 = .ok (.aload_n 0, 1) := by decide +kernel
theorem dX12_lies_6 : decode cX12_lies 6 = .ok (.aload_n 0, 1) := by decide +kernel
theorem dX12_lies_7 : decode cX12_lies 7 = .ok (.iload_n 1, 1) := by decide +kernel
theorem dX12_lies_8 : decode cX12_lies 8 = .ok (.invokevirtual 235, 3) := by decide +kernel
theorem dX12_lies_11 : decode cX12_lies 11 = .ok (.ifCond .ne 7, 3) := by decide +kernel
theorem dX12_lies_14 : decode cX12_lies 14 = .ok (.iconst 1, 1) := by decide +kernel
theorem dX12_lies_15 : decode cX12_lies 15 = .ok (.goto 4, 3) := by decide +kernel
theorem dX12_lies_18 : decode cX12_lies 18 = .ok (.iconst 0, 1) := by decide +kernel
theorem dX12_lies_19 : decode cX12_lies 19 = .ok (.iconst 1, 1) := by decide +kernel
theorem dX12_lies_20 : decode cX12_lies 20 = .ok (.invokevirtual 170, 3) := by decide +kernel
theorem dX12_lies_23 : decode cX12_lies 23 = .ok (.ifCond .ne 15, 3) := by decide +kernel
theorem dX12_lies_26 : decode cX12_lies 26 = .ok (.aload_n 0, 1) := by decide +kernel
theorem dX12_lies_27 : decode cX12_lies 27 = .ok (.iload_n 2, 1) := by decide +kernel
theorem dX12_lies_28 : decode cX12_lies 28 = .ok (.iload_n 3, 1) := by decide +kernel
theorem dX12_lies_29 : decode cX12_lies 29 = .ok (.iload 4, 2) := by decide +kernel
theorem dX12_lies_31 : decode cX12_lies 31 = .ok (.iconst 2, 1) := by decide +kernel
theorem dX12_lies_32 : decode cX12_lies 32 = .ok (.invokevirtual 238, 3) := by decide +kernel
theorem dX12_lies_35 : decode cX12_lies 35 = .ok (.ifCond .eq 5, 3) := by decide +kernel
theorem dX12_lies_38 : decode cX12_lies 38 = .ok (.iconst 0, 1) := by decide +kernel
theorem dX12_lies_39 : decode cX12_lies 39 = .ok (.ireturn, 1) := by decide +kernel
theorem dX12_lies_40 : decode cX12_lies 40 = .ok (.aload_n 0, 1) := by decide +kernel
theorem dX12_lies_41 : decode cX12_lies 41 = .ok (.iload_n 1, 1) := by decide +kernel
theorem dX12_lies_42 : decode cX12_lies 42 = .ok (.iload 4, 2) := by decide +kernel
theorem dX12_lies_44 : decode cX12_lies 44 = .ok (.invokevirtual 241, 3) := by decide +kernel
theorem dX12_lies_47 : decode cX12_lies 47 = .ok (.aload_n 0, 1) := by decide +kernel
theorem dX12_lies_48 : decode cX12_lies 48 = .ok (.getfield 76, 3) := by decide +kernel
theorem dX12_lies_51 : decode cX12_lies 51 = .ok (.iload_n 2, 1) := by decide +kernel
theorem dX12_lies_52 : decode cX12_lies 52 = .ok (.aaload, 1) := by decide +kernel
theorem dX12_lies_53 : decode cX12_lies 53 = .ok (.iload_n 3, 1) := by decide +kernel
theorem dX12_lies_54 : decode cX12_lies 54 = .ok (.iaload, 1) := by decide +kernel
theorem dX12_lies_55 : decode cX12_lies 55 = .ok (.ireturn, 1) := by decide +kernel
theorem dX12_pileAt_0 : decode cX12_pileAt 0 = .ok (.aload_n 0, 1) := by decide +kernel
theorem dX12_pileAt_1 : decode cX12_pileAt 1 = .ok (.iload_n 2, 1) := by decide +kernel
theorem dX12_pileAt_2 : decode cX12_pileAt 2 = .ok (.invokevirtual 202, 3) := by decide +kernel
theorem dX12_pileAt_5 : decode cX12_pileAt 5 = .ok (.istore_n 3, 1) := by decide +kernel
theorem dX12_pileAt_6 : decode cX12_pileAt 6 = .ok (.iconst 0, 1) := by decide +kernel
theorem dX12_pileAt_7 : decode cX12_pileAt 7 = .ok (.istore 4, 2) := by decide +kernel
theorem dX12_pileAt_9 : decode cX12_pileAt 9 = .ok (.iconst 0, 1) := by decide +kernel
theorem dX12_pileAt_10 : decode cX12_pileAt 10 = .ok (.istore 5, 2) := by decide +kernel
theorem dX12_pileAt_12 : decode cX12_pileAt 12 = .ok (.iload 5, 2) := by decide +kernel
theorem dX12_pileAt_14 : decode cX12_pileAt 14 = .ok (.bipush 10, 2) := by decide +kernel
theorem dX12_pileAt_16 : decode cX12_pileAt 16 = .ok (.if_icmp .ge 45, 3) := by decide +kernel
theorem dX12_pileAt_19 : decode cX12_pileAt 19 = .ok (.iload 4, 2) := by decide +kernel
theorem dX12_pileAt_21 : decode cX12_pileAt 21 = .ok (.iload_n 3, 1) := by decide +kernel
theorem dX12_pileAt_22 : decode cX12_pileAt 22 = .ok (.iload 5, 2) := by decide +kernel
theorem dX12_pileAt_24 : decode cX12_pileAt 24 = .ok (.ishr, 1) := by decide +kernel
theorem dX12_pileAt_25 : decode cX12_pileAt 25 = .ok (.iconst 1, 1) := by decide +kernel
theorem dX12_pileAt_26 : decode cX12_pileAt 26 = .ok (.iand, 1) := by decide +kernel
theorem dX12_pileAt_27 : decode cX12_pileAt 27 = .ok (.iconst 1, 1) := by decide +kernel
theorem dX12_pileAt_28 : decode cX12_pileAt 28 = .ok (.if_icmp .ne 23, 3) := by decide +kernel
theorem dX12_pileAt_31 : decode cX12_pileAt 31 = .ok (.aload_n 0, 1) := by decide +kernel
theorem dX12_pileAt_32 : decode cX12_pileAt 32 = .ok (.getfield 76, 3) := by decide +kernel
theorem dX12_pileAt_35 : decode cX12_pileAt 35 = .ok (.iload_n 1, 1) := by decide +kernel
theorem dX12_pileAt_36 : decode cX12_pileAt 36 = .ok (.aaload, 1) := by decide +kernel
theorem dX12_pileAt_37 : decode cX12_pileAt 37 = .ok (.iload 5, 2) := by decide +kernel
theorem dX12_pileAt_39 : decode cX12_pileAt 39 = .ok (.iaload, 1) := by decide +kernel
theorem dX12_pileAt_40 : decode cX12_pileAt 40 = .ok (.aload_n 0, 1) := by decide +kernel
theorem dX12_pileAt_41 : decode cX12_pileAt 41 = .ok (.getfield 28, 3) := by decide +kernel
theorem dX12_pileAt_44 : decode cX12_pileAt 44 = .ok (.iload 5, 2) := by decide +kernel
theorem dX12_pileAt_46 : decode cX12_pileAt 46 = .ok (.iaload, 1) := by decide +kernel
theorem dX12_pileAt_47 : decode cX12_pileAt 47 = .ok (.iadd, 1) := by decide +kernel
theorem dX12_pileAt_48 : decode cX12_pileAt 48 = .ok (.goto 4, 3) := by decide +kernel
theorem dX12_pileAt_51 : decode cX12_pileAt 51 = .ok (.iconst 0, 1) := by decide +kernel
theorem dX12_pileAt_52 : decode cX12_pileAt 52 = .ok (.iadd, 1) := by decide +kernel
theorem dX12_pileAt_53 : decode cX12_pileAt 53 = .ok (.istore 4, 2) := by decide +kernel
theorem dX12_pileAt_55 : decode cX12_pileAt 55 = .ok (.iinc 5 1, 3) := by decide +kernel
theorem dX12_pileAt_58 : decode cX12_pileAt 58 = .ok (.goto (-46), 3) := by decide +kernel
theorem dX12_pileAt_61 : decode cX12_pileAt 61 = .ok (.iload 4, 2) := by decide +kernel
theorem dX12_pileAt_63 : decode cX12_pileAt 63 = .ok (.bipush 60, 2) := by decide +kernel
theorem dX12_pileAt_65 : decode cX12_pileAt 65 = .ok (.invokestatic 192, 3) := by decide +kernel
theorem dX12_pileAt_68 : decode cX12_pileAt 68 = .ok (.ireturn, 1) := by decide +kernel
theorem dX12_pile_0 : decode cX12_pile 0 = .ok (.aload_n 0, 1) := by decide +kernel
theorem dX12_pile_1 : decode cX12_pile 1 = .ok (.iconst 0, 1) := by decide +kernel
theorem dX12_pile_2 : decode cX12_pile 2 = .ok (.putfield 94, 3) := by decide +kernel
theorem dX12_pile_5 : decode cX12_pile 5 = .ok (.aload_n 0, 1) := by decide +kernel
theorem dX12_pile_6 : decode cX12_pile 6 = .ok (.aload_n 0, 1) := by decide +kernel
theorem dX12_pile_7 : decode cX12_pile 7 = .ok (.iload_n 1, 1) := by decide +kernel
theorem dX12_pile_8 : decode cX12_pile 8 = .ok (.invokevirtual 235, 3) := by decide +kernel
theorem dX12_pile_11 : decode cX12_pile 11 = .ok (.ifCond .ne 7, 3) := by decide +kernel
theorem dX12_pile_14 : decode cX12_pile 14 = .ok (.iconst 1, 1) := by decide +kernel
theorem dX12_pile_15 : decode cX12_pile 15 = .ok (.goto 4, 3) := by decide +kernel
theorem dX12_pile_18 : decode cX12_pile 18 = .ok (.iconst 0, 1) := by decide +kernel
theorem dX12_pile_19 : decode cX12_pile 19 = .ok (.iconst 1, 1) := by decide +kernel
theorem dX12_pile_20 : decode cX12_pile 20 = .ok (.invokevirtual 170, 3) := by decide +kernel
theorem dX12_pile_23 : decode cX12_pile 23 = .ok (.ifCond .ne 15, 3) := by decide +kernel
theorem dX12_pile_26 : decode cX12_pile 26 = .ok (.aload_n 0, 1) := by decide +kernel
theorem dX12_pile_27 : decode cX12_pile 27 = .ok (.iload_n 2, 1) := by decide +kernel
theorem dX12_pile_28 : decode cX12_pile 28 = .ok (.iload_n 3, 1) := by decide +kernel
theorem dX12_pile_29 : decode cX12_pile 29 = .ok (.iload 4, 2) := by decide +kernel
theorem dX12_pile_31 : decode cX12_pile 31 = .ok (.iconst 2, 1) := by decide +kernel
theorem dX12_pile_32 : decode cX12_pile 32 = .ok (.invokevirtual 238, 3) := by decide +kernel
theorem dX12_pile_35 : decode cX12_pile 35 = .ok (.ifCond .eq 5, 3) := by decide +kernel
theorem dX12_pile_38 : decode cX12_pile 38 = .ok (.iconst 0, 1) := by decide +kernel
theorem dX12_pile_39 : decode cX12_pile 39 = .ok (.ireturn, 1) := by decide +kernel
theorem dX12_pile_40 : decode cX12_pile 40 = .ok (.aload_n 0, 1) := by decide +kernel
theorem dX12_pile_41 : decode cX12_pile 41 = .ok (.iload_n 1, 1) := by decide +kernel
theorem dX12_pile_42 : decode cX12_pile 42 = .ok (.iload 4, 2) := by decide +kernel
theorem dX12_pile_44 : decode cX12_pile 44 = .ok (.invokevirtual 241, 3) := by decide +kernel
theorem dX12_pile_47 : decode cX12_pile 47 = .ok (.aload_n 0, 1) := by decide +kernel
theorem dX12_pile_48 : decode cX12_pile 48 = .ok (.iload_n 2, 1) := by decide +kernel
theorem dX12_pile_49 : decode cX12_pile 49 = .ok (.iload_n 3, 1) := by decide +kernel
theorem dX12_pile_50 : decode cX12_pile 50 = .ok (.invokevirtual 244, 3) := by decide +kernel
theorem dX12_pile_53 : decode cX12_pile 53 = .ok (.ireturn, 1) := by decide +kernel
theorem dX12_wears_0 : decode cX12_wears 0 = .ok (.aload_n 0, 1) := by decide +kernel
theorem dX12_wears_1 : decode cX12_wears 1 = .ok (.iconst 0, 1) := by decide +kernel
theorem dX12_wears_2 : decode cX12_wears 2 = .ok (.putfield 94, 3) := by decide +kernel
theorem dX12_wears_5 : decode cX12_wears 5 = .ok (.aload_n 0, 1) := by decide +kernel
theorem dX12_wears_6 : decode cX12_wears 6 = .ok (.aload_n 0, 1) := by decide +kernel
theorem dX12_wears_7 : decode cX12_wears 7 = .ok (.iload_n 1, 1) := by decide +kernel
theorem dX12_wears_8 : decode cX12_wears 8 = .ok (.invokevirtual 235, 3) := by decide +kernel
theorem dX12_wears_11 : decode cX12_wears 11 = .ok (.ifCond .ne 7, 3) := by decide +kernel
theorem dX12_wears_14 : decode cX12_wears 14 = .ok (.iconst 1, 1) := by decide +kernel
theorem dX12_wears_15 : decode cX12_wears 15 = .ok (.goto 4, 3) := by decide +kernel
theorem dX12_wears_18 : decode cX12_wears 18 = .ok (.iconst 0, 1) := by decide +kernel
theorem dX12_wears_19 : decode cX12_wears 19 = .ok (.iconst 1, 1) := by decide +kernel
theorem dX12_wears_20 : decode cX12_wears 20 = .ok (.invokevirtual 170, 3) := by decide +kernel
theorem dX12_wears_23 : decode cX12_wears 23 = .ok (.ifCond .ne 14, 3) := by decide +kernel
theorem dX12_wears_26 : decode cX12_wears 26 = .ok (.aload_n 0, 1) := by decide +kernel
theorem dX12_wears_27 : decode cX12_wears 27 = .ok (.iload_n 2, 1) := by decide +kernel
theorem dX12_wears_28 : decode cX12_wears 28 = .ok (.iconst 0, 1) := by decide +kernel
theorem dX12_wears_29 : decode cX12_wears 29 = .ok (.iload_n 3, 1) := by decide +kernel
theorem dX12_wears_30 : decode cX12_wears 30 = .ok (.iconst 2, 1) := by decide +kernel
theorem dX12_wears_31 : decode cX12_wears 31 = .ok (.invokevirtual 238, 3) := by decide +kernel
theorem dX12_wears_34 : decode cX12_wears 34 = .ok (.ifCond .eq 5, 3) := by decide +kernel
theorem dX12_wears_37 : decode cX12_wears 37 = .ok (.iconst 0, 1) := by decide +kernel
theorem dX12_wears_38 : decode cX12_wears 38 = .ok (.ireturn, 1) := by decide +kernel
theorem dX12_wears_39 : decode cX12_wears 39 = .ok (.aload_n 0, 1) := by decide +kernel
theorem dX12_wears_40 : decode cX12_wears 40 = .ok (.iload_n 1, 1) := by decide +kernel
theorem dX12_wears_41 : decode cX12_wears 41 = .ok (.iload_n 3, 1) := by decide +kernel
theorem dX12_wears_42 : decode cX12_wears 42 = .ok (.invokevirtual 241, 3) := by decide +kernel
theorem dX12_wears_45 : decode cX12_wears 45 = .ok (.aload_n 0, 1) := by decide +kernel
theorem dX12_wears_46 : decode cX12_wears 46 = .ok (.getfield 79, 3) := by decide +kernel
theorem dX12_wears_49 : decode cX12_wears 49 = .ok (.iload_n 2, 1) := by decide +kernel
theorem dX12_wears_50 : decode cX12_wears 50 = .ok (.iaload, 1) := by decide +kernel
theorem dX12_wears_51 : decode cX12_wears 51 = .ok (.ireturn, 1) := by decide +kernel
theorem dX12_find_0 : decode cX12_find 0 = .ok (.aload_n 0, 1) := by decide +kernel
theorem dX12_find_1 : decode cX12_find 1 = .ok (.iconst 0, 1) := by decide +kernel
theorem dX12_find_2 : decode cX12_find 2 = .ok (.putfield 94, 3) := by decide +kernel
theorem dX12_find_5 : decode cX12_find 5 = .ok (.aload_n 0, 1) := by decide +kernel
theorem dX12_find_6 : decode cX12_find 6 = .ok (.iload_n 1, 1) := by decide +kernel
theorem dX12_find_7 : decode cX12_find 7 = .ok (.iload_n 3, 1) := by decide +kernel
theorem dX12_find_8 : decode cX12_find 8 = .ok (.iload_n 2, 1) := by decide +kernel
theorem dX12_find_9 : decode cX12_find 9 = .ok (.iconst 1, 1) := by decide +kernel
theorem dX12_find_10 : decode cX12_find 10 = .ok (.invokevirtual 238, 3) := by decide +kernel
theorem dX12_find_13 : decode cX12_find 13 = .ok (.ifCond .ne 27, 3) := by decide +kernel
theorem dX12_find_16 : decode cX12_find 16 = .ok (.aload_n 0, 1) := by decide +kernel
theorem dX12_find_17 : decode cX12_find 17 = .ok (.iload 4, 2) := by decide +kernel
theorem dX12_find_19 : decode cX12_find 19 = .ok (.iconst 0, 1) := by decide +kernel
theorem dX12_find_20 : decode cX12_find 20 = .ok (.bipush 60, 2) := by decide +kernel
theorem dX12_find_22 : decode cX12_find 22 = .ok (.invokestatic 128, 3) := by decide +kernel
theorem dX12_find_25 : decode cX12_find 25 = .ok (.ifCond .ne 7, 3) := by decide +kernel
theorem dX12_find_28 : decode cX12_find 28 = .ok (.iconst 1, 1) := by decide +kernel
theorem dX12_find_29 : decode cX12_find 29 = .ok (.goto 4, 3) := by decide +kernel
theorem dX12_find_32 : decode cX12_find 32 = .ok (.iconst 0, 1) := by decide +kernel
theorem dX12_find_33 : decode cX12_find 33 = .ok (.iconst 1, 1) := by decide +kernel
theorem dX12_find_34 : decode cX12_find 34 = .ok (.invokevirtual 170, 3) := by decide +kernel
theorem dX12_find_37 : decode cX12_find 37 = .ok (.ifCond .eq 5, 3) := by decide +kernel
theorem dX12_find_40 : decode cX12_find 40 = .ok (.iconst 0, 1) := by decide +kernel
theorem dX12_find_41 : decode cX12_find 41 = .ok (.ireturn, 1) := by decide +kernel
theorem dX12_find_42 : decode cX12_find 42 = .ok (.aload_n 0, 1) := by decide +kernel
theorem dX12_find_43 : decode cX12_find 43 = .ok (.getfield 247, 3) := by decide +kernel
theorem dX12_find_46 : decode cX12_find 46 = .ok (.bipush 8, 2) := by decide +kernel
theorem dX12_find_48 : decode cX12_find 48 = .ok (.if_icmp .ne 5, 3) := by decide +kernel
theorem dX12_find_51 : decode cX12_find 51 = .ok (.iconst (-1), 1) := by decide +kernel
theorem dX12_find_52 : decode cX12_find 52 = .ok (.ireturn, 1) := by decide +kernel
theorem dX12_find_53 : decode cX12_find 53 = .ok (.aload_n 0, 1) := by decide +kernel
theorem dX12_find_54 : decode cX12_find 54 = .ok (.getfield 55, 3) := by decide +kernel
theorem dX12_find_57 : decode cX12_find 57 = .ok (.aload_n 0, 1) := by decide +kernel
theorem dX12_find_58 : decode cX12_find 58 = .ok (.getfield 247, 3) := by decide +kernel
theorem dX12_find_61 : decode cX12_find 61 = .ok (.aaload, 1) := by decide +kernel
theorem dX12_find_62 : decode cX12_find 62 = .ok (.iconst 0, 1) := by decide +kernel
theorem dX12_find_63 : decode cX12_find 63 = .ok (.iload_n 1, 1) := by decide +kernel
theorem dX12_find_64 : decode cX12_find 64 = .ok (.iastore, 1) := by decide +kernel
theorem dX12_find_65 : decode cX12_find 65 = .ok (.aload_n 0, 1) := by decide +kernel
theorem dX12_find_66 : decode cX12_find 66 = .ok (.getfield 55, 3) := by decide +kernel
theorem dX12_find_69 : decode cX12_find 69 = .ok (.aload_n 0, 1) := by decide +kernel
theorem dX12_find_70 : decode cX12_find 70 = .ok (.getfield 247, 3) := by decide +kernel
theorem dX12_find_73 : decode cX12_find 73 = .ok (.aaload, 1) := by decide +kernel
theorem dX12_find_74 : decode cX12_find 74 = .ok (.iconst 1, 1) := by decide +kernel
theorem dX12_find_75 : decode cX12_find 75 = .ok (.iload_n 2, 1) := by decide +kernel
theorem dX12_find_76 : decode cX12_find 76 = .ok (.iastore, 1) := by decide +kernel
theorem dX12_find_77 : decode cX12_find 77 = .ok (.aload_n 0, 1) := by decide +kernel
theorem dX12_find_78 : decode cX12_find 78 = .ok (.getfield 55, 3) := by decide +kernel
theorem dX12_find_81 : decode cX12_find 81 = .ok (.aload_n 0, 1) := by decide +kernel
theorem dX12_find_82 : decode cX12_find 82 = .ok (.getfield 247, 3) := by decide +kernel
theorem dX12_find_85 : decode cX12_find 85 = .ok (.aaload, 1) := by decide +kernel
theorem dX12_find_86 : decode cX12_find 86 = .ok (.iconst 2, 1) := by decide +kernel
theorem dX12_find_87 : decode cX12_find 87 = .ok (.iload_n 3, 1) := by decide +kernel
theorem dX12_find_88 : decode cX12_find 88 = .ok (.iastore, 1) := by decide +kernel
theorem dX12_find_89 : decode cX12_find 89 = .ok (.aload_n 0, 1) := by decide +kernel
theorem dX12_find_90 : decode cX12_find 90 = .ok (.getfield 55, 3) := by decide +kernel
theorem dX12_find_93 : decode cX12_find 93 = .ok (.aload_n 0, 1) := by decide +kernel
theorem dX12_find_94 : decode cX12_find 94 = .ok (.getfield 247, 3) := by decide +kernel
theorem dX12_find_97 : decode cX12_find 97 = .ok (.aaload, 1) := by decide +kernel
theorem dX12_find_98 : decode cX12_find 98 = .ok (.iconst 3, 1) := by decide +kernel
theorem dX12_find_99 : decode cX12_find 99 = .ok (.iload 4, 2) := by decide +kernel
theorem dX12_find_101 : decode cX12_find 101 = .ok (.iastore, 1) := by decide +kernel
theorem dX12_find_102 : decode cX12_find 102 = .ok (.aload_n 0, 1) := by decide +kernel
theorem dX12_find_103 : decode cX12_find 103 = .ok (.dup, 1) := by decide +kernel
theorem dX12_find_104 : decode cX12_find 104 = .ok (.getfield 247, 3) := by decide +kernel
theorem dX12_find_107 : decode cX12_find 107 = .ok (.iconst 1, 1) := by decide +kernel
theorem dX12_find_108 : decode cX12_find 108 = .ok (.iadd, 1) := by decide +kernel
theorem dX12_find_109 : decode cX12_find 109 = .ok (.putfield 247, 3) := by decide +kernel
theorem dX12_find_112 : decode cX12_find 112 = .ok (.aload_n 0, 1) := by decide +kernel
theorem dX12_find_113 : decode cX12_find 113 = .ok (.getfield 247, 3) := by decide +kernel
theorem dX12_find_116 : decode cX12_find 116 = .ok (.iconst 1, 1) := by decide +kernel
theorem dX12_find_117 : decode cX12_find 117 = .ok (.isub, 1) := by decide +kernel
theorem dX12_find_118 : decode cX12_find 118 = .ok (.ireturn, 1) := by decide +kernel
theorem dX12_isFind_0 : decode cX12_isFind 0 = .ok (.iload_n 1, 1) := by decide +kernel
theorem dX12_isFind_1 : decode cX12_isFind 1 = .ok (.iconst 0, 1) := by decide +kernel
theorem dX12_isFind_2 : decode cX12_isFind 2 = .ok (.aload_n 0, 1) := by decide +kernel
theorem dX12_isFind_3 : decode cX12_isFind 3 = .ok (.getfield 247, 3) := by decide +kernel
theorem dX12_isFind_6 : decode cX12_isFind 6 = .ok (.iconst 1, 1) := by decide +kernel
theorem dX12_isFind_7 : decode cX12_isFind 7 = .ok (.isub, 1) := by decide +kernel
theorem dX12_isFind_8 : decode cX12_isFind 8 = .ok (.invokestatic 128, 3) := by decide +kernel
theorem dX12_isFind_11 : decode cX12_isFind 11 = .ok (.ireturn, 1) := by decide +kernel
theorem dX12_found_0 : decode cX12_found 0 = .ok (.aload_n 0, 1) := by decide +kernel
theorem dX12_found_1 : decode cX12_found 1 = .ok (.iconst 0, 1) := by decide +kernel
theorem dX12_found_2 : decode cX12_found 2 = .ok (.putfield 94, 3) := by decide +kernel
theorem dX12_found_5 : decode cX12_found 5 = .ok (.aload_n 0, 1) := by decide +kernel
theorem dX12_found_6 : decode cX12_found 6 = .ok (.aload_n 0, 1) := by decide +kernel
theorem dX12_found_7 : decode cX12_found 7 = .ok (.iload_n 1, 1) := by decide +kernel
theorem dX12_found_8 : decode cX12_found 8 = .ok (.invokevirtual 250, 3) := by decide +kernel
theorem dX12_found_11 : decode cX12_found 11 = .ok (.ifCond .ne 7, 3) := by decide +kernel
theorem dX12_found_14 : decode cX12_found 14 = .ok (.iconst 1, 1) := by decide +kernel
theorem dX12_found_15 : decode cX12_found 15 = .ok (.goto 4, 3) := by decide +kernel
theorem dX12_found_18 : decode cX12_found 18 = .ok (.iconst 0, 1) := by decide +kernel
theorem dX12_found_19 : decode cX12_found 19 = .ok (.iconst 1, 1) := by decide +kernel
theorem dX12_found_20 : decode cX12_found 20 = .ok (.invokevirtual 170, 3) := by decide +kernel
theorem dX12_found_23 : decode cX12_found 23 = .ok (.ifCond .ne 25, 3) := by decide +kernel
theorem dX12_found_26 : decode cX12_found 26 = .ok (.aload_n 0, 1) := by decide +kernel
theorem dX12_found_27 : decode cX12_found 27 = .ok (.iload_n 2, 1) := by decide +kernel
theorem dX12_found_28 : decode cX12_found 28 = .ok (.iconst 0, 1) := by decide +kernel
theorem dX12_found_29 : decode cX12_found 29 = .ok (.iconst 3, 1) := by decide +kernel
theorem dX12_found_30 : decode cX12_found 30 = .ok (.invokestatic 128, 3) := by decide +kernel
theorem dX12_found_33 : decode cX12_found 33 = .ok (.ifCond .ne 7, 3) := by decide +kernel
theorem dX12_found_36 : decode cX12_found 36 = .ok (.iconst 1, 1) := by decide +kernel
theorem dX12_found_37 : decode cX12_found 37 = .ok (.goto 4, 3) := by decide +kernel
theorem dX12_found_40 : decode cX12_found 40 = .ok (.iconst 0, 1) := by decide +kernel
theorem dX12_found_41 : decode cX12_found 41 = .ok (.iconst 2, 1) := by decide +kernel
theorem dX12_found_42 : decode cX12_found 42 = .ok (.invokevirtual 170, 3) := by decide +kernel
theorem dX12_found_45 : decode cX12_found 45 = .ok (.ifCond .eq 5, 3) := by decide +kernel
theorem dX12_found_48 : decode cX12_found 48 = .ok (.iconst 0, 1) := by decide +kernel
theorem dX12_found_49 : decode cX12_found 49 = .ok (.ireturn, 1) := by decide +kernel
theorem dX12_found_50 : decode cX12_found 50 = .ok (.aload_n 0, 1) := by decide +kernel
theorem dX12_found_51 : decode cX12_found 51 = .ok (.getfield 55, 3) := by decide +kernel
theorem dX12_found_54 : decode cX12_found 54 = .ok (.iload_n 1, 1) := by decide +kernel
theorem dX12_found_55 : decode cX12_found 55 = .ok (.aaload, 1) := by decide +kernel
theorem dX12_found_56 : decode cX12_found 56 = .ok (.iload_n 2, 1) := by decide +kernel
theorem dX12_found_57 : decode cX12_found 57 = .ok (.iaload, 1) := by decide +kernel
theorem dX12_found_58 : decode cX12_found 58 = .ok (.ireturn, 1) := by decide +kernel
theorem dX12_drop_0 : decode cX12_drop 0 = .ok (.aload_n 0, 1) := by decide +kernel
theorem dX12_drop_1 : decode cX12_drop 1 = .ok (.iconst 0, 1) := by decide +kernel
theorem dX12_drop_2 : decode cX12_drop 2 = .ok (.putfield 94, 3) := by decide +kernel
theorem dX12_drop_5 : decode cX12_drop 5 = .ok (.aload_n 0, 1) := by decide +kernel
theorem dX12_drop_6 : decode cX12_drop 6 = .ok (.aload_n 0, 1) := by decide +kernel
theorem dX12_drop_7 : decode cX12_drop 7 = .ok (.iload_n 1, 1) := by decide +kernel
theorem dX12_drop_8 : decode cX12_drop 8 = .ok (.invokevirtual 250, 3) := by decide +kernel
