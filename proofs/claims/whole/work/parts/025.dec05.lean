theorem dX12_next_152 : decode cX12_next 152 = .ok (.bipush 100, 2) := by decide +kernel
theorem dX12_next_154 : decode cX12_next 154 = .ok (.iload 9, 2) := by decide +kernel
theorem dX12_next_156 : decode cX12_next 156 = .ok (.imul, 1) := by decide +kernel
theorem dX12_next_157 : decode cX12_next 157 = .ok (.bipush 10, 2) := by decide +kernel
theorem dX12_next_159 : decode cX12_next 159 = .ok (.iload 6, 2) := by decide +kernel
theorem dX12_next_161 : decode cX12_next 161 = .ok (.imul, 1) := by decide +kernel
theorem dX12_next_162 : decode cX12_next 162 = .ok (.iadd, 1) := by decide +kernel
theorem dX12_next_163 : decode cX12_next 163 = .ok (.iload 7, 2) := by decide +kernel
theorem dX12_next_165 : decode cX12_next 165 = .ok (.iadd, 1) := by decide +kernel
theorem dX12_next_166 : decode cX12_next 166 = .ok (.istore 4, 2) := by decide +kernel
theorem dX12_next_168 : decode cX12_next 168 = .ok (.iinc 7 1, 3) := by decide +kernel
theorem dX12_next_171 : decode cX12_next 171 = .ok (.goto (-105), 3) := by decide +kernel
theorem dX12_next_174 : decode cX12_next 174 = .ok (.iinc 6 1, 3) := by decide +kernel
theorem dX12_next_177 : decode cX12_next 177 = .ok (.goto (-121), 3) := by decide +kernel
theorem dX12_next_180 : decode cX12_next 180 = .ok (.iload 4, 2) := by decide +kernel
theorem dX12_next_182 : decode cX12_next 182 = .ok (.ireturn, 1) := by decide +kernel
theorem dX12_isSign_0 : decode cX12_isSign 0 = .ok (.iconst 0, 1) := by decide +kernel
theorem dX12_isSign_1 : decode cX12_isSign 1 = .ok (.istore 4, 2) := by decide +kernel
theorem dX12_isSign_3 : decode cX12_isSign 3 = .ok (.iload 4, 2) := by decide +kernel
theorem dX12_isSign_5 : decode cX12_isSign 5 = .ok (.aload_n 0, 1) := by decide +kernel
theorem dX12_isSign_6 : decode cX12_isSign 6 = .ok (.getfield 247, 3) := by decide +kernel
theorem dX12_isSign_9 : decode cX12_isSign 9 = .ok (.if_icmp .ge 76, 3) := by decide +kernel
theorem dX12_isSign_12 : decode cX12_isSign 12 = .ok (.iload_n 1, 1) := by decide +kernel
theorem dX12_isSign_13 : decode cX12_isSign 13 = .ok (.iconst (-1), 1) := by decide +kernel
theorem dX12_isSign_14 : decode cX12_isSign 14 = .ok (.if_icmp .eq 65, 3) := by decide +kernel
theorem dX12_isSign_17 : decode cX12_isSign 17 = .ok (.aload_n 0, 1) := by decide +kernel
theorem dX12_isSign_18 : decode cX12_isSign 18 = .ok (.getfield 55, 3) := by decide +kernel
theorem dX12_isSign_21 : decode cX12_isSign 21 = .ok (.iload 4, 2) := by decide +kernel
theorem dX12_isSign_23 : decode cX12_isSign 23 = .ok (.aaload, 1) := by decide +kernel
theorem dX12_isSign_24 : decode cX12_isSign 24 = .ok (.iconst 3, 1) := by decide +kernel
theorem dX12_isSign_25 : decode cX12_isSign 25 = .ok (.iaload, 1) := by decide +kernel
theorem dX12_isSign_26 : decode cX12_isSign 26 = .ok (.ifCond .eq 53, 3) := by decide +kernel
theorem dX12_isSign_29 : decode cX12_isSign 29 = .ok (.aload_n 0, 1) := by decide +kernel
theorem dX12_isSign_30 : decode cX12_isSign 30 = .ok (.getfield 55, 3) := by decide +kernel
theorem dX12_isSign_33 : decode cX12_isSign 33 = .ok (.iload 4, 2) := by decide +kernel
theorem dX12_isSign_35 : decode cX12_isSign 35 = .ok (.aaload, 1) := by decide +kernel
theorem dX12_isSign_36 : decode cX12_isSign 36 = .ok (.iconst 0, 1) := by decide +kernel
theorem dX12_isSign_37 : decode cX12_isSign 37 = .ok (.iaload, 1) := by decide +kernel
theorem dX12_isSign_38 : decode cX12_isSign 38 = .ok (.iload_n 2, 1) := by decide +kernel
theorem dX12_isSign_39 : decode cX12_isSign 39 = .ok (.if_icmp .ne 40, 3) := by decide +kernel
theorem dX12_isSign_42 : decode cX12_isSign 42 = .ok (.aload_n 0, 1) := by decide +kernel
theorem dX12_isSign_43 : decode cX12_isSign 43 = .ok (.getfield 55, 3) := by decide +kernel
theorem dX12_isSign_46 : decode cX12_isSign 46 = .ok (.iload 4, 2) := by decide +kernel
theorem dX12_isSign_48 : decode cX12_isSign 48 = .ok (.aaload, 1) := by decide +kernel
theorem dX12_isSign_49 : decode cX12_isSign 49 = .ok (.iconst 1, 1) := by decide +kernel
theorem dX12_isSign_50 : decode cX12_isSign 50 = .ok (.iaload, 1) := by decide +kernel
theorem dX12_isSign_51 : decode cX12_isSign 51 = .ok (.iload_n 3, 1) := by decide +kernel
theorem dX12_isSign_52 : decode cX12_isSign 52 = .ok (.if_icmp .ge 6, 3) := by decide +kernel
theorem dX12_isSign_55 : decode cX12_isSign 55 = .ok (.goto 24, 3) := by decide +kernel
theorem dX12_isSign_58 : decode cX12_isSign 58 = .ok (.aload_n 0, 1) := by decide +kernel
theorem dX12_isSign_59 : decode cX12_isSign 59 = .ok (.getfield 22, 3) := by decide +kernel
theorem dX12_isSign_62 : decode cX12_isSign 62 = .ok (.iload_n 1, 1) := by decide +kernel
theorem dX12_isSign_63 : decode cX12_isSign 63 = .ok (.aaload, 1) := by decide +kernel
theorem dX12_isSign_64 : decode cX12_isSign 64 = .ok (.aload_n 0, 1) := by decide +kernel
theorem dX12_isSign_65 : decode cX12_isSign 65 = .ok (.getfield 55, 3) := by decide +kernel
theorem dX12_isSign_68 : decode cX12_isSign 68 = .ok (.iload 4, 2) := by decide +kernel
theorem dX12_isSign_70 : decode cX12_isSign 70 = .ok (.aaload, 1) := by decide +kernel
theorem dX12_isSign_71 : decode cX12_isSign 71 = .ok (.iconst 2, 1) := by decide +kernel
theorem dX12_isSign_72 : decode cX12_isSign 72 = .ok (.iaload, 1) := by decide +kernel
theorem dX12_isSign_73 : decode cX12_isSign 73 = .ok (.iaload, 1) := by decide +kernel
theorem dX12_isSign_74 : decode cX12_isSign 74 = .ok (.ifCond .le 5, 3) := by decide +kernel
theorem dX12_isSign_77 : decode cX12_isSign 77 = .ok (.iconst 1, 1) := by decide +kernel
theorem dX12_isSign_78 : decode cX12_isSign 78 = .ok (.ireturn, 1) := by decide +kernel
theorem dX12_isSign_79 : decode cX12_isSign 79 = .ok (.iinc 4 1, 3) := by decide +kernel
theorem dX12_isSign_82 : decode cX12_isSign 82 = .ok (.goto (-79), 3) := by decide +kernel
theorem dX12_isSign_85 : decode cX12_isSign 85 = .ok (.iconst 0, 1) := by decide +kernel
theorem dX12_isSign_86 : decode cX12_isSign 86 = .ok (.ireturn, 1) := by decide +kernel
theorem dX12_signs_0 : decode cX12_signs 0 = .ok (.aload_n 0, 1) := by decide +kernel
theorem dX12_signs_1 : decode cX12_signs 1 = .ok (.iconst 0, 1) := by decide +kernel
theorem dX12_signs_2 : decode cX12_signs 2 = .ok (.putfield 94, 3) := by decide +kernel
theorem dX12_signs_5 : decode cX12_signs 5 = .ok (.aload_n 0, 1) := by decide +kernel
theorem dX12_signs_6 : decode cX12_signs 6 = .ok (.aload_n 0, 1) := by decide +kernel
theorem dX12_signs_7 : decode cX12_signs 7 = .ok (.iload_n 1, 1) := by decide +kernel
theorem dX12_signs_8 : decode cX12_signs 8 = .ok (.invokevirtual 235, 3) := by decide +kernel
theorem dX12_signs_11 : decode cX12_signs 11 = .ok (.ifCond .ne 7, 3) := by decide +kernel
theorem dX12_signs_14 : decode cX12_signs 14 = .ok (.iconst 1, 1) := by decide +kernel
theorem dX12_signs_15 : decode cX12_signs 15 = .ok (.goto 4, 3) := by decide +kernel
theorem dX12_signs_18 : decode cX12_signs 18 = .ok (.iconst 0, 1) := by decide +kernel
theorem dX12_signs_19 : decode cX12_signs 19 = .ok (.iconst 1, 1) := by decide +kernel
theorem dX12_signs_20 : decode cX12_signs 20 = .ok (.invokevirtual 170, 3) := by decide +kernel
theorem dX12_signs_23 : decode cX12_signs 23 = .ok (.ifCond .ne 32, 3) := by decide +kernel
theorem dX12_signs_26 : decode cX12_signs 26 = .ok (.aload_n 0, 1) := by decide +kernel
theorem dX12_signs_27 : decode cX12_signs 27 = .ok (.iload_n 2, 1) := by decide +kernel
theorem dX12_signs_28 : decode cX12_signs 28 = .ok (.iconst 0, 1) := by decide +kernel
theorem dX12_signs_29 : decode cX12_signs 29 = .ok (.aload_n 0, 1) := by decide +kernel
theorem dX12_signs_30 : decode cX12_signs 30 = .ok (.getfield 46, 3) := by decide +kernel
theorem dX12_signs_33 : decode cX12_signs 33 = .ok (.iload_n 1, 1) := by decide +kernel
theorem dX12_signs_34 : decode cX12_signs 34 = .ok (.iaload, 1) := by decide +kernel
theorem dX12_signs_35 : decode cX12_signs 35 = .ok (.iconst 1, 1) := by decide +kernel
theorem dX12_signs_36 : decode cX12_signs 36 = .ok (.isub, 1) := by decide +kernel
theorem dX12_signs_37 : decode cX12_signs 37 = .ok (.invokestatic 128, 3) := by decide +kernel
theorem dX12_signs_40 : decode cX12_signs 40 = .ok (.ifCond .ne 7, 3) := by decide +kernel
theorem dX12_signs_43 : decode cX12_signs 43 = .ok (.iconst 1, 1) := by decide +kernel
theorem dX12_signs_44 : decode cX12_signs 44 = .ok (.goto 4, 3) := by decide +kernel
theorem dX12_signs_47 : decode cX12_signs 47 = .ok (.iconst 0, 1) := by decide +kernel
theorem dX12_signs_48 : decode cX12_signs 48 = .ok (.iconst 2, 1) := by decide +kernel
theorem dX12_signs_49 : decode cX12_signs 49 = .ok (.invokevirtual 170, 3) := by decide +kernel
theorem dX12_signs_52 : decode cX12_signs 52 = .ok (.ifCond .eq 5, 3) := by decide +kernel
theorem dX12_signs_55 : decode cX12_signs 55 = .ok (.iconst 0, 1) := by decide +kernel
theorem dX12_signs_56 : decode cX12_signs 56 = .ok (.ireturn, 1) := by decide +kernel
theorem dX12_signs_57 : decode cX12_signs 57 = .ok (.aload_n 0, 1) := by decide +kernel
theorem dX12_signs_58 : decode cX12_signs 58 = .ok (.getfield 49, 3) := by decide +kernel
theorem dX12_signs_61 : decode cX12_signs 61 = .ok (.bipush 20, 2) := by decide +kernel
theorem dX12_signs_63 : decode cX12_signs 63 = .ok (.iload_n 1, 1) := by decide +kernel
theorem dX12_signs_64 : decode cX12_signs 64 = .ok (.imul, 1) := by decide +kernel
theorem dX12_signs_65 : decode cX12_signs 65 = .ok (.iload_n 2, 1) := by decide +kernel
theorem dX12_signs_66 : decode cX12_signs 66 = .ok (.iadd, 1) := by decide +kernel
theorem dX12_signs_67 : decode cX12_signs 67 = .ok (.aaload, 1) := by decide +kernel
theorem dX12_signs_68 : decode cX12_signs 68 = .ok (.astore_n 3, 1) := by decide +kernel
theorem dX12_signs_69 : decode cX12_signs 69 = .ok (.aload_n 3, 1) := by decide +kernel
theorem dX12_signs_70 : decode cX12_signs 70 = .ok (.iconst 0, 1) := by decide +kernel
theorem dX12_signs_71 : decode cX12_signs 71 = .ok (.iaload, 1) := by decide +kernel
theorem dX12_signs_72 : decode cX12_signs 72 = .ok (.iconst 2, 1) := by decide +kernel
theorem dX12_signs_73 : decode cX12_signs 73 = .ok (.if_icmp .eq 5, 3) := by decide +kernel
theorem dX12_signs_76 : decode cX12_signs 76 = .ok (.iconst 0, 1) := by decide +kernel
theorem dX12_signs_77 : decode cX12_signs 77 = .ok (.ireturn, 1) := by decide +kernel
theorem dX12_signs_78 : decode cX12_signs 78 = .ok (.iconst (-1), 1) := by decide +kernel
theorem dX12_signs_79 : decode cX12_signs 79 = .ok (.istore 4, 2) := by decide +kernel
theorem dX12_signs_81 : decode cX12_signs 81 = .ok (.iconst (-1), 1) := by decide +kernel
theorem dX12_signs_82 : decode cX12_signs 82 = .ok (.istore 5, 2) := by decide +kernel
theorem dX12_signs_84 : decode cX12_signs 84 = .ok (.iconst 0, 1) := by decide +kernel
theorem dX12_signs_85 : decode cX12_signs 85 = .ok (.istore 6, 2) := by decide +kernel
theorem dX12_signs_87 : decode cX12_signs 87 = .ok (.iload 6, 2) := by decide +kernel
theorem dX12_signs_89 : decode cX12_signs 89 = .ok (.iload_n 2, 1) := by decide +kernel
theorem dX12_signs_90 : decode cX12_signs 90 = .ok (.if_icmp .ge 88, 3) := by decide +kernel
theorem dX12_signs_93 : decode cX12_signs 93 = .ok (.aload_n 0, 1) := by decide +kernel
theorem dX12_signs_94 : decode cX12_signs 94 = .ok (.getfield 49, 3) := by decide +kernel
theorem dX12_signs_97 : decode cX12_signs 97 = .ok (.bipush 20, 2) := by decide +kernel
theorem dX12_signs_99 : decode cX12_signs 99 = .ok (.iload_n 1, 1) := by decide +kernel
theorem dX12_signs_100 : decode cX12_signs 100 = .ok (.imul, 1) := by decide +kernel
theorem dX12_signs_101 : decode cX12_signs 101 = .ok (.iload 6, 2) := by decide +kernel
theorem dX12_signs_103 : decode cX12_signs 103 = .ok (.iadd, 1) := by decide +kernel
theorem dX12_signs_104 : decode cX12_signs 104 = .ok (.aaload, 1) := by decide +kernel
theorem dX12_signs_105 : decode cX12_signs 105 = .ok (.astore 7, 2) := by decide +kernel
theorem dX12_signs_107 : decode cX12_signs 107 = .ok (.aload 7, 2) := by decide +kernel
theorem dX12_signs_109 : decode cX12_signs 109 = .ok (.iconst 0, 1) := by decide +kernel
theorem dX12_signs_110 : decode cX12_signs 110 = .ok (.iaload, 1) := by decide +kernel
theorem dX12_signs_111 : decode cX12_signs 111 = .ok (.iconst 1, 1) := by decide +kernel
theorem dX12_signs_112 : decode cX12_signs 112 = .ok (.if_icmp .le 6, 3) := by decide +kernel
theorem dX12_signs_115 : decode cX12_signs 115 = .ok (.goto 57, 3) := by decide +kernel
theorem dX12_signs_118 : decode cX12_signs 118 = .ok (.aload 7, 2) := by decide +kernel
theorem dX12_signs_120 : decode cX12_signs 120 = .ok (.iconst 1, 1) := by decide +kernel
theorem dX12_signs_121 : decode cX12_signs 121 = .ok (.iaload, 1) := by decide +kernel
theorem dX12_signs_122 : decode cX12_signs 122 = .ok (.aload_n 3, 1) := by decide +kernel
theorem dX12_signs_123 : decode cX12_signs 123 = .ok (.iconst 1, 1) := by decide +kernel
theorem dX12_signs_124 : decode cX12_signs 124 = .ok (.iaload, 1) := by decide +kernel
theorem dX12_signs_125 : decode cX12_signs 125 = .ok (.if_icmp .ne 20, 3) := by decide +kernel
theorem dX12_signs_128 : decode cX12_signs 128 = .ok (.aload 7, 2) := by decide +kernel
theorem dX12_signs_130 : decode cX12_signs 130 = .ok (.iconst 0, 1) := by decide +kernel
theorem dX12_signs_131 : decode cX12_signs 131 = .ok (.iaload, 1) := by decide +kernel
theorem dX12_signs_132 : decode cX12_signs 132 = .ok (.ifCond .ne 10, 3) := by decide +kernel
theorem dX12_signs_135 : decode cX12_signs 135 = .ok (.aload 7, 2) := by decide +kernel
theorem dX12_signs_137 : decode cX12_signs 137 = .ok (.iconst 2, 1) := by decide +kernel
theorem dX12_signs_138 : decode cX12_signs 138 = .ok (.iaload, 1) := by decide +kernel
theorem dX12_signs_139 : decode cX12_signs 139 = .ok (.goto 4, 3) := by decide +kernel
theorem dX12_signs_142 : decode cX12_signs 142 = .ok (.iconst (-1), 1) := by decide +kernel
theorem dX12_signs_143 : decode cX12_signs 143 = .ok (.istore 4, 2) := by decide +kernel
theorem dX12_signs_145 : decode cX12_signs 145 = .ok (.aload 7, 2) := by decide +kernel
theorem dX12_signs_147 : decode cX12_signs 147 = .ok (.iconst 1, 1) := by decide +kernel
theorem dX12_signs_148 : decode cX12_signs 148 = .ok (.iaload, 1) := by decide +kernel
theorem dX12_signs_149 : decode cX12_signs 149 = .ok (.aload_n 3, 1) := by decide +kernel
theorem dX12_signs_150 : decode cX12_signs 150 = .ok (.iconst 2, 1) := by decide +kernel
theorem dX12_signs_151 : decode cX12_signs 151 = .ok (.iaload, 1) := by decide +kernel
theorem dX12_signs_152 : decode cX12_signs 152 = .ok (.if_icmp .ne 20, 3) := by decide +kernel
theorem dX12_signs_155 : decode cX12_signs 155 = .ok (.aload 7, 2) := by decide +kernel
theorem dX12_signs_157 : decode cX12_signs 157 = .ok (.iconst 0, 1) := by decide +kernel
theorem dX12_signs_158 : decode cX12_signs 158 = .ok (.iaload, 1) := by decide +kernel
theorem dX12_signs_159 : decode cX12_signs 159 = .ok (.ifCond .ne 10, 3) := by decide +kernel
theorem dX12_signs_162 : decode cX12_signs 162 = .ok (.aload 7, 2) := by decide +kernel
theorem dX12_signs_164 : decode cX12_signs 164 = .ok (.iconst 2, 1) := by decide +kernel
theorem dX12_signs_165 : decode cX12_signs 165 = .ok (.iaload, 1) := by decide +kernel
theorem dX12_signs_166 : decode cX12_signs 166 = .ok (.goto 4, 3) := by decide +kernel
theorem dX12_signs_169 : decode cX12_signs 169 = .ok (.iconst (-1), 1) := by decide +kernel
theorem dX12_signs_170 : decode cX12_signs 170 = .ok (.istore 5, 2) := by decide +kernel
theorem dX12_signs_172 : decode cX12_signs 172 = .ok (.iinc 6 1, 3) := by decide +kernel
theorem dX12_signs_175 : decode cX12_signs 175 = .ok (.goto (-88), 3) := by decide +kernel
theorem dX12_signs_178 : decode cX12_signs 178 = .ok (.aload_n 0, 1) := by decide +kernel
theorem dX12_signs_179 : decode cX12_signs 179 = .ok (.iload 4, 2) := by decide +kernel
theorem dX12_signs_181 : decode cX12_signs 181 = .ok (.aload_n 3, 1) := by decide +kernel
theorem dX12_signs_182 : decode cX12_signs 182 = .ok (.iconst 2, 1) := by decide +kernel
theorem dX12_signs_183 : decode cX12_signs 183 = .ok (.iaload, 1) := by decide +kernel
theorem dX12_signs_184 : decode cX12_signs 184 = .ok (.aload_n 3, 1) := by decide +kernel
theorem dX12_signs_185 : decode cX12_signs 185 = .ok (.iconst 3, 1) := by decide +kernel
theorem dX12_signs_186 : decode cX12_signs 186 = .ok (.iaload, 1) := by decide +kernel
theorem dX12_signs_187 : decode cX12_signs 187 = .ok (.invokevirtual 314, 3) := by decide +kernel
theorem dX12_signs_190 : decode cX12_signs 190 = .ok (.ifCond .eq 7, 3) := by decide +kernel
theorem dX12_signs_193 : decode cX12_signs 193 = .ok (.iconst 1, 1) := by decide +kernel
theorem dX12_signs_194 : decode cX12_signs 194 = .ok (.goto 4, 3) := by decide +kernel
theorem dX12_signs_197 : decode cX12_signs 197 = .ok (.iconst 0, 1) := by decide +kernel
theorem dX12_signs_198 : decode cX12_signs 198 = .ok (.aload_n 0, 1) := by decide +kernel
theorem dX12_signs_199 : decode cX12_signs 199 = .ok (.iload 5, 2) := by decide +kernel
theorem dX12_signs_201 : decode cX12_signs 201 = .ok (.aload_n 3, 1) := by decide +kernel
theorem dX12_signs_202 : decode cX12_signs 202 = .ok (.iconst 1, 1) := by decide +kernel
theorem dX12_signs_203 : decode cX12_signs 203 = .ok (.iaload, 1) := by decide +kernel
theorem dX12_signs_204 : decode cX12_signs 204 = .ok (.aload_n 3, 1) := by decide +kernel
theorem dX12_signs_205 : decode cX12_signs 205 = .ok (.iconst 3, 1) := by decide +kernel
theorem dX12_signs_206 : decode cX12_signs 206 = .ok (.iaload, 1) := by decide +kernel
theorem dX12_signs_207 : decode cX12_signs 207 = .ok (.invokevirtual 314, 3) := by decide +kernel
theorem dX12_signs_210 : decode cX12_signs 210 = .ok (.ifCond .eq 7, 3) := by decide +kernel
theorem dX12_signs_213 : decode cX12_signs 213 = .ok (.iconst 2, 1) := by decide +kernel
theorem dX12_signs_214 : decode cX12_signs 214 = .ok (.goto 4, 3) := by decide +kernel
theorem dX12_signs_217 : decode cX12_signs 217 = .ok (.iconst 0, 1) := by decide +kernel
theorem dX12_signs_218 : decode cX12_signs 218 = .ok (.iadd, 1) := by decide +kernel
theorem dX12_signs_219 : decode cX12_signs 219 = .ok (.ireturn, 1) := by decide +kernel
theorem dX12_said_0 : decode cX12_said 0 = .ok (.aload_n 0, 1) := by decide +kernel
theorem dX12_said_1 : decode cX12_said 1 = .ok (.iconst 0, 1) := by decide +kernel
theorem dX12_said_2 : decode cX12_said 2 = .ok (.putfield 94, 3) := by decide +kernel
theorem dX12_said_5 : decode cX12_said 5 = .ok (.aload_n 0, 1) := by decide +kernel
theorem dX12_said_6 : decode cX12_said 6 = .ok (.aload_n 0, 1) := by decide +kernel
theorem dX12_said_7 : decode cX12_said 7 = .ok (.iload_n 1, 1) := by decide +kernel
theorem dX12_said_8 : decode cX12_said 8 = .ok (.invokevirtual 235, 3) := by decide +kernel
theorem dX12_said_11 : decode cX12_said 11 = .ok (.ifCond .eq 11, 3) := by decide +kernel
theorem dX12_said_14 : decode cX12_said 14 = .ok (.aload_n 0, 1) := by decide +kernel
theorem dX12_said_15 : decode cX12_said 15 = .ok (.iload_n 2, 1) := by decide +kernel
theorem dX12_said_16 : decode cX12_said 16 = .ok (.invokevirtual 235, 3) := by decide +kernel
theorem dX12_said_19 : decode cX12_said 19 = .ok (.ifCond .ne 7, 3) := by decide +kernel
theorem dX12_said_22 : decode cX12_said 22 = .ok (.iconst 1, 1) := by decide +kernel
theorem dX12_said_23 : decode cX12_said 23 = .ok (.goto 4, 3) := by decide +kernel
theorem dX12_said_26 : decode cX12_said 26 = .ok (.iconst 0, 1) := by decide +kernel
theorem dX12_said_27 : decode cX12_said 27 = .ok (.iconst 1, 1) := by decide +kernel
theorem dX12_said_28 : decode cX12_said 28 = .ok (.invokevirtual 170, 3) := by decide +kernel
theorem dX12_said_31 : decode cX12_said 31 = .ok (.ifCond .eq 5, 3) := by decide +kernel
theorem dX12_said_34 : decode cX12_said 34 = .ok (.iconst 0, 1) := by decide +kernel
theorem dX12_said_35 : decode cX12_said 35 = .ok (.ireturn, 1) := by decide +kernel
theorem dX12_said_36 : decode cX12_said 36 = .ok (.aload_n 0, 1) := by decide +kernel
theorem dX12_said_37 : decode cX12_said 37 = .ok (.iload_n 1, 1) := by decide +kernel
theorem dX12_said_38 : decode cX12_said 38 = .ok (.iload_n 2, 1) := by decide +kernel
theorem dX12_said_39 : decode cX12_said 39 = .ok (.iconst (-1), 1) := by decide +kernel
theorem dX12_said_40 : decode cX12_said 40 = .ok (.invokevirtual 290, 3) := by decide +kernel
theorem dX12_said_43 : decode cX12_said 43 = .ok (.istore_n 3, 1) := by decide +kernel
theorem dX12_said_44 : decode cX12_said 44 = .ok (.iload_n 3, 1) := by decide +kernel
theorem dX12_said_45 : decode cX12_said 45 = .ok (.bipush 10, 2) := by decide +kernel
theorem dX12_said_47 : decode cX12_said 47 = .ok (.if_icmp .ge 7, 3) := by decide +kernel
theorem dX12_said_50 : decode cX12_said 50 = .ok (.iconst 0, 1) := by decide +kernel
theorem dX12_said_51 : decode cX12_said 51 = .ok (.goto 26, 3) := by decide +kernel
theorem dX12_said_54 : decode cX12_said 54 = .ok (.iload_n 3, 1) := by decide +kernel
theorem dX12_said_55 : decode cX12_said 55 = .ok (.sipush 1000, 3) := by decide +kernel
theorem dX12_said_58 : decode cX12_said 58 = .ok (.if_icmp .ge 7, 3) := by decide +kernel
theorem dX12_said_61 : decode cX12_said 61 = .ok (.iconst 1, 1) := by decide +kernel
theorem dX12_said_62 : decode cX12_said 62 = .ok (.goto 15, 3) := by decide +kernel
theorem dX12_said_65 : decode cX12_said 65 = .ok (.iload_n 3, 1) := by decide +kernel
theorem dX12_said_66 : decode cX12_said 66 = .ok (.ldc_w 271, 3) := by decide +kernel
theorem dX12_said_69 : decode cX12_said 69 = .ok (.if_icmp .ge 7, 3) := by decide +kernel
theorem dX12_said_72 : decode cX12_said 72 = .ok (.iconst 2, 1) := by decide +kernel
theorem dX12_said_73 : decode cX12_said 73 = .ok (.goto 4, 3) := by decide +kernel
theorem dX12_said_76 : decode cX12_said 76 = .ok (.iconst 3, 1) := by decide +kernel
theorem dX12_said_77 : decode cX12_said 77 = .ok (.ireturn, 1) := by decide +kernel
theorem dX12_image_0 : decode cX12_image 0 = .ok (.aload_n 0, 1) := by decide +kernel
theorem dX12_image_1 : decode cX12_image 1 = .ok (.iconst 0, 1) := by decide +kernel
theorem dX12_image_2 : decode cX12_image 2 = .ok (.putfield 94, 3) := by decide +kernel
theorem dX12_image_5 : decode cX12_image 5 = .ok (.aload_n 0, 1) := by decide +kernel
theorem dX12_image_6 : decode cX12_image 6 = .ok (.getfield 317, 3) := by decide +kernel
theorem dX12_image_9 : decode cX12_image 9 = .ok (.iconst 3, 1) := by decide +kernel
theorem dX12_image_10 : decode cX12_image 10 = .ok (.if_icmp .ne 5, 3) := by decide +kernel
theorem dX12_image_13 : decode cX12_image 13 = .ok (.iconst (-1), 1) := by decide +kernel
theorem dX12_image_14 : decode cX12_image 14 = .ok (.ireturn, 1) := by decide +kernel
theorem dX12_image_15 : decode cX12_image 15 = .ok (.iconst 0, 1) := by decide +kernel
theorem dX12_image_16 : decode cX12_image 16 = .ok (.istore_n 1, 1) := by decide +kernel
theorem dX12_image_17 : decode cX12_image 17 = .ok (.iload_n 1, 1) := by decide +kernel
theorem dX12_image_18 : decode cX12_image 18 = .ok (.bipush 8, 2) := by decide +kernel
theorem dX12_image_20 : decode cX12_image 20 = .ok (.if_icmp .ge 46, 3) := by decide +kernel
theorem dX12_image_23 : decode cX12_image 23 = .ok (.iconst 0, 1) := by decide +kernel
theorem dX12_image_24 : decode cX12_image 24 = .ok (.istore_n 2, 1) := by decide +kernel
theorem dX12_image_25 : decode cX12_image 25 = .ok (.iload_n 2, 1) := by decide +kernel
theorem dX12_image_26 : decode cX12_image 26 = .ok (.iconst 4, 1) := by decide +kernel
theorem dX12_image_27 : decode cX12_image 27 = .ok (.if_icmp .ge 33, 3) := by decide +kernel
theorem dX12_image_30 : decode cX12_image 30 = .ok (.aload_n 0, 1) := by decide +kernel
theorem dX12_image_31 : decode cX12_image 31 = .ok (.getfield 64, 3) := by decide +kernel
theorem dX12_image_34 : decode cX12_image 34 = .ok (.bipush 8, 2) := by decide +kernel
theorem dX12_image_36 : decode cX12_image 36 = .ok (.aload_n 0, 1) := by decide +kernel
theorem dX12_image_37 : decode cX12_image 37 = .ok (.getfield 317, 3) := by decide +kernel
theorem dX12_image_40 : decode cX12_image 40 = .ok (.imul, 1) := by decide +kernel
theorem dX12_image_41 : decode cX12_image 41 = .ok (.iload_n 1, 1) := by decide +kernel
theorem dX12_image_42 : decode cX12_image 42 = .ok (.iadd, 1) := by decide +kernel
theorem dX12_image_43 : decode cX12_image 43 = .ok (.aaload, 1) := by decide +kernel
theorem dX12_image_44 : decode cX12_image 44 = .ok (.iload_n 2, 1) := by decide +kernel
theorem dX12_image_45 : decode cX12_image 45 = .ok (.aload_n 0, 1) := by decide +kernel
theorem dX12_image_46 : decode cX12_image 46 = .ok (.getfield 55, 3) := by decide +kernel
theorem dX12_image_49 : decode cX12_image 49 = .ok (.iload_n 1, 1) := by decide +kernel
theorem dX12_image_50 : decode cX12_image 50 = .ok (.aaload, 1) := by decide +kernel
theorem dX12_image_51 : decode cX12_image 51 = .ok (.iload_n 2, 1) := by decide +kernel
theorem dX12_image_52 : decode cX12_image 52 = .ok (.iaload, 1) := by decide +kernel
theorem dX12_image_53 : decode cX12_image 53 = .ok (.iastore, 1) := by decide +kernel
theorem dX12_image_54 : decode cX12_image 54 = .ok (.iinc 2 1, 3) := by decide +kernel
theorem dX12_image_57 : decode cX12_image 57 = .ok (.goto (-32), 3) := by decide +kernel
theorem dX12_image_60 : decode cX12_image 60 = .ok (.iinc 1 1, 3) := by decide +kernel
theorem dX12_image_63 : decode cX12_image 63 = .ok (.goto (-46), 3) := by decide +kernel
theorem dX12_image_66 : decode cX12_image 66 = .ok (.iconst 0, 1) := by decide +kernel
theorem dX12_image_67 : decode cX12_image 67 = .ok (.istore_n 1, 1) := by decide +kernel
theorem dX12_image_68 : decode cX12_image 68 = .ok (.iload_n 1, 1) := by decide +kernel
theorem dX12_image_69 : decode cX12_image 69 = .ok (.bipush 40, 2) := by decide +kernel
theorem dX12_image_71 : decode cX12_image 71 = .ok (.if_icmp .ge 26, 3) := by decide +kernel
theorem dX12_image_74 : decode cX12_image 74 = .ok (.aload_n 0, 1) := by decide +kernel
theorem dX12_image_75 : decode cX12_image 75 = .ok (.getfield 67, 3) := by decide +kernel
theorem dX12_image_78 : decode cX12_image 78 = .ok (.aload_n 0, 1) := by decide +kernel
theorem dX12_image_79 : decode cX12_image 79 = .ok (.getfield 317, 3) := by decide +kernel
theorem dX12_image_82 : decode cX12_image 82 = .ok (.aaload, 1) := by decide +kernel
theorem dX12_image_83 : decode cX12_image 83 = .ok (.iload_n 1, 1) := by decide +kernel
theorem dX12_image_84 : decode cX12_image 84 = .ok (.aload_n 0, 1) := by decide +kernel
theorem dX12_image_85 : decode cX12_image 85 = .ok (.getfield 58, 3) := by decide +kernel
theorem dX12_image_88 : decode cX12_image 88 = .ok (.iload_n 1, 1) := by decide +kernel
theorem dX12_image_89 : decode cX12_image 89 = .ok (.iaload, 1) := by decide +kernel
theorem dX12_image_90 : decode cX12_image 90 = .ok (.iastore, 1) := by decide +kernel
theorem dX12_image_91 : decode cX12_image 91 = .ok (.iinc 1 1, 3) := by decide +kernel
theorem dX12_image_94 : decode cX12_image 94 = .ok (.goto (-26), 3) := by decide +kernel
theorem dX12_image_97 : decode cX12_image 97 = .ok (.iconst 0, 1) := by decide +kernel
theorem dX12_image_98 : decode cX12_image 98 = .ok (.istore_n 1, 1) := by decide +kernel
theorem dX12_image_99 : decode cX12_image 99 = .ok (.iload_n 1, 1) := by decide +kernel
theorem dX12_image_100 : decode cX12_image 100 = .ok (.bipush 12, 2) := by decide +kernel
theorem dX12_image_102 : decode cX12_image 102 = .ok (.if_icmp .ge 46, 3) := by decide +kernel
theorem dX12_image_105 : decode cX12_image 105 = .ok (.iconst 0, 1) := by decide +kernel
theorem dX12_image_106 : decode cX12_image 106 = .ok (.istore_n 2, 1) := by decide +kernel
theorem dX12_image_107 : decode cX12_image 107 = .ok (.iload_n 2, 1) := by decide +kernel
theorem dX12_image_108 : decode cX12_image 108 = .ok (.iconst 3, 1) := by decide +kernel
theorem dX12_image_109 : decode cX12_image 109 = .ok (.if_icmp .ge 33, 3) := by decide +kernel
theorem dX12_image_112 : decode cX12_image 112 = .ok (.aload_n 0, 1) := by decide +kernel
theorem dX12_image_113 : decode cX12_image 113 = .ok (.getfield 70, 3) := by decide +kernel
theorem dX12_image_116 : decode cX12_image 116 = .ok (.bipush 12, 2) := by decide +kernel
theorem dX12_image_118 : decode cX12_image 118 = .ok (.aload_n 0, 1) := by decide +kernel
theorem dX12_image_119 : decode cX12_image 119 = .ok (.getfield 317, 3) := by decide +kernel
theorem dX12_image_122 : decode cX12_image 122 = .ok (.imul, 1) := by decide +kernel
theorem dX12_image_123 : decode cX12_image 123 = .ok (.iload_n 1, 1) := by decide +kernel
theorem dX12_image_124 : decode cX12_image 124 = .ok (.iadd, 1) := by decide +kernel
theorem dX12_image_125 : decode cX12_image 125 = .ok (.aaload, 1) := by decide +kernel
theorem dX12_image_126 : decode cX12_image 126 = .ok (.iload_n 2, 1) := by decide +kernel
theorem dX12_image_127 : decode cX12_image 127 = .ok (.aload_n 0, 1) := by decide +kernel
theorem dX12_image_128 : decode cX12_image 128 = .ok (.getfield 61, 3) := by decide +kernel
theorem dX12_image_131 : decode cX12_image 131 = .ok (.iload_n 1, 1) := by decide +kernel
theorem dX12_image_132 : decode cX12_image 132 = .ok (.aaload, 1) := by decide +kernel
theorem dX12_image_133 : decode cX12_image 133 = .ok (.iload_n 2, 1) := by decide +kernel
theorem dX12_image_134 : decode cX12_image 134 = .ok (.iaload, 1) := by decide +kernel
theorem dX12_image_135 : decode cX12_image 135 = .ok (.iastore, 1) := by decide +kernel
theorem dX12_image_136 : decode cX12_image 136 = .ok (.iinc 2 1, 3) := by decide +kernel
theorem dX12_image_139 : decode cX12_image 139 = .ok (.goto (-32), 3) := by decide +kernel
theorem dX12_image_142 : decode cX12_image 142 = .ok (.iinc 1 1, 3) := by decide +kernel
theorem dX12_image_145 : decode cX12_image 145 = .ok (.goto (-46), 3) := by decide +kernel
theorem dX12_image_148 : decode cX12_image 148 = .ok (.aload_n 0, 1) := by decide +kernel
theorem dX12_image_149 : decode cX12_image 149 = .ok (.getfield 73, 3) := by decide +kernel
theorem dX12_image_152 : decode cX12_image 152 = .ok (.aload_n 0, 1) := by decide +kernel
theorem dX12_image_153 : decode cX12_image 153 = .ok (.getfield 317, 3) := by decide +kernel
theorem dX12_image_156 : decode cX12_image 156 = .ok (.aaload, 1) := by decide +kernel
theorem dX12_image_157 : decode cX12_image 157 = .ok (.iconst 0, 1) := by decide +kernel
theorem dX12_image_158 : decode cX12_image 158 = .ok (.aload_n 0, 1) := by decide +kernel
theorem dX12_image_159 : decode cX12_image 159 = .ok (.getfield 247, 3) := by decide +kernel
theorem dX12_image_162 : decode cX12_image 162 = .ok (.iastore, 1) := by decide +kernel
theorem dX12_image_163 : decode cX12_image 163 = .ok (.aload_n 0, 1) := by decide +kernel
theorem dX12_image_164 : decode cX12_image 164 = .ok (.getfield 73, 3) := by decide +kernel
theorem dX12_image_167 : decode cX12_image 167 = .ok (.aload_n 0, 1) := by decide +kernel
theorem dX12_image_168 : decode cX12_image 168 = .ok (.getfield 317, 3) := by decide +kernel
theorem dX12_image_171 : decode cX12_image 171 = .ok (.aaload, 1) := by decide +kernel
theorem dX12_image_172 : decode cX12_image 172 = .ok (.iconst 1, 1) := by decide +kernel
theorem dX12_image_173 : decode cX12_image 173 = .ok (.aload_n 0, 1) := by decide +kernel
theorem dX12_image_174 : decode cX12_image 174 = .ok (.getfield 300, 3) := by decide +kernel
theorem dX12_image_177 : decode cX12_image 177 = .ok (.iastore, 1) := by decide +kernel
theorem dX12_image_178 : decode cX12_image 178 = .ok (.aload_n 0, 1) := by decide +kernel
theorem dX12_image_179 : decode cX12_image 179 = .ok (.getfield 73, 3) := by decide +kernel
theorem dX12_image_182 : decode cX12_image 182 = .ok (.aload_n 0, 1) := by decide +kernel
theorem dX12_image_183 : decode cX12_image 183 = .ok (.getfield 317, 3) := by decide +kernel
theorem dX12_image_186 : decode cX12_image 186 = .ok (.aaload, 1) := by decide +kernel
theorem dX12_image_187 : decode cX12_image 187 = .ok (.iconst 2, 1) := by decide +kernel
theorem dX12_image_188 : decode cX12_image 188 = .ok (.aload_n 0, 1) := by decide +kernel
theorem dX12_image_189 : decode cX12_image 189 = .ok (.getfield 306, 3) := by decide +kernel
theorem dX12_image_192 : decode cX12_image 192 = .ok (.iastore, 1) := by decide +kernel
theorem dX12_image_193 : decode cX12_image 193 = .ok (.aload_n 0, 1) := by decide +kernel
theorem dX12_image_194 : decode cX12_image 194 = .ok (.dup, 1) := by decide +kernel
theorem dX12_image_195 : decode cX12_image 195 = .ok (.getfield 317, 3) := by decide +kernel
theorem dX12_image_198 : decode cX12_image 198 = .ok (.iconst 1, 1) := by decide +kernel
theorem dX12_image_199 : decode cX12_image 199 = .ok (.iadd, 1) := by decide +kernel
theorem dX12_image_200 : decode cX12_image 200 = .ok (.putfield 317, 3) := by decide +kernel
theorem dX12_image_203 : decode cX12_image 203 = .ok (.aload_n 0, 1) := by decide +kernel
theorem dX12_image_204 : decode cX12_image 204 = .ok (.getfield 317, 3) := by decide +kernel
theorem dX12_image_207 : decode cX12_image 207 = .ok (.ireturn, 1) := by decide +kernel
theorem dX12_restore_0 : decode cX12_restore 0 = .ok (.aload_n 0, 1) := by decide +kernel
theorem dX12_restore_1 : decode cX12_restore 1 = .ok (.iconst 0, 1) := by decide +kernel
theorem dX12_restore_2 : decode cX12_restore 2 = .ok (.putfield 94, 3) := by decide +kernel
theorem dX12_restore_5 : decode cX12_restore 5 = .ok (.aload_n 0, 1) := by decide +kernel
theorem dX12_restore_6 : decode cX12_restore 6 = .ok (.getfield 317, 3) := by decide +kernel
theorem dX12_restore_9 : decode cX12_restore 9 = .ok (.ifCond .ne 5, 3) := by decide +kernel
theorem dX12_restore_12 : decode cX12_restore 12 = .ok (.iconst (-1), 1) := by decide +kernel
theorem dX12_restore_13 : decode cX12_restore 13 = .ok (.ireturn, 1) := by decide +kernel
theorem dX12_restore_14 : decode cX12_restore 14 = .ok (.aload_n 0, 1) := by decide +kernel
theorem dX12_restore_15 : decode cX12_restore 15 = .ok (.dup, 1) := by decide +kernel
theorem dX12_restore_16 : decode cX12_restore 16 = .ok (.getfield 317, 3) := by decide +kernel
theorem dX12_restore_19 : decode cX12_restore 19 = .ok (.iconst 1, 1) := by decide +kernel
theorem dX12_restore_20 : decode cX12_restore 20 = .ok (.isub, 1) := by decide +kernel
theorem dX12_restore_21 : decode cX12_restore 21 = .ok (.putfield 317, 3) := by decide +kernel
theorem dX12_restore_24 : decode cX12_restore 24 = .ok (.iconst 0, 1) := by decide +kernel
theorem dX12_restore_25 : decode cX12_restore 25 = .ok (.istore_n 1, 1) := by decide +kernel
theorem dX12_restore_26 : decode cX12_restore 26 = .ok (.iload_n 1, 1) := by decide +kernel
theorem dX12_restore_27 : decode cX12_restore 27 = .ok (.bipush 8, 2) := by decide +kernel
theorem dX12_restore_29 : decode cX12_restore 29 = .ok (.if_icmp .ge 46, 3) := by decide +kernel
theorem dX12_restore_32 : decode cX12_restore 32 = .ok (.iconst 0, 1) := by decide +kernel
theorem dX12_restore_33 : decode cX12_restore 33 = .ok (.istore_n 2, 1) := by decide +kernel
theorem dX12_restore_34 : decode cX12_restore 34 = .ok (.iload_n 2, 1) := by decide +kernel
theorem dX12_restore_35 : decode cX12_restore 35 = .ok (.iconst 4, 1) := by decide +kernel
theorem dX12_restore_36 : decode cX12_restore 36 = .ok (.if_icmp .ge 33, 3) := by decide +kernel
theorem dX12_restore_39 : decode cX12_restore 39 = .ok (.aload_n 0, 1) := by decide +kernel
theorem dX12_restore_40 : decode cX12_restore 40 = .ok (.getfield 55, 3) := by decide +kernel
theorem dX12_restore_43 : decode cX12_restore 43 = .ok (.iload_n 1, 1) := by decide +kernel
theorem dX12_restore_44 : decode cX12_restore 44 = .ok (.aaload, 1) := by decide +kernel
theorem dX12_restore_45 : decode cX12_restore 45 = .ok (.iload_n 2, 1) := by decide +kernel
theorem dX12_restore_46 : decode cX12_restore 46 = .ok (.aload_n 0, 1) := by decide +kernel
theorem dX12_restore_47 : decode cX12_restore 47 = .ok (.getfield 64, 3) := by decide +kernel
theorem dX12_restore_50 : decode cX12_restore 50 = .ok (.bipush 8, 2) := by decide +kernel
theorem dX12_restore_52 : decode cX12_restore 52 = .ok (.aload_n 0, 1) := by decide +kernel
theorem dX12_restore_53 : decode cX12_restore 53 = .ok (.getfield 317, 3) := by decide +kernel
theorem dX12_restore_56 : decode cX12_restore 56 = .ok (.imul, 1) := by decide +kernel
theorem dX12_restore_57 : decode cX12_restore 57 = .ok (.iload_n 1, 1) := by decide +kernel
theorem dX12_restore_58 : decode cX12_restore 58 = .ok (.iadd, 1) := by decide +kernel
theorem dX12_restore_59 : decode cX12_restore 59 = .ok (.aaload, 1) := by decide +kernel
theorem dX12_restore_60 : decode cX12_restore 60 = .ok (.iload_n 2, 1) := by decide +kernel
theorem dX12_restore_61 : decode cX12_restore 61 = .ok (.iaload, 1) := by decide +kernel
theorem dX12_restore_62 : decode cX12_restore 62 = .ok (.iastore, 1) := by decide +kernel
theorem dX12_restore_63 : decode cX12_restore 63 = .ok (.iinc 2 1, 3) := by decide +kernel
theorem dX12_restore_66 : decode cX12_restore 66 = .ok (.goto (-32), 3) := by decide +kernel
theorem dX12_restore_69 : decode cX12_restore 69 = .ok (.iinc 1 1, 3) := by decide +kernel
theorem dX12_restore_72 : decode cX12_restore 72 = .ok (.goto (-46), 3) := by decide +kernel
theorem dX12_restore_75 : decode cX12_restore 75 = .ok (.iconst 0, 1) := by decide +kernel
theorem dX12_restore_76 : decode cX12_restore 76 = .ok (.istore_n 1, 1) := by decide +kernel
theorem dX12_restore_77 : decode cX12_restore 77 = .ok (.iload_n 1, 1) := by decide +kernel
theorem dX12_restore_78 : decode cX12_restore 78 = .ok (.bipush 40, 2) := by decide +kernel
theorem dX12_restore_80 : decode cX12_restore 80 = .ok (.if_icmp .ge 26, 3) := by decide +kernel
theorem dX12_restore_83 : decode cX12_restore 83 = .ok (.aload_n 0, 1) := by decide +kernel
theorem dX12_restore_84 : decode cX12_restore 84 = .ok (.getfield 58, 3) := by decide +kernel
theorem dX12_restore_87 : decode cX12_restore 87 = .ok (.iload_n 1, 1) := by decide +kernel
theorem dX12_restore_88 : decode cX12_restore 88 = .ok (.aload_n 0, 1) := by decide +kernel
theorem dX12_restore_89 : decode cX12_restore 89 = .ok (.getfield 67, 3) := by decide +kernel
theorem dX12_restore_92 : decode cX12_restore 92 = .ok (.aload_n 0, 1) := by decide +kernel
theorem dX12_restore_93 : decode cX12_restore 93 = .ok (.getfield 317, 3) := by decide +kernel
theorem dX12_restore_96 : decode cX12_restore 96 = .ok (.aaload, 1) := by decide +kernel
theorem dX12_restore_97 : decode cX12_restore 97 = .ok (.iload_n 1, 1) := by decide +kernel
theorem dX12_restore_98 : decode cX12_restore 98 = .ok (.iaload, 1) := by decide +kernel
theorem dX12_restore_99 : decode cX12_restore 99 = .ok (.iastore, 1) := by decide +kernel
theorem dX12_restore_100 : decode cX12_restore 100 = .ok (.iinc 1 1, 3) := by decide +kernel
theorem dX12_restore_103 : decode cX12_restore 103 = .ok (.goto (-26), 3) := by decide +kernel
theorem dX12_restore_106 : decode cX12_restore 106 = .ok (.iconst 0, 1) := by decide +kernel
theorem dX12_restore_107 : decode cX12_restore 107 = .ok (.istore_n 1, 1) := by decide +kernel
theorem dX12_restore_108 : decode cX12_restore 108 = .ok (.iload_n 1, 1) := by decide +kernel
theorem dX12_restore_109 : decode cX12_restore 109 = .ok (.bipush 12, 2) := by decide +kernel
theorem dX12_restore_111 : decode cX12_restore 111 = .ok (.if_icmp .ge 46, 3) := by decide +kernel
theorem dX12_restore_114 : decode cX12_restore 114 = .ok (.iconst 0, 1) := by decide +kernel
theorem dX12_restore_115 : decode cX12_restore 115 = .ok (.istore_n 2, 1) := by decide +kernel
theorem dX12_restore_116 : decode cX12_restore 116 = .ok (.iload_n 2, 1) := by decide +kernel
theorem dX12_restore_117 : decode cX12_restore 117 = .ok (.iconst 3, 1) := by decide +kernel
theorem dX12_restore_118 : decode cX12_restore 118 = .ok (.if_icmp .ge 33, 3) := by decide +kernel
theorem dX12_restore_121 : decode cX12_restore 121 = .ok (.aload_n 0, 1) := by decide +kernel
theorem dX12_restore_122 : decode cX12_restore 122 = .ok (.getfield 61, 3) := by decide +kernel
theorem dX12_restore_125 : decode cX12_restore 125 = .ok (.iload_n 1, 1) := by decide +kernel
theorem dX12_restore_126 : decode cX12_restore 126 = .ok (.aaload, 1) := by decide +kernel
theorem dX12_restore_127 : decode cX12_restore 127 = .ok (.iload_n 2, 1) := by decide +kernel
theorem dX12_restore_128 : decode cX12_restore 128 = .ok (.aload_n 0, 1) := by decide +kernel
theorem dX12_restore_129 : decode cX12_restore 129 = .ok (.getfield 70, 3) := by decide +kernel
theorem dX12_restore_132 : decode cX12_restore 132 = .ok (.bipush 12, 2) := by decide +kernel
theorem dX12_restore_134 : decode cX12_restore 134 = .ok (.aload_n 0, 1) := by decide +kernel
theorem dX12_restore_135 : decode cX12_restore 135 = .ok (.getfield 317, 3) := by decide +kernel
theorem dX12_restore_138 : decode cX12_restore 138 = .ok (.imul, 1) := by decide +kernel
theorem dX12_restore_139 : decode cX12_restore 139 = .ok (.iload_n 1, 1) := by decide +kernel
theorem dX12_restore_140 : decode cX12_restore 140 = .ok (.iadd, 1) := by decide +kernel
theorem dX12_restore_141 : decode cX12_restore 141 = .ok (.aaload, 1) := by decide +kernel
theorem dX12_restore_142 : decode cX12_restore 142 = .ok (.iload_n 2, 1) := by decide +kernel
theorem dX12_restore_143 : decode cX12_restore 143 = .ok (.iaload, 1) := by decide +kernel
theorem dX12_restore_144 : decode cX12_restore 144 = .ok (.iastore, 1) := by decide +kernel
theorem dX12_restore_145 : decode cX12_restore 145 = .ok (.iinc 2 1, 3) := by decide +kernel
theorem dX12_restore_148 : decode cX12_restore 148 = .ok (.goto (-32), 3) := by decide +kernel
theorem dX12_restore_151 : decode cX12_restore 151 = .ok (.iinc 1 1, 3) := by decide +kernel
theorem dX12_restore_154 : decode cX12_restore 154 = .ok (.goto (-46), 3) := by decide +kernel
theorem dX12_restore_157 : decode cX12_restore 157 = .ok (.aload_n 0, 1) := by decide +kernel
theorem dX12_restore_158 : decode cX12_restore 158 = .ok (.aload_n 0, 1) := by decide +kernel
theorem dX12_restore_159 : decode cX12_restore 159 = .ok (.getfield 73, 3) := by decide +kernel
theorem dX12_restore_162 : decode cX12_restore 162 = .ok (.aload_n 0, 1) := by decide +kernel
theorem dX12_restore_163 : decode cX12_restore 163 = .ok (.getfield 317, 3) := by decide +kernel
theorem dX12_restore_166 : decode cX12_restore 166 = .ok (.aaload, 1) := by decide +kernel
theorem dX12_restore_167 : decode cX12_restore 167 = .ok (.iconst 0, 1) := by decide +kernel
theorem dX12_restore_168 : decode cX12_restore 168 = .ok (.iaload, 1) := by decide +kernel
theorem dX12_restore_169 : decode cX12_restore 169 = .ok (.putfield 247, 3) := by decide +kernel
theorem dX12_restore_172 : decode cX12_restore 172 = .ok (.aload_n 0, 1) := by decide +kernel
theorem dX12_restore_173 : decode cX12_restore 173 = .ok (.aload_n 0, 1) := by decide +kernel
theorem dX12_restore_174 : decode cX12_restore 174 = .ok (.getfield 73, 3) := by decide +kernel
theorem dX12_restore_177 : decode cX12_restore 177 = .ok (.aload_n 0, 1) := by decide +kernel
theorem dX12_restore_178 : decode cX12_restore 178 = .ok (.getfield 317, 3) := by decide +kernel
theorem dX12_restore_181 : decode cX12_restore 181 = .ok (.aaload, 1) := by decide +kernel
theorem dX12_restore_182 : decode cX12_restore 182 = .ok (.iconst 1, 1) := by decide +kernel
theorem dX12_restore_183 : decode cX12_restore 183 = .ok (.iaload, 1) := by decide +kernel
theorem dX12_restore_184 : decode cX12_restore 184 = .ok (.putfield 300, 3) := by decide +kernel
theorem dX12_restore_187 : decode cX12_restore 187 = .ok (.aload_n 0, 1) := by decide +kernel
theorem dX12_restore_188 : decode cX12_restore 188 = .ok (.aload_n 0, 1) := by decide +kernel
theorem dX12_restore_189 : decode cX12_restore 189 = .ok (.getfield 73, 3) := by decide +kernel
theorem dX12_restore_192 : decode cX12_restore 192 = .ok (.aload_n 0, 1) := by decide +kernel
theorem dX12_restore_193 : decode cX12_restore 193 = .ok (.getfield 317, 3) := by decide +kernel
theorem dX12_restore_196 : decode cX12_restore 196 = .ok (.aaload, 1) := by decide +kernel
theorem dX12_restore_197 : decode cX12_restore 197 = .ok (.iconst 2, 1) := by decide +kernel
theorem dX12_restore_198 : decode cX12_restore 198 = .ok (.iaload, 1) := by decide +kernel
theorem dX12_restore_199 : decode cX12_restore 199 = .ok (.putfield 306, 3) := by decide +kernel
theorem dX12_restore_202 : decode cX12_restore 202 = .ok (.aload_n 0, 1) := by decide +kernel
theorem dX12_restore_203 : decode cX12_restore 203 = .ok (.getfield 317, 3) := by decide +kernel
theorem dX12_restore_206 : decode cX12_restore 206 = .ok (.ireturn, 1) := by decide +kernel
theorem dX12_count_0 : decode cX12_count 0 = .ok (.aload_n 0, 1) := by decide +kernel
theorem dX12_count_1 : decode cX12_count 1 = .ok (.iconst 0, 1) := by decide +kernel
theorem dX12_count_2 : decode cX12_count 2 = .ok (.putfield 94, 3) := by decide +kernel
theorem dX12_count_5 : decode cX12_count 5 = .ok (.iload_n 1, 1) := by decide +kernel
theorem dX12_count_6 : decode cX12_count 6 = .ok (.tableswitch 77 0 6 #[42, 47, 52, 57, 62, 67, 72], 42) := by decide +kernel
theorem dX12_count_48 : decode cX12_count 48 = .ok (.aload_n 0, 1) := by decide +kernel
theorem dX12_count_49 : decode cX12_count 49 = .ok (.getfield 180, 3) := by decide +kernel
theorem dX12_count_52 : decode cX12_count 52 = .ok (.ireturn, 1) := by decide +kernel
theorem dX12_count_53 : decode cX12_count 53 = .ok (.aload_n 0, 1) := by decide +kernel
theorem dX12_count_54 : decode cX12_count 54 = .ok (.getfield 196, 3) := by decide +kernel
theorem dX12_count_57 : decode cX12_count 57 = .ok (.ireturn, 1) := by decide +kernel
theorem dX12_count_58 : decode cX12_count 58 = .ok (.aload_n 0, 1) := by decide +kernel
theorem dX12_count_59 : decode cX12_count 59 = .ok (.getfield 247, 3) := by decide +kernel
theorem dX12_count_62 : decode cX12_count 62 = .ok (.ireturn, 1) := by decide +kernel
theorem dX12_count_63 : decode cX12_count 63 = .ok (.aload_n 0, 1) := by decide +kernel
theorem dX12_count_64 : decode cX12_count 64 = .ok (.getfield 300, 3) := by decide +kernel
theorem dX12_count_67 : decode cX12_count 67 = .ok (.ireturn, 1) := by decide +kernel
theorem dX12_count_68 : decode cX12_count 68 = .ok (.aload_n 0, 1) := by decide +kernel
theorem dX12_count_69 : decode cX12_count 69 = .ok (.getfield 306, 3) := by decide +kernel
theorem dX12_count_72 : decode cX12_count 72 = .ok (.ireturn, 1) := by decide +kernel
theorem dX12_count_73 : decode cX12_count 73 = .ok (.aload_n 0, 1) := by decide +kernel
theorem dX12_count_74 : decode cX12_count 74 = .ok (.getfield 317, 3) := by decide +kernel
theorem dX12_count_77 : decode cX12_count 77 = .ok (.ireturn, 1) := by decide +kernel
theorem dX12_count_78 : decode cX12_count 78 = .ok (.aload_n 0, 1) := by decide +kernel
theorem dX12_count_79 : decode cX12_count 79 = .ok (.getfield 97, 3) := by decide +kernel
theorem dX12_count_82 : decode cX12_count 82 = .ok (.ireturn, 1) := by decide +kernel
theorem dX12_count_83 : decode cX12_count 83 = .ok (.iconst (-1), 1) := by decide +kernel
theorem dX12_count_84 : decode cX12_count 84 = .ok (.ireturn, 1) := by decide +kernel
theorem dJ9_abs_0f7a4_0 : decode cJ9_abs_0f7a4 0 = .ok (.iload_n 0, 1) := by decide +kernel
theorem dJ9_abs_0f7a4_1 : decode cJ9_abs_0f7a4 1 = .ok (.ifCond .ge 8, 3) := by decide +kernel
theorem dJ9_abs_0f7a4_4 : decode cJ9_abs_0f7a4 4 = .ok (.iload_n 0, 1) := by decide +kernel
theorem dJ9_abs_0f7a4_5 : decode cJ9_abs_0f7a4 5 = .ok (.ineg, 1) := by decide +kernel
theorem dJ9_abs_0f7a4_6 : decode cJ9_abs_0f7a4 6 = .ok (.goto 4, 3) := by decide +kernel
theorem dJ9_abs_0f7a4_9 : decode cJ9_abs_0f7a4 9 = .ok (.iload_n 0, 1) := by decide +kernel
theorem dJ9_abs_0f7a4_10 : decode cJ9_abs_0f7a4 10 = .ok (.ireturn, 1) := by decide +kernel
theorem dJ9_max_7cf53_0 : decode cJ9_max_7cf53 0 = .ok (.iload_n 0, 1) := by decide +kernel
theorem dJ9_max_7cf53_1 : decode cJ9_max_7cf53 1 = .ok (.iload_n 1, 1) := by decide +kernel
theorem dJ9_max_7cf53_2 : decode cJ9_max_7cf53 2 = .ok (.if_icmp .lt 7, 3) := by decide +kernel
theorem dJ9_max_7cf53_5 : decode cJ9_max_7cf53 5 = .ok (.iload_n 0, 1) := by decide +kernel
theorem dJ9_max_7cf53_6 : decode cJ9_max_7cf53 6 = .ok (.goto 4, 3) := by decide +kernel
theorem dJ9_max_7cf53_9 : decode cJ9_max_7cf53 9 = .ok (.iload_n 1, 1) := by decide +kernel
theorem dJ9_max_7cf53_10 : decode cJ9_max_7cf53 10 = .ok (.ireturn, 1) := by decide +kernel
theorem dJ9_min_7cf53_0 : decode cJ9_min_7cf53 0 = .ok (.iload_n 0, 1) := by decide +kernel
theorem dJ9_min_7cf53_1 : decode cJ9_min_7cf53 1 = .ok (.iload_n 1, 1) := by decide +kernel
theorem dJ9_min_7cf53_2 : decode cJ9_min_7cf53 2 = .ok (.if_icmp .gt 7, 3) := by decide +kernel
theorem dJ9_min_7cf53_5 : decode cJ9_min_7cf53 5 = .ok (.iload_n 0, 1) := by decide +kernel
theorem dJ9_min_7cf53_6 : decode cJ9_min_7cf53 6 = .ok (.goto 4, 3) := by decide +kernel
theorem dJ9_min_7cf53_9 : decode cJ9_min_7cf53 9 = .ok (.iload_n 1, 1) := by decide +kernel
theorem dJ9_min_7cf53_10 : decode cJ9_min_7cf53 10 = .ok (.ireturn, 1) := by decide +kernel
theorem dJ0_length_8abf5_0 : decode cJ0_length_8abf5 0 = .ok (.aload_n 0, 1) := by decide +kernel
theorem dJ0_length_8abf5_1 : decode cJ0_length_8abf5 1 = .ok (.getfield 9, 3) := by decide +kernel
theorem dJ0_length_8abf5_4 : decode cJ0_length_8abf5 4 = .ok (.arraylength, 1) := by decide +kernel
theorem dJ0_length_8abf5_5 : decode cJ0_length_8abf5 5 = .ok (.aload_n 0, 1) := by decide +kernel
theorem dJ0_length_8abf5_6 : decode cJ0_length_8abf5 6 = .ok (.invokevirtual 335, 3) := by decide +kernel
theorem dJ0_length_8abf5_9 : decode cJ0_length_8abf5 9 = .ok (.ishr, 1) := by decide +kernel
theorem dJ0_length_8abf5_10 : decode cJ0_length_8abf5 10 = .ok (.ireturn, 1) := by decide +kernel
theorem dJ0_charAt_5068e_0 : decode cJ0_charAt_5068e 0 = .ok (.aload_n 0, 1) := by decide +kernel
theorem dJ0_charAt_5068e_1 : decode cJ0_charAt_5068e 1 = .ok (.invokevirtual 492, 3) := by decide +kernel
theorem dJ0_charAt_5068e_4 : decode cJ0_charAt_5068e 4 = .ok (.ifCond .eq 12, 3) := by decide +kernel
theorem dJ0_charAt_5068e_7 : decode cJ0_charAt_5068e 7 = .ok (.aload_n 0, 1) := by decide +kernel
theorem dJ0_charAt_5068e_8 : decode cJ0_charAt_5068e 8 = .ok (.getfield 9, 3) := by decide +kernel
theorem dJ0_charAt_5068e_11 : decode cJ0_charAt_5068e 11 = .ok (.iload_n 1, 1) := by decide +kernel
theorem dJ0_charAt_5068e_12 : decode cJ0_charAt_5068e 12 = .ok (.invokestatic 495, 3) := by decide +kernel
theorem dJ0_charAt_5068e_15 : decode cJ0_charAt_5068e 15 = .ok (.ireturn, 1) := by decide +kernel
theorem dJ0_charAt_5068e_16 : decode cJ0_charAt_5068e 16 = .ok (.aload_n 0, 1) := by decide +kernel
theorem dJ0_charAt_5068e_17 : decode cJ0_charAt_5068e 17 = .ok (.getfield 9, 3) := by decide +kernel
theorem dJ0_charAt_5068e_20 : decode cJ0_charAt_5068e 20 = .ok (.iload_n 1, 1) := by decide +kernel
theorem dJ0_charAt_5068e_21 : decode cJ0_charAt_5068e 21 = .ok (.invokestatic 498, 3) := by decide +kernel
theorem dJ0_charAt_5068e_24 : decode cJ0_charAt_5068e 24 = .ok (.ireturn, 1) := by decide +kernel
theorem dJ0_coder_7d493_0 : decode cJ0_coder_7d493 0 = .ok (.getstatic 38, 3) := by decide +kernel
theorem dJ0_coder_7d493_3 : decode cJ0_coder_7d493 3 = .ok (.ifCond .eq 10, 3) := by decide +kernel
theorem dJ0_coder_7d493_6 : decode cJ0_coder_7d493 6 = .ok (.aload_n 0, 1) := by decide +kernel
theorem dJ0_coder_7d493_7 : decode cJ0_coder_7d493 7 = .ok (.getfield 15, 3) := by decide +kernel
theorem dJ0_coder_7d493_10 : decode cJ0_coder_7d493 10 = .ok (.goto 4, 3) := by decide +kernel
theorem dJ0_coder_7d493_13 : decode cJ0_coder_7d493 13 = .ok (.iconst 1, 1) := by decide +kernel
theorem dJ0_coder_7d493_14 : decode cJ0_coder_7d493 14 = .ok (.ireturn, 1) := by decide +kernel
theorem dJ0_isLatin1_aae02_0 : decode cJ0_isLatin1_aae02 0 = .ok (.getstatic 38, 3) := by decide +kernel
theorem dJ0_isLatin1_aae02_3 : decode cJ0_isLatin1_aae02 3 = .ok (.ifCond .eq 14, 3) := by decide +kernel
theorem dJ0_isLatin1_aae02_6 : decode cJ0_isLatin1_aae02 6 = .ok (.aload_n 0, 1) := by decide +kernel
theorem dJ0_isLatin1_aae02_7 : decode cJ0_isLatin1_aae02 7 = .ok (.getfield 15, 3) := by decide +kernel
theorem dJ0_isLatin1_aae02_10 : decode cJ0_isLatin1_aae02 10 = .ok (.ifCond .ne 7, 3) := by decide +kernel
theorem dJ0_isLatin1_aae02_13 : decode cJ0_isLatin1_aae02 13 = .ok (.iconst 1, 1) := by decide +kernel
theorem dJ0_isLatin1_aae02_14 : decode cJ0_isLatin1_aae02 14 = .ok (.goto 4, 3) := by decide +kernel
theorem dJ0_isLatin1_aae02_17 : decode cJ0_isLatin1_aae02 17 = .ok (.iconst 0, 1) := by decide +kernel
theorem dJ0_isLatin1_aae02_18 : decode cJ0_isLatin1_aae02 18 = .ok (.ireturn, 1) := by decide +kernel
theorem dJ0_checkIndex_df160_0 : decode cJ0_checkIndex_df160 0 = .ok (.iload_n 0, 1) := by decide +kernel
theorem dJ0_checkIndex_df160_1 : decode cJ0_checkIndex_df160 1 = .ok (.iload_n 1, 1) := by decide +kernel
theorem dJ0_checkIndex_df160_2 : decode cJ0_checkIndex_df160 2 = .ok (.getstatic 1053, 3) := by decide +kernel
theorem dJ0_checkIndex_df160_5 : decode cJ0_checkIndex_df160 5 = .ok (.invokestatic 1059, 3) := by decide +kernel
theorem dJ0_checkIndex_df160_8 : decode cJ0_checkIndex_df160 8 = .ok (.pop, 1) := by decide +kernel
theorem dJ0_checkIndex_df160_9 : decode cJ0_checkIndex_df160 9 = .ok (.return_, 1) := by decide +kernel
theorem dJ1_charAt_3b067_0 : decode cJ1_charAt_3b067 0 = .ok (.iload_n 1, 1) := by decide +kernel
theorem dJ1_charAt_3b067_1 : decode cJ1_charAt_3b067 1 = .ok (.aload_n 0, 1) := by decide +kernel
theorem dJ1_charAt_3b067_2 : decode cJ1_charAt_3b067 2 = .ok (.arraylength, 1) := by decide +kernel
theorem dJ1_charAt_3b067_3 : decode cJ1_charAt_3b067 3 = .ok (.invokestatic 9, 3) := by decide +kernel
theorem dJ1_charAt_3b067_6 : decode cJ1_charAt_3b067 6 = .ok (.aload_n 0, 1) := by decide +kernel
theorem dJ1_charAt_3b067_7 : decode cJ1_charAt_3b067 7 = .ok (.iload_n 1, 1) := by decide +kernel
theorem dJ1_charAt_3b067_8 : decode cJ1_charAt_3b067 8 = .ok (.baload, 1) := by decide +kernel
theorem dJ1_charAt_3b067_9 : decode cJ1_charAt_3b067 9 = .ok (.sipush 255, 3) := by decide +kernel
theorem dJ1_charAt_3b067_12 : decode cJ1_charAt_3b067 12 = .ok (.iand, 1) := by decide +kernel
theorem dJ1_charAt_3b067_13 : decode cJ1_charAt_3b067 13 = .ok (.i2c, 1) := by decide +kernel
theorem dJ1_charAt_3b067_14 : decode cJ1_charAt_3b067 14 = .ok (.ireturn, 1) := by decide +kernel
theorem dJ2_getChar_3b067_0 : decode cJ2_getChar_3b067 0 = .ok (.getstatic 44, 3) := by decide +kernel
theorem dJ2_getChar_3b067_3 : decode cJ2_getChar_3b067 3 = .ok (.ifCond .ne 25, 3) := by decide +kernel
theorem dJ2_getChar_3b067_6 : decode cJ2_getChar_3b067 6 = .ok (.iload_n 1, 1) := by decide +kernel
theorem dJ2_getChar_3b067_7 : decode cJ2_getChar_3b067 7 = .ok (.ifCond .lt 11, 3) := by decide +kernel
theorem dJ2_getChar_3b067_10 : decode cJ2_getChar_3b067 10 = .ok (.iload_n 1, 1) := by decide +kernel
theorem dJ2_getChar_3b067_11 : decode cJ2_getChar_3b067 11 = .ok (.aload_n 0, 1) := by decide +kernel
theorem dJ2_getChar_3b067_12 : decode cJ2_getChar_3b067 12 = .ok (.invokestatic 48, 3) := by decide +kernel
theorem dJ2_getChar_3b067_15 : decode cJ2_getChar_3b067 15 = .ok (.if_icmp .lt 13, 3) := by decide +kernel
theorem dJ2_getChar_3b067_18 : decode cJ2_getChar_3b067 18 = .ok (.new 52, 3) := by decide +kernel
theorem dJ2_getChar_3b067_21 : decode cJ2_getChar_3b067 21 = .ok (.dup, 1) := by decide +kernel
theorem dJ2_getChar_3b067_22 : decode cJ2_getChar_3b067 22 = .ok (.ldc 54, 2) := by decide +kernel
theorem dJ2_getChar_3b067_24 : decode cJ2_getChar_3b067 24 = .ok (.invokespecial 56, 3) := by decide +kernel
theorem dJ2_getChar_3b067_27 : decode cJ2_getChar_3b067 27 = .ok (.athrow, 1) := by decide +kernel
theorem dJ2_getChar_3b067_28 : decode cJ2_getChar_3b067 28 = .ok (.iload_n 1, 1) := by decide +kernel
theorem dJ2_getChar_3b067_29 : decode cJ2_getChar_3b067 29 = .ok (.iconst 1, 1) := by decide +kernel
theorem dJ2_getChar_3b067_30 : decode cJ2_getChar_3b067 30 = .ok (.ishl, 1) := by decide +kernel
theorem dJ2_getChar_3b067_31 : decode cJ2_getChar_3b067 31 = .ok (.istore_n 1, 1) := by decide +kernel
theorem dJ2_getChar_3b067_32 : decode cJ2_getChar_3b067 32 = .ok (.aload_n 0, 1) := by decide +kernel
theorem dJ2_getChar_3b067_33 : decode cJ2_getChar_3b067 33 = .ok (.iload_n 1, 1) := by decide +kernel
theorem dJ2_getChar_3b067_34 : decode cJ2_getChar_3b067 34 = .ok (.iinc 1 1, 3) := by decide +kernel
theorem dJ2_getChar_3b067_37 : decode cJ2_getChar_3b067 37 = .ok (.baload, 1) := by decide +kernel
theorem dJ2_getChar_3b067_38 : decode cJ2_getChar_3b067 38 = .ok (.sipush 255, 3) := by decide +kernel
theorem dJ2_getChar_3b067_41 : decode cJ2_getChar_3b067 41 = .ok (.iand, 1) := by decide +kernel
theorem dJ2_getChar_3b067_42 : decode cJ2_getChar_3b067 42 = .ok (.getstatic 59, 3) := by decide +kernel
theorem dJ2_getChar_3b067_45 : decode cJ2_getChar_3b067 45 = .ok (.ishl, 1) := by decide +kernel
theorem dJ2_getChar_3b067_46 : decode cJ2_getChar_3b067 46 = .ok (.aload_n 0, 1) := by decide +kernel
theorem dJ2_getChar_3b067_47 : decode cJ2_getChar_3b067 47 = .ok (.iload_n 1, 1) := by decide +kernel
theorem dJ2_getChar_3b067_48 : decode cJ2_getChar_3b067 48 = .ok (.baload, 1) := by decide +kernel
theorem dJ2_getChar_3b067_49 : decode cJ2_getChar_3b067 49 = .ok (.sipush 255, 3) := by decide +kernel
theorem dJ2_getChar_3b067_52 : decode cJ2_getChar_3b067 52 = .ok (.iand, 1) := by decide +kernel
theorem dJ2_getChar_3b067_53 : decode cJ2_getChar_3b067 53 = .ok (.getstatic 63, 3) := by decide +kernel
theorem dJ2_getChar_3b067_56 : decode cJ2_getChar_3b067 56 = .ok (.ishl, 1) := by decide +kernel
theorem dJ2_getChar_3b067_57 : decode cJ2_getChar_3b067 57 = .ok (.ior, 1) := by decide +kernel
theorem dJ2_getChar_3b067_58 : decode cJ2_getChar_3b067 58 = .ok (.i2c, 1) := by decide +kernel
theorem dJ2_getChar_3b067_59 : decode cJ2_getChar_3b067 59 = .ok (.ireturn, 1) := by decide +kernel
theorem dJ2_length_9d52b_0 : decode cJ2_length_9d52b 0 = .ok (.aload_n 0, 1) := by decide +kernel
theorem dJ2_length_9d52b_1 : decode cJ2_length_9d52b 1 = .ok (.arraylength, 1) := by decide +kernel
theorem dJ2_length_9d52b_2 : decode cJ2_length_9d52b 2 = .ok (.iconst 1, 1) := by decide +kernel
theorem dJ2_length_9d52b_3 : decode cJ2_length_9d52b 3 = .ok (.ishr, 1) := by decide +kernel
theorem dJ2_length_9d52b_4 : decode cJ2_length_9d52b 4 = .ok (.ireturn, 1) := by decide +kernel
theorem dJ2_charAt_3b067_0 : decode cJ2_charAt_3b067 0 = .ok (.iload_n 1, 1) := by decide +kernel
theorem dJ2_charAt_3b067_1 : decode cJ2_charAt_3b067 1 = .ok (.aload_n 0, 1) := by decide +kernel
theorem dJ2_charAt_3b067_2 : decode cJ2_charAt_3b067 2 = .ok (.invokestatic 67, 3) := by decide +kernel
theorem dJ2_charAt_3b067_5 : decode cJ2_charAt_3b067 5 = .ok (.aload_n 0, 1) := by decide +kernel
theorem dJ2_charAt_3b067_6 : decode cJ2_charAt_3b067 6 = .ok (.iload_n 1, 1) := by decide +kernel
theorem dJ2_charAt_3b067_7 : decode cJ2_charAt_3b067 7 = .ok (.invokestatic 71, 3) := by decide +kernel
theorem dJ2_charAt_3b067_10 : decode cJ2_charAt_3b067 10 = .ok (.ireturn, 1) := by decide +kernel
theorem dJ2_checkIndex_2214a_0 : decode cJ2_checkIndex_2214a 0 = .ok (.iload_n 0, 1) := by decide +kernel
theorem dJ2_checkIndex_2214a_1 : decode cJ2_checkIndex_2214a 1 = .ok (.aload_n 1, 1) := by decide +kernel
theorem dJ2_checkIndex_2214a_2 : decode cJ2_checkIndex_2214a 2 = .ok (.invokestatic 48, 3) := by decide +kernel
theorem dJ2_checkIndex_2214a_5 : decode cJ2_checkIndex_2214a 5 = .ok (.invokestatic 414, 3) := by decide +kernel
theorem dJ2_checkIndex_2214a_8 : decode cJ2_checkIndex_2214a 8 = .ok (.return_, 1) := by decide +kernel
theorem dJ7_fill_53178_0 : decode cJ7_fill_53178 0 = .ok (.iconst 0, 1) := by decide +kernel
theorem dJ7_fill_53178_1 : decode cJ7_fill_53178 1 = .ok (.istore_n 2, 1) := by decide +kernel
theorem dJ7_fill_53178_2 : decode cJ7_fill_53178 2 = .ok (.aload_n 0, 1) := by decide +kernel
theorem dJ7_fill_53178_3 : decode cJ7_fill_53178 3 = .ok (.arraylength, 1) := by decide +kernel
theorem dJ7_fill_53178_4 : decode cJ7_fill_53178 4 = .ok (.istore_n 3, 1) := by decide +kernel
theorem dJ7_fill_53178_5 : decode cJ7_fill_53178 5 = .ok (.iload_n 2, 1) := by decide +kernel
theorem dJ7_fill_53178_6 : decode cJ7_fill_53178 6 = .ok (.iload_n 3, 1) := by decide +kernel
theorem dJ7_fill_53178_7 : decode cJ7_fill_53178 7 = .ok (.if_icmp .ge 13, 3) := by decide +kernel
theorem dJ7_fill_53178_10 : decode cJ7_fill_53178 10 = .ok (.aload_n 0, 1) := by decide +kernel
theorem dJ7_fill_53178_11 : decode cJ7_fill_53178 11 = .ok (.iload_n 2, 1) := by decide +kernel
theorem dJ7_fill_53178_12 : decode cJ7_fill_53178 12 = .ok (.iload_n 1, 1) := by decide +kernel
theorem dJ7_fill_53178_13 : decode cJ7_fill_53178 13 = .ok (.iastore, 1) := by decide +kernel
theorem dJ7_fill_53178_14 : decode cJ7_fill_53178 14 = .ok (.iinc 2 1, 3) := by decide +kernel
theorem dJ7_fill_53178_17 : decode cJ7_fill_53178 17 = .ok (.goto (-12), 3) := by decide +kernel
theorem dJ7_fill_53178_20 : decode cJ7_fill_53178 20 = .ok (.return_, 1) := by decide +kernel
theorem dJ3_checkIndex_8e157_0 : decode cJ3_checkIndex_8e157 0 = .ok (.iload_n 0, 1) := by decide +kernel
theorem dJ3_checkIndex_8e157_1 : decode cJ3_checkIndex_8e157 1 = .ok (.ifCond .lt 8, 3) := by decide +kernel
theorem dJ3_checkIndex_8e157_4 : decode cJ3_checkIndex_8e157 4 = .ok (.iload_n 0, 1) := by decide +kernel
theorem dJ3_checkIndex_8e157_5 : decode cJ3_checkIndex_8e157 5 = .ok (.iload_n 1, 1) := by decide +kernel
theorem dJ3_checkIndex_8e157_6 : decode cJ3_checkIndex_8e157 6 = .ok (.if_icmp .lt 10, 3) := by decide +kernel
theorem dJ3_checkIndex_8e157_9 : decode cJ3_checkIndex_8e157 9 = .ok (.aload_n 2, 1) := by decide +kernel
theorem dJ3_checkIndex_8e157_10 : decode cJ3_checkIndex_8e157 10 = .ok (.iload_n 0, 1) := by decide +kernel
theorem dJ3_checkIndex_8e157_11 : decode cJ3_checkIndex_8e157 11 = .ok (.iload_n 1, 1) := by decide +kernel
theorem dJ3_checkIndex_8e157_12 : decode cJ3_checkIndex_8e157 12 = .ok (.invokestatic 95, 3) := by decide +kernel
theorem dJ3_checkIndex_8e157_15 : decode cJ3_checkIndex_8e157 15 = .ok (.athrow, 1) := by decide +kernel
theorem dJ3_checkIndex_8e157_16 : decode cJ3_checkIndex_8e157 16 = .ok (.iload_n 0, 1) := by decide +kernel
theorem dJ3_checkIndex_8e157_17 : decode cJ3_checkIndex_8e157 17 = .ok (.ireturn, 1) := by decide +kernel
theorem dL_law_0 : decode cL_law 0 = .ok (.aload_n 2, 1) := by decide +kernel
theorem dL_law_1 : decode cL_law 1 = .ok (.iconst 0, 1) := by decide +kernel
theorem dL_law_2 : decode cL_law 2 = .ok (.aload_n 0, 1) := by decide +kernel
theorem dL_law_3 : decode cL_law 3 = .ok (.iload_n 1, 1) := by decide +kernel
theorem dL_law_4 : decode cL_law 4 = .ok (.invokevirtual 7, 3) := by decide +kernel
theorem dL_law_7 : decode cL_law 7 = .ok (.i2l, 1) := by decide +kernel
theorem dL_law_8 : decode cL_law 8 = .ok (.lastore, 1) := by decide +kernel
theorem dL_law_9 : decode cL_law 9 = .ok (.goto 6, 3) := by decide +kernel
theorem dL_law_12 : decode cL_law 12 = .ok (.astore_n 3, 1) := by decide +kernel
theorem dL_law_13 : decode cL_law 13 = .ok (.iconst 1, 1) := by decide +kernel
theorem dL_law_14 : decode cL_law 14 = .ok (.ireturn, 1) := by decide +kernel
theorem dL_law_15 : decode cL_law 15 = .ok (.iconst 0, 1) := by decide +kernel
theorem dL_law_16 : decode cL_law 16 = .ok (.ireturn, 1) := by decide +kernel
theorem dL_story_0 : decode cL_story 0 = .ok (.aload_n 2, 1) := by decide +kernel
theorem dL_story_1 : decode cL_story 1 = .ok (.iconst 0, 1) := by decide +kernel
theorem dL_story_2 : decode cL_story 2 = .ok (.aload_n 0, 1) := by decide +kernel
theorem dL_story_3 : decode cL_story 3 = .ok (.iload_n 1, 1) := by decide +kernel
theorem dL_story_4 : decode cL_story 4 = .ok (.invokevirtual 15, 3) := by decide +kernel
theorem dL_story_7 : decode cL_story 7 = .ok (.i2l, 1) := by decide +kernel
theorem dL_story_8 : decode cL_story 8 = .ok (.lastore, 1) := by decide +kernel
theorem dL_story_9 : decode cL_story 9 = .ok (.goto 6, 3) := by decide +kernel
theorem dL_story_12 : decode cL_story 12 = .ok (.astore_n 3, 1) := by decide +kernel
theorem dL_story_13 : decode cL_story 13 = .ok (.iconst 1, 1) := by decide +kernel
theorem dL_story_14 : decode cL_story 14 = .ok (.ireturn, 1) := by decide +kernel
theorem dL_story_15 : decode cL_story 15 = .ok (.iconst 0, 1) := by decide +kernel
theorem dL_story_16 : decode cL_story 16 = .ok (.ireturn, 1) := by decide +kernel
theorem dL_sheds_0 : decode cL_sheds 0 = .ok (.aload_n 3, 1) := by decide +kernel
theorem dL_sheds_1 : decode cL_sheds 1 = .ok (.iconst 0, 1) := by decide +kernel
theorem dL_sheds_2 : decode cL_sheds 2 = .ok (.aload_n 0, 1) := by decide +kernel
theorem dL_sheds_3 : decode cL_sheds 3 = .ok (.iload_n 1, 1) := by decide +kernel
theorem dL_sheds_4 : decode cL_sheds 4 = .ok (.iload_n 2, 1) := by decide +kernel
theorem dL_sheds_5 : decode cL_sheds 5 = .ok (.invokevirtual 18, 3) := by decide +kernel
theorem dL_sheds_8 : decode cL_sheds 8 = .ok (.i2l, 1) := by decide +kernel
theorem dL_sheds_9 : decode cL_sheds 9 = .ok (.lastore, 1) := by decide +kernel
theorem dL_sheds_10 : decode cL_sheds 10 = .ok (.goto 7, 3) := by decide +kernel
theorem dL_sheds_13 : decode cL_sheds 13 = .ok (.astore 4, 2) := by decide +kernel
theorem dL_sheds_15 : decode cL_sheds 15 = .ok (.iconst 1, 1) := by decide +kernel
theorem dL_sheds_16 : decode cL_sheds 16 = .ok (.ireturn, 1) := by decide +kernel
theorem dL_sheds_17 : decode cL_sheds 17 = .ok (.iconst 0, 1) := by decide +kernel
theorem dL_sheds_18 : decode cL_sheds 18 = .ok (.ireturn, 1) := by decide +kernel
theorem dL_told_0 : decode cL_told 0 = .ok (.aload_n 3, 1) := by decide +kernel
theorem dL_told_1 : decode cL_told 1 = .ok (.iconst 0, 1) := by decide +kernel
theorem dL_told_2 : decode cL_told 2 = .ok (.aload_n 0, 1) := by decide +kernel
theorem dL_told_3 : decode cL_told 3 = .ok (.iload_n 1, 1) := by decide +kernel
theorem dL_told_4 : decode cL_told 4 = .ok (.iload_n 2, 1) := by decide +kernel
theorem dL_told_5 : decode cL_told 5 = .ok (.invokevirtual 22, 3) := by decide +kernel
theorem dL_told_8 : decode cL_told 8 = .ok (.i2l, 1) := by decide +kernel
theorem dL_told_9 : decode cL_told 9 = .ok (.lastore, 1) := by decide +kernel
theorem dL_told_10 : decode cL_told 10 = .ok (.goto 7, 3) := by decide +kernel
theorem dL_told_13 : decode cL_told 13 = .ok (.astore 4, 2) := by decide +kernel
theorem dL_told_15 : decode cL_told 15 = .ok (.iconst 1, 1) := by decide +kernel
theorem dL_told_16 : decode cL_told 16 = .ok (.ireturn, 1) := by decide +kernel
theorem dL_told_17 : decode cL_told 17 = .ok (.iconst 0, 1) := by decide +kernel
theorem dL_told_18 : decode cL_told 18 = .ok (.ireturn, 1) := by decide +kernel
theorem dL_alike_0 : decode cL_alike 0 = .ok (.aload_n 2, 1) := by decide +kernel
theorem dL_alike_1 : decode cL_alike 1 = .ok (.iconst 0, 1) := by decide +kernel
theorem dL_alike_2 : decode cL_alike 2 = .ok (.aload_n 0, 1) := by decide +kernel
theorem dL_alike_3 : decode cL_alike 3 = .ok (.iload_n 1, 1) := by decide +kernel
theorem dL_alike_4 : decode cL_alike 4 = .ok (.invokevirtual 25, 3) := by decide +kernel
theorem dL_alike_7 : decode cL_alike 7 = .ok (.i2l, 1) := by decide +kernel
theorem dL_alike_8 : decode cL_alike 8 = .ok (.lastore, 1) := by decide +kernel
theorem dL_alike_9 : decode cL_alike 9 = .ok (.goto 6, 3) := by decide +kernel
theorem dL_alike_12 : decode cL_alike 12 = .ok (.astore_n 3, 1) := by decide +kernel
theorem dL_alike_13 : decode cL_alike 13 = .ok (.iconst 1, 1) := by decide +kernel
theorem dL_alike_14 : decode cL_alike 14 = .ok (.ireturn, 1) := by decide +kernel
theorem dL_alike_15 : decode cL_alike 15 = .ok (.iconst 0, 1) := by decide +kernel
theorem dL_alike_16 : decode cL_alike 16 = .ok (.ireturn, 1) := by decide +kernel
theorem dL_lies_0 : decode cL_lies 0 = .ok (.aload 5, 2) := by decide +kernel
theorem dL_lies_2 : decode cL_lies 2 = .ok (.iconst 0, 1) := by decide +kernel
theorem dL_lies_3 : decode cL_lies 3 = .ok (.aload_n 0, 1) := by decide +kernel
theorem dL_lies_4 : decode cL_lies 4 = .ok (.iload_n 1, 1) := by decide +kernel
theorem dL_lies_5 : decode cL_lies 5 = .ok (.iload_n 2, 1) := by decide +kernel
theorem dL_lies_6 : decode cL_lies 6 = .ok (.iload_n 3, 1) := by decide +kernel
theorem dL_lies_7 : decode cL_lies 7 = .ok (.iload 4, 2) := by decide +kernel
theorem dL_lies_9 : decode cL_lies 9 = .ok (.invokevirtual 28, 3) := by decide +kernel
theorem dL_lies_12 : decode cL_lies 12 = .ok (.i2l, 1) := by decide +kernel
theorem dL_lies_13 : decode cL_lies 13 = .ok (.lastore, 1) := by decide +kernel
theorem dL_lies_14 : decode cL_lies 14 = .ok (.goto 11, 3) := by decide +kernel
theorem dL_lies_17 : decode cL_lies 17 = .ok (.astore 6, 2) := by decide +kernel
theorem dL_lies_19 : decode cL_lies 19 = .ok (.iconst 1, 1) := by decide +kernel
theorem dL_lies_20 : decode cL_lies 20 = .ok (.ireturn, 1) := by decide +kernel
theorem dL_lies_21 : decode cL_lies 21 = .ok (.astore 6, 2) := by decide +kernel
theorem dL_lies_23 : decode cL_lies 23 = .ok (.iconst 2, 1) := by decide +kernel
theorem dL_lies_24 : decode cL_lies 24 = .ok (.ireturn, 1) := by decide +kernel
theorem dL_lies_25 : decode cL_lies 25 = .ok (.iconst 0, 1) := by decide +kernel
theorem dL_lies_26 : decode cL_lies 26 = .ok (.ireturn, 1) := by decide +kernel
theorem dL_pile_0 : decode cL_pile 0 = .ok (.aload 5, 2) := by decide +kernel
theorem dL_pile_2 : decode cL_pile 2 = .ok (.iconst 0, 1) := by decide +kernel
theorem dL_pile_3 : decode cL_pile 3 = .ok (.aload_n 0, 1) := by decide +kernel
theorem dL_pile_4 : decode cL_pile 4 = .ok (.iload_n 1, 1) := by decide +kernel
theorem dL_pile_5 : decode cL_pile 5 = .ok (.iload_n 2, 1) := by decide +kernel
theorem dL_pile_6 : decode cL_pile 6 = .ok (.iload_n 3, 1) := by decide +kernel
theorem dL_pile_7 : decode cL_pile 7 = .ok (.iload 4, 2) := by decide +kernel
theorem dL_pile_9 : decode cL_pile 9 = .ok (.invokevirtual 34, 3) := by decide +kernel
theorem dL_pile_12 : decode cL_pile 12 = .ok (.i2l, 1) := by decide +kernel
theorem dL_pile_13 : decode cL_pile 13 = .ok (.lastore, 1) := by decide +kernel
theorem dL_pile_14 : decode cL_pile 14 = .ok (.goto 11, 3) := by decide +kernel
theorem dL_pile_17 : decode cL_pile 17 = .ok (.astore 6, 2) := by decide +kernel
theorem dL_pile_19 : decode cL_pile 19 = .ok (.iconst 1, 1) := by decide +kernel
theorem dL_pile_20 : decode cL_pile 20 = .ok (.ireturn, 1) := by decide +kernel
theorem dL_pile_21 : decode cL_pile 21 = .ok (.astore 6, 2) := by decide +kernel
theorem dL_pile_23 : decode cL_pile 23 = .ok (.iconst 2, 1) := by decide +kernel
theorem dL_pile_24 : decode cL_pile 24 = .ok (.ireturn, 1) := by decide +kernel
theorem dL_pile_25 : decode cL_pile 25 = .ok (.iconst 0, 1) := by decide +kernel
theorem dL_pile_26 : decode cL_pile 26 = .ok (.ireturn, 1) := by decide +kernel
theorem dL_wears_0 : decode cL_wears 0 = .ok (.aload 4, 2) := by decide +kernel
theorem dL_wears_2 : decode cL_wears 2 = .ok (.iconst 0, 1) := by decide +kernel
theorem dL_wears_3 : decode cL_wears 3 = .ok (.aload_n 0, 1) := by decide +kernel
theorem dL_wears_4 : decode cL_wears 4 = .ok (.iload_n 1, 1) := by decide +kernel
theorem dL_wears_5 : decode cL_wears 5 = .ok (.iload_n 2, 1) := by decide +kernel
theorem dL_wears_6 : decode cL_wears 6 = .ok (.iload_n 3, 1) := by decide +kernel
theorem dL_wears_7 : decode cL_wears 7 = .ok (.invokevirtual 37, 3) := by decide +kernel
theorem dL_wears_10 : decode cL_wears 10 = .ok (.i2l, 1) := by decide +kernel
theorem dL_wears_11 : decode cL_wears 11 = .ok (.lastore, 1) := by decide +kernel
theorem dL_wears_12 : decode cL_wears 12 = .ok (.goto 11, 3) := by decide +kernel
theorem dL_wears_15 : decode cL_wears 15 = .ok (.astore 5, 2) := by decide +kernel
theorem dL_wears_17 : decode cL_wears 17 = .ok (.iconst 1, 1) := by decide +kernel
theorem dL_wears_18 : decode cL_wears 18 = .ok (.ireturn, 1) := by decide +kernel
theorem dL_wears_19 : decode cL_wears 19 = .ok (.astore 5, 2) := by decide +kernel
theorem dL_wears_21 : decode cL_wears 21 = .ok (.iconst 2, 1) := by decide +kernel
theorem dL_wears_22 : decode cL_wears 22 = .ok (.ireturn, 1) := by decide +kernel
theorem dL_wears_23 : decode cL_wears 23 = .ok (.iconst 0, 1) := by decide +kernel
theorem dL_wears_24 : decode cL_wears 24 = .ok (.ireturn, 1) := by decide +kernel
theorem dL_find_0 : decode cL_find 0 = .ok (.aload 5, 2) := by decide +kernel
theorem dL_find_2 : decode cL_find 2 = .ok (.iconst 0, 1) := by decide +kernel
theorem dL_find_3 : decode cL_find 3 = .ok (.aload_n 0, 1) := by decide +kernel
theorem dL_find_4 : decode cL_find 4 = .ok (.iload_n 1, 1) := by decide +kernel
theorem dL_find_5 : decode cL_find 5 = .ok (.iload_n 2, 1) := by decide +kernel
theorem dL_find_6 : decode cL_find 6 = .ok (.iload_n 3, 1) := by decide +kernel
theorem dL_find_7 : decode cL_find 7 = .ok (.iload 4, 2) := by decide +kernel
theorem dL_find_9 : decode cL_find 9 = .ok (.invokevirtual 41, 3) := by decide +kernel
theorem dL_find_12 : decode cL_find 12 = .ok (.i2l, 1) := by decide +kernel
theorem dL_find_13 : decode cL_find 13 = .ok (.lastore, 1) := by decide +kernel
theorem dL_find_14 : decode cL_find 14 = .ok (.goto 7, 3) := by decide +kernel
theorem dL_find_17 : decode cL_find 17 = .ok (.astore 6, 2) := by decide +kernel
theorem dL_find_19 : decode cL_find 19 = .ok (.iconst 1, 1) := by decide +kernel
theorem dL_find_20 : decode cL_find 20 = .ok (.ireturn, 1) := by decide +kernel
theorem dL_find_21 : decode cL_find 21 = .ok (.iconst 0, 1) := by decide +kernel
theorem dL_find_22 : decode cL_find 22 = .ok (.ireturn, 1) := by decide +kernel
theorem dL_found_0 : decode cL_found 0 = .ok (.aload_n 3, 1) := by decide +kernel
theorem dL_found_1 : decode cL_found 1 = .ok (.iconst 0, 1) := by decide +kernel
theorem dL_found_2 : decode cL_found 2 = .ok (.aload_n 0, 1) := by decide +kernel
theorem dL_found_3 : decode cL_found 3 = .ok (.iload_n 1, 1) := by decide +kernel
theorem dL_found_4 : decode cL_found 4 = .ok (.iload_n 2, 1) := by decide +kernel
theorem dL_found_5 : decode cL_found 5 = .ok (.invokevirtual 44, 3) := by decide +kernel
theorem dL_found_8 : decode cL_found 8 = .ok (.i2l, 1) := by decide +kernel
theorem dL_found_9 : decode cL_found 9 = .ok (.lastore, 1) := by decide +kernel
theorem dL_found_10 : decode cL_found 10 = .ok (.goto 11, 3) := by decide +kernel
theorem dL_found_13 : decode cL_found 13 = .ok (.astore 4, 2) := by decide +kernel
theorem dL_found_15 : decode cL_found 15 = .ok (.iconst 1, 1) := by decide +kernel
theorem dL_found_16 : decode cL_found 16 = .ok (.ireturn, 1) := by decide +kernel
theorem dL_found_17 : decode cL_found 17 = .ok (.astore 4, 2) := by decide +kernel
theorem dL_found_19 : decode cL_found 19 = .ok (.iconst 2, 1) := by decide +kernel
theorem dL_found_20 : decode cL_found 20 = .ok (.ireturn, 1) := by decide +kernel
theorem dL_found_21 : decode cL_found 21 = .ok (.iconst 0, 1) := by decide +kernel
theorem dL_found_22 : decode cL_found 22 = .ok (.ireturn, 1) := by decide +kernel
theorem dL_drop_0 : decode cL_drop 0 = .ok (.aload_n 2, 1) := by decide +kernel
theorem dL_drop_1 : decode cL_drop 1 = .ok (.iconst 0, 1) := by decide +kernel
theorem dL_drop_2 : decode cL_drop 2 = .ok (.aload_n 0, 1) := by decide +kernel
theorem dL_drop_3 : decode cL_drop 3 = .ok (.iload_n 1, 1) := by decide +kernel
theorem dL_drop_4 : decode cL_drop 4 = .ok (.invokevirtual 49, 3) := by decide +kernel
theorem dL_drop_7 : decode cL_drop 7 = .ok (.i2l, 1) := by decide +kernel
theorem dL_drop_8 : decode cL_drop 8 = .ok (.lastore, 1) := by decide +kernel
theorem dL_drop_9 : decode cL_drop 9 = .ok (.goto 6, 3) := by decide +kernel
theorem dL_drop_12 : decode cL_drop 12 = .ok (.astore_n 3, 1) := by decide +kernel
theorem dL_drop_13 : decode cL_drop 13 = .ok (.iconst 1, 1) := by decide +kernel
theorem dL_drop_14 : decode cL_drop 14 = .ok (.ireturn, 1) := by decide +kernel
theorem dL_drop_15 : decode cL_drop 15 = .ok (.iconst 0, 1) := by decide +kernel
theorem dL_drop_16 : decode cL_drop 16 = .ok (.ireturn, 1) := by decide +kernel
theorem dL_scale_0 : decode cL_scale 0 = .ok (.aload_n 2, 1) := by decide +kernel
theorem dL_scale_1 : decode cL_scale 1 = .ok (.iconst 0, 1) := by decide +kernel
theorem dL_scale_2 : decode cL_scale 2 = .ok (.aload_n 0, 1) := by decide +kernel
theorem dL_scale_3 : decode cL_scale 3 = .ok (.iload_n 1, 1) := by decide +kernel
theorem dL_scale_4 : decode cL_scale 4 = .ok (.invokevirtual 52, 3) := by decide +kernel
theorem dL_scale_7 : decode cL_scale 7 = .ok (.i2l, 1) := by decide +kernel
theorem dL_scale_8 : decode cL_scale 8 = .ok (.lastore, 1) := by decide +kernel
theorem dL_scale_9 : decode cL_scale 9 = .ok (.goto 6, 3) := by decide +kernel
theorem dL_scale_12 : decode cL_scale 12 = .ok (.astore_n 3, 1) := by decide +kernel
theorem dL_scale_13 : decode cL_scale 13 = .ok (.iconst 1, 1) := by decide +kernel
theorem dL_scale_14 : decode cL_scale 14 = .ok (.ireturn, 1) := by decide +kernel
theorem dL_scale_15 : decode cL_scale 15 = .ok (.iconst 0, 1) := by decide +kernel
theorem dL_scale_16 : decode cL_scale 16 = .ok (.ireturn, 1) := by decide +kernel
theorem dL_digits_0 : decode cL_digits 0 = .ok (.aload_n 2, 1) := by decide +kernel
theorem dL_digits_1 : decode cL_digits 1 = .ok (.iconst 0, 1) := by decide +kernel
theorem dL_digits_2 : decode cL_digits 2 = .ok (.aload_n 0, 1) := by decide +kernel
theorem dL_digits_3 : decode cL_digits 3 = .ok (.iload_n 1, 1) := by decide +kernel
theorem dL_digits_4 : decode cL_digits 4 = .ok (.invokevirtual 55, 3) := by decide +kernel
theorem dL_digits_7 : decode cL_digits 7 = .ok (.i2l, 1) := by decide +kernel
theorem dL_digits_8 : decode cL_digits 8 = .ok (.lastore, 1) := by decide +kernel
theorem dL_digits_9 : decode cL_digits 9 = .ok (.goto 6, 3) := by decide +kernel
theorem dL_digits_12 : decode cL_digits 12 = .ok (.astore_n 3, 1) := by decide +kernel
theorem dL_digits_13 : decode cL_digits 13 = .ok (.iconst 1, 1) := by decide +kernel
theorem dL_digits_14 : decode cL_digits 14 = .ok (.ireturn, 1) := by decide +kernel
theorem dL_digits_15 : decode cL_digits 15 = .ok (.iconst 0, 1) := by decide +kernel
theorem dL_digits_16 : decode cL_digits 16 = .ok (.ireturn, 1) := by decide +kernel
theorem dL_digit_0 : decode cL_digit 0 = .ok (.aload_n 3, 1) := by decide +kernel
theorem dL_digit_1 : decode cL_digit 1 = .ok (.iconst 0, 1) := by decide +kernel
theorem dL_digit_2 : decode cL_digit 2 = .ok (.aload_n 0, 1) := by decide +kernel
theorem dL_digit_3 : decode cL_digit 3 = .ok (.iload_n 1, 1) := by decide +kernel
theorem dL_digit_4 : decode cL_digit 4 = .ok (.iload_n 2, 1) := by decide +kernel
theorem dL_digit_5 : decode cL_digit 5 = .ok (.invokevirtual 58, 3) := by decide +kernel
theorem dL_digit_8 : decode cL_digit 8 = .ok (.i2l, 1) := by decide +kernel
theorem dL_digit_9 : decode cL_digit 9 = .ok (.lastore, 1) := by decide +kernel
theorem dL_digit_10 : decode cL_digit 10 = .ok (.goto 7, 3) := by decide +kernel
theorem dL_digit_13 : decode cL_digit 13 = .ok (.astore 4, 2) := by decide +kernel
theorem dL_digit_15 : decode cL_digit 15 = .ok (.iconst 1, 1) := by decide +kernel
theorem dL_digit_16 : decode cL_digit 16 = .ok (.ireturn, 1) := by decide +kernel
theorem dL_digit_17 : decode cL_digit 17 = .ok (.iconst 0, 1) := by decide +kernel
theorem dL_digit_18 : decode cL_digit 18 = .ok (.ireturn, 1) := by decide +kernel
theorem dL_weighed_0 : decode cL_weighed 0 = .ok (.aload_n 3, 1) := by decide +kernel
theorem dL_weighed_1 : decode cL_weighed 1 = .ok (.iconst 0, 1) := by decide +kernel
theorem dL_weighed_2 : decode cL_weighed 2 = .ok (.aload_n 0, 1) := by decide +kernel
theorem dL_weighed_3 : decode cL_weighed 3 = .ok (.iload_n 1, 1) := by decide +kernel
theorem dL_weighed_4 : decode cL_weighed 4 = .ok (.iload_n 2, 1) := by decide +kernel
theorem dL_weighed_5 : decode cL_weighed 5 = .ok (.invokevirtual 61, 3) := by decide +kernel
theorem dL_weighed_8 : decode cL_weighed 8 = .ok (.i2l, 1) := by decide +kernel
theorem dL_weighed_9 : decode cL_weighed 9 = .ok (.lastore, 1) := by decide +kernel
theorem dL_weighed_10 : decode cL_weighed 10 = .ok (.goto 7, 3) := by decide +kernel
theorem dL_weighed_13 : decode cL_weighed 13 = .ok (.astore 4, 2) := by decide +kernel
theorem dL_weighed_15 : decode cL_weighed 15 = .ok (.iconst 1, 1) := by decide +kernel
theorem dL_weighed_16 : decode cL_weighed 16 = .ok (.ireturn, 1) := by decide +kernel
theorem dL_weighed_17 : decode cL_weighed 17 = .ok (.iconst 0, 1) := by decide +kernel
theorem dL_weighed_18 : decode cL_weighed 18 = .ok (.ireturn, 1) := by decide +kernel
theorem dL_worth_0 : decode cL_worth 0 = .ok (.aload_n 3, 1) := by decide +kernel
theorem dL_worth_1 : decode cL_worth 1 = .ok (.iconst 0, 1) := by decide +kernel
theorem dL_worth_2 : decode cL_worth 2 = .ok (.aload_n 0, 1) := by decide +kernel
theorem dL_worth_3 : decode cL_worth 3 = .ok (.iload_n 1, 1) := by decide +kernel
theorem dL_worth_4 : decode cL_worth 4 = .ok (.iload_n 2, 1) := by decide +kernel
theorem dL_worth_5 : decode cL_worth 5 = .ok (.invokevirtual 64, 3) := by decide +kernel
theorem dL_worth_8 : decode cL_worth 8 = .ok (.i2l, 1) := by decide +kernel
theorem dL_worth_9 : decode cL_worth 9 = .ok (.lastore, 1) := by decide +kernel
theorem dL_worth_10 : decode cL_worth 10 = .ok (.goto 7, 3) := by decide +kernel
theorem dL_worth_13 : decode cL_worth 13 = .ok (.astore 4, 2) := by decide +kernel
theorem dL_worth_15 : decode cL_worth 15 = .ok (.iconst 1, 1) := by decide +kernel
theorem dL_worth_16 : decode cL_worth 16 = .ok (.ireturn, 1) := by decide +kernel
theorem dL_worth_17 : decode cL_worth 17 = .ok (.iconst 0, 1) := by decide +kernel
theorem dL_worth_18 : decode cL_worth 18 = .ok (.ireturn, 1) := by decide +kernel
theorem dL_part_0 : decode cL_part 0 = .ok (.aload 4, 2) := by decide +kernel
theorem dL_part_2 : decode cL_part 2 = .ok (.iconst 0, 1) := by decide +kernel
theorem dL_part_3 : decode cL_part 3 = .ok (.aload_n 0, 1) := by decide +kernel
theorem dL_part_4 : decode cL_part 4 = .ok (.iload_n 1, 1) := by decide +kernel
theorem dL_part_5 : decode cL_part 5 = .ok (.iload_n 2, 1) := by decide +kernel
theorem dL_part_6 : decode cL_part 6 = .ok (.iload_n 3, 1) := by decide +kernel
theorem dL_part_7 : decode cL_part 7 = .ok (.invokevirtual 67, 3) := by decide +kernel
theorem dL_part_10 : decode cL_part 10 = .ok (.i2l, 1) := by decide +kernel
theorem dL_part_11 : decode cL_part 11 = .ok (.lastore, 1) := by decide +kernel
theorem dL_part_12 : decode cL_part 12 = .ok (.goto 11, 3) := by decide +kernel
theorem dL_part_15 : decode cL_part 15 = .ok (.astore 5, 2) := by decide +kernel
theorem dL_part_17 : decode cL_part 17 = .ok (.iconst 1, 1) := by decide +kernel
theorem dL_part_18 : decode cL_part 18 = .ok (.ireturn, 1) := by decide +kernel
theorem dL_part_19 : decode cL_part 19 = .ok (.astore 5, 2) := by decide +kernel
theorem dL_part_21 : decode cL_part 21 = .ok (.iconst 2, 1) := by decide +kernel
theorem dL_part_22 : decode cL_part 22 = .ok (.ireturn, 1) := by decide +kernel
theorem dL_part_23 : decode cL_part 23 = .ok (.iconst 0, 1) := by decide +kernel
theorem dL_part_24 : decode cL_part 24 = .ok (.ireturn, 1) := by decide +kernel
theorem dL_events_0 : decode cL_events 0 = .ok (.aload_n 2, 1) := by decide +kernel
theorem dL_events_1 : decode cL_events 1 = .ok (.iconst 0, 1) := by decide +kernel
theorem dL_events_2 : decode cL_events 2 = .ok (.aload_n 0, 1) := by decide +kernel
theorem dL_events_3 : decode cL_events 3 = .ok (.iload_n 1, 1) := by decide +kernel
theorem dL_events_4 : decode cL_events 4 = .ok (.invokevirtual 70, 3) := by decide +kernel
theorem dL_events_7 : decode cL_events 7 = .ok (.i2l, 1) := by decide +kernel
theorem dL_events_8 : decode cL_events 8 = .ok (.lastore, 1) := by decide +kernel
theorem dL_events_9 : decode cL_events 9 = .ok (.goto 6, 3) := by decide +kernel
theorem dL_events_12 : decode cL_events 12 = .ok (.astore_n 3, 1) := by decide +kernel
theorem dL_events_13 : decode cL_events 13 = .ok (.iconst 1, 1) := by decide +kernel
theorem dL_events_14 : decode cL_events 14 = .ok (.ireturn, 1) := by decide +kernel
theorem dL_events_15 : decode cL_events 15 = .ok (.iconst 0, 1) := by decide +kernel
theorem dL_events_16 : decode cL_events 16 = .ok (.ireturn, 1) := by decide +kernel
theorem dL_counts_0 : decode cL_counts 0 = .ok (.aload_n 3, 1) := by decide +kernel
theorem dL_counts_1 : decode cL_counts 1 = .ok (.iconst 0, 1) := by decide +kernel
theorem dL_counts_2 : decode cL_counts 2 = .ok (.aload_n 0, 1) := by decide +kernel
theorem dL_counts_3 : decode cL_counts 3 = .ok (.iload_n 1, 1) := by decide +kernel
theorem dL_counts_4 : decode cL_counts 4 = .ok (.iload_n 2, 1) := by decide +kernel
theorem dL_counts_5 : decode cL_counts 5 = .ok (.invokevirtual 73, 3) := by decide +kernel
theorem dL_counts_8 : decode cL_counts 8 = .ok (.i2l, 1) := by decide +kernel
theorem dL_counts_9 : decode cL_counts 9 = .ok (.lastore, 1) := by decide +kernel
theorem dL_counts_10 : decode cL_counts 10 = .ok (.goto 11, 3) := by decide +kernel
theorem dL_counts_13 : decode cL_counts 13 = .ok (.astore 4, 2) := by decide +kernel
theorem dL_counts_15 : decode cL_counts 15 = .ok (.iconst 1, 1) := by decide +kernel
theorem dL_counts_16 : decode cL_counts 16 = .ok (.ireturn, 1) := by decide +kernel
theorem dL_counts_17 : decode cL_counts 17 = .ok (.astore 4, 2) := by decide +kernel
theorem dL_counts_19 : decode cL_counts 19 = .ok (.iconst 2, 1) := by decide +kernel
theorem dL_counts_20 : decode cL_counts 20 = .ok (.ireturn, 1) := by decide +kernel
theorem dL_counts_21 : decode cL_counts 21 = .ok (.iconst 0, 1) := by decide +kernel
theorem dL_counts_22 : decode cL_counts 22 = .ok (.ireturn, 1) := by decide +kernel
theorem dL_needed_0 : decode cL_needed 0 = .ok (.aload_n 3, 1) := by decide +kernel
theorem dL_needed_1 : decode cL_needed 1 = .ok (.iconst 0, 1) := by decide +kernel
theorem dL_needed_2 : decode cL_needed 2 = .ok (.aload_n 0, 1) := by decide +kernel
theorem dL_needed_3 : decode cL_needed 3 = .ok (.iload_n 1, 1) := by decide +kernel
theorem dL_needed_4 : decode cL_needed 4 = .ok (.iload_n 2, 1) := by decide +kernel
theorem dL_needed_5 : decode cL_needed 5 = .ok (.invokevirtual 76, 3) := by decide +kernel
theorem dL_needed_8 : decode cL_needed 8 = .ok (.i2l, 1) := by decide +kernel
theorem dL_needed_9 : decode cL_needed 9 = .ok (.lastore, 1) := by decide +kernel
theorem dL_needed_10 : decode cL_needed 10 = .ok (.goto 7, 3) := by decide +kernel
theorem dL_needed_13 : decode cL_needed 13 = .ok (.astore 4, 2) := by decide +kernel
theorem dL_needed_15 : decode cL_needed 15 = .ok (.iconst 1, 1) := by decide +kernel
theorem dL_needed_16 : decode cL_needed 16 = .ok (.ireturn, 1) := by decide +kernel
theorem dL_needed_17 : decode cL_needed 17 = .ok (.iconst 0, 1) := by decide +kernel
theorem dL_needed_18 : decode cL_needed 18 = .ok (.ireturn, 1) := by decide +kernel
theorem dL_byWay_0 : decode cL_byWay 0 = .ok (.aload 7, 2) := by decide +kernel
theorem dL_byWay_2 : decode cL_byWay 2 = .ok (.iconst 0, 1) := by decide +kernel
theorem dL_byWay_3 : decode cL_byWay 3 = .ok (.aload_n 0, 1) := by decide +kernel
theorem dL_byWay_4 : decode cL_byWay 4 = .ok (.iload_n 1, 1) := by decide +kernel
theorem dL_byWay_5 : decode cL_byWay 5 = .ok (.iload_n 2, 1) := by decide +kernel
theorem dL_byWay_6 : decode cL_byWay 6 = .ok (.iload_n 3, 1) := by decide +kernel
theorem dL_byWay_7 : decode cL_byWay 7 = .ok (.iload 4, 2) := by decide +kernel
theorem dL_byWay_9 : decode cL_byWay 9 = .ok (.iload 5, 2) := by decide +kernel
theorem dL_byWay_11 : decode cL_byWay 11 = .ok (.iload 6, 2) := by decide +kernel
theorem dL_byWay_13 : decode cL_byWay 13 = .ok (.invokevirtual 79, 3) := by decide +kernel
theorem dL_byWay_16 : decode cL_byWay 16 = .ok (.i2l, 1) := by decide +kernel
theorem dL_byWay_17 : decode cL_byWay 17 = .ok (.lastore, 1) := by decide +kernel
theorem dL_byWay_18 : decode cL_byWay 18 = .ok (.goto 11, 3) := by decide +kernel
theorem dL_byWay_21 : decode cL_byWay 21 = .ok (.astore 8, 2) := by decide +kernel
theorem dL_byWay_23 : decode cL_byWay 23 = .ok (.iconst 1, 1) := by decide +kernel
theorem dL_byWay_24 : decode cL_byWay 24 = .ok (.ireturn, 1) := by decide +kernel
theorem dL_byWay_25 : decode cL_byWay 25 = .ok (.astore 8, 2) := by decide +kernel
theorem dL_byWay_27 : decode cL_byWay 27 = .ok (.iconst 2, 1) := by decide +kernel
theorem dL_byWay_28 : decode cL_byWay 28 = .ok (.ireturn, 1) := by decide +kernel
theorem dL_byWay_29 : decode cL_byWay 29 = .ok (.iconst 0, 1) := by decide +kernel
theorem dL_byWay_30 : decode cL_byWay 30 = .ok (.ireturn, 1) := by decide +kernel
theorem dL_bench_0 : decode cL_bench 0 = .ok (.aload 5, 2) := by decide +kernel
theorem dL_bench_2 : decode cL_bench 2 = .ok (.iconst 0, 1) := by decide +kernel
theorem dL_bench_3 : decode cL_bench 3 = .ok (.aload_n 0, 1) := by decide +kernel
theorem dL_bench_4 : decode cL_bench 4 = .ok (.iload_n 1, 1) := by decide +kernel
theorem dL_bench_5 : decode cL_bench 5 = .ok (.iload_n 2, 1) := by decide +kernel
theorem dL_bench_6 : decode cL_bench 6 = .ok (.iload_n 3, 1) := by decide +kernel
theorem dL_bench_7 : decode cL_bench 7 = .ok (.iload 4, 2) := by decide +kernel
theorem dL_bench_9 : decode cL_bench 9 = .ok (.invokevirtual 83, 3) := by decide +kernel
theorem dL_bench_12 : decode cL_bench 12 = .ok (.i2l, 1) := by decide +kernel
theorem dL_bench_13 : decode cL_bench 13 = .ok (.lastore, 1) := by decide +kernel
theorem dL_bench_14 : decode cL_bench 14 = .ok (.goto 11, 3) := by decide +kernel
theorem dL_bench_17 : decode cL_bench 17 = .ok (.astore 6, 2) := by decide +kernel
theorem dL_bench_19 : decode cL_bench 19 = .ok (.iconst 1, 1) := by decide +kernel
theorem dL_bench_20 : decode cL_bench 20 = .ok (.ireturn, 1) := by decide +kernel
theorem dL_bench_21 : decode cL_bench 21 = .ok (.astore 6, 2) := by decide +kernel
theorem dL_bench_23 : decode cL_bench 23 = .ok (.iconst 2, 1) := by decide +kernel
theorem dL_bench_24 : decode cL_bench 24 = .ok (.ireturn, 1) := by decide +kernel
theorem dL_bench_25 : decode cL_bench 25 = .ok (.iconst 0, 1) := by decide +kernel
theorem dL_bench_26 : decode cL_bench 26 = .ok (.ireturn, 1) := by decide +kernel
theorem dL_after_0 : decode cL_after 0 = .ok (.aload 5, 2) := by decide +kernel
theorem dL_after_2 : decode cL_after 2 = .ok (.iconst 0, 1) := by decide +kernel
theorem dL_after_3 : decode cL_after 3 = .ok (.aload_n 0, 1) := by decide +kernel
theorem dL_after_4 : decode cL_after 4 = .ok (.iload_n 1, 1) := by decide +kernel
theorem dL_after_5 : decode cL_after 5 = .ok (.iload_n 2, 1) := by decide +kernel
theorem dL_after_6 : decode cL_after 6 = .ok (.iload_n 3, 1) := by decide +kernel
theorem dL_after_7 : decode cL_after 7 = .ok (.iload 4, 2) := by decide +kernel
theorem dL_after_9 : decode cL_after 9 = .ok (.invokevirtual 86, 3) := by decide +kernel
theorem dL_after_12 : decode cL_after 12 = .ok (.i2l, 1) := by decide +kernel
theorem dL_after_13 : decode cL_after 13 = .ok (.lastore, 1) := by decide +kernel
theorem dL_after_14 : decode cL_after 14 = .ok (.goto 7, 3) := by decide +kernel
theorem dL_after_17 : decode cL_after 17 = .ok (.astore 6, 2) := by decide +kernel
theorem dL_after_19 : decode cL_after 19 = .ok (.iconst 1, 1) := by decide +kernel
theorem dL_after_20 : decode cL_after 20 = .ok (.ireturn, 1) := by decide +kernel
theorem dL_after_21 : decode cL_after 21 = .ok (.iconst 0, 1) := by decide +kernel
theorem dL_after_22 : decode cL_after 22 = .ok (.ireturn, 1) := by decide +kernel
theorem dL_seat_0 : decode cL_seat 0 = .ok (.aload_n 2, 1) := by decide +kernel
theorem dL_seat_1 : decode cL_seat 1 = .ok (.iconst 0, 1) := by decide +kernel
theorem dL_seat_2 : decode cL_seat 2 = .ok (.aload_n 0, 1) := by decide +kernel
theorem dL_seat_3 : decode cL_seat 3 = .ok (.iload_n 1, 1) := by decide +kernel
theorem dL_seat_4 : decode cL_seat 4 = .ok (.invokevirtual 90, 3) := by decide +kernel
theorem dL_seat_7 : decode cL_seat 7 = .ok (.i2l, 1) := by decide +kernel
theorem dL_seat_8 : decode cL_seat 8 = .ok (.lastore, 1) := by decide +kernel
theorem dL_seat_9 : decode cL_seat 9 = .ok (.goto 6, 3) := by decide +kernel
theorem dL_seat_12 : decode cL_seat 12 = .ok (.astore_n 3, 1) := by decide +kernel
theorem dL_seat_13 : decode cL_seat 13 = .ok (.iconst 1, 1) := by decide +kernel
theorem dL_seat_14 : decode cL_seat 14 = .ok (.ireturn, 1) := by decide +kernel
theorem dL_seat_15 : decode cL_seat 15 = .ok (.iconst 0, 1) := by decide +kernel
theorem dL_seat_16 : decode cL_seat 16 = .ok (.ireturn, 1) := by decide +kernel
theorem dL_share_0 : decode cL_share 0 = .ok (.aload_n 2, 1) := by decide +kernel
theorem dL_share_1 : decode cL_share 1 = .ok (.iconst 0, 1) := by decide +kernel
theorem dL_share_2 : decode cL_share 2 = .ok (.aload_n 0, 1) := by decide +kernel
theorem dL_share_3 : decode cL_share 3 = .ok (.iload_n 1, 1) := by decide +kernel
theorem dL_share_4 : decode cL_share 4 = .ok (.invokevirtual 93, 3) := by decide +kernel
theorem dL_share_7 : decode cL_share 7 = .ok (.i2l, 1) := by decide +kernel
theorem dL_share_8 : decode cL_share 8 = .ok (.lastore, 1) := by decide +kernel
theorem dL_share_9 : decode cL_share 9 = .ok (.goto 6, 3) := by decide +kernel
theorem dL_share_12 : decode cL_share 12 = .ok (.astore_n 3, 1) := by decide +kernel
theorem dL_share_13 : decode cL_share 13 = .ok (.iconst 1, 1) := by decide +kernel
theorem dL_share_14 : decode cL_share 14 = .ok (.ireturn, 1) := by decide +kernel
theorem dL_share_15 : decode cL_share 15 = .ok (.iconst 0, 1) := by decide +kernel
theorem dL_share_16 : decode cL_share 16 = .ok (.ireturn, 1) := by decide +kernel
theorem dL_together_0 : decode cL_together 0 = .ok (.aload_n 3, 1) := by decide +kernel
theorem dL_together_1 : decode cL_together 1 = .ok (.iconst 0, 1) := by decide +kernel
theorem dL_together_2 : decode cL_together 2 = .ok (.aload_n 0, 1) := by decide +kernel
theorem dL_together_3 : decode cL_together 3 = .ok (.iload_n 1, 1) := by decide +kernel
theorem dL_together_4 : decode cL_together 4 = .ok (.iload_n 2, 1) := by decide +kernel
theorem dL_together_5 : decode cL_together 5 = .ok (.invokevirtual 96, 3) := by decide +kernel
theorem dL_together_8 : decode cL_together 8 = .ok (.i2l, 1) := by decide +kernel
theorem dL_together_9 : decode cL_together 9 = .ok (.lastore, 1) := by decide +kernel
theorem dL_together_10 : decode cL_together 10 = .ok (.goto 7, 3) := by decide +kernel
theorem dL_together_13 : decode cL_together 13 = .ok (.astore 4, 2) := by decide +kernel
theorem dL_together_15 : decode cL_together 15 = .ok (.iconst 1, 1) := by decide +kernel
theorem dL_together_16 : decode cL_together 16 = .ok (.ireturn, 1) := by decide +kernel
theorem dL_together_17 : decode cL_together 17 = .ok (.iconst 0, 1) := by decide +kernel
theorem dL_together_18 : decode cL_together 18 = .ok (.ireturn, 1) := by decide +kernel
theorem dL_shop_0 : decode cL_shop 0 = .ok (.aload 4, 2) := by decide +kernel
theorem dL_shop_2 : decode cL_shop 2 = .ok (.iconst 0, 1) := by decide +kernel
theorem dL_shop_3 : decode cL_shop 3 = .ok (.aload_n 0, 1) := by decide +kernel
theorem dL_shop_4 : decode cL_shop 4 = .ok (.iload_n 1, 1) := by decide +kernel
theorem dL_shop_5 : decode cL_shop 5 = .ok (.iload_n 2, 1) := by decide +kernel
theorem dL_shop_6 : decode cL_shop 6 = .ok (.iload_n 3, 1) := by decide +kernel
theorem dL_shop_7 : decode cL_shop 7 = .ok (.invokevirtual 99, 3) := by decide +kernel
theorem dL_shop_10 : decode cL_shop 10 = .ok (.i2l, 1) := by decide +kernel
theorem dL_shop_11 : decode cL_shop 11 = .ok (.lastore, 1) := by decide +kernel
theorem dL_shop_12 : decode cL_shop 12 = .ok (.goto 7, 3) := by decide +kernel
theorem dL_shop_15 : decode cL_shop 15 = .ok (.astore 5, 2) := by decide +kernel
theorem dL_shop_17 : decode cL_shop 17 = .ok (.iconst 1, 1) := by decide +kernel
theorem dL_shop_18 : decode cL_shop 18 = .ok (.ireturn, 1) := by decide +kernel
theorem dL_shop_19 : decode cL_shop 19 = .ok (.iconst 0, 1) := by decide +kernel
theorem dL_shop_20 : decode cL_shop 20 = .ok (.ireturn, 1) := by decide +kernel
theorem dL_rare_0 : decode cL_rare 0 = .ok (.aload_n 3, 1) := by decide +kernel
theorem dL_rare_1 : decode cL_rare 1 = .ok (.iconst 0, 1) := by decide +kernel
theorem dL_rare_2 : decode cL_rare 2 = .ok (.aload_n 0, 1) := by decide +kernel
theorem dL_rare_3 : decode cL_rare 3 = .ok (.iload_n 1, 1) := by decide +kernel
theorem dL_rare_4 : decode cL_rare 4 = .ok (.iload_n 2, 1) := by decide +kernel
theorem dL_rare_5 : decode cL_rare 5 = .ok (.invokevirtual 102, 3) := by decide +kernel
theorem dL_rare_8 : decode cL_rare 8 = .ok (.i2l, 1) := by decide +kernel
theorem dL_rare_9 : decode cL_rare 9 = .ok (.lastore, 1) := by decide +kernel
theorem dL_rare_10 : decode cL_rare 10 = .ok (.goto 7, 3) := by decide +kernel
theorem dL_rare_13 : decode cL_rare 13 = .ok (.astore 4, 2) := by decide +kernel
theorem dL_rare_15 : decode cL_rare 15 = .ok (.iconst 1, 1) := by decide +kernel
theorem dL_rare_16 : decode cL_rare 16 = .ok (.ireturn, 1) := by decide +kernel
theorem dL_rare_17 : decode cL_rare 17 = .ok (.iconst 0, 1) := by decide +kernel
theorem dL_rare_18 : decode cL_rare 18 = .ok (.ireturn, 1) := by decide +kernel
theorem dL_next_0 : decode cL_next 0 = .ok (.aload 4, 2) := by decide +kernel
theorem dL_next_2 : decode cL_next 2 = .ok (.iconst 0, 1) := by decide +kernel
theorem dL_next_3 : decode cL_next 3 = .ok (.aload_n 0, 1) := by decide +kernel
theorem dL_next_4 : decode cL_next 4 = .ok (.iload_n 1, 1) := by decide +kernel
theorem dL_next_5 : decode cL_next 5 = .ok (.iload_n 2, 1) := by decide +kernel
theorem dL_next_6 : decode cL_next 6 = .ok (.iload_n 3, 1) := by decide +kernel
theorem dL_next_7 : decode cL_next 7 = .ok (.invokevirtual 105, 3) := by decide +kernel
theorem dL_next_10 : decode cL_next 10 = .ok (.i2l, 1) := by decide +kernel
theorem dL_next_11 : decode cL_next 11 = .ok (.lastore, 1) := by decide +kernel
theorem dL_next_12 : decode cL_next 12 = .ok (.goto 11, 3) := by decide +kernel
theorem dL_next_15 : decode cL_next 15 = .ok (.astore 5, 2) := by decide +kernel
theorem dL_next_17 : decode cL_next 17 = .ok (.iconst 1, 1) := by decide +kernel
theorem dL_next_18 : decode cL_next 18 = .ok (.ireturn, 1) := by decide +kernel
theorem dL_next_19 : decode cL_next 19 = .ok (.astore 5, 2) := by decide +kernel
theorem dL_next_21 : decode cL_next 21 = .ok (.iconst 2, 1) := by decide +kernel
theorem dL_next_22 : decode cL_next 22 = .ok (.ireturn, 1) := by decide +kernel
theorem dL_next_23 : decode cL_next 23 = .ok (.iconst 0, 1) := by decide +kernel
theorem dL_next_24 : decode cL_next 24 = .ok (.ireturn, 1) := by decide +kernel
theorem dL_signs_0 : decode cL_signs 0 = .ok (.aload_n 3, 1) := by decide +kernel
theorem dL_signs_1 : decode cL_signs 1 = .ok (.iconst 0, 1) := by decide +kernel
theorem dL_signs_2 : decode cL_signs 2 = .ok (.aload_n 0, 1) := by decide +kernel
theorem dL_signs_3 : decode cL_signs 3 = .ok (.iload_n 1, 1) := by decide +kernel
theorem dL_signs_4 : decode cL_signs 4 = .ok (.iload_n 2, 1) := by decide +kernel
theorem dL_signs_5 : decode cL_signs 5 = .ok (.invokevirtual 108, 3) := by decide +kernel
theorem dL_signs_8 : decode cL_signs 8 = .ok (.i2l, 1) := by decide +kernel
theorem dL_signs_9 : decode cL_signs 9 = .ok (.lastore, 1) := by decide +kernel
theorem dL_signs_10 : decode cL_signs 10 = .ok (.goto 11, 3) := by decide +kernel
theorem dL_signs_13 : decode cL_signs 13 = .ok (.astore 4, 2) := by decide +kernel
theorem dL_signs_15 : decode cL_signs 15 = .ok (.iconst 1, 1) := by decide +kernel
theorem dL_signs_16 : decode cL_signs 16 = .ok (.ireturn, 1) := by decide +kernel
theorem dL_signs_17 : decode cL_signs 17 = .ok (.astore 4, 2) := by decide +kernel
theorem dL_signs_19 : decode cL_signs 19 = .ok (.iconst 2, 1) := by decide +kernel
theorem dL_signs_20 : decode cL_signs 20 = .ok (.ireturn, 1) := by decide +kernel
theorem dL_signs_21 : decode cL_signs 21 = .ok (.iconst 0, 1) := by decide +kernel
theorem dL_signs_22 : decode cL_signs 22 = .ok (.ireturn, 1) := by decide +kernel
theorem dL_said_0 : decode cL_said 0 = .ok (.aload_n 3, 1) := by decide +kernel
theorem dL_said_1 : decode cL_said 1 = .ok (.iconst 0, 1) := by decide +kernel
theorem dL_said_2 : decode cL_said 2 = .ok (.aload_n 0, 1) := by decide +kernel
theorem dL_said_3 : decode cL_said 3 = .ok (.iload_n 1, 1) := by decide +kernel
theorem dL_said_4 : decode cL_said 4 = .ok (.iload_n 2, 1) := by decide +kernel
theorem dL_said_5 : decode cL_said 5 = .ok (.invokevirtual 111, 3) := by decide +kernel
theorem dL_said_8 : decode cL_said 8 = .ok (.i2l, 1) := by decide +kernel
theorem dL_said_9 : decode cL_said 9 = .ok (.lastore, 1) := by decide +kernel
theorem dL_said_10 : decode cL_said 10 = .ok (.goto 7, 3) := by decide +kernel
theorem dL_said_13 : decode cL_said 13 = .ok (.astore 4, 2) := by decide +kernel
theorem dL_said_15 : decode cL_said 15 = .ok (.iconst 1, 1) := by decide +kernel
theorem dL_said_16 : decode cL_said 16 = .ok (.ireturn, 1) := by decide +kernel
theorem dL_said_17 : decode cL_said 17 = .ok (.iconst 0, 1) := by decide +kernel
theorem dL_said_18 : decode cL_said 18 = .ok (.ireturn, 1) := by decide +kernel
