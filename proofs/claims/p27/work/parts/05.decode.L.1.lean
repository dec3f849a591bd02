theorem dL_isSame_30 : decode cL_isSame 30 = .ok (.aload_n 0, 1) := by decide +kernel
theorem dL_isSame_31 : decode cL_isSame 31 = .ok (.iload 6, 2) := by decide +kernel
theorem dL_isSame_33 : decode cL_isSame 33 = .ok (.invokevirtual 24, 3) := by decide +kernel
theorem dL_isSame_36 : decode cL_isSame 36 = .ok (.aload_n 2, 1) := by decide +kernel
theorem dL_isSame_37 : decode cL_isSame 37 = .ok (.iload 6, 2) := by decide +kernel
theorem dL_isSame_39 : decode cL_isSame 39 = .ok (.iaload, 1) := by decide +kernel
theorem dL_isSame_40 : decode cL_isSame 40 = .ok (.ifCond .lt 7, 3) := by decide +kernel
theorem dL_isSame_43 : decode cL_isSame 43 = .ok (.iconst 1, 1) := by decide +kernel
theorem dL_isSame_44 : decode cL_isSame 44 = .ok (.goto 16, 3) := by decide +kernel
theorem dL_isSame_47 : decode cL_isSame 47 = .ok (.aload_n 2, 1) := by decide +kernel
theorem dL_isSame_48 : decode cL_isSame 48 = .ok (.iload 6, 2) := by decide +kernel
theorem dL_isSame_50 : decode cL_isSame 50 = .ok (.iaload, 1) := by decide +kernel
theorem dL_isSame_51 : decode cL_isSame 51 = .ok (.iconst (-1), 1) := by decide +kernel
theorem dL_isSame_52 : decode cL_isSame 52 = .ok (.if_icmp .ne 7, 3) := by decide +kernel
theorem dL_isSame_55 : decode cL_isSame 55 = .ok (.iconst 0, 1) := by decide +kernel
theorem dL_isSame_56 : decode cL_isSame 56 = .ok (.goto 4, 3) := by decide +kernel
theorem dL_isSame_59 : decode cL_isSame 59 = .ok (.iconst 2, 1) := by decide +kernel
theorem dL_isSame_60 : decode cL_isSame 60 = .ok (.if_icmp .ne 36, 3) := by decide +kernel
theorem dL_isSame_63 : decode cL_isSame 63 = .ok (.aload_n 2, 1) := by decide +kernel
theorem dL_isSame_64 : decode cL_isSame 64 = .ok (.iload 6, 2) := by decide +kernel
theorem dL_isSame_66 : decode cL_isSame 66 = .ok (.iaload, 1) := by decide +kernel
theorem dL_isSame_67 : decode cL_isSame 67 = .ok (.ifCond .lt 16, 3) := by decide +kernel
theorem dL_isSame_70 : decode cL_isSame 70 = .ok (.aload_n 0, 1) := by decide +kernel
theorem dL_isSame_71 : decode cL_isSame 71 = .ok (.iload 6, 2) := by decide +kernel
theorem dL_isSame_73 : decode cL_isSame 73 = .ok (.invokevirtual 28, 3) := by decide +kernel
theorem dL_isSame_76 : decode cL_isSame 76 = .ok (.aload_n 2, 1) := by decide +kernel
theorem dL_isSame_77 : decode cL_isSame 77 = .ok (.iload 6, 2) := by decide +kernel
theorem dL_isSame_79 : decode cL_isSame 79 = .ok (.iaload, 1) := by decide +kernel
theorem dL_isSame_80 : decode cL_isSame 80 = .ok (.if_icmp .ne 16, 3) := by decide +kernel
theorem dL_isSame_83 : decode cL_isSame 83 = .ok (.aload_n 0, 1) := by decide +kernel
theorem dL_isSame_84 : decode cL_isSame 84 = .ok (.iload 6, 2) := by decide +kernel
theorem dL_isSame_86 : decode cL_isSame 86 = .ok (.invokevirtual 31, 3) := by decide +kernel
theorem dL_isSame_89 : decode cL_isSame 89 = .ok (.aload_n 3, 1) := by decide +kernel
theorem dL_isSame_90 : decode cL_isSame 90 = .ok (.iload 6, 2) := by decide +kernel
theorem dL_isSame_92 : decode cL_isSame 92 = .ok (.iaload, 1) := by decide +kernel
theorem dL_isSame_93 : decode cL_isSame 93 = .ok (.if_icmp .eq 5, 3) := by decide +kernel
theorem dL_isSame_96 : decode cL_isSame 96 = .ok (.iconst 0, 1) := by decide +kernel
theorem dL_isSame_97 : decode cL_isSame 97 = .ok (.ireturn, 1) := by decide +kernel
theorem dL_isSame_98 : decode cL_isSame 98 = .ok (.iinc 6 1, 3) := by decide +kernel
theorem dL_isSame_101 : decode cL_isSame 101 = .ok (.goto (-77), 3) := by decide +kernel
theorem dL_isSame_104 : decode cL_isSame 104 = .ok (.iconst 0, 1) := by decide +kernel
theorem dL_isSame_105 : decode cL_isSame 105 = .ok (.istore 6, 2) := by decide +kernel
theorem dL_isSame_107 : decode cL_isSame 107 = .ok (.iload 6, 2) := by decide +kernel
theorem dL_isSame_109 : decode cL_isSame 109 = .ok (.iload 5, 2) := by decide +kernel
theorem dL_isSame_111 : decode cL_isSame 111 = .ok (.iconst 2, 1) := by decide +kernel
theorem dL_isSame_112 : decode cL_isSame 112 = .ok (.idiv, 1) := by decide +kernel
theorem dL_isSame_113 : decode cL_isSame 113 = .ok (.if_icmp .ge 45, 3) := by decide +kernel
theorem dL_isSame_116 : decode cL_isSame 116 = .ok (.aload_n 0, 1) := by decide +kernel
theorem dL_isSame_117 : decode cL_isSame 117 = .ok (.iload 6, 2) := by decide +kernel
theorem dL_isSame_119 : decode cL_isSame 119 = .ok (.invokevirtual 34, 3) := by decide +kernel
theorem dL_isSame_122 : decode cL_isSame 122 = .ok (.aload 4, 2) := by decide +kernel
theorem dL_isSame_124 : decode cL_isSame 124 = .ok (.iconst 2, 1) := by decide +kernel
theorem dL_isSame_125 : decode cL_isSame 125 = .ok (.iload 6, 2) := by decide +kernel
theorem dL_isSame_127 : decode cL_isSame 127 = .ok (.imul, 1) := by decide +kernel
theorem dL_isSame_128 : decode cL_isSame 128 = .ok (.iaload, 1) := by decide +kernel
theorem dL_isSame_129 : decode cL_isSame 129 = .ok (.if_icmp .ne 21, 3) := by decide +kernel
theorem dL_isSame_132 : decode cL_isSame 132 = .ok (.aload_n 0, 1) := by decide +kernel
theorem dL_isSame_133 : decode cL_isSame 133 = .ok (.iload 6, 2) := by decide +kernel
theorem dL_isSame_135 : decode cL_isSame 135 = .ok (.invokevirtual 37, 3) := by decide +kernel
theorem dL_isSame_138 : decode cL_isSame 138 = .ok (.aload 4, 2) := by decide +kernel
theorem dL_isSame_140 : decode cL_isSame 140 = .ok (.iconst 2, 1) := by decide +kernel
theorem dL_isSame_141 : decode cL_isSame 141 = .ok (.iload 6, 2) := by decide +kernel
theorem dL_isSame_143 : decode cL_isSame 143 = .ok (.imul, 1) := by decide +kernel
theorem dL_isSame_144 : decode cL_isSame 144 = .ok (.iconst 1, 1) := by decide +kernel
theorem dL_isSame_145 : decode cL_isSame 145 = .ok (.iadd, 1) := by decide +kernel
theorem dL_isSame_146 : decode cL_isSame 146 = .ok (.iaload, 1) := by decide +kernel
theorem dL_isSame_147 : decode cL_isSame 147 = .ok (.if_icmp .eq 5, 3) := by decide +kernel
theorem dL_isSame_150 : decode cL_isSame 150 = .ok (.iconst 0, 1) := by decide +kernel
theorem dL_isSame_151 : decode cL_isSame 151 = .ok (.ireturn, 1) := by decide +kernel
theorem dL_isSame_152 : decode cL_isSame 152 = .ok (.iinc 6 1, 3) := by decide +kernel
theorem dL_isSame_155 : decode cL_isSame 155 = .ok (.goto (-48), 3) := by decide +kernel
theorem dL_isSame_158 : decode cL_isSame 158 = .ok (.iconst 1, 1) := by decide +kernel
theorem dL_isSame_159 : decode cL_isSame 159 = .ok (.ireturn, 1) := by decide +kernel
theorem dL_law_0 : decode cL_law 0 = .ok (.new 16, 3) := by decide +kernel
theorem dL_law_3 : decode cL_law 3 = .ok (.dup, 1) := by decide +kernel
theorem dL_law_4 : decode cL_law 4 = .ok (.invokespecial 40, 3) := by decide +kernel
theorem dL_law_7 : decode cL_law 7 = .ok (.astore_n 1, 1) := by decide +kernel
theorem dL_law_8 : decode cL_law 8 = .ok (.iconst 4, 1) := by decide +kernel
theorem dL_law_9 : decode cL_law 9 = .ok (.istore_n 2, 1) := by decide +kernel
theorem dL_law_10 : decode cL_law 10 = .ok (.aload_n 0, 1) := by decide +kernel
theorem dL_law_11 : decode cL_law 11 = .ok (.iconst 0, 1) := by decide +kernel
theorem dL_law_12 : decode cL_law 12 = .ok (.invokestatic 41, 3) := by decide +kernel
theorem dL_law_15 : decode cL_law 15 = .ok (.iconst 4, 1) := by decide +kernel
theorem dL_law_16 : decode cL_law 16 = .ok (.invokestatic 45, 3) := by decide +kernel
theorem dL_law_19 : decode cL_law 19 = .ok (.istore_n 3, 1) := by decide +kernel
theorem dL_law_20 : decode cL_law 20 = .ok (.iconst 1, 1) := by decide +kernel
theorem dL_law_21 : decode cL_law 21 = .ok (.aload_n 0, 1) := by decide +kernel
theorem dL_law_22 : decode cL_law 22 = .ok (.iconst 1, 1) := by decide +kernel
theorem dL_law_23 : decode cL_law 23 = .ok (.invokestatic 41, 3) := by decide +kernel
theorem dL_law_26 : decode cL_law 26 = .ok (.iconst 3, 1) := by decide +kernel
theorem dL_law_27 : decode cL_law 27 = .ok (.invokestatic 45, 3) := by decide +kernel
theorem dL_law_30 : decode cL_law 30 = .ok (.iadd, 1) := by decide +kernel
theorem dL_law_31 : decode cL_law 31 = .ok (.istore 4, 2) := by decide +kernel
theorem dL_law_33 : decode cL_law 33 = .ok (.aload_n 1, 1) := by decide +kernel
theorem dL_law_34 : decode cL_law 34 = .ok (.iload_n 3, 1) := by decide +kernel
theorem dL_law_35 : decode cL_law 35 = .ok (.iload 4, 2) := by decide +kernel
theorem dL_law_37 : decode cL_law 37 = .ok (.invokevirtual 49, 3) := by decide +kernel
theorem dL_law_40 : decode cL_law 40 = .ok (.ifCond .eq 5, 3) := by decide +kernel
theorem dL_law_43 : decode cL_law 43 = .ok (.iconst 0, 1) := by decide +kernel
theorem dL_law_44 : decode cL_law 44 = .ok (.ireturn, 1) := by decide +kernel
theorem dL_law_45 : decode cL_law 45 = .ok (.iload_n 2, 1) := by decide +kernel
theorem dL_law_46 : decode cL_law 46 = .ok (.newarray .int, 2) := by decide +kernel
theorem dL_law_48 : decode cL_law 48 = .ok (.astore 5, 2) := by decide +kernel
theorem dL_law_50 : decode cL_law 50 = .ok (.iconst 4, 1) := by decide +kernel
theorem dL_law_51 : decode cL_law 51 = .ok (.newarray .int, 2) := by decide +kernel
theorem dL_law_53 : decode cL_law 53 = .ok (.astore 6, 2) := by decide +kernel
theorem dL_law_55 : decode cL_law 55 = .ok (.iconst 4, 1) := by decide +kernel
theorem dL_law_56 : decode cL_law 56 = .ok (.newarray .int, 2) := by decide +kernel
theorem dL_law_58 : decode cL_law 58 = .ok (.astore 7, 2) := by decide +kernel
theorem dL_law_60 : decode cL_law 60 = .ok (.iconst 0, 1) := by decide +kernel
theorem dL_law_61 : decode cL_law 61 = .ok (.istore 8, 2) := by decide +kernel
theorem dL_law_63 : decode cL_law 63 = .ok (.iload 8, 2) := by decide +kernel
theorem dL_law_65 : decode cL_law 65 = .ok (.iconst 4, 1) := by decide +kernel
theorem dL_law_66 : decode cL_law 66 = .ok (.if_icmp .ge 63, 3) := by decide +kernel
theorem dL_law_69 : decode cL_law 69 = .ok (.aload 6, 2) := by decide +kernel
theorem dL_law_71 : decode cL_law 71 = .ok (.iload 8, 2) := by decide +kernel
theorem dL_law_73 : decode cL_law 73 = .ok (.iconst 1, 1) := by decide +kernel
theorem dL_law_74 : decode cL_law 74 = .ok (.aload_n 0, 1) := by decide +kernel
theorem dL_law_75 : decode cL_law 75 = .ok (.iconst 2, 1) := by decide +kernel
theorem dL_law_76 : decode cL_law 76 = .ok (.iload 8, 2) := by decide +kernel
theorem dL_law_78 : decode cL_law 78 = .ok (.iadd, 1) := by decide +kernel
theorem dL_law_79 : decode cL_law 79 = .ok (.invokestatic 41, 3) := by decide +kernel
theorem dL_law_82 : decode cL_law 82 = .ok (.bipush 10, 2) := by decide +kernel
theorem dL_law_84 : decode cL_law 84 = .ok (.invokestatic 45, 3) := by decide +kernel
theorem dL_law_87 : decode cL_law 87 = .ok (.iadd, 1) := by decide +kernel
theorem dL_law_88 : decode cL_law 88 = .ok (.iastore, 1) := by decide +kernel
theorem dL_law_89 : decode cL_law 89 = .ok (.aload_n 1, 1) := by decide +kernel
theorem dL_law_90 : decode cL_law 90 = .ok (.iconst 1, 1) := by decide +kernel
theorem dL_law_91 : decode cL_law 91 = .ok (.invokevirtual 52, 3) := by decide +kernel
theorem dL_law_94 : decode cL_law 94 = .ok (.iload 8, 2) := by decide +kernel
theorem dL_law_96 : decode cL_law 96 = .ok (.if_icmp .ne 19, 3) := by decide +kernel
theorem dL_law_99 : decode cL_law 99 = .ok (.aload_n 1, 1) := by decide +kernel
theorem dL_law_100 : decode cL_law 100 = .ok (.iload 8, 2) := by decide +kernel
theorem dL_law_102 : decode cL_law 102 = .ok (.bipush 40, 2) := by decide +kernel
theorem dL_law_104 : decode cL_law 104 = .ok (.aload 6, 2) := by decide +kernel
theorem dL_law_106 : decode cL_law 106 = .ok (.iload 8, 2) := by decide +kernel
theorem dL_law_108 : decode cL_law 108 = .ok (.iaload, 1) := by decide +kernel
theorem dL_law_109 : decode cL_law 109 = .ok (.invokevirtual 55, 3) := by decide +kernel
theorem dL_law_112 : decode cL_law 112 = .ok (.ifCond .eq 5, 3) := by decide +kernel
theorem dL_law_115 : decode cL_law 115 = .ok (.iconst 0, 1) := by decide +kernel
theorem dL_law_116 : decode cL_law 116 = .ok (.ireturn, 1) := by decide +kernel
theorem dL_law_117 : decode cL_law 117 = .ok (.aload 5, 2) := by decide +kernel
theorem dL_law_119 : decode cL_law 119 = .ok (.iload 8, 2) := by decide +kernel
theorem dL_law_121 : decode cL_law 121 = .ok (.iconst (-1), 1) := by decide +kernel
theorem dL_law_122 : decode cL_law 122 = .ok (.iastore, 1) := by decide +kernel
theorem dL_law_123 : decode cL_law 123 = .ok (.iinc 8 1, 3) := by decide +kernel
theorem dL_law_126 : decode cL_law 126 = .ok (.goto (-63), 3) := by decide +kernel
theorem dL_law_129 : decode cL_law 129 = .ok (.bipush 16, 2) := by decide +kernel
theorem dL_law_131 : decode cL_law 131 = .ok (.newarray .int, 2) := by decide +kernel
theorem dL_law_133 : decode cL_law 133 = .ok (.astore 8, 2) := by decide +kernel
theorem dL_law_135 : decode cL_law 135 = .ok (.bipush 16, 2) := by decide +kernel
theorem dL_law_137 : decode cL_law 137 = .ok (.newarray .int, 2) := by decide +kernel
theorem dL_law_139 : decode cL_law 139 = .ok (.astore 9, 2) := by decide +kernel
theorem dL_law_141 : decode cL_law 141 = .ok (.bipush 16, 2) := by decide +kernel
theorem dL_law_143 : decode cL_law 143 = .ok (.newarray .int, 2) := by decide +kernel
theorem dL_law_145 : decode cL_law 145 = .ok (.astore 10, 2) := by decide +kernel
theorem dL_law_147 : decode cL_law 147 = .ok (.bipush 16, 2) := by decide +kernel
theorem dL_law_149 : decode cL_law 149 = .ok (.newarray .int, 2) := by decide +kernel
theorem dL_law_151 : decode cL_law 151 = .ok (.astore 11, 2) := by decide +kernel
theorem dL_law_153 : decode cL_law 153 = .ok (.iconst 4, 1) := by decide +kernel
theorem dL_law_154 : decode cL_law 154 = .ok (.newarray .int, 2) := by decide +kernel
theorem dL_law_156 : decode cL_law 156 = .ok (.astore 12, 2) := by decide +kernel
theorem dL_law_158 : decode cL_law 158 = .ok (.sipush 200, 3) := by decide +kernel
theorem dL_law_161 : decode cL_law 161 = .ok (.newarray .int, 2) := by decide +kernel
theorem dL_law_163 : decode cL_law 163 = .ok (.astore 13, 2) := by decide +kernel
theorem dL_law_165 : decode cL_law 165 = .ok (.iconst 0, 1) := by decide +kernel
theorem dL_law_166 : decode cL_law 166 = .ok (.istore 14, 2) := by decide +kernel
theorem dL_law_168 : decode cL_law 168 = .ok (.iconst 0, 1) := by decide +kernel
theorem dL_law_169 : decode cL_law 169 = .ok (.istore 15, 2) := by decide +kernel
theorem dL_law_171 : decode cL_law 171 = .ok (.iload 15, 2) := by decide +kernel
theorem dL_law_173 : decode cL_law 173 = .ok (.bipush 14, 2) := by decide +kernel
theorem dL_law_175 : decode cL_law 175 = .ok (.if_icmp .ge 581, 3) := by decide +kernel
theorem dL_law_178 : decode cL_law 178 = .ok (.aload_n 0, 1) := by decide +kernel
theorem dL_law_179 : decode cL_law 179 = .ok (.bipush 6, 2) := by decide +kernel
theorem dL_law_181 : decode cL_law 181 = .ok (.iload 15, 2) := by decide +kernel
theorem dL_law_183 : decode cL_law 183 = .ok (.iadd, 1) := by decide +kernel
theorem dL_law_184 : decode cL_law 184 = .ok (.invokestatic 41, 3) := by decide +kernel
theorem dL_law_187 : decode cL_law 187 = .ok (.istore 16, 2) := by decide +kernel
theorem dL_law_189 : decode cL_law 189 = .ok (.iload 14, 2) := by decide +kernel
theorem dL_law_191 : decode cL_law 191 = .ok (.ifCond .ne 7, 3) := by decide +kernel
theorem dL_law_194 : decode cL_law 194 = .ok (.iconst 0, 1) := by decide +kernel
theorem dL_law_195 : decode cL_law 195 = .ok (.goto 12, 3) := by decide +kernel
theorem dL_law_198 : decode cL_law 198 = .ok (.iload 16, 2) := by decide +kernel
theorem dL_law_200 : decode cL_law 200 = .ok (.iconst 2, 1) := by decide +kernel
theorem dL_law_201 : decode cL_law 201 = .ok (.ishr, 1) := by decide +kernel
theorem dL_law_202 : decode cL_law 202 = .ok (.iload 14, 2) := by decide +kernel
theorem dL_law_204 : decode cL_law 204 = .ok (.invokestatic 45, 3) := by decide +kernel
theorem dL_law_207 : decode cL_law 207 = .ok (.istore 17, 2) := by decide +kernel
theorem dL_law_209 : decode cL_law 209 = .ok (.iload 16, 2) := by decide +kernel
theorem dL_law_211 : decode cL_law 211 = .ok (.bipush 8, 2) := by decide +kernel
theorem dL_law_213 : decode cL_law 213 = .ok (.ishr, 1) := by decide +kernel
theorem dL_law_214 : decode cL_law 214 = .ok (.bipush 16, 2) := by decide +kernel
theorem dL_law_216 : decode cL_law 216 = .ok (.invokestatic 45, 3) := by decide +kernel
theorem dL_law_219 : decode cL_law 219 = .ok (.istore 18, 2) := by decide +kernel
theorem dL_law_221 : decode cL_law 221 = .ok (.iconst 0, 1) := by decide +kernel
theorem dL_law_222 : decode cL_law 222 = .ok (.istore 19, 2) := by decide +kernel
theorem dL_law_224 : decode cL_law 224 = .ok (.iload 16, 2) := by decide +kernel
theorem dL_law_226 : decode cL_law 226 = .ok (.iconst 3, 1) := by decide +kernel
theorem dL_law_227 : decode cL_law 227 = .ok (.iand, 1) := by decide +kernel
theorem dL_law_228 : decode cL_law 228 = .ok (.iconst 1, 1) := by decide +kernel
theorem dL_law_229 : decode cL_law 229 = .ok (.if_icmp .le 12, 3) := by decide +kernel
theorem dL_law_232 : decode cL_law 232 = .ok (.iload 14, 2) := by decide +kernel
theorem dL_law_234 : decode cL_law 234 = .ok (.ifCond .le 7, 3) := by decide +kernel
theorem dL_law_237 : decode cL_law 237 = .ok (.iconst 1, 1) := by decide +kernel
theorem dL_law_238 : decode cL_law 238 = .ok (.goto 4, 3) := by decide +kernel
theorem dL_law_241 : decode cL_law 241 = .ok (.iconst 0, 1) := by decide +kernel
theorem dL_law_242 : decode cL_law 242 = .ok (.istore 20, 2) := by decide +kernel
theorem dL_law_244 : decode cL_law 244 = .ok (.iload 20, 2) := by decide +kernel
theorem dL_law_246 : decode cL_law 246 = .ok (.ifCond .ne 117, 3) := by decide +kernel
theorem dL_law_249 : decode cL_law 249 = .ok (.aload 8, 2) := by decide +kernel
theorem dL_law_251 : decode cL_law 251 = .ok (.iload 14, 2) := by decide +kernel
theorem dL_law_253 : decode cL_law 253 = .ok (.iload 18, 2) := by decide +kernel
theorem dL_law_255 : decode cL_law 255 = .ok (.iastore, 1) := by decide +kernel
theorem dL_law_256 : decode cL_law 256 = .ok (.aload 9, 2) := by decide +kernel
theorem dL_law_258 : decode cL_law 258 = .ok (.iload 14, 2) := by decide +kernel
theorem dL_law_260 : decode cL_law 260 = .ok (.iload 16, 2) := by decide +kernel
theorem dL_law_262 : decode cL_law 262 = .ok (.bipush 12, 2) := by decide +kernel
theorem dL_law_264 : decode cL_law 264 = .ok (.ishr, 1) := by decide +kernel
theorem dL_law_265 : decode cL_law 265 = .ok (.iconst 4, 1) := by decide +kernel
theorem dL_law_266 : decode cL_law 266 = .ok (.invokestatic 45, 3) := by decide +kernel
theorem dL_law_269 : decode cL_law 269 = .ok (.iastore, 1) := by decide +kernel
theorem dL_law_270 : decode cL_law 270 = .ok (.aload 10, 2) := by decide +kernel
theorem dL_law_272 : decode cL_law 272 = .ok (.iload 14, 2) := by decide +kernel
theorem dL_law_274 : decode cL_law 274 = .ok (.iconst (-1), 1) := by decide +kernel
theorem dL_law_275 : decode cL_law 275 = .ok (.iastore, 1) := by decide +kernel
theorem dL_law_276 : decode cL_law 276 = .ok (.iload_n 2, 1) := by decide +kernel
theorem dL_law_277 : decode cL_law 277 = .ok (.iload 18, 2) := by decide +kernel
theorem dL_law_279 : decode cL_law 279 = .ok (.aload 5, 2) := by decide +kernel
theorem dL_law_281 : decode cL_law 281 = .ok (.aload 11, 2) := by decide +kernel
theorem dL_law_283 : decode cL_law 283 = .ok (.iload 4, 2) := by decide +kernel
theorem dL_law_285 : decode cL_law 285 = .ok (.aload 8, 2) := by decide +kernel
theorem dL_law_287 : decode cL_law 287 = .ok (.aload 12, 2) := by decide +kernel
theorem dL_law_289 : decode cL_law 289 = .ok (.invokestatic 59, 3) := by decide +kernel
theorem dL_law_292 : decode cL_law 292 = .ok (.istore 21, 2) := by decide +kernel
theorem dL_law_294 : decode cL_law 294 = .ok (.iload 21, 2) := by decide +kernel
theorem dL_law_296 : decode cL_law 296 = .ok (.ifCond .le 43, 3) := by decide +kernel
theorem dL_law_299 : decode cL_law 299 = .ok (.iload 21, 2) := by decide +kernel
theorem dL_law_301 : decode cL_law 301 = .ok (.iconst 1, 1) := by decide +kernel
theorem dL_law_302 : decode cL_law 302 = .ok (.isub, 1) := by decide +kernel
theorem dL_law_303 : decode cL_law 303 = .ok (.iload_n 3, 1) := by decide +kernel
theorem dL_law_304 : decode cL_law 304 = .ok (.if_icmp .gt 35, 3) := by decide +kernel
theorem dL_law_307 : decode cL_law 307 = .ok (.iload 14, 2) := by decide +kernel
theorem dL_law_309 : decode cL_law 309 = .ok (.iload 21, 2) := by decide +kernel
theorem dL_law_311 : decode cL_law 311 = .ok (.aload 12, 2) := by decide +kernel
theorem dL_law_313 : decode cL_law 313 = .ok (.aload 5, 2) := by decide +kernel
theorem dL_law_315 : decode cL_law 315 = .ok (.aload 10, 2) := by decide +kernel
theorem dL_law_317 : decode cL_law 317 = .ok (.aload 11, 2) := by decide +kernel
theorem dL_law_319 : decode cL_law 319 = .ok (.aload 13, 2) := by decide +kernel
theorem dL_law_321 : decode cL_law 321 = .ok (.iconst 0, 1) := by decide +kernel
theorem dL_law_322 : decode cL_law 322 = .ok (.invokestatic 63, 3) := by decide +kernel
