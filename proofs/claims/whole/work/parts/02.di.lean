theorem d_M_work_82 : decode b_M_work 82 = .ok (.iload_n 1, 1) := by decide +kernel
theorem d_M_work_83 : decode b_M_work 83 = .ok (.iconst 1, 1) := by decide +kernel
theorem d_M_work_84 : decode b_M_work 84 = .ok (.if_icmp .ne 14, 3) := by decide +kernel
theorem d_M_work_87 : decode b_M_work 87 = .ok (.aload_n 0, 1) := by decide +kernel
theorem d_M_work_88 : decode b_M_work 88 = .ok (.getfield 16, 3) := by decide +kernel
theorem d_M_work_91 : decode b_M_work 91 = .ok (.iload 4, 2) := by decide +kernel
theorem d_M_work_93 : decode b_M_work 93 = .ok (.iaload, 1) := by decide +kernel
theorem d_M_work_94 : decode b_M_work 94 = .ok (.ineg, 1) := by decide +kernel
theorem d_M_work_95 : decode b_M_work 95 = .ok (.goto 10, 3) := by decide +kernel
theorem d_M_work_98 : decode b_M_work 98 = .ok (.aload_n 0, 1) := by decide +kernel
theorem d_M_work_99 : decode b_M_work 99 = .ok (.getfield 16, 3) := by decide +kernel
theorem d_M_work_102 : decode b_M_work 102 = .ok (.iload 4, 2) := by decide +kernel
theorem d_M_work_104 : decode b_M_work 104 = .ok (.iaload, 1) := by decide +kernel
theorem d_M_work_105 : decode b_M_work 105 = .ok (.istore 8, 2) := by decide +kernel
theorem d_M_work_107 : decode b_M_work 107 = .ok (.iload_n 1, 1) := by decide +kernel
theorem d_M_work_108 : decode b_M_work 108 = .ok (.iconst 2, 1) := by decide +kernel
theorem d_M_work_109 : decode b_M_work 109 = .ok (.if_icmp .ne 42, 3) := by decide +kernel
theorem d_M_work_112 : decode b_M_work 112 = .ok (.aload_n 0, 1) := by decide +kernel
theorem d_M_work_113 : decode b_M_work 113 = .ok (.iload_n 2, 1) := by decide +kernel
theorem d_M_work_114 : decode b_M_work 114 = .ok (.iload 7, 2) := by decide +kernel
theorem d_M_work_116 : decode b_M_work 116 = .ok (.iload 8, 2) := by decide +kernel
theorem d_M_work_118 : decode b_M_work 118 = .ok (.imul, 1) := by decide +kernel
theorem d_M_work_119 : decode b_M_work 119 = .ok (.aload_n 0, 1) := by decide +kernel
theorem d_M_work_120 : decode b_M_work 120 = .ok (.getfield 28, 3) := by decide +kernel
theorem d_M_work_123 : decode b_M_work 123 = .ok (.aload_n 0, 1) := by decide +kernel
theorem d_M_work_124 : decode b_M_work 124 = .ok (.getfield 22, 3) := by decide +kernel
theorem d_M_work_127 : decode b_M_work 127 = .ok (.iload 5, 2) := by decide +kernel
theorem d_M_work_129 : decode b_M_work 129 = .ok (.aload_n 0, 1) := by decide +kernel
theorem d_M_work_130 : decode b_M_work 130 = .ok (.getfield 25, 3) := by decide +kernel
theorem d_M_work_133 : decode b_M_work 133 = .ok (.iload 6, 2) := by decide +kernel
theorem d_M_work_135 : decode b_M_work 135 = .ok (.aload_n 0, 1) := by decide +kernel
theorem d_M_work_136 : decode b_M_work 136 = .ok (.getfield 28, 3) := by decide +kernel
theorem d_M_work_139 : decode b_M_work 139 = .ok (.invokestatic 107, 3) := by decide +kernel
theorem d_M_work_142 : decode b_M_work 142 = .ok (.iconst 2, 1) := by decide +kernel
theorem d_M_work_143 : decode b_M_work 143 = .ok (.invokevirtual 91, 3) := by decide +kernel
theorem d_M_work_146 : decode b_M_work 146 = .ok (.istore 9, 2) := by decide +kernel
theorem d_M_work_148 : decode b_M_work 148 = .ok (.goto 153, 3) := by decide +kernel
theorem d_M_work_151 : decode b_M_work 151 = .ok (.iload 7, 2) := by decide +kernel
theorem d_M_work_153 : decode b_M_work 153 = .ok (.iload 8, 2) := by decide +kernel
theorem d_M_work_155 : decode b_M_work 155 = .ok (.if_icmp .eq 13, 3) := by decide +kernel
theorem d_M_work_158 : decode b_M_work 158 = .ok (.iload 8, 2) := by decide +kernel
theorem d_M_work_160 : decode b_M_work 160 = .ok (.ifCond .eq 8, 3) := by decide +kernel
theorem d_M_work_163 : decode b_M_work 163 = .ok (.iload 7, 2) := by decide +kernel
theorem d_M_work_165 : decode b_M_work 165 = .ok (.ifCond .ne 49, 3) := by decide +kernel
theorem d_M_work_168 : decode b_M_work 168 = .ok (.aload_n 0, 1) := by decide +kernel
theorem d_M_work_169 : decode b_M_work 169 = .ok (.iload_n 2, 1) := by decide +kernel
theorem d_M_work_170 : decode b_M_work 170 = .ok (.iload 7, 2) := by decide +kernel
theorem d_M_work_172 : decode b_M_work 172 = .ok (.ifCond .eq 8, 3) := by decide +kernel
theorem d_M_work_175 : decode b_M_work 175 = .ok (.iload 7, 2) := by decide +kernel
theorem d_M_work_177 : decode b_M_work 177 = .ok (.goto 5, 3) := by decide +kernel
theorem d_M_work_180 : decode b_M_work 180 = .ok (.iload 8, 2) := by decide +kernel
theorem d_M_work_182 : decode b_M_work 182 = .ok (.aload_n 0, 1) := by decide +kernel
theorem d_M_work_183 : decode b_M_work 183 = .ok (.getfield 28, 3) := by decide +kernel
theorem d_M_work_186 : decode b_M_work 186 = .ok (.aload_n 0, 1) := by decide +kernel
theorem d_M_work_187 : decode b_M_work 187 = .ok (.getfield 22, 3) := by decide +kernel
theorem d_M_work_190 : decode b_M_work 190 = .ok (.iload 5, 2) := by decide +kernel
theorem d_M_work_192 : decode b_M_work 192 = .ok (.aload_n 0, 1) := by decide +kernel
theorem d_M_work_193 : decode b_M_work 193 = .ok (.getfield 25, 3) := by decide +kernel
theorem d_M_work_196 : decode b_M_work 196 = .ok (.iload 6, 2) := by decide +kernel
theorem d_M_work_198 : decode b_M_work 198 = .ok (.aload_n 0, 1) := by decide +kernel
theorem d_M_work_199 : decode b_M_work 199 = .ok (.getfield 28, 3) := by decide +kernel
theorem d_M_work_202 : decode b_M_work 202 = .ok (.invokestatic 111, 3) := by decide +kernel
theorem d_M_work_205 : decode b_M_work 205 = .ok (.iconst 2, 1) := by decide +kernel
theorem d_M_work_206 : decode b_M_work 206 = .ok (.invokevirtual 91, 3) := by decide +kernel
theorem d_M_work_209 : decode b_M_work 209 = .ok (.istore 9, 2) := by decide +kernel
theorem d_M_work_211 : decode b_M_work 211 = .ok (.goto 90, 3) := by decide +kernel
theorem d_M_work_214 : decode b_M_work 214 = .ok (.aload_n 0, 1) := by decide +kernel
theorem d_M_work_215 : decode b_M_work 215 = .ok (.getfield 22, 3) := by decide +kernel
theorem d_M_work_218 : decode b_M_work 218 = .ok (.iload 5, 2) := by decide +kernel
theorem d_M_work_220 : decode b_M_work 220 = .ok (.aload_n 0, 1) := by decide +kernel
theorem d_M_work_221 : decode b_M_work 221 = .ok (.getfield 25, 3) := by decide +kernel
theorem d_M_work_224 : decode b_M_work 224 = .ok (.iload 6, 2) := by decide +kernel
theorem d_M_work_226 : decode b_M_work 226 = .ok (.invokestatic 60, 3) := by decide +kernel
theorem d_M_work_229 : decode b_M_work 229 = .ok (.ifCond .lt 39, 3) := by decide +kernel
theorem d_M_work_232 : decode b_M_work 232 = .ok (.aload_n 0, 1) := by decide +kernel
theorem d_M_work_233 : decode b_M_work 233 = .ok (.iload_n 2, 1) := by decide +kernel
theorem d_M_work_234 : decode b_M_work 234 = .ok (.iload 7, 2) := by decide +kernel
theorem d_M_work_236 : decode b_M_work 236 = .ok (.aload_n 0, 1) := by decide +kernel
theorem d_M_work_237 : decode b_M_work 237 = .ok (.getfield 28, 3) := by decide +kernel
theorem d_M_work_240 : decode b_M_work 240 = .ok (.aload_n 0, 1) := by decide +kernel
theorem d_M_work_241 : decode b_M_work 241 = .ok (.getfield 22, 3) := by decide +kernel
theorem d_M_work_244 : decode b_M_work 244 = .ok (.iload 5, 2) := by decide +kernel
theorem d_M_work_246 : decode b_M_work 246 = .ok (.aload_n 0, 1) := by decide +kernel
theorem d_M_work_247 : decode b_M_work 247 = .ok (.getfield 25, 3) := by decide +kernel
theorem d_M_work_250 : decode b_M_work 250 = .ok (.iload 6, 2) := by decide +kernel
theorem d_M_work_252 : decode b_M_work 252 = .ok (.aload_n 0, 1) := by decide +kernel
theorem d_M_work_253 : decode b_M_work 253 = .ok (.getfield 28, 3) := by decide +kernel
theorem d_M_work_256 : decode b_M_work 256 = .ok (.invokestatic 114, 3) := by decide +kernel
theorem d_M_work_259 : decode b_M_work 259 = .ok (.iconst 2, 1) := by decide +kernel
theorem d_M_work_260 : decode b_M_work 260 = .ok (.invokevirtual 91, 3) := by decide +kernel
theorem d_M_work_263 : decode b_M_work 263 = .ok (.istore 9, 2) := by decide +kernel
theorem d_M_work_265 : decode b_M_work 265 = .ok (.goto 36, 3) := by decide +kernel
theorem d_M_work_268 : decode b_M_work 268 = .ok (.aload_n 0, 1) := by decide +kernel
theorem d_M_work_269 : decode b_M_work 269 = .ok (.iload_n 2, 1) := by decide +kernel
theorem d_M_work_270 : decode b_M_work 270 = .ok (.iload 8, 2) := by decide +kernel
theorem d_M_work_272 : decode b_M_work 272 = .ok (.aload_n 0, 1) := by decide +kernel
theorem d_M_work_273 : decode b_M_work 273 = .ok (.getfield 28, 3) := by decide +kernel
theorem d_M_work_276 : decode b_M_work 276 = .ok (.aload_n 0, 1) := by decide +kernel
theorem d_M_work_277 : decode b_M_work 277 = .ok (.getfield 25, 3) := by decide +kernel
theorem d_M_work_280 : decode b_M_work 280 = .ok (.iload 6, 2) := by decide +kernel
theorem d_M_work_282 : decode b_M_work 282 = .ok (.aload_n 0, 1) := by decide +kernel
theorem d_M_work_283 : decode b_M_work 283 = .ok (.getfield 22, 3) := by decide +kernel
theorem d_M_work_286 : decode b_M_work 286 = .ok (.iload 5, 2) := by decide +kernel
theorem d_M_work_288 : decode b_M_work 288 = .ok (.aload_n 0, 1) := by decide +kernel
theorem d_M_work_289 : decode b_M_work 289 = .ok (.getfield 28, 3) := by decide +kernel
theorem d_M_work_292 : decode b_M_work 292 = .ok (.invokestatic 114, 3) := by decide +kernel
theorem d_M_work_295 : decode b_M_work 295 = .ok (.iconst 2, 1) := by decide +kernel
theorem d_M_work_296 : decode b_M_work 296 = .ok (.invokevirtual 91, 3) := by decide +kernel
theorem d_M_work_299 : decode b_M_work 299 = .ok (.istore 9, 2) := by decide +kernel
theorem d_M_work_301 : decode b_M_work 301 = .ok (.iload 9, 2) := by decide +kernel
theorem d_M_work_303 : decode b_M_work 303 = .ok (.ifCond .eq 12, 3) := by decide +kernel
theorem d_M_work_306 : decode b_M_work 306 = .ok (.aload_n 0, 1) := by decide +kernel
theorem d_M_work_307 : decode b_M_work 307 = .ok (.getfield 16, 3) := by decide +kernel
theorem d_M_work_310 : decode b_M_work 310 = .ok (.iload_n 2, 1) := by decide +kernel
theorem d_M_work_311 : decode b_M_work 311 = .ok (.iaload, 1) := by decide +kernel
theorem d_M_work_312 : decode b_M_work 312 = .ok (.goto 4, 3) := by decide +kernel
theorem d_M_work_315 : decode b_M_work 315 = .ok (.iconst 0, 1) := by decide +kernel
theorem d_M_work_316 : decode b_M_work 316 = .ok (.ireturn, 1) := by decide +kernel
theorem d_M_divide_0 : decode b_M_divide 0 = .ok (.aload_n 0, 1) := by decide +kernel
theorem d_M_divide_1 : decode b_M_divide 1 = .ok (.iconst 0, 1) := by decide +kernel
theorem d_M_divide_2 : decode b_M_divide 2 = .ok (.putfield 49, 3) := by decide +kernel
theorem d_M_divide_5 : decode b_M_divide 5 = .ok (.aload_n 0, 1) := by decide +kernel
theorem d_M_divide_6 : decode b_M_divide 6 = .ok (.iload_n 2, 1) := by decide +kernel
theorem d_M_divide_7 : decode b_M_divide 7 = .ok (.invokestatic 83, 3) := by decide +kernel
theorem d_M_divide_10 : decode b_M_divide 10 = .ok (.ifCond .eq 31, 3) := by decide +kernel
theorem d_M_divide_13 : decode b_M_divide 13 = .ok (.iload_n 3, 1) := by decide +kernel
theorem d_M_divide_14 : decode b_M_divide 14 = .ok (.invokestatic 83, 3) := by decide +kernel
theorem d_M_divide_17 : decode b_M_divide 17 = .ok (.ifCond .eq 24, 3) := by decide +kernel
theorem d_M_divide_20 : decode b_M_divide 20 = .ok (.iload 4, 2) := by decide +kernel
theorem d_M_divide_22 : decode b_M_divide 22 = .ok (.invokestatic 83, 3) := by decide +kernel
theorem d_M_divide_25 : decode b_M_divide 25 = .ok (.ifCond .eq 16, 3) := by decide +kernel
theorem d_M_divide_28 : decode b_M_divide 28 = .ok (.iload 5, 2) := by decide +kernel
theorem d_M_divide_30 : decode b_M_divide 30 = .ok (.invokestatic 83, 3) := by decide +kernel
theorem d_M_divide_33 : decode b_M_divide 33 = .ok (.ifCond .eq 8, 3) := by decide +kernel
theorem d_M_divide_36 : decode b_M_divide 36 = .ok (.iload_n 2, 1) := by decide +kernel
theorem d_M_divide_37 : decode b_M_divide 37 = .ok (.iload_n 3, 1) := by decide +kernel
theorem d_M_divide_38 : decode b_M_divide 38 = .ok (.if_icmp .ne 7, 3) := by decide +kernel
theorem d_M_divide_41 : decode b_M_divide 41 = .ok (.iconst 1, 1) := by decide +kernel
theorem d_M_divide_42 : decode b_M_divide 42 = .ok (.goto 4, 3) := by decide +kernel
theorem d_M_divide_45 : decode b_M_divide 45 = .ok (.iconst 0, 1) := by decide +kernel
theorem d_M_divide_46 : decode b_M_divide 46 = .ok (.iconst 1, 1) := by decide +kernel
theorem d_M_divide_47 : decode b_M_divide 47 = .ok (.invokevirtual 79, 3) := by decide +kernel
theorem d_M_divide_50 : decode b_M_divide 50 = .ok (.ifCond .ne 26, 3) := by decide +kernel
theorem d_M_divide_53 : decode b_M_divide 53 = .ok (.aload_n 0, 1) := by decide +kernel
theorem d_M_divide_54 : decode b_M_divide 54 = .ok (.aload_n 0, 1) := by decide +kernel
theorem d_M_divide_55 : decode b_M_divide 55 = .ok (.getfield 16, 3) := by decide +kernel
theorem d_M_divide_58 : decode b_M_divide 58 = .ok (.iload 5, 2) := by decide +kernel
theorem d_M_divide_60 : decode b_M_divide 60 = .ok (.iaload, 1) := by decide +kernel
theorem d_M_divide_61 : decode b_M_divide 61 = .ok (.ifCond .ne 7, 3) := by decide +kernel
theorem d_M_divide_64 : decode b_M_divide 64 = .ok (.iconst 1, 1) := by decide +kernel
theorem d_M_divide_65 : decode b_M_divide 65 = .ok (.goto 4, 3) := by decide +kernel
theorem d_M_divide_68 : decode b_M_divide 68 = .ok (.iconst 0, 1) := by decide +kernel
theorem d_M_divide_69 : decode b_M_divide 69 = .ok (.iconst 2, 1) := by decide +kernel
theorem d_M_divide_70 : decode b_M_divide 70 = .ok (.invokevirtual 79, 3) := by decide +kernel
theorem d_M_divide_73 : decode b_M_divide 73 = .ok (.ifCond .eq 5, 3) := by decide +kernel
theorem d_M_divide_76 : decode b_M_divide 76 = .ok (.iconst 0, 1) := by decide +kernel
theorem d_M_divide_77 : decode b_M_divide 77 = .ok (.ireturn, 1) := by decide +kernel
theorem d_M_divide_78 : decode b_M_divide 78 = .ok (.aload_n 0, 1) := by decide +kernel
theorem d_M_divide_79 : decode b_M_divide 79 = .ok (.iload 4, 2) := by decide +kernel
theorem d_M_divide_81 : decode b_M_divide 81 = .ok (.aload_n 0, 1) := by decide +kernel
theorem d_M_divide_82 : decode b_M_divide 82 = .ok (.getfield 22, 3) := by decide +kernel
theorem d_M_divide_85 : decode b_M_divide 85 = .ok (.invokevirtual 72, 3) := by decide +kernel
theorem d_M_divide_88 : decode b_M_divide 88 = .ok (.istore 6, 2) := by decide +kernel
theorem d_M_divide_90 : decode b_M_divide 90 = .ok (.aload_n 0, 1) := by decide +kernel
theorem d_M_divide_91 : decode b_M_divide 91 = .ok (.iload 5, 2) := by decide +kernel
theorem d_M_divide_93 : decode b_M_divide 93 = .ok (.aload_n 0, 1) := by decide +kernel
theorem d_M_divide_94 : decode b_M_divide 94 = .ok (.getfield 25, 3) := by decide +kernel
theorem d_M_divide_97 : decode b_M_divide 97 = .ok (.invokevirtual 72, 3) := by decide +kernel
theorem d_M_divide_100 : decode b_M_divide 100 = .ok (.istore 7, 2) := by decide +kernel
theorem d_M_divide_102 : decode b_M_divide 102 = .ok (.aload_n 0, 1) := by decide +kernel
theorem d_M_divide_103 : decode b_M_divide 103 = .ok (.getfield 16, 3) := by decide +kernel
theorem d_M_divide_106 : decode b_M_divide 106 = .ok (.iload 4, 2) := by decide +kernel
theorem d_M_divide_108 : decode b_M_divide 108 = .ok (.iaload, 1) := by decide +kernel
theorem d_M_divide_109 : decode b_M_divide 109 = .ok (.istore 8, 2) := by decide +kernel
theorem d_M_divide_111 : decode b_M_divide 111 = .ok (.aload_n 0, 1) := by decide +kernel
theorem d_M_divide_112 : decode b_M_divide 112 = .ok (.getfield 16, 3) := by decide +kernel
theorem d_M_divide_115 : decode b_M_divide 115 = .ok (.iload 5, 2) := by decide +kernel
theorem d_M_divide_117 : decode b_M_divide 117 = .ok (.iaload, 1) := by decide +kernel
theorem d_M_divide_118 : decode b_M_divide 118 = .ok (.istore 9, 2) := by decide +kernel
theorem d_M_divide_120 : decode b_M_divide 120 = .ok (.aload_n 0, 1) := by decide +kernel
theorem d_M_divide_121 : decode b_M_divide 121 = .ok (.aload_n 0, 1) := by decide +kernel
theorem d_M_divide_122 : decode b_M_divide 122 = .ok (.getfield 22, 3) := by decide +kernel
theorem d_M_divide_125 : decode b_M_divide 125 = .ok (.iload 6, 2) := by decide +kernel
theorem d_M_divide_127 : decode b_M_divide 127 = .ok (.aload_n 0, 1) := by decide +kernel
theorem d_M_divide_128 : decode b_M_divide 128 = .ok (.getfield 25, 3) := by decide +kernel
theorem d_M_divide_131 : decode b_M_divide 131 = .ok (.iload 7, 2) := by decide +kernel
theorem d_M_divide_133 : decode b_M_divide 133 = .ok (.aload_n 0, 1) := by decide +kernel
theorem d_M_divide_134 : decode b_M_divide 134 = .ok (.getfield 28, 3) := by decide +kernel
theorem d_M_divide_137 : decode b_M_divide 137 = .ok (.invokevirtual 117, 3) := by decide +kernel
theorem d_M_divide_140 : decode b_M_divide 140 = .ok (.istore 6, 2) := by decide +kernel
theorem d_M_divide_142 : decode b_M_divide 142 = .ok (.aload_n 0, 1) := by decide +kernel
theorem d_M_divide_143 : decode b_M_divide 143 = .ok (.getfield 64, 3) := by decide +kernel
theorem d_M_divide_146 : decode b_M_divide 146 = .ok (.istore 10, 2) := by decide +kernel
theorem d_M_divide_148 : decode b_M_divide 148 = .ok (.iload_n 1, 1) := by decide +kernel
theorem d_M_divide_149 : decode b_M_divide 149 = .ok (.ifCond .eq 129, 3) := by decide +kernel
theorem d_M_divide_152 : decode b_M_divide 152 = .ok (.iload 6, 2) := by decide +kernel
theorem d_M_divide_154 : decode b_M_divide 154 = .ok (.ifCond .le 124, 3) := by decide +kernel
theorem d_M_divide_157 : decode b_M_divide 157 = .ok (.iload 8, 2) := by decide +kernel
theorem d_M_divide_159 : decode b_M_divide 159 = .ok (.iload 9, 2) := by decide +kernel
theorem d_M_divide_161 : decode b_M_divide 161 = .ok (.if_icmp .eq 117, 3) := by decide +kernel
theorem d_M_divide_164 : decode b_M_divide 164 = .ok (.aload_n 0, 1) := by decide +kernel
theorem d_M_divide_165 : decode b_M_divide 165 = .ok (.getfield 31, 3) := by decide +kernel
theorem d_M_divide_168 : decode b_M_divide 168 = .ok (.iconst 0, 1) := by decide +kernel
theorem d_M_divide_169 : decode b_M_divide 169 = .ok (.iconst 1, 1) := by decide +kernel
theorem d_M_divide_170 : decode b_M_divide 170 = .ok (.iastore, 1) := by decide +kernel
theorem d_M_divide_171 : decode b_M_divide 171 = .ok (.aload_n 0, 1) := by decide +kernel
theorem d_M_divide_172 : decode b_M_divide 172 = .ok (.getfield 28, 3) := by decide +kernel
theorem d_M_divide_175 : decode b_M_divide 175 = .ok (.iload 10, 2) := by decide +kernel
theorem d_M_divide_177 : decode b_M_divide 177 = .ok (.aload_n 0, 1) := by decide +kernel
theorem d_M_divide_178 : decode b_M_divide 178 = .ok (.getfield 31, 3) := by decide +kernel
theorem d_M_divide_181 : decode b_M_divide 181 = .ok (.iconst 1, 1) := by decide +kernel
theorem d_M_divide_182 : decode b_M_divide 182 = .ok (.aload_n 0, 1) := by decide +kernel
theorem d_M_divide_183 : decode b_M_divide 183 = .ok (.getfield 28, 3) := by decide +kernel
theorem d_M_divide_186 : decode b_M_divide 186 = .ok (.invokestatic 111, 3) := by decide +kernel
theorem d_M_divide_189 : decode b_M_divide 189 = .ok (.istore 10, 2) := by decide +kernel
theorem d_M_divide_191 : decode b_M_divide 191 = .ok (.aload_n 0, 1) := by decide +kernel
theorem d_M_divide_192 : decode b_M_divide 192 = .ok (.getfield 25, 3) := by decide +kernel
theorem d_M_divide_195 : decode b_M_divide 195 = .ok (.iload 7, 2) := by decide +kernel
theorem d_M_divide_197 : decode b_M_divide 197 = .ok (.aload_n 0, 1) := by decide +kernel
theorem d_M_divide_198 : decode b_M_divide 198 = .ok (.getfield 22, 3) := by decide +kernel
theorem d_M_divide_201 : decode b_M_divide 201 = .ok (.iload 6, 2) := by decide +kernel
theorem d_M_divide_203 : decode b_M_divide 203 = .ok (.aload_n 0, 1) := by decide +kernel
theorem d_M_divide_204 : decode b_M_divide 204 = .ok (.getfield 31, 3) := by decide +kernel
theorem d_M_divide_207 : decode b_M_divide 207 = .ok (.invokestatic 114, 3) := by decide +kernel
theorem d_M_divide_210 : decode b_M_divide 210 = .ok (.istore 6, 2) := by decide +kernel
theorem d_M_divide_212 : decode b_M_divide 212 = .ok (.aload_n 0, 1) := by decide +kernel
theorem d_M_divide_213 : decode b_M_divide 213 = .ok (.aload_n 0, 1) := by decide +kernel
theorem d_M_divide_214 : decode b_M_divide 214 = .ok (.getfield 28, 3) := by decide +kernel
theorem d_M_divide_217 : decode b_M_divide 217 = .ok (.iload 10, 2) := by decide +kernel
theorem d_M_divide_219 : decode b_M_divide 219 = .ok (.invokestatic 76, 3) := by decide +kernel
theorem d_M_divide_222 : decode b_M_divide 222 = .ok (.sipush 2048, 3) := by decide +kernel
theorem d_M_divide_225 : decode b_M_divide 225 = .ok (.if_icmp .le 7, 3) := by decide +kernel
theorem d_M_divide_228 : decode b_M_divide 228 = .ok (.iconst 1, 1) := by decide +kernel
theorem d_M_divide_229 : decode b_M_divide 229 = .ok (.goto 4, 3) := by decide +kernel
theorem d_M_divide_232 : decode b_M_divide 232 = .ok (.iconst 0, 1) := by decide +kernel
theorem d_M_divide_233 : decode b_M_divide 233 = .ok (.iconst 2, 1) := by decide +kernel
theorem d_M_divide_234 : decode b_M_divide 234 = .ok (.invokevirtual 79, 3) := by decide +kernel
theorem d_M_divide_237 : decode b_M_divide 237 = .ok (.ifCond .eq 5, 3) := by decide +kernel
theorem d_M_divide_240 : decode b_M_divide 240 = .ok (.iconst 0, 1) := by decide +kernel
theorem d_M_divide_241 : decode b_M_divide 241 = .ok (.ireturn, 1) := by decide +kernel
theorem d_M_divide_242 : decode b_M_divide 242 = .ok (.aload_n 0, 1) := by decide +kernel
theorem d_M_divide_243 : decode b_M_divide 243 = .ok (.iload_n 2, 1) := by decide +kernel
theorem d_M_divide_244 : decode b_M_divide 244 = .ok (.iload 8, 2) := by decide +kernel
theorem d_M_divide_246 : decode b_M_divide 246 = .ok (.iload 9, 2) := by decide +kernel
theorem d_M_divide_248 : decode b_M_divide 248 = .ok (.imul, 1) := by decide +kernel
theorem d_M_divide_249 : decode b_M_divide 249 = .ok (.aload_n 0, 1) := by decide +kernel
theorem d_M_divide_250 : decode b_M_divide 250 = .ok (.getfield 28, 3) := by decide +kernel
theorem d_M_divide_253 : decode b_M_divide 253 = .ok (.iload 10, 2) := by decide +kernel
theorem d_M_divide_255 : decode b_M_divide 255 = .ok (.iconst 2, 1) := by decide +kernel
theorem d_M_divide_256 : decode b_M_divide 256 = .ok (.invokevirtual 91, 3) := by decide +kernel
theorem d_M_divide_259 : decode b_M_divide 259 = .ok (.pop, 1) := by decide +kernel
theorem d_M_divide_260 : decode b_M_divide 260 = .ok (.aload_n 0, 1) := by decide +kernel
theorem d_M_divide_261 : decode b_M_divide 261 = .ok (.iload_n 3, 1) := by decide +kernel
theorem d_M_divide_262 : decode b_M_divide 262 = .ok (.iload 9, 2) := by decide +kernel
theorem d_M_divide_264 : decode b_M_divide 264 = .ok (.aload_n 0, 1) := by decide +kernel
theorem d_M_divide_265 : decode b_M_divide 265 = .ok (.getfield 31, 3) := by decide +kernel
theorem d_M_divide_268 : decode b_M_divide 268 = .ok (.iload 6, 2) := by decide +kernel
theorem d_M_divide_270 : decode b_M_divide 270 = .ok (.iconst 2, 1) := by decide +kernel
theorem d_M_divide_271 : decode b_M_divide 271 = .ok (.invokevirtual 91, 3) := by decide +kernel
theorem d_M_divide_274 : decode b_M_divide 274 = .ok (.pop, 1) := by decide +kernel
theorem d_M_divide_275 : decode b_M_divide 275 = .ok (.goto 36, 3) := by decide +kernel
theorem d_M_divide_278 : decode b_M_divide 278 = .ok (.aload_n 0, 1) := by decide +kernel
theorem d_M_divide_279 : decode b_M_divide 279 = .ok (.iload_n 2, 1) := by decide +kernel
theorem d_M_divide_280 : decode b_M_divide 280 = .ok (.iload 8, 2) := by decide +kernel
theorem d_M_divide_282 : decode b_M_divide 282 = .ok (.iload 9, 2) := by decide +kernel
theorem d_M_divide_284 : decode b_M_divide 284 = .ok (.imul, 1) := by decide +kernel
theorem d_M_divide_285 : decode b_M_divide 285 = .ok (.aload_n 0, 1) := by decide +kernel
theorem d_M_divide_286 : decode b_M_divide 286 = .ok (.getfield 28, 3) := by decide +kernel
theorem d_M_divide_289 : decode b_M_divide 289 = .ok (.iload 10, 2) := by decide +kernel
theorem d_M_divide_291 : decode b_M_divide 291 = .ok (.iconst 2, 1) := by decide +kernel
theorem d_M_divide_292 : decode b_M_divide 292 = .ok (.invokevirtual 91, 3) := by decide +kernel
theorem d_M_divide_295 : decode b_M_divide 295 = .ok (.pop, 1) := by decide +kernel
theorem d_M_divide_296 : decode b_M_divide 296 = .ok (.aload_n 0, 1) := by decide +kernel
theorem d_M_divide_297 : decode b_M_divide 297 = .ok (.iload_n 3, 1) := by decide +kernel
theorem d_M_divide_298 : decode b_M_divide 298 = .ok (.iload 8, 2) := by decide +kernel
theorem d_M_divide_300 : decode b_M_divide 300 = .ok (.aload_n 0, 1) := by decide +kernel
theorem d_M_divide_301 : decode b_M_divide 301 = .ok (.getfield 22, 3) := by decide +kernel
theorem d_M_divide_304 : decode b_M_divide 304 = .ok (.iload 6, 2) := by decide +kernel
theorem d_M_divide_306 : decode b_M_divide 306 = .ok (.iconst 2, 1) := by decide +kernel
theorem d_M_divide_307 : decode b_M_divide 307 = .ok (.invokevirtual 91, 3) := by decide +kernel
theorem d_M_divide_310 : decode b_M_divide 310 = .ok (.pop, 1) := by decide +kernel
theorem d_M_divide_311 : decode b_M_divide 311 = .ok (.aload_n 0, 1) := by decide +kernel
theorem d_M_divide_312 : decode b_M_divide 312 = .ok (.getfield 16, 3) := by decide +kernel
theorem d_M_divide_315 : decode b_M_divide 315 = .ok (.iload_n 3, 1) := by decide +kernel
theorem d_M_divide_316 : decode b_M_divide 316 = .ok (.iaload, 1) := by decide +kernel
theorem d_M_divide_317 : decode b_M_divide 317 = .ok (.ireturn, 1) := by decide +kernel
theorem d_M_shift_0 : decode b_M_shift 0 = .ok (.aload_n 0, 1) := by decide +kernel
theorem d_M_shift_1 : decode b_M_shift 1 = .ok (.iconst 0, 1) := by decide +kernel
theorem d_M_shift_2 : decode b_M_shift 2 = .ok (.putfield 49, 3) := by decide +kernel
theorem d_M_shift_5 : decode b_M_shift 5 = .ok (.aload_n 0, 1) := by decide +kernel
theorem d_M_shift_6 : decode b_M_shift 6 = .ok (.iload_n 1, 1) := by decide +kernel
theorem d_M_shift_7 : decode b_M_shift 7 = .ok (.invokestatic 83, 3) := by decide +kernel
theorem d_M_shift_10 : decode b_M_shift 10 = .ok (.ifCond .eq 23, 3) := by decide +kernel
theorem d_M_shift_13 : decode b_M_shift 13 = .ok (.iload_n 2, 1) := by decide +kernel
theorem d_M_shift_14 : decode b_M_shift 14 = .ok (.invokestatic 83, 3) := by decide +kernel
theorem d_M_shift_17 : decode b_M_shift 17 = .ok (.ifCond .eq 16, 3) := by decide +kernel
theorem d_M_shift_20 : decode b_M_shift 20 = .ok (.iload_n 3, 1) := by decide +kernel
theorem d_M_shift_21 : decode b_M_shift 21 = .ok (.sipush (-4000), 3) := by decide +kernel
theorem d_M_shift_24 : decode b_M_shift 24 = .ok (.sipush 4000, 3) := by decide +kernel
theorem d_M_shift_27 : decode b_M_shift 27 = .ok (.invokestatic 68, 3) := by decide +kernel
theorem d_M_shift_30 : decode b_M_shift 30 = .ok (.ifCond .ne 7, 3) := by decide +kernel
theorem d_M_shift_33 : decode b_M_shift 33 = .ok (.iconst 1, 1) := by decide +kernel
theorem d_M_shift_34 : decode b_M_shift 34 = .ok (.goto 4, 3) := by decide +kernel
theorem d_M_shift_37 : decode b_M_shift 37 = .ok (.iconst 0, 1) := by decide +kernel
theorem d_M_shift_38 : decode b_M_shift 38 = .ok (.iconst 1, 1) := by decide +kernel
theorem d_M_shift_39 : decode b_M_shift 39 = .ok (.invokevirtual 79, 3) := by decide +kernel
theorem d_M_shift_42 : decode b_M_shift 42 = .ok (.ifCond .eq 5, 3) := by decide +kernel
theorem d_M_shift_45 : decode b_M_shift 45 = .ok (.iconst 0, 1) := by decide +kernel
theorem d_M_shift_46 : decode b_M_shift 46 = .ok (.ireturn, 1) := by decide +kernel
theorem d_M_shift_47 : decode b_M_shift 47 = .ok (.aload_n 0, 1) := by decide +kernel
theorem d_M_shift_48 : decode b_M_shift 48 = .ok (.iload_n 2, 1) := by decide +kernel
theorem d_M_shift_49 : decode b_M_shift 49 = .ok (.aload_n 0, 1) := by decide +kernel
theorem d_M_shift_50 : decode b_M_shift 50 = .ok (.getfield 22, 3) := by decide +kernel
theorem d_M_shift_53 : decode b_M_shift 53 = .ok (.invokevirtual 72, 3) := by decide +kernel
theorem d_M_shift_56 : decode b_M_shift 56 = .ok (.istore 4, 2) := by decide +kernel
theorem d_M_shift_58 : decode b_M_shift 58 = .ok (.iload_n 3, 1) := by decide +kernel
theorem d_M_shift_59 : decode b_M_shift 59 = .ok (.ifCond .lt 46, 3) := by decide +kernel
theorem d_M_shift_62 : decode b_M_shift 62 = .ok (.aload_n 0, 1) := by decide +kernel
theorem d_M_shift_63 : decode b_M_shift 63 = .ok (.iload_n 1, 1) := by decide +kernel
theorem d_M_shift_64 : decode b_M_shift 64 = .ok (.aload_n 0, 1) := by decide +kernel
theorem d_M_shift_65 : decode b_M_shift 65 = .ok (.getfield 16, 3) := by decide +kernel
theorem d_M_shift_68 : decode b_M_shift 68 = .ok (.iload_n 2, 1) := by decide +kernel
theorem d_M_shift_69 : decode b_M_shift 69 = .ok (.iaload, 1) := by decide +kernel
theorem d_M_shift_70 : decode b_M_shift 70 = .ok (.aload_n 0, 1) := by decide +kernel
theorem d_M_shift_71 : decode b_M_shift 71 = .ok (.getfield 28, 3) := by decide +kernel
theorem d_M_shift_74 : decode b_M_shift 74 = .ok (.aload_n 0, 1) := by decide +kernel
theorem d_M_shift_75 : decode b_M_shift 75 = .ok (.getfield 22, 3) := by decide +kernel
theorem d_M_shift_78 : decode b_M_shift 78 = .ok (.iload 4, 2) := by decide +kernel
theorem d_M_shift_80 : decode b_M_shift 80 = .ok (.iload_n 3, 1) := by decide +kernel
theorem d_M_shift_81 : decode b_M_shift 81 = .ok (.aload_n 0, 1) := by decide +kernel
theorem d_M_shift_82 : decode b_M_shift 82 = .ok (.getfield 28, 3) := by decide +kernel
theorem d_M_shift_85 : decode b_M_shift 85 = .ok (.invokestatic 120, 3) := by decide +kernel
theorem d_M_shift_88 : decode b_M_shift 88 = .ok (.iconst 2, 1) := by decide +kernel
theorem d_M_shift_89 : decode b_M_shift 89 = .ok (.invokevirtual 91, 3) := by decide +kernel
theorem d_M_shift_92 : decode b_M_shift 92 = .ok (.ifCond .eq 11, 3) := by decide +kernel
theorem d_M_shift_95 : decode b_M_shift 95 = .ok (.aload_n 0, 1) := by decide +kernel
theorem d_M_shift_96 : decode b_M_shift 96 = .ok (.iload_n 1, 1) := by decide +kernel
theorem d_M_shift_97 : decode b_M_shift 97 = .ok (.invokevirtual 87, 3) := by decide +kernel
theorem d_M_shift_100 : decode b_M_shift 100 = .ok (.goto 4, 3) := by decide +kernel
theorem d_M_shift_103 : decode b_M_shift 103 = .ok (.iconst 0, 1) := by decide +kernel
theorem d_M_shift_104 : decode b_M_shift 104 = .ok (.ireturn, 1) := by decide +kernel
theorem d_M_shift_105 : decode b_M_shift 105 = .ok (.iconst 0, 1) := by decide +kernel
theorem d_M_shift_106 : decode b_M_shift 106 = .ok (.istore 5, 2) := by decide +kernel
theorem d_M_shift_108 : decode b_M_shift 108 = .ok (.iconst 0, 1) := by decide +kernel
theorem d_M_shift_109 : decode b_M_shift 109 = .ok (.istore 6, 2) := by decide +kernel
theorem d_M_shift_111 : decode b_M_shift 111 = .ok (.iconst 0, 1) := by decide +kernel
theorem d_M_shift_112 : decode b_M_shift 112 = .ok (.istore 7, 2) := by decide +kernel
theorem d_M_shift_114 : decode b_M_shift 114 = .ok (.iload 7, 2) := by decide +kernel
theorem d_M_shift_116 : decode b_M_shift 116 = .ok (.iload_n 3, 1) := by decide +kernel
theorem d_M_shift_117 : decode b_M_shift 117 = .ok (.ineg, 1) := by decide +kernel
theorem d_M_shift_118 : decode b_M_shift 118 = .ok (.if_icmp .ge 25, 3) := by decide +kernel
theorem d_M_shift_121 : decode b_M_shift 121 = .ok (.iload 6, 2) := by decide +kernel
theorem d_M_shift_123 : decode b_M_shift 123 = .ok (.aload_n 0, 1) := by decide +kernel
theorem d_M_shift_124 : decode b_M_shift 124 = .ok (.getfield 22, 3) := by decide +kernel
theorem d_M_shift_127 : decode b_M_shift 127 = .ok (.iload 4, 2) := by decide +kernel
theorem d_M_shift_129 : decode b_M_shift 129 = .ok (.iload 7, 2) := by decide +kernel
theorem d_M_shift_131 : decode b_M_shift 131 = .ok (.invokestatic 124, 3) := by decide +kernel
theorem d_M_shift_134 : decode b_M_shift 134 = .ok (.ior, 1) := by decide +kernel
theorem d_M_shift_135 : decode b_M_shift 135 = .ok (.istore 6, 2) := by decide +kernel
theorem d_M_shift_137 : decode b_M_shift 137 = .ok (.iinc 7 1, 3) := by decide +kernel
theorem d_M_shift_140 : decode b_M_shift 140 = .ok (.goto (-26), 3) := by decide +kernel
theorem d_M_shift_143 : decode b_M_shift 143 = .ok (.iconst 0, 1) := by decide +kernel
theorem d_M_shift_144 : decode b_M_shift 144 = .ok (.istore 7, 2) := by decide +kernel
theorem d_M_shift_146 : decode b_M_shift 146 = .ok (.bipush 16, 2) := by decide +kernel
theorem d_M_shift_148 : decode b_M_shift 148 = .ok (.iload 7, 2) := by decide +kernel
theorem d_M_shift_150 : decode b_M_shift 150 = .ok (.imul, 1) := by decide +kernel
theorem d_M_shift_151 : decode b_M_shift 151 = .ok (.bipush 16, 2) := by decide +kernel
theorem d_M_shift_153 : decode b_M_shift 153 = .ok (.iload 4, 2) := by decide +kernel
theorem d_M_shift_155 : decode b_M_shift 155 = .ok (.imul, 1) := by decide +kernel
theorem d_M_shift_156 : decode b_M_shift 156 = .ok (.iload_n 3, 1) := by decide +kernel
theorem d_M_shift_157 : decode b_M_shift 157 = .ok (.iadd, 1) := by decide +kernel
theorem d_M_shift_158 : decode b_M_shift 158 = .ok (.if_icmp .ge 71, 3) := by decide +kernel
theorem d_M_shift_161 : decode b_M_shift 161 = .ok (.iconst 0, 1) := by decide +kernel
theorem d_M_shift_162 : decode b_M_shift 162 = .ok (.istore 8, 2) := by decide +kernel
theorem d_M_shift_164 : decode b_M_shift 164 = .ok (.iconst 0, 1) := by decide +kernel
theorem d_M_shift_165 : decode b_M_shift 165 = .ok (.istore 9, 2) := by decide +kernel
theorem d_M_shift_167 : decode b_M_shift 167 = .ok (.iload 9, 2) := by decide +kernel
theorem d_M_shift_169 : decode b_M_shift 169 = .ok (.bipush 16, 2) := by decide +kernel
theorem d_M_shift_171 : decode b_M_shift 171 = .ok (.if_icmp .ge 40, 3) := by decide +kernel
theorem d_M_shift_174 : decode b_M_shift 174 = .ok (.aload_n 0, 1) := by decide +kernel
theorem d_M_shift_175 : decode b_M_shift 175 = .ok (.getfield 22, 3) := by decide +kernel
theorem d_M_shift_178 : decode b_M_shift 178 = .ok (.iload 4, 2) := by decide +kernel
theorem d_M_shift_180 : decode b_M_shift 180 = .ok (.bipush 16, 2) := by decide +kernel
theorem d_M_shift_182 : decode b_M_shift 182 = .ok (.iload 7, 2) := by decide +kernel
theorem d_M_shift_184 : decode b_M_shift 184 = .ok (.imul, 1) := by decide +kernel
theorem d_M_shift_185 : decode b_M_shift 185 = .ok (.iload 9, 2) := by decide +kernel
theorem d_M_shift_187 : decode b_M_shift 187 = .ok (.iadd, 1) := by decide +kernel
theorem d_M_shift_188 : decode b_M_shift 188 = .ok (.iload_n 3, 1) := by decide +kernel
theorem d_M_shift_189 : decode b_M_shift 189 = .ok (.isub, 1) := by decide +kernel
theorem d_M_shift_190 : decode b_M_shift 190 = .ok (.invokestatic 124, 3) := by decide +kernel
theorem d_M_shift_193 : decode b_M_shift 193 = .ok (.ifCond .eq 12, 3) := by decide +kernel
theorem d_M_shift_196 : decode b_M_shift 196 = .ok (.iload 8, 2) := by decide +kernel
theorem d_M_shift_198 : decode b_M_shift 198 = .ok (.iconst 1, 1) := by decide +kernel
theorem d_M_shift_199 : decode b_M_shift 199 = .ok (.iload 9, 2) := by decide +kernel
theorem d_M_shift_201 : decode b_M_shift 201 = .ok (.ishl, 1) := by decide +kernel
theorem d_M_shift_202 : decode b_M_shift 202 = .ok (.ior, 1) := by decide +kernel
theorem d_M_shift_203 : decode b_M_shift 203 = .ok (.istore 8, 2) := by decide +kernel
theorem d_M_shift_205 : decode b_M_shift 205 = .ok (.iinc 9 1, 3) := by decide +kernel
theorem d_M_shift_208 : decode b_M_shift 208 = .ok (.goto (-41), 3) := by decide +kernel
theorem d_M_shift_211 : decode b_M_shift 211 = .ok (.aload_n 0, 1) := by decide +kernel
theorem d_M_shift_212 : decode b_M_shift 212 = .ok (.getfield 28, 3) := by decide +kernel
theorem d_M_shift_215 : decode b_M_shift 215 = .ok (.iload 5, 2) := by decide +kernel
theorem d_M_shift_217 : decode b_M_shift 217 = .ok (.iinc 5 1, 3) := by decide +kernel
theorem d_M_shift_220 : decode b_M_shift 220 = .ok (.iload 8, 2) := by decide +kernel
theorem d_M_shift_222 : decode b_M_shift 222 = .ok (.iastore, 1) := by decide +kernel
theorem d_M_shift_223 : decode b_M_shift 223 = .ok (.iinc 7 1, 3) := by decide +kernel
theorem d_M_shift_226 : decode b_M_shift 226 = .ok (.goto (-80), 3) := by decide +kernel
theorem d_M_shift_229 : decode b_M_shift 229 = .ok (.aload_n 0, 1) := by decide +kernel
theorem d_M_shift_230 : decode b_M_shift 230 = .ok (.getfield 28, 3) := by decide +kernel
theorem d_M_shift_233 : decode b_M_shift 233 = .ok (.iload 5, 2) := by decide +kernel
theorem d_M_shift_235 : decode b_M_shift 235 = .ok (.invokestatic 54, 3) := by decide +kernel
theorem d_M_shift_238 : decode b_M_shift 238 = .ok (.istore 5, 2) := by decide +kernel
theorem d_M_shift_240 : decode b_M_shift 240 = .ok (.iload 6, 2) := by decide +kernel
theorem d_M_shift_242 : decode b_M_shift 242 = .ok (.ifCond .eq 39, 3) := by decide +kernel
theorem d_M_shift_245 : decode b_M_shift 245 = .ok (.aload_n 0, 1) := by decide +kernel
theorem d_M_shift_246 : decode b_M_shift 246 = .ok (.getfield 16, 3) := by decide +kernel
theorem d_M_shift_249 : decode b_M_shift 249 = .ok (.iload_n 2, 1) := by decide +kernel
theorem d_M_shift_250 : decode b_M_shift 250 = .ok (.iaload, 1) := by decide +kernel
theorem d_M_shift_251 : decode b_M_shift 251 = .ok (.ifCond .ge 30, 3) := by decide +kernel
theorem d_M_shift_254 : decode b_M_shift 254 = .ok (.aload_n 0, 1) := by decide +kernel
theorem d_M_shift_255 : decode b_M_shift 255 = .ok (.getfield 31, 3) := by decide +kernel
theorem d_M_shift_258 : decode b_M_shift 258 = .ok (.iconst 0, 1) := by decide +kernel
theorem d_M_shift_259 : decode b_M_shift 259 = .ok (.iconst 1, 1) := by decide +kernel
theorem d_M_shift_260 : decode b_M_shift 260 = .ok (.iastore, 1) := by decide +kernel
theorem d_M_shift_261 : decode b_M_shift 261 = .ok (.aload_n 0, 1) := by decide +kernel
theorem d_M_shift_262 : decode b_M_shift 262 = .ok (.getfield 28, 3) := by decide +kernel
theorem d_M_shift_265 : decode b_M_shift 265 = .ok (.iload 5, 2) := by decide +kernel
theorem d_M_shift_267 : decode b_M_shift 267 = .ok (.aload_n 0, 1) := by decide +kernel
theorem d_M_shift_268 : decode b_M_shift 268 = .ok (.getfield 31, 3) := by decide +kernel
theorem d_M_shift_271 : decode b_M_shift 271 = .ok (.iconst 1, 1) := by decide +kernel
theorem d_M_shift_272 : decode b_M_shift 272 = .ok (.aload_n 0, 1) := by decide +kernel
theorem d_M_shift_273 : decode b_M_shift 273 = .ok (.getfield 28, 3) := by decide +kernel
theorem d_M_shift_276 : decode b_M_shift 276 = .ok (.invokestatic 111, 3) := by decide +kernel
theorem d_M_shift_279 : decode b_M_shift 279 = .ok (.istore 5, 2) := by decide +kernel
theorem d_M_shift_281 : decode b_M_shift 281 = .ok (.aload_n 0, 1) := by decide +kernel
theorem d_M_shift_282 : decode b_M_shift 282 = .ok (.iload_n 1, 1) := by decide +kernel
theorem d_M_shift_283 : decode b_M_shift 283 = .ok (.aload_n 0, 1) := by decide +kernel
theorem d_M_shift_284 : decode b_M_shift 284 = .ok (.getfield 16, 3) := by decide +kernel
theorem d_M_shift_287 : decode b_M_shift 287 = .ok (.iload_n 2, 1) := by decide +kernel
theorem d_M_shift_288 : decode b_M_shift 288 = .ok (.iaload, 1) := by decide +kernel
theorem d_M_shift_289 : decode b_M_shift 289 = .ok (.aload_n 0, 1) := by decide +kernel
theorem d_M_shift_290 : decode b_M_shift 290 = .ok (.getfield 28, 3) := by decide +kernel
theorem d_M_shift_293 : decode b_M_shift 293 = .ok (.iload 5, 2) := by decide +kernel
theorem d_M_shift_295 : decode b_M_shift 295 = .ok (.iconst 2, 1) := by decide +kernel
theorem d_M_shift_296 : decode b_M_shift 296 = .ok (.invokevirtual 91, 3) := by decide +kernel
theorem d_M_shift_299 : decode b_M_shift 299 = .ok (.pop, 1) := by decide +kernel
theorem d_M_shift_300 : decode b_M_shift 300 = .ok (.aload_n 0, 1) := by decide +kernel
theorem d_M_shift_301 : decode b_M_shift 301 = .ok (.iload_n 1, 1) := by decide +kernel
theorem d_M_shift_302 : decode b_M_shift 302 = .ok (.invokevirtual 87, 3) := by decide +kernel
theorem d_M_shift_305 : decode b_M_shift 305 = .ok (.ireturn, 1) := by decide +kernel
theorem d_M_twos_0 : decode b_M_twos 0 = .ok (.iload_n 1, 1) := by decide +kernel
theorem d_M_twos_1 : decode b_M_twos 1 = .ok (.istore 4, 2) := by decide +kernel
theorem d_M_twos_3 : decode b_M_twos 3 = .ok (.iload 4, 2) := by decide +kernel
theorem d_M_twos_5 : decode b_M_twos 5 = .ok (.iload_n 2, 1) := by decide +kernel
theorem d_M_twos_6 : decode b_M_twos 6 = .ok (.if_icmp .ge 14, 3) := by decide +kernel
theorem d_M_twos_9 : decode b_M_twos 9 = .ok (.aload_n 0, 1) := by decide +kernel
theorem d_M_twos_10 : decode b_M_twos 10 = .ok (.iload 4, 2) := by decide +kernel
theorem d_M_twos_12 : decode b_M_twos 12 = .ok (.iconst 0, 1) := by decide +kernel
theorem d_M_twos_13 : decode b_M_twos 13 = .ok (.iastore, 1) := by decide +kernel
theorem d_M_twos_14 : decode b_M_twos 14 = .ok (.iinc 4 1, 3) := by decide +kernel
theorem d_M_twos_17 : decode b_M_twos 17 = .ok (.goto (-14), 3) := by decide +kernel
theorem d_M_twos_20 : decode b_M_twos 20 = .ok (.iload_n 3, 1) := by decide +kernel
theorem d_M_twos_21 : decode b_M_twos 21 = .ok (.ifCond .eq 7, 3) := by decide +kernel
theorem d_M_twos_24 : decode b_M_twos 24 = .ok (.iconst 1, 1) := by decide +kernel
theorem d_M_twos_25 : decode b_M_twos 25 = .ok (.goto 4, 3) := by decide +kernel
theorem d_M_twos_28 : decode b_M_twos 28 = .ok (.iconst 0, 1) := by decide +kernel
theorem d_M_twos_29 : decode b_M_twos 29 = .ok (.istore 4, 2) := by decide +kernel
theorem d_M_twos_31 : decode b_M_twos 31 = .ok (.iconst 0, 1) := by decide +kernel
theorem d_M_twos_32 : decode b_M_twos 32 = .ok (.istore 5, 2) := by decide +kernel
theorem d_M_twos_34 : decode b_M_twos 34 = .ok (.iload 5, 2) := by decide +kernel
theorem d_M_twos_36 : decode b_M_twos 36 = .ok (.iload_n 2, 1) := by decide +kernel
theorem d_M_twos_37 : decode b_M_twos 37 = .ok (.if_icmp .ge 43, 3) := by decide +kernel
theorem d_M_twos_40 : decode b_M_twos 40 = .ok (.iload_n 3, 1) := by decide +kernel
theorem d_M_twos_41 : decode b_M_twos 41 = .ok (.ifCond .eq 39, 3) := by decide +kernel
theorem d_M_twos_44 : decode b_M_twos 44 = .ok (.iload 4, 2) := by decide +kernel
theorem d_M_twos_46 : decode b_M_twos 46 = .ok (.aload_n 0, 1) := by decide +kernel
theorem d_M_twos_47 : decode b_M_twos 47 = .ok (.iload 5, 2) := by decide +kernel
theorem d_M_twos_49 : decode b_M_twos 49 = .ok (.iaload, 1) := by decide +kernel
theorem d_M_twos_50 : decode b_M_twos 50 = .ok (.iconst (-1), 1) := by decide +kernel
theorem d_M_twos_51 : decode b_M_twos 51 = .ok (.ixor, 1) := by decide +kernel
theorem d_M_twos_52 : decode b_M_twos 52 = .ok (.ldc 53, 2) := by decide +kernel
theorem d_M_twos_54 : decode b_M_twos 54 = .ok (.iand, 1) := by decide +kernel
theorem d_M_twos_55 : decode b_M_twos 55 = .ok (.iadd, 1) := by decide +kernel
theorem d_M_twos_56 : decode b_M_twos 56 = .ok (.istore 4, 2) := by decide +kernel
theorem d_M_twos_58 : decode b_M_twos 58 = .ok (.aload_n 0, 1) := by decide +kernel
theorem d_M_twos_59 : decode b_M_twos 59 = .ok (.iload 5, 2) := by decide +kernel
theorem d_M_twos_61 : decode b_M_twos 61 = .ok (.iload 4, 2) := by decide +kernel
theorem d_M_twos_63 : decode b_M_twos 63 = .ok (.ldc 53, 2) := by decide +kernel
theorem d_M_twos_65 : decode b_M_twos 65 = .ok (.iand, 1) := by decide +kernel
theorem d_M_twos_66 : decode b_M_twos 66 = .ok (.iastore, 1) := by decide +kernel
theorem d_M_twos_67 : decode b_M_twos 67 = .ok (.iload 4, 2) := by decide +kernel
theorem d_M_twos_69 : decode b_M_twos 69 = .ok (.bipush 16, 2) := by decide +kernel
theorem d_M_twos_71 : decode b_M_twos 71 = .ok (.ishr, 1) := by decide +kernel
theorem d_M_twos_72 : decode b_M_twos 72 = .ok (.istore 4, 2) := by decide +kernel
theorem d_M_twos_74 : decode b_M_twos 74 = .ok (.iinc 5 1, 3) := by decide +kernel
theorem d_M_twos_77 : decode b_M_twos 77 = .ok (.goto (-43), 3) := by decide +kernel
theorem d_M_twos_80 : decode b_M_twos 80 = .ok (.return_, 1) := by decide +kernel
theorem d_M_bits2_0 : decode b_M_bits2 0 = .ok (.aload_n 0, 1) := by decide +kernel
theorem d_M_bits2_1 : decode b_M_bits2 1 = .ok (.iconst 0, 1) := by decide +kernel
theorem d_M_bits2_2 : decode b_M_bits2 2 = .ok (.putfield 49, 3) := by decide +kernel
