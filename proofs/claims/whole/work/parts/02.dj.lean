theorem d_M_bits2_5 : decode b_M_bits2 5 = .ok (.aload_n 0, 1) := by decide +kernel
theorem d_M_bits2_6 : decode b_M_bits2 6 = .ok (.iload_n 1, 1) := by decide +kernel
theorem d_M_bits2_7 : decode b_M_bits2 7 = .ok (.iconst 0, 1) := by decide +kernel
theorem d_M_bits2_8 : decode b_M_bits2 8 = .ok (.iconst 2, 1) := by decide +kernel
theorem d_M_bits2_9 : decode b_M_bits2 9 = .ok (.invokestatic 68, 3) := by decide +kernel
theorem d_M_bits2_12 : decode b_M_bits2 12 = .ok (.ifCond .eq 25, 3) := by decide +kernel
theorem d_M_bits2_15 : decode b_M_bits2 15 = .ok (.iload_n 2, 1) := by decide +kernel
theorem d_M_bits2_16 : decode b_M_bits2 16 = .ok (.invokestatic 83, 3) := by decide +kernel
theorem d_M_bits2_19 : decode b_M_bits2 19 = .ok (.ifCond .eq 18, 3) := by decide +kernel
theorem d_M_bits2_22 : decode b_M_bits2 22 = .ok (.iload_n 3, 1) := by decide +kernel
theorem d_M_bits2_23 : decode b_M_bits2 23 = .ok (.invokestatic 83, 3) := by decide +kernel
theorem d_M_bits2_26 : decode b_M_bits2 26 = .ok (.ifCond .eq 11, 3) := by decide +kernel
theorem d_M_bits2_29 : decode b_M_bits2 29 = .ok (.iload 4, 2) := by decide +kernel
theorem d_M_bits2_31 : decode b_M_bits2 31 = .ok (.invokestatic 83, 3) := by decide +kernel
theorem d_M_bits2_34 : decode b_M_bits2 34 = .ok (.ifCond .ne 7, 3) := by decide +kernel
theorem d_M_bits2_37 : decode b_M_bits2 37 = .ok (.iconst 1, 1) := by decide +kernel
theorem d_M_bits2_38 : decode b_M_bits2 38 = .ok (.goto 4, 3) := by decide +kernel
theorem d_M_bits2_41 : decode b_M_bits2 41 = .ok (.iconst 0, 1) := by decide +kernel
theorem d_M_bits2_42 : decode b_M_bits2 42 = .ok (.iconst 1, 1) := by decide +kernel
theorem d_M_bits2_43 : decode b_M_bits2 43 = .ok (.invokevirtual 79, 3) := by decide +kernel
theorem d_M_bits2_46 : decode b_M_bits2 46 = .ok (.ifCond .eq 5, 3) := by decide +kernel
theorem d_M_bits2_49 : decode b_M_bits2 49 = .ok (.iconst 0, 1) := by decide +kernel
theorem d_M_bits2_50 : decode b_M_bits2 50 = .ok (.ireturn, 1) := by decide +kernel
theorem d_M_bits2_51 : decode b_M_bits2 51 = .ok (.aload_n 0, 1) := by decide +kernel
theorem d_M_bits2_52 : decode b_M_bits2 52 = .ok (.iload_n 3, 1) := by decide +kernel
theorem d_M_bits2_53 : decode b_M_bits2 53 = .ok (.aload_n 0, 1) := by decide +kernel
theorem d_M_bits2_54 : decode b_M_bits2 54 = .ok (.getfield 22, 3) := by decide +kernel
theorem d_M_bits2_57 : decode b_M_bits2 57 = .ok (.invokevirtual 72, 3) := by decide +kernel
theorem d_M_bits2_60 : decode b_M_bits2 60 = .ok (.istore 5, 2) := by decide +kernel
theorem d_M_bits2_62 : decode b_M_bits2 62 = .ok (.aload_n 0, 1) := by decide +kernel
theorem d_M_bits2_63 : decode b_M_bits2 63 = .ok (.iload 4, 2) := by decide +kernel
theorem d_M_bits2_65 : decode b_M_bits2 65 = .ok (.aload_n 0, 1) := by decide +kernel
theorem d_M_bits2_66 : decode b_M_bits2 66 = .ok (.getfield 25, 3) := by decide +kernel
theorem d_M_bits2_69 : decode b_M_bits2 69 = .ok (.invokevirtual 72, 3) := by decide +kernel
theorem d_M_bits2_72 : decode b_M_bits2 72 = .ok (.istore 6, 2) := by decide +kernel
theorem d_M_bits2_74 : decode b_M_bits2 74 = .ok (.sipush 131, 3) := by decide +kernel
theorem d_M_bits2_77 : decode b_M_bits2 77 = .ok (.istore 7, 2) := by decide +kernel
theorem d_M_bits2_79 : decode b_M_bits2 79 = .ok (.aload_n 0, 1) := by decide +kernel
theorem d_M_bits2_80 : decode b_M_bits2 80 = .ok (.getfield 22, 3) := by decide +kernel
theorem d_M_bits2_83 : decode b_M_bits2 83 = .ok (.iload 5, 2) := by decide +kernel
theorem d_M_bits2_85 : decode b_M_bits2 85 = .ok (.iload 7, 2) := by decide +kernel
theorem d_M_bits2_87 : decode b_M_bits2 87 = .ok (.aload_n 0, 1) := by decide +kernel
theorem d_M_bits2_88 : decode b_M_bits2 88 = .ok (.getfield 16, 3) := by decide +kernel
theorem d_M_bits2_91 : decode b_M_bits2 91 = .ok (.iload_n 3, 1) := by decide +kernel
theorem d_M_bits2_92 : decode b_M_bits2 92 = .ok (.iaload, 1) := by decide +kernel
theorem d_M_bits2_93 : decode b_M_bits2 93 = .ok (.ifCond .ge 7, 3) := by decide +kernel
theorem d_M_bits2_96 : decode b_M_bits2 96 = .ok (.iconst 1, 1) := by decide +kernel
theorem d_M_bits2_97 : decode b_M_bits2 97 = .ok (.goto 4, 3) := by decide +kernel
theorem d_M_bits2_100 : decode b_M_bits2 100 = .ok (.iconst 0, 1) := by decide +kernel
theorem d_M_bits2_101 : decode b_M_bits2 101 = .ok (.invokestatic 128, 3) := by decide +kernel
theorem d_M_bits2_104 : decode b_M_bits2 104 = .ok (.aload_n 0, 1) := by decide +kernel
theorem d_M_bits2_105 : decode b_M_bits2 105 = .ok (.getfield 25, 3) := by decide +kernel
theorem d_M_bits2_108 : decode b_M_bits2 108 = .ok (.iload 6, 2) := by decide +kernel
theorem d_M_bits2_110 : decode b_M_bits2 110 = .ok (.iload 7, 2) := by decide +kernel
theorem d_M_bits2_112 : decode b_M_bits2 112 = .ok (.aload_n 0, 1) := by decide +kernel
theorem d_M_bits2_113 : decode b_M_bits2 113 = .ok (.getfield 16, 3) := by decide +kernel
theorem d_M_bits2_116 : decode b_M_bits2 116 = .ok (.iload 4, 2) := by decide +kernel
theorem d_M_bits2_118 : decode b_M_bits2 118 = .ok (.iaload, 1) := by decide +kernel
theorem d_M_bits2_119 : decode b_M_bits2 119 = .ok (.ifCond .ge 7, 3) := by decide +kernel
theorem d_M_bits2_122 : decode b_M_bits2 122 = .ok (.iconst 1, 1) := by decide +kernel
theorem d_M_bits2_123 : decode b_M_bits2 123 = .ok (.goto 4, 3) := by decide +kernel
theorem d_M_bits2_126 : decode b_M_bits2 126 = .ok (.iconst 0, 1) := by decide +kernel
theorem d_M_bits2_127 : decode b_M_bits2 127 = .ok (.invokestatic 128, 3) := by decide +kernel
theorem d_M_bits2_130 : decode b_M_bits2 130 = .ok (.iconst 0, 1) := by decide +kernel
theorem d_M_bits2_131 : decode b_M_bits2 131 = .ok (.istore 8, 2) := by decide +kernel
theorem d_M_bits2_133 : decode b_M_bits2 133 = .ok (.iload 8, 2) := by decide +kernel
theorem d_M_bits2_135 : decode b_M_bits2 135 = .ok (.iload 7, 2) := by decide +kernel
theorem d_M_bits2_137 : decode b_M_bits2 137 = .ok (.if_icmp .ge 79, 3) := by decide +kernel
theorem d_M_bits2_140 : decode b_M_bits2 140 = .ok (.aload_n 0, 1) := by decide +kernel
theorem d_M_bits2_141 : decode b_M_bits2 141 = .ok (.getfield 28, 3) := by decide +kernel
theorem d_M_bits2_144 : decode b_M_bits2 144 = .ok (.iload 8, 2) := by decide +kernel
theorem d_M_bits2_146 : decode b_M_bits2 146 = .ok (.iload_n 1, 1) := by decide +kernel
theorem d_M_bits2_147 : decode b_M_bits2 147 = .ok (.ifCond .ne 21, 3) := by decide +kernel
theorem d_M_bits2_150 : decode b_M_bits2 150 = .ok (.aload_n 0, 1) := by decide +kernel
theorem d_M_bits2_151 : decode b_M_bits2 151 = .ok (.getfield 22, 3) := by decide +kernel
theorem d_M_bits2_154 : decode b_M_bits2 154 = .ok (.iload 8, 2) := by decide +kernel
theorem d_M_bits2_156 : decode b_M_bits2 156 = .ok (.iaload, 1) := by decide +kernel
theorem d_M_bits2_157 : decode b_M_bits2 157 = .ok (.aload_n 0, 1) := by decide +kernel
theorem d_M_bits2_158 : decode b_M_bits2 158 = .ok (.getfield 25, 3) := by decide +kernel
theorem d_M_bits2_161 : decode b_M_bits2 161 = .ok (.iload 8, 2) := by decide +kernel
theorem d_M_bits2_163 : decode b_M_bits2 163 = .ok (.iaload, 1) := by decide +kernel
theorem d_M_bits2_164 : decode b_M_bits2 164 = .ok (.iand, 1) := by decide +kernel
theorem d_M_bits2_165 : decode b_M_bits2 165 = .ok (.goto 41, 3) := by decide +kernel
theorem d_M_bits2_168 : decode b_M_bits2 168 = .ok (.iload_n 1, 1) := by decide +kernel
theorem d_M_bits2_169 : decode b_M_bits2 169 = .ok (.iconst 1, 1) := by decide +kernel
theorem d_M_bits2_170 : decode b_M_bits2 170 = .ok (.if_icmp .ne 21, 3) := by decide +kernel
theorem d_M_bits2_173 : decode b_M_bits2 173 = .ok (.aload_n 0, 1) := by decide +kernel
theorem d_M_bits2_174 : decode b_M_bits2 174 = .ok (.getfield 22, 3) := by decide +kernel
theorem d_M_bits2_177 : decode b_M_bits2 177 = .ok (.iload 8, 2) := by decide +kernel
theorem d_M_bits2_179 : decode b_M_bits2 179 = .ok (.iaload, 1) := by decide +kernel
theorem d_M_bits2_180 : decode b_M_bits2 180 = .ok (.aload_n 0, 1) := by decide +kernel
theorem d_M_bits2_181 : decode b_M_bits2 181 = .ok (.getfield 25, 3) := by decide +kernel
theorem d_M_bits2_184 : decode b_M_bits2 184 = .ok (.iload 8, 2) := by decide +kernel
theorem d_M_bits2_186 : decode b_M_bits2 186 = .ok (.iaload, 1) := by decide +kernel
theorem d_M_bits2_187 : decode b_M_bits2 187 = .ok (.ior, 1) := by decide +kernel
theorem d_M_bits2_188 : decode b_M_bits2 188 = .ok (.goto 18, 3) := by decide +kernel
theorem d_M_bits2_191 : decode b_M_bits2 191 = .ok (.aload_n 0, 1) := by decide +kernel
theorem d_M_bits2_192 : decode b_M_bits2 192 = .ok (.getfield 22, 3) := by decide +kernel
theorem d_M_bits2_195 : decode b_M_bits2 195 = .ok (.iload 8, 2) := by decide +kernel
theorem d_M_bits2_197 : decode b_M_bits2 197 = .ok (.iaload, 1) := by decide +kernel
theorem d_M_bits2_198 : decode b_M_bits2 198 = .ok (.aload_n 0, 1) := by decide +kernel
theorem d_M_bits2_199 : decode b_M_bits2 199 = .ok (.getfield 25, 3) := by decide +kernel
theorem d_M_bits2_202 : decode b_M_bits2 202 = .ok (.iload 8, 2) := by decide +kernel
theorem d_M_bits2_204 : decode b_M_bits2 204 = .ok (.iaload, 1) := by decide +kernel
theorem d_M_bits2_205 : decode b_M_bits2 205 = .ok (.ixor, 1) := by decide +kernel
theorem d_M_bits2_206 : decode b_M_bits2 206 = .ok (.ldc 53, 2) := by decide +kernel
theorem d_M_bits2_208 : decode b_M_bits2 208 = .ok (.iand, 1) := by decide +kernel
theorem d_M_bits2_209 : decode b_M_bits2 209 = .ok (.iastore, 1) := by decide +kernel
theorem d_M_bits2_210 : decode b_M_bits2 210 = .ok (.iinc 8 1, 3) := by decide +kernel
theorem d_M_bits2_213 : decode b_M_bits2 213 = .ok (.goto (-80), 3) := by decide +kernel
theorem d_M_bits2_216 : decode b_M_bits2 216 = .ok (.aload_n 0, 1) := by decide +kernel
theorem d_M_bits2_217 : decode b_M_bits2 217 = .ok (.getfield 28, 3) := by decide +kernel
theorem d_M_bits2_220 : decode b_M_bits2 220 = .ok (.iload 7, 2) := by decide +kernel
theorem d_M_bits2_222 : decode b_M_bits2 222 = .ok (.iconst 1, 1) := by decide +kernel
theorem d_M_bits2_223 : decode b_M_bits2 223 = .ok (.isub, 1) := by decide +kernel
theorem d_M_bits2_224 : decode b_M_bits2 224 = .ok (.iaload, 1) := by decide +kernel
theorem d_M_bits2_225 : decode b_M_bits2 225 = .ok (.ldc 67, 2) := by decide +kernel
theorem d_M_bits2_227 : decode b_M_bits2 227 = .ok (.iand, 1) := by decide +kernel
theorem d_M_bits2_228 : decode b_M_bits2 228 = .ok (.ifCond .eq 7, 3) := by decide +kernel
theorem d_M_bits2_231 : decode b_M_bits2 231 = .ok (.iconst 1, 1) := by decide +kernel
theorem d_M_bits2_232 : decode b_M_bits2 232 = .ok (.goto 4, 3) := by decide +kernel
theorem d_M_bits2_235 : decode b_M_bits2 235 = .ok (.iconst 0, 1) := by decide +kernel
theorem d_M_bits2_236 : decode b_M_bits2 236 = .ok (.istore 8, 2) := by decide +kernel
theorem d_M_bits2_238 : decode b_M_bits2 238 = .ok (.aload_n 0, 1) := by decide +kernel
theorem d_M_bits2_239 : decode b_M_bits2 239 = .ok (.getfield 28, 3) := by decide +kernel
theorem d_M_bits2_242 : decode b_M_bits2 242 = .ok (.iload 7, 2) := by decide +kernel
theorem d_M_bits2_244 : decode b_M_bits2 244 = .ok (.iload 7, 2) := by decide +kernel
theorem d_M_bits2_246 : decode b_M_bits2 246 = .ok (.iload 8, 2) := by decide +kernel
theorem d_M_bits2_248 : decode b_M_bits2 248 = .ok (.invokestatic 128, 3) := by decide +kernel
theorem d_M_bits2_251 : decode b_M_bits2 251 = .ok (.aload_n 0, 1) := by decide +kernel
theorem d_M_bits2_252 : decode b_M_bits2 252 = .ok (.iload_n 2, 1) := by decide +kernel
theorem d_M_bits2_253 : decode b_M_bits2 253 = .ok (.iload 8, 2) := by decide +kernel
theorem d_M_bits2_255 : decode b_M_bits2 255 = .ok (.ifCond .eq 7, 3) := by decide +kernel
theorem d_M_bits2_258 : decode b_M_bits2 258 = .ok (.iconst (-1), 1) := by decide +kernel
theorem d_M_bits2_259 : decode b_M_bits2 259 = .ok (.goto 4, 3) := by decide +kernel
theorem d_M_bits2_262 : decode b_M_bits2 262 = .ok (.iconst 1, 1) := by decide +kernel
theorem d_M_bits2_263 : decode b_M_bits2 263 = .ok (.aload_n 0, 1) := by decide +kernel
theorem d_M_bits2_264 : decode b_M_bits2 264 = .ok (.getfield 28, 3) := by decide +kernel
theorem d_M_bits2_267 : decode b_M_bits2 267 = .ok (.iload 7, 2) := by decide +kernel
theorem d_M_bits2_269 : decode b_M_bits2 269 = .ok (.iconst 2, 1) := by decide +kernel
theorem d_M_bits2_270 : decode b_M_bits2 270 = .ok (.invokevirtual 91, 3) := by decide +kernel
theorem d_M_bits2_273 : decode b_M_bits2 273 = .ok (.ifCond .eq 12, 3) := by decide +kernel
theorem d_M_bits2_276 : decode b_M_bits2 276 = .ok (.aload_n 0, 1) := by decide +kernel
theorem d_M_bits2_277 : decode b_M_bits2 277 = .ok (.getfield 16, 3) := by decide +kernel
theorem d_M_bits2_280 : decode b_M_bits2 280 = .ok (.iload_n 2, 1) := by decide +kernel
theorem d_M_bits2_281 : decode b_M_bits2 281 = .ok (.iaload, 1) := by decide +kernel
theorem d_M_bits2_282 : decode b_M_bits2 282 = .ok (.goto 4, 3) := by decide +kernel
theorem d_M_bits2_285 : decode b_M_bits2 285 = .ok (.iconst 0, 1) := by decide +kernel
theorem d_M_bits2_286 : decode b_M_bits2 286 = .ok (.ireturn, 1) := by decide +kernel
theorem d_M_power_0 : decode b_M_power 0 = .ok (.aload_n 0, 1) := by decide +kernel
theorem d_M_power_1 : decode b_M_power 1 = .ok (.iconst 0, 1) := by decide +kernel
theorem d_M_power_2 : decode b_M_power 2 = .ok (.putfield 49, 3) := by decide +kernel
theorem d_M_power_5 : decode b_M_power 5 = .ok (.aload_n 0, 1) := by decide +kernel
theorem d_M_power_6 : decode b_M_power 6 = .ok (.iload_n 1, 1) := by decide +kernel
theorem d_M_power_7 : decode b_M_power 7 = .ok (.invokestatic 83, 3) := by decide +kernel
theorem d_M_power_10 : decode b_M_power 10 = .ok (.ifCond .eq 14, 3) := by decide +kernel
theorem d_M_power_13 : decode b_M_power 13 = .ok (.iload_n 2, 1) := by decide +kernel
theorem d_M_power_14 : decode b_M_power 14 = .ok (.invokestatic 83, 3) := by decide +kernel
theorem d_M_power_17 : decode b_M_power 17 = .ok (.ifCond .eq 7, 3) := by decide +kernel
theorem d_M_power_20 : decode b_M_power 20 = .ok (.iload_n 3, 1) := by decide +kernel
theorem d_M_power_21 : decode b_M_power 21 = .ok (.ifCond .ge 7, 3) := by decide +kernel
theorem d_M_power_24 : decode b_M_power 24 = .ok (.iconst 1, 1) := by decide +kernel
theorem d_M_power_25 : decode b_M_power 25 = .ok (.goto 4, 3) := by decide +kernel
theorem d_M_power_28 : decode b_M_power 28 = .ok (.iconst 0, 1) := by decide +kernel
theorem d_M_power_29 : decode b_M_power 29 = .ok (.iconst 1, 1) := by decide +kernel
theorem d_M_power_30 : decode b_M_power 30 = .ok (.invokevirtual 79, 3) := by decide +kernel
theorem d_M_power_33 : decode b_M_power 33 = .ok (.ifCond .eq 5, 3) := by decide +kernel
theorem d_M_power_36 : decode b_M_power 36 = .ok (.iconst 0, 1) := by decide +kernel
theorem d_M_power_37 : decode b_M_power 37 = .ok (.ireturn, 1) := by decide +kernel
theorem d_M_power_38 : decode b_M_power 38 = .ok (.aload_n 0, 1) := by decide +kernel
theorem d_M_power_39 : decode b_M_power 39 = .ok (.iload_n 2, 1) := by decide +kernel
theorem d_M_power_40 : decode b_M_power 40 = .ok (.aload_n 0, 1) := by decide +kernel
theorem d_M_power_41 : decode b_M_power 41 = .ok (.getfield 22, 3) := by decide +kernel
theorem d_M_power_44 : decode b_M_power 44 = .ok (.invokevirtual 72, 3) := by decide +kernel
theorem d_M_power_47 : decode b_M_power 47 = .ok (.istore 4, 2) := by decide +kernel
theorem d_M_power_49 : decode b_M_power 49 = .ok (.aload_n 0, 1) := by decide +kernel
theorem d_M_power_50 : decode b_M_power 50 = .ok (.getfield 22, 3) := by decide +kernel
theorem d_M_power_53 : decode b_M_power 53 = .ok (.iload 4, 2) := by decide +kernel
theorem d_M_power_55 : decode b_M_power 55 = .ok (.invokestatic 76, 3) := by decide +kernel
theorem d_M_power_58 : decode b_M_power 58 = .ok (.istore 5, 2) := by decide +kernel
theorem d_M_power_60 : decode b_M_power 60 = .ok (.aload_n 0, 1) := by decide +kernel
theorem d_M_power_61 : decode b_M_power 61 = .ok (.getfield 16, 3) := by decide +kernel
theorem d_M_power_64 : decode b_M_power 64 = .ok (.iload_n 2, 1) := by decide +kernel
theorem d_M_power_65 : decode b_M_power 65 = .ok (.iaload, 1) := by decide +kernel
theorem d_M_power_66 : decode b_M_power 66 = .ok (.ifCond .ge 14, 3) := by decide +kernel
theorem d_M_power_69 : decode b_M_power 69 = .ok (.iload_n 3, 1) := by decide +kernel
theorem d_M_power_70 : decode b_M_power 70 = .ok (.iconst 1, 1) := by decide +kernel
theorem d_M_power_71 : decode b_M_power 71 = .ok (.iand, 1) := by decide +kernel
theorem d_M_power_72 : decode b_M_power 72 = .ok (.iconst 1, 1) := by decide +kernel
theorem d_M_power_73 : decode b_M_power 73 = .ok (.if_icmp .ne 7, 3) := by decide +kernel
theorem d_M_power_76 : decode b_M_power 76 = .ok (.iconst (-1), 1) := by decide +kernel
theorem d_M_power_77 : decode b_M_power 77 = .ok (.goto 4, 3) := by decide +kernel
theorem d_M_power_80 : decode b_M_power 80 = .ok (.iconst 1, 1) := by decide +kernel
theorem d_M_power_81 : decode b_M_power 81 = .ok (.istore 6, 2) := by decide +kernel
theorem d_M_power_83 : decode b_M_power 83 = .ok (.iconst 1, 1) := by decide +kernel
theorem d_M_power_84 : decode b_M_power 84 = .ok (.istore 7, 2) := by decide +kernel
theorem d_M_power_86 : decode b_M_power 86 = .ok (.aload_n 0, 1) := by decide +kernel
theorem d_M_power_87 : decode b_M_power 87 = .ok (.getfield 28, 3) := by decide +kernel
theorem d_M_power_90 : decode b_M_power 90 = .ok (.iconst 0, 1) := by decide +kernel
theorem d_M_power_91 : decode b_M_power 91 = .ok (.iconst 1, 1) := by decide +kernel
theorem d_M_power_92 : decode b_M_power 92 = .ok (.iastore, 1) := by decide +kernel
theorem d_M_power_93 : decode b_M_power 93 = .ok (.iload_n 3, 1) := by decide +kernel
theorem d_M_power_94 : decode b_M_power 94 = .ok (.ifCond .eq 9, 3) := by decide +kernel
theorem d_M_power_97 : decode b_M_power 97 = .ok (.iload 5, 2) := by decide +kernel
theorem d_M_power_99 : decode b_M_power 99 = .ok (.iconst 2, 1) := by decide +kernel
theorem d_M_power_100 : decode b_M_power 100 = .ok (.if_icmp .ge 45, 3) := by decide +kernel
theorem d_M_power_103 : decode b_M_power 103 = .ok (.aload_n 0, 1) := by decide +kernel
theorem d_M_power_104 : decode b_M_power 104 = .ok (.iload_n 1, 1) := by decide +kernel
theorem d_M_power_105 : decode b_M_power 105 = .ok (.iload_n 3, 1) := by decide +kernel
theorem d_M_power_106 : decode b_M_power 106 = .ok (.ifCond .ne 7, 3) := by decide +kernel
theorem d_M_power_109 : decode b_M_power 109 = .ok (.iconst 1, 1) := by decide +kernel
theorem d_M_power_110 : decode b_M_power 110 = .ok (.goto 5, 3) := by decide +kernel
theorem d_M_power_113 : decode b_M_power 113 = .ok (.iload 6, 2) := by decide +kernel
theorem d_M_power_115 : decode b_M_power 115 = .ok (.aload_n 0, 1) := by decide +kernel
theorem d_M_power_116 : decode b_M_power 116 = .ok (.getfield 28, 3) := by decide +kernel
theorem d_M_power_119 : decode b_M_power 119 = .ok (.iload_n 3, 1) := by decide +kernel
theorem d_M_power_120 : decode b_M_power 120 = .ok (.ifCond .eq 9, 3) := by decide +kernel
theorem d_M_power_123 : decode b_M_power 123 = .ok (.iload 5, 2) := by decide +kernel
theorem d_M_power_125 : decode b_M_power 125 = .ok (.iconst 1, 1) := by decide +kernel
theorem d_M_power_126 : decode b_M_power 126 = .ok (.if_icmp .ne 7, 3) := by decide +kernel
theorem d_M_power_129 : decode b_M_power 129 = .ok (.iconst 1, 1) := by decide +kernel
theorem d_M_power_130 : decode b_M_power 130 = .ok (.goto 4, 3) := by decide +kernel
theorem d_M_power_133 : decode b_M_power 133 = .ok (.iconst 0, 1) := by decide +kernel
theorem d_M_power_134 : decode b_M_power 134 = .ok (.iconst 2, 1) := by decide +kernel
theorem d_M_power_135 : decode b_M_power 135 = .ok (.invokevirtual 91, 3) := by decide +kernel
theorem d_M_power_138 : decode b_M_power 138 = .ok (.pop, 1) := by decide +kernel
theorem d_M_power_139 : decode b_M_power 139 = .ok (.aload_n 0, 1) := by decide +kernel
theorem d_M_power_140 : decode b_M_power 140 = .ok (.iload_n 1, 1) := by decide +kernel
theorem d_M_power_141 : decode b_M_power 141 = .ok (.invokevirtual 87, 3) := by decide +kernel
theorem d_M_power_144 : decode b_M_power 144 = .ok (.ireturn, 1) := by decide +kernel
theorem d_M_power_145 : decode b_M_power 145 = .ok (.aload_n 0, 1) := by decide +kernel
theorem d_M_power_146 : decode b_M_power 146 = .ok (.iload 5, 2) := by decide +kernel
theorem d_M_power_148 : decode b_M_power 148 = .ok (.iconst 1, 1) := by decide +kernel
theorem d_M_power_149 : decode b_M_power 149 = .ok (.isub, 1) := by decide +kernel
theorem d_M_power_150 : decode b_M_power 150 = .ok (.i2l, 1) := by decide +kernel
theorem d_M_power_151 : decode b_M_power 151 = .ok (.iload_n 3, 1) := by decide +kernel
theorem d_M_power_152 : decode b_M_power 152 = .ok (.i2l, 1) := by decide +kernel
theorem d_M_power_153 : decode b_M_power 153 = .ok (.lmul, 1) := by decide +kernel
theorem d_M_power_154 : decode b_M_power 154 = .ok (.ldc2_w 132, 3) := by decide +kernel
theorem d_M_power_157 : decode b_M_power 157 = .ok (.lcmp, 1) := by decide +kernel
theorem d_M_power_158 : decode b_M_power 158 = .ok (.ifCond .le 7, 3) := by decide +kernel
theorem d_M_power_161 : decode b_M_power 161 = .ok (.iconst 1, 1) := by decide +kernel
theorem d_M_power_162 : decode b_M_power 162 = .ok (.goto 4, 3) := by decide +kernel
theorem d_M_power_165 : decode b_M_power 165 = .ok (.iconst 0, 1) := by decide +kernel
theorem d_M_power_166 : decode b_M_power 166 = .ok (.iconst 2, 1) := by decide +kernel
theorem d_M_power_167 : decode b_M_power 167 = .ok (.invokevirtual 79, 3) := by decide +kernel
theorem d_M_power_170 : decode b_M_power 170 = .ok (.ifCond .eq 5, 3) := by decide +kernel
theorem d_M_power_173 : decode b_M_power 173 = .ok (.iconst 0, 1) := by decide +kernel
theorem d_M_power_174 : decode b_M_power 174 = .ok (.ireturn, 1) := by decide +kernel
theorem d_M_power_175 : decode b_M_power 175 = .ok (.iconst 0, 1) := by decide +kernel
theorem d_M_power_176 : decode b_M_power 176 = .ok (.istore 8, 2) := by decide +kernel
theorem d_M_power_178 : decode b_M_power 178 = .ok (.iload 8, 2) := by decide +kernel
theorem d_M_power_180 : decode b_M_power 180 = .ok (.iload_n 3, 1) := by decide +kernel
theorem d_M_power_181 : decode b_M_power 181 = .ok (.if_icmp .ge 60, 3) := by decide +kernel
theorem d_M_power_184 : decode b_M_power 184 = .ok (.aload_n 0, 1) := by decide +kernel
theorem d_M_power_185 : decode b_M_power 185 = .ok (.getfield 28, 3) := by decide +kernel
theorem d_M_power_188 : decode b_M_power 188 = .ok (.iload 7, 2) := by decide +kernel
theorem d_M_power_190 : decode b_M_power 190 = .ok (.aload_n 0, 1) := by decide +kernel
theorem d_M_power_191 : decode b_M_power 191 = .ok (.getfield 22, 3) := by decide +kernel
theorem d_M_power_194 : decode b_M_power 194 = .ok (.iload 4, 2) := by decide +kernel
theorem d_M_power_196 : decode b_M_power 196 = .ok (.aload_n 0, 1) := by decide +kernel
theorem d_M_power_197 : decode b_M_power 197 = .ok (.getfield 31, 3) := by decide +kernel
theorem d_M_power_200 : decode b_M_power 200 = .ok (.invokestatic 107, 3) := by decide +kernel
theorem d_M_power_203 : decode b_M_power 203 = .ok (.istore 7, 2) := by decide +kernel
theorem d_M_power_205 : decode b_M_power 205 = .ok (.iconst 0, 1) := by decide +kernel
theorem d_M_power_206 : decode b_M_power 206 = .ok (.istore 9, 2) := by decide +kernel
theorem d_M_power_208 : decode b_M_power 208 = .ok (.iload 9, 2) := by decide +kernel
theorem d_M_power_210 : decode b_M_power 210 = .ok (.iload 7, 2) := by decide +kernel
theorem d_M_power_212 : decode b_M_power 212 = .ok (.if_icmp .ge 23, 3) := by decide +kernel
theorem d_M_power_215 : decode b_M_power 215 = .ok (.aload_n 0, 1) := by decide +kernel
theorem d_M_power_216 : decode b_M_power 216 = .ok (.getfield 28, 3) := by decide +kernel
theorem d_M_power_219 : decode b_M_power 219 = .ok (.iload 9, 2) := by decide +kernel
theorem d_M_power_221 : decode b_M_power 221 = .ok (.aload_n 0, 1) := by decide +kernel
theorem d_M_power_222 : decode b_M_power 222 = .ok (.getfield 31, 3) := by decide +kernel
theorem d_M_power_225 : decode b_M_power 225 = .ok (.iload 9, 2) := by decide +kernel
theorem d_M_power_227 : decode b_M_power 227 = .ok (.iaload, 1) := by decide +kernel
theorem d_M_power_228 : decode b_M_power 228 = .ok (.iastore, 1) := by decide +kernel
theorem d_M_power_229 : decode b_M_power 229 = .ok (.iinc 9 1, 3) := by decide +kernel
theorem d_M_power_232 : decode b_M_power 232 = .ok (.goto (-24), 3) := by decide +kernel
theorem d_M_power_235 : decode b_M_power 235 = .ok (.iinc 8 1, 3) := by decide +kernel
theorem d_M_power_238 : decode b_M_power 238 = .ok (.goto (-60), 3) := by decide +kernel
theorem d_M_power_241 : decode b_M_power 241 = .ok (.aload_n 0, 1) := by decide +kernel
theorem d_M_power_242 : decode b_M_power 242 = .ok (.iload_n 1, 1) := by decide +kernel
theorem d_M_power_243 : decode b_M_power 243 = .ok (.iload 6, 2) := by decide +kernel
theorem d_M_power_245 : decode b_M_power 245 = .ok (.aload_n 0, 1) := by decide +kernel
theorem d_M_power_246 : decode b_M_power 246 = .ok (.getfield 28, 3) := by decide +kernel
theorem d_M_power_249 : decode b_M_power 249 = .ok (.iload 7, 2) := by decide +kernel
theorem d_M_power_251 : decode b_M_power 251 = .ok (.iconst 2, 1) := by decide +kernel
theorem d_M_power_252 : decode b_M_power 252 = .ok (.invokevirtual 91, 3) := by decide +kernel
theorem d_M_power_255 : decode b_M_power 255 = .ok (.ifCond .eq 11, 3) := by decide +kernel
theorem d_M_power_258 : decode b_M_power 258 = .ok (.aload_n 0, 1) := by decide +kernel
theorem d_M_power_259 : decode b_M_power 259 = .ok (.iload_n 1, 1) := by decide +kernel
theorem d_M_power_260 : decode b_M_power 260 = .ok (.invokevirtual 87, 3) := by decide +kernel
theorem d_M_power_263 : decode b_M_power 263 = .ok (.goto 4, 3) := by decide +kernel
theorem d_M_power_266 : decode b_M_power 266 = .ok (.iconst 0, 1) := by decide +kernel
theorem d_M_power_267 : decode b_M_power 267 = .ok (.ireturn, 1) := by decide +kernel
theorem d_M_residue_0 : decode b_M_residue 0 = .ok (.aload_n 0, 1) := by decide +kernel
theorem d_M_residue_1 : decode b_M_residue 1 = .ok (.iconst 0, 1) := by decide +kernel
theorem d_M_residue_2 : decode b_M_residue 2 = .ok (.putfield 49, 3) := by decide +kernel
theorem d_M_residue_5 : decode b_M_residue 5 = .ok (.aload_n 0, 1) := by decide +kernel
theorem d_M_residue_6 : decode b_M_residue 6 = .ok (.iload_n 1, 1) := by decide +kernel
theorem d_M_residue_7 : decode b_M_residue 7 = .ok (.invokestatic 83, 3) := by decide +kernel
theorem d_M_residue_10 : decode b_M_residue 10 = .ok (.ifCond .eq 34, 3) := by decide +kernel
theorem d_M_residue_13 : decode b_M_residue 13 = .ok (.iload_n 2, 1) := by decide +kernel
theorem d_M_residue_14 : decode b_M_residue 14 = .ok (.invokestatic 83, 3) := by decide +kernel
theorem d_M_residue_17 : decode b_M_residue 17 = .ok (.ifCond .eq 27, 3) := by decide +kernel
theorem d_M_residue_20 : decode b_M_residue 20 = .ok (.iload_n 3, 1) := by decide +kernel
theorem d_M_residue_21 : decode b_M_residue 21 = .ok (.invokestatic 83, 3) := by decide +kernel
theorem d_M_residue_24 : decode b_M_residue 24 = .ok (.ifCond .eq 20, 3) := by decide +kernel
theorem d_M_residue_27 : decode b_M_residue 27 = .ok (.iload 4, 2) := by decide +kernel
theorem d_M_residue_29 : decode b_M_residue 29 = .ok (.invokestatic 83, 3) := by decide +kernel
theorem d_M_residue_32 : decode b_M_residue 32 = .ok (.ifCond .eq 12, 3) := by decide +kernel
theorem d_M_residue_35 : decode b_M_residue 35 = .ok (.aload_n 0, 1) := by decide +kernel
theorem d_M_residue_36 : decode b_M_residue 36 = .ok (.getfield 16, 3) := by decide +kernel
theorem d_M_residue_39 : decode b_M_residue 39 = .ok (.iload_n 3, 1) := by decide +kernel
theorem d_M_residue_40 : decode b_M_residue 40 = .ok (.iaload, 1) := by decide +kernel
theorem d_M_residue_41 : decode b_M_residue 41 = .ok (.ifCond .ge 7, 3) := by decide +kernel
theorem d_M_residue_44 : decode b_M_residue 44 = .ok (.iconst 1, 1) := by decide +kernel
theorem d_M_residue_45 : decode b_M_residue 45 = .ok (.goto 4, 3) := by decide +kernel
theorem d_M_residue_48 : decode b_M_residue 48 = .ok (.iconst 0, 1) := by decide +kernel
theorem d_M_residue_49 : decode b_M_residue 49 = .ok (.iconst 1, 1) := by decide +kernel
theorem d_M_residue_50 : decode b_M_residue 50 = .ok (.invokevirtual 79, 3) := by decide +kernel
theorem d_M_residue_53 : decode b_M_residue 53 = .ok (.ifCond .ne 26, 3) := by decide +kernel
theorem d_M_residue_56 : decode b_M_residue 56 = .ok (.aload_n 0, 1) := by decide +kernel
theorem d_M_residue_57 : decode b_M_residue 57 = .ok (.aload_n 0, 1) := by decide +kernel
theorem d_M_residue_58 : decode b_M_residue 58 = .ok (.getfield 16, 3) := by decide +kernel
theorem d_M_residue_61 : decode b_M_residue 61 = .ok (.iload 4, 2) := by decide +kernel
theorem d_M_residue_63 : decode b_M_residue 63 = .ok (.iaload, 1) := by decide +kernel
theorem d_M_residue_64 : decode b_M_residue 64 = .ok (.ifCond .ne 7, 3) := by decide +kernel
theorem d_M_residue_67 : decode b_M_residue 67 = .ok (.iconst 1, 1) := by decide +kernel
theorem d_M_residue_68 : decode b_M_residue 68 = .ok (.goto 4, 3) := by decide +kernel
theorem d_M_residue_71 : decode b_M_residue 71 = .ok (.iconst 0, 1) := by decide +kernel
theorem d_M_residue_72 : decode b_M_residue 72 = .ok (.iconst 2, 1) := by decide +kernel
theorem d_M_residue_73 : decode b_M_residue 73 = .ok (.invokevirtual 79, 3) := by decide +kernel
theorem d_M_residue_76 : decode b_M_residue 76 = .ok (.ifCond .eq 5, 3) := by decide +kernel
theorem d_M_residue_79 : decode b_M_residue 79 = .ok (.iconst 0, 1) := by decide +kernel
theorem d_M_residue_80 : decode b_M_residue 80 = .ok (.ireturn, 1) := by decide +kernel
theorem d_M_residue_81 : decode b_M_residue 81 = .ok (.aload_n 0, 1) := by decide +kernel
theorem d_M_residue_82 : decode b_M_residue 82 = .ok (.iload_n 3, 1) := by decide +kernel
theorem d_M_residue_83 : decode b_M_residue 83 = .ok (.aload_n 0, 1) := by decide +kernel
theorem d_M_residue_84 : decode b_M_residue 84 = .ok (.getfield 37, 3) := by decide +kernel
theorem d_M_residue_87 : decode b_M_residue 87 = .ok (.invokevirtual 72, 3) := by decide +kernel
theorem d_M_residue_90 : decode b_M_residue 90 = .ok (.istore 5, 2) := by decide +kernel
theorem d_M_residue_92 : decode b_M_residue 92 = .ok (.aload_n 0, 1) := by decide +kernel
theorem d_M_residue_93 : decode b_M_residue 93 = .ok (.iload 4, 2) := by decide +kernel
theorem d_M_residue_95 : decode b_M_residue 95 = .ok (.aload_n 0, 1) := by decide +kernel
theorem d_M_residue_96 : decode b_M_residue 96 = .ok (.getfield 34, 3) := by decide +kernel
theorem d_M_residue_99 : decode b_M_residue 99 = .ok (.invokevirtual 72, 3) := by decide +kernel
theorem d_M_residue_102 : decode b_M_residue 102 = .ok (.istore 6, 2) := by decide +kernel
theorem d_M_residue_104 : decode b_M_residue 104 = .ok (.aload_n 0, 1) := by decide +kernel
theorem d_M_residue_105 : decode b_M_residue 105 = .ok (.iload_n 2, 1) := by decide +kernel
theorem d_M_residue_106 : decode b_M_residue 106 = .ok (.aload_n 0, 1) := by decide +kernel
theorem d_M_residue_107 : decode b_M_residue 107 = .ok (.getfield 22, 3) := by decide +kernel
theorem d_M_residue_110 : decode b_M_residue 110 = .ok (.invokevirtual 72, 3) := by decide +kernel
theorem d_M_residue_113 : decode b_M_residue 113 = .ok (.istore 7, 2) := by decide +kernel
theorem d_M_residue_115 : decode b_M_residue 115 = .ok (.iconst 1, 1) := by decide +kernel
theorem d_M_residue_116 : decode b_M_residue 116 = .ok (.istore 8, 2) := by decide +kernel
theorem d_M_residue_118 : decode b_M_residue 118 = .ok (.aload_n 0, 1) := by decide +kernel
theorem d_M_residue_119 : decode b_M_residue 119 = .ok (.getfield 37, 3) := by decide +kernel
theorem d_M_residue_122 : decode b_M_residue 122 = .ok (.iload 5, 2) := by decide +kernel
theorem d_M_residue_124 : decode b_M_residue 124 = .ok (.invokestatic 76, 3) := by decide +kernel
theorem d_M_residue_127 : decode b_M_residue 127 = .ok (.istore 9, 2) := by decide +kernel
theorem d_M_residue_129 : decode b_M_residue 129 = .ok (.aload_n 0, 1) := by decide +kernel
theorem d_M_residue_130 : decode b_M_residue 130 = .ok (.getfield 16, 3) := by decide +kernel
theorem d_M_residue_133 : decode b_M_residue 133 = .ok (.iload_n 2, 1) := by decide +kernel
theorem d_M_residue_134 : decode b_M_residue 134 = .ok (.iaload, 1) := by decide +kernel
theorem d_M_residue_135 : decode b_M_residue 135 = .ok (.ifCond .ge 20, 3) := by decide +kernel
theorem d_M_residue_138 : decode b_M_residue 138 = .ok (.aload_n 0, 1) := by decide +kernel
theorem d_M_residue_139 : decode b_M_residue 139 = .ok (.getfield 37, 3) := by decide +kernel
theorem d_M_residue_142 : decode b_M_residue 142 = .ok (.iload 5, 2) := by decide +kernel
theorem d_M_residue_144 : decode b_M_residue 144 = .ok (.iconst 0, 1) := by decide +kernel
theorem d_M_residue_145 : decode b_M_residue 145 = .ok (.invokestatic 124, 3) := by decide +kernel
theorem d_M_residue_148 : decode b_M_residue 148 = .ok (.ifCond .eq 7, 3) := by decide +kernel
theorem d_M_residue_151 : decode b_M_residue 151 = .ok (.iconst 1, 1) := by decide +kernel
theorem d_M_residue_152 : decode b_M_residue 152 = .ok (.goto 4, 3) := by decide +kernel
theorem d_M_residue_155 : decode b_M_residue 155 = .ok (.iconst 0, 1) := by decide +kernel
theorem d_M_residue_156 : decode b_M_residue 156 = .ok (.istore 10, 2) := by decide +kernel
theorem d_M_residue_158 : decode b_M_residue 158 = .ok (.iconst 0, 1) := by decide +kernel
theorem d_M_residue_159 : decode b_M_residue 159 = .ok (.istore 11, 2) := by decide +kernel
theorem d_M_residue_161 : decode b_M_residue 161 = .ok (.iload 11, 2) := by decide +kernel
theorem d_M_residue_163 : decode b_M_residue 163 = .ok (.iload 5, 2) := by decide +kernel
theorem d_M_residue_165 : decode b_M_residue 165 = .ok (.if_icmp .ge 23, 3) := by decide +kernel
theorem d_M_residue_168 : decode b_M_residue 168 = .ok (.aload_n 0, 1) := by decide +kernel
theorem d_M_residue_169 : decode b_M_residue 169 = .ok (.getfield 43, 3) := by decide +kernel
theorem d_M_residue_172 : decode b_M_residue 172 = .ok (.iload 11, 2) := by decide +kernel
theorem d_M_residue_174 : decode b_M_residue 174 = .ok (.aload_n 0, 1) := by decide +kernel
theorem d_M_residue_175 : decode b_M_residue 175 = .ok (.getfield 37, 3) := by decide +kernel
theorem d_M_residue_178 : decode b_M_residue 178 = .ok (.iload 11, 2) := by decide +kernel
theorem d_M_residue_180 : decode b_M_residue 180 = .ok (.iaload, 1) := by decide +kernel
theorem d_M_residue_181 : decode b_M_residue 181 = .ok (.iastore, 1) := by decide +kernel
theorem d_M_residue_182 : decode b_M_residue 182 = .ok (.iinc 11 1, 3) := by decide +kernel
theorem d_M_residue_185 : decode b_M_residue 185 = .ok (.goto (-24), 3) := by decide +kernel
theorem d_M_residue_188 : decode b_M_residue 188 = .ok (.aload_n 0, 1) := by decide +kernel
theorem d_M_residue_189 : decode b_M_residue 189 = .ok (.aload_n 0, 1) := by decide +kernel
theorem d_M_residue_190 : decode b_M_residue 190 = .ok (.getfield 22, 3) := by decide +kernel
theorem d_M_residue_193 : decode b_M_residue 193 = .ok (.iload 7, 2) := by decide +kernel
theorem d_M_residue_195 : decode b_M_residue 195 = .ok (.aload_n 0, 1) := by decide +kernel
theorem d_M_residue_196 : decode b_M_residue 196 = .ok (.getfield 34, 3) := by decide +kernel
theorem d_M_residue_199 : decode b_M_residue 199 = .ok (.iload 6, 2) := by decide +kernel
theorem d_M_residue_201 : decode b_M_residue 201 = .ok (.aload_n 0, 1) := by decide +kernel
theorem d_M_residue_202 : decode b_M_residue 202 = .ok (.getfield 28, 3) := by decide +kernel
theorem d_M_residue_205 : decode b_M_residue 205 = .ok (.invokevirtual 117, 3) := by decide +kernel
theorem d_M_residue_208 : decode b_M_residue 208 = .ok (.istore 7, 2) := by decide +kernel
theorem d_M_residue_210 : decode b_M_residue 210 = .ok (.iconst 0, 1) := by decide +kernel
theorem d_M_residue_211 : decode b_M_residue 211 = .ok (.istore 11, 2) := by decide +kernel
theorem d_M_residue_213 : decode b_M_residue 213 = .ok (.iload 11, 2) := by decide +kernel
theorem d_M_residue_215 : decode b_M_residue 215 = .ok (.iload 7, 2) := by decide +kernel
theorem d_M_residue_217 : decode b_M_residue 217 = .ok (.if_icmp .ge 23, 3) := by decide +kernel
theorem d_M_residue_220 : decode b_M_residue 220 = .ok (.aload_n 0, 1) := by decide +kernel
theorem d_M_residue_221 : decode b_M_residue 221 = .ok (.getfield 46, 3) := by decide +kernel
theorem d_M_residue_224 : decode b_M_residue 224 = .ok (.iload 11, 2) := by decide +kernel
theorem d_M_residue_226 : decode b_M_residue 226 = .ok (.aload_n 0, 1) := by decide +kernel
theorem d_M_residue_227 : decode b_M_residue 227 = .ok (.getfield 22, 3) := by decide +kernel
theorem d_M_residue_230 : decode b_M_residue 230 = .ok (.iload 11, 2) := by decide +kernel
theorem d_M_residue_232 : decode b_M_residue 232 = .ok (.iaload, 1) := by decide +kernel
theorem d_M_residue_233 : decode b_M_residue 233 = .ok (.iastore, 1) := by decide +kernel
theorem d_M_residue_234 : decode b_M_residue 234 = .ok (.iinc 11 1, 3) := by decide +kernel
theorem d_M_residue_237 : decode b_M_residue 237 = .ok (.goto (-24), 3) := by decide +kernel
theorem d_M_residue_240 : decode b_M_residue 240 = .ok (.aload_n 0, 1) := by decide +kernel
theorem d_M_residue_241 : decode b_M_residue 241 = .ok (.getfield 31, 3) := by decide +kernel
theorem d_M_residue_244 : decode b_M_residue 244 = .ok (.iconst 0, 1) := by decide +kernel
theorem d_M_residue_245 : decode b_M_residue 245 = .ok (.iconst 1, 1) := by decide +kernel
theorem d_M_residue_246 : decode b_M_residue 246 = .ok (.iastore, 1) := by decide +kernel
theorem d_M_residue_247 : decode b_M_residue 247 = .ok (.aload_n 0, 1) := by decide +kernel
theorem d_M_residue_248 : decode b_M_residue 248 = .ok (.aload_n 0, 1) := by decide +kernel
theorem d_M_residue_249 : decode b_M_residue 249 = .ok (.getfield 31, 3) := by decide +kernel
theorem d_M_residue_252 : decode b_M_residue 252 = .ok (.iconst 1, 1) := by decide +kernel
theorem d_M_residue_253 : decode b_M_residue 253 = .ok (.aload_n 0, 1) := by decide +kernel
theorem d_M_residue_254 : decode b_M_residue 254 = .ok (.getfield 34, 3) := by decide +kernel
theorem d_M_residue_257 : decode b_M_residue 257 = .ok (.iload 6, 2) := by decide +kernel
theorem d_M_residue_259 : decode b_M_residue 259 = .ok (.aload_n 0, 1) := by decide +kernel
theorem d_M_residue_260 : decode b_M_residue 260 = .ok (.getfield 28, 3) := by decide +kernel
theorem d_M_residue_263 : decode b_M_residue 263 = .ok (.invokevirtual 117, 3) := by decide +kernel
theorem d_M_residue_266 : decode b_M_residue 266 = .ok (.istore 8, 2) := by decide +kernel
theorem d_M_residue_268 : decode b_M_residue 268 = .ok (.iload 9, 2) := by decide +kernel
theorem d_M_residue_270 : decode b_M_residue 270 = .ok (.iconst 1, 1) := by decide +kernel
theorem d_M_residue_271 : decode b_M_residue 271 = .ok (.isub, 1) := by decide +kernel
theorem d_M_residue_272 : decode b_M_residue 272 = .ok (.istore 11, 2) := by decide +kernel
theorem d_M_residue_274 : decode b_M_residue 274 = .ok (.iload 11, 2) := by decide +kernel
theorem d_M_residue_276 : decode b_M_residue 276 = .ok (.ifCond .lt 172, 3) := by decide +kernel
theorem d_M_residue_279 : decode b_M_residue 279 = .ok (.aload_n 0, 1) := by decide +kernel
theorem d_M_residue_280 : decode b_M_residue 280 = .ok (.getfield 31, 3) := by decide +kernel
theorem d_M_residue_283 : decode b_M_residue 283 = .ok (.iload 8, 2) := by decide +kernel
theorem d_M_residue_285 : decode b_M_residue 285 = .ok (.aload_n 0, 1) := by decide +kernel
theorem d_M_residue_286 : decode b_M_residue 286 = .ok (.getfield 31, 3) := by decide +kernel
theorem d_M_residue_289 : decode b_M_residue 289 = .ok (.iload 8, 2) := by decide +kernel
theorem d_M_residue_291 : decode b_M_residue 291 = .ok (.aload_n 0, 1) := by decide +kernel
theorem d_M_residue_292 : decode b_M_residue 292 = .ok (.getfield 22, 3) := by decide +kernel
theorem d_M_residue_295 : decode b_M_residue 295 = .ok (.invokestatic 107, 3) := by decide +kernel
theorem d_M_residue_298 : decode b_M_residue 298 = .ok (.istore 8, 2) := by decide +kernel
theorem d_M_residue_300 : decode b_M_residue 300 = .ok (.aload_n 0, 1) := by decide +kernel
theorem d_M_residue_301 : decode b_M_residue 301 = .ok (.aload_n 0, 1) := by decide +kernel
theorem d_M_residue_302 : decode b_M_residue 302 = .ok (.getfield 22, 3) := by decide +kernel
theorem d_M_residue_305 : decode b_M_residue 305 = .ok (.iload 8, 2) := by decide +kernel
theorem d_M_residue_307 : decode b_M_residue 307 = .ok (.aload_n 0, 1) := by decide +kernel
theorem d_M_residue_308 : decode b_M_residue 308 = .ok (.getfield 34, 3) := by decide +kernel
theorem d_M_residue_311 : decode b_M_residue 311 = .ok (.iload 6, 2) := by decide +kernel
theorem d_M_residue_313 : decode b_M_residue 313 = .ok (.aload_n 0, 1) := by decide +kernel
theorem d_M_residue_314 : decode b_M_residue 314 = .ok (.getfield 28, 3) := by decide +kernel
theorem d_M_residue_317 : decode b_M_residue 317 = .ok (.invokevirtual 117, 3) := by decide +kernel
theorem d_M_residue_320 : decode b_M_residue 320 = .ok (.istore 8, 2) := by decide +kernel
theorem d_M_residue_322 : decode b_M_residue 322 = .ok (.iconst 0, 1) := by decide +kernel
theorem d_M_residue_323 : decode b_M_residue 323 = .ok (.istore 12, 2) := by decide +kernel
theorem d_M_residue_325 : decode b_M_residue 325 = .ok (.iload 12, 2) := by decide +kernel
theorem d_M_residue_327 : decode b_M_residue 327 = .ok (.iload 8, 2) := by decide +kernel
theorem d_M_residue_329 : decode b_M_residue 329 = .ok (.if_icmp .ge 23, 3) := by decide +kernel
theorem d_M_residue_332 : decode b_M_residue 332 = .ok (.aload_n 0, 1) := by decide +kernel
theorem d_M_residue_333 : decode b_M_residue 333 = .ok (.getfield 31, 3) := by decide +kernel
theorem d_M_residue_336 : decode b_M_residue 336 = .ok (.iload 12, 2) := by decide +kernel
theorem d_M_residue_338 : decode b_M_residue 338 = .ok (.aload_n 0, 1) := by decide +kernel
theorem d_M_residue_339 : decode b_M_residue 339 = .ok (.getfield 22, 3) := by decide +kernel
theorem d_M_residue_342 : decode b_M_residue 342 = .ok (.iload 12, 2) := by decide +kernel
theorem d_M_residue_344 : decode b_M_residue 344 = .ok (.iaload, 1) := by decide +kernel
theorem d_M_residue_345 : decode b_M_residue 345 = .ok (.iastore, 1) := by decide +kernel
theorem d_M_residue_346 : decode b_M_residue 346 = .ok (.iinc 12 1, 3) := by decide +kernel
theorem d_M_residue_349 : decode b_M_residue 349 = .ok (.goto (-24), 3) := by decide +kernel
theorem d_M_residue_352 : decode b_M_residue 352 = .ok (.aload_n 0, 1) := by decide +kernel
theorem d_M_residue_353 : decode b_M_residue 353 = .ok (.getfield 43, 3) := by decide +kernel
theorem d_M_residue_356 : decode b_M_residue 356 = .ok (.iload 5, 2) := by decide +kernel
theorem d_M_residue_358 : decode b_M_residue 358 = .ok (.iload 11, 2) := by decide +kernel
theorem d_M_residue_360 : decode b_M_residue 360 = .ok (.invokestatic 124, 3) := by decide +kernel
theorem d_M_residue_363 : decode b_M_residue 363 = .ok (.ifCond .ne 6, 3) := by decide +kernel
theorem d_M_residue_366 : decode b_M_residue 366 = .ok (.goto 76, 3) := by decide +kernel
theorem d_M_residue_369 : decode b_M_residue 369 = .ok (.aload_n 0, 1) := by decide +kernel
theorem d_M_residue_370 : decode b_M_residue 370 = .ok (.getfield 31, 3) := by decide +kernel
theorem d_M_residue_373 : decode b_M_residue 373 = .ok (.iload 8, 2) := by decide +kernel
theorem d_M_residue_375 : decode b_M_residue 375 = .ok (.aload_n 0, 1) := by decide +kernel
theorem d_M_residue_376 : decode b_M_residue 376 = .ok (.getfield 46, 3) := by decide +kernel
theorem d_M_residue_379 : decode b_M_residue 379 = .ok (.iload 7, 2) := by decide +kernel
theorem d_M_residue_381 : decode b_M_residue 381 = .ok (.aload_n 0, 1) := by decide +kernel
theorem d_M_residue_382 : decode b_M_residue 382 = .ok (.getfield 22, 3) := by decide +kernel
theorem d_M_residue_385 : decode b_M_residue 385 = .ok (.invokestatic 107, 3) := by decide +kernel
theorem d_M_residue_388 : decode b_M_residue 388 = .ok (.istore 8, 2) := by decide +kernel
theorem d_M_residue_390 : decode b_M_residue 390 = .ok (.aload_n 0, 1) := by decide +kernel
theorem d_M_residue_391 : decode b_M_residue 391 = .ok (.aload_n 0, 1) := by decide +kernel
theorem d_M_residue_392 : decode b_M_residue 392 = .ok (.getfield 22, 3) := by decide +kernel
theorem d_M_residue_395 : decode b_M_residue 395 = .ok (.iload 8, 2) := by decide +kernel
theorem d_M_residue_397 : decode b_M_residue 397 = .ok (.aload_n 0, 1) := by decide +kernel
theorem d_M_residue_398 : decode b_M_residue 398 = .ok (.getfield 34, 3) := by decide +kernel
theorem d_M_residue_401 : decode b_M_residue 401 = .ok (.iload 6, 2) := by decide +kernel
