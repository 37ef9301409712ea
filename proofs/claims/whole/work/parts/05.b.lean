theorem dX11_init_0 : decode cX11_init 0 = .ok (.aload_n 0, 1) := by decide +kernel
theorem dX11_init_1 : decode cX11_init 1 = .ok (.invokespecial 1, 3) := by decide +kernel
theorem dX11_init_4 : decode cX11_init 4 = .ok (.aload_n 0, 1) := by decide +kernel
theorem dX11_init_5 : decode cX11_init 5 = .ok (.bipush 30, 2) := by decide +kernel
theorem dX11_init_7 : decode cX11_init 7 = .ok (.newarray .int, 2) := by decide +kernel
theorem dX11_init_9 : decode cX11_init 9 = .ok (.putfield 7, 3) := by decide +kernel
theorem dX11_init_12 : decode cX11_init 12 = .ok (.aload_n 0, 1) := by decide +kernel
theorem dX11_init_13 : decode cX11_init 13 = .ok (.iconst 4, 1) := by decide +kernel
theorem dX11_init_14 : decode cX11_init 14 = .ok (.putfield 13, 3) := by decide +kernel
theorem dX11_init_17 : decode cX11_init 17 = .ok (.aload_n 0, 1) := by decide +kernel
theorem dX11_init_18 : decode cX11_init 18 = .ok (.bipush 7, 2) := by decide +kernel
theorem dX11_init_20 : decode cX11_init 20 = .ok (.newarray .int, 2) := by decide +kernel
theorem dX11_init_22 : decode cX11_init 22 = .ok (.dup, 1) := by decide +kernel
theorem dX11_init_23 : decode cX11_init 23 = .ok (.iconst 0, 1) := by decide +kernel
theorem dX11_init_24 : decode cX11_init 24 = .ok (.iconst 0, 1) := by decide +kernel
theorem dX11_init_25 : decode cX11_init 25 = .ok (.iastore, 1) := by decide +kernel
theorem dX11_init_26 : decode cX11_init 26 = .ok (.dup, 1) := by decide +kernel
theorem dX11_init_27 : decode cX11_init 27 = .ok (.iconst 1, 1) := by decide +kernel
theorem dX11_init_28 : decode cX11_init 28 = .ok (.iconst 0, 1) := by decide +kernel
theorem dX11_init_29 : decode cX11_init 29 = .ok (.iastore, 1) := by decide +kernel
theorem dX11_init_30 : decode cX11_init 30 = .ok (.dup, 1) := by decide +kernel
theorem dX11_init_31 : decode cX11_init 31 = .ok (.iconst 2, 1) := by decide +kernel
theorem dX11_init_32 : decode cX11_init 32 = .ok (.iconst 1, 1) := by decide +kernel
theorem dX11_init_33 : decode cX11_init 33 = .ok (.iastore, 1) := by decide +kernel
theorem dX11_init_34 : decode cX11_init 34 = .ok (.dup, 1) := by decide +kernel
theorem dX11_init_35 : decode cX11_init 35 = .ok (.iconst 3, 1) := by decide +kernel
theorem dX11_init_36 : decode cX11_init 36 = .ok (.iconst 1, 1) := by decide +kernel
theorem dX11_init_37 : decode cX11_init 37 = .ok (.iastore, 1) := by decide +kernel
theorem dX11_init_38 : decode cX11_init 38 = .ok (.dup, 1) := by decide +kernel
theorem dX11_init_39 : decode cX11_init 39 = .ok (.iconst 4, 1) := by decide +kernel
theorem dX11_init_40 : decode cX11_init 40 = .ok (.iconst 1, 1) := by decide +kernel
theorem dX11_init_41 : decode cX11_init 41 = .ok (.iastore, 1) := by decide +kernel
theorem dX11_init_42 : decode cX11_init 42 = .ok (.dup, 1) := by decide +kernel
theorem dX11_init_43 : decode cX11_init 43 = .ok (.iconst 5, 1) := by decide +kernel
theorem dX11_init_44 : decode cX11_init 44 = .ok (.iconst 2, 1) := by decide +kernel
theorem dX11_init_45 : decode cX11_init 45 = .ok (.iastore, 1) := by decide +kernel
theorem dX11_init_46 : decode cX11_init 46 = .ok (.dup, 1) := by decide +kernel
theorem dX11_init_47 : decode cX11_init 47 = .ok (.bipush 6, 2) := by decide +kernel
theorem dX11_init_49 : decode cX11_init 49 = .ok (.iconst 3, 1) := by decide +kernel
theorem dX11_init_50 : decode cX11_init 50 = .ok (.iastore, 1) := by decide +kernel
theorem dX11_init_51 : decode cX11_init 51 = .ok (.putfield 17, 3) := by decide +kernel
theorem dX11_init_54 : decode cX11_init 54 = .ok (.aload_n 0, 1) := by decide +kernel
theorem dX11_init_55 : decode cX11_init 55 = .ok (.iconst (-1), 1) := by decide +kernel
theorem dX11_init_56 : decode cX11_init 56 = .ok (.putfield 20, 3) := by decide +kernel
theorem dX11_init_59 : decode cX11_init 59 = .ok (.aload_n 0, 1) := by decide +kernel
theorem dX11_init_60 : decode cX11_init 60 = .ok (.bipush 40, 2) := by decide +kernel
theorem dX11_init_62 : decode cX11_init 62 = .ok (.newarray .int, 2) := by decide +kernel
theorem dX11_init_64 : decode cX11_init 64 = .ok (.putfield 23, 3) := by decide +kernel
theorem dX11_init_67 : decode cX11_init 67 = .ok (.aload_n 0, 1) := by decide +kernel
theorem dX11_init_68 : decode cX11_init 68 = .ok (.bipush 40, 2) := by decide +kernel
theorem dX11_init_70 : decode cX11_init 70 = .ok (.newarray .int, 2) := by decide +kernel
theorem dX11_init_72 : decode cX11_init 72 = .ok (.putfield 26, 3) := by decide +kernel
theorem dX11_init_75 : decode cX11_init 75 = .ok (.aload_n 0, 1) := by decide +kernel
theorem dX11_init_76 : decode cX11_init 76 = .ok (.bipush 40, 2) := by decide +kernel
theorem dX11_init_78 : decode cX11_init 78 = .ok (.newarray .int, 2) := by decide +kernel
theorem dX11_init_80 : decode cX11_init 80 = .ok (.putfield 29, 3) := by decide +kernel
theorem dX11_init_83 : decode cX11_init 83 = .ok (.aload_n 0, 1) := by decide +kernel
theorem dX11_init_84 : decode cX11_init 84 = .ok (.bipush 40, 2) := by decide +kernel
theorem dX11_init_86 : decode cX11_init 86 = .ok (.newarray .int, 2) := by decide +kernel
theorem dX11_init_88 : decode cX11_init 88 = .ok (.putfield 32, 3) := by decide +kernel
theorem dX11_init_91 : decode cX11_init 91 = .ok (.aload_n 0, 1) := by decide +kernel
theorem dX11_init_92 : decode cX11_init 92 = .ok (.bipush 40, 2) := by decide +kernel
theorem dX11_init_94 : decode cX11_init 94 = .ok (.newarray .int, 2) := by decide +kernel
theorem dX11_init_96 : decode cX11_init 96 = .ok (.putfield 35, 3) := by decide +kernel
theorem dX11_init_99 : decode cX11_init 99 = .ok (.aload_n 0, 1) := by decide +kernel
theorem dX11_init_100 : decode cX11_init 100 = .ok (.bipush 64, 2) := by decide +kernel
theorem dX11_init_102 : decode cX11_init 102 = .ok (.newarray .int, 2) := by decide +kernel
theorem dX11_init_104 : decode cX11_init 104 = .ok (.putfield 38, 3) := by decide +kernel
theorem dX11_init_107 : decode cX11_init 107 = .ok (.aload_n 0, 1) := by decide +kernel
theorem dX11_init_108 : decode cX11_init 108 = .ok (.bipush 8, 2) := by decide +kernel
theorem dX11_init_110 : decode cX11_init 110 = .ok (.newarray .int, 2) := by decide +kernel
theorem dX11_init_112 : decode cX11_init 112 = .ok (.dup, 1) := by decide +kernel
theorem dX11_init_113 : decode cX11_init 113 = .ok (.iconst 0, 1) := by decide +kernel
theorem dX11_init_114 : decode cX11_init 114 = .ok (.iconst 1, 1) := by decide +kernel
theorem dX11_init_115 : decode cX11_init 115 = .ok (.iastore, 1) := by decide +kernel
theorem dX11_init_116 : decode cX11_init 116 = .ok (.dup, 1) := by decide +kernel
theorem dX11_init_117 : decode cX11_init 117 = .ok (.iconst 1, 1) := by decide +kernel
theorem dX11_init_118 : decode cX11_init 118 = .ok (.iconst 1, 1) := by decide +kernel
theorem dX11_init_119 : decode cX11_init 119 = .ok (.iastore, 1) := by decide +kernel
theorem dX11_init_120 : decode cX11_init 120 = .ok (.dup, 1) := by decide +kernel
theorem dX11_init_121 : decode cX11_init 121 = .ok (.iconst 2, 1) := by decide +kernel
theorem dX11_init_122 : decode cX11_init 122 = .ok (.iconst 1, 1) := by decide +kernel
theorem dX11_init_123 : decode cX11_init 123 = .ok (.iastore, 1) := by decide +kernel
theorem dX11_init_124 : decode cX11_init 124 = .ok (.dup, 1) := by decide +kernel
theorem dX11_init_125 : decode cX11_init 125 = .ok (.iconst 3, 1) := by decide +kernel
theorem dX11_init_126 : decode cX11_init 126 = .ok (.iconst 1, 1) := by decide +kernel
theorem dX11_init_127 : decode cX11_init 127 = .ok (.iastore, 1) := by decide +kernel
theorem dX11_init_128 : decode cX11_init 128 = .ok (.dup, 1) := by decide +kernel
theorem dX11_init_129 : decode cX11_init 129 = .ok (.iconst 4, 1) := by decide +kernel
theorem dX11_init_130 : decode cX11_init 130 = .ok (.iconst 1, 1) := by decide +kernel
theorem dX11_init_131 : decode cX11_init 131 = .ok (.iastore, 1) := by decide +kernel
theorem dX11_init_132 : decode cX11_init 132 = .ok (.dup, 1) := by decide +kernel
theorem dX11_init_133 : decode cX11_init 133 = .ok (.iconst 5, 1) := by decide +kernel
theorem dX11_init_134 : decode cX11_init 134 = .ok (.iconst 1, 1) := by decide +kernel
theorem dX11_init_135 : decode cX11_init 135 = .ok (.iastore, 1) := by decide +kernel
theorem dX11_init_136 : decode cX11_init 136 = .ok (.dup, 1) := by decide +kernel
theorem dX11_init_137 : decode cX11_init 137 = .ok (.bipush 6, 2) := by decide +kernel
theorem dX11_init_139 : decode cX11_init 139 = .ok (.iconst 1, 1) := by decide +kernel
theorem dX11_init_140 : decode cX11_init 140 = .ok (.iastore, 1) := by decide +kernel
theorem dX11_init_141 : decode cX11_init 141 = .ok (.dup, 1) := by decide +kernel
theorem dX11_init_142 : decode cX11_init 142 = .ok (.bipush 7, 2) := by decide +kernel
theorem dX11_init_144 : decode cX11_init 144 = .ok (.iconst 1, 1) := by decide +kernel
theorem dX11_init_145 : decode cX11_init 145 = .ok (.iastore, 1) := by decide +kernel
theorem dX11_init_146 : decode cX11_init 146 = .ok (.putfield 41, 3) := by decide +kernel
theorem dX11_init_149 : decode cX11_init 149 = .ok (.aload_n 0, 1) := by decide +kernel
theorem dX11_init_150 : decode cX11_init 150 = .ok (.bipush 8, 2) := by decide +kernel
theorem dX11_init_152 : decode cX11_init 152 = .ok (.newarray .int, 2) := by decide +kernel
theorem dX11_init_154 : decode cX11_init 154 = .ok (.putfield 44, 3) := by decide +kernel
theorem dX11_init_157 : decode cX11_init 157 = .ok (.aload_n 0, 1) := by decide +kernel
theorem dX11_init_158 : decode cX11_init 158 = .ok (.bipush 8, 2) := by decide +kernel
theorem dX11_init_160 : decode cX11_init 160 = .ok (.newarray .boolean, 2) := by decide +kernel
theorem dX11_init_162 : decode cX11_init 162 = .ok (.putfield 47, 3) := by decide +kernel
theorem dX11_init_165 : decode cX11_init 165 = .ok (.aload_n 0, 1) := by decide +kernel
theorem dX11_init_166 : decode cX11_init 166 = .ok (.bipush 8, 2) := by decide +kernel
theorem dX11_init_168 : decode cX11_init 168 = .ok (.newarray .int, 2) := by decide +kernel
theorem dX11_init_170 : decode cX11_init 170 = .ok (.putfield 51, 3) := by decide +kernel
theorem dX11_init_173 : decode cX11_init 173 = .ok (.aload_n 0, 1) := by decide +kernel
theorem dX11_init_174 : decode cX11_init 174 = .ok (.bipush 8, 2) := by decide +kernel
theorem dX11_init_176 : decode cX11_init 176 = .ok (.newarray .int, 2) := by decide +kernel
theorem dX11_init_178 : decode cX11_init 178 = .ok (.putfield 54, 3) := by decide +kernel
theorem dX11_init_181 : decode cX11_init 181 = .ok (.aload_n 0, 1) := by decide +kernel
theorem dX11_init_182 : decode cX11_init 182 = .ok (.bipush 8, 2) := by decide +kernel
theorem dX11_init_184 : decode cX11_init 184 = .ok (.newarray .int, 2) := by decide +kernel
theorem dX11_init_186 : decode cX11_init 186 = .ok (.putfield 57, 3) := by decide +kernel
theorem dX11_init_189 : decode cX11_init 189 = .ok (.aload_n 0, 1) := by decide +kernel
theorem dX11_init_190 : decode cX11_init 190 = .ok (.bipush 8, 2) := by decide +kernel
theorem dX11_init_192 : decode cX11_init 192 = .ok (.newarray .int, 2) := by decide +kernel
theorem dX11_init_194 : decode cX11_init 194 = .ok (.putfield 60, 3) := by decide +kernel
theorem dX11_init_197 : decode cX11_init 197 = .ok (.aload_n 0, 1) := by decide +kernel
theorem dX11_init_198 : decode cX11_init 198 = .ok (.bipush 8, 2) := by decide +kernel
theorem dX11_init_200 : decode cX11_init 200 = .ok (.newarray .int, 2) := by decide +kernel
theorem dX11_init_202 : decode cX11_init 202 = .ok (.putfield 63, 3) := by decide +kernel
theorem dX11_init_205 : decode cX11_init 205 = .ok (.aload_n 0, 1) := by decide +kernel
theorem dX11_init_206 : decode cX11_init 206 = .ok (.bipush 8, 2) := by decide +kernel
theorem dX11_init_208 : decode cX11_init 208 = .ok (.newarray .int, 2) := by decide +kernel
theorem dX11_init_210 : decode cX11_init 210 = .ok (.putfield 66, 3) := by decide +kernel
theorem dX11_init_213 : decode cX11_init 213 = .ok (.aload_n 0, 1) := by decide +kernel
theorem dX11_init_214 : decode cX11_init 214 = .ok (.bipush 8, 2) := by decide +kernel
theorem dX11_init_216 : decode cX11_init 216 = .ok (.newarray .int, 2) := by decide +kernel
theorem dX11_init_218 : decode cX11_init 218 = .ok (.putfield 69, 3) := by decide +kernel
theorem dX11_init_221 : decode cX11_init 221 = .ok (.aload_n 0, 1) := by decide +kernel
theorem dX11_init_222 : decode cX11_init 222 = .ok (.bipush 64, 2) := by decide +kernel
theorem dX11_init_224 : decode cX11_init 224 = .ok (.newarray .int, 2) := by decide +kernel
theorem dX11_init_226 : decode cX11_init 226 = .ok (.putfield 72, 3) := by decide +kernel
theorem dX11_init_229 : decode cX11_init 229 = .ok (.aload_n 0, 1) := by decide +kernel
theorem dX11_init_230 : decode cX11_init 230 = .ok (.sipush 1000, 3) := by decide +kernel
theorem dX11_init_233 : decode cX11_init 233 = .ok (.newarray .int, 2) := by decide +kernel
theorem dX11_init_235 : decode cX11_init 235 = .ok (.putfield 75, 3) := by decide +kernel
theorem dX11_init_238 : decode cX11_init 238 = .ok (.aload_n 0, 1) := by decide +kernel
theorem dX11_init_239 : decode cX11_init 239 = .ok (.sipush 1000, 3) := by decide +kernel
theorem dX11_init_242 : decode cX11_init 242 = .ok (.newarray .int, 2) := by decide +kernel
theorem dX11_init_244 : decode cX11_init 244 = .ok (.putfield 78, 3) := by decide +kernel
theorem dX11_init_247 : decode cX11_init 247 = .ok (.aload_n 0, 1) := by decide +kernel
theorem dX11_init_248 : decode cX11_init 248 = .ok (.sipush 1000, 3) := by decide +kernel
theorem dX11_init_251 : decode cX11_init 251 = .ok (.newarray .int, 2) := by decide +kernel
theorem dX11_init_253 : decode cX11_init 253 = .ok (.putfield 81, 3) := by decide +kernel
theorem dX11_init_256 : decode cX11_init 256 = .ok (.aload_n 0, 1) := by decide +kernel
theorem dX11_init_257 : decode cX11_init 257 = .ok (.sipush 1000, 3) := by decide +kernel
theorem dX11_init_260 : decode cX11_init 260 = .ok (.newarray .int, 2) := by decide +kernel
theorem dX11_init_262 : decode cX11_init 262 = .ok (.putfield 84, 3) := by decide +kernel
theorem dX11_init_265 : decode cX11_init 265 = .ok (.aload_n 0, 1) := by decide +kernel
theorem dX11_init_266 : decode cX11_init 266 = .ok (.bipush 7, 2) := by decide +kernel
theorem dX11_init_268 : decode cX11_init 268 = .ok (.newarray .int, 2) := by decide +kernel
theorem dX11_init_270 : decode cX11_init 270 = .ok (.putfield 87, 3) := by decide +kernel
theorem dX11_init_273 : decode cX11_init 273 = .ok (.aload_n 0, 1) := by decide +kernel
theorem dX11_init_274 : decode cX11_init 274 = .ok (.bipush 8, 2) := by decide +kernel
theorem dX11_init_276 : decode cX11_init 276 = .ok (.newarray .int, 2) := by decide +kernel
theorem dX11_init_278 : decode cX11_init 278 = .ok (.putfield 90, 3) := by decide +kernel
theorem dX11_init_281 : decode cX11_init 281 = .ok (.aload_n 0, 1) := by decide +kernel
theorem dX11_init_282 : decode cX11_init 282 = .ok (.bipush 64, 2) := by decide +kernel
theorem dX11_init_284 : decode cX11_init 284 = .ok (.newarray .int, 2) := by decide +kernel
theorem dX11_init_286 : decode cX11_init 286 = .ok (.putfield 93, 3) := by decide +kernel
theorem dX11_init_289 : decode cX11_init 289 = .ok (.aload_n 0, 1) := by decide +kernel
theorem dX11_init_290 : decode cX11_init 290 = .ok (.invokevirtual 96, 3) := by decide +kernel
theorem dX11_init_293 : decode cX11_init 293 = .ok (.return_, 1) := by decide +kernel
theorem dX11_anew_0 : decode cX11_anew 0 = .ok (.aload_n 0, 1) := by decide +kernel
theorem dX11_anew_1 : decode cX11_anew 1 = .ok (.iconst 0, 1) := by decide +kernel
theorem dX11_anew_2 : decode cX11_anew 2 = .ok (.putfield 99, 3) := by decide +kernel
theorem dX11_anew_5 : decode cX11_anew 5 = .ok (.aload_n 0, 1) := by decide +kernel
theorem dX11_anew_6 : decode cX11_anew 6 = .ok (.iconst 0, 1) := by decide +kernel
theorem dX11_anew_7 : decode cX11_anew 7 = .ok (.putfield 102, 3) := by decide +kernel
theorem dX11_anew_10 : decode cX11_anew 10 = .ok (.aload_n 0, 1) := by decide +kernel
theorem dX11_anew_11 : decode cX11_anew 11 = .ok (.iconst 0, 1) := by decide +kernel
theorem dX11_anew_12 : decode cX11_anew 12 = .ok (.putfield 106, 3) := by decide +kernel
theorem dX11_anew_15 : decode cX11_anew 15 = .ok (.aload_n 0, 1) := by decide +kernel
theorem dX11_anew_16 : decode cX11_anew 16 = .ok (.iconst 0, 1) := by decide +kernel
theorem dX11_anew_17 : decode cX11_anew 17 = .ok (.putfield 109, 3) := by decide +kernel
theorem dX11_anew_20 : decode cX11_anew 20 = .ok (.aload_n 0, 1) := by decide +kernel
theorem dX11_anew_21 : decode cX11_anew 21 = .ok (.iconst 0, 1) := by decide +kernel
theorem dX11_anew_22 : decode cX11_anew 22 = .ok (.putfield 112, 3) := by decide +kernel
theorem dX11_anew_25 : decode cX11_anew 25 = .ok (.iconst 0, 1) := by decide +kernel
theorem dX11_anew_26 : decode cX11_anew 26 = .ok (.istore_n 1, 1) := by decide +kernel
theorem dX11_anew_27 : decode cX11_anew 27 = .ok (.iload_n 1, 1) := by decide +kernel
theorem dX11_anew_28 : decode cX11_anew 28 = .ok (.bipush 8, 2) := by decide +kernel
theorem dX11_anew_30 : decode cX11_anew 30 = .ok (.if_icmp .ge 30, 3) := by decide +kernel
theorem dX11_anew_33 : decode cX11_anew 33 = .ok (.aload_n 0, 1) := by decide +kernel
theorem dX11_anew_34 : decode cX11_anew 34 = .ok (.getfield 47, 3) := by decide +kernel
theorem dX11_anew_37 : decode cX11_anew 37 = .ok (.iload_n 1, 1) := by decide +kernel
theorem dX11_anew_38 : decode cX11_anew 38 = .ok (.iconst 0, 1) := by decide +kernel
theorem dX11_anew_39 : decode cX11_anew 39 = .ok (.bastore, 1) := by decide +kernel
theorem dX11_anew_40 : decode cX11_anew 40 = .ok (.aload_n 0, 1) := by decide +kernel
theorem dX11_anew_41 : decode cX11_anew 41 = .ok (.getfield 66, 3) := by decide +kernel
theorem dX11_anew_44 : decode cX11_anew 44 = .ok (.iload_n 1, 1) := by decide +kernel
theorem dX11_anew_45 : decode cX11_anew 45 = .ok (.iconst 0, 1) := by decide +kernel
theorem dX11_anew_46 : decode cX11_anew 46 = .ok (.iastore, 1) := by decide +kernel
theorem dX11_anew_47 : decode cX11_anew 47 = .ok (.aload_n 0, 1) := by decide +kernel
theorem dX11_anew_48 : decode cX11_anew 48 = .ok (.getfield 69, 3) := by decide +kernel
theorem dX11_anew_51 : decode cX11_anew 51 = .ok (.iload_n 1, 1) := by decide +kernel
theorem dX11_anew_52 : decode cX11_anew 52 = .ok (.iconst 0, 1) := by decide +kernel
theorem dX11_anew_53 : decode cX11_anew 53 = .ok (.iastore, 1) := by decide +kernel
theorem dX11_anew_54 : decode cX11_anew 54 = .ok (.iinc 1 1, 3) := by decide +kernel
theorem dX11_anew_57 : decode cX11_anew 57 = .ok (.goto (-30), 3) := by decide +kernel
theorem dX11_anew_60 : decode cX11_anew 60 = .ok (.iconst 0, 1) := by decide +kernel
theorem dX11_anew_61 : decode cX11_anew 61 = .ok (.istore_n 1, 1) := by decide +kernel
theorem dX11_anew_62 : decode cX11_anew 62 = .ok (.iload_n 1, 1) := by decide +kernel
theorem dX11_anew_63 : decode cX11_anew 63 = .ok (.bipush 64, 2) := by decide +kernel
theorem dX11_anew_65 : decode cX11_anew 65 = .ok (.if_icmp .ge 21, 3) := by decide +kernel
theorem dX11_anew_68 : decode cX11_anew 68 = .ok (.aload_n 0, 1) := by decide +kernel
theorem dX11_anew_69 : decode cX11_anew 69 = .ok (.getfield 72, 3) := by decide +kernel
theorem dX11_anew_72 : decode cX11_anew 72 = .ok (.iload_n 1, 1) := by decide +kernel
theorem dX11_anew_73 : decode cX11_anew 73 = .ok (.aload_n 0, 1) := by decide +kernel
theorem dX11_anew_74 : decode cX11_anew 74 = .ok (.getfield 38, 3) := by decide +kernel
theorem dX11_anew_77 : decode cX11_anew 77 = .ok (.iload_n 1, 1) := by decide +kernel
theorem dX11_anew_78 : decode cX11_anew 78 = .ok (.iaload, 1) := by decide +kernel
theorem dX11_anew_79 : decode cX11_anew 79 = .ok (.iastore, 1) := by decide +kernel
theorem dX11_anew_80 : decode cX11_anew 80 = .ok (.iinc 1 1, 3) := by decide +kernel
theorem dX11_anew_83 : decode cX11_anew 83 = .ok (.goto (-21), 3) := by decide +kernel
theorem dX11_anew_86 : decode cX11_anew 86 = .ok (.return_, 1) := by decide +kernel
theorem dX11_isIn_0 : decode cX11_isIn 0 = .ok (.iload_n 0, 1) := by decide +kernel
theorem dX11_isIn_1 : decode cX11_isIn 1 = .ok (.iload_n 1, 1) := by decide +kernel
theorem dX11_isIn_2 : decode cX11_isIn 2 = .ok (.if_icmp .lt 12, 3) := by decide +kernel
theorem dX11_isIn_5 : decode cX11_isIn 5 = .ok (.iload_n 0, 1) := by decide +kernel
theorem dX11_isIn_6 : decode cX11_isIn 6 = .ok (.iload_n 2, 1) := by decide +kernel
theorem dX11_isIn_7 : decode cX11_isIn 7 = .ok (.if_icmp .gt 7, 3) := by decide +kernel
theorem dX11_isIn_10 : decode cX11_isIn 10 = .ok (.iconst 1, 1) := by decide +kernel
theorem dX11_isIn_11 : decode cX11_isIn 11 = .ok (.goto 4, 3) := by decide +kernel
theorem dX11_isIn_14 : decode cX11_isIn 14 = .ok (.iconst 0, 1) := by decide +kernel
theorem dX11_isIn_15 : decode cX11_isIn 15 = .ok (.ireturn, 1) := by decide +kernel
theorem dX11_unit_0 : decode cX11_unit 0 = .ok (.iload_n 1, 1) := by decide +kernel
theorem dX11_unit_1 : decode cX11_unit 1 = .ok (.bipush 32, 2) := by decide +kernel
theorem dX11_unit_3 : decode cX11_unit 3 = .ok (.bipush 126, 2) := by decide +kernel
theorem dX11_unit_5 : decode cX11_unit 5 = .ok (.invokestatic 115, 3) := by decide +kernel
theorem dX11_unit_8 : decode cX11_unit 8 = .ok (.ifCond .eq 12, 3) := by decide +kernel
theorem dX11_unit_11 : decode cX11_unit 11 = .ok (.aload_n 0, 1) := by decide +kernel
theorem dX11_unit_12 : decode cX11_unit 12 = .ok (.getfield 119, 3) := by decide +kernel
theorem dX11_unit_15 : decode cX11_unit 15 = .ok (.bipush 30, 2) := by decide +kernel
theorem dX11_unit_17 : decode cX11_unit 17 = .ok (.if_icmp .ne 5, 3) := by decide +kernel
theorem dX11_unit_20 : decode cX11_unit 20 = .ok (.iconst 0, 1) := by decide +kernel
theorem dX11_unit_21 : decode cX11_unit 21 = .ok (.ireturn, 1) := by decide +kernel
theorem dX11_unit_22 : decode cX11_unit 22 = .ok (.aload_n 0, 1) := by decide +kernel
theorem dX11_unit_23 : decode cX11_unit 23 = .ok (.getfield 7, 3) := by decide +kernel
theorem dX11_unit_26 : decode cX11_unit 26 = .ok (.aload_n 0, 1) := by decide +kernel
theorem dX11_unit_27 : decode cX11_unit 27 = .ok (.getfield 119, 3) := by decide +kernel
theorem dX11_unit_30 : decode cX11_unit 30 = .ok (.iload_n 1, 1) := by decide +kernel
theorem dX11_unit_31 : decode cX11_unit 31 = .ok (.iastore, 1) := by decide +kernel
theorem dX11_unit_32 : decode cX11_unit 32 = .ok (.aload_n 0, 1) := by decide +kernel
theorem dX11_unit_33 : decode cX11_unit 33 = .ok (.dup, 1) := by decide +kernel
theorem dX11_unit_34 : decode cX11_unit 34 = .ok (.getfield 119, 3) := by decide +kernel
theorem dX11_unit_37 : decode cX11_unit 37 = .ok (.iconst 1, 1) := by decide +kernel
theorem dX11_unit_38 : decode cX11_unit 38 = .ok (.iadd, 1) := by decide +kernel
theorem dX11_unit_39 : decode cX11_unit 39 = .ok (.putfield 119, 3) := by decide +kernel
theorem dX11_unit_42 : decode cX11_unit 42 = .ok (.iconst 1, 1) := by decide +kernel
theorem dX11_unit_43 : decode cX11_unit 43 = .ok (.ireturn, 1) := by decide +kernel
theorem dX11_actionOf_0 : decode cX11_actionOf 0 = .ok (.iload_n 0, 1) := by decide +kernel
theorem dX11_actionOf_1 : decode cX11_actionOf 1 = .ok (.tableswitch 126 97 120 #[121, 126, 126, 126, 126, 111, 126, 126, 126, 126, 126, 126, 126, 126, 126, 126, 119, 113, 126, 126, 126, 117, 123, 115], 111) := by decide +kernel
theorem dX11_actionOf_112 : decode cX11_actionOf 112 = .ok (.iconst 0, 1) := by decide +kernel
theorem dX11_actionOf_113 : decode cX11_actionOf 113 = .ok (.ireturn, 1) := by decide +kernel
theorem dX11_actionOf_114 : decode cX11_actionOf 114 = .ok (.iconst 1, 1) := by decide +kernel
theorem dX11_actionOf_115 : decode cX11_actionOf 115 = .ok (.ireturn, 1) := by decide +kernel
theorem dX11_actionOf_116 : decode cX11_actionOf 116 = .ok (.iconst 2, 1) := by decide +kernel
theorem dX11_actionOf_117 : decode cX11_actionOf 117 = .ok (.ireturn, 1) := by decide +kernel
theorem dX11_actionOf_118 : decode cX11_actionOf 118 = .ok (.iconst 3, 1) := by decide +kernel
theorem dX11_actionOf_119 : decode cX11_actionOf 119 = .ok (.ireturn, 1) := by decide +kernel
theorem dX11_actionOf_120 : decode cX11_actionOf 120 = .ok (.iconst 4, 1) := by decide +kernel
theorem dX11_actionOf_121 : decode cX11_actionOf 121 = .ok (.ireturn, 1) := by decide +kernel
theorem dX11_actionOf_122 : decode cX11_actionOf 122 = .ok (.iconst 5, 1) := by decide +kernel
theorem dX11_actionOf_123 : decode cX11_actionOf 123 = .ok (.ireturn, 1) := by decide +kernel
theorem dX11_actionOf_124 : decode cX11_actionOf 124 = .ok (.bipush 6, 2) := by decide +kernel
theorem dX11_actionOf_126 : decode cX11_actionOf 126 = .ok (.ireturn, 1) := by decide +kernel
theorem dX11_actionOf_127 : decode cX11_actionOf 127 = .ok (.iconst (-1), 1) := by decide +kernel
theorem dX11_actionOf_128 : decode cX11_actionOf 128 = .ok (.ireturn, 1) := by decide +kernel
theorem dX11_line_0 : decode cX11_line 0 = .ok (.iconst 0, 1) := by decide +kernel
theorem dX11_line_1 : decode cX11_line 1 = .ok (.istore_n 1, 1) := by decide +kernel
theorem dX11_line_2 : decode cX11_line 2 = .ok (.iconst 0, 1) := by decide +kernel
theorem dX11_line_3 : decode cX11_line 3 = .ok (.istore_n 2, 1) := by decide +kernel
theorem dX11_line_4 : decode cX11_line 4 = .ok (.iconst 0, 1) := by decide +kernel
theorem dX11_line_5 : decode cX11_line 5 = .ok (.istore_n 3, 1) := by decide +kernel
theorem dX11_line_6 : decode cX11_line 6 = .ok (.iconst (-1), 1) := by decide +kernel
theorem dX11_line_7 : decode cX11_line 7 = .ok (.istore 4, 2) := by decide +kernel
theorem dX11_line_9 : decode cX11_line 9 = .ok (.iconst (-1), 1) := by decide +kernel
theorem dX11_line_10 : decode cX11_line 10 = .ok (.istore 5, 2) := by decide +kernel
theorem dX11_line_12 : decode cX11_line 12 = .ok (.iconst 0, 1) := by decide +kernel
theorem dX11_line_13 : decode cX11_line 13 = .ok (.istore 6, 2) := by decide +kernel
theorem dX11_line_15 : decode cX11_line 15 = .ok (.iload 6, 2) := by decide +kernel
theorem dX11_line_17 : decode cX11_line 17 = .ok (.aload_n 0, 1) := by decide +kernel
theorem dX11_line_18 : decode cX11_line 18 = .ok (.getfield 119, 3) := by decide +kernel
theorem dX11_line_21 : decode cX11_line 21 = .ok (.if_icmp .ge 142, 3) := by decide +kernel
theorem dX11_line_24 : decode cX11_line 24 = .ok (.iload 5, 2) := by decide +kernel
theorem dX11_line_26 : decode cX11_line 26 = .ok (.ifCond .ge 137, 3) := by decide +kernel
theorem dX11_line_29 : decode cX11_line 29 = .ok (.aload_n 0, 1) := by decide +kernel
theorem dX11_line_30 : decode cX11_line 30 = .ok (.getfield 7, 3) := by decide +kernel
theorem dX11_line_33 : decode cX11_line 33 = .ok (.iload 6, 2) := by decide +kernel
theorem dX11_line_35 : decode cX11_line 35 = .ok (.iaload, 1) := by decide +kernel
theorem dX11_line_36 : decode cX11_line 36 = .ok (.invokestatic 122, 3) := by decide +kernel
theorem dX11_line_39 : decode cX11_line 39 = .ok (.istore 7, 2) := by decide +kernel
theorem dX11_line_41 : decode cX11_line 41 = .ok (.aload_n 0, 1) := by decide +kernel
theorem dX11_line_42 : decode cX11_line 42 = .ok (.getfield 7, 3) := by decide +kernel
theorem dX11_line_45 : decode cX11_line 45 = .ok (.iload 6, 2) := by decide +kernel
theorem dX11_line_47 : decode cX11_line 47 = .ok (.iaload, 1) := by decide +kernel
theorem dX11_line_48 : decode cX11_line 48 = .ok (.bipush 47, 2) := by decide +kernel
theorem dX11_line_50 : decode cX11_line 50 = .ok (.if_icmp .ne 21, 3) := by decide +kernel
theorem dX11_line_53 : decode cX11_line 53 = .ok (.iload_n 3, 1) := by decide +kernel
theorem dX11_line_54 : decode cX11_line 54 = .ok (.ifCond .le 17, 3) := by decide +kernel
theorem dX11_line_57 : decode cX11_line 57 = .ok (.iload_n 1, 1) := by decide +kernel
theorem dX11_line_58 : decode cX11_line 58 = .ok (.bipush 7, 2) := by decide +kernel
theorem dX11_line_60 : decode cX11_line 60 = .ok (.if_icmp .ge 11, 3) := by decide +kernel
theorem dX11_line_63 : decode cX11_line 63 = .ok (.iinc 1 1, 3) := by decide +kernel
theorem dX11_line_66 : decode cX11_line 66 = .ok (.iconst 0, 1) := by decide +kernel
theorem dX11_line_67 : decode cX11_line 67 = .ok (.istore_n 3, 1) := by decide +kernel
theorem dX11_line_68 : decode cX11_line 68 = .ok (.goto 89, 3) := by decide +kernel
theorem dX11_line_71 : decode cX11_line 71 = .ok (.aload_n 0, 1) := by decide +kernel
theorem dX11_line_72 : decode cX11_line 72 = .ok (.getfield 7, 3) := by decide +kernel
theorem dX11_line_75 : decode cX11_line 75 = .ok (.iload 6, 2) := by decide +kernel
theorem dX11_line_77 : decode cX11_line 77 = .ok (.iaload, 1) := by decide +kernel
theorem dX11_line_78 : decode cX11_line 78 = .ok (.bipush 121, 2) := by decide +kernel
theorem dX11_line_80 : decode cX11_line 80 = .ok (.if_icmp .ne 29, 3) := by decide +kernel
theorem dX11_line_83 : decode cX11_line 83 = .ok (.iload 4, 2) := by decide +kernel
theorem dX11_line_85 : decode cX11_line 85 = .ok (.iconst (-1), 1) := by decide +kernel
theorem dX11_line_86 : decode cX11_line 86 = .ok (.if_icmp .ne 23, 3) := by decide +kernel
theorem dX11_line_89 : decode cX11_line 89 = .ok (.iload_n 2, 1) := by decide +kernel
theorem dX11_line_90 : decode cX11_line 90 = .ok (.iconst 2, 1) := by decide +kernel
theorem dX11_line_91 : decode cX11_line 91 = .ok (.if_icmp .le 18, 3) := by decide +kernel
theorem dX11_line_94 : decode cX11_line 94 = .ok (.iload_n 2, 1) := by decide +kernel
theorem dX11_line_95 : decode cX11_line 95 = .ok (.bipush 7, 2) := by decide +kernel
theorem dX11_line_97 : decode cX11_line 97 = .ok (.if_icmp .ge 12, 3) := by decide +kernel
theorem dX11_line_100 : decode cX11_line 100 = .ok (.iload_n 1, 1) := by decide +kernel
theorem dX11_line_101 : decode cX11_line 101 = .ok (.istore 4, 2) := by decide +kernel
theorem dX11_line_103 : decode cX11_line 103 = .ok (.iinc 3 1, 3) := by decide +kernel
theorem dX11_line_106 : decode cX11_line 106 = .ok (.goto 51, 3) := by decide +kernel
theorem dX11_line_109 : decode cX11_line 109 = .ok (.iload 7, 2) := by decide +kernel
theorem dX11_line_111 : decode cX11_line 111 = .ok (.ifCond .lt 42, 3) := by decide +kernel
theorem dX11_line_114 : decode cX11_line 114 = .ok (.iload 7, 2) := by decide +kernel
theorem dX11_line_116 : decode cX11_line 116 = .ok (.iload_n 2, 1) := by decide +kernel
theorem dX11_line_117 : decode cX11_line 117 = .ok (.if_icmp .ne 36, 3) := by decide +kernel
theorem dX11_line_120 : decode cX11_line 120 = .ok (.iload 7, 2) := by decide +kernel
theorem dX11_line_122 : decode cX11_line 122 = .ok (.iconst 5, 1) := by decide +kernel
theorem dX11_line_123 : decode cX11_line 123 = .ok (.if_icmp .ne 13, 3) := by decide +kernel
theorem dX11_line_126 : decode cX11_line 126 = .ok (.iload_n 1, 1) := by decide +kernel
theorem dX11_line_127 : decode cX11_line 127 = .ok (.aload_n 0, 1) := by decide +kernel
theorem dX11_line_128 : decode cX11_line 128 = .ok (.getfield 87, 3) := by decide +kernel
theorem dX11_line_131 : decode cX11_line 131 = .ok (.iconst 4, 1) := by decide +kernel
theorem dX11_line_132 : decode cX11_line 132 = .ok (.iaload, 1) := by decide +kernel
theorem dX11_line_133 : decode cX11_line 133 = .ok (.if_icmp .le 20, 3) := by decide +kernel
theorem dX11_line_136 : decode cX11_line 136 = .ok (.aload_n 0, 1) := by decide +kernel
theorem dX11_line_137 : decode cX11_line 137 = .ok (.getfield 87, 3) := by decide +kernel
theorem dX11_line_140 : decode cX11_line 140 = .ok (.iload 7, 2) := by decide +kernel
theorem dX11_line_142 : decode cX11_line 142 = .ok (.iload_n 1, 1) := by decide +kernel
theorem dX11_line_143 : decode cX11_line 143 = .ok (.iastore, 1) := by decide +kernel
theorem dX11_line_144 : decode cX11_line 144 = .ok (.iinc 2 1, 3) := by decide +kernel
theorem dX11_line_147 : decode cX11_line 147 = .ok (.iinc 3 1, 3) := by decide +kernel
theorem dX11_line_150 : decode cX11_line 150 = .ok (.goto 7, 3) := by decide +kernel
theorem dX11_line_153 : decode cX11_line 153 = .ok (.iload 6, 2) := by decide +kernel
theorem dX11_line_155 : decode cX11_line 155 = .ok (.istore 5, 2) := by decide +kernel
theorem dX11_line_157 : decode cX11_line 157 = .ok (.iinc 6 1, 3) := by decide +kernel
theorem dX11_line_160 : decode cX11_line 160 = .ok (.goto (-145), 3) := by decide +kernel
theorem dX11_line_163 : decode cX11_line 163 = .ok (.iload 5, 2) := by decide +kernel
theorem dX11_line_165 : decode cX11_line 165 = .ok (.ifCond .ge 20, 3) := by decide +kernel
theorem dX11_line_168 : decode cX11_line 168 = .ok (.iload_n 2, 1) := by decide +kernel
theorem dX11_line_169 : decode cX11_line 169 = .ok (.bipush 7, 2) := by decide +kernel
theorem dX11_line_171 : decode cX11_line 171 = .ok (.if_icmp .lt 7, 3) := by decide +kernel
theorem dX11_line_174 : decode cX11_line 174 = .ok (.iload_n 3, 1) := by decide +kernel
theorem dX11_line_175 : decode cX11_line 175 = .ok (.ifCond .ne 10, 3) := by decide +kernel
theorem dX11_line_178 : decode cX11_line 178 = .ok (.aload_n 0, 1) := by decide +kernel
theorem dX11_line_179 : decode cX11_line 179 = .ok (.getfield 119, 3) := by decide +kernel
theorem dX11_line_182 : decode cX11_line 182 = .ok (.goto 5, 3) := by decide +kernel
theorem dX11_line_185 : decode cX11_line 185 = .ok (.iload 5, 2) := by decide +kernel
theorem dX11_line_187 : decode cX11_line 187 = .ok (.istore 5, 2) := by decide +kernel
theorem dX11_line_189 : decode cX11_line 189 = .ok (.aload_n 0, 1) := by decide +kernel
theorem dX11_line_190 : decode cX11_line 190 = .ok (.iconst 0, 1) := by decide +kernel
theorem dX11_line_191 : decode cX11_line 191 = .ok (.putfield 119, 3) := by decide +kernel
theorem dX11_line_194 : decode cX11_line 194 = .ok (.iload 5, 2) := by decide +kernel
theorem dX11_line_196 : decode cX11_line 196 = .ok (.ifCond .lt 8, 3) := by decide +kernel
theorem dX11_line_199 : decode cX11_line 199 = .ok (.iconst (-1), 1) := by decide +kernel
theorem dX11_line_200 : decode cX11_line 200 = .ok (.iload 5, 2) := by decide +kernel
theorem dX11_line_202 : decode cX11_line 202 = .ok (.isub, 1) := by decide +kernel
theorem dX11_line_203 : decode cX11_line 203 = .ok (.ireturn, 1) := by decide +kernel
theorem dX11_line_204 : decode cX11_line 204 = .ok (.iconst 0, 1) := by decide +kernel
theorem dX11_line_205 : decode cX11_line 205 = .ok (.istore 6, 2) := by decide +kernel
theorem dX11_line_207 : decode cX11_line 207 = .ok (.iload 6, 2) := by decide +kernel
theorem dX11_line_209 : decode cX11_line 209 = .ok (.bipush 7, 2) := by decide +kernel
theorem dX11_line_211 : decode cX11_line 211 = .ok (.if_icmp .ge 23, 3) := by decide +kernel
theorem dX11_line_214 : decode cX11_line 214 = .ok (.aload_n 0, 1) := by decide +kernel
theorem dX11_line_215 : decode cX11_line 215 = .ok (.getfield 17, 3) := by decide +kernel
theorem dX11_line_218 : decode cX11_line 218 = .ok (.iload 6, 2) := by decide +kernel
theorem dX11_line_220 : decode cX11_line 220 = .ok (.aload_n 0, 1) := by decide +kernel
theorem dX11_line_221 : decode cX11_line 221 = .ok (.getfield 87, 3) := by decide +kernel
theorem dX11_line_224 : decode cX11_line 224 = .ok (.iload 6, 2) := by decide +kernel
theorem dX11_line_226 : decode cX11_line 226 = .ok (.iaload, 1) := by decide +kernel
theorem dX11_line_227 : decode cX11_line 227 = .ok (.iastore, 1) := by decide +kernel
theorem dX11_line_228 : decode cX11_line 228 = .ok (.iinc 6 1, 3) := by decide +kernel
theorem dX11_line_231 : decode cX11_line 231 = .ok (.goto (-24), 3) := by decide +kernel
theorem dX11_line_234 : decode cX11_line 234 = .ok (.aload_n 0, 1) := by decide +kernel
theorem dX11_line_235 : decode cX11_line 235 = .ok (.iload 4, 2) := by decide +kernel
theorem dX11_line_237 : decode cX11_line 237 = .ok (.putfield 20, 3) := by decide +kernel
theorem dX11_line_240 : decode cX11_line 240 = .ok (.aload_n 0, 1) := by decide +kernel
theorem dX11_line_241 : decode cX11_line 241 = .ok (.iload_n 1, 1) := by decide +kernel
theorem dX11_line_242 : decode cX11_line 242 = .ok (.iconst 1, 1) := by decide +kernel
theorem dX11_line_243 : decode cX11_line 243 = .ok (.iadd, 1) := by decide +kernel
theorem dX11_line_244 : decode cX11_line 244 = .ok (.putfield 13, 3) := by decide +kernel
theorem dX11_line_247 : decode cX11_line 247 = .ok (.aload_n 0, 1) := by decide +kernel
theorem dX11_line_248 : decode cX11_line 248 = .ok (.invokevirtual 96, 3) := by decide +kernel
theorem dX11_line_251 : decode cX11_line 251 = .ok (.aload_n 0, 1) := by decide +kernel
theorem dX11_line_252 : decode cX11_line 252 = .ok (.getfield 13, 3) := by decide +kernel
theorem dX11_line_255 : decode cX11_line 255 = .ok (.ireturn, 1) := by decide +kernel
theorem dX11_code_0 : decode cX11_code 0 = .ok (.iload_n 1, 1) := by decide +kernel
theorem dX11_code_1 : decode cX11_code 1 = .ok (.iconst 0, 1) := by decide +kernel
theorem dX11_code_2 : decode cX11_code 2 = .ok (.bipush 9, 2) := by decide +kernel
theorem dX11_code_4 : decode cX11_code 4 = .ok (.invokestatic 115, 3) := by decide +kernel
theorem dX11_code_7 : decode cX11_code 7 = .ok (.ifCond .eq 43, 3) := by decide +kernel
theorem dX11_code_10 : decode cX11_code 10 = .ok (.iload_n 2, 1) := by decide +kernel
theorem dX11_code_11 : decode cX11_code 11 = .ok (.iconst 0, 1) := by decide +kernel
theorem dX11_code_12 : decode cX11_code 12 = .ok (.bipush 7, 2) := by decide +kernel
theorem dX11_code_14 : decode cX11_code 14 = .ok (.invokestatic 115, 3) := by decide +kernel
theorem dX11_code_17 : decode cX11_code 17 = .ok (.ifCond .eq 33, 3) := by decide +kernel
theorem dX11_code_20 : decode cX11_code 20 = .ok (.iload_n 3, 1) := by decide +kernel
theorem dX11_code_21 : decode cX11_code 21 = .ok (.iconst 0, 1) := by decide +kernel
theorem dX11_code_22 : decode cX11_code 22 = .ok (.bipush 7, 2) := by decide +kernel
theorem dX11_code_24 : decode cX11_code 24 = .ok (.invokestatic 115, 3) := by decide +kernel
theorem dX11_code_27 : decode cX11_code 27 = .ok (.ifCond .eq 23, 3) := by decide +kernel
theorem dX11_code_30 : decode cX11_code 30 = .ok (.iload 4, 2) := by decide +kernel
theorem dX11_code_32 : decode cX11_code 32 = .ok (.iconst 0, 1) := by decide +kernel
theorem dX11_code_33 : decode cX11_code 33 = .ok (.bipush 7, 2) := by decide +kernel
theorem dX11_code_35 : decode cX11_code 35 = .ok (.invokestatic 115, 3) := by decide +kernel
theorem dX11_code_38 : decode cX11_code 38 = .ok (.ifCond .eq 12, 3) := by decide +kernel
theorem dX11_code_41 : decode cX11_code 41 = .ok (.aload_n 0, 1) := by decide +kernel
theorem dX11_code_42 : decode cX11_code 42 = .ok (.getfield 126, 3) := by decide +kernel
theorem dX11_code_45 : decode cX11_code 45 = .ok (.bipush 40, 2) := by decide +kernel
theorem dX11_code_47 : decode cX11_code 47 = .ok (.if_icmp .ne 5, 3) := by decide +kernel
theorem dX11_code_50 : decode cX11_code 50 = .ok (.iconst (-1), 1) := by decide +kernel
theorem dX11_code_51 : decode cX11_code 51 = .ok (.ireturn, 1) := by decide +kernel
theorem dX11_code_52 : decode cX11_code 52 = .ok (.aload_n 0, 1) := by decide +kernel
theorem dX11_code_53 : decode cX11_code 53 = .ok (.getfield 23, 3) := by decide +kernel
theorem dX11_code_56 : decode cX11_code 56 = .ok (.aload_n 0, 1) := by decide +kernel
theorem dX11_code_57 : decode cX11_code 57 = .ok (.getfield 126, 3) := by decide +kernel
theorem dX11_code_60 : decode cX11_code 60 = .ok (.iload_n 1, 1) := by decide +kernel
theorem dX11_code_61 : decode cX11_code 61 = .ok (.iastore, 1) := by decide +kernel
theorem dX11_code_62 : decode cX11_code 62 = .ok (.aload_n 0, 1) := by decide +kernel
theorem dX11_code_63 : decode cX11_code 63 = .ok (.getfield 26, 3) := by decide +kernel
theorem dX11_code_66 : decode cX11_code 66 = .ok (.aload_n 0, 1) := by decide +kernel
theorem dX11_code_67 : decode cX11_code 67 = .ok (.getfield 126, 3) := by decide +kernel
theorem dX11_code_70 : decode cX11_code 70 = .ok (.iload_n 2, 1) := by decide +kernel
theorem dX11_code_71 : decode cX11_code 71 = .ok (.iastore, 1) := by decide +kernel
theorem dX11_code_72 : decode cX11_code 72 = .ok (.aload_n 0, 1) := by decide +kernel
theorem dX11_code_73 : decode cX11_code 73 = .ok (.getfield 29, 3) := by decide +kernel
theorem dX11_code_76 : decode cX11_code 76 = .ok (.aload_n 0, 1) := by decide +kernel
theorem dX11_code_77 : decode cX11_code 77 = .ok (.getfield 126, 3) := by decide +kernel
theorem dX11_code_80 : decode cX11_code 80 = .ok (.iload_n 3, 1) := by decide +kernel
theorem dX11_code_81 : decode cX11_code 81 = .ok (.iastore, 1) := by decide +kernel
theorem dX11_code_82 : decode cX11_code 82 = .ok (.aload_n 0, 1) := by decide +kernel
theorem dX11_code_83 : decode cX11_code 83 = .ok (.getfield 32, 3) := by decide +kernel
theorem dX11_code_86 : decode cX11_code 86 = .ok (.aload_n 0, 1) := by decide +kernel
theorem dX11_code_87 : decode cX11_code 87 = .ok (.getfield 126, 3) := by decide +kernel
theorem dX11_code_90 : decode cX11_code 90 = .ok (.iload 4, 2) := by decide +kernel
theorem dX11_code_92 : decode cX11_code 92 = .ok (.iastore, 1) := by decide +kernel
theorem dX11_code_93 : decode cX11_code 93 = .ok (.aload_n 0, 1) := by decide +kernel
theorem dX11_code_94 : decode cX11_code 94 = .ok (.getfield 35, 3) := by decide +kernel
theorem dX11_code_97 : decode cX11_code 97 = .ok (.aload_n 0, 1) := by decide +kernel
theorem dX11_code_98 : decode cX11_code 98 = .ok (.getfield 126, 3) := by decide +kernel
theorem dX11_code_101 : decode cX11_code 101 = .ok (.iload 5, 2) := by decide +kernel
theorem dX11_code_103 : decode cX11_code 103 = .ok (.iastore, 1) := by decide +kernel
theorem dX11_code_104 : decode cX11_code 104 = .ok (.aload_n 0, 1) := by decide +kernel
theorem dX11_code_105 : decode cX11_code 105 = .ok (.dup, 1) := by decide +kernel
theorem dX11_code_106 : decode cX11_code 106 = .ok (.getfield 126, 3) := by decide +kernel
theorem dX11_code_109 : decode cX11_code 109 = .ok (.iconst 1, 1) := by decide +kernel
theorem dX11_code_110 : decode cX11_code 110 = .ok (.iadd, 1) := by decide +kernel
theorem dX11_code_111 : decode cX11_code 111 = .ok (.putfield 126, 3) := by decide +kernel
theorem dX11_code_114 : decode cX11_code 114 = .ok (.aload_n 0, 1) := by decide +kernel
theorem dX11_code_115 : decode cX11_code 115 = .ok (.invokevirtual 96, 3) := by decide +kernel
theorem dX11_code_118 : decode cX11_code 118 = .ok (.aload_n 0, 1) := by decide +kernel
theorem dX11_code_119 : decode cX11_code 119 = .ok (.getfield 126, 3) := by decide +kernel
theorem dX11_code_122 : decode cX11_code 122 = .ok (.iconst 1, 1) := by decide +kernel
theorem dX11_code_123 : decode cX11_code 123 = .ok (.isub, 1) := by decide +kernel
theorem dX11_code_124 : decode cX11_code 124 = .ok (.ireturn, 1) := by decide +kernel
theorem dX11_memory_0 : decode cX11_memory 0 = .ok (.iload_n 1, 1) := by decide +kernel
theorem dX11_memory_1 : decode cX11_memory 1 = .ok (.iconst 0, 1) := by decide +kernel
theorem dX11_memory_2 : decode cX11_memory 2 = .ok (.bipush 63, 2) := by decide +kernel
theorem dX11_memory_4 : decode cX11_memory 4 = .ok (.invokestatic 115, 3) := by decide +kernel
theorem dX11_memory_7 : decode cX11_memory 7 = .ok (.ifCond .ne 5, 3) := by decide +kernel
theorem dX11_memory_10 : decode cX11_memory 10 = .ok (.iconst 0, 1) := by decide +kernel
theorem dX11_memory_11 : decode cX11_memory 11 = .ok (.ireturn, 1) := by decide +kernel
theorem dX11_memory_12 : decode cX11_memory 12 = .ok (.aload_n 0, 1) := by decide +kernel
theorem dX11_memory_13 : decode cX11_memory 13 = .ok (.getfield 38, 3) := by decide +kernel
theorem dX11_memory_16 : decode cX11_memory 16 = .ok (.iload_n 1, 1) := by decide +kernel
theorem dX11_memory_17 : decode cX11_memory 17 = .ok (.iload_n 2, 1) := by decide +kernel
theorem dX11_memory_18 : decode cX11_memory 18 = .ok (.iastore, 1) := by decide +kernel
theorem dX11_memory_19 : decode cX11_memory 19 = .ok (.aload_n 0, 1) := by decide +kernel
theorem dX11_memory_20 : decode cX11_memory 20 = .ok (.invokevirtual 96, 3) := by decide +kernel
theorem dX11_memory_23 : decode cX11_memory 23 = .ok (.iconst 1, 1) := by decide +kernel
theorem dX11_memory_24 : decode cX11_memory 24 = .ok (.ireturn, 1) := by decide +kernel
theorem dX11_latency_0 : decode cX11_latency 0 = .ok (.iload_n 1, 1) := by decide +kernel
theorem dX11_latency_1 : decode cX11_latency 1 = .ok (.iconst 0, 1) := by decide +kernel
theorem dX11_latency_2 : decode cX11_latency 2 = .ok (.bipush 7, 2) := by decide +kernel
theorem dX11_latency_4 : decode cX11_latency 4 = .ok (.invokestatic 115, 3) := by decide +kernel
theorem dX11_latency_7 : decode cX11_latency 7 = .ok (.ifCond .eq 13, 3) := by decide +kernel
theorem dX11_latency_10 : decode cX11_latency 10 = .ok (.iload_n 2, 1) := by decide +kernel
theorem dX11_latency_11 : decode cX11_latency 11 = .ok (.iconst 1, 1) := by decide +kernel
theorem dX11_latency_12 : decode cX11_latency 12 = .ok (.bipush 16, 2) := by decide +kernel
theorem dX11_latency_14 : decode cX11_latency 14 = .ok (.invokestatic 115, 3) := by decide +kernel
theorem dX11_latency_17 : decode cX11_latency 17 = .ok (.ifCond .ne 5, 3) := by decide +kernel
theorem dX11_latency_20 : decode cX11_latency 20 = .ok (.iconst 0, 1) := by decide +kernel
theorem dX11_latency_21 : decode cX11_latency 21 = .ok (.ireturn, 1) := by decide +kernel
theorem dX11_latency_22 : decode cX11_latency 22 = .ok (.aload_n 0, 1) := by decide +kernel
theorem dX11_latency_23 : decode cX11_latency 23 = .ok (.getfield 41, 3) := by decide +kernel
theorem dX11_latency_26 : decode cX11_latency 26 = .ok (.iload_n 1, 1) := by decide +kernel
theorem dX11_latency_27 : decode cX11_latency 27 = .ok (.iload_n 2, 1) := by decide +kernel
theorem dX11_latency_28 : decode cX11_latency 28 = .ok (.iastore, 1) := by decide +kernel
theorem dX11_latency_29 : decode cX11_latency 29 = .ok (.aload_n 0, 1) := by decide +kernel
theorem dX11_latency_30 : decode cX11_latency 30 = .ok (.invokevirtual 96, 3) := by decide +kernel
theorem dX11_latency_33 : decode cX11_latency 33 = .ok (.iconst 1, 1) := by decide +kernel
theorem dX11_latency_34 : decode cX11_latency 34 = .ok (.ireturn, 1) := by decide +kernel
theorem dX11_kindOf_0 : decode cX11_kindOf 0 = .ok (.iload_n 1, 1) := by decide +kernel
theorem dX11_kindOf_1 : decode cX11_kindOf 1 = .ok (.iconst 0, 1) := by decide +kernel
theorem dX11_kindOf_2 : decode cX11_kindOf 2 = .ok (.aload_n 0, 1) := by decide +kernel
theorem dX11_kindOf_3 : decode cX11_kindOf 3 = .ok (.getfield 126, 3) := by decide +kernel
theorem dX11_kindOf_6 : decode cX11_kindOf 6 = .ok (.iconst 1, 1) := by decide +kernel
theorem dX11_kindOf_7 : decode cX11_kindOf 7 = .ok (.isub, 1) := by decide +kernel
theorem dX11_kindOf_8 : decode cX11_kindOf 8 = .ok (.invokestatic 115, 3) := by decide +kernel
theorem dX11_kindOf_11 : decode cX11_kindOf 11 = .ok (.ifCond .eq 12, 3) := by decide +kernel
theorem dX11_kindOf_14 : decode cX11_kindOf 14 = .ok (.aload_n 0, 1) := by decide +kernel
theorem dX11_kindOf_15 : decode cX11_kindOf 15 = .ok (.getfield 23, 3) := by decide +kernel
theorem dX11_kindOf_18 : decode cX11_kindOf 18 = .ok (.iload_n 1, 1) := by decide +kernel
theorem dX11_kindOf_19 : decode cX11_kindOf 19 = .ok (.iaload, 1) := by decide +kernel
theorem dX11_kindOf_20 : decode cX11_kindOf 20 = .ok (.goto 4, 3) := by decide +kernel
theorem dX11_kindOf_23 : decode cX11_kindOf 23 = .ok (.iconst 0, 1) := by decide +kernel
theorem dX11_kindOf_24 : decode cX11_kindOf 24 = .ok (.ireturn, 1) := by decide +kernel
theorem dX11_commitsRegister_0 : decode cX11_commitsRegister 0 = .ok (.aload_n 0, 1) := by decide +kernel
theorem dX11_commitsRegister_1 : decode cX11_commitsRegister 1 = .ok (.iload_n 1, 1) := by decide +kernel
theorem dX11_commitsRegister_2 : decode cX11_commitsRegister 2 = .ok (.invokevirtual 129, 3) := by decide +kernel
theorem dX11_commitsRegister_5 : decode cX11_commitsRegister 5 = .ok (.iconst 1, 1) := by decide +kernel
theorem dX11_commitsRegister_6 : decode cX11_commitsRegister 6 = .ok (.iconst 5, 1) := by decide +kernel
theorem dX11_commitsRegister_7 : decode cX11_commitsRegister 7 = .ok (.invokestatic 115, 3) := by decide +kernel
theorem dX11_commitsRegister_10 : decode cX11_commitsRegister 10 = .ok (.ifCond .eq 17, 3) := by decide +kernel
theorem dX11_commitsRegister_13 : decode cX11_commitsRegister 13 = .ok (.aload_n 0, 1) := by decide +kernel
theorem dX11_commitsRegister_14 : decode cX11_commitsRegister 14 = .ok (.getfield 26, 3) := by decide +kernel
theorem dX11_commitsRegister_17 : decode cX11_commitsRegister 17 = .ok (.iload_n 1, 1) := by decide +kernel
theorem dX11_commitsRegister_18 : decode cX11_commitsRegister 18 = .ok (.iaload, 1) := by decide +kernel
theorem dX11_commitsRegister_19 : decode cX11_commitsRegister 19 = .ok (.iload_n 2, 1) := by decide +kernel
theorem dX11_commitsRegister_20 : decode cX11_commitsRegister 20 = .ok (.if_icmp .ne 7, 3) := by decide +kernel
theorem dX11_commitsRegister_23 : decode cX11_commitsRegister 23 = .ok (.iconst 1, 1) := by decide +kernel
theorem dX11_commitsRegister_24 : decode cX11_commitsRegister 24 = .ok (.goto 4, 3) := by decide +kernel
theorem dX11_commitsRegister_27 : decode cX11_commitsRegister 27 = .ok (.iconst 0, 1) := by decide +kernel
theorem dX11_commitsRegister_28 : decode cX11_commitsRegister 28 = .ok (.ireturn, 1) := by decide +kernel
theorem dX11_giver_0 : decode cX11_giver 0 = .ok (.iload_n 1, 1) := by decide +kernel
theorem dX11_giver_1 : decode cX11_giver 1 = .ok (.iconst 1, 1) := by decide +kernel
theorem dX11_giver_2 : decode cX11_giver 2 = .ok (.iadd, 1) := by decide +kernel
theorem dX11_giver_3 : decode cX11_giver 3 = .ok (.istore_n 3, 1) := by decide +kernel
theorem dX11_giver_4 : decode cX11_giver 4 = .ok (.iload_n 3, 1) := by decide +kernel
theorem dX11_giver_5 : decode cX11_giver 5 = .ok (.aload_n 0, 1) := by decide +kernel
theorem dX11_giver_6 : decode cX11_giver 6 = .ok (.getfield 13, 3) := by decide +kernel
theorem dX11_giver_9 : decode cX11_giver 9 = .ok (.if_icmp .ge 34, 3) := by decide +kernel
theorem dX11_giver_12 : decode cX11_giver 12 = .ok (.aload_n 0, 1) := by decide +kernel
theorem dX11_giver_13 : decode cX11_giver 13 = .ok (.getfield 47, 3) := by decide +kernel
theorem dX11_giver_16 : decode cX11_giver 16 = .ok (.iload_n 3, 1) := by decide +kernel
theorem dX11_giver_17 : decode cX11_giver 17 = .ok (.baload, 1) := by decide +kernel
theorem dX11_giver_18 : decode cX11_giver 18 = .ok (.ifCond .eq 19, 3) := by decide +kernel
theorem dX11_giver_21 : decode cX11_giver 21 = .ok (.aload_n 0, 1) := by decide +kernel
theorem dX11_giver_22 : decode cX11_giver 22 = .ok (.aload_n 0, 1) := by decide +kernel
theorem dX11_giver_23 : decode cX11_giver 23 = .ok (.getfield 44, 3) := by decide +kernel
theorem dX11_giver_26 : decode cX11_giver 26 = .ok (.iload_n 3, 1) := by decide +kernel
theorem dX11_giver_27 : decode cX11_giver 27 = .ok (.iaload, 1) := by decide +kernel
theorem dX11_giver_28 : decode cX11_giver 28 = .ok (.iload_n 2, 1) := by decide +kernel
theorem dX11_giver_29 : decode cX11_giver 29 = .ok (.invokevirtual 132, 3) := by decide +kernel
theorem dX11_giver_32 : decode cX11_giver 32 = .ok (.ifCond .eq 5, 3) := by decide +kernel
theorem dX11_giver_35 : decode cX11_giver 35 = .ok (.iload_n 3, 1) := by decide +kernel
theorem dX11_giver_36 : decode cX11_giver 36 = .ok (.ireturn, 1) := by decide +kernel
theorem dX11_giver_37 : decode cX11_giver 37 = .ok (.iinc 3 1, 3) := by decide +kernel
theorem dX11_giver_40 : decode cX11_giver 40 = .ok (.goto (-36), 3) := by decide +kernel
theorem dX11_giver_43 : decode cX11_giver 43 = .ok (.aload_n 0, 1) := by decide +kernel
theorem dX11_giver_44 : decode cX11_giver 44 = .ok (.getfield 13, 3) := by decide +kernel
theorem dX11_giver_47 : decode cX11_giver 47 = .ok (.ireturn, 1) := by decide +kernel
theorem dX11_isReady_0 : decode cX11_isReady 0 = .ok (.aload_n 0, 1) := by decide +kernel
theorem dX11_isReady_1 : decode cX11_isReady 1 = .ok (.iload_n 1, 1) := by decide +kernel
theorem dX11_isReady_2 : decode cX11_isReady 2 = .ok (.iload_n 2, 1) := by decide +kernel
theorem dX11_isReady_3 : decode cX11_isReady 3 = .ok (.invokevirtual 136, 3) := by decide +kernel
theorem dX11_isReady_6 : decode cX11_isReady 6 = .ok (.istore_n 3, 1) := by decide +kernel
theorem dX11_isReady_7 : decode cX11_isReady 7 = .ok (.iload_n 3, 1) := by decide +kernel
theorem dX11_isReady_8 : decode cX11_isReady 8 = .ok (.aload_n 0, 1) := by decide +kernel
theorem dX11_isReady_9 : decode cX11_isReady 9 = .ok (.getfield 13, 3) := by decide +kernel
theorem dX11_isReady_12 : decode cX11_isReady 12 = .ok (.if_icmp .ne 22, 3) := by decide +kernel
theorem dX11_isReady_15 : decode cX11_isReady 15 = .ok (.aload_n 0, 1) := by decide +kernel
theorem dX11_isReady_16 : decode cX11_isReady 16 = .ok (.getfield 69, 3) := by decide +kernel
theorem dX11_isReady_19 : decode cX11_isReady 19 = .ok (.iload_n 2, 1) := by decide +kernel
theorem dX11_isReady_20 : decode cX11_isReady 20 = .ok (.iaload, 1) := by decide +kernel
theorem dX11_isReady_21 : decode cX11_isReady 21 = .ok (.aload_n 0, 1) := by decide +kernel
theorem dX11_isReady_22 : decode cX11_isReady 22 = .ok (.getfield 99, 3) := by decide +kernel
theorem dX11_isReady_25 : decode cX11_isReady 25 = .ok (.if_icmp .eq 7, 3) := by decide +kernel
theorem dX11_isReady_28 : decode cX11_isReady 28 = .ok (.iconst 1, 1) := by decide +kernel
theorem dX11_isReady_29 : decode cX11_isReady 29 = .ok (.goto 4, 3) := by decide +kernel
theorem dX11_isReady_32 : decode cX11_isReady 32 = .ok (.iconst 0, 1) := by decide +kernel
theorem dX11_isReady_33 : decode cX11_isReady 33 = .ok (.ireturn, 1) := by decide +kernel
theorem dX11_isReady_34 : decode cX11_isReady 34 = .ok (.aload_n 0, 1) := by decide +kernel
theorem dX11_isReady_35 : decode cX11_isReady 35 = .ok (.getfield 20, 3) := by decide +kernel
theorem dX11_isReady_38 : decode cX11_isReady 38 = .ok (.iconst (-1), 1) := by decide +kernel
theorem dX11_isReady_39 : decode cX11_isReady 39 = .ok (.if_icmp .ne 5, 3) := by decide +kernel
theorem dX11_isReady_42 : decode cX11_isReady 42 = .ok (.iconst 0, 1) := by decide +kernel
theorem dX11_isReady_43 : decode cX11_isReady 43 = .ok (.ireturn, 1) := by decide +kernel
theorem dX11_isReady_44 : decode cX11_isReady 44 = .ok (.aload_n 0, 1) := by decide +kernel
theorem dX11_isReady_45 : decode cX11_isReady 45 = .ok (.aload_n 0, 1) := by decide +kernel
theorem dX11_isReady_46 : decode cX11_isReady 46 = .ok (.getfield 44, 3) := by decide +kernel
theorem dX11_isReady_49 : decode cX11_isReady 49 = .ok (.iload_n 3, 1) := by decide +kernel
theorem dX11_isReady_50 : decode cX11_isReady 50 = .ok (.iaload, 1) := by decide +kernel
theorem dX11_isReady_51 : decode cX11_isReady 51 = .ok (.invokevirtual 129, 3) := by decide +kernel
theorem dX11_isReady_54 : decode cX11_isReady 54 = .ok (.iconst 5, 1) := by decide +kernel
theorem dX11_isReady_55 : decode cX11_isReady 55 = .ok (.if_icmp .ne 25, 3) := by decide +kernel
theorem dX11_isReady_58 : decode cX11_isReady 58 = .ok (.aload_n 0, 1) := by decide +kernel
theorem dX11_isReady_59 : decode cX11_isReady 59 = .ok (.getfield 17, 3) := by decide +kernel
theorem dX11_isReady_62 : decode cX11_isReady 62 = .ok (.iconst 5, 1) := by decide +kernel
theorem dX11_isReady_63 : decode cX11_isReady 63 = .ok (.iaload, 1) := by decide +kernel
theorem dX11_isReady_64 : decode cX11_isReady 64 = .ok (.aload_n 0, 1) := by decide +kernel
theorem dX11_isReady_65 : decode cX11_isReady 65 = .ok (.getfield 20, 3) := by decide +kernel
theorem dX11_isReady_68 : decode cX11_isReady 68 = .ok (.if_icmp .le 12, 3) := by decide +kernel
theorem dX11_isReady_71 : decode cX11_isReady 71 = .ok (.aload_n 0, 1) := by decide +kernel
theorem dX11_isReady_72 : decode cX11_isReady 72 = .ok (.getfield 17, 3) := by decide +kernel
theorem dX11_isReady_75 : decode cX11_isReady 75 = .ok (.iconst 5, 1) := by decide +kernel
theorem dX11_isReady_76 : decode cX11_isReady 76 = .ok (.iaload, 1) := by decide +kernel
theorem dX11_isReady_77 : decode cX11_isReady 77 = .ok (.goto 7, 3) := by decide +kernel
theorem dX11_isReady_80 : decode cX11_isReady 80 = .ok (.aload_n 0, 1) := by decide +kernel
theorem dX11_isReady_81 : decode cX11_isReady 81 = .ok (.getfield 20, 3) := by decide +kernel
theorem dX11_isReady_84 : decode cX11_isReady 84 = .ok (.istore 4, 2) := by decide +kernel
theorem dX11_isReady_86 : decode cX11_isReady 86 = .ok (.iload_n 3, 1) := by decide +kernel
theorem dX11_isReady_87 : decode cX11_isReady 87 = .ok (.iload 4, 2) := by decide +kernel
theorem dX11_isReady_89 : decode cX11_isReady 89 = .ok (.iconst 1, 1) := by decide +kernel
theorem dX11_isReady_90 : decode cX11_isReady 90 = .ok (.iadd, 1) := by decide +kernel
theorem dX11_isReady_91 : decode cX11_isReady 91 = .ok (.if_icmp .gt 24, 3) := by decide +kernel
theorem dX11_isReady_94 : decode cX11_isReady 94 = .ok (.iload_n 3, 1) := by decide +kernel
theorem dX11_isReady_95 : decode cX11_isReady 95 = .ok (.iload 4, 2) := by decide +kernel
theorem dX11_isReady_97 : decode cX11_isReady 97 = .ok (.iconst 1, 1) := by decide +kernel
theorem dX11_isReady_98 : decode cX11_isReady 98 = .ok (.iadd, 1) := by decide +kernel
theorem dX11_isReady_99 : decode cX11_isReady 99 = .ok (.if_icmp .ne 20, 3) := by decide +kernel
theorem dX11_isReady_102 : decode cX11_isReady 102 = .ok (.aload_n 0, 1) := by decide +kernel
theorem dX11_isReady_103 : decode cX11_isReady 103 = .ok (.getfield 63, 3) := by decide +kernel
theorem dX11_isReady_106 : decode cX11_isReady 106 = .ok (.iload_n 3, 1) := by decide +kernel
theorem dX11_isReady_107 : decode cX11_isReady 107 = .ok (.iaload, 1) := by decide +kernel
theorem dX11_isReady_108 : decode cX11_isReady 108 = .ok (.aload_n 0, 1) := by decide +kernel
theorem dX11_isReady_109 : decode cX11_isReady 109 = .ok (.getfield 99, 3) := by decide +kernel
theorem dX11_isReady_112 : decode cX11_isReady 112 = .ok (.if_icmp .ge 7, 3) := by decide +kernel
theorem dX11_isReady_115 : decode cX11_isReady 115 = .ok (.iconst 1, 1) := by decide +kernel
theorem dX11_isReady_116 : decode cX11_isReady 116 = .ok (.goto 4, 3) := by decide +kernel
theorem dX11_isReady_119 : decode cX11_isReady 119 = .ok (.iconst 0, 1) := by decide +kernel
theorem dX11_isReady_120 : decode cX11_isReady 120 = .ok (.ireturn, 1) := by decide +kernel
theorem dX11_read_0 : decode cX11_read 0 = .ok (.aload_n 0, 1) := by decide +kernel
theorem dX11_read_1 : decode cX11_read 1 = .ok (.iload_n 1, 1) := by decide +kernel
theorem dX11_read_2 : decode cX11_read 2 = .ok (.iload_n 2, 1) := by decide +kernel
theorem dX11_read_3 : decode cX11_read 3 = .ok (.invokevirtual 136, 3) := by decide +kernel
theorem dX11_read_6 : decode cX11_read 6 = .ok (.istore_n 3, 1) := by decide +kernel
theorem dX11_read_7 : decode cX11_read 7 = .ok (.iload_n 3, 1) := by decide +kernel
theorem dX11_read_8 : decode cX11_read 8 = .ok (.aload_n 0, 1) := by decide +kernel
theorem dX11_read_9 : decode cX11_read 9 = .ok (.getfield 13, 3) := by decide +kernel
theorem dX11_read_12 : decode cX11_read 12 = .ok (.if_icmp .ne 12, 3) := by decide +kernel
theorem dX11_read_15 : decode cX11_read 15 = .ok (.aload_n 0, 1) := by decide +kernel
theorem dX11_read_16 : decode cX11_read 16 = .ok (.getfield 66, 3) := by decide +kernel
theorem dX11_read_19 : decode cX11_read 19 = .ok (.iload_n 2, 1) := by decide +kernel
theorem dX11_read_20 : decode cX11_read 20 = .ok (.iaload, 1) := by decide +kernel
theorem dX11_read_21 : decode cX11_read 21 = .ok (.goto 9, 3) := by decide +kernel
theorem dX11_read_24 : decode cX11_read 24 = .ok (.aload_n 0, 1) := by decide +kernel
theorem dX11_read_25 : decode cX11_read 25 = .ok (.getfield 57, 3) := by decide +kernel
theorem dX11_read_28 : decode cX11_read 28 = .ok (.iload_n 3, 1) := by decide +kernel
theorem dX11_read_29 : decode cX11_read 29 = .ok (.iaload, 1) := by decide +kernel
theorem dX11_read_30 : decode cX11_read 30 = .ok (.ireturn, 1) := by decide +kernel
theorem dX11_readsOne_0 : decode cX11_readsOne 0 = .ok (.iload_n 0, 1) := by decide +kernel
theorem dX11_readsOne_1 : decode cX11_readsOne 1 = .ok (.iconst 2, 1) := by decide +kernel
theorem dX11_readsOne_2 : decode cX11_readsOne 2 = .ok (.bipush 8, 2) := by decide +kernel
theorem dX11_readsOne_4 : decode cX11_readsOne 4 = .ok (.invokestatic 115, 3) := by decide +kernel
theorem dX11_readsOne_7 : decode cX11_readsOne 7 = .ok (.ireturn, 1) := by decide +kernel
theorem dX11_readsTwo_0 : decode cX11_readsTwo 0 = .ok (.iload_n 0, 1) := by decide +kernel
theorem dX11_readsTwo_1 : decode cX11_readsTwo 1 = .ok (.iconst 2, 1) := by decide +kernel
theorem dX11_readsTwo_2 : decode cX11_readsTwo 2 = .ok (.iconst 4, 1) := by decide +kernel
theorem dX11_readsTwo_3 : decode cX11_readsTwo 3 = .ok (.invokestatic 115, 3) := by decide +kernel
theorem dX11_readsTwo_6 : decode cX11_readsTwo 6 = .ok (.ifCond .ne 15, 3) := by decide +kernel
theorem dX11_readsTwo_9 : decode cX11_readsTwo 9 = .ok (.iload_n 0, 1) := by decide +kernel
theorem dX11_readsTwo_10 : decode cX11_readsTwo 10 = .ok (.bipush 6, 2) := by decide +kernel
theorem dX11_readsTwo_12 : decode cX11_readsTwo 12 = .ok (.if_icmp .eq 9, 3) := by decide +kernel
theorem dX11_readsTwo_15 : decode cX11_readsTwo 15 = .ok (.iload_n 0, 1) := by decide +kernel
theorem dX11_readsTwo_16 : decode cX11_readsTwo 16 = .ok (.bipush 7, 2) := by decide +kernel
theorem dX11_readsTwo_18 : decode cX11_readsTwo 18 = .ok (.if_icmp .ne 7, 3) := by decide +kernel
theorem dX11_readsTwo_21 : decode cX11_readsTwo 21 = .ok (.iconst 1, 1) := by decide +kernel
theorem dX11_readsTwo_22 : decode cX11_readsTwo 22 = .ok (.goto 4, 3) := by decide +kernel
theorem dX11_readsTwo_25 : decode cX11_readsTwo 25 = .ok (.iconst 0, 1) := by decide +kernel
theorem dX11_readsTwo_26 : decode cX11_readsTwo 26 = .ok (.ireturn, 1) := by decide +kernel
theorem dX11_hasOlderStore_0 : decode cX11_hasOlderStore 0 = .ok (.aload_n 0, 1) := by decide +kernel
theorem dX11_hasOlderStore_1 : decode cX11_hasOlderStore 1 = .ok (.getfield 140, 3) := by decide +kernel
theorem dX11_hasOlderStore_4 : decode cX11_hasOlderStore 4 = .ok (.istore_n 2, 1) := by decide +kernel
theorem dX11_hasOlderStore_5 : decode cX11_hasOlderStore 5 = .ok (.iload_n 1, 1) := by decide +kernel
theorem dX11_hasOlderStore_6 : decode cX11_hasOlderStore 6 = .ok (.iconst 1, 1) := by decide +kernel
theorem dX11_hasOlderStore_7 : decode cX11_hasOlderStore 7 = .ok (.iadd, 1) := by decide +kernel
theorem dX11_hasOlderStore_8 : decode cX11_hasOlderStore 8 = .ok (.istore_n 3, 1) := by decide +kernel
theorem dX11_hasOlderStore_9 : decode cX11_hasOlderStore 9 = .ok (.iload_n 3, 1) := by decide +kernel
theorem dX11_hasOlderStore_10 : decode cX11_hasOlderStore 10 = .ok (.aload_n 0, 1) := by decide +kernel
theorem dX11_hasOlderStore_11 : decode cX11_hasOlderStore 11 = .ok (.getfield 13, 3) := by decide +kernel
theorem dX11_hasOlderStore_14 : decode cX11_hasOlderStore 14 = .ok (.if_icmp .ge 43, 3) := by decide +kernel
theorem dX11_hasOlderStore_17 : decode cX11_hasOlderStore 17 = .ok (.iload_n 2, 1) := by decide +kernel
theorem dX11_hasOlderStore_18 : decode cX11_hasOlderStore 18 = .ok (.ifCond .ne 27, 3) := by decide +kernel
theorem dX11_hasOlderStore_21 : decode cX11_hasOlderStore 21 = .ok (.aload_n 0, 1) := by decide +kernel
theorem dX11_hasOlderStore_22 : decode cX11_hasOlderStore 22 = .ok (.getfield 47, 3) := by decide +kernel
theorem dX11_hasOlderStore_25 : decode cX11_hasOlderStore 25 = .ok (.iload_n 3, 1) := by decide +kernel
theorem dX11_hasOlderStore_26 : decode cX11_hasOlderStore 26 = .ok (.baload, 1) := by decide +kernel
theorem dX11_hasOlderStore_27 : decode cX11_hasOlderStore 27 = .ok (.ifCond .eq 22, 3) := by decide +kernel
theorem dX11_hasOlderStore_30 : decode cX11_hasOlderStore 30 = .ok (.aload_n 0, 1) := by decide +kernel
theorem dX11_hasOlderStore_31 : decode cX11_hasOlderStore 31 = .ok (.aload_n 0, 1) := by decide +kernel
theorem dX11_hasOlderStore_32 : decode cX11_hasOlderStore 32 = .ok (.getfield 44, 3) := by decide +kernel
theorem dX11_hasOlderStore_35 : decode cX11_hasOlderStore 35 = .ok (.iload_n 3, 1) := by decide +kernel
theorem dX11_hasOlderStore_36 : decode cX11_hasOlderStore 36 = .ok (.iaload, 1) := by decide +kernel
theorem dX11_hasOlderStore_37 : decode cX11_hasOlderStore 37 = .ok (.invokevirtual 129, 3) := by decide +kernel
theorem dX11_hasOlderStore_40 : decode cX11_hasOlderStore 40 = .ok (.bipush 6, 2) := by decide +kernel
theorem dX11_hasOlderStore_42 : decode cX11_hasOlderStore 42 = .ok (.if_icmp .ne 7, 3) := by decide +kernel
theorem dX11_hasOlderStore_45 : decode cX11_hasOlderStore 45 = .ok (.iconst 1, 1) := by decide +kernel
theorem dX11_hasOlderStore_46 : decode cX11_hasOlderStore 46 = .ok (.goto 4, 3) := by decide +kernel
theorem dX11_hasOlderStore_49 : decode cX11_hasOlderStore 49 = .ok (.iconst 0, 1) := by decide +kernel
theorem dX11_hasOlderStore_50 : decode cX11_hasOlderStore 50 = .ok (.istore_n 2, 1) := by decide +kernel
theorem dX11_hasOlderStore_51 : decode cX11_hasOlderStore 51 = .ok (.iinc 3 1, 3) := by decide +kernel
theorem dX11_hasOlderStore_54 : decode cX11_hasOlderStore 54 = .ok (.goto (-45), 3) := by decide +kernel
theorem dX11_hasOlderStore_57 : decode cX11_hasOlderStore 57 = .ok (.iload_n 2, 1) := by decide +kernel
theorem dX11_hasOlderStore_58 : decode cX11_hasOlderStore 58 = .ok (.ireturn, 1) := by decide +kernel
theorem dX11_placeOf_0 : decode cX11_placeOf 0 = .ok (.aload_n 0, 1) := by decide +kernel
theorem dX11_placeOf_1 : decode cX11_placeOf 1 = .ok (.getfield 51, 3) := by decide +kernel
theorem dX11_placeOf_4 : decode cX11_placeOf 4 = .ok (.iload_n 1, 1) := by decide +kernel
theorem dX11_placeOf_5 : decode cX11_placeOf 5 = .ok (.iaload, 1) := by decide +kernel
theorem dX11_placeOf_6 : decode cX11_placeOf 6 = .ok (.aload_n 0, 1) := by decide +kernel
theorem dX11_placeOf_7 : decode cX11_placeOf 7 = .ok (.getfield 35, 3) := by decide +kernel
theorem dX11_placeOf_10 : decode cX11_placeOf 10 = .ok (.aload_n 0, 1) := by decide +kernel
theorem dX11_placeOf_11 : decode cX11_placeOf 11 = .ok (.getfield 44, 3) := by decide +kernel
theorem dX11_placeOf_14 : decode cX11_placeOf 14 = .ok (.iload_n 1, 1) := by decide +kernel
theorem dX11_placeOf_15 : decode cX11_placeOf 15 = .ok (.iaload, 1) := by decide +kernel
theorem dX11_placeOf_16 : decode cX11_placeOf 16 = .ok (.iaload, 1) := by decide +kernel
theorem dX11_placeOf_17 : decode cX11_placeOf 17 = .ok (.iadd, 1) := by decide +kernel
theorem dX11_placeOf_18 : decode cX11_placeOf 18 = .ok (.bipush 63, 2) := by decide +kernel
theorem dX11_placeOf_20 : decode cX11_placeOf 20 = .ok (.iand, 1) := by decide +kernel
theorem dX11_placeOf_21 : decode cX11_placeOf 21 = .ok (.ireturn, 1) := by decide +kernel
theorem dX11_fires_0 : decode cX11_fires 0 = .ok (.iload_n 1, 1) := by decide +kernel
theorem dX11_fires_1 : decode cX11_fires 1 = .ok (.iconst 1, 1) := by decide +kernel
theorem dX11_fires_2 : decode cX11_fires 2 = .ok (.iadd, 1) := by decide +kernel
theorem dX11_fires_3 : decode cX11_fires 3 = .ok (.aload_n 0, 1) := by decide +kernel
theorem dX11_fires_4 : decode cX11_fires 4 = .ok (.getfield 13, 3) := by decide +kernel
theorem dX11_fires_7 : decode cX11_fires 7 = .ok (.if_icmp .ge 16, 3) := by decide +kernel
theorem dX11_fires_10 : decode cX11_fires 10 = .ok (.aload_n 0, 1) := by decide +kernel
theorem dX11_fires_11 : decode cX11_fires 11 = .ok (.getfield 47, 3) := by decide +kernel
theorem dX11_fires_14 : decode cX11_fires 14 = .ok (.iload_n 1, 1) := by decide +kernel
theorem dX11_fires_15 : decode cX11_fires 15 = .ok (.iconst 1, 1) := by decide +kernel
theorem dX11_fires_16 : decode cX11_fires 16 = .ok (.iadd, 1) := by decide +kernel
theorem dX11_fires_17 : decode cX11_fires 17 = .ok (.baload, 1) := by decide +kernel
theorem dX11_fires_18 : decode cX11_fires 18 = .ok (.ifCond .eq 5, 3) := by decide +kernel
theorem dX11_fires_21 : decode cX11_fires 21 = .ok (.iconst 0, 1) := by decide +kernel
theorem dX11_fires_22 : decode cX11_fires 22 = .ok (.ireturn, 1) := by decide +kernel
theorem dX11_fires_23 : decode cX11_fires 23 = .ok (.aload_n 0, 1) := by decide +kernel
theorem dX11_fires_24 : decode cX11_fires 24 = .ok (.getfield 44, 3) := by decide +kernel
theorem dX11_fires_27 : decode cX11_fires 27 = .ok (.iload_n 1, 1) := by decide +kernel
theorem dX11_fires_28 : decode cX11_fires 28 = .ok (.iaload, 1) := by decide +kernel
theorem dX11_fires_29 : decode cX11_fires 29 = .ok (.istore_n 2, 1) := by decide +kernel
theorem dX11_fires_30 : decode cX11_fires 30 = .ok (.aload_n 0, 1) := by decide +kernel
theorem dX11_fires_31 : decode cX11_fires 31 = .ok (.iload_n 2, 1) := by decide +kernel
theorem dX11_fires_32 : decode cX11_fires 32 = .ok (.invokevirtual 129, 3) := by decide +kernel
theorem dX11_fires_35 : decode cX11_fires 35 = .ok (.istore_n 3, 1) := by decide +kernel
theorem dX11_fires_36 : decode cX11_fires 36 = .ok (.iload_n 1, 1) := by decide +kernel
theorem dX11_fires_37 : decode cX11_fires 37 = .ok (.aload_n 0, 1) := by decide +kernel
theorem dX11_fires_38 : decode cX11_fires 38 = .ok (.getfield 17, 3) := by decide +kernel
theorem dX11_fires_41 : decode cX11_fires 41 = .ok (.iconst 1, 1) := by decide +kernel
theorem dX11_fires_42 : decode cX11_fires 42 = .ok (.iaload, 1) := by decide +kernel
theorem dX11_fires_43 : decode cX11_fires 43 = .ok (.if_icmp .ne 47, 3) := by decide +kernel
theorem dX11_fires_46 : decode cX11_fires 46 = .ok (.iload_n 3, 1) := by decide +kernel
theorem dX11_fires_47 : decode cX11_fires 47 = .ok (.invokestatic 143, 3) := by decide +kernel
theorem dX11_fires_50 : decode cX11_fires 50 = .ok (.ifCond .eq 17, 3) := by decide +kernel
theorem dX11_fires_53 : decode cX11_fires 53 = .ok (.aload_n 0, 1) := by decide +kernel
theorem dX11_fires_54 : decode cX11_fires 54 = .ok (.iload_n 1, 1) := by decide +kernel
theorem dX11_fires_55 : decode cX11_fires 55 = .ok (.aload_n 0, 1) := by decide +kernel
theorem dX11_fires_56 : decode cX11_fires 56 = .ok (.getfield 29, 3) := by decide +kernel
theorem dX11_fires_59 : decode cX11_fires 59 = .ok (.iload_n 2, 1) := by decide +kernel
theorem dX11_fires_60 : decode cX11_fires 60 = .ok (.iaload, 1) := by decide +kernel
theorem dX11_fires_61 : decode cX11_fires 61 = .ok (.invokevirtual 147, 3) := by decide +kernel
theorem dX11_fires_64 : decode cX11_fires 64 = .ok (.ifCond .eq 24, 3) := by decide +kernel
theorem dX11_fires_67 : decode cX11_fires 67 = .ok (.iload_n 3, 1) := by decide +kernel
theorem dX11_fires_68 : decode cX11_fires 68 = .ok (.invokestatic 150, 3) := by decide +kernel
theorem dX11_fires_71 : decode cX11_fires 71 = .ok (.ifCond .eq 19, 3) := by decide +kernel
theorem dX11_fires_74 : decode cX11_fires 74 = .ok (.aload_n 0, 1) := by decide +kernel
theorem dX11_fires_75 : decode cX11_fires 75 = .ok (.iload_n 1, 1) := by decide +kernel
theorem dX11_fires_76 : decode cX11_fires 76 = .ok (.aload_n 0, 1) := by decide +kernel
theorem dX11_fires_77 : decode cX11_fires 77 = .ok (.getfield 32, 3) := by decide +kernel
theorem dX11_fires_80 : decode cX11_fires 80 = .ok (.iload_n 2, 1) := by decide +kernel
theorem dX11_fires_81 : decode cX11_fires 81 = .ok (.iaload, 1) := by decide +kernel
theorem dX11_fires_82 : decode cX11_fires 82 = .ok (.invokevirtual 147, 3) := by decide +kernel
theorem dX11_fires_85 : decode cX11_fires 85 = .ok (.ifCond .ne 5, 3) := by decide +kernel
theorem dX11_fires_88 : decode cX11_fires 88 = .ok (.iconst 0, 1) := by decide +kernel
theorem dX11_fires_89 : decode cX11_fires 89 = .ok (.ireturn, 1) := by decide +kernel
theorem dX11_fires_90 : decode cX11_fires 90 = .ok (.iload_n 1, 1) := by decide +kernel
theorem dX11_fires_91 : decode cX11_fires 91 = .ok (.aload_n 0, 1) := by decide +kernel
theorem dX11_fires_92 : decode cX11_fires 92 = .ok (.getfield 17, 3) := by decide +kernel
theorem dX11_fires_95 : decode cX11_fires 95 = .ok (.iconst 4, 1) := by decide +kernel
theorem dX11_fires_96 : decode cX11_fires 96 = .ok (.iaload, 1) := by decide +kernel
theorem dX11_fires_97 : decode cX11_fires 97 = .ok (.if_icmp .ne 18, 3) := by decide +kernel
theorem dX11_fires_100 : decode cX11_fires 100 = .ok (.iload_n 3, 1) := by decide +kernel
theorem dX11_fires_101 : decode cX11_fires 101 = .ok (.iconst 5, 1) := by decide +kernel
theorem dX11_fires_102 : decode cX11_fires 102 = .ok (.if_icmp .ne 13, 3) := by decide +kernel
theorem dX11_fires_105 : decode cX11_fires 105 = .ok (.aload_n 0, 1) := by decide +kernel
theorem dX11_fires_106 : decode cX11_fires 106 = .ok (.iload_n 1, 1) := by decide +kernel
theorem dX11_fires_107 : decode cX11_fires 107 = .ok (.invokevirtual 153, 3) := by decide +kernel
theorem dX11_fires_110 : decode cX11_fires 110 = .ok (.ifCond .eq 5, 3) := by decide +kernel
theorem dX11_fires_113 : decode cX11_fires 113 = .ok (.iconst 0, 1) := by decide +kernel
theorem dX11_fires_114 : decode cX11_fires 114 = .ok (.ireturn, 1) := by decide +kernel
theorem dX11_fires_115 : decode cX11_fires 115 = .ok (.iload_n 1, 1) := by decide +kernel
theorem dX11_fires_116 : decode cX11_fires 116 = .ok (.aload_n 0, 1) := by decide +kernel
theorem dX11_fires_117 : decode cX11_fires 117 = .ok (.getfield 17, 3) := by decide +kernel
theorem dX11_fires_120 : decode cX11_fires 120 = .ok (.iconst 5, 1) := by decide +kernel
theorem dX11_fires_121 : decode cX11_fires 121 = .ok (.iaload, 1) := by decide +kernel
theorem dX11_fires_122 : decode cX11_fires 122 = .ok (.if_icmp .ne 35, 3) := by decide +kernel
theorem dX11_fires_125 : decode cX11_fires 125 = .ok (.iload_n 3, 1) := by decide +kernel
theorem dX11_fires_126 : decode cX11_fires 126 = .ok (.iconst 5, 1) := by decide +kernel
theorem dX11_fires_127 : decode cX11_fires 127 = .ok (.if_icmp .ne 30, 3) := by decide +kernel
theorem dX11_fires_130 : decode cX11_fires 130 = .ok (.aload_n 0, 1) := by decide +kernel
theorem dX11_fires_131 : decode cX11_fires 131 = .ok (.getfield 99, 3) := by decide +kernel
theorem dX11_fires_134 : decode cX11_fires 134 = .ok (.aload_n 0, 1) := by decide +kernel
theorem dX11_fires_135 : decode cX11_fires 135 = .ok (.getfield 60, 3) := by decide +kernel
theorem dX11_fires_138 : decode cX11_fires 138 = .ok (.iload_n 1, 1) := by decide +kernel
theorem dX11_fires_139 : decode cX11_fires 139 = .ok (.iaload, 1) := by decide +kernel
theorem dX11_fires_140 : decode cX11_fires 140 = .ok (.isub, 1) := by decide +kernel
theorem dX11_fires_141 : decode cX11_fires 141 = .ok (.aload_n 0, 1) := by decide +kernel
theorem dX11_fires_142 : decode cX11_fires 142 = .ok (.getfield 41, 3) := by decide +kernel
theorem dX11_fires_145 : decode cX11_fires 145 = .ok (.aload_n 0, 1) := by decide +kernel
theorem dX11_fires_146 : decode cX11_fires 146 = .ok (.iload_n 1, 1) := by decide +kernel
theorem dX11_fires_147 : decode cX11_fires 147 = .ok (.invokevirtual 156, 3) := by decide +kernel
theorem dX11_fires_150 : decode cX11_fires 150 = .ok (.bipush 8, 2) := by decide +kernel
theorem dX11_fires_152 : decode cX11_fires 152 = .ok (.irem, 1) := by decide +kernel
theorem dX11_fires_153 : decode cX11_fires 153 = .ok (.iaload, 1) := by decide +kernel
theorem dX11_fires_154 : decode cX11_fires 154 = .ok (.if_icmp .lt 7, 3) := by decide +kernel
theorem dX11_fires_157 : decode cX11_fires 157 = .ok (.iconst 1, 1) := by decide +kernel
theorem dX11_fires_158 : decode cX11_fires 158 = .ok (.goto 4, 3) := by decide +kernel
theorem dX11_fires_161 : decode cX11_fires 161 = .ok (.iconst 0, 1) := by decide +kernel
theorem dX11_fires_162 : decode cX11_fires 162 = .ok (.ireturn, 1) := by decide +kernel
theorem dX11_workOut_0 : decode cX11_workOut 0 = .ok (.aload_n 0, 1) := by decide +kernel
theorem dX11_workOut_1 : decode cX11_workOut 1 = .ok (.getfield 51, 3) := by decide +kernel
theorem dX11_workOut_4 : decode cX11_workOut 4 = .ok (.iload_n 1, 1) := by decide +kernel
theorem dX11_workOut_5 : decode cX11_workOut 5 = .ok (.iaload, 1) := by decide +kernel
theorem dX11_workOut_6 : decode cX11_workOut 6 = .ok (.istore 4, 2) := by decide +kernel
theorem dX11_workOut_8 : decode cX11_workOut 8 = .ok (.aload_n 0, 1) := by decide +kernel
theorem dX11_workOut_9 : decode cX11_workOut 9 = .ok (.getfield 54, 3) := by decide +kernel
theorem dX11_workOut_12 : decode cX11_workOut 12 = .ok (.iload_n 1, 1) := by decide +kernel
theorem dX11_workOut_13 : decode cX11_workOut 13 = .ok (.iaload, 1) := by decide +kernel
theorem dX11_workOut_14 : decode cX11_workOut 14 = .ok (.istore 5, 2) := by decide +kernel
theorem dX11_workOut_16 : decode cX11_workOut 16 = .ok (.iload_n 3, 1) := by decide +kernel
theorem dX11_workOut_17 : decode cX11_workOut 17 = .ok (.iconst 1, 1) := by decide +kernel
theorem dX11_workOut_18 : decode cX11_workOut 18 = .ok (.if_icmp .ne 18, 3) := by decide +kernel
theorem dX11_workOut_21 : decode cX11_workOut 21 = .ok (.aload_n 0, 1) := by decide +kernel
theorem dX11_workOut_22 : decode cX11_workOut 22 = .ok (.getfield 57, 3) := by decide +kernel
theorem dX11_workOut_25 : decode cX11_workOut 25 = .ok (.iload_n 1, 1) := by decide +kernel
theorem dX11_workOut_26 : decode cX11_workOut 26 = .ok (.aload_n 0, 1) := by decide +kernel
theorem dX11_workOut_27 : decode cX11_workOut 27 = .ok (.getfield 35, 3) := by decide +kernel
theorem dX11_workOut_30 : decode cX11_workOut 30 = .ok (.iload_n 2, 1) := by decide +kernel
theorem dX11_workOut_31 : decode cX11_workOut 31 = .ok (.iaload, 1) := by decide +kernel
theorem dX11_workOut_32 : decode cX11_workOut 32 = .ok (.iastore, 1) := by decide +kernel
theorem dX11_workOut_33 : decode cX11_workOut 33 = .ok (.goto 49, 3) := by decide +kernel
theorem dX11_workOut_36 : decode cX11_workOut 36 = .ok (.iload_n 3, 1) := by decide +kernel
theorem dX11_workOut_37 : decode cX11_workOut 37 = .ok (.iconst 2, 1) := by decide +kernel
theorem dX11_workOut_38 : decode cX11_workOut 38 = .ok (.iconst 4, 1) := by decide +kernel
theorem dX11_workOut_39 : decode cX11_workOut 39 = .ok (.invokestatic 115, 3) := by decide +kernel
theorem dX11_workOut_42 : decode cX11_workOut 42 = .ok (.ifCond .eq 40, 3) := by decide +kernel
theorem dX11_workOut_45 : decode cX11_workOut 45 = .ok (.aload_n 0, 1) := by decide +kernel
theorem dX11_workOut_46 : decode cX11_workOut 46 = .ok (.getfield 57, 3) := by decide +kernel
theorem dX11_workOut_49 : decode cX11_workOut 49 = .ok (.iload_n 1, 1) := by decide +kernel
theorem dX11_workOut_50 : decode cX11_workOut 50 = .ok (.iload_n 3, 1) := by decide +kernel
theorem dX11_workOut_51 : decode cX11_workOut 51 = .ok (.iconst 2, 1) := by decide +kernel
theorem dX11_workOut_52 : decode cX11_workOut 52 = .ok (.if_icmp .ne 11, 3) := by decide +kernel
theorem dX11_workOut_55 : decode cX11_workOut 55 = .ok (.iload 4, 2) := by decide +kernel
theorem dX11_workOut_57 : decode cX11_workOut 57 = .ok (.iload 5, 2) := by decide +kernel
theorem dX11_workOut_59 : decode cX11_workOut 59 = .ok (.iadd, 1) := by decide +kernel
theorem dX11_workOut_60 : decode cX11_workOut 60 = .ok (.goto 21, 3) := by decide +kernel
theorem dX11_workOut_63 : decode cX11_workOut 63 = .ok (.iload_n 3, 1) := by decide +kernel
theorem dX11_workOut_64 : decode cX11_workOut 64 = .ok (.iconst 3, 1) := by decide +kernel
theorem dX11_workOut_65 : decode cX11_workOut 65 = .ok (.if_icmp .ne 11, 3) := by decide +kernel
theorem dX11_workOut_68 : decode cX11_workOut 68 = .ok (.iload 4, 2) := by decide +kernel
theorem dX11_workOut_70 : decode cX11_workOut 70 = .ok (.iload 5, 2) := by decide +kernel
theorem dX11_workOut_72 : decode cX11_workOut 72 = .ok (.isub, 1) := by decide +kernel
theorem dX11_workOut_73 : decode cX11_workOut 73 = .ok (.goto 8, 3) := by decide +kernel
theorem dX11_workOut_76 : decode cX11_workOut 76 = .ok (.iload 4, 2) := by decide +kernel
theorem dX11_workOut_78 : decode cX11_workOut 78 = .ok (.iload 5, 2) := by decide +kernel
theorem dX11_workOut_80 : decode cX11_workOut 80 = .ok (.imul, 1) := by decide +kernel
theorem dX11_workOut_81 : decode cX11_workOut 81 = .ok (.iastore, 1) := by decide +kernel
theorem dX11_workOut_82 : decode cX11_workOut 82 = .ok (.return_, 1) := by decide +kernel
theorem dX11_commitOne_0 : decode cX11_commitOne 0 = .ok (.aload_n 0, 1) := by decide +kernel
theorem dX11_commitOne_1 : decode cX11_commitOne 1 = .ok (.getfield 112, 3) := by decide +kernel
theorem dX11_commitOne_4 : decode cX11_commitOne 4 = .ok (.sipush 1000, 3) := by decide +kernel
theorem dX11_commitOne_7 : decode cX11_commitOne 7 = .ok (.if_icmp .ge 46, 3) := by decide +kernel
theorem dX11_commitOne_10 : decode cX11_commitOne 10 = .ok (.aload_n 0, 1) := by decide +kernel
theorem dX11_commitOne_11 : decode cX11_commitOne 11 = .ok (.getfield 75, 3) := by decide +kernel
theorem dX11_commitOne_14 : decode cX11_commitOne 14 = .ok (.aload_n 0, 1) := by decide +kernel
theorem dX11_commitOne_15 : decode cX11_commitOne 15 = .ok (.getfield 112, 3) := by decide +kernel
theorem dX11_commitOne_18 : decode cX11_commitOne 18 = .ok (.iload_n 1, 1) := by decide +kernel
theorem dX11_commitOne_19 : decode cX11_commitOne 19 = .ok (.iastore, 1) := by decide +kernel
theorem dX11_commitOne_20 : decode cX11_commitOne 20 = .ok (.aload_n 0, 1) := by decide +kernel
theorem dX11_commitOne_21 : decode cX11_commitOne 21 = .ok (.getfield 78, 3) := by decide +kernel
theorem dX11_commitOne_24 : decode cX11_commitOne 24 = .ok (.aload_n 0, 1) := by decide +kernel
theorem dX11_commitOne_25 : decode cX11_commitOne 25 = .ok (.getfield 112, 3) := by decide +kernel
theorem dX11_commitOne_28 : decode cX11_commitOne 28 = .ok (.iload_n 2, 1) := by decide +kernel
theorem dX11_commitOne_29 : decode cX11_commitOne 29 = .ok (.iastore, 1) := by decide +kernel
theorem dX11_commitOne_30 : decode cX11_commitOne 30 = .ok (.aload_n 0, 1) := by decide +kernel
theorem dX11_commitOne_31 : decode cX11_commitOne 31 = .ok (.getfield 81, 3) := by decide +kernel
theorem dX11_commitOne_34 : decode cX11_commitOne 34 = .ok (.aload_n 0, 1) := by decide +kernel
theorem dX11_commitOne_35 : decode cX11_commitOne 35 = .ok (.getfield 112, 3) := by decide +kernel
theorem dX11_commitOne_38 : decode cX11_commitOne 38 = .ok (.iload_n 3, 1) := by decide +kernel
theorem dX11_commitOne_39 : decode cX11_commitOne 39 = .ok (.iastore, 1) := by decide +kernel
theorem dX11_commitOne_40 : decode cX11_commitOne 40 = .ok (.aload_n 0, 1) := by decide +kernel
theorem dX11_commitOne_41 : decode cX11_commitOne 41 = .ok (.getfield 84, 3) := by decide +kernel
theorem dX11_commitOne_44 : decode cX11_commitOne 44 = .ok (.aload_n 0, 1) := by decide +kernel
theorem dX11_commitOne_45 : decode cX11_commitOne 45 = .ok (.getfield 112, 3) := by decide +kernel
theorem dX11_commitOne_48 : decode cX11_commitOne 48 = .ok (.aload_n 0, 1) := by decide +kernel
theorem dX11_commitOne_49 : decode cX11_commitOne 49 = .ok (.getfield 99, 3) := by decide +kernel
theorem dX11_commitOne_52 : decode cX11_commitOne 52 = .ok (.iastore, 1) := by decide +kernel
theorem dX11_commitOne_53 : decode cX11_commitOne 53 = .ok (.aload_n 0, 1) := by decide +kernel
theorem dX11_commitOne_54 : decode cX11_commitOne 54 = .ok (.dup, 1) := by decide +kernel
theorem dX11_commitOne_55 : decode cX11_commitOne 55 = .ok (.getfield 112, 3) := by decide +kernel
theorem dX11_commitOne_58 : decode cX11_commitOne 58 = .ok (.iconst 1, 1) := by decide +kernel
theorem dX11_commitOne_59 : decode cX11_commitOne 59 = .ok (.iadd, 1) := by decide +kernel
theorem dX11_commitOne_60 : decode cX11_commitOne 60 = .ok (.putfield 112, 3) := by decide +kernel
theorem dX11_commitOne_63 : decode cX11_commitOne 63 = .ok (.return_, 1) := by decide +kernel
theorem dX11_commitAll_0 : decode cX11_commitAll 0 = .ok (.iload_n 3, 1) := by decide +kernel
theorem dX11_commitAll_1 : decode cX11_commitAll 1 = .ok (.iconst 1, 1) := by decide +kernel
theorem dX11_commitAll_2 : decode cX11_commitAll 2 = .ok (.iconst 5, 1) := by decide +kernel
theorem dX11_commitAll_3 : decode cX11_commitAll 3 = .ok (.invokestatic 115, 3) := by decide +kernel
theorem dX11_commitAll_6 : decode cX11_commitAll 6 = .ok (.ifCond .eq 55, 3) := by decide +kernel
theorem dX11_commitAll_9 : decode cX11_commitAll 9 = .ok (.aload_n 0, 1) := by decide +kernel
theorem dX11_commitAll_10 : decode cX11_commitAll 10 = .ok (.getfield 66, 3) := by decide +kernel
theorem dX11_commitAll_13 : decode cX11_commitAll 13 = .ok (.aload_n 0, 1) := by decide +kernel
theorem dX11_commitAll_14 : decode cX11_commitAll 14 = .ok (.getfield 26, 3) := by decide +kernel
theorem dX11_commitAll_17 : decode cX11_commitAll 17 = .ok (.iload_n 2, 1) := by decide +kernel
theorem dX11_commitAll_18 : decode cX11_commitAll 18 = .ok (.iaload, 1) := by decide +kernel
theorem dX11_commitAll_19 : decode cX11_commitAll 19 = .ok (.aload_n 0, 1) := by decide +kernel
theorem dX11_commitAll_20 : decode cX11_commitAll 20 = .ok (.getfield 57, 3) := by decide +kernel
theorem dX11_commitAll_23 : decode cX11_commitAll 23 = .ok (.iload_n 1, 1) := by decide +kernel
theorem dX11_commitAll_24 : decode cX11_commitAll 24 = .ok (.iaload, 1) := by decide +kernel
theorem dX11_commitAll_25 : decode cX11_commitAll 25 = .ok (.iastore, 1) := by decide +kernel
theorem dX11_commitAll_26 : decode cX11_commitAll 26 = .ok (.aload_n 0, 1) := by decide +kernel
theorem dX11_commitAll_27 : decode cX11_commitAll 27 = .ok (.getfield 69, 3) := by decide +kernel
theorem dX11_commitAll_30 : decode cX11_commitAll 30 = .ok (.aload_n 0, 1) := by decide +kernel
theorem dX11_commitAll_31 : decode cX11_commitAll 31 = .ok (.getfield 26, 3) := by decide +kernel
theorem dX11_commitAll_34 : decode cX11_commitAll 34 = .ok (.iload_n 2, 1) := by decide +kernel
theorem dX11_commitAll_35 : decode cX11_commitAll 35 = .ok (.iaload, 1) := by decide +kernel
theorem dX11_commitAll_36 : decode cX11_commitAll 36 = .ok (.aload_n 0, 1) := by decide +kernel
theorem dX11_commitAll_37 : decode cX11_commitAll 37 = .ok (.getfield 99, 3) := by decide +kernel
theorem dX11_commitAll_40 : decode cX11_commitAll 40 = .ok (.iastore, 1) := by decide +kernel
theorem dX11_commitAll_41 : decode cX11_commitAll 41 = .ok (.aload_n 0, 1) := by decide +kernel
theorem dX11_commitAll_42 : decode cX11_commitAll 42 = .ok (.iconst 0, 1) := by decide +kernel
theorem dX11_commitAll_43 : decode cX11_commitAll 43 = .ok (.aload_n 0, 1) := by decide +kernel
theorem dX11_commitAll_44 : decode cX11_commitAll 44 = .ok (.getfield 26, 3) := by decide +kernel
theorem dX11_commitAll_47 : decode cX11_commitAll 47 = .ok (.iload_n 2, 1) := by decide +kernel
theorem dX11_commitAll_48 : decode cX11_commitAll 48 = .ok (.iaload, 1) := by decide +kernel
theorem dX11_commitAll_49 : decode cX11_commitAll 49 = .ok (.aload_n 0, 1) := by decide +kernel
theorem dX11_commitAll_50 : decode cX11_commitAll 50 = .ok (.getfield 57, 3) := by decide +kernel
theorem dX11_commitAll_53 : decode cX11_commitAll 53 = .ok (.iload_n 1, 1) := by decide +kernel
theorem dX11_commitAll_54 : decode cX11_commitAll 54 = .ok (.iaload, 1) := by decide +kernel
theorem dX11_commitAll_55 : decode cX11_commitAll 55 = .ok (.invokevirtual 159, 3) := by decide +kernel
theorem dX11_commitAll_58 : decode cX11_commitAll 58 = .ok (.goto 79, 3) := by decide +kernel
theorem dX11_commitAll_61 : decode cX11_commitAll 61 = .ok (.iload_n 3, 1) := by decide +kernel
theorem dX11_commitAll_62 : decode cX11_commitAll 62 = .ok (.bipush 6, 2) := by decide +kernel
theorem dX11_commitAll_64 : decode cX11_commitAll 64 = .ok (.if_icmp .ne 43, 3) := by decide +kernel
theorem dX11_commitAll_67 : decode cX11_commitAll 67 = .ok (.aload_n 0, 1) := by decide +kernel
theorem dX11_commitAll_68 : decode cX11_commitAll 68 = .ok (.getfield 72, 3) := by decide +kernel
theorem dX11_commitAll_71 : decode cX11_commitAll 71 = .ok (.aload_n 0, 1) := by decide +kernel
theorem dX11_commitAll_72 : decode cX11_commitAll 72 = .ok (.iload_n 1, 1) := by decide +kernel
theorem dX11_commitAll_73 : decode cX11_commitAll 73 = .ok (.invokevirtual 156, 3) := by decide +kernel
theorem dX11_commitAll_76 : decode cX11_commitAll 76 = .ok (.aload_n 0, 1) := by decide +kernel
theorem dX11_commitAll_77 : decode cX11_commitAll 77 = .ok (.getfield 54, 3) := by decide +kernel
theorem dX11_commitAll_80 : decode cX11_commitAll 80 = .ok (.iload_n 1, 1) := by decide +kernel
theorem dX11_commitAll_81 : decode cX11_commitAll 81 = .ok (.iaload, 1) := by decide +kernel
theorem dX11_commitAll_82 : decode cX11_commitAll 82 = .ok (.iastore, 1) := by decide +kernel
theorem dX11_commitAll_83 : decode cX11_commitAll 83 = .ok (.aload_n 0, 1) := by decide +kernel
theorem dX11_commitAll_84 : decode cX11_commitAll 84 = .ok (.iconst 1, 1) := by decide +kernel
theorem dX11_commitAll_85 : decode cX11_commitAll 85 = .ok (.putfield 140, 3) := by decide +kernel
theorem dX11_commitAll_88 : decode cX11_commitAll 88 = .ok (.aload_n 0, 1) := by decide +kernel
theorem dX11_commitAll_89 : decode cX11_commitAll 89 = .ok (.iconst 1, 1) := by decide +kernel
theorem dX11_commitAll_90 : decode cX11_commitAll 90 = .ok (.aload_n 0, 1) := by decide +kernel
theorem dX11_commitAll_91 : decode cX11_commitAll 91 = .ok (.iload_n 1, 1) := by decide +kernel
theorem dX11_commitAll_92 : decode cX11_commitAll 92 = .ok (.invokevirtual 156, 3) := by decide +kernel
theorem dX11_commitAll_95 : decode cX11_commitAll 95 = .ok (.aload_n 0, 1) := by decide +kernel
theorem dX11_commitAll_96 : decode cX11_commitAll 96 = .ok (.getfield 54, 3) := by decide +kernel
theorem dX11_commitAll_99 : decode cX11_commitAll 99 = .ok (.iload_n 1, 1) := by decide +kernel
theorem dX11_commitAll_100 : decode cX11_commitAll 100 = .ok (.iaload, 1) := by decide +kernel
theorem dX11_commitAll_101 : decode cX11_commitAll 101 = .ok (.invokevirtual 159, 3) := by decide +kernel
theorem dX11_commitAll_104 : decode cX11_commitAll 104 = .ok (.goto 33, 3) := by decide +kernel
theorem dX11_commitAll_107 : decode cX11_commitAll 107 = .ok (.iload_n 3, 1) := by decide +kernel
theorem dX11_commitAll_108 : decode cX11_commitAll 108 = .ok (.bipush 8, 2) := by decide +kernel
theorem dX11_commitAll_110 : decode cX11_commitAll 110 = .ok (.if_icmp .ne 18, 3) := by decide +kernel
theorem dX11_commitAll_113 : decode cX11_commitAll 113 = .ok (.aload_n 0, 1) := by decide +kernel
theorem dX11_commitAll_114 : decode cX11_commitAll 114 = .ok (.iconst 2, 1) := by decide +kernel
theorem dX11_commitAll_115 : decode cX11_commitAll 115 = .ok (.iconst 0, 1) := by decide +kernel
theorem dX11_commitAll_116 : decode cX11_commitAll 116 = .ok (.aload_n 0, 1) := by decide +kernel
theorem dX11_commitAll_117 : decode cX11_commitAll 117 = .ok (.getfield 51, 3) := by decide +kernel
theorem dX11_commitAll_120 : decode cX11_commitAll 120 = .ok (.iload_n 1, 1) := by decide +kernel
theorem dX11_commitAll_121 : decode cX11_commitAll 121 = .ok (.iaload, 1) := by decide +kernel
theorem dX11_commitAll_122 : decode cX11_commitAll 122 = .ok (.invokevirtual 159, 3) := by decide +kernel
theorem dX11_commitAll_125 : decode cX11_commitAll 125 = .ok (.goto 12, 3) := by decide +kernel
theorem dX11_commitAll_128 : decode cX11_commitAll 128 = .ok (.iload_n 3, 1) := by decide +kernel
theorem dX11_commitAll_129 : decode cX11_commitAll 129 = .ok (.ifCond .ne 8, 3) := by decide +kernel
theorem dX11_commitAll_132 : decode cX11_commitAll 132 = .ok (.aload_n 0, 1) := by decide +kernel
theorem dX11_commitAll_133 : decode cX11_commitAll 133 = .ok (.iconst 1, 1) := by decide +kernel
theorem dX11_commitAll_134 : decode cX11_commitAll 134 = .ok (.putfield 102, 3) := by decide +kernel
theorem dX11_commitAll_137 : decode cX11_commitAll 137 = .ok (.return_, 1) := by decide +kernel
theorem dX11_fire_0 : decode cX11_fire 0 = .ok (.aload_n 0, 1) := by decide +kernel
theorem dX11_fire_1 : decode cX11_fire 1 = .ok (.getfield 44, 3) := by decide +kernel
theorem dX11_fire_4 : decode cX11_fire 4 = .ok (.iload_n 1, 1) := by decide +kernel
theorem dX11_fire_5 : decode cX11_fire 5 = .ok (.iaload, 1) := by decide +kernel
theorem dX11_fire_6 : decode cX11_fire 6 = .ok (.istore_n 2, 1) := by decide +kernel
theorem dX11_fire_7 : decode cX11_fire 7 = .ok (.aload_n 0, 1) := by decide +kernel
theorem dX11_fire_8 : decode cX11_fire 8 = .ok (.iload_n 2, 1) := by decide +kernel
theorem dX11_fire_9 : decode cX11_fire 9 = .ok (.invokevirtual 129, 3) := by decide +kernel
theorem dX11_fire_12 : decode cX11_fire 12 = .ok (.istore_n 3, 1) := by decide +kernel
theorem dX11_fire_13 : decode cX11_fire 13 = .ok (.iload_n 1, 1) := by decide +kernel
theorem dX11_fire_14 : decode cX11_fire 14 = .ok (.aload_n 0, 1) := by decide +kernel
theorem dX11_fire_15 : decode cX11_fire 15 = .ok (.getfield 17, 3) := by decide +kernel
theorem dX11_fire_18 : decode cX11_fire 18 = .ok (.iconst 1, 1) := by decide +kernel
theorem dX11_fire_19 : decode cX11_fire 19 = .ok (.iaload, 1) := by decide +kernel
theorem dX11_fire_20 : decode cX11_fire 20 = .ok (.if_icmp .ne 59, 3) := by decide +kernel
theorem dX11_fire_23 : decode cX11_fire 23 = .ok (.aload_n 0, 1) := by decide +kernel
theorem dX11_fire_24 : decode cX11_fire 24 = .ok (.getfield 51, 3) := by decide +kernel
theorem dX11_fire_27 : decode cX11_fire 27 = .ok (.iload_n 1, 1) := by decide +kernel
theorem dX11_fire_28 : decode cX11_fire 28 = .ok (.iload_n 3, 1) := by decide +kernel
theorem dX11_fire_29 : decode cX11_fire 29 = .ok (.invokestatic 143, 3) := by decide +kernel
theorem dX11_fire_32 : decode cX11_fire 32 = .ok (.ifCond .eq 17, 3) := by decide +kernel
theorem dX11_fire_35 : decode cX11_fire 35 = .ok (.aload_n 0, 1) := by decide +kernel
theorem dX11_fire_36 : decode cX11_fire 36 = .ok (.iload_n 1, 1) := by decide +kernel
theorem dX11_fire_37 : decode cX11_fire 37 = .ok (.aload_n 0, 1) := by decide +kernel
theorem dX11_fire_38 : decode cX11_fire 38 = .ok (.getfield 29, 3) := by decide +kernel
theorem dX11_fire_41 : decode cX11_fire 41 = .ok (.iload_n 2, 1) := by decide +kernel
theorem dX11_fire_42 : decode cX11_fire 42 = .ok (.iaload, 1) := by decide +kernel
theorem dX11_fire_43 : decode cX11_fire 43 = .ok (.invokevirtual 163, 3) := by decide +kernel
theorem dX11_fire_46 : decode cX11_fire 46 = .ok (.goto 4, 3) := by decide +kernel
theorem dX11_fire_49 : decode cX11_fire 49 = .ok (.iconst 0, 1) := by decide +kernel
theorem dX11_fire_50 : decode cX11_fire 50 = .ok (.iastore, 1) := by decide +kernel
theorem dX11_fire_51 : decode cX11_fire 51 = .ok (.aload_n 0, 1) := by decide +kernel
theorem dX11_fire_52 : decode cX11_fire 52 = .ok (.getfield 54, 3) := by decide +kernel
theorem dX11_fire_55 : decode cX11_fire 55 = .ok (.iload_n 1, 1) := by decide +kernel
theorem dX11_fire_56 : decode cX11_fire 56 = .ok (.iload_n 3, 1) := by decide +kernel
theorem dX11_fire_57 : decode cX11_fire 57 = .ok (.invokestatic 150, 3) := by decide +kernel
theorem dX11_fire_60 : decode cX11_fire 60 = .ok (.ifCond .eq 17, 3) := by decide +kernel
theorem dX11_fire_63 : decode cX11_fire 63 = .ok (.aload_n 0, 1) := by decide +kernel
theorem dX11_fire_64 : decode cX11_fire 64 = .ok (.iload_n 1, 1) := by decide +kernel
theorem dX11_fire_65 : decode cX11_fire 65 = .ok (.aload_n 0, 1) := by decide +kernel
theorem dX11_fire_66 : decode cX11_fire 66 = .ok (.getfield 32, 3) := by decide +kernel
theorem dX11_fire_69 : decode cX11_fire 69 = .ok (.iload_n 2, 1) := by decide +kernel
theorem dX11_fire_70 : decode cX11_fire 70 = .ok (.iaload, 1) := by decide +kernel
theorem dX11_fire_71 : decode cX11_fire 71 = .ok (.invokevirtual 163, 3) := by decide +kernel
theorem dX11_fire_74 : decode cX11_fire 74 = .ok (.goto 4, 3) := by decide +kernel
theorem dX11_fire_77 : decode cX11_fire 77 = .ok (.iconst 0, 1) := by decide +kernel
theorem dX11_fire_78 : decode cX11_fire 78 = .ok (.iastore, 1) := by decide +kernel
theorem dX11_fire_79 : decode cX11_fire 79 = .ok (.iload_n 1, 1) := by decide +kernel
theorem dX11_fire_80 : decode cX11_fire 80 = .ok (.aload_n 0, 1) := by decide +kernel
theorem dX11_fire_81 : decode cX11_fire 81 = .ok (.getfield 17, 3) := by decide +kernel
theorem dX11_fire_84 : decode cX11_fire 84 = .ok (.iconst 2, 1) := by decide +kernel
theorem dX11_fire_85 : decode cX11_fire 85 = .ok (.iaload, 1) := by decide +kernel
theorem dX11_fire_86 : decode cX11_fire 86 = .ok (.if_icmp .ne 10, 3) := by decide +kernel
theorem dX11_fire_89 : decode cX11_fire 89 = .ok (.aload_n 0, 1) := by decide +kernel
theorem dX11_fire_90 : decode cX11_fire 90 = .ok (.iload_n 1, 1) := by decide +kernel
theorem dX11_fire_91 : decode cX11_fire 91 = .ok (.iload_n 2, 1) := by decide +kernel
theorem dX11_fire_92 : decode cX11_fire 92 = .ok (.iload_n 3, 1) := by decide +kernel
theorem dX11_fire_93 : decode cX11_fire 93 = .ok (.invokevirtual 166, 3) := by decide +kernel
theorem dX11_fire_96 : decode cX11_fire 96 = .ok (.iload_n 1, 1) := by decide +kernel
theorem dX11_fire_97 : decode cX11_fire 97 = .ok (.aload_n 0, 1) := by decide +kernel
theorem dX11_fire_98 : decode cX11_fire 98 = .ok (.getfield 17, 3) := by decide +kernel
theorem dX11_fire_101 : decode cX11_fire 101 = .ok (.iconst 3, 1) := by decide +kernel
theorem dX11_fire_102 : decode cX11_fire 102 = .ok (.iaload, 1) := by decide +kernel
theorem dX11_fire_103 : decode cX11_fire 103 = .ok (.if_icmp .ne 63, 3) := by decide +kernel
theorem dX11_fire_106 : decode cX11_fire 106 = .ok (.iload_n 3, 1) := by decide +kernel
theorem dX11_fire_107 : decode cX11_fire 107 = .ok (.bipush 9, 2) := by decide +kernel
theorem dX11_fire_109 : decode cX11_fire 109 = .ok (.if_icmp .eq 24, 3) := by decide +kernel
theorem dX11_fire_112 : decode cX11_fire 112 = .ok (.iload_n 3, 1) := by decide +kernel
theorem dX11_fire_113 : decode cX11_fire 113 = .ok (.bipush 7, 2) := by decide +kernel
theorem dX11_fire_115 : decode cX11_fire 115 = .ok (.if_icmp .ne 51, 3) := by decide +kernel
theorem dX11_fire_118 : decode cX11_fire 118 = .ok (.aload_n 0, 1) := by decide +kernel
theorem dX11_fire_119 : decode cX11_fire 119 = .ok (.getfield 51, 3) := by decide +kernel
theorem dX11_fire_122 : decode cX11_fire 122 = .ok (.iload_n 1, 1) := by decide +kernel
theorem dX11_fire_123 : decode cX11_fire 123 = .ok (.iaload, 1) := by decide +kernel
theorem dX11_fire_124 : decode cX11_fire 124 = .ok (.aload_n 0, 1) := by decide +kernel
theorem dX11_fire_125 : decode cX11_fire 125 = .ok (.getfield 54, 3) := by decide +kernel
theorem dX11_fire_128 : decode cX11_fire 128 = .ok (.iload_n 1, 1) := by decide +kernel
theorem dX11_fire_129 : decode cX11_fire 129 = .ok (.iaload, 1) := by decide +kernel
theorem dX11_fire_130 : decode cX11_fire 130 = .ok (.if_icmp .ne 36, 3) := by decide +kernel
theorem dX11_fire_133 : decode cX11_fire 133 = .ok (.iconst 0, 1) := by decide +kernel
theorem dX11_fire_134 : decode cX11_fire 134 = .ok (.istore 4, 2) := by decide +kernel
theorem dX11_fire_136 : decode cX11_fire 136 = .ok (.iload 4, 2) := by decide +kernel
theorem dX11_fire_138 : decode cX11_fire 138 = .ok (.iload_n 1, 1) := by decide +kernel
theorem dX11_fire_139 : decode cX11_fire 139 = .ok (.if_icmp .ge 17, 3) := by decide +kernel
theorem dX11_fire_142 : decode cX11_fire 142 = .ok (.aload_n 0, 1) := by decide +kernel
theorem dX11_fire_143 : decode cX11_fire 143 = .ok (.getfield 47, 3) := by decide +kernel
theorem dX11_fire_146 : decode cX11_fire 146 = .ok (.iload 4, 2) := by decide +kernel
theorem dX11_fire_148 : decode cX11_fire 148 = .ok (.iconst 0, 1) := by decide +kernel
theorem dX11_fire_149 : decode cX11_fire 149 = .ok (.bastore, 1) := by decide +kernel
theorem dX11_fire_150 : decode cX11_fire 150 = .ok (.iinc 4 1, 3) := by decide +kernel
theorem dX11_fire_153 : decode cX11_fire 153 = .ok (.goto (-17), 3) := by decide +kernel
theorem dX11_fire_156 : decode cX11_fire 156 = .ok (.aload_n 0, 1) := by decide +kernel
theorem dX11_fire_157 : decode cX11_fire 157 = .ok (.aload_n 0, 1) := by decide +kernel
theorem dX11_fire_158 : decode cX11_fire 158 = .ok (.getfield 35, 3) := by decide +kernel
theorem dX11_fire_161 : decode cX11_fire 161 = .ok (.iload_n 2, 1) := by decide +kernel
theorem dX11_fire_162 : decode cX11_fire 162 = .ok (.iaload, 1) := by decide +kernel
theorem dX11_fire_163 : decode cX11_fire 163 = .ok (.putfield 106, 3) := by decide +kernel
theorem dX11_fire_166 : decode cX11_fire 166 = .ok (.iload_n 1, 1) := by decide +kernel
theorem dX11_fire_167 : decode cX11_fire 167 = .ok (.aload_n 0, 1) := by decide +kernel
theorem dX11_fire_168 : decode cX11_fire 168 = .ok (.getfield 17, 3) := by decide +kernel
theorem dX11_fire_171 : decode cX11_fire 171 = .ok (.iconst 4, 1) := by decide +kernel
theorem dX11_fire_172 : decode cX11_fire 172 = .ok (.iaload, 1) := by decide +kernel
theorem dX11_fire_173 : decode cX11_fire 173 = .ok (.if_icmp .ne 34, 3) := by decide +kernel
theorem dX11_fire_176 : decode cX11_fire 176 = .ok (.iload_n 3, 1) := by decide +kernel
theorem dX11_fire_177 : decode cX11_fire 177 = .ok (.iconst 5, 1) := by decide +kernel
theorem dX11_fire_178 : decode cX11_fire 178 = .ok (.if_icmp .ne 29, 3) := by decide +kernel
theorem dX11_fire_181 : decode cX11_fire 181 = .ok (.aload_n 0, 1) := by decide +kernel
theorem dX11_fire_182 : decode cX11_fire 182 = .ok (.getfield 60, 3) := by decide +kernel
theorem dX11_fire_185 : decode cX11_fire 185 = .ok (.iload_n 1, 1) := by decide +kernel
theorem dX11_fire_186 : decode cX11_fire 186 = .ok (.aload_n 0, 1) := by decide +kernel
theorem dX11_fire_187 : decode cX11_fire 187 = .ok (.getfield 99, 3) := by decide +kernel
theorem dX11_fire_190 : decode cX11_fire 190 = .ok (.iastore, 1) := by decide +kernel
theorem dX11_fire_191 : decode cX11_fire 191 = .ok (.aload_n 0, 1) := by decide +kernel
theorem dX11_fire_192 : decode cX11_fire 192 = .ok (.getfield 57, 3) := by decide +kernel
theorem dX11_fire_195 : decode cX11_fire 195 = .ok (.iload_n 1, 1) := by decide +kernel
theorem dX11_fire_196 : decode cX11_fire 196 = .ok (.aload_n 0, 1) := by decide +kernel
theorem dX11_fire_197 : decode cX11_fire 197 = .ok (.getfield 72, 3) := by decide +kernel
theorem dX11_fire_200 : decode cX11_fire 200 = .ok (.aload_n 0, 1) := by decide +kernel
theorem dX11_fire_201 : decode cX11_fire 201 = .ok (.iload_n 1, 1) := by decide +kernel
theorem dX11_fire_202 : decode cX11_fire 202 = .ok (.invokevirtual 156, 3) := by decide +kernel
theorem dX11_fire_205 : decode cX11_fire 205 = .ok (.iaload, 1) := by decide +kernel
theorem dX11_fire_206 : decode cX11_fire 206 = .ok (.iastore, 1) := by decide +kernel
theorem dX11_fire_207 : decode cX11_fire 207 = .ok (.iload_n 1, 1) := by decide +kernel
theorem dX11_fire_208 : decode cX11_fire 208 = .ok (.aload_n 0, 1) := by decide +kernel
theorem dX11_fire_209 : decode cX11_fire 209 = .ok (.getfield 17, 3) := by decide +kernel
theorem dX11_fire_212 : decode cX11_fire 212 = .ok (.bipush 6, 2) := by decide +kernel
theorem dX11_fire_214 : decode cX11_fire 214 = .ok (.iaload, 1) := by decide +kernel
theorem dX11_fire_215 : decode cX11_fire 215 = .ok (.if_icmp .ne 10, 3) := by decide +kernel
theorem dX11_fire_218 : decode cX11_fire 218 = .ok (.aload_n 0, 1) := by decide +kernel
theorem dX11_fire_219 : decode cX11_fire 219 = .ok (.iload_n 1, 1) := by decide +kernel
theorem dX11_fire_220 : decode cX11_fire 220 = .ok (.iload_n 2, 1) := by decide +kernel
theorem dX11_fire_221 : decode cX11_fire 221 = .ok (.iload_n 3, 1) := by decide +kernel
theorem dX11_fire_222 : decode cX11_fire 222 = .ok (.invokevirtual 169, 3) := by decide +kernel
theorem dX11_fire_225 : decode cX11_fire 225 = .ok (.aload_n 0, 1) := by decide +kernel
theorem dX11_fire_226 : decode cX11_fire 226 = .ok (.getfield 47, 3) := by decide +kernel
theorem dX11_fire_229 : decode cX11_fire 229 = .ok (.iload_n 1, 1) := by decide +kernel
theorem dX11_fire_230 : decode cX11_fire 230 = .ok (.iconst 0, 1) := by decide +kernel
theorem dX11_fire_231 : decode cX11_fire 231 = .ok (.bastore, 1) := by decide +kernel
theorem dX11_fire_232 : decode cX11_fire 232 = .ok (.iload_n 1, 1) := by decide +kernel
theorem dX11_fire_233 : decode cX11_fire 233 = .ok (.iconst 1, 1) := by decide +kernel
theorem dX11_fire_234 : decode cX11_fire 234 = .ok (.iadd, 1) := by decide +kernel
theorem dX11_fire_235 : decode cX11_fire 235 = .ok (.aload_n 0, 1) := by decide +kernel
theorem dX11_fire_236 : decode cX11_fire 236 = .ok (.getfield 13, 3) := by decide +kernel
theorem dX11_fire_239 : decode cX11_fire 239 = .ok (.if_icmp .ne 14, 3) := by decide +kernel
theorem dX11_fire_242 : decode cX11_fire 242 = .ok (.aload_n 0, 1) := by decide +kernel
theorem dX11_fire_243 : decode cX11_fire 243 = .ok (.dup, 1) := by decide +kernel
theorem dX11_fire_244 : decode cX11_fire 244 = .ok (.getfield 109, 3) := by decide +kernel
theorem dX11_fire_247 : decode cX11_fire 247 = .ok (.iconst 1, 1) := by decide +kernel
theorem dX11_fire_248 : decode cX11_fire 248 = .ok (.iadd, 1) := by decide +kernel
theorem dX11_fire_249 : decode cX11_fire 249 = .ok (.putfield 109, 3) := by decide +kernel
theorem dX11_fire_252 : decode cX11_fire 252 = .ok (.return_, 1) := by decide +kernel
theorem dX11_fire_253 : decode cX11_fire 253 = .ok (.aload_n 0, 1) := by decide +kernel
theorem dX11_fire_254 : decode cX11_fire 254 = .ok (.getfield 47, 3) := by decide +kernel
theorem dX11_fire_257 : decode cX11_fire 257 = .ok (.iload_n 1, 1) := by decide +kernel
theorem dX11_fire_258 : decode cX11_fire 258 = .ok (.iconst 1, 1) := by decide +kernel
theorem dX11_fire_259 : decode cX11_fire 259 = .ok (.iadd, 1) := by decide +kernel
theorem dX11_fire_260 : decode cX11_fire 260 = .ok (.iconst 1, 1) := by decide +kernel
theorem dX11_fire_261 : decode cX11_fire 261 = .ok (.bastore, 1) := by decide +kernel
theorem dX11_fire_262 : decode cX11_fire 262 = .ok (.aload_n 0, 1) := by decide +kernel
theorem dX11_fire_263 : decode cX11_fire 263 = .ok (.getfield 44, 3) := by decide +kernel
theorem dX11_fire_266 : decode cX11_fire 266 = .ok (.iload_n 1, 1) := by decide +kernel
theorem dX11_fire_267 : decode cX11_fire 267 = .ok (.iconst 1, 1) := by decide +kernel
theorem dX11_fire_268 : decode cX11_fire 268 = .ok (.iadd, 1) := by decide +kernel
theorem dX11_fire_269 : decode cX11_fire 269 = .ok (.iload_n 2, 1) := by decide +kernel
theorem dX11_fire_270 : decode cX11_fire 270 = .ok (.iastore, 1) := by decide +kernel
theorem dX11_fire_271 : decode cX11_fire 271 = .ok (.aload_n 0, 1) := by decide +kernel
theorem dX11_fire_272 : decode cX11_fire 272 = .ok (.getfield 51, 3) := by decide +kernel
theorem dX11_fire_275 : decode cX11_fire 275 = .ok (.iload_n 1, 1) := by decide +kernel
theorem dX11_fire_276 : decode cX11_fire 276 = .ok (.iconst 1, 1) := by decide +kernel
theorem dX11_fire_277 : decode cX11_fire 277 = .ok (.iadd, 1) := by decide +kernel
theorem dX11_fire_278 : decode cX11_fire 278 = .ok (.aload_n 0, 1) := by decide +kernel
theorem dX11_fire_279 : decode cX11_fire 279 = .ok (.getfield 51, 3) := by decide +kernel
theorem dX11_fire_282 : decode cX11_fire 282 = .ok (.iload_n 1, 1) := by decide +kernel
theorem dX11_fire_283 : decode cX11_fire 283 = .ok (.iaload, 1) := by decide +kernel
theorem dX11_fire_284 : decode cX11_fire 284 = .ok (.iastore, 1) := by decide +kernel
theorem dX11_fire_285 : decode cX11_fire 285 = .ok (.aload_n 0, 1) := by decide +kernel
theorem dX11_fire_286 : decode cX11_fire 286 = .ok (.getfield 54, 3) := by decide +kernel
theorem dX11_fire_289 : decode cX11_fire 289 = .ok (.iload_n 1, 1) := by decide +kernel
theorem dX11_fire_290 : decode cX11_fire 290 = .ok (.iconst 1, 1) := by decide +kernel
theorem dX11_fire_291 : decode cX11_fire 291 = .ok (.iadd, 1) := by decide +kernel
theorem dX11_fire_292 : decode cX11_fire 292 = .ok (.aload_n 0, 1) := by decide +kernel
theorem dX11_fire_293 : decode cX11_fire 293 = .ok (.getfield 54, 3) := by decide +kernel
theorem dX11_fire_296 : decode cX11_fire 296 = .ok (.iload_n 1, 1) := by decide +kernel
theorem dX11_fire_297 : decode cX11_fire 297 = .ok (.iaload, 1) := by decide +kernel
theorem dX11_fire_298 : decode cX11_fire 298 = .ok (.iastore, 1) := by decide +kernel
theorem dX11_fire_299 : decode cX11_fire 299 = .ok (.aload_n 0, 1) := by decide +kernel
theorem dX11_fire_300 : decode cX11_fire 300 = .ok (.getfield 57, 3) := by decide +kernel
theorem dX11_fire_303 : decode cX11_fire 303 = .ok (.iload_n 1, 1) := by decide +kernel
theorem dX11_fire_304 : decode cX11_fire 304 = .ok (.iconst 1, 1) := by decide +kernel
theorem dX11_fire_305 : decode cX11_fire 305 = .ok (.iadd, 1) := by decide +kernel
theorem dX11_fire_306 : decode cX11_fire 306 = .ok (.aload_n 0, 1) := by decide +kernel
theorem dX11_fire_307 : decode cX11_fire 307 = .ok (.getfield 57, 3) := by decide +kernel
theorem dX11_fire_310 : decode cX11_fire 310 = .ok (.iload_n 1, 1) := by decide +kernel
theorem dX11_fire_311 : decode cX11_fire 311 = .ok (.iaload, 1) := by decide +kernel
theorem dX11_fire_312 : decode cX11_fire 312 = .ok (.iastore, 1) := by decide +kernel
theorem dX11_fire_313 : decode cX11_fire 313 = .ok (.aload_n 0, 1) := by decide +kernel
theorem dX11_fire_314 : decode cX11_fire 314 = .ok (.getfield 60, 3) := by decide +kernel
theorem dX11_fire_317 : decode cX11_fire 317 = .ok (.iload_n 1, 1) := by decide +kernel
theorem dX11_fire_318 : decode cX11_fire 318 = .ok (.iconst 1, 1) := by decide +kernel
theorem dX11_fire_319 : decode cX11_fire 319 = .ok (.iadd, 1) := by decide +kernel
theorem dX11_fire_320 : decode cX11_fire 320 = .ok (.aload_n 0, 1) := by decide +kernel
theorem dX11_fire_321 : decode cX11_fire 321 = .ok (.getfield 60, 3) := by decide +kernel
theorem dX11_fire_324 : decode cX11_fire 324 = .ok (.iload_n 1, 1) := by decide +kernel
theorem dX11_fire_325 : decode cX11_fire 325 = .ok (.iaload, 1) := by decide +kernel
theorem dX11_fire_326 : decode cX11_fire 326 = .ok (.iastore, 1) := by decide +kernel
theorem dX11_fire_327 : decode cX11_fire 327 = .ok (.aload_n 0, 1) := by decide +kernel
theorem dX11_fire_328 : decode cX11_fire 328 = .ok (.getfield 63, 3) := by decide +kernel
theorem dX11_fire_331 : decode cX11_fire 331 = .ok (.iload_n 1, 1) := by decide +kernel
theorem dX11_fire_332 : decode cX11_fire 332 = .ok (.iconst 1, 1) := by decide +kernel
theorem dX11_fire_333 : decode cX11_fire 333 = .ok (.iadd, 1) := by decide +kernel
theorem dX11_fire_334 : decode cX11_fire 334 = .ok (.aload_n 0, 1) := by decide +kernel
theorem dX11_fire_335 : decode cX11_fire 335 = .ok (.getfield 99, 3) := by decide +kernel
theorem dX11_fire_338 : decode cX11_fire 338 = .ok (.iastore, 1) := by decide +kernel
theorem dX11_fire_339 : decode cX11_fire 339 = .ok (.return_, 1) := by decide +kernel
theorem dX11_oneCycle_0 : decode cX11_oneCycle 0 = .ok (.aload_n 0, 1) := by decide +kernel
theorem dX11_oneCycle_1 : decode cX11_oneCycle 1 = .ok (.dup, 1) := by decide +kernel
theorem dX11_oneCycle_2 : decode cX11_oneCycle 2 = .ok (.getfield 99, 3) := by decide +kernel
theorem dX11_oneCycle_5 : decode cX11_oneCycle 5 = .ok (.iconst 1, 1) := by decide +kernel
theorem dX11_oneCycle_6 : decode cX11_oneCycle 6 = .ok (.iadd, 1) := by decide +kernel
theorem dX11_oneCycle_7 : decode cX11_oneCycle 7 = .ok (.putfield 99, 3) := by decide +kernel
theorem dX11_oneCycle_10 : decode cX11_oneCycle 10 = .ok (.aload_n 0, 1) := by decide +kernel
theorem dX11_oneCycle_11 : decode cX11_oneCycle 11 = .ok (.iconst 0, 1) := by decide +kernel
theorem dX11_oneCycle_12 : decode cX11_oneCycle 12 = .ok (.putfield 140, 3) := by decide +kernel
theorem dX11_oneCycle_15 : decode cX11_oneCycle 15 = .ok (.aload_n 0, 1) := by decide +kernel
theorem dX11_oneCycle_16 : decode cX11_oneCycle 16 = .ok (.getfield 47, 3) := by decide +kernel
theorem dX11_oneCycle_19 : decode cX11_oneCycle 19 = .ok (.iconst 0, 1) := by decide +kernel
theorem dX11_oneCycle_20 : decode cX11_oneCycle 20 = .ok (.baload, 1) := by decide +kernel
theorem dX11_oneCycle_21 : decode cX11_oneCycle 21 = .ok (.ifCond .ne 65, 3) := by decide +kernel
theorem dX11_oneCycle_24 : decode cX11_oneCycle 24 = .ok (.aload_n 0, 1) := by decide +kernel
theorem dX11_oneCycle_25 : decode cX11_oneCycle 25 = .ok (.getfield 47, 3) := by decide +kernel
theorem dX11_oneCycle_28 : decode cX11_oneCycle 28 = .ok (.iconst 0, 1) := by decide +kernel
theorem dX11_oneCycle_29 : decode cX11_oneCycle 29 = .ok (.iconst 1, 1) := by decide +kernel
theorem dX11_oneCycle_30 : decode cX11_oneCycle 30 = .ok (.bastore, 1) := by decide +kernel
theorem dX11_oneCycle_31 : decode cX11_oneCycle 31 = .ok (.aload_n 0, 1) := by decide +kernel
theorem dX11_oneCycle_32 : decode cX11_oneCycle 32 = .ok (.getfield 44, 3) := by decide +kernel
theorem dX11_oneCycle_35 : decode cX11_oneCycle 35 = .ok (.iconst 0, 1) := by decide +kernel
theorem dX11_oneCycle_36 : decode cX11_oneCycle 36 = .ok (.aload_n 0, 1) := by decide +kernel
theorem dX11_oneCycle_37 : decode cX11_oneCycle 37 = .ok (.getfield 106, 3) := by decide +kernel
theorem dX11_oneCycle_40 : decode cX11_oneCycle 40 = .ok (.iastore, 1) := by decide +kernel
theorem dX11_oneCycle_41 : decode cX11_oneCycle 41 = .ok (.aload_n 0, 1) := by decide +kernel
theorem dX11_oneCycle_42 : decode cX11_oneCycle 42 = .ok (.dup, 1) := by decide +kernel
theorem dX11_oneCycle_43 : decode cX11_oneCycle 43 = .ok (.getfield 106, 3) := by decide +kernel
theorem dX11_oneCycle_46 : decode cX11_oneCycle 46 = .ok (.iconst 1, 1) := by decide +kernel
theorem dX11_oneCycle_47 : decode cX11_oneCycle 47 = .ok (.iadd, 1) := by decide +kernel
theorem dX11_oneCycle_48 : decode cX11_oneCycle 48 = .ok (.putfield 106, 3) := by decide +kernel
theorem dX11_oneCycle_51 : decode cX11_oneCycle 51 = .ok (.aload_n 0, 1) := by decide +kernel
theorem dX11_oneCycle_52 : decode cX11_oneCycle 52 = .ok (.getfield 51, 3) := by decide +kernel
theorem dX11_oneCycle_55 : decode cX11_oneCycle 55 = .ok (.iconst 0, 1) := by decide +kernel
theorem dX11_oneCycle_56 : decode cX11_oneCycle 56 = .ok (.iconst 0, 1) := by decide +kernel
theorem dX11_oneCycle_57 : decode cX11_oneCycle 57 = .ok (.iastore, 1) := by decide +kernel
theorem dX11_oneCycle_58 : decode cX11_oneCycle 58 = .ok (.aload_n 0, 1) := by decide +kernel
theorem dX11_oneCycle_59 : decode cX11_oneCycle 59 = .ok (.getfield 54, 3) := by decide +kernel
theorem dX11_oneCycle_62 : decode cX11_oneCycle 62 = .ok (.iconst 0, 1) := by decide +kernel
theorem dX11_oneCycle_63 : decode cX11_oneCycle 63 = .ok (.iconst 0, 1) := by decide +kernel
theorem dX11_oneCycle_64 : decode cX11_oneCycle 64 = .ok (.iastore, 1) := by decide +kernel
theorem dX11_oneCycle_65 : decode cX11_oneCycle 65 = .ok (.aload_n 0, 1) := by decide +kernel
theorem dX11_oneCycle_66 : decode cX11_oneCycle 66 = .ok (.getfield 57, 3) := by decide +kernel
theorem dX11_oneCycle_69 : decode cX11_oneCycle 69 = .ok (.iconst 0, 1) := by decide +kernel
theorem dX11_oneCycle_70 : decode cX11_oneCycle 70 = .ok (.iconst 0, 1) := by decide +kernel
theorem dX11_oneCycle_71 : decode cX11_oneCycle 71 = .ok (.iastore, 1) := by decide +kernel
theorem dX11_oneCycle_72 : decode cX11_oneCycle 72 = .ok (.aload_n 0, 1) := by decide +kernel
theorem dX11_oneCycle_73 : decode cX11_oneCycle 73 = .ok (.getfield 60, 3) := by decide +kernel
theorem dX11_oneCycle_76 : decode cX11_oneCycle 76 = .ok (.iconst 0, 1) := by decide +kernel
theorem dX11_oneCycle_77 : decode cX11_oneCycle 77 = .ok (.iconst 0, 1) := by decide +kernel
theorem dX11_oneCycle_78 : decode cX11_oneCycle 78 = .ok (.iastore, 1) := by decide +kernel
theorem dX11_oneCycle_79 : decode cX11_oneCycle 79 = .ok (.aload_n 0, 1) := by decide +kernel
theorem dX11_oneCycle_80 : decode cX11_oneCycle 80 = .ok (.getfield 63, 3) := by decide +kernel
theorem dX11_oneCycle_83 : decode cX11_oneCycle 83 = .ok (.iconst 0, 1) := by decide +kernel
theorem dX11_oneCycle_84 : decode cX11_oneCycle 84 = .ok (.iconst 0, 1) := by decide +kernel
theorem dX11_oneCycle_85 : decode cX11_oneCycle 85 = .ok (.iastore, 1) := by decide +kernel
theorem dX11_oneCycle_86 : decode cX11_oneCycle 86 = .ok (.aload_n 0, 1) := by decide +kernel
theorem dX11_oneCycle_87 : decode cX11_oneCycle 87 = .ok (.getfield 13, 3) := by decide +kernel
theorem dX11_oneCycle_90 : decode cX11_oneCycle 90 = .ok (.iconst 1, 1) := by decide +kernel
theorem dX11_oneCycle_91 : decode cX11_oneCycle 91 = .ok (.isub, 1) := by decide +kernel
theorem dX11_oneCycle_92 : decode cX11_oneCycle 92 = .ok (.istore_n 1, 1) := by decide +kernel
theorem dX11_oneCycle_93 : decode cX11_oneCycle 93 = .ok (.iload_n 1, 1) := by decide +kernel
theorem dX11_oneCycle_94 : decode cX11_oneCycle 94 = .ok (.ifCond .lt 31, 3) := by decide +kernel
theorem dX11_oneCycle_97 : decode cX11_oneCycle 97 = .ok (.aload_n 0, 1) := by decide +kernel
theorem dX11_oneCycle_98 : decode cX11_oneCycle 98 = .ok (.getfield 47, 3) := by decide +kernel
theorem dX11_oneCycle_101 : decode cX11_oneCycle 101 = .ok (.iload_n 1, 1) := by decide +kernel
theorem dX11_oneCycle_102 : decode cX11_oneCycle 102 = .ok (.baload, 1) := by decide +kernel
theorem dX11_oneCycle_103 : decode cX11_oneCycle 103 = .ok (.ifCond .eq 16, 3) := by decide +kernel
theorem dX11_oneCycle_106 : decode cX11_oneCycle 106 = .ok (.aload_n 0, 1) := by decide +kernel
theorem dX11_oneCycle_107 : decode cX11_oneCycle 107 = .ok (.iload_n 1, 1) := by decide +kernel
theorem dX11_oneCycle_108 : decode cX11_oneCycle 108 = .ok (.invokevirtual 172, 3) := by decide +kernel
theorem dX11_oneCycle_111 : decode cX11_oneCycle 111 = .ok (.ifCond .eq 8, 3) := by decide +kernel
theorem dX11_oneCycle_114 : decode cX11_oneCycle 114 = .ok (.aload_n 0, 1) := by decide +kernel
theorem dX11_oneCycle_115 : decode cX11_oneCycle 115 = .ok (.iload_n 1, 1) := by decide +kernel
theorem dX11_oneCycle_116 : decode cX11_oneCycle 116 = .ok (.invokevirtual 175, 3) := by decide +kernel
theorem dX11_oneCycle_119 : decode cX11_oneCycle 119 = .ok (.iinc 1 (-1), 3) := by decide +kernel
theorem dX11_oneCycle_122 : decode cX11_oneCycle 122 = .ok (.goto (-29), 3) := by decide +kernel
theorem dX11_oneCycle_125 : decode cX11_oneCycle 125 = .ok (.return_, 1) := by decide +kernel
theorem dX11_run_0 : decode cX11_run 0 = .ok (.iload_n 1, 1) := by decide +kernel
theorem dX11_run_1 : decode cX11_run 1 = .ok (.iconst 1, 1) := by decide +kernel
theorem dX11_run_2 : decode cX11_run 2 = .ok (.sipush 3000, 3) := by decide +kernel
theorem dX11_run_5 : decode cX11_run 5 = .ok (.invokestatic 115, 3) := by decide +kernel
theorem dX11_run_8 : decode cX11_run 8 = .ok (.ifCond .ne 5, 3) := by decide +kernel
theorem dX11_run_11 : decode cX11_run 11 = .ok (.iconst (-1), 1) := by decide +kernel
theorem dX11_run_12 : decode cX11_run 12 = .ok (.ireturn, 1) := by decide +kernel
theorem dX11_run_13 : decode cX11_run 13 = .ok (.iconst 0, 1) := by decide +kernel
theorem dX11_run_14 : decode cX11_run 14 = .ok (.istore_n 2, 1) := by decide +kernel
theorem dX11_run_15 : decode cX11_run 15 = .ok (.iload_n 2, 1) := by decide +kernel
theorem dX11_run_16 : decode cX11_run 16 = .ok (.iload_n 1, 1) := by decide +kernel
theorem dX11_run_17 : decode cX11_run 17 = .ok (.if_icmp .ge 20, 3) := by decide +kernel
theorem dX11_run_20 : decode cX11_run 20 = .ok (.aload_n 0, 1) := by decide +kernel
theorem dX11_run_21 : decode cX11_run 21 = .ok (.getfield 102, 3) := by decide +kernel
theorem dX11_run_24 : decode cX11_run 24 = .ok (.ifCond .ne 13, 3) := by decide +kernel
theorem dX11_run_27 : decode cX11_run 27 = .ok (.aload_n 0, 1) := by decide +kernel
theorem dX11_run_28 : decode cX11_run 28 = .ok (.invokevirtual 179, 3) := by decide +kernel
theorem dX11_run_31 : decode cX11_run 31 = .ok (.iinc 2 1, 3) := by decide +kernel
theorem dX11_run_34 : decode cX11_run 34 = .ok (.goto (-19), 3) := by decide +kernel
theorem dX11_run_37 : decode cX11_run 37 = .ok (.aload_n 0, 1) := by decide +kernel
theorem dX11_run_38 : decode cX11_run 38 = .ok (.getfield 99, 3) := by decide +kernel
theorem dX11_run_41 : decode cX11_run 41 = .ok (.ireturn, 1) := by decide +kernel
theorem dX11_cycle_0 : decode cX11_cycle 0 = .ok (.aload_n 0, 1) := by decide +kernel
theorem dX11_cycle_1 : decode cX11_cycle 1 = .ok (.getfield 99, 3) := by decide +kernel
theorem dX11_cycle_4 : decode cX11_cycle 4 = .ok (.ireturn, 1) := by decide +kernel
theorem dX11_ended_0 : decode cX11_ended 0 = .ok (.aload_n 0, 1) := by decide +kernel
theorem dX11_ended_1 : decode cX11_ended 1 = .ok (.getfield 102, 3) := by decide +kernel
theorem dX11_ended_4 : decode cX11_ended 4 = .ok (.ireturn, 1) := by decide +kernel
theorem dX11_commits_0 : decode cX11_commits 0 = .ok (.aload_n 0, 1) := by decide +kernel
theorem dX11_commits_1 : decode cX11_commits 1 = .ok (.getfield 112, 3) := by decide +kernel
theorem dX11_commits_4 : decode cX11_commits 4 = .ok (.ireturn, 1) := by decide +kernel
theorem dX11_commit_0 : decode cX11_commit 0 = .ok (.iload_n 1, 1) := by decide +kernel
theorem dX11_commit_1 : decode cX11_commit 1 = .ok (.ifCond .lt 27, 3) := by decide +kernel
theorem dX11_commit_4 : decode cX11_commit 4 = .ok (.iload_n 1, 1) := by decide +kernel
theorem dX11_commit_5 : decode cX11_commit 5 = .ok (.aload_n 0, 1) := by decide +kernel
theorem dX11_commit_6 : decode cX11_commit 6 = .ok (.getfield 112, 3) := by decide +kernel
theorem dX11_commit_9 : decode cX11_commit 9 = .ok (.if_icmp .ge 19, 3) := by decide +kernel
theorem dX11_commit_12 : decode cX11_commit 12 = .ok (.iload_n 1, 1) := by decide +kernel
theorem dX11_commit_13 : decode cX11_commit 13 = .ok (.sipush 1000, 3) := by decide +kernel
theorem dX11_commit_16 : decode cX11_commit 16 = .ok (.if_icmp .ge 12, 3) := by decide +kernel
theorem dX11_commit_19 : decode cX11_commit 19 = .ok (.iload_n 2, 1) := by decide +kernel
theorem dX11_commit_20 : decode cX11_commit 20 = .ok (.iconst 0, 1) := by decide +kernel
theorem dX11_commit_21 : decode cX11_commit 21 = .ok (.iconst 3, 1) := by decide +kernel
theorem dX11_commit_22 : decode cX11_commit 22 = .ok (.invokestatic 115, 3) := by decide +kernel
theorem dX11_commit_25 : decode cX11_commit 25 = .ok (.ifCond .ne 6, 3) := by decide +kernel
theorem dX11_commit_28 : decode cX11_commit 28 = .ok (.bipush (-2), 2) := by decide +kernel
theorem dX11_commit_30 : decode cX11_commit 30 = .ok (.ireturn, 1) := by decide +kernel
theorem dX11_commit_31 : decode cX11_commit 31 = .ok (.iload_n 2, 1) := by decide +kernel
theorem dX11_commit_32 : decode cX11_commit 32 = .ok (.ifCond .ne 12, 3) := by decide +kernel
theorem dX11_commit_35 : decode cX11_commit 35 = .ok (.aload_n 0, 1) := by decide +kernel
theorem dX11_commit_36 : decode cX11_commit 36 = .ok (.getfield 75, 3) := by decide +kernel
theorem dX11_commit_39 : decode cX11_commit 39 = .ok (.iload_n 1, 1) := by decide +kernel
theorem dX11_commit_40 : decode cX11_commit 40 = .ok (.iaload, 1) := by decide +kernel
theorem dX11_commit_41 : decode cX11_commit 41 = .ok (.goto 37, 3) := by decide +kernel
theorem dX11_commit_44 : decode cX11_commit 44 = .ok (.iload_n 2, 1) := by decide +kernel
theorem dX11_commit_45 : decode cX11_commit 45 = .ok (.iconst 1, 1) := by decide +kernel
theorem dX11_commit_46 : decode cX11_commit 46 = .ok (.if_icmp .ne 12, 3) := by decide +kernel
theorem dX11_commit_49 : decode cX11_commit 49 = .ok (.aload_n 0, 1) := by decide +kernel
theorem dX11_commit_50 : decode cX11_commit 50 = .ok (.getfield 78, 3) := by decide +kernel
theorem dX11_commit_53 : decode cX11_commit 53 = .ok (.iload_n 1, 1) := by decide +kernel
theorem dX11_commit_54 : decode cX11_commit 54 = .ok (.iaload, 1) := by decide +kernel
theorem dX11_commit_55 : decode cX11_commit 55 = .ok (.goto 23, 3) := by decide +kernel
theorem dX11_commit_58 : decode cX11_commit 58 = .ok (.iload_n 2, 1) := by decide +kernel
theorem dX11_commit_59 : decode cX11_commit 59 = .ok (.iconst 2, 1) := by decide +kernel
theorem dX11_commit_60 : decode cX11_commit 60 = .ok (.if_icmp .ne 12, 3) := by decide +kernel
theorem dX11_commit_63 : decode cX11_commit 63 = .ok (.aload_n 0, 1) := by decide +kernel
theorem dX11_commit_64 : decode cX11_commit 64 = .ok (.getfield 81, 3) := by decide +kernel
theorem dX11_commit_67 : decode cX11_commit 67 = .ok (.iload_n 1, 1) := by decide +kernel
theorem dX11_commit_68 : decode cX11_commit 68 = .ok (.iaload, 1) := by decide +kernel
theorem dX11_commit_69 : decode cX11_commit 69 = .ok (.goto 9, 3) := by decide +kernel
theorem dX11_commit_72 : decode cX11_commit 72 = .ok (.aload_n 0, 1) := by decide +kernel
theorem dX11_commit_73 : decode cX11_commit 73 = .ok (.getfield 84, 3) := by decide +kernel
theorem dX11_commit_76 : decode cX11_commit 76 = .ok (.iload_n 1, 1) := by decide +kernel
theorem dX11_commit_77 : decode cX11_commit 77 = .ok (.iaload, 1) := by decide +kernel
theorem dX11_commit_78 : decode cX11_commit 78 = .ok (.ireturn, 1) := by decide +kernel
theorem dX11_register_0 : decode cX11_register 0 = .ok (.iload_n 1, 1) := by decide +kernel
theorem dX11_register_1 : decode cX11_register 1 = .ok (.iconst 0, 1) := by decide +kernel
theorem dX11_register_2 : decode cX11_register 2 = .ok (.bipush 7, 2) := by decide +kernel
theorem dX11_register_4 : decode cX11_register 4 = .ok (.invokestatic 115, 3) := by decide +kernel
theorem dX11_register_7 : decode cX11_register 7 = .ok (.ifCond .eq 12, 3) := by decide +kernel
theorem dX11_register_10 : decode cX11_register 10 = .ok (.aload_n 0, 1) := by decide +kernel
theorem dX11_register_11 : decode cX11_register 11 = .ok (.getfield 66, 3) := by decide +kernel
theorem dX11_register_14 : decode cX11_register 14 = .ok (.iload_n 1, 1) := by decide +kernel
theorem dX11_register_15 : decode cX11_register 15 = .ok (.iaload, 1) := by decide +kernel
theorem dX11_register_16 : decode cX11_register 16 = .ok (.goto 4, 3) := by decide +kernel
theorem dX11_register_19 : decode cX11_register 19 = .ok (.iconst (-1), 1) := by decide +kernel
theorem dX11_register_20 : decode cX11_register 20 = .ok (.ireturn, 1) := by decide +kernel
theorem dX11_place_0 : decode cX11_place 0 = .ok (.iload_n 1, 1) := by decide +kernel
theorem dX11_place_1 : decode cX11_place 1 = .ok (.iconst 0, 1) := by decide +kernel
theorem dX11_place_2 : decode cX11_place 2 = .ok (.bipush 63, 2) := by decide +kernel
theorem dX11_place_4 : decode cX11_place 4 = .ok (.invokestatic 115, 3) := by decide +kernel
theorem dX11_place_7 : decode cX11_place 7 = .ok (.ifCond .eq 12, 3) := by decide +kernel
theorem dX11_place_10 : decode cX11_place 10 = .ok (.aload_n 0, 1) := by decide +kernel
theorem dX11_place_11 : decode cX11_place 11 = .ok (.getfield 72, 3) := by decide +kernel
theorem dX11_place_14 : decode cX11_place 14 = .ok (.iload_n 1, 1) := by decide +kernel
theorem dX11_place_15 : decode cX11_place 15 = .ok (.iaload, 1) := by decide +kernel
theorem dX11_place_16 : decode cX11_place 16 = .ok (.goto 4, 3) := by decide +kernel
theorem dX11_place_19 : decode cX11_place 19 = .ok (.iconst (-1), 1) := by decide +kernel
theorem dX11_place_20 : decode cX11_place 20 = .ok (.ireturn, 1) := by decide +kernel
theorem dX11_retired_0 : decode cX11_retired 0 = .ok (.aload_n 0, 1) := by decide +kernel
theorem dX11_retired_1 : decode cX11_retired 1 = .ok (.getfield 109, 3) := by decide +kernel
theorem dX11_retired_4 : decode cX11_retired 4 = .ok (.ireturn, 1) := by decide +kernel
theorem dX11_faithful_0 : decode cX11_faithful 0 = .ok (.iconst 0, 1) := by decide +kernel
theorem dX11_faithful_1 : decode cX11_faithful 1 = .ok (.istore_n 1, 1) := by decide +kernel
theorem dX11_faithful_2 : decode cX11_faithful 2 = .ok (.iload_n 1, 1) := by decide +kernel
theorem dX11_faithful_3 : decode cX11_faithful 3 = .ok (.bipush 8, 2) := by decide +kernel
theorem dX11_faithful_5 : decode cX11_faithful 5 = .ok (.if_icmp .ge 16, 3) := by decide +kernel
theorem dX11_faithful_8 : decode cX11_faithful 8 = .ok (.aload_n 0, 1) := by decide +kernel
theorem dX11_faithful_9 : decode cX11_faithful 9 = .ok (.getfield 90, 3) := by decide +kernel
theorem dX11_faithful_12 : decode cX11_faithful 12 = .ok (.iload_n 1, 1) := by decide +kernel
theorem dX11_faithful_13 : decode cX11_faithful 13 = .ok (.iconst 0, 1) := by decide +kernel
theorem dX11_faithful_14 : decode cX11_faithful 14 = .ok (.iastore, 1) := by decide +kernel
theorem dX11_faithful_15 : decode cX11_faithful 15 = .ok (.iinc 1 1, 3) := by decide +kernel
theorem dX11_faithful_18 : decode cX11_faithful 18 = .ok (.goto (-16), 3) := by decide +kernel
theorem dX11_faithful_21 : decode cX11_faithful 21 = .ok (.iconst 0, 1) := by decide +kernel
theorem dX11_faithful_22 : decode cX11_faithful 22 = .ok (.istore_n 1, 1) := by decide +kernel
theorem dX11_faithful_23 : decode cX11_faithful 23 = .ok (.iload_n 1, 1) := by decide +kernel
theorem dX11_faithful_24 : decode cX11_faithful 24 = .ok (.bipush 64, 2) := by decide +kernel
theorem dX11_faithful_26 : decode cX11_faithful 26 = .ok (.if_icmp .ge 21, 3) := by decide +kernel
theorem dX11_faithful_29 : decode cX11_faithful 29 = .ok (.aload_n 0, 1) := by decide +kernel
theorem dX11_faithful_30 : decode cX11_faithful 30 = .ok (.getfield 93, 3) := by decide +kernel
theorem dX11_faithful_33 : decode cX11_faithful 33 = .ok (.iload_n 1, 1) := by decide +kernel
theorem dX11_faithful_34 : decode cX11_faithful 34 = .ok (.aload_n 0, 1) := by decide +kernel
theorem dX11_faithful_35 : decode cX11_faithful 35 = .ok (.getfield 38, 3) := by decide +kernel
theorem dX11_faithful_38 : decode cX11_faithful 38 = .ok (.iload_n 1, 1) := by decide +kernel
theorem dX11_faithful_39 : decode cX11_faithful 39 = .ok (.iaload, 1) := by decide +kernel
theorem dX11_faithful_40 : decode cX11_faithful 40 = .ok (.iastore, 1) := by decide +kernel
theorem dX11_faithful_41 : decode cX11_faithful 41 = .ok (.iinc 1 1, 3) := by decide +kernel
theorem dX11_faithful_44 : decode cX11_faithful 44 = .ok (.goto (-21), 3) := by decide +kernel
theorem dX11_faithful_47 : decode cX11_faithful 47 = .ok (.iconst 0, 1) := by decide +kernel
theorem dX11_faithful_48 : decode cX11_faithful 48 = .ok (.istore_n 1, 1) := by decide +kernel
theorem dX11_faithful_49 : decode cX11_faithful 49 = .ok (.iconst 0, 1) := by decide +kernel
theorem dX11_faithful_50 : decode cX11_faithful 50 = .ok (.istore_n 2, 1) := by decide +kernel
theorem dX11_faithful_51 : decode cX11_faithful 51 = .ok (.iconst 1, 1) := by decide +kernel
theorem dX11_faithful_52 : decode cX11_faithful 52 = .ok (.istore_n 3, 1) := by decide +kernel
theorem dX11_faithful_53 : decode cX11_faithful 53 = .ok (.iconst 0, 1) := by decide +kernel
theorem dX11_faithful_54 : decode cX11_faithful 54 = .ok (.istore 4, 2) := by decide +kernel
theorem dX11_faithful_56 : decode cX11_faithful 56 = .ok (.iload 4, 2) := by decide +kernel
theorem dX11_faithful_58 : decode cX11_faithful 58 = .ok (.aload_n 0, 1) := by decide +kernel
theorem dX11_faithful_59 : decode cX11_faithful 59 = .ok (.getfield 109, 3) := by decide +kernel
theorem dX11_faithful_62 : decode cX11_faithful 62 = .ok (.if_icmp .ge 357, 3) := by decide +kernel
theorem dX11_faithful_65 : decode cX11_faithful 65 = .ok (.iload_n 3, 1) := by decide +kernel
theorem dX11_faithful_66 : decode cX11_faithful 66 = .ok (.ifCond .eq 353, 3) := by decide +kernel
theorem dX11_faithful_69 : decode cX11_faithful 69 = .ok (.aload_n 0, 1) := by decide +kernel
theorem dX11_faithful_70 : decode cX11_faithful 70 = .ok (.iload_n 1, 1) := by decide +kernel
theorem dX11_faithful_71 : decode cX11_faithful 71 = .ok (.invokevirtual 129, 3) := by decide +kernel
theorem dX11_faithful_74 : decode cX11_faithful 74 = .ok (.istore 5, 2) := by decide +kernel
theorem dX11_faithful_76 : decode cX11_faithful 76 = .ok (.iload 5, 2) := by decide +kernel
theorem dX11_faithful_78 : decode cX11_faithful 78 = .ok (.ifCond .ne 6, 3) := by decide +kernel
theorem dX11_faithful_81 : decode cX11_faithful 81 = .ok (.goto 338, 3) := by decide +kernel
theorem dX11_faithful_84 : decode cX11_faithful 84 = .ok (.aload_n 0, 1) := by decide +kernel
theorem dX11_faithful_85 : decode cX11_faithful 85 = .ok (.getfield 90, 3) := by decide +kernel
theorem dX11_faithful_88 : decode cX11_faithful 88 = .ok (.aload_n 0, 1) := by decide +kernel
theorem dX11_faithful_89 : decode cX11_faithful 89 = .ok (.getfield 29, 3) := by decide +kernel
theorem dX11_faithful_92 : decode cX11_faithful 92 = .ok (.iload_n 1, 1) := by decide +kernel
theorem dX11_faithful_93 : decode cX11_faithful 93 = .ok (.iaload, 1) := by decide +kernel
theorem dX11_faithful_94 : decode cX11_faithful 94 = .ok (.iaload, 1) := by decide +kernel
theorem dX11_faithful_95 : decode cX11_faithful 95 = .ok (.istore 6, 2) := by decide +kernel
theorem dX11_faithful_97 : decode cX11_faithful 97 = .ok (.aload_n 0, 1) := by decide +kernel
theorem dX11_faithful_98 : decode cX11_faithful 98 = .ok (.getfield 90, 3) := by decide +kernel
theorem dX11_faithful_101 : decode cX11_faithful 101 = .ok (.aload_n 0, 1) := by decide +kernel
theorem dX11_faithful_102 : decode cX11_faithful 102 = .ok (.getfield 32, 3) := by decide +kernel
theorem dX11_faithful_105 : decode cX11_faithful 105 = .ok (.iload_n 1, 1) := by decide +kernel
theorem dX11_faithful_106 : decode cX11_faithful 106 = .ok (.iaload, 1) := by decide +kernel
theorem dX11_faithful_107 : decode cX11_faithful 107 = .ok (.iaload, 1) := by decide +kernel
theorem dX11_faithful_108 : decode cX11_faithful 108 = .ok (.istore 7, 2) := by decide +kernel
theorem dX11_faithful_110 : decode cX11_faithful 110 = .ok (.iload 6, 2) := by decide +kernel
theorem dX11_faithful_112 : decode cX11_faithful 112 = .ok (.aload_n 0, 1) := by decide +kernel
theorem dX11_faithful_113 : decode cX11_faithful 113 = .ok (.getfield 35, 3) := by decide +kernel
theorem dX11_faithful_116 : decode cX11_faithful 116 = .ok (.iload_n 1, 1) := by decide +kernel
theorem dX11_faithful_117 : decode cX11_faithful 117 = .ok (.iaload, 1) := by decide +kernel
theorem dX11_faithful_118 : decode cX11_faithful 118 = .ok (.iadd, 1) := by decide +kernel
theorem dX11_faithful_119 : decode cX11_faithful 119 = .ok (.bipush 63, 2) := by decide +kernel
theorem dX11_faithful_121 : decode cX11_faithful 121 = .ok (.iand, 1) := by decide +kernel
theorem dX11_faithful_122 : decode cX11_faithful 122 = .ok (.istore 8, 2) := by decide +kernel
theorem dX11_faithful_124 : decode cX11_faithful 124 = .ok (.iload 5, 2) := by decide +kernel
theorem dX11_faithful_126 : decode cX11_faithful 126 = .ok (.iconst 1, 1) := by decide +kernel
theorem dX11_faithful_127 : decode cX11_faithful 127 = .ok (.if_icmp .ne 12, 3) := by decide +kernel
theorem dX11_faithful_130 : decode cX11_faithful 130 = .ok (.aload_n 0, 1) := by decide +kernel
theorem dX11_faithful_131 : decode cX11_faithful 131 = .ok (.getfield 35, 3) := by decide +kernel
theorem dX11_faithful_134 : decode cX11_faithful 134 = .ok (.iload_n 1, 1) := by decide +kernel
theorem dX11_faithful_135 : decode cX11_faithful 135 = .ok (.iaload, 1) := by decide +kernel
theorem dX11_faithful_136 : decode cX11_faithful 136 = .ok (.goto 75, 3) := by decide +kernel
theorem dX11_faithful_139 : decode cX11_faithful 139 = .ok (.iload 5, 2) := by decide +kernel
theorem dX11_faithful_141 : decode cX11_faithful 141 = .ok (.iconst 2, 1) := by decide +kernel
theorem dX11_faithful_142 : decode cX11_faithful 142 = .ok (.if_icmp .ne 11, 3) := by decide +kernel
theorem dX11_faithful_145 : decode cX11_faithful 145 = .ok (.iload 6, 2) := by decide +kernel
theorem dX11_faithful_147 : decode cX11_faithful 147 = .ok (.iload 7, 2) := by decide +kernel
theorem dX11_faithful_149 : decode cX11_faithful 149 = .ok (.iadd, 1) := by decide +kernel
theorem dX11_faithful_150 : decode cX11_faithful 150 = .ok (.goto 61, 3) := by decide +kernel
theorem dX11_faithful_153 : decode cX11_faithful 153 = .ok (.iload 5, 2) := by decide +kernel
theorem dX11_faithful_155 : decode cX11_faithful 155 = .ok (.iconst 3, 1) := by decide +kernel
theorem dX11_faithful_156 : decode cX11_faithful 156 = .ok (.if_icmp .ne 11, 3) := by decide +kernel
theorem dX11_faithful_159 : decode cX11_faithful 159 = .ok (.iload 6, 2) := by decide +kernel
theorem dX11_faithful_161 : decode cX11_faithful 161 = .ok (.iload 7, 2) := by decide +kernel
theorem dX11_faithful_163 : decode cX11_faithful 163 = .ok (.isub, 1) := by decide +kernel
theorem dX11_faithful_164 : decode cX11_faithful 164 = .ok (.goto 47, 3) := by decide +kernel
theorem dX11_faithful_167 : decode cX11_faithful 167 = .ok (.iload 5, 2) := by decide +kernel
theorem dX11_faithful_169 : decode cX11_faithful 169 = .ok (.iconst 4, 1) := by decide +kernel
theorem dX11_faithful_170 : decode cX11_faithful 170 = .ok (.if_icmp .ne 11, 3) := by decide +kernel
theorem dX11_faithful_173 : decode cX11_faithful 173 = .ok (.iload 6, 2) := by decide +kernel
theorem dX11_faithful_175 : decode cX11_faithful 175 = .ok (.iload 7, 2) := by decide +kernel
theorem dX11_faithful_177 : decode cX11_faithful 177 = .ok (.imul, 1) := by decide +kernel
theorem dX11_faithful_178 : decode cX11_faithful 178 = .ok (.goto 33, 3) := by decide +kernel
theorem dX11_faithful_181 : decode cX11_faithful 181 = .ok (.iload 5, 2) := by decide +kernel
theorem dX11_faithful_183 : decode cX11_faithful 183 = .ok (.iconst 5, 1) := by decide +kernel
theorem dX11_faithful_184 : decode cX11_faithful 184 = .ok (.if_icmp .ne 13, 3) := by decide +kernel
theorem dX11_faithful_187 : decode cX11_faithful 187 = .ok (.aload_n 0, 1) := by decide +kernel
theorem dX11_faithful_188 : decode cX11_faithful 188 = .ok (.getfield 93, 3) := by decide +kernel
theorem dX11_faithful_191 : decode cX11_faithful 191 = .ok (.iload 8, 2) := by decide +kernel
theorem dX11_faithful_193 : decode cX11_faithful 193 = .ok (.iaload, 1) := by decide +kernel
theorem dX11_faithful_194 : decode cX11_faithful 194 = .ok (.goto 17, 3) := by decide +kernel
theorem dX11_faithful_197 : decode cX11_faithful 197 = .ok (.iload 5, 2) := by decide +kernel
theorem dX11_faithful_199 : decode cX11_faithful 199 = .ok (.bipush 6, 2) := by decide +kernel
theorem dX11_faithful_201 : decode cX11_faithful 201 = .ok (.if_icmp .ne 8, 3) := by decide +kernel
theorem dX11_faithful_204 : decode cX11_faithful 204 = .ok (.iload 7, 2) := by decide +kernel
theorem dX11_faithful_206 : decode cX11_faithful 206 = .ok (.goto 5, 3) := by decide +kernel
theorem dX11_faithful_209 : decode cX11_faithful 209 = .ok (.iload 6, 2) := by decide +kernel
theorem dX11_faithful_211 : decode cX11_faithful 211 = .ok (.istore 9, 2) := by decide +kernel
theorem dX11_faithful_213 : decode cX11_faithful 213 = .ok (.iload 5, 2) := by decide +kernel
theorem dX11_faithful_215 : decode cX11_faithful 215 = .ok (.bipush 6, 2) := by decide +kernel
theorem dX11_faithful_217 : decode cX11_faithful 217 = .ok (.if_icmp .ge 7, 3) := by decide +kernel
theorem dX11_faithful_220 : decode cX11_faithful 220 = .ok (.iconst 0, 1) := by decide +kernel
theorem dX11_faithful_221 : decode cX11_faithful 221 = .ok (.goto 15, 3) := by decide +kernel
theorem dX11_faithful_224 : decode cX11_faithful 224 = .ok (.iload 5, 2) := by decide +kernel
theorem dX11_faithful_226 : decode cX11_faithful 226 = .ok (.bipush 6, 2) := by decide +kernel
theorem dX11_faithful_228 : decode cX11_faithful 228 = .ok (.if_icmp .ne 7, 3) := by decide +kernel
theorem dX11_faithful_231 : decode cX11_faithful 231 = .ok (.iconst 1, 1) := by decide +kernel
theorem dX11_faithful_232 : decode cX11_faithful 232 = .ok (.goto 4, 3) := by decide +kernel
theorem dX11_faithful_235 : decode cX11_faithful 235 = .ok (.iconst 2, 1) := by decide +kernel
theorem dX11_faithful_236 : decode cX11_faithful 236 = .ok (.istore 10, 2) := by decide +kernel
theorem dX11_faithful_238 : decode cX11_faithful 238 = .ok (.iload 5, 2) := by decide +kernel
theorem dX11_faithful_240 : decode cX11_faithful 240 = .ok (.bipush 6, 2) := by decide +kernel
theorem dX11_faithful_242 : decode cX11_faithful 242 = .ok (.if_icmp .ge 12, 3) := by decide +kernel
theorem dX11_faithful_245 : decode cX11_faithful 245 = .ok (.aload_n 0, 1) := by decide +kernel
theorem dX11_faithful_246 : decode cX11_faithful 246 = .ok (.getfield 26, 3) := by decide +kernel
theorem dX11_faithful_249 : decode cX11_faithful 249 = .ok (.iload_n 1, 1) := by decide +kernel
theorem dX11_faithful_250 : decode cX11_faithful 250 = .ok (.iaload, 1) := by decide +kernel
theorem dX11_faithful_251 : decode cX11_faithful 251 = .ok (.goto 16, 3) := by decide +kernel
theorem dX11_faithful_254 : decode cX11_faithful 254 = .ok (.iload 5, 2) := by decide +kernel
theorem dX11_faithful_256 : decode cX11_faithful 256 = .ok (.bipush 6, 2) := by decide +kernel
theorem dX11_faithful_258 : decode cX11_faithful 258 = .ok (.if_icmp .ne 8, 3) := by decide +kernel
theorem dX11_faithful_261 : decode cX11_faithful 261 = .ok (.iload 8, 2) := by decide +kernel
theorem dX11_faithful_263 : decode cX11_faithful 263 = .ok (.goto 4, 3) := by decide +kernel
theorem dX11_faithful_266 : decode cX11_faithful 266 = .ok (.iconst 0, 1) := by decide +kernel
theorem dX11_faithful_267 : decode cX11_faithful 267 = .ok (.istore 11, 2) := by decide +kernel
theorem dX11_faithful_269 : decode cX11_faithful 269 = .ok (.iload 5, 2) := by decide +kernel
theorem dX11_faithful_271 : decode cX11_faithful 271 = .ok (.bipush 7, 2) := by decide +kernel
theorem dX11_faithful_273 : decode cX11_faithful 273 = .ok (.if_icmp .eq 67, 3) := by decide +kernel
theorem dX11_faithful_276 : decode cX11_faithful 276 = .ok (.iload 5, 2) := by decide +kernel
theorem dX11_faithful_278 : decode cX11_faithful 278 = .ok (.bipush 9, 2) := by decide +kernel
theorem dX11_faithful_280 : decode cX11_faithful 280 = .ok (.if_icmp .eq 60, 3) := by decide +kernel
theorem dX11_faithful_283 : decode cX11_faithful 283 = .ok (.iload_n 2, 1) := by decide +kernel
theorem dX11_faithful_284 : decode cX11_faithful 284 = .ok (.aload_n 0, 1) := by decide +kernel
theorem dX11_faithful_285 : decode cX11_faithful 285 = .ok (.getfield 112, 3) := by decide +kernel
theorem dX11_faithful_288 : decode cX11_faithful 288 = .ok (.if_icmp .ge 47, 3) := by decide +kernel
theorem dX11_faithful_291 : decode cX11_faithful 291 = .ok (.iload_n 2, 1) := by decide +kernel
theorem dX11_faithful_292 : decode cX11_faithful 292 = .ok (.sipush 1000, 3) := by decide +kernel
theorem dX11_faithful_295 : decode cX11_faithful 295 = .ok (.if_icmp .ge 36, 3) := by decide +kernel
theorem dX11_faithful_298 : decode cX11_faithful 298 = .ok (.aload_n 0, 1) := by decide +kernel
theorem dX11_faithful_299 : decode cX11_faithful 299 = .ok (.getfield 75, 3) := by decide +kernel
theorem dX11_faithful_302 : decode cX11_faithful 302 = .ok (.iload_n 2, 1) := by decide +kernel
theorem dX11_faithful_303 : decode cX11_faithful 303 = .ok (.iaload, 1) := by decide +kernel
theorem dX11_faithful_304 : decode cX11_faithful 304 = .ok (.iload 10, 2) := by decide +kernel
theorem dX11_faithful_306 : decode cX11_faithful 306 = .ok (.if_icmp .ne 29, 3) := by decide +kernel
theorem dX11_faithful_309 : decode cX11_faithful 309 = .ok (.aload_n 0, 1) := by decide +kernel
theorem dX11_faithful_310 : decode cX11_faithful 310 = .ok (.getfield 78, 3) := by decide +kernel
theorem dX11_faithful_313 : decode cX11_faithful 313 = .ok (.iload_n 2, 1) := by decide +kernel
theorem dX11_faithful_314 : decode cX11_faithful 314 = .ok (.iaload, 1) := by decide +kernel
theorem dX11_faithful_315 : decode cX11_faithful 315 = .ok (.iload 11, 2) := by decide +kernel
theorem dX11_faithful_317 : decode cX11_faithful 317 = .ok (.if_icmp .ne 18, 3) := by decide +kernel
theorem dX11_faithful_320 : decode cX11_faithful 320 = .ok (.aload_n 0, 1) := by decide +kernel
theorem dX11_faithful_321 : decode cX11_faithful 321 = .ok (.getfield 81, 3) := by decide +kernel
theorem dX11_faithful_324 : decode cX11_faithful 324 = .ok (.iload_n 2, 1) := by decide +kernel
theorem dX11_faithful_325 : decode cX11_faithful 325 = .ok (.iaload, 1) := by decide +kernel
theorem dX11_faithful_326 : decode cX11_faithful 326 = .ok (.iload 9, 2) := by decide +kernel
theorem dX11_faithful_328 : decode cX11_faithful 328 = .ok (.if_icmp .ne 7, 3) := by decide +kernel
theorem dX11_faithful_331 : decode cX11_faithful 331 = .ok (.iconst 1, 1) := by decide +kernel
theorem dX11_faithful_332 : decode cX11_faithful 332 = .ok (.goto 4, 3) := by decide +kernel
theorem dX11_faithful_335 : decode cX11_faithful 335 = .ok (.iconst 0, 1) := by decide +kernel
theorem dX11_faithful_336 : decode cX11_faithful 336 = .ok (.istore_n 3, 1) := by decide +kernel
theorem dX11_faithful_337 : decode cX11_faithful 337 = .ok (.iinc 2 1, 3) := by decide +kernel
theorem dX11_faithful_340 : decode cX11_faithful 340 = .ok (.iload 5, 2) := by decide +kernel
theorem dX11_faithful_342 : decode cX11_faithful 342 = .ok (.bipush 6, 2) := by decide +kernel
theorem dX11_faithful_344 : decode cX11_faithful 344 = .ok (.if_icmp .ge 19, 3) := by decide +kernel
theorem dX11_faithful_347 : decode cX11_faithful 347 = .ok (.aload_n 0, 1) := by decide +kernel
theorem dX11_faithful_348 : decode cX11_faithful 348 = .ok (.getfield 90, 3) := by decide +kernel
theorem dX11_faithful_351 : decode cX11_faithful 351 = .ok (.aload_n 0, 1) := by decide +kernel
theorem dX11_faithful_352 : decode cX11_faithful 352 = .ok (.getfield 26, 3) := by decide +kernel
theorem dX11_faithful_355 : decode cX11_faithful 355 = .ok (.iload_n 1, 1) := by decide +kernel
theorem dX11_faithful_356 : decode cX11_faithful 356 = .ok (.iaload, 1) := by decide +kernel
theorem dX11_faithful_357 : decode cX11_faithful 357 = .ok (.iload 9, 2) := by decide +kernel
theorem dX11_faithful_359 : decode cX11_faithful 359 = .ok (.iastore, 1) := by decide +kernel
theorem dX11_faithful_360 : decode cX11_faithful 360 = .ok (.goto 19, 3) := by decide +kernel
theorem dX11_faithful_363 : decode cX11_faithful 363 = .ok (.iload 5, 2) := by decide +kernel
theorem dX11_faithful_365 : decode cX11_faithful 365 = .ok (.bipush 6, 2) := by decide +kernel
theorem dX11_faithful_367 : decode cX11_faithful 367 = .ok (.if_icmp .ne 12, 3) := by decide +kernel
theorem dX11_faithful_370 : decode cX11_faithful 370 = .ok (.aload_n 0, 1) := by decide +kernel
theorem dX11_faithful_371 : decode cX11_faithful 371 = .ok (.getfield 93, 3) := by decide +kernel
theorem dX11_faithful_374 : decode cX11_faithful 374 = .ok (.iload 8, 2) := by decide +kernel
theorem dX11_faithful_376 : decode cX11_faithful 376 = .ok (.iload 9, 2) := by decide +kernel
theorem dX11_faithful_378 : decode cX11_faithful 378 = .ok (.iastore, 1) := by decide +kernel
theorem dX11_faithful_379 : decode cX11_faithful 379 = .ok (.iload 5, 2) := by decide +kernel
theorem dX11_faithful_381 : decode cX11_faithful 381 = .ok (.bipush 9, 2) := by decide +kernel
theorem dX11_faithful_383 : decode cX11_faithful 383 = .ok (.if_icmp .eq 17, 3) := by decide +kernel
theorem dX11_faithful_386 : decode cX11_faithful 386 = .ok (.iload 5, 2) := by decide +kernel
theorem dX11_faithful_388 : decode cX11_faithful 388 = .ok (.bipush 7, 2) := by decide +kernel
theorem dX11_faithful_390 : decode cX11_faithful 390 = .ok (.if_icmp .ne 19, 3) := by decide +kernel
theorem dX11_faithful_393 : decode cX11_faithful 393 = .ok (.iload 6, 2) := by decide +kernel
theorem dX11_faithful_395 : decode cX11_faithful 395 = .ok (.iload 7, 2) := by decide +kernel
theorem dX11_faithful_397 : decode cX11_faithful 397 = .ok (.if_icmp .ne 12, 3) := by decide +kernel
theorem dX11_faithful_400 : decode cX11_faithful 400 = .ok (.aload_n 0, 1) := by decide +kernel
theorem dX11_faithful_401 : decode cX11_faithful 401 = .ok (.getfield 35, 3) := by decide +kernel
theorem dX11_faithful_404 : decode cX11_faithful 404 = .ok (.iload_n 1, 1) := by decide +kernel
theorem dX11_faithful_405 : decode cX11_faithful 405 = .ok (.iaload, 1) := by decide +kernel
theorem dX11_faithful_406 : decode cX11_faithful 406 = .ok (.goto 6, 3) := by decide +kernel
theorem dX11_faithful_409 : decode cX11_faithful 409 = .ok (.iload_n 1, 1) := by decide +kernel
theorem dX11_faithful_410 : decode cX11_faithful 410 = .ok (.iconst 1, 1) := by decide +kernel
theorem dX11_faithful_411 : decode cX11_faithful 411 = .ok (.iadd, 1) := by decide +kernel
theorem dX11_faithful_412 : decode cX11_faithful 412 = .ok (.istore_n 1, 1) := by decide +kernel
theorem dX11_faithful_413 : decode cX11_faithful 413 = .ok (.iinc 4 1, 3) := by decide +kernel
theorem dX11_faithful_416 : decode cX11_faithful 416 = .ok (.goto (-360), 3) := by decide +kernel
theorem dX11_faithful_419 : decode cX11_faithful 419 = .ok (.iload_n 3, 1) := by decide +kernel
theorem dX11_faithful_420 : decode cX11_faithful 420 = .ok (.ifCond .eq 15, 3) := by decide +kernel
theorem dX11_faithful_423 : decode cX11_faithful 423 = .ok (.iload_n 2, 1) := by decide +kernel
theorem dX11_faithful_424 : decode cX11_faithful 424 = .ok (.aload_n 0, 1) := by decide +kernel
theorem dX11_faithful_425 : decode cX11_faithful 425 = .ok (.getfield 112, 3) := by decide +kernel
theorem dX11_faithful_428 : decode cX11_faithful 428 = .ok (.if_icmp .ne 7, 3) := by decide +kernel
theorem dX11_faithful_431 : decode cX11_faithful 431 = .ok (.iconst 1, 1) := by decide +kernel
theorem dX11_faithful_432 : decode cX11_faithful 432 = .ok (.goto 4, 3) := by decide +kernel
theorem dX11_faithful_435 : decode cX11_faithful 435 = .ok (.iconst 0, 1) := by decide +kernel
theorem dX11_faithful_436 : decode cX11_faithful 436 = .ok (.ireturn, 1) := by decide +kernel
theorem dX11_told_0 : decode cX11_told 0 = .ok (.iload_n 1, 1) := by decide +kernel
theorem dX11_told_1 : decode cX11_told 1 = .ok (.iconst 3, 1) := by decide +kernel
theorem dX11_told_2 : decode cX11_told 2 = .ok (.bipush 9, 2) := by decide +kernel
theorem dX11_told_4 : decode cX11_told 4 = .ok (.invokestatic 115, 3) := by decide +kernel
theorem dX11_told_7 : decode cX11_told 7 = .ok (.ifCond .eq 12, 3) := by decide +kernel
theorem dX11_told_10 : decode cX11_told 10 = .ok (.aload_n 0, 1) := by decide +kernel
theorem dX11_told_11 : decode cX11_told 11 = .ok (.getfield 17, 3) := by decide +kernel
theorem dX11_told_14 : decode cX11_told 14 = .ok (.iload_n 1, 1) := by decide +kernel
theorem dX11_told_15 : decode cX11_told 15 = .ok (.iconst 3, 1) := by decide +kernel
theorem dX11_told_16 : decode cX11_told 16 = .ok (.isub, 1) := by decide +kernel
theorem dX11_told_17 : decode cX11_told 17 = .ok (.iaload, 1) := by decide +kernel
theorem dX11_told_18 : decode cX11_told 18 = .ok (.ireturn, 1) := by decide +kernel
theorem dX11_told_19 : decode cX11_told 19 = .ok (.iload_n 1, 1) := by decide +kernel
theorem dX11_told_20 : decode cX11_told 20 = .ok (.ifCond .ne 10, 3) := by decide +kernel
theorem dX11_told_23 : decode cX11_told 23 = .ok (.aload_n 0, 1) := by decide +kernel
theorem dX11_told_24 : decode cX11_told 24 = .ok (.getfield 13, 3) := by decide +kernel
theorem dX11_told_27 : decode cX11_told 27 = .ok (.goto 41, 3) := by decide +kernel
theorem dX11_told_30 : decode cX11_told 30 = .ok (.iload_n 1, 1) := by decide +kernel
theorem dX11_told_31 : decode cX11_told 31 = .ok (.iconst 1, 1) := by decide +kernel
theorem dX11_told_32 : decode cX11_told 32 = .ok (.if_icmp .ne 10, 3) := by decide +kernel
theorem dX11_told_35 : decode cX11_told 35 = .ok (.aload_n 0, 1) := by decide +kernel
theorem dX11_told_36 : decode cX11_told 36 = .ok (.getfield 126, 3) := by decide +kernel
theorem dX11_told_39 : decode cX11_told 39 = .ok (.goto 29, 3) := by decide +kernel
theorem dX11_told_42 : decode cX11_told 42 = .ok (.iload_n 1, 1) := by decide +kernel
theorem dX11_told_43 : decode cX11_told 43 = .ok (.iconst 2, 1) := by decide +kernel
theorem dX11_told_44 : decode cX11_told 44 = .ok (.if_icmp .ne 10, 3) := by decide +kernel
theorem dX11_told_47 : decode cX11_told 47 = .ok (.aload_n 0, 1) := by decide +kernel
theorem dX11_told_48 : decode cX11_told 48 = .ok (.getfield 119, 3) := by decide +kernel
theorem dX11_told_51 : decode cX11_told 51 = .ok (.goto 17, 3) := by decide +kernel
theorem dX11_told_54 : decode cX11_told 54 = .ok (.iload_n 1, 1) := by decide +kernel
theorem dX11_told_55 : decode cX11_told 55 = .ok (.bipush 10, 2) := by decide +kernel
theorem dX11_told_57 : decode cX11_told 57 = .ok (.if_icmp .ne 10, 3) := by decide +kernel
theorem dX11_told_60 : decode cX11_told 60 = .ok (.aload_n 0, 1) := by decide +kernel
theorem dX11_told_61 : decode cX11_told 61 = .ok (.getfield 20, 3) := by decide +kernel
theorem dX11_told_64 : decode cX11_told 64 = .ok (.goto 4, 3) := by decide +kernel
theorem dX11_told_67 : decode cX11_told 67 = .ok (.iconst (-1), 1) := by decide +kernel
theorem dX11_told_68 : decode cX11_told 68 = .ok (.ireturn, 1) := by decide +kernel
