theorem d_X6_init_0 : decode prog_8_method_1_code 0 = .ok (.aload_n 0, 1) := by decide +kernel
theorem d_X6_init_1 : decode prog_8_method_1_code 1 = .ok (.invokespecial 1, 3) := by decide +kernel
theorem d_X6_init_4 : decode prog_8_method_1_code 4 = .ok (.aload_n 0, 1) := by decide +kernel
theorem d_X6_init_5 : decode prog_8_method_1_code 5 = .ok (.bipush 6, 2) := by decide +kernel
theorem d_X6_init_7 : decode prog_8_method_1_code 7 = .ok (.newarray .int, 2) := by decide +kernel
theorem d_X6_init_9 : decode prog_8_method_1_code 9 = .ok (.putfield 7, 3) := by decide +kernel
theorem d_X6_init_12 : decode prog_8_method_1_code 12 = .ok (.aload_n 0, 1) := by decide +kernel
theorem d_X6_init_13 : decode prog_8_method_1_code 13 = .ok (.bipush 6, 2) := by decide +kernel
theorem d_X6_init_15 : decode prog_8_method_1_code 15 = .ok (.newarray .int, 2) := by decide +kernel
theorem d_X6_init_17 : decode prog_8_method_1_code 17 = .ok (.putfield 13, 3) := by decide +kernel
theorem d_X6_init_20 : decode prog_8_method_1_code 20 = .ok (.aload_n 0, 1) := by decide +kernel
theorem d_X6_init_21 : decode prog_8_method_1_code 21 = .ok (.bipush 12, 2) := by decide +kernel
theorem d_X6_init_23 : decode prog_8_method_1_code 23 = .ok (.newarray .int, 2) := by decide +kernel
theorem d_X6_init_25 : decode prog_8_method_1_code 25 = .ok (.putfield 16, 3) := by decide +kernel
theorem d_X6_init_28 : decode prog_8_method_1_code 28 = .ok (.aload_n 0, 1) := by decide +kernel
theorem d_X6_init_29 : decode prog_8_method_1_code 29 = .ok (.bipush 30, 2) := by decide +kernel
theorem d_X6_init_31 : decode prog_8_method_1_code 31 = .ok (.newarray .int, 2) := by decide +kernel
theorem d_X6_init_33 : decode prog_8_method_1_code 33 = .ok (.dup, 1) := by decide +kernel
theorem d_X6_init_34 : decode prog_8_method_1_code 34 = .ok (.iconst 0, 1) := by decide +kernel
theorem d_X6_init_35 : decode prog_8_method_1_code 35 = .ok (.iconst (-1), 1) := by decide +kernel
theorem d_X6_init_36 : decode prog_8_method_1_code 36 = .ok (.iastore, 1) := by decide +kernel
theorem d_X6_init_37 : decode prog_8_method_1_code 37 = .ok (.dup, 1) := by decide +kernel
theorem d_X6_init_38 : decode prog_8_method_1_code 38 = .ok (.iconst 1, 1) := by decide +kernel
theorem d_X6_init_39 : decode prog_8_method_1_code 39 = .ok (.iconst 0, 1) := by decide +kernel
theorem d_X6_init_40 : decode prog_8_method_1_code 40 = .ok (.iastore, 1) := by decide +kernel
theorem d_X6_init_41 : decode prog_8_method_1_code 41 = .ok (.dup, 1) := by decide +kernel
theorem d_X6_init_42 : decode prog_8_method_1_code 42 = .ok (.iconst 2, 1) := by decide +kernel
theorem d_X6_init_43 : decode prog_8_method_1_code 43 = .ok (.iconst 0, 1) := by decide +kernel
theorem d_X6_init_44 : decode prog_8_method_1_code 44 = .ok (.iastore, 1) := by decide +kernel
theorem d_X6_init_45 : decode prog_8_method_1_code 45 = .ok (.dup, 1) := by decide +kernel
theorem d_X6_init_46 : decode prog_8_method_1_code 46 = .ok (.iconst 3, 1) := by decide +kernel
theorem d_X6_init_47 : decode prog_8_method_1_code 47 = .ok (.iconst (-1), 1) := by decide +kernel
theorem d_X6_init_48 : decode prog_8_method_1_code 48 = .ok (.iastore, 1) := by decide +kernel
theorem d_X6_init_49 : decode prog_8_method_1_code 49 = .ok (.dup, 1) := by decide +kernel
theorem d_X6_init_50 : decode prog_8_method_1_code 50 = .ok (.iconst 4, 1) := by decide +kernel
theorem d_X6_init_51 : decode prog_8_method_1_code 51 = .ok (.iconst 0, 1) := by decide +kernel
theorem d_X6_init_52 : decode prog_8_method_1_code 52 = .ok (.iastore, 1) := by decide +kernel
theorem d_X6_init_53 : decode prog_8_method_1_code 53 = .ok (.dup, 1) := by decide +kernel
theorem d_X6_init_54 : decode prog_8_method_1_code 54 = .ok (.iconst 5, 1) := by decide +kernel
theorem d_X6_init_55 : decode prog_8_method_1_code 55 = .ok (.iconst 0, 1) := by decide +kernel
theorem d_X6_init_56 : decode prog_8_method_1_code 56 = .ok (.iastore, 1) := by decide +kernel
theorem d_X6_init_57 : decode prog_8_method_1_code 57 = .ok (.dup, 1) := by decide +kernel
theorem d_X6_init_58 : decode prog_8_method_1_code 58 = .ok (.bipush 6, 2) := by decide +kernel
theorem d_X6_init_60 : decode prog_8_method_1_code 60 = .ok (.iconst (-1), 1) := by decide +kernel
theorem d_X6_init_61 : decode prog_8_method_1_code 61 = .ok (.iastore, 1) := by decide +kernel
theorem d_X6_init_62 : decode prog_8_method_1_code 62 = .ok (.dup, 1) := by decide +kernel
theorem d_X6_init_63 : decode prog_8_method_1_code 63 = .ok (.bipush 7, 2) := by decide +kernel
theorem d_X6_init_65 : decode prog_8_method_1_code 65 = .ok (.iconst 0, 1) := by decide +kernel
theorem d_X6_init_66 : decode prog_8_method_1_code 66 = .ok (.iastore, 1) := by decide +kernel
theorem d_X6_init_67 : decode prog_8_method_1_code 67 = .ok (.dup, 1) := by decide +kernel
theorem d_X6_init_68 : decode prog_8_method_1_code 68 = .ok (.bipush 8, 2) := by decide +kernel
theorem d_X6_init_70 : decode prog_8_method_1_code 70 = .ok (.iconst 0, 1) := by decide +kernel
theorem d_X6_init_71 : decode prog_8_method_1_code 71 = .ok (.iastore, 1) := by decide +kernel
theorem d_X6_init_72 : decode prog_8_method_1_code 72 = .ok (.dup, 1) := by decide +kernel
theorem d_X6_init_73 : decode prog_8_method_1_code 73 = .ok (.bipush 9, 2) := by decide +kernel
theorem d_X6_init_75 : decode prog_8_method_1_code 75 = .ok (.iconst (-1), 1) := by decide +kernel
theorem d_X6_init_76 : decode prog_8_method_1_code 76 = .ok (.iastore, 1) := by decide +kernel
theorem d_X6_init_77 : decode prog_8_method_1_code 77 = .ok (.dup, 1) := by decide +kernel
theorem d_X6_init_78 : decode prog_8_method_1_code 78 = .ok (.bipush 10, 2) := by decide +kernel
theorem d_X6_init_80 : decode prog_8_method_1_code 80 = .ok (.iconst 0, 1) := by decide +kernel
theorem d_X6_init_81 : decode prog_8_method_1_code 81 = .ok (.iastore, 1) := by decide +kernel
theorem d_X6_init_82 : decode prog_8_method_1_code 82 = .ok (.dup, 1) := by decide +kernel
theorem d_X6_init_83 : decode prog_8_method_1_code 83 = .ok (.bipush 11, 2) := by decide +kernel
theorem d_X6_init_85 : decode prog_8_method_1_code 85 = .ok (.iconst 0, 1) := by decide +kernel
theorem d_X6_init_86 : decode prog_8_method_1_code 86 = .ok (.iastore, 1) := by decide +kernel
theorem d_X6_init_87 : decode prog_8_method_1_code 87 = .ok (.dup, 1) := by decide +kernel
theorem d_X6_init_88 : decode prog_8_method_1_code 88 = .ok (.bipush 12, 2) := by decide +kernel
theorem d_X6_init_90 : decode prog_8_method_1_code 90 = .ok (.iconst (-1), 1) := by decide +kernel
theorem d_X6_init_91 : decode prog_8_method_1_code 91 = .ok (.iastore, 1) := by decide +kernel
theorem d_X6_init_92 : decode prog_8_method_1_code 92 = .ok (.dup, 1) := by decide +kernel
theorem d_X6_init_93 : decode prog_8_method_1_code 93 = .ok (.bipush 13, 2) := by decide +kernel
theorem d_X6_init_95 : decode prog_8_method_1_code 95 = .ok (.iconst 0, 1) := by decide +kernel
theorem d_X6_init_96 : decode prog_8_method_1_code 96 = .ok (.iastore, 1) := by decide +kernel
theorem d_X6_init_97 : decode prog_8_method_1_code 97 = .ok (.dup, 1) := by decide +kernel
theorem d_X6_init_98 : decode prog_8_method_1_code 98 = .ok (.bipush 14, 2) := by decide +kernel
theorem d_X6_init_100 : decode prog_8_method_1_code 100 = .ok (.iconst 0, 1) := by decide +kernel
theorem d_X6_init_101 : decode prog_8_method_1_code 101 = .ok (.iastore, 1) := by decide +kernel
theorem d_X6_init_102 : decode prog_8_method_1_code 102 = .ok (.dup, 1) := by decide +kernel
theorem d_X6_init_103 : decode prog_8_method_1_code 103 = .ok (.bipush 15, 2) := by decide +kernel
theorem d_X6_init_105 : decode prog_8_method_1_code 105 = .ok (.iconst (-1), 1) := by decide +kernel
theorem d_X6_init_106 : decode prog_8_method_1_code 106 = .ok (.iastore, 1) := by decide +kernel
theorem d_X6_init_107 : decode prog_8_method_1_code 107 = .ok (.dup, 1) := by decide +kernel
theorem d_X6_init_108 : decode prog_8_method_1_code 108 = .ok (.bipush 16, 2) := by decide +kernel
theorem d_X6_init_110 : decode prog_8_method_1_code 110 = .ok (.iconst 0, 1) := by decide +kernel
theorem d_X6_init_111 : decode prog_8_method_1_code 111 = .ok (.iastore, 1) := by decide +kernel
theorem d_X6_init_112 : decode prog_8_method_1_code 112 = .ok (.dup, 1) := by decide +kernel
theorem d_X6_init_113 : decode prog_8_method_1_code 113 = .ok (.bipush 17, 2) := by decide +kernel
theorem d_X6_init_115 : decode prog_8_method_1_code 115 = .ok (.iconst 0, 1) := by decide +kernel
theorem d_X6_init_116 : decode prog_8_method_1_code 116 = .ok (.iastore, 1) := by decide +kernel
theorem d_X6_init_117 : decode prog_8_method_1_code 117 = .ok (.dup, 1) := by decide +kernel
theorem d_X6_init_118 : decode prog_8_method_1_code 118 = .ok (.bipush 18, 2) := by decide +kernel
theorem d_X6_init_120 : decode prog_8_method_1_code 120 = .ok (.iconst (-1), 1) := by decide +kernel
theorem d_X6_init_121 : decode prog_8_method_1_code 121 = .ok (.iastore, 1) := by decide +kernel
theorem d_X6_init_122 : decode prog_8_method_1_code 122 = .ok (.dup, 1) := by decide +kernel
theorem d_X6_init_123 : decode prog_8_method_1_code 123 = .ok (.bipush 19, 2) := by decide +kernel
theorem d_X6_init_125 : decode prog_8_method_1_code 125 = .ok (.iconst 0, 1) := by decide +kernel
theorem d_X6_init_126 : decode prog_8_method_1_code 126 = .ok (.iastore, 1) := by decide +kernel
theorem d_X6_init_127 : decode prog_8_method_1_code 127 = .ok (.dup, 1) := by decide +kernel
theorem d_X6_init_128 : decode prog_8_method_1_code 128 = .ok (.bipush 20, 2) := by decide +kernel
theorem d_X6_init_130 : decode prog_8_method_1_code 130 = .ok (.iconst 0, 1) := by decide +kernel
theorem d_X6_init_131 : decode prog_8_method_1_code 131 = .ok (.iastore, 1) := by decide +kernel
theorem d_X6_init_132 : decode prog_8_method_1_code 132 = .ok (.dup, 1) := by decide +kernel
theorem d_X6_init_133 : decode prog_8_method_1_code 133 = .ok (.bipush 21, 2) := by decide +kernel
theorem d_X6_init_135 : decode prog_8_method_1_code 135 = .ok (.iconst (-1), 1) := by decide +kernel
theorem d_X6_init_136 : decode prog_8_method_1_code 136 = .ok (.iastore, 1) := by decide +kernel
theorem d_X6_init_137 : decode prog_8_method_1_code 137 = .ok (.dup, 1) := by decide +kernel
theorem d_X6_init_138 : decode prog_8_method_1_code 138 = .ok (.bipush 22, 2) := by decide +kernel
theorem d_X6_init_140 : decode prog_8_method_1_code 140 = .ok (.iconst 0, 1) := by decide +kernel
theorem d_X6_init_141 : decode prog_8_method_1_code 141 = .ok (.iastore, 1) := by decide +kernel
theorem d_X6_init_142 : decode prog_8_method_1_code 142 = .ok (.dup, 1) := by decide +kernel
theorem d_X6_init_143 : decode prog_8_method_1_code 143 = .ok (.bipush 23, 2) := by decide +kernel
theorem d_X6_init_145 : decode prog_8_method_1_code 145 = .ok (.iconst 0, 1) := by decide +kernel
theorem d_X6_init_146 : decode prog_8_method_1_code 146 = .ok (.iastore, 1) := by decide +kernel
theorem d_X6_init_147 : decode prog_8_method_1_code 147 = .ok (.dup, 1) := by decide +kernel
theorem d_X6_init_148 : decode prog_8_method_1_code 148 = .ok (.bipush 24, 2) := by decide +kernel
theorem d_X6_init_150 : decode prog_8_method_1_code 150 = .ok (.iconst (-1), 1) := by decide +kernel
theorem d_X6_init_151 : decode prog_8_method_1_code 151 = .ok (.iastore, 1) := by decide +kernel
theorem d_X6_init_152 : decode prog_8_method_1_code 152 = .ok (.dup, 1) := by decide +kernel
theorem d_X6_init_153 : decode prog_8_method_1_code 153 = .ok (.bipush 25, 2) := by decide +kernel
theorem d_X6_init_155 : decode prog_8_method_1_code 155 = .ok (.iconst 0, 1) := by decide +kernel
theorem d_X6_init_156 : decode prog_8_method_1_code 156 = .ok (.iastore, 1) := by decide +kernel
theorem d_X6_init_157 : decode prog_8_method_1_code 157 = .ok (.dup, 1) := by decide +kernel
theorem d_X6_init_158 : decode prog_8_method_1_code 158 = .ok (.bipush 26, 2) := by decide +kernel
theorem d_X6_init_160 : decode prog_8_method_1_code 160 = .ok (.iconst 0, 1) := by decide +kernel
theorem d_X6_init_161 : decode prog_8_method_1_code 161 = .ok (.iastore, 1) := by decide +kernel
theorem d_X6_init_162 : decode prog_8_method_1_code 162 = .ok (.dup, 1) := by decide +kernel
theorem d_X6_init_163 : decode prog_8_method_1_code 163 = .ok (.bipush 27, 2) := by decide +kernel
theorem d_X6_init_165 : decode prog_8_method_1_code 165 = .ok (.iconst (-1), 1) := by decide +kernel
theorem d_X6_init_166 : decode prog_8_method_1_code 166 = .ok (.iastore, 1) := by decide +kernel
theorem d_X6_init_167 : decode prog_8_method_1_code 167 = .ok (.dup, 1) := by decide +kernel
theorem d_X6_init_168 : decode prog_8_method_1_code 168 = .ok (.bipush 28, 2) := by decide +kernel
theorem d_X6_init_170 : decode prog_8_method_1_code 170 = .ok (.iconst 0, 1) := by decide +kernel
theorem d_X6_init_171 : decode prog_8_method_1_code 171 = .ok (.iastore, 1) := by decide +kernel
theorem d_X6_init_172 : decode prog_8_method_1_code 172 = .ok (.dup, 1) := by decide +kernel
theorem d_X6_init_173 : decode prog_8_method_1_code 173 = .ok (.bipush 29, 2) := by decide +kernel
theorem d_X6_init_175 : decode prog_8_method_1_code 175 = .ok (.iconst 0, 1) := by decide +kernel
theorem d_X6_init_176 : decode prog_8_method_1_code 176 = .ok (.iastore, 1) := by decide +kernel
theorem d_X6_init_177 : decode prog_8_method_1_code 177 = .ok (.putfield 19, 3) := by decide +kernel
theorem d_X6_init_180 : decode prog_8_method_1_code 180 = .ok (.aload_n 0, 1) := by decide +kernel
theorem d_X6_init_181 : decode prog_8_method_1_code 181 = .ok (.sipush 160, 3) := by decide +kernel
theorem d_X6_init_184 : decode prog_8_method_1_code 184 = .ok (.newarray .int, 2) := by decide +kernel
theorem d_X6_init_186 : decode prog_8_method_1_code 186 = .ok (.putfield 22, 3) := by decide +kernel
theorem d_X6_init_189 : decode prog_8_method_1_code 189 = .ok (.aload_n 0, 1) := by decide +kernel
theorem d_X6_init_190 : decode prog_8_method_1_code 190 = .ok (.sipush 1200, 3) := by decide +kernel
theorem d_X6_init_193 : decode prog_8_method_1_code 193 = .ok (.newarray .int, 2) := by decide +kernel
theorem d_X6_init_195 : decode prog_8_method_1_code 195 = .ok (.putfield 25, 3) := by decide +kernel
theorem d_X6_init_198 : decode prog_8_method_1_code 198 = .ok (.aload_n 0, 1) := by decide +kernel
theorem d_X6_init_199 : decode prog_8_method_1_code 199 = .ok (.bipush 24, 2) := by decide +kernel
theorem d_X6_init_201 : decode prog_8_method_1_code 201 = .ok (.newarray .int, 2) := by decide +kernel
theorem d_X6_init_203 : decode prog_8_method_1_code 203 = .ok (.putfield 28, 3) := by decide +kernel
theorem d_X6_init_206 : decode prog_8_method_1_code 206 = .ok (.aload_n 0, 1) := by decide +kernel
theorem d_X6_init_207 : decode prog_8_method_1_code 207 = .ok (.bipush 42, 2) := by decide +kernel
theorem d_X6_init_209 : decode prog_8_method_1_code 209 = .ok (.newarray .int, 2) := by decide +kernel
theorem d_X6_init_211 : decode prog_8_method_1_code 211 = .ok (.putfield 31, 3) := by decide +kernel
theorem d_X6_init_214 : decode prog_8_method_1_code 214 = .ok (.aload_n 0, 1) := by decide +kernel
theorem d_X6_init_215 : decode prog_8_method_1_code 215 = .ok (.iconst 3, 1) := by decide +kernel
theorem d_X6_init_216 : decode prog_8_method_1_code 216 = .ok (.newarray .int, 2) := by decide +kernel
theorem d_X6_init_218 : decode prog_8_method_1_code 218 = .ok (.putfield 34, 3) := by decide +kernel
theorem d_X6_init_221 : decode prog_8_method_1_code 221 = .ok (.aload_n 0, 1) := by decide +kernel
theorem d_X6_init_222 : decode prog_8_method_1_code 222 = .ok (.iconst 4, 1) := by decide +kernel
theorem d_X6_init_223 : decode prog_8_method_1_code 223 = .ok (.newarray .int, 2) := by decide +kernel
theorem d_X6_init_225 : decode prog_8_method_1_code 225 = .ok (.dup, 1) := by decide +kernel
theorem d_X6_init_226 : decode prog_8_method_1_code 226 = .ok (.iconst 0, 1) := by decide +kernel
theorem d_X6_init_227 : decode prog_8_method_1_code 227 = .ok (.iconst (-1), 1) := by decide +kernel
theorem d_X6_init_228 : decode prog_8_method_1_code 228 = .ok (.iastore, 1) := by decide +kernel
theorem d_X6_init_229 : decode prog_8_method_1_code 229 = .ok (.dup, 1) := by decide +kernel
theorem d_X6_init_230 : decode prog_8_method_1_code 230 = .ok (.iconst 1, 1) := by decide +kernel
theorem d_X6_init_231 : decode prog_8_method_1_code 231 = .ok (.iconst (-1), 1) := by decide +kernel
theorem d_X6_init_232 : decode prog_8_method_1_code 232 = .ok (.iastore, 1) := by decide +kernel
theorem d_X6_init_233 : decode prog_8_method_1_code 233 = .ok (.dup, 1) := by decide +kernel
theorem d_X6_init_234 : decode prog_8_method_1_code 234 = .ok (.iconst 2, 1) := by decide +kernel
theorem d_X6_init_235 : decode prog_8_method_1_code 235 = .ok (.iconst (-1), 1) := by decide +kernel
theorem d_X6_init_236 : decode prog_8_method_1_code 236 = .ok (.iastore, 1) := by decide +kernel
theorem d_X6_init_237 : decode prog_8_method_1_code 237 = .ok (.dup, 1) := by decide +kernel
theorem d_X6_init_238 : decode prog_8_method_1_code 238 = .ok (.iconst 3, 1) := by decide +kernel
theorem d_X6_init_239 : decode prog_8_method_1_code 239 = .ok (.iconst (-1), 1) := by decide +kernel
theorem d_X6_init_240 : decode prog_8_method_1_code 240 = .ok (.iastore, 1) := by decide +kernel
theorem d_X6_init_241 : decode prog_8_method_1_code 241 = .ok (.putfield 37, 3) := by decide +kernel
theorem d_X6_init_244 : decode prog_8_method_1_code 244 = .ok (.aload_n 0, 1) := by decide +kernel
theorem d_X6_init_245 : decode prog_8_method_1_code 245 = .ok (.iconst 4, 1) := by decide +kernel
theorem d_X6_init_246 : decode prog_8_method_1_code 246 = .ok (.newarray .int, 2) := by decide +kernel
theorem d_X6_init_248 : decode prog_8_method_1_code 248 = .ok (.putfield 40, 3) := by decide +kernel
theorem d_X6_init_251 : decode prog_8_method_1_code 251 = .ok (.aload_n 0, 1) := by decide +kernel
theorem d_X6_init_252 : decode prog_8_method_1_code 252 = .ok (.sipush 160, 3) := by decide +kernel
theorem d_X6_init_255 : decode prog_8_method_1_code 255 = .ok (.newarray .int, 2) := by decide +kernel
theorem d_X6_init_257 : decode prog_8_method_1_code 257 = .ok (.putfield 43, 3) := by decide +kernel
theorem d_X6_init_260 : decode prog_8_method_1_code 260 = .ok (.aload_n 0, 1) := by decide +kernel
theorem d_X6_init_261 : decode prog_8_method_1_code 261 = .ok (.bipush 36, 2) := by decide +kernel
theorem d_X6_init_263 : decode prog_8_method_1_code 263 = .ok (.newarray .int, 2) := by decide +kernel
theorem d_X6_init_265 : decode prog_8_method_1_code 265 = .ok (.dup, 1) := by decide +kernel
theorem d_X6_init_266 : decode prog_8_method_1_code 266 = .ok (.iconst 0, 1) := by decide +kernel
theorem d_X6_init_267 : decode prog_8_method_1_code 267 = .ok (.bipush 109, 2) := by decide +kernel
theorem d_X6_init_269 : decode prog_8_method_1_code 269 = .ok (.iastore, 1) := by decide +kernel
theorem d_X6_init_270 : decode prog_8_method_1_code 270 = .ok (.dup, 1) := by decide +kernel
theorem d_X6_init_271 : decode prog_8_method_1_code 271 = .ok (.iconst 1, 1) := by decide +kernel
theorem d_X6_init_272 : decode prog_8_method_1_code 272 = .ok (.bipush 101, 2) := by decide +kernel
theorem d_X6_init_274 : decode prog_8_method_1_code 274 = .ok (.iastore, 1) := by decide +kernel
theorem d_X6_init_275 : decode prog_8_method_1_code 275 = .ok (.dup, 1) := by decide +kernel
theorem d_X6_init_276 : decode prog_8_method_1_code 276 = .ok (.iconst 2, 1) := by decide +kernel
theorem d_X6_init_277 : decode prog_8_method_1_code 277 = .ok (.bipush 108, 2) := by decide +kernel
