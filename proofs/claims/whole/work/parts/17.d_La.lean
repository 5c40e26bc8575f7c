/-! decode rows: La -/
theorem d_La_text_0 : decode c_La_text 0 = .ok (.aload_n 3, 1) := by decide +kernel
theorem d_La_text_1 : decode c_La_text 1 = .ok (.iconst 0, 1) := by decide +kernel
theorem d_La_text_2 : decode c_La_text 2 = .ok (.aload_n 0, 1) := by decide +kernel
theorem d_La_text_3 : decode c_La_text 3 = .ok (.lload_n 1, 1) := by decide +kernel
theorem d_La_text_4 : decode c_La_text 4 = .ok (.invokevirtual 7, 3) := by decide +kernel
theorem d_La_text_7 : decode c_La_text 7 = .ok (.i2l, 1) := by decide +kernel
theorem d_La_text_8 : decode c_La_text 8 = .ok (.lastore, 1) := by decide +kernel
theorem d_La_text_9 : decode c_La_text 9 = .ok (.goto 7, 3) := by decide +kernel
theorem d_La_text_12 : decode c_La_text 12 = .ok (.astore 4, 2) := by decide +kernel
theorem d_La_text_14 : decode c_La_text 14 = .ok (.iconst 1, 1) := by decide +kernel
theorem d_La_text_15 : decode c_La_text 15 = .ok (.ireturn, 1) := by decide +kernel
theorem d_La_text_16 : decode c_La_text 16 = .ok (.iconst 0, 1) := by decide +kernel
theorem d_La_text_17 : decode c_La_text 17 = .ok (.ireturn, 1) := by decide +kernel
theorem d_La_argument_0 : decode c_La_argument 0 = .ok (.aload_n 3, 1) := by decide +kernel
theorem d_La_argument_1 : decode c_La_argument 1 = .ok (.iconst 0, 1) := by decide +kernel
theorem d_La_argument_2 : decode c_La_argument 2 = .ok (.aload_n 0, 1) := by decide +kernel
theorem d_La_argument_3 : decode c_La_argument 3 = .ok (.lload_n 1, 1) := by decide +kernel
theorem d_La_argument_4 : decode c_La_argument 4 = .ok (.invokevirtual 15, 3) := by decide +kernel
theorem d_La_argument_7 : decode c_La_argument 7 = .ok (.i2l, 1) := by decide +kernel
theorem d_La_argument_8 : decode c_La_argument 8 = .ok (.lastore, 1) := by decide +kernel
theorem d_La_argument_9 : decode c_La_argument 9 = .ok (.goto 7, 3) := by decide +kernel
theorem d_La_argument_12 : decode c_La_argument 12 = .ok (.astore 4, 2) := by decide +kernel
theorem d_La_argument_14 : decode c_La_argument 14 = .ok (.iconst 1, 1) := by decide +kernel
theorem d_La_argument_15 : decode c_La_argument 15 = .ok (.ireturn, 1) := by decide +kernel
theorem d_La_argument_16 : decode c_La_argument 16 = .ok (.iconst 0, 1) := by decide +kernel
theorem d_La_argument_17 : decode c_La_argument 17 = .ok (.ireturn, 1) := by decide +kernel
theorem d_La_run_0 : decode c_La_run 0 = .ok (.aload_n 1, 1) := by decide +kernel
theorem d_La_run_1 : decode c_La_run 1 = .ok (.iconst 0, 1) := by decide +kernel
theorem d_La_run_2 : decode c_La_run 2 = .ok (.aload_n 0, 1) := by decide +kernel
theorem d_La_run_3 : decode c_La_run 3 = .ok (.invokevirtual 18, 3) := by decide +kernel
theorem d_La_run_6 : decode c_La_run 6 = .ok (.i2l, 1) := by decide +kernel
theorem d_La_run_7 : decode c_La_run 7 = .ok (.lastore, 1) := by decide +kernel
theorem d_La_run_8 : decode c_La_run 8 = .ok (.goto 9, 3) := by decide +kernel
theorem d_La_run_11 : decode c_La_run 11 = .ok (.astore_n 2, 1) := by decide +kernel
theorem d_La_run_12 : decode c_La_run 12 = .ok (.iconst 1, 1) := by decide +kernel
theorem d_La_run_13 : decode c_La_run 13 = .ok (.ireturn, 1) := by decide +kernel
theorem d_La_run_14 : decode c_La_run 14 = .ok (.astore_n 2, 1) := by decide +kernel
theorem d_La_run_15 : decode c_La_run 15 = .ok (.iconst 2, 1) := by decide +kernel
theorem d_La_run_16 : decode c_La_run 16 = .ok (.ireturn, 1) := by decide +kernel
theorem d_La_run_17 : decode c_La_run 17 = .ok (.iconst 0, 1) := by decide +kernel
theorem d_La_run_18 : decode c_La_run 18 = .ok (.ireturn, 1) := by decide +kernel
theorem d_La_letters_0 : decode c_La_letters 0 = .ok (.aload_n 2, 1) := by decide +kernel
theorem d_La_letters_1 : decode c_La_letters 1 = .ok (.iconst 0, 1) := by decide +kernel
theorem d_La_letters_2 : decode c_La_letters 2 = .ok (.aload_n 0, 1) := by decide +kernel
theorem d_La_letters_3 : decode c_La_letters 3 = .ok (.iload_n 1, 1) := by decide +kernel
theorem d_La_letters_4 : decode c_La_letters 4 = .ok (.invokevirtual 26, 3) := by decide +kernel
theorem d_La_letters_7 : decode c_La_letters 7 = .ok (.lastore, 1) := by decide +kernel
theorem d_La_letters_8 : decode c_La_letters 8 = .ok (.goto 6, 3) := by decide +kernel
theorem d_La_letters_11 : decode c_La_letters 11 = .ok (.astore_n 3, 1) := by decide +kernel
theorem d_La_letters_12 : decode c_La_letters 12 = .ok (.iconst 1, 1) := by decide +kernel
theorem d_La_letters_13 : decode c_La_letters 13 = .ok (.ireturn, 1) := by decide +kernel
theorem d_La_letters_14 : decode c_La_letters 14 = .ok (.iconst 0, 1) := by decide +kernel
theorem d_La_letters_15 : decode c_La_letters 15 = .ok (.ireturn, 1) := by decide +kernel
theorem d_La_count_0 : decode c_La_count 0 = .ok (.aload_n 2, 1) := by decide +kernel
theorem d_La_count_1 : decode c_La_count 1 = .ok (.iconst 0, 1) := by decide +kernel
theorem d_La_count_2 : decode c_La_count 2 = .ok (.aload_n 0, 1) := by decide +kernel
theorem d_La_count_3 : decode c_La_count 3 = .ok (.iload_n 1, 1) := by decide +kernel
theorem d_La_count_4 : decode c_La_count 4 = .ok (.invokevirtual 30, 3) := by decide +kernel
theorem d_La_count_7 : decode c_La_count 7 = .ok (.i2l, 1) := by decide +kernel
theorem d_La_count_8 : decode c_La_count 8 = .ok (.lastore, 1) := by decide +kernel
theorem d_La_count_9 : decode c_La_count 9 = .ok (.goto 6, 3) := by decide +kernel
theorem d_La_count_12 : decode c_La_count 12 = .ok (.astore_n 3, 1) := by decide +kernel
theorem d_La_count_13 : decode c_La_count 13 = .ok (.iconst 1, 1) := by decide +kernel
theorem d_La_count_14 : decode c_La_count 14 = .ok (.ireturn, 1) := by decide +kernel
theorem d_La_count_15 : decode c_La_count 15 = .ok (.iconst 0, 1) := by decide +kernel
theorem d_La_count_16 : decode c_La_count 16 = .ok (.ireturn, 1) := by decide +kernel
theorem d_La_law_0 : decode code 0 = .ok (.new 8, 3) := by decide +kernel
theorem d_La_law_3 : decode code 3 = .ok (.dup, 1) := by decide +kernel
theorem d_La_law_4 : decode code 4 = .ok (.invokespecial 34, 3) := by decide +kernel
theorem d_La_law_7 : decode code 7 = .ok (.astore_n 1, 1) := by decide +kernel
theorem d_La_law_8 : decode code 8 = .ok (.new 35, 3) := by decide +kernel
theorem d_La_law_11 : decode code 11 = .ok (.dup, 1) := by decide +kernel
theorem d_La_law_12 : decode code 12 = .ok (.invokespecial 37, 3) := by decide +kernel
theorem d_La_law_15 : decode code 15 = .ok (.astore_n 2, 1) := by decide +kernel
theorem d_La_law_16 : decode code 16 = .ok (.iconst 1, 1) := by decide +kernel
theorem d_La_law_17 : decode code 17 = .ok (.newarray .long, 2) := by decide +kernel
theorem d_La_law_19 : decode code 19 = .ok (.astore_n 3, 1) := by decide +kernel
theorem d_La_law_20 : decode code 20 = .ok (.iconst 0, 1) := by decide +kernel
theorem d_La_law_21 : decode code 21 = .ok (.istore 4, 2) := by decide +kernel
theorem d_La_law_23 : decode code 23 = .ok (.iload 4, 2) := by decide +kernel
theorem d_La_law_25 : decode code 25 = .ok (.aload_n 0, 1) := by decide +kernel
theorem d_La_law_26 : decode code 26 = .ok (.arraylength, 1) := by decide +kernel
theorem d_La_law_27 : decode code 27 = .ok (.iconst 3, 1) := by decide +kernel
theorem d_La_law_28 : decode code 28 = .ok (.isub, 1) := by decide +kernel
theorem d_La_law_29 : decode code 29 = .ok (.if_icmp .gt 412, 3) := by decide +kernel
theorem d_La_law_32 : decode code 32 = .ok (.aload_n 0, 1) := by decide +kernel
theorem d_La_law_33 : decode code 33 = .ok (.iload 4, 2) := by decide +kernel
theorem d_La_law_35 : decode code 35 = .ok (.iaload, 1) := by decide +kernel
theorem d_La_law_36 : decode code 36 = .ok (.bipush 7, 2) := by decide +kernel
theorem d_La_law_38 : decode code 38 = .ok (.iand, 1) := by decide +kernel
theorem d_La_law_39 : decode code 39 = .ok (.tableswitch 396 0 6 #[41, 129, 217, 228, 272, 285, 340], 41) := by decide +kernel
theorem d_La_law_80 : decode code 80 = .ok (.aload_n 1, 1) := by decide +kernel
theorem d_La_law_81 : decode code 81 = .ok (.aload_n 0, 1) := by decide +kernel
theorem d_La_law_82 : decode code 82 = .ok (.iload 4, 2) := by decide +kernel
theorem d_La_law_84 : decode code 84 = .ok (.iconst 1, 1) := by decide +kernel
theorem d_La_law_85 : decode code 85 = .ok (.iadd, 1) := by decide +kernel
theorem d_La_law_86 : decode code 86 = .ok (.iaload, 1) := by decide +kernel
theorem d_La_law_87 : decode code 87 = .ok (.i2l, 1) := by decide +kernel
theorem d_La_law_88 : decode code 88 = .ok (.bipush 32, 2) := by decide +kernel
theorem d_La_law_90 : decode code 90 = .ok (.lshl, 1) := by decide +kernel
theorem d_La_law_91 : decode code 91 = .ok (.aload_n 0, 1) := by decide +kernel
theorem d_La_law_92 : decode code 92 = .ok (.iload 4, 2) := by decide +kernel
theorem d_La_law_94 : decode code 94 = .ok (.iconst 2, 1) := by decide +kernel
theorem d_La_law_95 : decode code 95 = .ok (.iadd, 1) := by decide +kernel
theorem d_La_law_96 : decode code 96 = .ok (.iaload, 1) := by decide +kernel
theorem d_La_law_97 : decode code 97 = .ok (.i2l, 1) := by decide +kernel
theorem d_La_law_98 : decode code 98 = .ok (.ldc2_w 38, 3) := by decide +kernel
theorem d_La_law_101 : decode code 101 = .ok (.land, 1) := by decide +kernel
theorem d_La_law_102 : decode code 102 = .ok (.lor, 1) := by decide +kernel
theorem d_La_law_103 : decode code 103 = .ok (.aload_n 3, 1) := by decide +kernel
theorem d_La_law_104 : decode code 104 = .ok (.invokestatic 40, 3) := by decide +kernel
theorem d_La_law_107 : decode code 107 = .ok (.istore 5, 2) := by decide +kernel
theorem d_La_law_109 : decode code 109 = .ok (.aload_n 2, 1) := by decide +kernel
theorem d_La_law_110 : decode code 110 = .ok (.aload_n 0, 1) := by decide +kernel
theorem d_La_law_111 : decode code 111 = .ok (.iload 4, 2) := by decide +kernel
theorem d_La_law_113 : decode code 113 = .ok (.iconst 1, 1) := by decide +kernel
theorem d_La_law_114 : decode code 114 = .ok (.iadd, 1) := by decide +kernel
theorem d_La_law_115 : decode code 115 = .ok (.iaload, 1) := by decide +kernel
theorem d_La_law_116 : decode code 116 = .ok (.i2l, 1) := by decide +kernel
theorem d_La_law_117 : decode code 117 = .ok (.bipush 32, 2) := by decide +kernel
theorem d_La_law_119 : decode code 119 = .ok (.lshl, 1) := by decide +kernel
theorem d_La_law_120 : decode code 120 = .ok (.aload_n 0, 1) := by decide +kernel
theorem d_La_law_121 : decode code 121 = .ok (.iload 4, 2) := by decide +kernel
theorem d_La_law_123 : decode code 123 = .ok (.iconst 2, 1) := by decide +kernel
theorem d_La_law_124 : decode code 124 = .ok (.iadd, 1) := by decide +kernel
theorem d_La_law_125 : decode code 125 = .ok (.iaload, 1) := by decide +kernel
theorem d_La_law_126 : decode code 126 = .ok (.i2l, 1) := by decide +kernel
theorem d_La_law_127 : decode code 127 = .ok (.ldc2_w 38, 3) := by decide +kernel
theorem d_La_law_130 : decode code 130 = .ok (.land, 1) := by decide +kernel
theorem d_La_law_131 : decode code 131 = .ok (.lor, 1) := by decide +kernel
theorem d_La_law_132 : decode code 132 = .ok (.invokevirtual 45, 3) := by decide +kernel
theorem d_La_law_135 : decode code 135 = .ok (.istore 6, 2) := by decide +kernel
theorem d_La_law_137 : decode code 137 = .ok (.aload_n 2, 1) := by decide +kernel
theorem d_La_law_138 : decode code 138 = .ok (.invokevirtual 46, 3) := by decide +kernel
theorem d_La_law_141 : decode code 141 = .ok (.iload 5, 2) := by decide +kernel
theorem d_La_law_143 : decode code 143 = .ok (.if_icmp .eq 5, 3) := by decide +kernel
theorem d_La_law_146 : decode code 146 = .ok (.iconst 0, 1) := by decide +kernel
theorem d_La_law_147 : decode code 147 = .ok (.ireturn, 1) := by decide +kernel
theorem d_La_law_148 : decode code 148 = .ok (.iload 5, 2) := by decide +kernel
theorem d_La_law_150 : decode code 150 = .ok (.ifCond .ne 15, 3) := by decide +kernel
theorem d_La_law_153 : decode code 153 = .ok (.aload_n 3, 1) := by decide +kernel
theorem d_La_law_154 : decode code 154 = .ok (.iconst 0, 1) := by decide +kernel
theorem d_La_law_155 : decode code 155 = .ok (.laload, 1) := by decide +kernel
theorem d_La_law_156 : decode code 156 = .ok (.iload 6, 2) := by decide +kernel
theorem d_La_law_158 : decode code 158 = .ok (.i2l, 1) := by decide +kernel
theorem d_La_law_159 : decode code 159 = .ok (.lcmp, 1) := by decide +kernel
theorem d_La_law_160 : decode code 160 = .ok (.ifCond .eq 5, 3) := by decide +kernel
theorem d_La_law_163 : decode code 163 = .ok (.iconst 0, 1) := by decide +kernel
theorem d_La_law_164 : decode code 164 = .ok (.ireturn, 1) := by decide +kernel
theorem d_La_law_165 : decode code 165 = .ok (.goto 270, 3) := by decide +kernel
theorem d_La_law_168 : decode code 168 = .ok (.aload_n 1, 1) := by decide +kernel
theorem d_La_law_169 : decode code 169 = .ok (.aload_n 0, 1) := by decide +kernel
theorem d_La_law_170 : decode code 170 = .ok (.iload 4, 2) := by decide +kernel
theorem d_La_law_172 : decode code 172 = .ok (.iconst 1, 1) := by decide +kernel
theorem d_La_law_173 : decode code 173 = .ok (.iadd, 1) := by decide +kernel
theorem d_La_law_174 : decode code 174 = .ok (.iaload, 1) := by decide +kernel
theorem d_La_law_175 : decode code 175 = .ok (.i2l, 1) := by decide +kernel
theorem d_La_law_176 : decode code 176 = .ok (.bipush 32, 2) := by decide +kernel
theorem d_La_law_178 : decode code 178 = .ok (.lshl, 1) := by decide +kernel
theorem d_La_law_179 : decode code 179 = .ok (.aload_n 0, 1) := by decide +kernel
theorem d_La_law_180 : decode code 180 = .ok (.iload 4, 2) := by decide +kernel
theorem d_La_law_182 : decode code 182 = .ok (.iconst 2, 1) := by decide +kernel
theorem d_La_law_183 : decode code 183 = .ok (.iadd, 1) := by decide +kernel
theorem d_La_law_184 : decode code 184 = .ok (.iaload, 1) := by decide +kernel
theorem d_La_law_185 : decode code 185 = .ok (.i2l, 1) := by decide +kernel
theorem d_La_law_186 : decode code 186 = .ok (.ldc2_w 38, 3) := by decide +kernel
theorem d_La_law_189 : decode code 189 = .ok (.land, 1) := by decide +kernel
theorem d_La_law_190 : decode code 190 = .ok (.lor, 1) := by decide +kernel
theorem d_La_law_191 : decode code 191 = .ok (.aload_n 3, 1) := by decide +kernel
theorem d_La_law_192 : decode code 192 = .ok (.invokestatic 49, 3) := by decide +kernel
theorem d_La_law_195 : decode code 195 = .ok (.istore 5, 2) := by decide +kernel
theorem d_La_law_197 : decode code 197 = .ok (.aload_n 2, 1) := by decide +kernel
theorem d_La_law_198 : decode code 198 = .ok (.aload_n 0, 1) := by decide +kernel
theorem d_La_law_199 : decode code 199 = .ok (.iload 4, 2) := by decide +kernel
theorem d_La_law_201 : decode code 201 = .ok (.iconst 1, 1) := by decide +kernel
theorem d_La_law_202 : decode code 202 = .ok (.iadd, 1) := by decide +kernel
theorem d_La_law_203 : decode code 203 = .ok (.iaload, 1) := by decide +kernel
theorem d_La_law_204 : decode code 204 = .ok (.i2l, 1) := by decide +kernel
theorem d_La_law_205 : decode code 205 = .ok (.bipush 32, 2) := by decide +kernel
theorem d_La_law_207 : decode code 207 = .ok (.lshl, 1) := by decide +kernel
theorem d_La_law_208 : decode code 208 = .ok (.aload_n 0, 1) := by decide +kernel
theorem d_La_law_209 : decode code 209 = .ok (.iload 4, 2) := by decide +kernel
theorem d_La_law_211 : decode code 211 = .ok (.iconst 2, 1) := by decide +kernel
theorem d_La_law_212 : decode code 212 = .ok (.iadd, 1) := by decide +kernel
theorem d_La_law_213 : decode code 213 = .ok (.iaload, 1) := by decide +kernel
theorem d_La_law_214 : decode code 214 = .ok (.i2l, 1) := by decide +kernel
theorem d_La_law_215 : decode code 215 = .ok (.ldc2_w 38, 3) := by decide +kernel
theorem d_La_law_218 : decode code 218 = .ok (.land, 1) := by decide +kernel
theorem d_La_law_219 : decode code 219 = .ok (.lor, 1) := by decide +kernel
theorem d_La_law_220 : decode code 220 = .ok (.invokevirtual 51, 3) := by decide +kernel
theorem d_La_law_223 : decode code 223 = .ok (.istore 6, 2) := by decide +kernel
theorem d_La_law_225 : decode code 225 = .ok (.aload_n 2, 1) := by decide +kernel
theorem d_La_law_226 : decode code 226 = .ok (.invokevirtual 46, 3) := by decide +kernel
theorem d_La_law_229 : decode code 229 = .ok (.iload 5, 2) := by decide +kernel
theorem d_La_law_231 : decode code 231 = .ok (.if_icmp .eq 5, 3) := by decide +kernel
theorem d_La_law_234 : decode code 234 = .ok (.iconst 0, 1) := by decide +kernel
theorem d_La_law_235 : decode code 235 = .ok (.ireturn, 1) := by decide +kernel
theorem d_La_law_236 : decode code 236 = .ok (.iload 5, 2) := by decide +kernel
theorem d_La_law_238 : decode code 238 = .ok (.ifCond .ne 15, 3) := by decide +kernel
theorem d_La_law_241 : decode code 241 = .ok (.aload_n 3, 1) := by decide +kernel
theorem d_La_law_242 : decode code 242 = .ok (.iconst 0, 1) := by decide +kernel
theorem d_La_law_243 : decode code 243 = .ok (.laload, 1) := by decide +kernel
theorem d_La_law_244 : decode code 244 = .ok (.iload 6, 2) := by decide +kernel
theorem d_La_law_246 : decode code 246 = .ok (.i2l, 1) := by decide +kernel
theorem d_La_law_247 : decode code 247 = .ok (.lcmp, 1) := by decide +kernel
theorem d_La_law_248 : decode code 248 = .ok (.ifCond .eq 5, 3) := by decide +kernel
theorem d_La_law_251 : decode code 251 = .ok (.iconst 0, 1) := by decide +kernel
theorem d_La_law_252 : decode code 252 = .ok (.ireturn, 1) := by decide +kernel
theorem d_La_law_253 : decode code 253 = .ok (.goto 182, 3) := by decide +kernel
theorem d_La_law_256 : decode code 256 = .ok (.aload_n 1, 1) := by decide +kernel
theorem d_La_law_257 : decode code 257 = .ok (.invokevirtual 52, 3) := by decide +kernel
theorem d_La_law_260 : decode code 260 = .ok (.aload_n 2, 1) := by decide +kernel
theorem d_La_law_261 : decode code 261 = .ok (.invokevirtual 55, 3) := by decide +kernel
theorem d_La_law_264 : decode code 264 = .ok (.goto 171, 3) := by decide +kernel
theorem d_La_law_267 : decode code 267 = .ok (.aload_n 1, 1) := by decide +kernel
theorem d_La_law_268 : decode code 268 = .ok (.aload_n 3, 1) := by decide +kernel
theorem d_La_law_269 : decode code 269 = .ok (.invokestatic 56, 3) := by decide +kernel
theorem d_La_law_272 : decode code 272 = .ok (.istore 5, 2) := by decide +kernel
theorem d_La_law_274 : decode code 274 = .ok (.aload_n 2, 1) := by decide +kernel
theorem d_La_law_275 : decode code 275 = .ok (.invokevirtual 59, 3) := by decide +kernel
theorem d_La_law_278 : decode code 278 = .ok (.istore 6, 2) := by decide +kernel
theorem d_La_law_280 : decode code 280 = .ok (.aload_n 2, 1) := by decide +kernel
theorem d_La_law_281 : decode code 281 = .ok (.invokevirtual 46, 3) := by decide +kernel
theorem d_La_law_284 : decode code 284 = .ok (.iload 5, 2) := by decide +kernel
theorem d_La_law_286 : decode code 286 = .ok (.if_icmp .eq 5, 3) := by decide +kernel
theorem d_La_law_289 : decode code 289 = .ok (.iconst 0, 1) := by decide +kernel
theorem d_La_law_290 : decode code 290 = .ok (.ireturn, 1) := by decide +kernel
theorem d_La_law_291 : decode code 291 = .ok (.iload 5, 2) := by decide +kernel
theorem d_La_law_293 : decode code 293 = .ok (.ifCond .ne 15, 3) := by decide +kernel
theorem d_La_law_296 : decode code 296 = .ok (.aload_n 3, 1) := by decide +kernel
theorem d_La_law_297 : decode code 297 = .ok (.iconst 0, 1) := by decide +kernel
theorem d_La_law_298 : decode code 298 = .ok (.laload, 1) := by decide +kernel
theorem d_La_law_299 : decode code 299 = .ok (.iload 6, 2) := by decide +kernel
theorem d_La_law_301 : decode code 301 = .ok (.i2l, 1) := by decide +kernel
theorem d_La_law_302 : decode code 302 = .ok (.lcmp, 1) := by decide +kernel
theorem d_La_law_303 : decode code 303 = .ok (.ifCond .eq 5, 3) := by decide +kernel
theorem d_La_law_306 : decode code 306 = .ok (.iconst 0, 1) := by decide +kernel
theorem d_La_law_307 : decode code 307 = .ok (.ireturn, 1) := by decide +kernel
theorem d_La_law_308 : decode code 308 = .ok (.goto 127, 3) := by decide +kernel
theorem d_La_law_311 : decode code 311 = .ok (.aload_n 1, 1) := by decide +kernel
theorem d_La_law_312 : decode code 312 = .ok (.invokevirtual 60, 3) := by decide +kernel
theorem d_La_law_315 : decode code 315 = .ok (.aload_n 2, 1) := by decide +kernel
theorem d_La_law_316 : decode code 316 = .ok (.invokevirtual 63, 3) := by decide +kernel
theorem d_La_law_319 : decode code 319 = .ok (.if_icmp .eq 116, 3) := by decide +kernel
theorem d_La_law_322 : decode code 322 = .ok (.iconst 0, 1) := by decide +kernel
theorem d_La_law_323 : decode code 323 = .ok (.ireturn, 1) := by decide +kernel
theorem d_La_law_324 : decode code 324 = .ok (.aload_n 1, 1) := by decide +kernel
theorem d_La_law_325 : decode code 325 = .ok (.aload_n 0, 1) := by decide +kernel
theorem d_La_law_326 : decode code 326 = .ok (.iload 4, 2) := by decide +kernel
theorem d_La_law_328 : decode code 328 = .ok (.iconst 1, 1) := by decide +kernel
theorem d_La_law_329 : decode code 329 = .ok (.iadd, 1) := by decide +kernel
theorem d_La_law_330 : decode code 330 = .ok (.iaload, 1) := by decide +kernel
theorem d_La_law_331 : decode code 331 = .ok (.aload_n 3, 1) := by decide +kernel
theorem d_La_law_332 : decode code 332 = .ok (.invokestatic 64, 3) := by decide +kernel
theorem d_La_law_335 : decode code 335 = .ok (.istore 5, 2) := by decide +kernel
theorem d_La_law_337 : decode code 337 = .ok (.aload_n 2, 1) := by decide +kernel
theorem d_La_law_338 : decode code 338 = .ok (.aload_n 0, 1) := by decide +kernel
theorem d_La_law_339 : decode code 339 = .ok (.iload 4, 2) := by decide +kernel
theorem d_La_law_341 : decode code 341 = .ok (.iconst 1, 1) := by decide +kernel
theorem d_La_law_342 : decode code 342 = .ok (.iadd, 1) := by decide +kernel
theorem d_La_law_343 : decode code 343 = .ok (.iaload, 1) := by decide +kernel
theorem d_La_law_344 : decode code 344 = .ok (.invokevirtual 67, 3) := by decide +kernel
theorem d_La_law_347 : decode code 347 = .ok (.lstore 6, 2) := by decide +kernel
theorem d_La_law_349 : decode code 349 = .ok (.aload_n 2, 1) := by decide +kernel
theorem d_La_law_350 : decode code 350 = .ok (.invokevirtual 46, 3) := by decide +kernel
theorem d_La_law_353 : decode code 353 = .ok (.iload 5, 2) := by decide +kernel
theorem d_La_law_355 : decode code 355 = .ok (.if_icmp .eq 5, 3) := by decide +kernel
theorem d_La_law_358 : decode code 358 = .ok (.iconst 0, 1) := by decide +kernel
theorem d_La_law_359 : decode code 359 = .ok (.ireturn, 1) := by decide +kernel
theorem d_La_law_360 : decode code 360 = .ok (.iload 5, 2) := by decide +kernel
theorem d_La_law_362 : decode code 362 = .ok (.ifCond .ne 14, 3) := by decide +kernel
theorem d_La_law_365 : decode code 365 = .ok (.aload_n 3, 1) := by decide +kernel
theorem d_La_law_366 : decode code 366 = .ok (.iconst 0, 1) := by decide +kernel
theorem d_La_law_367 : decode code 367 = .ok (.laload, 1) := by decide +kernel
theorem d_La_law_368 : decode code 368 = .ok (.lload 6, 2) := by decide +kernel
theorem d_La_law_370 : decode code 370 = .ok (.lcmp, 1) := by decide +kernel
theorem d_La_law_371 : decode code 371 = .ok (.ifCond .eq 5, 3) := by decide +kernel
theorem d_La_law_374 : decode code 374 = .ok (.iconst 0, 1) := by decide +kernel
theorem d_La_law_375 : decode code 375 = .ok (.ireturn, 1) := by decide +kernel
theorem d_La_law_376 : decode code 376 = .ok (.goto 59, 3) := by decide +kernel
theorem d_La_law_379 : decode code 379 = .ok (.aload_n 1, 1) := by decide +kernel
theorem d_La_law_380 : decode code 380 = .ok (.aload_n 0, 1) := by decide +kernel
theorem d_La_law_381 : decode code 381 = .ok (.iload 4, 2) := by decide +kernel
theorem d_La_law_383 : decode code 383 = .ok (.iconst 1, 1) := by decide +kernel
theorem d_La_law_384 : decode code 384 = .ok (.iadd, 1) := by decide +kernel
theorem d_La_law_385 : decode code 385 = .ok (.iaload, 1) := by decide +kernel
theorem d_La_law_386 : decode code 386 = .ok (.aload_n 3, 1) := by decide +kernel
theorem d_La_law_387 : decode code 387 = .ok (.invokestatic 68, 3) := by decide +kernel
theorem d_La_law_390 : decode code 390 = .ok (.istore 5, 2) := by decide +kernel
theorem d_La_law_392 : decode code 392 = .ok (.aload_n 2, 1) := by decide +kernel
theorem d_La_law_393 : decode code 393 = .ok (.aload_n 0, 1) := by decide +kernel
theorem d_La_law_394 : decode code 394 = .ok (.iload 4, 2) := by decide +kernel
theorem d_La_law_396 : decode code 396 = .ok (.iconst 1, 1) := by decide +kernel
theorem d_La_law_397 : decode code 397 = .ok (.iadd, 1) := by decide +kernel
theorem d_La_law_398 : decode code 398 = .ok (.iaload, 1) := by decide +kernel
theorem d_La_law_399 : decode code 399 = .ok (.invokevirtual 70, 3) := by decide +kernel
theorem d_La_law_402 : decode code 402 = .ok (.istore 6, 2) := by decide +kernel
theorem d_La_law_404 : decode code 404 = .ok (.aload_n 2, 1) := by decide +kernel
theorem d_La_law_405 : decode code 405 = .ok (.invokevirtual 46, 3) := by decide +kernel
theorem d_La_law_408 : decode code 408 = .ok (.iload 5, 2) := by decide +kernel
theorem d_La_law_410 : decode code 410 = .ok (.if_icmp .eq 5, 3) := by decide +kernel
theorem d_La_law_413 : decode code 413 = .ok (.iconst 0, 1) := by decide +kernel
theorem d_La_law_414 : decode code 414 = .ok (.ireturn, 1) := by decide +kernel
theorem d_La_law_415 : decode code 415 = .ok (.iload 5, 2) := by decide +kernel
theorem d_La_law_417 : decode code 417 = .ok (.ifCond .ne 15, 3) := by decide +kernel
theorem d_La_law_420 : decode code 420 = .ok (.aload_n 3, 1) := by decide +kernel
theorem d_La_law_421 : decode code 421 = .ok (.iconst 0, 1) := by decide +kernel
theorem d_La_law_422 : decode code 422 = .ok (.laload, 1) := by decide +kernel
theorem d_La_law_423 : decode code 423 = .ok (.iload 6, 2) := by decide +kernel
theorem d_La_law_425 : decode code 425 = .ok (.i2l, 1) := by decide +kernel
theorem d_La_law_426 : decode code 426 = .ok (.lcmp, 1) := by decide +kernel
theorem d_La_law_427 : decode code 427 = .ok (.ifCond .eq 5, 3) := by decide +kernel
theorem d_La_law_430 : decode code 430 = .ok (.iconst 0, 1) := by decide +kernel
theorem d_La_law_431 : decode code 431 = .ok (.ireturn, 1) := by decide +kernel
theorem d_La_law_432 : decode code 432 = .ok (.goto 3, 3) := by decide +kernel
theorem d_La_law_435 : decode code 435 = .ok (.iinc 4 3, 3) := by decide +kernel
theorem d_La_law_438 : decode code 438 = .ok (.goto (-415), 3) := by decide +kernel
theorem d_La_law_441 : decode code 441 = .ok (.iconst 1, 1) := by decide +kernel
theorem d_La_law_442 : decode code 442 = .ok (.ireturn, 1) := by decide +kernel
