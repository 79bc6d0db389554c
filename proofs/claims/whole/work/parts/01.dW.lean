theorem dW_cell_0 : decode b_W_cell 0 = .ok (.iload_n 1, 1) := by decide +kernel
theorem dW_cell_1 : decode b_W_cell 1 = .ok (.aload_n 0, 1) := by decide +kernel
theorem dW_cell_2 : decode b_W_cell 2 = .ok (.arraylength, 1) := by decide +kernel
theorem dW_cell_3 : decode b_W_cell 3 = .ok (.if_icmp .ge 9, 3) := by decide +kernel
theorem dW_cell_6 : decode b_W_cell 6 = .ok (.aload_n 0, 1) := by decide +kernel
theorem dW_cell_7 : decode b_W_cell 7 = .ok (.iload_n 1, 1) := by decide +kernel
theorem dW_cell_8 : decode b_W_cell 8 = .ok (.iaload, 1) := by decide +kernel
theorem dW_cell_9 : decode b_W_cell 9 = .ok (.goto 4, 3) := by decide +kernel
theorem dW_cell_12 : decode b_W_cell 12 = .ok (.iconst 0, 1) := by decide +kernel
theorem dW_cell_13 : decode b_W_cell 13 = .ok (.ireturn, 1) := by decide +kernel
theorem dW_about_0 : decode b_W_about 0 = .ok (.aload_n 3, 1) := by decide +kernel
theorem dW_about_1 : decode b_W_about 1 = .ok (.iconst 0, 1) := by decide +kernel
theorem dW_about_2 : decode b_W_about 2 = .ok (.aload_n 0, 1) := by decide +kernel
theorem dW_about_3 : decode b_W_about 3 = .ok (.iload_n 1, 1) := by decide +kernel
theorem dW_about_4 : decode b_W_about 4 = .ok (.iload_n 2, 1) := by decide +kernel
theorem dW_about_5 : decode b_W_about 5 = .ok (.invokevirtual 7, 3) := by decide +kernel
theorem dW_about_8 : decode b_W_about 8 = .ok (.i2l, 1) := by decide +kernel
theorem dW_about_9 : decode b_W_about 9 = .ok (.lastore, 1) := by decide +kernel
theorem dW_about_10 : decode b_W_about 10 = .ok (.goto 7, 3) := by decide +kernel
theorem dW_about_13 : decode b_W_about 13 = .ok (.astore 4, 2) := by decide +kernel
theorem dW_about_15 : decode b_W_about 15 = .ok (.iconst 1, 1) := by decide +kernel
theorem dW_about_16 : decode b_W_about 16 = .ok (.ireturn, 1) := by decide +kernel
theorem dW_about_17 : decode b_W_about 17 = .ok (.iconst 0, 1) := by decide +kernel
theorem dW_about_18 : decode b_W_about 18 = .ok (.ireturn, 1) := by decide +kernel
theorem dW_told_0 : decode b_W_told 0 = .ok (.aload 4, 2) := by decide +kernel
theorem dW_told_2 : decode b_W_told 2 = .ok (.iconst 0, 1) := by decide +kernel
theorem dW_told_3 : decode b_W_told 3 = .ok (.aload_n 0, 1) := by decide +kernel
theorem dW_told_4 : decode b_W_told 4 = .ok (.iload_n 1, 1) := by decide +kernel
theorem dW_told_5 : decode b_W_told 5 = .ok (.iload_n 2, 1) := by decide +kernel
theorem dW_told_6 : decode b_W_told 6 = .ok (.iload_n 3, 1) := by decide +kernel
theorem dW_told_7 : decode b_W_told 7 = .ok (.invokevirtual 15, 3) := by decide +kernel
theorem dW_told_10 : decode b_W_told 10 = .ok (.i2l, 1) := by decide +kernel
theorem dW_told_11 : decode b_W_told 11 = .ok (.lastore, 1) := by decide +kernel
theorem dW_told_12 : decode b_W_told 12 = .ok (.goto 7, 3) := by decide +kernel
theorem dW_told_15 : decode b_W_told 15 = .ok (.astore 5, 2) := by decide +kernel
theorem dW_told_17 : decode b_W_told 17 = .ok (.iconst 1, 1) := by decide +kernel
theorem dW_told_18 : decode b_W_told 18 = .ok (.ireturn, 1) := by decide +kernel
theorem dW_told_19 : decode b_W_told 19 = .ok (.iconst 0, 1) := by decide +kernel
theorem dW_told_20 : decode b_W_told 20 = .ok (.ireturn, 1) := by decide +kernel
theorem dW_overdue_0 : decode b_W_overdue 0 = .ok (.aload_n 3, 1) := by decide +kernel
theorem dW_overdue_1 : decode b_W_overdue 1 = .ok (.iconst 0, 1) := by decide +kernel
theorem dW_overdue_2 : decode b_W_overdue 2 = .ok (.aload_n 0, 1) := by decide +kernel
theorem dW_overdue_3 : decode b_W_overdue 3 = .ok (.iload_n 1, 1) := by decide +kernel
theorem dW_overdue_4 : decode b_W_overdue 4 = .ok (.iload_n 2, 1) := by decide +kernel
theorem dW_overdue_5 : decode b_W_overdue 5 = .ok (.invokevirtual 19, 3) := by decide +kernel
theorem dW_overdue_8 : decode b_W_overdue 8 = .ok (.i2l, 1) := by decide +kernel
theorem dW_overdue_9 : decode b_W_overdue 9 = .ok (.lastore, 1) := by decide +kernel
theorem dW_overdue_10 : decode b_W_overdue 10 = .ok (.goto 7, 3) := by decide +kernel
theorem dW_overdue_13 : decode b_W_overdue 13 = .ok (.astore 4, 2) := by decide +kernel
theorem dW_overdue_15 : decode b_W_overdue 15 = .ok (.iconst 1, 1) := by decide +kernel
theorem dW_overdue_16 : decode b_W_overdue 16 = .ok (.ireturn, 1) := by decide +kernel
theorem dW_overdue_17 : decode b_W_overdue 17 = .ok (.iconst 0, 1) := by decide +kernel
theorem dW_overdue_18 : decode b_W_overdue 18 = .ok (.ireturn, 1) := by decide +kernel
theorem dW_law_0 : decode b_W_law 0 = .ok (.new 8, 3) := by decide +kernel
theorem dW_law_3 : decode b_W_law 3 = .ok (.dup, 1) := by decide +kernel
theorem dW_law_4 : decode b_W_law 4 = .ok (.aload_n 0, 1) := by decide +kernel
theorem dW_law_5 : decode b_W_law 5 = .ok (.iconst 0, 1) := by decide +kernel
theorem dW_law_6 : decode b_W_law 6 = .ok (.invokestatic 22, 3) := by decide +kernel
theorem dW_law_9 : decode b_W_law 9 = .ok (.invokespecial 28, 3) := by decide +kernel
theorem dW_law_12 : decode b_W_law 12 = .ok (.astore_n 1, 1) := by decide +kernel
theorem dW_law_13 : decode b_W_law 13 = .ok (.new 31, 3) := by decide +kernel
theorem dW_law_16 : decode b_W_law 16 = .ok (.dup, 1) := by decide +kernel
theorem dW_law_17 : decode b_W_law 17 = .ok (.aload_n 0, 1) := by decide +kernel
theorem dW_law_18 : decode b_W_law 18 = .ok (.iconst 0, 1) := by decide +kernel
theorem dW_law_19 : decode b_W_law 19 = .ok (.invokestatic 22, 3) := by decide +kernel
theorem dW_law_22 : decode b_W_law 22 = .ok (.invokespecial 33, 3) := by decide +kernel
theorem dW_law_25 : decode b_W_law 25 = .ok (.astore_n 2, 1) := by decide +kernel
theorem dW_law_26 : decode b_W_law 26 = .ok (.iconst 1, 1) := by decide +kernel
theorem dW_law_27 : decode b_W_law 27 = .ok (.newarray .long, 2) := by decide +kernel
theorem dW_law_29 : decode b_W_law 29 = .ok (.astore_n 3, 1) := by decide +kernel
theorem dW_law_30 : decode b_W_law 30 = .ok (.iconst 1, 1) := by decide +kernel
theorem dW_law_31 : decode b_W_law 31 = .ok (.istore 4, 2) := by decide +kernel
theorem dW_law_33 : decode b_W_law 33 = .ok (.iload 4, 2) := by decide +kernel
theorem dW_law_35 : decode b_W_law 35 = .ok (.aload_n 0, 1) := by decide +kernel
theorem dW_law_36 : decode b_W_law 36 = .ok (.arraylength, 1) := by decide +kernel
theorem dW_law_37 : decode b_W_law 37 = .ok (.bipush 7, 2) := by decide +kernel
theorem dW_law_39 : decode b_W_law 39 = .ok (.isub, 1) := by decide +kernel
theorem dW_law_40 : decode b_W_law 40 = .ok (.if_icmp .gt 763, 3) := by decide +kernel
theorem dW_law_43 : decode b_W_law 43 = .ok (.aload_n 0, 1) := by decide +kernel
theorem dW_law_44 : decode b_W_law 44 = .ok (.iload 4, 2) := by decide +kernel
theorem dW_law_46 : decode b_W_law 46 = .ok (.iaload, 1) := by decide +kernel
theorem dW_law_47 : decode b_W_law 47 = .ok (.bipush 15, 2) := by decide +kernel
theorem dW_law_49 : decode b_W_law 49 = .ok (.iand, 1) := by decide +kernel
theorem dW_law_50 : decode b_W_law 50 = .ok (.tableswitch 747 0 13 #[70, 107, 144, 181, 268, 333, 370, 407, 444, 469, 494, 562, 642, 679], 70) := by decide +kernel
theorem dW_law_120 : decode b_W_law 120 = .ok (.aload_n 1, 1) := by decide +kernel
theorem dW_law_121 : decode b_W_law 121 = .ok (.aload_n 0, 1) := by decide +kernel
theorem dW_law_122 : decode b_W_law 122 = .ok (.iload 4, 2) := by decide +kernel
theorem dW_law_124 : decode b_W_law 124 = .ok (.iconst 1, 1) := by decide +kernel
theorem dW_law_125 : decode b_W_law 125 = .ok (.iadd, 1) := by decide +kernel
theorem dW_law_126 : decode b_W_law 126 = .ok (.iaload, 1) := by decide +kernel
theorem dW_law_127 : decode b_W_law 127 = .ok (.aload_n 0, 1) := by decide +kernel
theorem dW_law_128 : decode b_W_law 128 = .ok (.iload 4, 2) := by decide +kernel
theorem dW_law_130 : decode b_W_law 130 = .ok (.iconst 2, 1) := by decide +kernel
theorem dW_law_131 : decode b_W_law 131 = .ok (.iadd, 1) := by decide +kernel
theorem dW_law_132 : decode b_W_law 132 = .ok (.iaload, 1) := by decide +kernel
theorem dW_law_133 : decode b_W_law 133 = .ok (.invokevirtual 34, 3) := by decide +kernel
theorem dW_law_136 : decode b_W_law 136 = .ok (.aload_n 2, 1) := by decide +kernel
theorem dW_law_137 : decode b_W_law 137 = .ok (.aload_n 0, 1) := by decide +kernel
theorem dW_law_138 : decode b_W_law 138 = .ok (.iload 4, 2) := by decide +kernel
theorem dW_law_140 : decode b_W_law 140 = .ok (.iconst 1, 1) := by decide +kernel
theorem dW_law_141 : decode b_W_law 141 = .ok (.iadd, 1) := by decide +kernel
theorem dW_law_142 : decode b_W_law 142 = .ok (.iaload, 1) := by decide +kernel
theorem dW_law_143 : decode b_W_law 143 = .ok (.aload_n 0, 1) := by decide +kernel
theorem dW_law_144 : decode b_W_law 144 = .ok (.iload 4, 2) := by decide +kernel
theorem dW_law_146 : decode b_W_law 146 = .ok (.iconst 2, 1) := by decide +kernel
theorem dW_law_147 : decode b_W_law 147 = .ok (.iadd, 1) := by decide +kernel
theorem dW_law_148 : decode b_W_law 148 = .ok (.iaload, 1) := by decide +kernel
theorem dW_law_149 : decode b_W_law 149 = .ok (.invokevirtual 37, 3) := by decide +kernel
theorem dW_law_152 : decode b_W_law 152 = .ok (.if_icmp .eq 645, 3) := by decide +kernel
theorem dW_law_155 : decode b_W_law 155 = .ok (.iconst 0, 1) := by decide +kernel
theorem dW_law_156 : decode b_W_law 156 = .ok (.ireturn, 1) := by decide +kernel
theorem dW_law_157 : decode b_W_law 157 = .ok (.aload_n 1, 1) := by decide +kernel
theorem dW_law_158 : decode b_W_law 158 = .ok (.aload_n 0, 1) := by decide +kernel
theorem dW_law_159 : decode b_W_law 159 = .ok (.iload 4, 2) := by decide +kernel
theorem dW_law_161 : decode b_W_law 161 = .ok (.iconst 1, 1) := by decide +kernel
theorem dW_law_162 : decode b_W_law 162 = .ok (.iadd, 1) := by decide +kernel
theorem dW_law_163 : decode b_W_law 163 = .ok (.iaload, 1) := by decide +kernel
theorem dW_law_164 : decode b_W_law 164 = .ok (.aload_n 0, 1) := by decide +kernel
theorem dW_law_165 : decode b_W_law 165 = .ok (.iload 4, 2) := by decide +kernel
theorem dW_law_167 : decode b_W_law 167 = .ok (.iconst 2, 1) := by decide +kernel
theorem dW_law_168 : decode b_W_law 168 = .ok (.iadd, 1) := by decide +kernel
theorem dW_law_169 : decode b_W_law 169 = .ok (.iaload, 1) := by decide +kernel
theorem dW_law_170 : decode b_W_law 170 = .ok (.invokevirtual 38, 3) := by decide +kernel
theorem dW_law_173 : decode b_W_law 173 = .ok (.aload_n 2, 1) := by decide +kernel
theorem dW_law_174 : decode b_W_law 174 = .ok (.aload_n 0, 1) := by decide +kernel
theorem dW_law_175 : decode b_W_law 175 = .ok (.iload 4, 2) := by decide +kernel
theorem dW_law_177 : decode b_W_law 177 = .ok (.iconst 1, 1) := by decide +kernel
theorem dW_law_178 : decode b_W_law 178 = .ok (.iadd, 1) := by decide +kernel
theorem dW_law_179 : decode b_W_law 179 = .ok (.iaload, 1) := by decide +kernel
theorem dW_law_180 : decode b_W_law 180 = .ok (.aload_n 0, 1) := by decide +kernel
theorem dW_law_181 : decode b_W_law 181 = .ok (.iload 4, 2) := by decide +kernel
theorem dW_law_183 : decode b_W_law 183 = .ok (.iconst 2, 1) := by decide +kernel
theorem dW_law_184 : decode b_W_law 184 = .ok (.iadd, 1) := by decide +kernel
theorem dW_law_185 : decode b_W_law 185 = .ok (.iaload, 1) := by decide +kernel
theorem dW_law_186 : decode b_W_law 186 = .ok (.invokevirtual 41, 3) := by decide +kernel
theorem dW_law_189 : decode b_W_law 189 = .ok (.if_icmp .eq 608, 3) := by decide +kernel
theorem dW_law_192 : decode b_W_law 192 = .ok (.iconst 0, 1) := by decide +kernel
theorem dW_law_193 : decode b_W_law 193 = .ok (.ireturn, 1) := by decide +kernel
theorem dW_law_194 : decode b_W_law 194 = .ok (.aload_n 1, 1) := by decide +kernel
theorem dW_law_195 : decode b_W_law 195 = .ok (.aload_n 0, 1) := by decide +kernel
theorem dW_law_196 : decode b_W_law 196 = .ok (.iload 4, 2) := by decide +kernel
theorem dW_law_198 : decode b_W_law 198 = .ok (.iconst 1, 1) := by decide +kernel
theorem dW_law_199 : decode b_W_law 199 = .ok (.iadd, 1) := by decide +kernel
theorem dW_law_200 : decode b_W_law 200 = .ok (.iaload, 1) := by decide +kernel
theorem dW_law_201 : decode b_W_law 201 = .ok (.aload_n 0, 1) := by decide +kernel
theorem dW_law_202 : decode b_W_law 202 = .ok (.iload 4, 2) := by decide +kernel
theorem dW_law_204 : decode b_W_law 204 = .ok (.iconst 2, 1) := by decide +kernel
theorem dW_law_205 : decode b_W_law 205 = .ok (.iadd, 1) := by decide +kernel
theorem dW_law_206 : decode b_W_law 206 = .ok (.iaload, 1) := by decide +kernel
theorem dW_law_207 : decode b_W_law 207 = .ok (.invokevirtual 42, 3) := by decide +kernel
theorem dW_law_210 : decode b_W_law 210 = .ok (.aload_n 2, 1) := by decide +kernel
theorem dW_law_211 : decode b_W_law 211 = .ok (.aload_n 0, 1) := by decide +kernel
theorem dW_law_212 : decode b_W_law 212 = .ok (.iload 4, 2) := by decide +kernel
theorem dW_law_214 : decode b_W_law 214 = .ok (.iconst 1, 1) := by decide +kernel
theorem dW_law_215 : decode b_W_law 215 = .ok (.iadd, 1) := by decide +kernel
theorem dW_law_216 : decode b_W_law 216 = .ok (.iaload, 1) := by decide +kernel
theorem dW_law_217 : decode b_W_law 217 = .ok (.aload_n 0, 1) := by decide +kernel
theorem dW_law_218 : decode b_W_law 218 = .ok (.iload 4, 2) := by decide +kernel
theorem dW_law_220 : decode b_W_law 220 = .ok (.iconst 2, 1) := by decide +kernel
theorem dW_law_221 : decode b_W_law 221 = .ok (.iadd, 1) := by decide +kernel
theorem dW_law_222 : decode b_W_law 222 = .ok (.iaload, 1) := by decide +kernel
theorem dW_law_223 : decode b_W_law 223 = .ok (.invokevirtual 45, 3) := by decide +kernel
theorem dW_law_226 : decode b_W_law 226 = .ok (.if_icmp .eq 571, 3) := by decide +kernel
theorem dW_law_229 : decode b_W_law 229 = .ok (.iconst 0, 1) := by decide +kernel
theorem dW_law_230 : decode b_W_law 230 = .ok (.ireturn, 1) := by decide +kernel
theorem dW_law_231 : decode b_W_law 231 = .ok (.aload_n 1, 1) := by decide +kernel
theorem dW_law_232 : decode b_W_law 232 = .ok (.aload_n 0, 1) := by decide +kernel
theorem dW_law_233 : decode b_W_law 233 = .ok (.iload 4, 2) := by decide +kernel
theorem dW_law_235 : decode b_W_law 235 = .ok (.iconst 1, 1) := by decide +kernel
theorem dW_law_236 : decode b_W_law 236 = .ok (.iadd, 1) := by decide +kernel
theorem dW_law_237 : decode b_W_law 237 = .ok (.iaload, 1) := by decide +kernel
theorem dW_law_238 : decode b_W_law 238 = .ok (.aload_n 0, 1) := by decide +kernel
theorem dW_law_239 : decode b_W_law 239 = .ok (.iload 4, 2) := by decide +kernel
theorem dW_law_241 : decode b_W_law 241 = .ok (.iconst 2, 1) := by decide +kernel
theorem dW_law_242 : decode b_W_law 242 = .ok (.iadd, 1) := by decide +kernel
theorem dW_law_243 : decode b_W_law 243 = .ok (.iaload, 1) := by decide +kernel
theorem dW_law_244 : decode b_W_law 244 = .ok (.aload_n 0, 1) := by decide +kernel
theorem dW_law_245 : decode b_W_law 245 = .ok (.iload 4, 2) := by decide +kernel
theorem dW_law_247 : decode b_W_law 247 = .ok (.iconst 3, 1) := by decide +kernel
theorem dW_law_248 : decode b_W_law 248 = .ok (.iadd, 1) := by decide +kernel
theorem dW_law_249 : decode b_W_law 249 = .ok (.iaload, 1) := by decide +kernel
theorem dW_law_250 : decode b_W_law 250 = .ok (.aload_n 0, 1) := by decide +kernel
theorem dW_law_251 : decode b_W_law 251 = .ok (.iload 4, 2) := by decide +kernel
theorem dW_law_253 : decode b_W_law 253 = .ok (.iconst 4, 1) := by decide +kernel
theorem dW_law_254 : decode b_W_law 254 = .ok (.iadd, 1) := by decide +kernel
theorem dW_law_255 : decode b_W_law 255 = .ok (.iaload, 1) := by decide +kernel
theorem dW_law_256 : decode b_W_law 256 = .ok (.aload_n 0, 1) := by decide +kernel
theorem dW_law_257 : decode b_W_law 257 = .ok (.iload 4, 2) := by decide +kernel
theorem dW_law_259 : decode b_W_law 259 = .ok (.iconst 5, 1) := by decide +kernel
theorem dW_law_260 : decode b_W_law 260 = .ok (.iadd, 1) := by decide +kernel
theorem dW_law_261 : decode b_W_law 261 = .ok (.iaload, 1) := by decide +kernel
theorem dW_law_262 : decode b_W_law 262 = .ok (.aload_n 0, 1) := by decide +kernel
theorem dW_law_263 : decode b_W_law 263 = .ok (.iload 4, 2) := by decide +kernel
theorem dW_law_265 : decode b_W_law 265 = .ok (.bipush 6, 2) := by decide +kernel
theorem dW_law_267 : decode b_W_law 267 = .ok (.iadd, 1) := by decide +kernel
theorem dW_law_268 : decode b_W_law 268 = .ok (.iaload, 1) := by decide +kernel
theorem dW_law_269 : decode b_W_law 269 = .ok (.invokevirtual 46, 3) := by decide +kernel
theorem dW_law_272 : decode b_W_law 272 = .ok (.aload_n 2, 1) := by decide +kernel
theorem dW_law_273 : decode b_W_law 273 = .ok (.aload_n 0, 1) := by decide +kernel
theorem dW_law_274 : decode b_W_law 274 = .ok (.iload 4, 2) := by decide +kernel
theorem dW_law_276 : decode b_W_law 276 = .ok (.iconst 1, 1) := by decide +kernel
theorem dW_law_277 : decode b_W_law 277 = .ok (.iadd, 1) := by decide +kernel
theorem dW_law_278 : decode b_W_law 278 = .ok (.iaload, 1) := by decide +kernel
theorem dW_law_279 : decode b_W_law 279 = .ok (.aload_n 0, 1) := by decide +kernel
theorem dW_law_280 : decode b_W_law 280 = .ok (.iload 4, 2) := by decide +kernel
theorem dW_law_282 : decode b_W_law 282 = .ok (.iconst 2, 1) := by decide +kernel
theorem dW_law_283 : decode b_W_law 283 = .ok (.iadd, 1) := by decide +kernel
theorem dW_law_284 : decode b_W_law 284 = .ok (.iaload, 1) := by decide +kernel
theorem dW_law_285 : decode b_W_law 285 = .ok (.aload_n 0, 1) := by decide +kernel
theorem dW_law_286 : decode b_W_law 286 = .ok (.iload 4, 2) := by decide +kernel
theorem dW_law_288 : decode b_W_law 288 = .ok (.iconst 3, 1) := by decide +kernel
theorem dW_law_289 : decode b_W_law 289 = .ok (.iadd, 1) := by decide +kernel
theorem dW_law_290 : decode b_W_law 290 = .ok (.iaload, 1) := by decide +kernel
theorem dW_law_291 : decode b_W_law 291 = .ok (.aload_n 0, 1) := by decide +kernel
theorem dW_law_292 : decode b_W_law 292 = .ok (.iload 4, 2) := by decide +kernel
theorem dW_law_294 : decode b_W_law 294 = .ok (.iconst 4, 1) := by decide +kernel
theorem dW_law_295 : decode b_W_law 295 = .ok (.iadd, 1) := by decide +kernel
theorem dW_law_296 : decode b_W_law 296 = .ok (.iaload, 1) := by decide +kernel
theorem dW_law_297 : decode b_W_law 297 = .ok (.aload_n 0, 1) := by decide +kernel
theorem dW_law_298 : decode b_W_law 298 = .ok (.iload 4, 2) := by decide +kernel
theorem dW_law_300 : decode b_W_law 300 = .ok (.iconst 5, 1) := by decide +kernel
theorem dW_law_301 : decode b_W_law 301 = .ok (.iadd, 1) := by decide +kernel
theorem dW_law_302 : decode b_W_law 302 = .ok (.iaload, 1) := by decide +kernel
theorem dW_law_303 : decode b_W_law 303 = .ok (.aload_n 0, 1) := by decide +kernel
theorem dW_law_304 : decode b_W_law 304 = .ok (.iload 4, 2) := by decide +kernel
theorem dW_law_306 : decode b_W_law 306 = .ok (.bipush 6, 2) := by decide +kernel
theorem dW_law_308 : decode b_W_law 308 = .ok (.iadd, 1) := by decide +kernel
theorem dW_law_309 : decode b_W_law 309 = .ok (.iaload, 1) := by decide +kernel
theorem dW_law_310 : decode b_W_law 310 = .ok (.invokevirtual 50, 3) := by decide +kernel
theorem dW_law_313 : decode b_W_law 313 = .ok (.if_icmp .eq 484, 3) := by decide +kernel
theorem dW_law_316 : decode b_W_law 316 = .ok (.iconst 0, 1) := by decide +kernel
theorem dW_law_317 : decode b_W_law 317 = .ok (.ireturn, 1) := by decide +kernel
theorem dW_law_318 : decode b_W_law 318 = .ok (.aload_n 1, 1) := by decide +kernel
theorem dW_law_319 : decode b_W_law 319 = .ok (.aload_n 0, 1) := by decide +kernel
theorem dW_law_320 : decode b_W_law 320 = .ok (.iload 4, 2) := by decide +kernel
theorem dW_law_322 : decode b_W_law 322 = .ok (.iconst 1, 1) := by decide +kernel
theorem dW_law_323 : decode b_W_law 323 = .ok (.iadd, 1) := by decide +kernel
theorem dW_law_324 : decode b_W_law 324 = .ok (.iaload, 1) := by decide +kernel
theorem dW_law_325 : decode b_W_law 325 = .ok (.aload_n 0, 1) := by decide +kernel
theorem dW_law_326 : decode b_W_law 326 = .ok (.iload 4, 2) := by decide +kernel
theorem dW_law_328 : decode b_W_law 328 = .ok (.iconst 2, 1) := by decide +kernel
theorem dW_law_329 : decode b_W_law 329 = .ok (.iadd, 1) := by decide +kernel
theorem dW_law_330 : decode b_W_law 330 = .ok (.iaload, 1) := by decide +kernel
theorem dW_law_331 : decode b_W_law 331 = .ok (.ifCond .eq 7, 3) := by decide +kernel
theorem dW_law_334 : decode b_W_law 334 = .ok (.iconst 1, 1) := by decide +kernel
theorem dW_law_335 : decode b_W_law 335 = .ok (.goto 4, 3) := by decide +kernel
theorem dW_law_338 : decode b_W_law 338 = .ok (.iconst 0, 1) := by decide +kernel
theorem dW_law_339 : decode b_W_law 339 = .ok (.aload_n 0, 1) := by decide +kernel
theorem dW_law_340 : decode b_W_law 340 = .ok (.iload 4, 2) := by decide +kernel
theorem dW_law_342 : decode b_W_law 342 = .ok (.iconst 3, 1) := by decide +kernel
theorem dW_law_343 : decode b_W_law 343 = .ok (.iadd, 1) := by decide +kernel
theorem dW_law_344 : decode b_W_law 344 = .ok (.iaload, 1) := by decide +kernel
theorem dW_law_345 : decode b_W_law 345 = .ok (.invokevirtual 51, 3) := by decide +kernel
theorem dW_law_348 : decode b_W_law 348 = .ok (.aload_n 2, 1) := by decide +kernel
theorem dW_law_349 : decode b_W_law 349 = .ok (.aload_n 0, 1) := by decide +kernel
theorem dW_law_350 : decode b_W_law 350 = .ok (.iload 4, 2) := by decide +kernel
theorem dW_law_352 : decode b_W_law 352 = .ok (.iconst 1, 1) := by decide +kernel
theorem dW_law_353 : decode b_W_law 353 = .ok (.iadd, 1) := by decide +kernel
theorem dW_law_354 : decode b_W_law 354 = .ok (.iaload, 1) := by decide +kernel
theorem dW_law_355 : decode b_W_law 355 = .ok (.aload_n 0, 1) := by decide +kernel
theorem dW_law_356 : decode b_W_law 356 = .ok (.iload 4, 2) := by decide +kernel
theorem dW_law_358 : decode b_W_law 358 = .ok (.iconst 2, 1) := by decide +kernel
theorem dW_law_359 : decode b_W_law 359 = .ok (.iadd, 1) := by decide +kernel
theorem dW_law_360 : decode b_W_law 360 = .ok (.iaload, 1) := by decide +kernel
theorem dW_law_361 : decode b_W_law 361 = .ok (.ifCond .eq 7, 3) := by decide +kernel
theorem dW_law_364 : decode b_W_law 364 = .ok (.iconst 1, 1) := by decide +kernel
theorem dW_law_365 : decode b_W_law 365 = .ok (.goto 4, 3) := by decide +kernel
theorem dW_law_368 : decode b_W_law 368 = .ok (.iconst 0, 1) := by decide +kernel
theorem dW_law_369 : decode b_W_law 369 = .ok (.aload_n 0, 1) := by decide +kernel
theorem dW_law_370 : decode b_W_law 370 = .ok (.iload 4, 2) := by decide +kernel
theorem dW_law_372 : decode b_W_law 372 = .ok (.iconst 3, 1) := by decide +kernel
theorem dW_law_373 : decode b_W_law 373 = .ok (.iadd, 1) := by decide +kernel
theorem dW_law_374 : decode b_W_law 374 = .ok (.iaload, 1) := by decide +kernel
theorem dW_law_375 : decode b_W_law 375 = .ok (.invokevirtual 55, 3) := by decide +kernel
theorem dW_law_378 : decode b_W_law 378 = .ok (.if_icmp .eq 419, 3) := by decide +kernel
theorem dW_law_381 : decode b_W_law 381 = .ok (.iconst 0, 1) := by decide +kernel
theorem dW_law_382 : decode b_W_law 382 = .ok (.ireturn, 1) := by decide +kernel
theorem dW_law_383 : decode b_W_law 383 = .ok (.aload_n 1, 1) := by decide +kernel
theorem dW_law_384 : decode b_W_law 384 = .ok (.aload_n 0, 1) := by decide +kernel
theorem dW_law_385 : decode b_W_law 385 = .ok (.iload 4, 2) := by decide +kernel
theorem dW_law_387 : decode b_W_law 387 = .ok (.iconst 1, 1) := by decide +kernel
theorem dW_law_388 : decode b_W_law 388 = .ok (.iadd, 1) := by decide +kernel
theorem dW_law_389 : decode b_W_law 389 = .ok (.iaload, 1) := by decide +kernel
theorem dW_law_390 : decode b_W_law 390 = .ok (.aload_n 0, 1) := by decide +kernel
theorem dW_law_391 : decode b_W_law 391 = .ok (.iload 4, 2) := by decide +kernel
theorem dW_law_393 : decode b_W_law 393 = .ok (.iconst 2, 1) := by decide +kernel
theorem dW_law_394 : decode b_W_law 394 = .ok (.iadd, 1) := by decide +kernel
theorem dW_law_395 : decode b_W_law 395 = .ok (.iaload, 1) := by decide +kernel
theorem dW_law_396 : decode b_W_law 396 = .ok (.invokevirtual 56, 3) := by decide +kernel
theorem dW_law_399 : decode b_W_law 399 = .ok (.aload_n 2, 1) := by decide +kernel
theorem dW_law_400 : decode b_W_law 400 = .ok (.aload_n 0, 1) := by decide +kernel
theorem dW_law_401 : decode b_W_law 401 = .ok (.iload 4, 2) := by decide +kernel
theorem dW_law_403 : decode b_W_law 403 = .ok (.iconst 1, 1) := by decide +kernel
theorem dW_law_404 : decode b_W_law 404 = .ok (.iadd, 1) := by decide +kernel
theorem dW_law_405 : decode b_W_law 405 = .ok (.iaload, 1) := by decide +kernel
theorem dW_law_406 : decode b_W_law 406 = .ok (.aload_n 0, 1) := by decide +kernel
theorem dW_law_407 : decode b_W_law 407 = .ok (.iload 4, 2) := by decide +kernel
theorem dW_law_409 : decode b_W_law 409 = .ok (.iconst 2, 1) := by decide +kernel
theorem dW_law_410 : decode b_W_law 410 = .ok (.iadd, 1) := by decide +kernel
theorem dW_law_411 : decode b_W_law 411 = .ok (.iaload, 1) := by decide +kernel
theorem dW_law_412 : decode b_W_law 412 = .ok (.invokevirtual 59, 3) := by decide +kernel
theorem dW_law_415 : decode b_W_law 415 = .ok (.if_icmp .eq 382, 3) := by decide +kernel
theorem dW_law_418 : decode b_W_law 418 = .ok (.iconst 0, 1) := by decide +kernel
theorem dW_law_419 : decode b_W_law 419 = .ok (.ireturn, 1) := by decide +kernel
theorem dW_law_420 : decode b_W_law 420 = .ok (.aload_n 1, 1) := by decide +kernel
theorem dW_law_421 : decode b_W_law 421 = .ok (.aload_n 0, 1) := by decide +kernel
theorem dW_law_422 : decode b_W_law 422 = .ok (.iload 4, 2) := by decide +kernel
theorem dW_law_424 : decode b_W_law 424 = .ok (.iconst 1, 1) := by decide +kernel
theorem dW_law_425 : decode b_W_law 425 = .ok (.iadd, 1) := by decide +kernel
theorem dW_law_426 : decode b_W_law 426 = .ok (.iaload, 1) := by decide +kernel
theorem dW_law_427 : decode b_W_law 427 = .ok (.aload_n 0, 1) := by decide +kernel
theorem dW_law_428 : decode b_W_law 428 = .ok (.iload 4, 2) := by decide +kernel
theorem dW_law_430 : decode b_W_law 430 = .ok (.iconst 2, 1) := by decide +kernel
theorem dW_law_431 : decode b_W_law 431 = .ok (.iadd, 1) := by decide +kernel
theorem dW_law_432 : decode b_W_law 432 = .ok (.iaload, 1) := by decide +kernel
theorem dW_law_433 : decode b_W_law 433 = .ok (.invokevirtual 60, 3) := by decide +kernel
theorem dW_law_436 : decode b_W_law 436 = .ok (.aload_n 2, 1) := by decide +kernel
theorem dW_law_437 : decode b_W_law 437 = .ok (.aload_n 0, 1) := by decide +kernel
theorem dW_law_438 : decode b_W_law 438 = .ok (.iload 4, 2) := by decide +kernel
theorem dW_law_440 : decode b_W_law 440 = .ok (.iconst 1, 1) := by decide +kernel
theorem dW_law_441 : decode b_W_law 441 = .ok (.iadd, 1) := by decide +kernel
theorem dW_law_442 : decode b_W_law 442 = .ok (.iaload, 1) := by decide +kernel
theorem dW_law_443 : decode b_W_law 443 = .ok (.aload_n 0, 1) := by decide +kernel
theorem dW_law_444 : decode b_W_law 444 = .ok (.iload 4, 2) := by decide +kernel
theorem dW_law_446 : decode b_W_law 446 = .ok (.iconst 2, 1) := by decide +kernel
theorem dW_law_447 : decode b_W_law 447 = .ok (.iadd, 1) := by decide +kernel
theorem dW_law_448 : decode b_W_law 448 = .ok (.iaload, 1) := by decide +kernel
theorem dW_law_449 : decode b_W_law 449 = .ok (.invokevirtual 63, 3) := by decide +kernel
theorem dW_law_452 : decode b_W_law 452 = .ok (.if_icmp .eq 345, 3) := by decide +kernel
theorem dW_law_455 : decode b_W_law 455 = .ok (.iconst 0, 1) := by decide +kernel
theorem dW_law_456 : decode b_W_law 456 = .ok (.ireturn, 1) := by decide +kernel
theorem dW_law_457 : decode b_W_law 457 = .ok (.aload_n 1, 1) := by decide +kernel
theorem dW_law_458 : decode b_W_law 458 = .ok (.aload_n 0, 1) := by decide +kernel
theorem dW_law_459 : decode b_W_law 459 = .ok (.iload 4, 2) := by decide +kernel
theorem dW_law_461 : decode b_W_law 461 = .ok (.iconst 1, 1) := by decide +kernel
theorem dW_law_462 : decode b_W_law 462 = .ok (.iadd, 1) := by decide +kernel
theorem dW_law_463 : decode b_W_law 463 = .ok (.iaload, 1) := by decide +kernel
theorem dW_law_464 : decode b_W_law 464 = .ok (.aload_n 0, 1) := by decide +kernel
theorem dW_law_465 : decode b_W_law 465 = .ok (.iload 4, 2) := by decide +kernel
theorem dW_law_467 : decode b_W_law 467 = .ok (.iconst 2, 1) := by decide +kernel
theorem dW_law_468 : decode b_W_law 468 = .ok (.iadd, 1) := by decide +kernel
theorem dW_law_469 : decode b_W_law 469 = .ok (.iaload, 1) := by decide +kernel
theorem dW_law_470 : decode b_W_law 470 = .ok (.invokevirtual 64, 3) := by decide +kernel
theorem dW_law_473 : decode b_W_law 473 = .ok (.aload_n 2, 1) := by decide +kernel
theorem dW_law_474 : decode b_W_law 474 = .ok (.aload_n 0, 1) := by decide +kernel
theorem dW_law_475 : decode b_W_law 475 = .ok (.iload 4, 2) := by decide +kernel
theorem dW_law_477 : decode b_W_law 477 = .ok (.iconst 1, 1) := by decide +kernel
theorem dW_law_478 : decode b_W_law 478 = .ok (.iadd, 1) := by decide +kernel
theorem dW_law_479 : decode b_W_law 479 = .ok (.iaload, 1) := by decide +kernel
theorem dW_law_480 : decode b_W_law 480 = .ok (.aload_n 0, 1) := by decide +kernel
theorem dW_law_481 : decode b_W_law 481 = .ok (.iload 4, 2) := by decide +kernel
theorem dW_law_483 : decode b_W_law 483 = .ok (.iconst 2, 1) := by decide +kernel
theorem dW_law_484 : decode b_W_law 484 = .ok (.iadd, 1) := by decide +kernel
theorem dW_law_485 : decode b_W_law 485 = .ok (.iaload, 1) := by decide +kernel
theorem dW_law_486 : decode b_W_law 486 = .ok (.invokevirtual 67, 3) := by decide +kernel
theorem dW_law_489 : decode b_W_law 489 = .ok (.if_icmp .eq 308, 3) := by decide +kernel
theorem dW_law_492 : decode b_W_law 492 = .ok (.iconst 0, 1) := by decide +kernel
theorem dW_law_493 : decode b_W_law 493 = .ok (.ireturn, 1) := by decide +kernel
theorem dW_law_494 : decode b_W_law 494 = .ok (.aload_n 1, 1) := by decide +kernel
theorem dW_law_495 : decode b_W_law 495 = .ok (.aload_n 0, 1) := by decide +kernel
theorem dW_law_496 : decode b_W_law 496 = .ok (.iload 4, 2) := by decide +kernel
theorem dW_law_498 : decode b_W_law 498 = .ok (.iconst 1, 1) := by decide +kernel
theorem dW_law_499 : decode b_W_law 499 = .ok (.iadd, 1) := by decide +kernel
theorem dW_law_500 : decode b_W_law 500 = .ok (.iaload, 1) := by decide +kernel
theorem dW_law_501 : decode b_W_law 501 = .ok (.invokevirtual 68, 3) := by decide +kernel
theorem dW_law_504 : decode b_W_law 504 = .ok (.aload_n 2, 1) := by decide +kernel
theorem dW_law_505 : decode b_W_law 505 = .ok (.aload_n 0, 1) := by decide +kernel
theorem dW_law_506 : decode b_W_law 506 = .ok (.iload 4, 2) := by decide +kernel
theorem dW_law_508 : decode b_W_law 508 = .ok (.iconst 1, 1) := by decide +kernel
theorem dW_law_509 : decode b_W_law 509 = .ok (.iadd, 1) := by decide +kernel
theorem dW_law_510 : decode b_W_law 510 = .ok (.iaload, 1) := by decide +kernel
theorem dW_law_511 : decode b_W_law 511 = .ok (.invokevirtual 72, 3) := by decide +kernel
theorem dW_law_514 : decode b_W_law 514 = .ok (.if_icmp .eq 283, 3) := by decide +kernel
theorem dW_law_517 : decode b_W_law 517 = .ok (.iconst 0, 1) := by decide +kernel
theorem dW_law_518 : decode b_W_law 518 = .ok (.ireturn, 1) := by decide +kernel
theorem dW_law_519 : decode b_W_law 519 = .ok (.aload_n 1, 1) := by decide +kernel
theorem dW_law_520 : decode b_W_law 520 = .ok (.aload_n 0, 1) := by decide +kernel
theorem dW_law_521 : decode b_W_law 521 = .ok (.iload 4, 2) := by decide +kernel
theorem dW_law_523 : decode b_W_law 523 = .ok (.iconst 1, 1) := by decide +kernel
theorem dW_law_524 : decode b_W_law 524 = .ok (.iadd, 1) := by decide +kernel
theorem dW_law_525 : decode b_W_law 525 = .ok (.iaload, 1) := by decide +kernel
theorem dW_law_526 : decode b_W_law 526 = .ok (.invokevirtual 73, 3) := by decide +kernel
theorem dW_law_529 : decode b_W_law 529 = .ok (.aload_n 2, 1) := by decide +kernel
theorem dW_law_530 : decode b_W_law 530 = .ok (.aload_n 0, 1) := by decide +kernel
theorem dW_law_531 : decode b_W_law 531 = .ok (.iload 4, 2) := by decide +kernel
theorem dW_law_533 : decode b_W_law 533 = .ok (.iconst 1, 1) := by decide +kernel
theorem dW_law_534 : decode b_W_law 534 = .ok (.iadd, 1) := by decide +kernel
theorem dW_law_535 : decode b_W_law 535 = .ok (.iaload, 1) := by decide +kernel
theorem dW_law_536 : decode b_W_law 536 = .ok (.invokevirtual 76, 3) := by decide +kernel
theorem dW_law_539 : decode b_W_law 539 = .ok (.if_icmp .eq 258, 3) := by decide +kernel
theorem dW_law_542 : decode b_W_law 542 = .ok (.iconst 0, 1) := by decide +kernel
theorem dW_law_543 : decode b_W_law 543 = .ok (.ireturn, 1) := by decide +kernel
theorem dW_law_544 : decode b_W_law 544 = .ok (.aload_n 1, 1) := by decide +kernel
theorem dW_law_545 : decode b_W_law 545 = .ok (.aload_n 0, 1) := by decide +kernel
theorem dW_law_546 : decode b_W_law 546 = .ok (.iload 4, 2) := by decide +kernel
theorem dW_law_548 : decode b_W_law 548 = .ok (.iconst 1, 1) := by decide +kernel
theorem dW_law_549 : decode b_W_law 549 = .ok (.iadd, 1) := by decide +kernel
theorem dW_law_550 : decode b_W_law 550 = .ok (.iaload, 1) := by decide +kernel
theorem dW_law_551 : decode b_W_law 551 = .ok (.aload_n 0, 1) := by decide +kernel
theorem dW_law_552 : decode b_W_law 552 = .ok (.iload 4, 2) := by decide +kernel
theorem dW_law_554 : decode b_W_law 554 = .ok (.iconst 2, 1) := by decide +kernel
theorem dW_law_555 : decode b_W_law 555 = .ok (.iadd, 1) := by decide +kernel
theorem dW_law_556 : decode b_W_law 556 = .ok (.iaload, 1) := by decide +kernel
theorem dW_law_557 : decode b_W_law 557 = .ok (.aload_n 3, 1) := by decide +kernel
theorem dW_law_558 : decode b_W_law 558 = .ok (.invokestatic 77, 3) := by decide +kernel
theorem dW_law_561 : decode b_W_law 561 = .ok (.istore 5, 2) := by decide +kernel
theorem dW_law_563 : decode b_W_law 563 = .ok (.aload_n 2, 1) := by decide +kernel
theorem dW_law_564 : decode b_W_law 564 = .ok (.aload_n 0, 1) := by decide +kernel
theorem dW_law_565 : decode b_W_law 565 = .ok (.iload 4, 2) := by decide +kernel
theorem dW_law_567 : decode b_W_law 567 = .ok (.iconst 1, 1) := by decide +kernel
theorem dW_law_568 : decode b_W_law 568 = .ok (.iadd, 1) := by decide +kernel
theorem dW_law_569 : decode b_W_law 569 = .ok (.iaload, 1) := by decide +kernel
theorem dW_law_570 : decode b_W_law 570 = .ok (.aload_n 0, 1) := by decide +kernel
theorem dW_law_571 : decode b_W_law 571 = .ok (.iload 4, 2) := by decide +kernel
theorem dW_law_573 : decode b_W_law 573 = .ok (.iconst 2, 1) := by decide +kernel
theorem dW_law_574 : decode b_W_law 574 = .ok (.iadd, 1) := by decide +kernel
theorem dW_law_575 : decode b_W_law 575 = .ok (.iaload, 1) := by decide +kernel
theorem dW_law_576 : decode b_W_law 576 = .ok (.invokevirtual 80, 3) := by decide +kernel
theorem dW_law_579 : decode b_W_law 579 = .ok (.istore 6, 2) := by decide +kernel
theorem dW_law_581 : decode b_W_law 581 = .ok (.aload_n 2, 1) := by decide +kernel
theorem dW_law_582 : decode b_W_law 582 = .ok (.invokevirtual 81, 3) := by decide +kernel
theorem dW_law_585 : decode b_W_law 585 = .ok (.iload 5, 2) := by decide +kernel
theorem dW_law_587 : decode b_W_law 587 = .ok (.if_icmp .eq 5, 3) := by decide +kernel
theorem dW_law_590 : decode b_W_law 590 = .ok (.iconst 0, 1) := by decide +kernel
theorem dW_law_591 : decode b_W_law 591 = .ok (.ireturn, 1) := by decide +kernel
theorem dW_law_592 : decode b_W_law 592 = .ok (.iload 5, 2) := by decide +kernel
theorem dW_law_594 : decode b_W_law 594 = .ok (.ifCond .ne 15, 3) := by decide +kernel
theorem dW_law_597 : decode b_W_law 597 = .ok (.aload_n 3, 1) := by decide +kernel
theorem dW_law_598 : decode b_W_law 598 = .ok (.iconst 0, 1) := by decide +kernel
theorem dW_law_599 : decode b_W_law 599 = .ok (.laload, 1) := by decide +kernel
theorem dW_law_600 : decode b_W_law 600 = .ok (.iload 6, 2) := by decide +kernel
theorem dW_law_602 : decode b_W_law 602 = .ok (.i2l, 1) := by decide +kernel
theorem dW_law_603 : decode b_W_law 603 = .ok (.lcmp, 1) := by decide +kernel
theorem dW_law_604 : decode b_W_law 604 = .ok (.ifCond .eq 5, 3) := by decide +kernel
theorem dW_law_607 : decode b_W_law 607 = .ok (.iconst 0, 1) := by decide +kernel
theorem dW_law_608 : decode b_W_law 608 = .ok (.ireturn, 1) := by decide +kernel
theorem dW_law_609 : decode b_W_law 609 = .ok (.goto 188, 3) := by decide +kernel
theorem dW_law_612 : decode b_W_law 612 = .ok (.aload_n 1, 1) := by decide +kernel
theorem dW_law_613 : decode b_W_law 613 = .ok (.aload_n 0, 1) := by decide +kernel
theorem dW_law_614 : decode b_W_law 614 = .ok (.iload 4, 2) := by decide +kernel
theorem dW_law_616 : decode b_W_law 616 = .ok (.iconst 1, 1) := by decide +kernel
theorem dW_law_617 : decode b_W_law 617 = .ok (.iadd, 1) := by decide +kernel
theorem dW_law_618 : decode b_W_law 618 = .ok (.iaload, 1) := by decide +kernel
theorem dW_law_619 : decode b_W_law 619 = .ok (.aload_n 0, 1) := by decide +kernel
theorem dW_law_620 : decode b_W_law 620 = .ok (.iload 4, 2) := by decide +kernel
theorem dW_law_622 : decode b_W_law 622 = .ok (.iconst 2, 1) := by decide +kernel
theorem dW_law_623 : decode b_W_law 623 = .ok (.iadd, 1) := by decide +kernel
theorem dW_law_624 : decode b_W_law 624 = .ok (.iaload, 1) := by decide +kernel
theorem dW_law_625 : decode b_W_law 625 = .ok (.aload_n 0, 1) := by decide +kernel
theorem dW_law_626 : decode b_W_law 626 = .ok (.iload 4, 2) := by decide +kernel
theorem dW_law_628 : decode b_W_law 628 = .ok (.iconst 3, 1) := by decide +kernel
theorem dW_law_629 : decode b_W_law 629 = .ok (.iadd, 1) := by decide +kernel
theorem dW_law_630 : decode b_W_law 630 = .ok (.iaload, 1) := by decide +kernel
theorem dW_law_631 : decode b_W_law 631 = .ok (.aload_n 3, 1) := by decide +kernel
theorem dW_law_632 : decode b_W_law 632 = .ok (.invokestatic 85, 3) := by decide +kernel
theorem dW_law_635 : decode b_W_law 635 = .ok (.istore 5, 2) := by decide +kernel
theorem dW_law_637 : decode b_W_law 637 = .ok (.aload_n 2, 1) := by decide +kernel
theorem dW_law_638 : decode b_W_law 638 = .ok (.aload_n 0, 1) := by decide +kernel
theorem dW_law_639 : decode b_W_law 639 = .ok (.iload 4, 2) := by decide +kernel
theorem dW_law_641 : decode b_W_law 641 = .ok (.iconst 1, 1) := by decide +kernel
theorem dW_law_642 : decode b_W_law 642 = .ok (.iadd, 1) := by decide +kernel
theorem dW_law_643 : decode b_W_law 643 = .ok (.iaload, 1) := by decide +kernel
theorem dW_law_644 : decode b_W_law 644 = .ok (.aload_n 0, 1) := by decide +kernel
theorem dW_law_645 : decode b_W_law 645 = .ok (.iload 4, 2) := by decide +kernel
theorem dW_law_647 : decode b_W_law 647 = .ok (.iconst 2, 1) := by decide +kernel
theorem dW_law_648 : decode b_W_law 648 = .ok (.iadd, 1) := by decide +kernel
theorem dW_law_649 : decode b_W_law 649 = .ok (.iaload, 1) := by decide +kernel
theorem dW_law_650 : decode b_W_law 650 = .ok (.aload_n 0, 1) := by decide +kernel
theorem dW_law_651 : decode b_W_law 651 = .ok (.iload 4, 2) := by decide +kernel
theorem dW_law_653 : decode b_W_law 653 = .ok (.iconst 3, 1) := by decide +kernel
theorem dW_law_654 : decode b_W_law 654 = .ok (.iadd, 1) := by decide +kernel
theorem dW_law_655 : decode b_W_law 655 = .ok (.iaload, 1) := by decide +kernel
theorem dW_law_656 : decode b_W_law 656 = .ok (.invokevirtual 88, 3) := by decide +kernel
theorem dW_law_659 : decode b_W_law 659 = .ok (.istore 6, 2) := by decide +kernel
theorem dW_law_661 : decode b_W_law 661 = .ok (.aload_n 2, 1) := by decide +kernel
theorem dW_law_662 : decode b_W_law 662 = .ok (.invokevirtual 81, 3) := by decide +kernel
theorem dW_law_665 : decode b_W_law 665 = .ok (.iload 5, 2) := by decide +kernel
theorem dW_law_667 : decode b_W_law 667 = .ok (.if_icmp .eq 5, 3) := by decide +kernel
theorem dW_law_670 : decode b_W_law 670 = .ok (.iconst 0, 1) := by decide +kernel
theorem dW_law_671 : decode b_W_law 671 = .ok (.ireturn, 1) := by decide +kernel
theorem dW_law_672 : decode b_W_law 672 = .ok (.iload 5, 2) := by decide +kernel
theorem dW_law_674 : decode b_W_law 674 = .ok (.ifCond .ne 15, 3) := by decide +kernel
theorem dW_law_677 : decode b_W_law 677 = .ok (.aload_n 3, 1) := by decide +kernel
theorem dW_law_678 : decode b_W_law 678 = .ok (.iconst 0, 1) := by decide +kernel
theorem dW_law_679 : decode b_W_law 679 = .ok (.laload, 1) := by decide +kernel
theorem dW_law_680 : decode b_W_law 680 = .ok (.iload 6, 2) := by decide +kernel
theorem dW_law_682 : decode b_W_law 682 = .ok (.i2l, 1) := by decide +kernel
theorem dW_law_683 : decode b_W_law 683 = .ok (.lcmp, 1) := by decide +kernel
theorem dW_law_684 : decode b_W_law 684 = .ok (.ifCond .eq 5, 3) := by decide +kernel
theorem dW_law_687 : decode b_W_law 687 = .ok (.iconst 0, 1) := by decide +kernel
theorem dW_law_688 : decode b_W_law 688 = .ok (.ireturn, 1) := by decide +kernel
theorem dW_law_689 : decode b_W_law 689 = .ok (.goto 108, 3) := by decide +kernel
theorem dW_law_692 : decode b_W_law 692 = .ok (.aload_n 1, 1) := by decide +kernel
theorem dW_law_693 : decode b_W_law 693 = .ok (.aload_n 0, 1) := by decide +kernel
theorem dW_law_694 : decode b_W_law 694 = .ok (.iload 4, 2) := by decide +kernel
theorem dW_law_696 : decode b_W_law 696 = .ok (.iconst 1, 1) := by decide +kernel
theorem dW_law_697 : decode b_W_law 697 = .ok (.iadd, 1) := by decide +kernel
theorem dW_law_698 : decode b_W_law 698 = .ok (.iaload, 1) := by decide +kernel
theorem dW_law_699 : decode b_W_law 699 = .ok (.aload_n 0, 1) := by decide +kernel
theorem dW_law_700 : decode b_W_law 700 = .ok (.iload 4, 2) := by decide +kernel
theorem dW_law_702 : decode b_W_law 702 = .ok (.iconst 2, 1) := by decide +kernel
theorem dW_law_703 : decode b_W_law 703 = .ok (.iadd, 1) := by decide +kernel
theorem dW_law_704 : decode b_W_law 704 = .ok (.iaload, 1) := by decide +kernel
theorem dW_law_705 : decode b_W_law 705 = .ok (.invokevirtual 89, 3) := by decide +kernel
theorem dW_law_708 : decode b_W_law 708 = .ok (.aload_n 2, 1) := by decide +kernel
theorem dW_law_709 : decode b_W_law 709 = .ok (.aload_n 0, 1) := by decide +kernel
theorem dW_law_710 : decode b_W_law 710 = .ok (.iload 4, 2) := by decide +kernel
theorem dW_law_712 : decode b_W_law 712 = .ok (.iconst 1, 1) := by decide +kernel
theorem dW_law_713 : decode b_W_law 713 = .ok (.iadd, 1) := by decide +kernel
theorem dW_law_714 : decode b_W_law 714 = .ok (.iaload, 1) := by decide +kernel
theorem dW_law_715 : decode b_W_law 715 = .ok (.aload_n 0, 1) := by decide +kernel
theorem dW_law_716 : decode b_W_law 716 = .ok (.iload 4, 2) := by decide +kernel
theorem dW_law_718 : decode b_W_law 718 = .ok (.iconst 2, 1) := by decide +kernel
theorem dW_law_719 : decode b_W_law 719 = .ok (.iadd, 1) := by decide +kernel
theorem dW_law_720 : decode b_W_law 720 = .ok (.iaload, 1) := by decide +kernel
theorem dW_law_721 : decode b_W_law 721 = .ok (.invokevirtual 92, 3) := by decide +kernel
theorem dW_law_724 : decode b_W_law 724 = .ok (.if_icmp .eq 73, 3) := by decide +kernel
theorem dW_law_727 : decode b_W_law 727 = .ok (.iconst 0, 1) := by decide +kernel
theorem dW_law_728 : decode b_W_law 728 = .ok (.ireturn, 1) := by decide +kernel
theorem dW_law_729 : decode b_W_law 729 = .ok (.aload_n 1, 1) := by decide +kernel
theorem dW_law_730 : decode b_W_law 730 = .ok (.aload_n 0, 1) := by decide +kernel
theorem dW_law_731 : decode b_W_law 731 = .ok (.iload 4, 2) := by decide +kernel
theorem dW_law_733 : decode b_W_law 733 = .ok (.iconst 1, 1) := by decide +kernel
theorem dW_law_734 : decode b_W_law 734 = .ok (.iadd, 1) := by decide +kernel
theorem dW_law_735 : decode b_W_law 735 = .ok (.iaload, 1) := by decide +kernel
theorem dW_law_736 : decode b_W_law 736 = .ok (.aload_n 0, 1) := by decide +kernel
theorem dW_law_737 : decode b_W_law 737 = .ok (.iload 4, 2) := by decide +kernel
theorem dW_law_739 : decode b_W_law 739 = .ok (.iconst 2, 1) := by decide +kernel
theorem dW_law_740 : decode b_W_law 740 = .ok (.iadd, 1) := by decide +kernel
theorem dW_law_741 : decode b_W_law 741 = .ok (.iaload, 1) := by decide +kernel
theorem dW_law_742 : decode b_W_law 742 = .ok (.aload_n 3, 1) := by decide +kernel
theorem dW_law_743 : decode b_W_law 743 = .ok (.invokestatic 93, 3) := by decide +kernel
theorem dW_law_746 : decode b_W_law 746 = .ok (.istore 5, 2) := by decide +kernel
theorem dW_law_748 : decode b_W_law 748 = .ok (.aload_n 2, 1) := by decide +kernel
theorem dW_law_749 : decode b_W_law 749 = .ok (.aload_n 0, 1) := by decide +kernel
theorem dW_law_750 : decode b_W_law 750 = .ok (.iload 4, 2) := by decide +kernel
theorem dW_law_752 : decode b_W_law 752 = .ok (.iconst 1, 1) := by decide +kernel
theorem dW_law_753 : decode b_W_law 753 = .ok (.iadd, 1) := by decide +kernel
theorem dW_law_754 : decode b_W_law 754 = .ok (.iaload, 1) := by decide +kernel
theorem dW_law_755 : decode b_W_law 755 = .ok (.aload_n 0, 1) := by decide +kernel
theorem dW_law_756 : decode b_W_law 756 = .ok (.iload 4, 2) := by decide +kernel
theorem dW_law_758 : decode b_W_law 758 = .ok (.iconst 2, 1) := by decide +kernel
theorem dW_law_759 : decode b_W_law 759 = .ok (.iadd, 1) := by decide +kernel
theorem dW_law_760 : decode b_W_law 760 = .ok (.iaload, 1) := by decide +kernel
theorem dW_law_761 : decode b_W_law 761 = .ok (.invokevirtual 95, 3) := by decide +kernel
theorem dW_law_764 : decode b_W_law 764 = .ok (.istore 6, 2) := by decide +kernel
theorem dW_law_766 : decode b_W_law 766 = .ok (.aload_n 2, 1) := by decide +kernel
theorem dW_law_767 : decode b_W_law 767 = .ok (.invokevirtual 81, 3) := by decide +kernel
theorem dW_law_770 : decode b_W_law 770 = .ok (.iload 5, 2) := by decide +kernel
theorem dW_law_772 : decode b_W_law 772 = .ok (.if_icmp .eq 5, 3) := by decide +kernel
theorem dW_law_775 : decode b_W_law 775 = .ok (.iconst 0, 1) := by decide +kernel
theorem dW_law_776 : decode b_W_law 776 = .ok (.ireturn, 1) := by decide +kernel
theorem dW_law_777 : decode b_W_law 777 = .ok (.iload 5, 2) := by decide +kernel
theorem dW_law_779 : decode b_W_law 779 = .ok (.ifCond .ne 15, 3) := by decide +kernel
theorem dW_law_782 : decode b_W_law 782 = .ok (.aload_n 3, 1) := by decide +kernel
theorem dW_law_783 : decode b_W_law 783 = .ok (.iconst 0, 1) := by decide +kernel
theorem dW_law_784 : decode b_W_law 784 = .ok (.laload, 1) := by decide +kernel
theorem dW_law_785 : decode b_W_law 785 = .ok (.iload 6, 2) := by decide +kernel
theorem dW_law_787 : decode b_W_law 787 = .ok (.i2l, 1) := by decide +kernel
theorem dW_law_788 : decode b_W_law 788 = .ok (.lcmp, 1) := by decide +kernel
theorem dW_law_789 : decode b_W_law 789 = .ok (.ifCond .eq 5, 3) := by decide +kernel
theorem dW_law_792 : decode b_W_law 792 = .ok (.iconst 0, 1) := by decide +kernel
theorem dW_law_793 : decode b_W_law 793 = .ok (.ireturn, 1) := by decide +kernel
theorem dW_law_794 : decode b_W_law 794 = .ok (.goto 3, 3) := by decide +kernel
theorem dW_law_797 : decode b_W_law 797 = .ok (.iinc 4 7, 3) := by decide +kernel
theorem dW_law_800 : decode b_W_law 800 = .ok (.goto (-767), 3) := by decide +kernel
theorem dW_law_803 : decode b_W_law 803 = .ok (.iconst 1, 1) := by decide +kernel
theorem dW_law_804 : decode b_W_law 804 = .ok (.ireturn, 1) := by decide +kernel
