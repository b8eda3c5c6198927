/-! THE REFERENCE: its constructor, the arrays -/
theorem w_aI : Cond.arrayClass .int ∈ lwT := inT 113 (by decide +kernel) rfl
theorem dX8_init_0 : decode cX8_init 0 = .ok (.aload_n 0, 1) := by decide +kernel
theorem dX8_init_1 : decode cX8_init 1 = .ok (.invokespecial 1, 3) := by decide +kernel
theorem dX8_init_4 : decode cX8_init 4 = .ok (.aload_n 0, 1) := by decide +kernel
theorem dX8_init_5 : decode cX8_init 5 = .ok (.sipush 200, 3) := by decide +kernel
theorem dX8_init_8 : decode cX8_init 8 = .ok (.newarray .int, 2) := by decide +kernel
theorem dX8_init_10 : decode cX8_init 10 = .ok (.putfield 7, 3) := by decide +kernel
theorem dX8_init_13 : decode cX8_init 13 = .ok (.aload_n 0, 1) := by decide +kernel
theorem dX8_init_14 : decode cX8_init 14 = .ok (.sipush 136, 3) := by decide +kernel
theorem dX8_init_17 : decode cX8_init 17 = .ok (.newarray .int, 2) := by decide +kernel
theorem dX8_init_19 : decode cX8_init 19 = .ok (.putfield 13, 3) := by decide +kernel
theorem dX8_init_22 : decode cX8_init 22 = .ok (.aload_n 0, 1) := by decide +kernel
theorem dX8_init_23 : decode cX8_init 23 = .ok (.sipush 680, 3) := by decide +kernel
theorem dX8_init_26 : decode cX8_init 26 = .ok (.newarray .int, 2) := by decide +kernel
theorem dX8_init_28 : decode cX8_init 28 = .ok (.putfield 16, 3) := by decide +kernel
theorem dX8_init_31 : decode cX8_init 31 = .ok (.aload_n 0, 1) := by decide +kernel
theorem dX8_init_32 : decode cX8_init 32 = .ok (.iconst 5, 1) := by decide +kernel
theorem dX8_init_33 : decode cX8_init 33 = .ok (.newarray .int, 2) := by decide +kernel
theorem dX8_init_35 : decode cX8_init 35 = .ok (.putfield 19, 3) := by decide +kernel
theorem dX8_init_38 : decode cX8_init 38 = .ok (.aload_n 0, 1) := by decide +kernel
theorem dX8_init_39 : decode cX8_init 39 = .ok (.sipush 136, 3) := by decide +kernel
theorem dX8_init_42 : decode cX8_init 42 = .ok (.newarray .int, 2) := by decide +kernel
theorem dX8_init_44 : decode cX8_init 44 = .ok (.putfield 22, 3) := by decide +kernel
theorem dX8_init_47 : decode cX8_init 47 = .ok (.aload_n 0, 1) := by decide +kernel
theorem dX8_init_48 : decode cX8_init 48 = .ok (.sipush 136, 3) := by decide +kernel
theorem dX8_init_51 : decode cX8_init 51 = .ok (.newarray .int, 2) := by decide +kernel
theorem dX8_init_53 : decode cX8_init 53 = .ok (.putfield 25, 3) := by decide +kernel
theorem dX8_init_56 : decode cX8_init 56 = .ok (.aload_n 0, 1) := by decide +kernel
theorem dX8_init_57 : decode cX8_init 57 = .ok (.sipush 8800, 3) := by decide +kernel
theorem dX8_init_60 : decode cX8_init 60 = .ok (.newarray .int, 2) := by decide +kernel
theorem dX8_init_62 : decode cX8_init 62 = .ok (.putfield 28, 3) := by decide +kernel
theorem dX8_init_65 : decode cX8_init 65 = .ok (.aload_n 0, 1) := by decide +kernel
theorem dX8_init_66 : decode cX8_init 66 = .ok (.bipush 22, 2) := by decide +kernel
theorem dX8_init_68 : decode cX8_init 68 = .ok (.newarray .int, 2) := by decide +kernel
theorem dX8_init_70 : decode cX8_init 70 = .ok (.putfield 31, 3) := by decide +kernel
theorem dX8_init_73 : decode cX8_init 73 = .ok (.aload_n 0, 1) := by decide +kernel
theorem dX8_init_74 : decode cX8_init 74 = .ok (.iconst 4, 1) := by decide +kernel
theorem dX8_init_75 : decode cX8_init 75 = .ok (.newarray .int, 2) := by decide +kernel
theorem dX8_init_77 : decode cX8_init 77 = .ok (.putfield 34, 3) := by decide +kernel
theorem dX8_init_80 : decode cX8_init 80 = .ok (.aload_n 0, 1) := by decide +kernel
theorem dX8_init_81 : decode cX8_init 81 = .ok (.iconst 4, 1) := by decide +kernel
theorem dX8_init_82 : decode cX8_init 82 = .ok (.newarray .int, 2) := by decide +kernel
theorem dX8_init_84 : decode cX8_init 84 = .ok (.putfield 37, 3) := by decide +kernel
theorem dX8_init_87 : decode cX8_init 87 = .ok (.aload_n 0, 1) := by decide +kernel
theorem dX8_init_88 : decode cX8_init 88 = .ok (.bipush 6, 2) := by decide +kernel
theorem dX8_init_90 : decode cX8_init 90 = .ok (.newarray .int, 2) := by decide +kernel
theorem dX8_init_92 : decode cX8_init 92 = .ok (.putfield 40, 3) := by decide +kernel
theorem dX8_init_95 : decode cX8_init 95 = .ok (.aload_n 0, 1) := by decide +kernel
theorem dX8_init_96 : decode cX8_init 96 = .ok (.bipush 64, 2) := by decide +kernel
theorem dX8_init_98 : decode cX8_init 98 = .ok (.newarray .int, 2) := by decide +kernel
theorem dX8_init_100 : decode cX8_init 100 = .ok (.putfield 43, 3) := by decide +kernel
theorem dX8_init_103 : decode cX8_init 103 = .ok (.aload_n 0, 1) := by decide +kernel
theorem dX8_init_104 : decode cX8_init 104 = .ok (.bipush 64, 2) := by decide +kernel
theorem dX8_init_106 : decode cX8_init 106 = .ok (.newarray .int, 2) := by decide +kernel
theorem dX8_init_108 : decode cX8_init 108 = .ok (.putfield 46, 3) := by decide +kernel
theorem dX8_init_111 : decode cX8_init 111 = .ok (.aload_n 0, 1) := by decide +kernel
theorem dX8_init_112 : decode cX8_init 112 = .ok (.bipush 16, 2) := by decide +kernel
theorem dX8_init_114 : decode cX8_init 114 = .ok (.newarray .int, 2) := by decide +kernel
theorem dX8_init_116 : decode cX8_init 116 = .ok (.putfield 49, 3) := by decide +kernel
theorem dX8_init_119 : decode cX8_init 119 = .ok (.aload_n 0, 1) := by decide +kernel
theorem dX8_init_120 : decode cX8_init 120 = .ok (.bipush 16, 2) := by decide +kernel
theorem dX8_init_122 : decode cX8_init 122 = .ok (.newarray .int, 2) := by decide +kernel
theorem dX8_init_124 : decode cX8_init 124 = .ok (.putfield 52, 3) := by decide +kernel
theorem dX8_init_127 : decode cX8_init 127 = .ok (.aload_n 0, 1) := by decide +kernel
theorem dX8_init_128 : decode cX8_init 128 = .ok (.bipush 16, 2) := by decide +kernel
theorem dX8_init_130 : decode cX8_init 130 = .ok (.newarray .int, 2) := by decide +kernel
theorem dX8_init_132 : decode cX8_init 132 = .ok (.putfield 55, 3) := by decide +kernel
theorem dX8_init_135 : decode cX8_init 135 = .ok (.aload_n 0, 1) := by decide +kernel
theorem dX8_init_136 : decode cX8_init 136 = .ok (.bipush 18, 2) := by decide +kernel
theorem dX8_init_138 : decode cX8_init 138 = .ok (.newarray .int, 2) := by decide +kernel
theorem dX8_init_140 : decode cX8_init 140 = .ok (.putfield 58, 3) := by decide +kernel
theorem dX8_init_143 : decode cX8_init 143 = .ok (.aload_n 0, 1) := by decide +kernel
theorem dX8_init_144 : decode cX8_init 144 = .ok (.iconst 5, 1) := by decide +kernel
theorem dX8_init_145 : decode cX8_init 145 = .ok (.newarray .int, 2) := by decide +kernel
theorem dX8_init_147 : decode cX8_init 147 = .ok (.dup, 1) := by decide +kernel
theorem dX8_init_148 : decode cX8_init 148 = .ok (.iconst 0, 1) := by decide +kernel
theorem dX8_init_149 : decode cX8_init 149 = .ok (.iconst 1, 1) := by decide +kernel
theorem dX8_init_150 : decode cX8_init 150 = .ok (.iastore, 1) := by decide +kernel
theorem dX8_init_151 : decode cX8_init 151 = .ok (.dup, 1) := by decide +kernel
theorem dX8_init_152 : decode cX8_init 152 = .ok (.iconst 1, 1) := by decide +kernel
theorem dX8_init_153 : decode cX8_init 153 = .ok (.iconst 1, 1) := by decide +kernel
theorem dX8_init_154 : decode cX8_init 154 = .ok (.iastore, 1) := by decide +kernel
theorem dX8_init_155 : decode cX8_init 155 = .ok (.dup, 1) := by decide +kernel
theorem dX8_init_156 : decode cX8_init 156 = .ok (.iconst 2, 1) := by decide +kernel
theorem dX8_init_157 : decode cX8_init 157 = .ok (.iconst 2, 1) := by decide +kernel
theorem dX8_init_158 : decode cX8_init 158 = .ok (.iastore, 1) := by decide +kernel
theorem dX8_init_159 : decode cX8_init 159 = .ok (.dup, 1) := by decide +kernel
theorem dX8_init_160 : decode cX8_init 160 = .ok (.iconst 3, 1) := by decide +kernel
theorem dX8_init_161 : decode cX8_init 161 = .ok (.iconst 2, 1) := by decide +kernel
theorem dX8_init_162 : decode cX8_init 162 = .ok (.iastore, 1) := by decide +kernel
theorem dX8_init_163 : decode cX8_init 163 = .ok (.dup, 1) := by decide +kernel
theorem dX8_init_164 : decode cX8_init 164 = .ok (.iconst 4, 1) := by decide +kernel
theorem dX8_init_165 : decode cX8_init 165 = .ok (.iconst 3, 1) := by decide +kernel
theorem dX8_init_166 : decode cX8_init 166 = .ok (.iastore, 1) := by decide +kernel
theorem dX8_init_167 : decode cX8_init 167 = .ok (.putfield 61, 3) := by decide +kernel
theorem dX8_init_170 : decode cX8_init 170 = .ok (.aload_n 0, 1) := by decide +kernel
theorem dX8_init_171 : decode cX8_init 171 = .ok (.bipush 9, 2) := by decide +kernel
theorem dX8_init_173 : decode cX8_init 173 = .ok (.newarray .int, 2) := by decide +kernel
theorem dX8_init_175 : decode cX8_init 175 = .ok (.dup, 1) := by decide +kernel
theorem dX8_init_176 : decode cX8_init 176 = .ok (.iconst 0, 1) := by decide +kernel
theorem dX8_init_177 : decode cX8_init 177 = .ok (.iconst 4, 1) := by decide +kernel
theorem dX8_init_178 : decode cX8_init 178 = .ok (.iastore, 1) := by decide +kernel
theorem dX8_init_179 : decode cX8_init 179 = .ok (.dup, 1) := by decide +kernel
theorem dX8_init_180 : decode cX8_init 180 = .ok (.iconst 1, 1) := by decide +kernel
theorem dX8_init_181 : decode cX8_init 181 = .ok (.iconst 4, 1) := by decide +kernel
theorem dX8_init_182 : decode cX8_init 182 = .ok (.iastore, 1) := by decide +kernel
theorem dX8_init_183 : decode cX8_init 183 = .ok (.dup, 1) := by decide +kernel
theorem dX8_init_184 : decode cX8_init 184 = .ok (.iconst 2, 1) := by decide +kernel
theorem dX8_init_185 : decode cX8_init 185 = .ok (.iconst 5, 1) := by decide +kernel
theorem dX8_init_186 : decode cX8_init 186 = .ok (.iastore, 1) := by decide +kernel
theorem dX8_init_187 : decode cX8_init 187 = .ok (.dup, 1) := by decide +kernel
theorem dX8_init_188 : decode cX8_init 188 = .ok (.iconst 3, 1) := by decide +kernel
theorem dX8_init_189 : decode cX8_init 189 = .ok (.iconst 5, 1) := by decide +kernel
theorem dX8_init_190 : decode cX8_init 190 = .ok (.iastore, 1) := by decide +kernel
theorem dX8_init_191 : decode cX8_init 191 = .ok (.dup, 1) := by decide +kernel
theorem dX8_init_192 : decode cX8_init 192 = .ok (.iconst 4, 1) := by decide +kernel
theorem dX8_init_193 : decode cX8_init 193 = .ok (.bipush 6, 2) := by decide +kernel
theorem dX8_init_195 : decode cX8_init 195 = .ok (.iastore, 1) := by decide +kernel
theorem dX8_init_196 : decode cX8_init 196 = .ok (.dup, 1) := by decide +kernel
theorem dX8_init_197 : decode cX8_init 197 = .ok (.iconst 5, 1) := by decide +kernel
theorem dX8_init_198 : decode cX8_init 198 = .ok (.bipush 6, 2) := by decide +kernel
theorem dX8_init_200 : decode cX8_init 200 = .ok (.iastore, 1) := by decide +kernel
theorem dX8_init_201 : decode cX8_init 201 = .ok (.dup, 1) := by decide +kernel
theorem dX8_init_202 : decode cX8_init 202 = .ok (.bipush 6, 2) := by decide +kernel
theorem dX8_init_204 : decode cX8_init 204 = .ok (.bipush 7, 2) := by decide +kernel
theorem dX8_init_206 : decode cX8_init 206 = .ok (.iastore, 1) := by decide +kernel
theorem dX8_init_207 : decode cX8_init 207 = .ok (.dup, 1) := by decide +kernel
theorem dX8_init_208 : decode cX8_init 208 = .ok (.bipush 7, 2) := by decide +kernel
theorem dX8_init_210 : decode cX8_init 210 = .ok (.bipush 8, 2) := by decide +kernel
theorem dX8_init_212 : decode cX8_init 212 = .ok (.iastore, 1) := by decide +kernel
theorem dX8_init_213 : decode cX8_init 213 = .ok (.dup, 1) := by decide +kernel
theorem dX8_init_214 : decode cX8_init 214 = .ok (.bipush 8, 2) := by decide +kernel
theorem dX8_init_216 : decode cX8_init 216 = .ok (.bipush 8, 2) := by decide +kernel
theorem dX8_init_218 : decode cX8_init 218 = .ok (.iastore, 1) := by decide +kernel
theorem dX8_init_219 : decode cX8_init 219 = .ok (.putfield 64, 3) := by decide +kernel
theorem dX8_init_222 : decode cX8_init 222 = .ok (.aload_n 0, 1) := by decide +kernel
theorem dX8_init_223 : decode cX8_init 223 = .ok (.bipush 9, 2) := by decide +kernel
theorem dX8_init_225 : decode cX8_init 225 = .ok (.newarray .int, 2) := by decide +kernel
theorem dX8_init_227 : decode cX8_init 227 = .ok (.dup, 1) := by decide +kernel
theorem dX8_init_228 : decode cX8_init 228 = .ok (.iconst 0, 1) := by decide +kernel
theorem dX8_init_229 : decode cX8_init 229 = .ok (.iconst 4, 1) := by decide +kernel
theorem dX8_init_230 : decode cX8_init 230 = .ok (.iastore, 1) := by decide +kernel
theorem dX8_init_231 : decode cX8_init 231 = .ok (.dup, 1) := by decide +kernel
theorem dX8_init_232 : decode cX8_init 232 = .ok (.iconst 1, 1) := by decide +kernel
theorem dX8_init_233 : decode cX8_init 233 = .ok (.iconst 2, 1) := by decide +kernel
theorem dX8_init_234 : decode cX8_init 234 = .ok (.iastore, 1) := by decide +kernel
theorem dX8_init_235 : decode cX8_init 235 = .ok (.dup, 1) := by decide +kernel
theorem dX8_init_236 : decode cX8_init 236 = .ok (.iconst 2, 1) := by decide +kernel
theorem dX8_init_237 : decode cX8_init 237 = .ok (.iconst 3, 1) := by decide +kernel
theorem dX8_init_238 : decode cX8_init 238 = .ok (.iastore, 1) := by decide +kernel
theorem dX8_init_239 : decode cX8_init 239 = .ok (.dup, 1) := by decide +kernel
theorem dX8_init_240 : decode cX8_init 240 = .ok (.iconst 3, 1) := by decide +kernel
theorem dX8_init_241 : decode cX8_init 241 = .ok (.iconst 3, 1) := by decide +kernel
theorem dX8_init_242 : decode cX8_init 242 = .ok (.iastore, 1) := by decide +kernel
theorem dX8_init_243 : decode cX8_init 243 = .ok (.dup, 1) := by decide +kernel
theorem dX8_init_244 : decode cX8_init 244 = .ok (.iconst 4, 1) := by decide +kernel
theorem dX8_init_245 : decode cX8_init 245 = .ok (.iconst 5, 1) := by decide +kernel
theorem dX8_init_246 : decode cX8_init 246 = .ok (.iastore, 1) := by decide +kernel
theorem dX8_init_247 : decode cX8_init 247 = .ok (.dup, 1) := by decide +kernel
theorem dX8_init_248 : decode cX8_init 248 = .ok (.iconst 5, 1) := by decide +kernel
theorem dX8_init_249 : decode cX8_init 249 = .ok (.iconst 1, 1) := by decide +kernel
theorem dX8_init_250 : decode cX8_init 250 = .ok (.iastore, 1) := by decide +kernel
theorem dX8_init_251 : decode cX8_init 251 = .ok (.dup, 1) := by decide +kernel
theorem dX8_init_252 : decode cX8_init 252 = .ok (.bipush 6, 2) := by decide +kernel
theorem dX8_init_254 : decode cX8_init 254 = .ok (.bipush 6, 2) := by decide +kernel
theorem dX8_init_256 : decode cX8_init 256 = .ok (.iastore, 1) := by decide +kernel
theorem dX8_init_257 : decode cX8_init 257 = .ok (.dup, 1) := by decide +kernel
theorem dX8_init_258 : decode cX8_init 258 = .ok (.bipush 7, 2) := by decide +kernel
theorem dX8_init_260 : decode cX8_init 260 = .ok (.iconst 2, 1) := by decide +kernel
theorem dX8_init_261 : decode cX8_init 261 = .ok (.iastore, 1) := by decide +kernel
theorem dX8_init_262 : decode cX8_init 262 = .ok (.dup, 1) := by decide +kernel
theorem dX8_init_263 : decode cX8_init 263 = .ok (.bipush 8, 2) := by decide +kernel
theorem dX8_init_265 : decode cX8_init 265 = .ok (.bipush 8, 2) := by decide +kernel
theorem dX8_init_267 : decode cX8_init 267 = .ok (.iastore, 1) := by decide +kernel
theorem dX8_init_268 : decode cX8_init 268 = .ok (.putfield 67, 3) := by decide +kernel
theorem dX8_init_271 : decode cX8_init 271 = .ok (.iconst 0, 1) := by decide +kernel
theorem dX8_init_272 : decode cX8_init 272 = .ok (.istore_n 1, 1) := by decide +kernel
theorem dX8_init_273 : decode cX8_init 273 = .ok (.iload_n 1, 1) := by decide +kernel
theorem dX8_init_274 : decode cX8_init 274 = .ok (.bipush 16, 2) := by decide +kernel
theorem dX8_init_276 : decode cX8_init 276 = .ok (.if_icmp .ge 63, 3) := by decide +kernel
theorem dX8_init_279 : decode cX8_init 279 = .ok (.iconst 0, 1) := by decide +kernel
theorem dX8_init_280 : decode cX8_init 280 = .ok (.istore_n 2, 1) := by decide +kernel
theorem dX8_init_281 : decode cX8_init 281 = .ok (.iload_n 2, 1) := by decide +kernel
theorem dX8_init_282 : decode cX8_init 282 = .ok (.bipush 22, 2) := by decide +kernel
theorem dX8_init_284 : decode cX8_init 284 = .ok (.if_icmp .ge 49, 3) := by decide +kernel
theorem dX8_init_287 : decode cX8_init 287 = .ok (.iconst 0, 1) := by decide +kernel
theorem dX8_init_288 : decode cX8_init 288 = .ok (.istore_n 3, 1) := by decide +kernel
theorem dX8_init_289 : decode cX8_init 289 = .ok (.iload_n 3, 1) := by decide +kernel
theorem dX8_init_290 : decode cX8_init 290 = .ok (.bipush 24, 2) := by decide +kernel
theorem dX8_init_292 : decode cX8_init 292 = .ok (.if_icmp .ge 35, 3) := by decide +kernel
theorem dX8_init_295 : decode cX8_init 295 = .ok (.aload_n 0, 1) := by decide +kernel
theorem dX8_init_296 : decode cX8_init 296 = .ok (.getfield 28, 3) := by decide +kernel
theorem dX8_init_299 : decode cX8_init 299 = .ok (.sipush 550, 3) := by decide +kernel
theorem dX8_init_302 : decode cX8_init 302 = .ok (.iload_n 1, 1) := by decide +kernel
theorem dX8_init_303 : decode cX8_init 303 = .ok (.imul, 1) := by decide +kernel
theorem dX8_init_304 : decode cX8_init 304 = .ok (.bipush 25, 2) := by decide +kernel
theorem dX8_init_306 : decode cX8_init 306 = .ok (.iload_n 2, 1) := by decide +kernel
theorem dX8_init_307 : decode cX8_init 307 = .ok (.imul, 1) := by decide +kernel
theorem dX8_init_308 : decode cX8_init 308 = .ok (.iadd, 1) := by decide +kernel
theorem dX8_init_309 : decode cX8_init 309 = .ok (.iload_n 3, 1) := by decide +kernel
theorem dX8_init_310 : decode cX8_init 310 = .ok (.iadd, 1) := by decide +kernel
theorem dX8_init_311 : decode cX8_init 311 = .ok (.iload_n 1, 1) := by decide +kernel
theorem dX8_init_312 : decode cX8_init 312 = .ok (.iload_n 2, 1) := by decide +kernel
theorem dX8_init_313 : decode cX8_init 313 = .ok (.iload_n 3, 1) := by decide +kernel
theorem dX8_init_314 : decode cX8_init 314 = .ok (.invokestatic 70, 3) := by decide +kernel
theorem dX8_init_317 : decode cX8_init 317 = .ok (.invokestatic 74, 3) := by decide +kernel
theorem dX8_init_320 : decode cX8_init 320 = .ok (.iastore, 1) := by decide +kernel
theorem dX8_init_321 : decode cX8_init 321 = .ok (.iinc 3 1, 3) := by decide +kernel
theorem dX8_init_324 : decode cX8_init 324 = .ok (.goto (-35), 3) := by decide +kernel
theorem dX8_init_327 : decode cX8_init 327 = .ok (.iinc 2 1, 3) := by decide +kernel
theorem dX8_init_330 : decode cX8_init 330 = .ok (.goto (-49), 3) := by decide +kernel
theorem dX8_init_333 : decode cX8_init 333 = .ok (.iinc 1 1, 3) := by decide +kernel
theorem dX8_init_336 : decode cX8_init 336 = .ok (.goto (-63), 3) := by decide +kernel
theorem dX8_init_339 : decode cX8_init 339 = .ok (.aload_n 0, 1) := by decide +kernel
theorem dX8_init_340 : decode cX8_init 340 = .ok (.aload_n 0, 1) := by decide +kernel
theorem dX8_init_341 : decode cX8_init 341 = .ok (.getfield 13, 3) := by decide +kernel
theorem dX8_init_344 : decode cX8_init 344 = .ok (.invokevirtual 78, 3) := by decide +kernel
theorem dX8_init_347 : decode cX8_init 347 = .ok (.aload_n 0, 1) := by decide +kernel
theorem dX8_init_348 : decode cX8_init 348 = .ok (.getfield 13, 3) := by decide +kernel
theorem dX8_init_351 : decode cX8_init 351 = .ok (.sipush 128, 3) := by decide +kernel
theorem dX8_init_354 : decode cX8_init 354 = .ok (.iconst 3, 1) := by decide +kernel
theorem dX8_init_355 : decode cX8_init 355 = .ok (.iastore, 1) := by decide +kernel
theorem dX8_init_356 : decode cX8_init 356 = .ok (.aload_n 0, 1) := by decide +kernel
theorem dX8_init_357 : decode cX8_init 357 = .ok (.getfield 13, 3) := by decide +kernel
theorem dX8_init_360 : decode cX8_init 360 = .ok (.sipush 129, 3) := by decide +kernel
theorem dX8_init_363 : decode cX8_init 363 = .ok (.iconst 5, 1) := by decide +kernel
theorem dX8_init_364 : decode cX8_init 364 = .ok (.iastore, 1) := by decide +kernel
theorem dX8_init_365 : decode cX8_init 365 = .ok (.aload_n 0, 1) := by decide +kernel
theorem dX8_init_366 : decode cX8_init 366 = .ok (.getfield 13, 3) := by decide +kernel
theorem dX8_init_369 : decode cX8_init 369 = .ok (.sipush 130, 3) := by decide +kernel
theorem dX8_init_372 : decode cX8_init 372 = .ok (.bipush 9, 2) := by decide +kernel
theorem dX8_init_374 : decode cX8_init 374 = .ok (.iastore, 1) := by decide +kernel
theorem dX8_init_375 : decode cX8_init 375 = .ok (.aload_n 0, 1) := by decide +kernel
theorem dX8_init_376 : decode cX8_init 376 = .ok (.getfield 13, 3) := by decide +kernel
theorem dX8_init_379 : decode cX8_init 379 = .ok (.sipush 131, 3) := by decide +kernel
theorem dX8_init_382 : decode cX8_init 382 = .ok (.iconst 3, 1) := by decide +kernel
theorem dX8_init_383 : decode cX8_init 383 = .ok (.iastore, 1) := by decide +kernel
theorem dX8_init_384 : decode cX8_init 384 = .ok (.iconst 0, 1) := by decide +kernel
theorem dX8_init_385 : decode cX8_init 385 = .ok (.istore_n 1, 1) := by decide +kernel
theorem dX8_init_386 : decode cX8_init 386 = .ok (.iload_n 1, 1) := by decide +kernel
theorem dX8_init_387 : decode cX8_init 387 = .ok (.iconst 5, 1) := by decide +kernel
theorem dX8_init_388 : decode cX8_init 388 = .ok (.if_icmp .ge 23, 3) := by decide +kernel
theorem dX8_init_391 : decode cX8_init 391 = .ok (.aload_n 0, 1) := by decide +kernel
theorem dX8_init_392 : decode cX8_init 392 = .ok (.getfield 13, 3) := by decide +kernel
theorem dX8_init_395 : decode cX8_init 395 = .ok (.iconst 4, 1) := by decide +kernel
theorem dX8_init_396 : decode cX8_init 396 = .ok (.iload_n 1, 1) := by decide +kernel
theorem dX8_init_397 : decode cX8_init 397 = .ok (.iadd, 1) := by decide +kernel
theorem dX8_init_398 : decode cX8_init 398 = .ok (.aload_n 0, 1) := by decide +kernel
theorem dX8_init_399 : decode cX8_init 399 = .ok (.getfield 61, 3) := by decide +kernel
theorem dX8_init_402 : decode cX8_init 402 = .ok (.iload_n 1, 1) := by decide +kernel
theorem dX8_init_403 : decode cX8_init 403 = .ok (.iaload, 1) := by decide +kernel
theorem dX8_init_404 : decode cX8_init 404 = .ok (.iastore, 1) := by decide +kernel
theorem dX8_init_405 : decode cX8_init 405 = .ok (.iinc 1 1, 3) := by decide +kernel
theorem dX8_init_408 : decode cX8_init 408 = .ok (.goto (-22), 3) := by decide +kernel
theorem dX8_init_411 : decode cX8_init 411 = .ok (.iconst 0, 1) := by decide +kernel
theorem dX8_init_412 : decode cX8_init 412 = .ok (.istore_n 1, 1) := by decide +kernel
theorem dX8_init_413 : decode cX8_init 413 = .ok (.iload_n 1, 1) := by decide +kernel
theorem dX8_init_414 : decode cX8_init 414 = .ok (.bipush 9, 2) := by decide +kernel
theorem dX8_init_416 : decode cX8_init 416 = .ok (.if_icmp .ge 61, 3) := by decide +kernel
theorem dX8_init_419 : decode cX8_init 419 = .ok (.aload_n 0, 1) := by decide +kernel
theorem dX8_init_420 : decode cX8_init 420 = .ok (.getfield 13, 3) := by decide +kernel
theorem dX8_init_423 : decode cX8_init 423 = .ok (.bipush 10, 2) := by decide +kernel
theorem dX8_init_425 : decode cX8_init 425 = .ok (.iload_n 1, 1) := by decide +kernel
theorem dX8_init_426 : decode cX8_init 426 = .ok (.iadd, 1) := by decide +kernel
theorem dX8_init_427 : decode cX8_init 427 = .ok (.aload_n 0, 1) := by decide +kernel
theorem dX8_init_428 : decode cX8_init 428 = .ok (.getfield 64, 3) := by decide +kernel
theorem dX8_init_431 : decode cX8_init 431 = .ok (.iload_n 1, 1) := by decide +kernel
theorem dX8_init_432 : decode cX8_init 432 = .ok (.iaload, 1) := by decide +kernel
theorem dX8_init_433 : decode cX8_init 433 = .ok (.iastore, 1) := by decide +kernel
theorem dX8_init_434 : decode cX8_init 434 = .ok (.aload_n 0, 1) := by decide +kernel
theorem dX8_init_435 : decode cX8_init 435 = .ok (.getfield 13, 3) := by decide +kernel
theorem dX8_init_438 : decode cX8_init 438 = .ok (.bipush 32, 2) := by decide +kernel
theorem dX8_init_440 : decode cX8_init 440 = .ok (.iload_n 1, 1) := by decide +kernel
theorem dX8_init_441 : decode cX8_init 441 = .ok (.iadd, 1) := by decide +kernel
theorem dX8_init_442 : decode cX8_init 442 = .ok (.aload_n 0, 1) := by decide +kernel
theorem dX8_init_443 : decode cX8_init 443 = .ok (.getfield 67, 3) := by decide +kernel
theorem dX8_init_446 : decode cX8_init 446 = .ok (.iload_n 1, 1) := by decide +kernel
theorem dX8_init_447 : decode cX8_init 447 = .ok (.iaload, 1) := by decide +kernel
theorem dX8_init_448 : decode cX8_init 448 = .ok (.iastore, 1) := by decide +kernel
theorem dX8_init_449 : decode cX8_init 449 = .ok (.aload_n 0, 1) := by decide +kernel
theorem dX8_init_450 : decode cX8_init 450 = .ok (.getfield 13, 3) := by decide +kernel
theorem dX8_init_453 : decode cX8_init 453 = .ok (.bipush 54, 2) := by decide +kernel
theorem dX8_init_455 : decode cX8_init 455 = .ok (.iload_n 1, 1) := by decide +kernel
theorem dX8_init_456 : decode cX8_init 456 = .ok (.iadd, 1) := by decide +kernel
theorem dX8_init_457 : decode cX8_init 457 = .ok (.bipush 90, 2) := by decide +kernel
theorem dX8_init_459 : decode cX8_init 459 = .ok (.iastore, 1) := by decide +kernel
theorem dX8_init_460 : decode cX8_init 460 = .ok (.aload_n 0, 1) := by decide +kernel
theorem dX8_init_461 : decode cX8_init 461 = .ok (.getfield 13, 3) := by decide +kernel
theorem dX8_init_464 : decode cX8_init 464 = .ok (.bipush 76, 2) := by decide +kernel
theorem dX8_init_466 : decode cX8_init 466 = .ok (.iload_n 1, 1) := by decide +kernel
theorem dX8_init_467 : decode cX8_init 467 = .ok (.iadd, 1) := by decide +kernel
theorem dX8_init_468 : decode cX8_init 468 = .ok (.bipush 16, 2) := by decide +kernel
theorem dX8_init_470 : decode cX8_init 470 = .ok (.iastore, 1) := by decide +kernel
theorem dX8_init_471 : decode cX8_init 471 = .ok (.iinc 1 1, 3) := by decide +kernel
theorem dX8_init_474 : decode cX8_init 474 = .ok (.goto (-61), 3) := by decide +kernel
theorem dX8_init_477 : decode cX8_init 477 = .ok (.aload_n 0, 1) := by decide +kernel
theorem dX8_init_478 : decode cX8_init 478 = .ok (.invokevirtual 82, 3) := by decide +kernel
theorem dX8_init_481 : decode cX8_init 481 = .ok (.return_, 1) := by decide +kernel
set_option maxHeartbeats 4000000 in
set_option maxRecDepth 20000 in
theorem X8_init_A4 {E : EnT} {lay : LyT} {r : RfT} {h : HpT} {b : Nat} (la : LyT) (ra : RfT) (ha : HpT) (ml0 : la b = (9, 0)) (hz : ∀ x, b ≤ x → x ≤ b + 0 → ha x = fun _ => 0) (fr : ∀ x, x < b → la x = lay x ∧ ra x = r x ∧ ha x = h x) (K : ∀ (la : LyT) (ra : RfT) (ha : HpT), (la b = (9, 0)) → (la (b + 1) = (10, 200)) → (la (b + 2) = (10, 136)) → (la (b + 3) = (10, 680)) → (la (b + 4) = (10, 5)) → (ra b 1 = some (b + 1)) → (ra b 2 = some (b + 2)) → (ra b 3 = some (b + 3)) → (ra b 4 = some (b + 4)) → (∀ x, b ≤ x → x ≤ b + 4 → ha x = fun _ => 0) → (∀ x, x < b → la x = lay x ∧ ra x = r x ∧ ha x = h x) → St E mX8_init 38 [some (.ref b), none, none, none] [] (4, 1021) (b + 5) la ra ha) : St E mX8_init 0 [some (.ref b), none, none, none] [] (0, 0) (b + 1) la ra ha := by
  skip
  refine r_aload_0 (pc := 0) dX8_init_0 ?_
  refine r_objInit (pc := 1) (inT 915 (by decide +kernel) rfl) dX8_init_1 (Nat.le_of_ble_eq_true rfl) (Nat.le_of_ble_eq_true rfl) ?_
  refine r_aload_0 (pc := 4) dX8_init_4 ?_
  refine r_sipush (pc := 5) dX8_init_5 (by decide) ?_
  refine r_newI (pc := 8) (n := 200) rfl w_aI dX8_init_8 (Nat.le_of_ble_eq_true rfl) (Nat.le_of_ble_eq_true rfl) (Nat.le_of_ble_eq_true rfl) ?_
  refine pf_X8_7 (pc := 10) rfl rfl (show (lyp la (b + 1) (10, 200)) b = (9, 0) from (lyp_n (by omega)).trans ml0) dX8_init_10 ?_
  show St E mX8_init 13 [some (.ref b), none, none, none] [] (1, 200) (b + 2) (lyp la (b + 1) (10, 200)) (rr ra b (rup (ra b) 1 (some (b + 1)))) (hr ha (b + 1) (fun _ => 0))
  have n_ml0 : (lyp la (b + 1) (10, 200)) b = (9, 0) := (lyp_n (by omega)).trans ml0
  have n_ml1 : (lyp la (b + 1) (10, 200)) (b + 1) = (10, 200) := lyp_s
  have n_mr1 : (rr ra b (rup (ra b) 1 (some (b + 1)))) b 1 = some (b + 1) := by rw [rr_s, rup_s]
  have n_hz : ∀ x, b ≤ x → x ≤ b + 1 → (hr ha (b + 1) (fun _ => 0)) x = fun _ => 0 := fun x x0 x1 => by
    by_cases e : x = b + 1
    · rw [e, hr_s]
    · rw [hr_n e]; exact hz x x0 (by omega)
  have n_fr : ∀ x, x < b → (lyp la (b + 1) (10, 200)) x = lay x ∧ (rr ra b (rup (ra b) 1 (some (b + 1)))) x = r x ∧ (hr ha (b + 1) (fun _ => 0)) x = h x := fun x x0 => by rw [lyp_n (by omega), rr_n (by omega), hr_n (by omega)]; exact fr x x0
  revert n_ml0 n_ml1 n_mr1 n_hz n_fr
  clear ml0 hz fr
  generalize (lyp la (b + 1) (10, 200)) = la
  generalize (rr ra b (rup (ra b) 1 (some (b + 1)))) = ra
  generalize (hr ha (b + 1) (fun _ => 0)) = ha
  intro ml0 ml1 mr1 hz fr
  refine r_aload_0 (pc := 13) dX8_init_13 ?_
  refine r_sipush (pc := 14) dX8_init_14 (by decide) ?_
  refine r_newI (pc := 17) (n := 136) rfl w_aI dX8_init_17 (Nat.le_of_ble_eq_true rfl) (Nat.le_of_ble_eq_true rfl) (Nat.le_of_ble_eq_true rfl) ?_
  refine pf_X8_13 (pc := 19) rfl rfl (show (lyp la (b + 2) (10, 136)) b = (9, 0) from (lyp_n (by omega)).trans ml0) dX8_init_19 ?_
  show St E mX8_init 22 [some (.ref b), none, none, none] [] (2, 336) (b + 3) (lyp la (b + 2) (10, 136)) (rr ra b (rup (ra b) 2 (some (b + 2)))) (hr ha (b + 2) (fun _ => 0))
  have n_ml0 : (lyp la (b + 2) (10, 136)) b = (9, 0) := (lyp_n (by omega)).trans ml0
  have n_ml1 : (lyp la (b + 2) (10, 136)) (b + 1) = (10, 200) := (lyp_n (by omega)).trans ml1
  have n_ml2 : (lyp la (b + 2) (10, 136)) (b + 2) = (10, 136) := lyp_s
  have n_mr1 : (rr ra b (rup (ra b) 2 (some (b + 2)))) b 1 = some (b + 1) := by rw [rr_s, rup_n (by decide)]; exact mr1
  have n_mr2 : (rr ra b (rup (ra b) 2 (some (b + 2)))) b 2 = some (b + 2) := by rw [rr_s, rup_s]
  have n_hz : ∀ x, b ≤ x → x ≤ b + 2 → (hr ha (b + 2) (fun _ => 0)) x = fun _ => 0 := fun x x0 x1 => by
    by_cases e : x = b + 2
    · rw [e, hr_s]
    · rw [hr_n e]; exact hz x x0 (by omega)
  have n_fr : ∀ x, x < b → (lyp la (b + 2) (10, 136)) x = lay x ∧ (rr ra b (rup (ra b) 2 (some (b + 2)))) x = r x ∧ (hr ha (b + 2) (fun _ => 0)) x = h x := fun x x0 => by rw [lyp_n (by omega), rr_n (by omega), hr_n (by omega)]; exact fr x x0
  revert n_ml0 n_ml1 n_ml2 n_mr1 n_mr2 n_hz n_fr
  clear ml0 ml1 mr1 hz fr
  generalize (lyp la (b + 2) (10, 136)) = la
  generalize (rr ra b (rup (ra b) 2 (some (b + 2)))) = ra
  generalize (hr ha (b + 2) (fun _ => 0)) = ha
  intro ml0 ml1 ml2 mr1 mr2 hz fr
  refine r_aload_0 (pc := 22) dX8_init_22 ?_
  refine r_sipush (pc := 23) dX8_init_23 (by decide) ?_
  refine r_newI (pc := 26) (n := 680) rfl w_aI dX8_init_26 (Nat.le_of_ble_eq_true rfl) (Nat.le_of_ble_eq_true rfl) (Nat.le_of_ble_eq_true rfl) ?_
  refine pf_X8_16 (pc := 28) rfl rfl (show (lyp la (b + 3) (10, 680)) b = (9, 0) from (lyp_n (by omega)).trans ml0) dX8_init_28 ?_
  show St E mX8_init 31 [some (.ref b), none, none, none] [] (3, 1016) (b + 4) (lyp la (b + 3) (10, 680)) (rr ra b (rup (ra b) 3 (some (b + 3)))) (hr ha (b + 3) (fun _ => 0))
  have n_ml0 : (lyp la (b + 3) (10, 680)) b = (9, 0) := (lyp_n (by omega)).trans ml0
  have n_ml1 : (lyp la (b + 3) (10, 680)) (b + 1) = (10, 200) := (lyp_n (by omega)).trans ml1
  have n_ml2 : (lyp la (b + 3) (10, 680)) (b + 2) = (10, 136) := (lyp_n (by omega)).trans ml2
  have n_ml3 : (lyp la (b + 3) (10, 680)) (b + 3) = (10, 680) := lyp_s
  have n_mr1 : (rr ra b (rup (ra b) 3 (some (b + 3)))) b 1 = some (b + 1) := by rw [rr_s, rup_n (by decide)]; exact mr1
  have n_mr2 : (rr ra b (rup (ra b) 3 (some (b + 3)))) b 2 = some (b + 2) := by rw [rr_s, rup_n (by decide)]; exact mr2
  have n_mr3 : (rr ra b (rup (ra b) 3 (some (b + 3)))) b 3 = some (b + 3) := by rw [rr_s, rup_s]
  have n_hz : ∀ x, b ≤ x → x ≤ b + 3 → (hr ha (b + 3) (fun _ => 0)) x = fun _ => 0 := fun x x0 x1 => by
    by_cases e : x = b + 3
    · rw [e, hr_s]
    · rw [hr_n e]; exact hz x x0 (by omega)
  have n_fr : ∀ x, x < b → (lyp la (b + 3) (10, 680)) x = lay x ∧ (rr ra b (rup (ra b) 3 (some (b + 3)))) x = r x ∧ (hr ha (b + 3) (fun _ => 0)) x = h x := fun x x0 => by rw [lyp_n (by omega), rr_n (by omega), hr_n (by omega)]; exact fr x x0
  revert n_ml0 n_ml1 n_ml2 n_ml3 n_mr1 n_mr2 n_mr3 n_hz n_fr
  clear ml0 ml1 ml2 mr1 mr2 hz fr
  generalize (lyp la (b + 3) (10, 680)) = la
  generalize (rr ra b (rup (ra b) 3 (some (b + 3)))) = ra
  generalize (hr ha (b + 3) (fun _ => 0)) = ha
  intro ml0 ml1 ml2 ml3 mr1 mr2 mr3 hz fr
  refine r_aload_0 (pc := 31) dX8_init_31 ?_
  refine r_iconst (pc := 32) dX8_init_32 ?_
  refine r_newI (pc := 33) (n := 5) rfl w_aI dX8_init_33 (Nat.le_of_ble_eq_true rfl) (Nat.le_of_ble_eq_true rfl) (Nat.le_of_ble_eq_true rfl) ?_
  refine pf_X8_19 (pc := 35) rfl rfl (show (lyp la (b + 4) (10, 5)) b = (9, 0) from (lyp_n (by omega)).trans ml0) dX8_init_35 ?_
  show St E mX8_init 38 [some (.ref b), none, none, none] [] (4, 1021) (b + 5) (lyp la (b + 4) (10, 5)) (rr ra b (rup (ra b) 4 (some (b + 4)))) (hr ha (b + 4) (fun _ => 0))
  have n_ml0 : (lyp la (b + 4) (10, 5)) b = (9, 0) := (lyp_n (by omega)).trans ml0
  have n_ml1 : (lyp la (b + 4) (10, 5)) (b + 1) = (10, 200) := (lyp_n (by omega)).trans ml1
  have n_ml2 : (lyp la (b + 4) (10, 5)) (b + 2) = (10, 136) := (lyp_n (by omega)).trans ml2
  have n_ml3 : (lyp la (b + 4) (10, 5)) (b + 3) = (10, 680) := (lyp_n (by omega)).trans ml3
  have n_ml4 : (lyp la (b + 4) (10, 5)) (b + 4) = (10, 5) := lyp_s
  have n_mr1 : (rr ra b (rup (ra b) 4 (some (b + 4)))) b 1 = some (b + 1) := by rw [rr_s, rup_n (by decide)]; exact mr1
  have n_mr2 : (rr ra b (rup (ra b) 4 (some (b + 4)))) b 2 = some (b + 2) := by rw [rr_s, rup_n (by decide)]; exact mr2
  have n_mr3 : (rr ra b (rup (ra b) 4 (some (b + 4)))) b 3 = some (b + 3) := by rw [rr_s, rup_n (by decide)]; exact mr3
  have n_mr4 : (rr ra b (rup (ra b) 4 (some (b + 4)))) b 4 = some (b + 4) := by rw [rr_s, rup_s]
  have n_hz : ∀ x, b ≤ x → x ≤ b + 4 → (hr ha (b + 4) (fun _ => 0)) x = fun _ => 0 := fun x x0 x1 => by
    by_cases e : x = b + 4
    · rw [e, hr_s]
    · rw [hr_n e]; exact hz x x0 (by omega)
  have n_fr : ∀ x, x < b → (lyp la (b + 4) (10, 5)) x = lay x ∧ (rr ra b (rup (ra b) 4 (some (b + 4)))) x = r x ∧ (hr ha (b + 4) (fun _ => 0)) x = h x := fun x x0 => by rw [lyp_n (by omega), rr_n (by omega), hr_n (by omega)]; exact fr x x0
  revert n_ml0 n_ml1 n_ml2 n_ml3 n_ml4 n_mr1 n_mr2 n_mr3 n_mr4 n_hz n_fr
  clear ml0 ml1 ml2 ml3 mr1 mr2 mr3 hz fr
  generalize (lyp la (b + 4) (10, 5)) = la
  generalize (rr ra b (rup (ra b) 4 (some (b + 4)))) = ra
  generalize (hr ha (b + 4) (fun _ => 0)) = ha
  intro ml0 ml1 ml2 ml3 ml4 mr1 mr2 mr3 mr4 hz fr
  exact K la ra ha ml0 ml1 ml2 ml3 ml4 mr1 mr2 mr3 mr4 hz fr
set_option maxHeartbeats 4000000 in
set_option maxRecDepth 20000 in
theorem X8_init_A8 {E : EnT} {lay : LyT} {r : RfT} {h : HpT} {b : Nat} (la : LyT) (ra : RfT) (ha : HpT) (ml0 : la b = (9, 0)) (ml1 : la (b + 1) = (10, 200)) (ml2 : la (b + 2) = (10, 136)) (ml3 : la (b + 3) = (10, 680)) (ml4 : la (b + 4) = (10, 5)) (mr1 : ra b 1 = some (b + 1)) (mr2 : ra b 2 = some (b + 2)) (mr3 : ra b 3 = some (b + 3)) (mr4 : ra b 4 = some (b + 4)) (hz : ∀ x, b ≤ x → x ≤ b + 4 → ha x = fun _ => 0) (fr : ∀ x, x < b → la x = lay x ∧ ra x = r x ∧ ha x = h x) (K : ∀ (la : LyT) (ra : RfT) (ha : HpT), (la b = (9, 0)) → (la (b + 1) = (10, 200)) → (la (b + 2) = (10, 136)) → (la (b + 3) = (10, 680)) → (la (b + 4) = (10, 5)) → (la (b + 5) = (10, 136)) → (la (b + 6) = (10, 136)) → (la (b + 7) = (10, 8800)) → (la (b + 8) = (10, 22)) → (ra b 1 = some (b + 1)) → (ra b 2 = some (b + 2)) → (ra b 3 = some (b + 3)) → (ra b 4 = some (b + 4)) → (ra b 6 = some (b + 5)) → (ra b 7 = some (b + 6)) → (ra b 8 = some (b + 7)) → (ra b 9 = some (b + 8)) → (∀ x, b ≤ x → x ≤ b + 8 → ha x = fun _ => 0) → (∀ x, x < b → la x = lay x ∧ ra x = r x ∧ ha x = h x) → St E mX8_init 73 [some (.ref b), none, none, none] [] (8, 10115) (b + 9) la ra ha) : St E mX8_init 38 [some (.ref b), none, none, none] [] (4, 1021) (b + 5) la ra ha := by
  refine r_aload_0 (pc := 38) dX8_init_38 ?_
  refine r_sipush (pc := 39) dX8_init_39 (by decide) ?_
  refine r_newI (pc := 42) (n := 136) rfl w_aI dX8_init_42 (Nat.le_of_ble_eq_true rfl) (Nat.le_of_ble_eq_true rfl) (Nat.le_of_ble_eq_true rfl) ?_
  refine pf_X8_22 (pc := 44) rfl rfl (show (lyp la (b + 5) (10, 136)) b = (9, 0) from (lyp_n (by omega)).trans ml0) dX8_init_44 ?_
  show St E mX8_init 47 [some (.ref b), none, none, none] [] (5, 1157) (b + 6) (lyp la (b + 5) (10, 136)) (rr ra b (rup (ra b) 6 (some (b + 5)))) (hr ha (b + 5) (fun _ => 0))
  have n_ml0 : (lyp la (b + 5) (10, 136)) b = (9, 0) := (lyp_n (by omega)).trans ml0
  have n_ml1 : (lyp la (b + 5) (10, 136)) (b + 1) = (10, 200) := (lyp_n (by omega)).trans ml1
  have n_ml2 : (lyp la (b + 5) (10, 136)) (b + 2) = (10, 136) := (lyp_n (by omega)).trans ml2
  have n_ml3 : (lyp la (b + 5) (10, 136)) (b + 3) = (10, 680) := (lyp_n (by omega)).trans ml3
  have n_ml4 : (lyp la (b + 5) (10, 136)) (b + 4) = (10, 5) := (lyp_n (by omega)).trans ml4
  have n_ml5 : (lyp la (b + 5) (10, 136)) (b + 5) = (10, 136) := lyp_s
  have n_mr1 : (rr ra b (rup (ra b) 6 (some (b + 5)))) b 1 = some (b + 1) := by rw [rr_s, rup_n (by decide)]; exact mr1
  have n_mr2 : (rr ra b (rup (ra b) 6 (some (b + 5)))) b 2 = some (b + 2) := by rw [rr_s, rup_n (by decide)]; exact mr2
  have n_mr3 : (rr ra b (rup (ra b) 6 (some (b + 5)))) b 3 = some (b + 3) := by rw [rr_s, rup_n (by decide)]; exact mr3
  have n_mr4 : (rr ra b (rup (ra b) 6 (some (b + 5)))) b 4 = some (b + 4) := by rw [rr_s, rup_n (by decide)]; exact mr4
  have n_mr5 : (rr ra b (rup (ra b) 6 (some (b + 5)))) b 6 = some (b + 5) := by rw [rr_s, rup_s]
  have n_hz : ∀ x, b ≤ x → x ≤ b + 5 → (hr ha (b + 5) (fun _ => 0)) x = fun _ => 0 := fun x x0 x1 => by
    by_cases e : x = b + 5
    · rw [e, hr_s]
    · rw [hr_n e]; exact hz x x0 (by omega)
  have n_fr : ∀ x, x < b → (lyp la (b + 5) (10, 136)) x = lay x ∧ (rr ra b (rup (ra b) 6 (some (b + 5)))) x = r x ∧ (hr ha (b + 5) (fun _ => 0)) x = h x := fun x x0 => by rw [lyp_n (by omega), rr_n (by omega), hr_n (by omega)]; exact fr x x0
  revert n_ml0 n_ml1 n_ml2 n_ml3 n_ml4 n_ml5 n_mr1 n_mr2 n_mr3 n_mr4 n_mr5 n_hz n_fr
  clear ml0 ml1 ml2 ml3 ml4 mr1 mr2 mr3 mr4 hz fr
  generalize (lyp la (b + 5) (10, 136)) = la
  generalize (rr ra b (rup (ra b) 6 (some (b + 5)))) = ra
  generalize (hr ha (b + 5) (fun _ => 0)) = ha
  intro ml0 ml1 ml2 ml3 ml4 ml5 mr1 mr2 mr3 mr4 mr5 hz fr
  refine r_aload_0 (pc := 47) dX8_init_47 ?_
  refine r_sipush (pc := 48) dX8_init_48 (by decide) ?_
  refine r_newI (pc := 51) (n := 136) rfl w_aI dX8_init_51 (Nat.le_of_ble_eq_true rfl) (Nat.le_of_ble_eq_true rfl) (Nat.le_of_ble_eq_true rfl) ?_
  refine pf_X8_25 (pc := 53) rfl rfl (show (lyp la (b + 6) (10, 136)) b = (9, 0) from (lyp_n (by omega)).trans ml0) dX8_init_53 ?_
  show St E mX8_init 56 [some (.ref b), none, none, none] [] (6, 1293) (b + 7) (lyp la (b + 6) (10, 136)) (rr ra b (rup (ra b) 7 (some (b + 6)))) (hr ha (b + 6) (fun _ => 0))
  have n_ml0 : (lyp la (b + 6) (10, 136)) b = (9, 0) := (lyp_n (by omega)).trans ml0
  have n_ml1 : (lyp la (b + 6) (10, 136)) (b + 1) = (10, 200) := (lyp_n (by omega)).trans ml1
  have n_ml2 : (lyp la (b + 6) (10, 136)) (b + 2) = (10, 136) := (lyp_n (by omega)).trans ml2
  have n_ml3 : (lyp la (b + 6) (10, 136)) (b + 3) = (10, 680) := (lyp_n (by omega)).trans ml3
  have n_ml4 : (lyp la (b + 6) (10, 136)) (b + 4) = (10, 5) := (lyp_n (by omega)).trans ml4
  have n_ml5 : (lyp la (b + 6) (10, 136)) (b + 5) = (10, 136) := (lyp_n (by omega)).trans ml5
  have n_ml6 : (lyp la (b + 6) (10, 136)) (b + 6) = (10, 136) := lyp_s
  have n_mr1 : (rr ra b (rup (ra b) 7 (some (b + 6)))) b 1 = some (b + 1) := by rw [rr_s, rup_n (by decide)]; exact mr1
  have n_mr2 : (rr ra b (rup (ra b) 7 (some (b + 6)))) b 2 = some (b + 2) := by rw [rr_s, rup_n (by decide)]; exact mr2
  have n_mr3 : (rr ra b (rup (ra b) 7 (some (b + 6)))) b 3 = some (b + 3) := by rw [rr_s, rup_n (by decide)]; exact mr3
  have n_mr4 : (rr ra b (rup (ra b) 7 (some (b + 6)))) b 4 = some (b + 4) := by rw [rr_s, rup_n (by decide)]; exact mr4
  have n_mr5 : (rr ra b (rup (ra b) 7 (some (b + 6)))) b 6 = some (b + 5) := by rw [rr_s, rup_n (by decide)]; exact mr5
  have n_mr6 : (rr ra b (rup (ra b) 7 (some (b + 6)))) b 7 = some (b + 6) := by rw [rr_s, rup_s]
  have n_hz : ∀ x, b ≤ x → x ≤ b + 6 → (hr ha (b + 6) (fun _ => 0)) x = fun _ => 0 := fun x x0 x1 => by
    by_cases e : x = b + 6
    · rw [e, hr_s]
    · rw [hr_n e]; exact hz x x0 (by omega)
  have n_fr : ∀ x, x < b → (lyp la (b + 6) (10, 136)) x = lay x ∧ (rr ra b (rup (ra b) 7 (some (b + 6)))) x = r x ∧ (hr ha (b + 6) (fun _ => 0)) x = h x := fun x x0 => by rw [lyp_n (by omega), rr_n (by omega), hr_n (by omega)]; exact fr x x0
  revert n_ml0 n_ml1 n_ml2 n_ml3 n_ml4 n_ml5 n_ml6 n_mr1 n_mr2 n_mr3 n_mr4 n_mr5 n_mr6 n_hz n_fr
  clear ml0 ml1 ml2 ml3 ml4 ml5 mr1 mr2 mr3 mr4 mr5 hz fr
  generalize (lyp la (b + 6) (10, 136)) = la
  generalize (rr ra b (rup (ra b) 7 (some (b + 6)))) = ra
  generalize (hr ha (b + 6) (fun _ => 0)) = ha
  intro ml0 ml1 ml2 ml3 ml4 ml5 ml6 mr1 mr2 mr3 mr4 mr5 mr6 hz fr
  refine r_aload_0 (pc := 56) dX8_init_56 ?_
  refine r_sipush (pc := 57) dX8_init_57 (by decide) ?_
  refine r_newI (pc := 60) (n := 8800) rfl w_aI dX8_init_60 (Nat.le_of_ble_eq_true rfl) (Nat.le_of_ble_eq_true rfl) (Nat.le_of_ble_eq_true rfl) ?_
  refine pf_X8_28 (pc := 62) rfl rfl (show (lyp la (b + 7) (10, 8800)) b = (9, 0) from (lyp_n (by omega)).trans ml0) dX8_init_62 ?_
  show St E mX8_init 65 [some (.ref b), none, none, none] [] (7, 10093) (b + 8) (lyp la (b + 7) (10, 8800)) (rr ra b (rup (ra b) 8 (some (b + 7)))) (hr ha (b + 7) (fun _ => 0))
  have n_ml0 : (lyp la (b + 7) (10, 8800)) b = (9, 0) := (lyp_n (by omega)).trans ml0
  have n_ml1 : (lyp la (b + 7) (10, 8800)) (b + 1) = (10, 200) := (lyp_n (by omega)).trans ml1
  have n_ml2 : (lyp la (b + 7) (10, 8800)) (b + 2) = (10, 136) := (lyp_n (by omega)).trans ml2
  have n_ml3 : (lyp la (b + 7) (10, 8800)) (b + 3) = (10, 680) := (lyp_n (by omega)).trans ml3
  have n_ml4 : (lyp la (b + 7) (10, 8800)) (b + 4) = (10, 5) := (lyp_n (by omega)).trans ml4
  have n_ml5 : (lyp la (b + 7) (10, 8800)) (b + 5) = (10, 136) := (lyp_n (by omega)).trans ml5
  have n_ml6 : (lyp la (b + 7) (10, 8800)) (b + 6) = (10, 136) := (lyp_n (by omega)).trans ml6
  have n_ml7 : (lyp la (b + 7) (10, 8800)) (b + 7) = (10, 8800) := lyp_s
  have n_mr1 : (rr ra b (rup (ra b) 8 (some (b + 7)))) b 1 = some (b + 1) := by rw [rr_s, rup_n (by decide)]; exact mr1
  have n_mr2 : (rr ra b (rup (ra b) 8 (some (b + 7)))) b 2 = some (b + 2) := by rw [rr_s, rup_n (by decide)]; exact mr2
  have n_mr3 : (rr ra b (rup (ra b) 8 (some (b + 7)))) b 3 = some (b + 3) := by rw [rr_s, rup_n (by decide)]; exact mr3
  have n_mr4 : (rr ra b (rup (ra b) 8 (some (b + 7)))) b 4 = some (b + 4) := by rw [rr_s, rup_n (by decide)]; exact mr4
  have n_mr5 : (rr ra b (rup (ra b) 8 (some (b + 7)))) b 6 = some (b + 5) := by rw [rr_s, rup_n (by decide)]; exact mr5
  have n_mr6 : (rr ra b (rup (ra b) 8 (some (b + 7)))) b 7 = some (b + 6) := by rw [rr_s, rup_n (by decide)]; exact mr6
  have n_mr7 : (rr ra b (rup (ra b) 8 (some (b + 7)))) b 8 = some (b + 7) := by rw [rr_s, rup_s]
  have n_hz : ∀ x, b ≤ x → x ≤ b + 7 → (hr ha (b + 7) (fun _ => 0)) x = fun _ => 0 := fun x x0 x1 => by
    by_cases e : x = b + 7
    · rw [e, hr_s]
    · rw [hr_n e]; exact hz x x0 (by omega)
  have n_fr : ∀ x, x < b → (lyp la (b + 7) (10, 8800)) x = lay x ∧ (rr ra b (rup (ra b) 8 (some (b + 7)))) x = r x ∧ (hr ha (b + 7) (fun _ => 0)) x = h x := fun x x0 => by rw [lyp_n (by omega), rr_n (by omega), hr_n (by omega)]; exact fr x x0
  revert n_ml0 n_ml1 n_ml2 n_ml3 n_ml4 n_ml5 n_ml6 n_ml7 n_mr1 n_mr2 n_mr3 n_mr4 n_mr5 n_mr6 n_mr7 n_hz n_fr
  clear ml0 ml1 ml2 ml3 ml4 ml5 ml6 mr1 mr2 mr3 mr4 mr5 mr6 hz fr
  generalize (lyp la (b + 7) (10, 8800)) = la
  generalize (rr ra b (rup (ra b) 8 (some (b + 7)))) = ra
  generalize (hr ha (b + 7) (fun _ => 0)) = ha
  intro ml0 ml1 ml2 ml3 ml4 ml5 ml6 ml7 mr1 mr2 mr3 mr4 mr5 mr6 mr7 hz fr
  refine r_aload_0 (pc := 65) dX8_init_65 ?_
  refine r_bipush (pc := 66) dX8_init_66 (by decide) ?_
  refine r_newI (pc := 68) (n := 22) rfl w_aI dX8_init_68 (Nat.le_of_ble_eq_true rfl) (Nat.le_of_ble_eq_true rfl) (Nat.le_of_ble_eq_true rfl) ?_
  refine pf_X8_31 (pc := 70) rfl rfl (show (lyp la (b + 8) (10, 22)) b = (9, 0) from (lyp_n (by omega)).trans ml0) dX8_init_70 ?_
  show St E mX8_init 73 [some (.ref b), none, none, none] [] (8, 10115) (b + 9) (lyp la (b + 8) (10, 22)) (rr ra b (rup (ra b) 9 (some (b + 8)))) (hr ha (b + 8) (fun _ => 0))
  have n_ml0 : (lyp la (b + 8) (10, 22)) b = (9, 0) := (lyp_n (by omega)).trans ml0
  have n_ml1 : (lyp la (b + 8) (10, 22)) (b + 1) = (10, 200) := (lyp_n (by omega)).trans ml1
  have n_ml2 : (lyp la (b + 8) (10, 22)) (b + 2) = (10, 136) := (lyp_n (by omega)).trans ml2
  have n_ml3 : (lyp la (b + 8) (10, 22)) (b + 3) = (10, 680) := (lyp_n (by omega)).trans ml3
  have n_ml4 : (lyp la (b + 8) (10, 22)) (b + 4) = (10, 5) := (lyp_n (by omega)).trans ml4
  have n_ml5 : (lyp la (b + 8) (10, 22)) (b + 5) = (10, 136) := (lyp_n (by omega)).trans ml5
  have n_ml6 : (lyp la (b + 8) (10, 22)) (b + 6) = (10, 136) := (lyp_n (by omega)).trans ml6
  have n_ml7 : (lyp la (b + 8) (10, 22)) (b + 7) = (10, 8800) := (lyp_n (by omega)).trans ml7
  have n_ml8 : (lyp la (b + 8) (10, 22)) (b + 8) = (10, 22) := lyp_s
  have n_mr1 : (rr ra b (rup (ra b) 9 (some (b + 8)))) b 1 = some (b + 1) := by rw [rr_s, rup_n (by decide)]; exact mr1
  have n_mr2 : (rr ra b (rup (ra b) 9 (some (b + 8)))) b 2 = some (b + 2) := by rw [rr_s, rup_n (by decide)]; exact mr2
  have n_mr3 : (rr ra b (rup (ra b) 9 (some (b + 8)))) b 3 = some (b + 3) := by rw [rr_s, rup_n (by decide)]; exact mr3
  have n_mr4 : (rr ra b (rup (ra b) 9 (some (b + 8)))) b 4 = some (b + 4) := by rw [rr_s, rup_n (by decide)]; exact mr4
  have n_mr5 : (rr ra b (rup (ra b) 9 (some (b + 8)))) b 6 = some (b + 5) := by rw [rr_s, rup_n (by decide)]; exact mr5
  have n_mr6 : (rr ra b (rup (ra b) 9 (some (b + 8)))) b 7 = some (b + 6) := by rw [rr_s, rup_n (by decide)]; exact mr6
  have n_mr7 : (rr ra b (rup (ra b) 9 (some (b + 8)))) b 8 = some (b + 7) := by rw [rr_s, rup_n (by decide)]; exact mr7
  have n_mr8 : (rr ra b (rup (ra b) 9 (some (b + 8)))) b 9 = some (b + 8) := by rw [rr_s, rup_s]
  have n_hz : ∀ x, b ≤ x → x ≤ b + 8 → (hr ha (b + 8) (fun _ => 0)) x = fun _ => 0 := fun x x0 x1 => by
    by_cases e : x = b + 8
    · rw [e, hr_s]
    · rw [hr_n e]; exact hz x x0 (by omega)
  have n_fr : ∀ x, x < b → (lyp la (b + 8) (10, 22)) x = lay x ∧ (rr ra b (rup (ra b) 9 (some (b + 8)))) x = r x ∧ (hr ha (b + 8) (fun _ => 0)) x = h x := fun x x0 => by rw [lyp_n (by omega), rr_n (by omega), hr_n (by omega)]; exact fr x x0
  revert n_ml0 n_ml1 n_ml2 n_ml3 n_ml4 n_ml5 n_ml6 n_ml7 n_ml8 n_mr1 n_mr2 n_mr3 n_mr4 n_mr5 n_mr6 n_mr7 n_mr8 n_hz n_fr
  clear ml0 ml1 ml2 ml3 ml4 ml5 ml6 ml7 mr1 mr2 mr3 mr4 mr5 mr6 mr7 hz fr
  generalize (lyp la (b + 8) (10, 22)) = la
  generalize (rr ra b (rup (ra b) 9 (some (b + 8)))) = ra
  generalize (hr ha (b + 8) (fun _ => 0)) = ha
  intro ml0 ml1 ml2 ml3 ml4 ml5 ml6 ml7 ml8 mr1 mr2 mr3 mr4 mr5 mr6 mr7 mr8 hz fr
  exact K la ra ha ml0 ml1 ml2 ml3 ml4 ml5 ml6 ml7 ml8 mr1 mr2 mr3 mr4 mr5 mr6 mr7 mr8 hz fr
set_option maxHeartbeats 4000000 in
set_option maxRecDepth 20000 in
theorem X8_init_A11 {E : EnT} {lay : LyT} {r : RfT} {h : HpT} {b : Nat} (la : LyT) (ra : RfT) (ha : HpT) (ml0 : la b = (9, 0)) (ml1 : la (b + 1) = (10, 200)) (ml2 : la (b + 2) = (10, 136)) (ml3 : la (b + 3) = (10, 680)) (ml4 : la (b + 4) = (10, 5)) (ml5 : la (b + 5) = (10, 136)) (ml6 : la (b + 6) = (10, 136)) (ml7 : la (b + 7) = (10, 8800)) (ml8 : la (b + 8) = (10, 22)) (mr1 : ra b 1 = some (b + 1)) (mr2 : ra b 2 = some (b + 2)) (mr3 : ra b 3 = some (b + 3)) (mr4 : ra b 4 = some (b + 4)) (mr5 : ra b 6 = some (b + 5)) (mr6 : ra b 7 = some (b + 6)) (mr7 : ra b 8 = some (b + 7)) (mr8 : ra b 9 = some (b + 8)) (hz : ∀ x, b ≤ x → x ≤ b + 8 → ha x = fun _ => 0) (fr : ∀ x, x < b → la x = lay x ∧ ra x = r x ∧ ha x = h x) (K : ∀ (la : LyT) (ra : RfT) (ha : HpT), (la b = (9, 0)) → (la (b + 1) = (10, 200)) → (la (b + 2) = (10, 136)) → (la (b + 3) = (10, 680)) → (la (b + 4) = (10, 5)) → (la (b + 5) = (10, 136)) → (la (b + 6) = (10, 136)) → (la (b + 7) = (10, 8800)) → (la (b + 8) = (10, 22)) → (la (b + 9) = (10, 4)) → (la (b + 10) = (10, 4)) → (la (b + 11) = (10, 6)) → (ra b 1 = some (b + 1)) → (ra b 2 = some (b + 2)) → (ra b 3 = some (b + 3)) → (ra b 4 = some (b + 4)) → (ra b 6 = some (b + 5)) → (ra b 7 = some (b + 6)) → (ra b 8 = some (b + 7)) → (ra b 9 = some (b + 8)) → (ra b 10 = some (b + 9)) → (ra b 11 = some (b + 10)) → (ra b 12 = some (b + 11)) → (∀ x, b ≤ x → x ≤ b + 11 → ha x = fun _ => 0) → (∀ x, x < b → la x = lay x ∧ ra x = r x ∧ ha x = h x) → St E mX8_init 95 [some (.ref b), none, none, none] [] (11, 10129) (b + 12) la ra ha) : St E mX8_init 73 [some (.ref b), none, none, none] [] (8, 10115) (b + 9) la ra ha := by
  refine r_aload_0 (pc := 73) dX8_init_73 ?_
  refine r_iconst (pc := 74) dX8_init_74 ?_
  refine r_newI (pc := 75) (n := 4) rfl w_aI dX8_init_75 (Nat.le_of_ble_eq_true rfl) (Nat.le_of_ble_eq_true rfl) (Nat.le_of_ble_eq_true rfl) ?_
  refine pf_X8_34 (pc := 77) rfl rfl (show (lyp la (b + 9) (10, 4)) b = (9, 0) from (lyp_n (by omega)).trans ml0) dX8_init_77 ?_
  show St E mX8_init 80 [some (.ref b), none, none, none] [] (9, 10119) (b + 10) (lyp la (b + 9) (10, 4)) (rr ra b (rup (ra b) 10 (some (b + 9)))) (hr ha (b + 9) (fun _ => 0))
  have n_ml0 : (lyp la (b + 9) (10, 4)) b = (9, 0) := (lyp_n (by omega)).trans ml0
  have n_ml1 : (lyp la (b + 9) (10, 4)) (b + 1) = (10, 200) := (lyp_n (by omega)).trans ml1
  have n_ml2 : (lyp la (b + 9) (10, 4)) (b + 2) = (10, 136) := (lyp_n (by omega)).trans ml2
  have n_ml3 : (lyp la (b + 9) (10, 4)) (b + 3) = (10, 680) := (lyp_n (by omega)).trans ml3
  have n_ml4 : (lyp la (b + 9) (10, 4)) (b + 4) = (10, 5) := (lyp_n (by omega)).trans ml4
  have n_ml5 : (lyp la (b + 9) (10, 4)) (b + 5) = (10, 136) := (lyp_n (by omega)).trans ml5
  have n_ml6 : (lyp la (b + 9) (10, 4)) (b + 6) = (10, 136) := (lyp_n (by omega)).trans ml6
  have n_ml7 : (lyp la (b + 9) (10, 4)) (b + 7) = (10, 8800) := (lyp_n (by omega)).trans ml7
  have n_ml8 : (lyp la (b + 9) (10, 4)) (b + 8) = (10, 22) := (lyp_n (by omega)).trans ml8
  have n_ml9 : (lyp la (b + 9) (10, 4)) (b + 9) = (10, 4) := lyp_s
  have n_mr1 : (rr ra b (rup (ra b) 10 (some (b + 9)))) b 1 = some (b + 1) := by rw [rr_s, rup_n (by decide)]; exact mr1
  have n_mr2 : (rr ra b (rup (ra b) 10 (some (b + 9)))) b 2 = some (b + 2) := by rw [rr_s, rup_n (by decide)]; exact mr2
  have n_mr3 : (rr ra b (rup (ra b) 10 (some (b + 9)))) b 3 = some (b + 3) := by rw [rr_s, rup_n (by decide)]; exact mr3
  have n_mr4 : (rr ra b (rup (ra b) 10 (some (b + 9)))) b 4 = some (b + 4) := by rw [rr_s, rup_n (by decide)]; exact mr4
  have n_mr5 : (rr ra b (rup (ra b) 10 (some (b + 9)))) b 6 = some (b + 5) := by rw [rr_s, rup_n (by decide)]; exact mr5
  have n_mr6 : (rr ra b (rup (ra b) 10 (some (b + 9)))) b 7 = some (b + 6) := by rw [rr_s, rup_n (by decide)]; exact mr6
  have n_mr7 : (rr ra b (rup (ra b) 10 (some (b + 9)))) b 8 = some (b + 7) := by rw [rr_s, rup_n (by decide)]; exact mr7
  have n_mr8 : (rr ra b (rup (ra b) 10 (some (b + 9)))) b 9 = some (b + 8) := by rw [rr_s, rup_n (by decide)]; exact mr8
  have n_mr9 : (rr ra b (rup (ra b) 10 (some (b + 9)))) b 10 = some (b + 9) := by rw [rr_s, rup_s]
  have n_hz : ∀ x, b ≤ x → x ≤ b + 9 → (hr ha (b + 9) (fun _ => 0)) x = fun _ => 0 := fun x x0 x1 => by
    by_cases e : x = b + 9
    · rw [e, hr_s]
    · rw [hr_n e]; exact hz x x0 (by omega)
  have n_fr : ∀ x, x < b → (lyp la (b + 9) (10, 4)) x = lay x ∧ (rr ra b (rup (ra b) 10 (some (b + 9)))) x = r x ∧ (hr ha (b + 9) (fun _ => 0)) x = h x := fun x x0 => by rw [lyp_n (by omega), rr_n (by omega), hr_n (by omega)]; exact fr x x0
  revert n_ml0 n_ml1 n_ml2 n_ml3 n_ml4 n_ml5 n_ml6 n_ml7 n_ml8 n_ml9 n_mr1 n_mr2 n_mr3 n_mr4 n_mr5 n_mr6 n_mr7 n_mr8 n_mr9 n_hz n_fr
  clear ml0 ml1 ml2 ml3 ml4 ml5 ml6 ml7 ml8 mr1 mr2 mr3 mr4 mr5 mr6 mr7 mr8 hz fr
  generalize (lyp la (b + 9) (10, 4)) = la
  generalize (rr ra b (rup (ra b) 10 (some (b + 9)))) = ra
  generalize (hr ha (b + 9) (fun _ => 0)) = ha
  intro ml0 ml1 ml2 ml3 ml4 ml5 ml6 ml7 ml8 ml9 mr1 mr2 mr3 mr4 mr5 mr6 mr7 mr8 mr9 hz fr
  refine r_aload_0 (pc := 80) dX8_init_80 ?_
  refine r_iconst (pc := 81) dX8_init_81 ?_
  refine r_newI (pc := 82) (n := 4) rfl w_aI dX8_init_82 (Nat.le_of_ble_eq_true rfl) (Nat.le_of_ble_eq_true rfl) (Nat.le_of_ble_eq_true rfl) ?_
  refine pf_X8_37 (pc := 84) rfl rfl (show (lyp la (b + 10) (10, 4)) b = (9, 0) from (lyp_n (by omega)).trans ml0) dX8_init_84 ?_
  show St E mX8_init 87 [some (.ref b), none, none, none] [] (10, 10123) (b + 11) (lyp la (b + 10) (10, 4)) (rr ra b (rup (ra b) 11 (some (b + 10)))) (hr ha (b + 10) (fun _ => 0))
  have n_ml0 : (lyp la (b + 10) (10, 4)) b = (9, 0) := (lyp_n (by omega)).trans ml0
  have n_ml1 : (lyp la (b + 10) (10, 4)) (b + 1) = (10, 200) := (lyp_n (by omega)).trans ml1
  have n_ml2 : (lyp la (b + 10) (10, 4)) (b + 2) = (10, 136) := (lyp_n (by omega)).trans ml2
  have n_ml3 : (lyp la (b + 10) (10, 4)) (b + 3) = (10, 680) := (lyp_n (by omega)).trans ml3
  have n_ml4 : (lyp la (b + 10) (10, 4)) (b + 4) = (10, 5) := (lyp_n (by omega)).trans ml4
  have n_ml5 : (lyp la (b + 10) (10, 4)) (b + 5) = (10, 136) := (lyp_n (by omega)).trans ml5
  have n_ml6 : (lyp la (b + 10) (10, 4)) (b + 6) = (10, 136) := (lyp_n (by omega)).trans ml6
  have n_ml7 : (lyp la (b + 10) (10, 4)) (b + 7) = (10, 8800) := (lyp_n (by omega)).trans ml7
  have n_ml8 : (lyp la (b + 10) (10, 4)) (b + 8) = (10, 22) := (lyp_n (by omega)).trans ml8
  have n_ml9 : (lyp la (b + 10) (10, 4)) (b + 9) = (10, 4) := (lyp_n (by omega)).trans ml9
  have n_ml10 : (lyp la (b + 10) (10, 4)) (b + 10) = (10, 4) := lyp_s
  have n_mr1 : (rr ra b (rup (ra b) 11 (some (b + 10)))) b 1 = some (b + 1) := by rw [rr_s, rup_n (by decide)]; exact mr1
  have n_mr2 : (rr ra b (rup (ra b) 11 (some (b + 10)))) b 2 = some (b + 2) := by rw [rr_s, rup_n (by decide)]; exact mr2
  have n_mr3 : (rr ra b (rup (ra b) 11 (some (b + 10)))) b 3 = some (b + 3) := by rw [rr_s, rup_n (by decide)]; exact mr3
  have n_mr4 : (rr ra b (rup (ra b) 11 (some (b + 10)))) b 4 = some (b + 4) := by rw [rr_s, rup_n (by decide)]; exact mr4
  have n_mr5 : (rr ra b (rup (ra b) 11 (some (b + 10)))) b 6 = some (b + 5) := by rw [rr_s, rup_n (by decide)]; exact mr5
  have n_mr6 : (rr ra b (rup (ra b) 11 (some (b + 10)))) b 7 = some (b + 6) := by rw [rr_s, rup_n (by decide)]; exact mr6
  have n_mr7 : (rr ra b (rup (ra b) 11 (some (b + 10)))) b 8 = some (b + 7) := by rw [rr_s, rup_n (by decide)]; exact mr7
  have n_mr8 : (rr ra b (rup (ra b) 11 (some (b + 10)))) b 9 = some (b + 8) := by rw [rr_s, rup_n (by decide)]; exact mr8
  have n_mr9 : (rr ra b (rup (ra b) 11 (some (b + 10)))) b 10 = some (b + 9) := by rw [rr_s, rup_n (by decide)]; exact mr9
  have n_mr10 : (rr ra b (rup (ra b) 11 (some (b + 10)))) b 11 = some (b + 10) := by rw [rr_s, rup_s]
  have n_hz : ∀ x, b ≤ x → x ≤ b + 10 → (hr ha (b + 10) (fun _ => 0)) x = fun _ => 0 := fun x x0 x1 => by
    by_cases e : x = b + 10
    · rw [e, hr_s]
    · rw [hr_n e]; exact hz x x0 (by omega)
  have n_fr : ∀ x, x < b → (lyp la (b + 10) (10, 4)) x = lay x ∧ (rr ra b (rup (ra b) 11 (some (b + 10)))) x = r x ∧ (hr ha (b + 10) (fun _ => 0)) x = h x := fun x x0 => by rw [lyp_n (by omega), rr_n (by omega), hr_n (by omega)]; exact fr x x0
  revert n_ml0 n_ml1 n_ml2 n_ml3 n_ml4 n_ml5 n_ml6 n_ml7 n_ml8 n_ml9 n_ml10 n_mr1 n_mr2 n_mr3 n_mr4 n_mr5 n_mr6 n_mr7 n_mr8 n_mr9 n_mr10 n_hz n_fr
  clear ml0 ml1 ml2 ml3 ml4 ml5 ml6 ml7 ml8 ml9 mr1 mr2 mr3 mr4 mr5 mr6 mr7 mr8 mr9 hz fr
  generalize (lyp la (b + 10) (10, 4)) = la
  generalize (rr ra b (rup (ra b) 11 (some (b + 10)))) = ra
  generalize (hr ha (b + 10) (fun _ => 0)) = ha
  intro ml0 ml1 ml2 ml3 ml4 ml5 ml6 ml7 ml8 ml9 ml10 mr1 mr2 mr3 mr4 mr5 mr6 mr7 mr8 mr9 mr10 hz fr
  refine r_aload_0 (pc := 87) dX8_init_87 ?_
  refine r_bipush (pc := 88) dX8_init_88 (by decide) ?_
  refine r_newI (pc := 90) (n := 6) rfl w_aI dX8_init_90 (Nat.le_of_ble_eq_true rfl) (Nat.le_of_ble_eq_true rfl) (Nat.le_of_ble_eq_true rfl) ?_
  refine pf_X8_40 (pc := 92) rfl rfl (show (lyp la (b + 11) (10, 6)) b = (9, 0) from (lyp_n (by omega)).trans ml0) dX8_init_92 ?_
  show St E mX8_init 95 [some (.ref b), none, none, none] [] (11, 10129) (b + 12) (lyp la (b + 11) (10, 6)) (rr ra b (rup (ra b) 12 (some (b + 11)))) (hr ha (b + 11) (fun _ => 0))
  have n_ml0 : (lyp la (b + 11) (10, 6)) b = (9, 0) := (lyp_n (by omega)).trans ml0
  have n_ml1 : (lyp la (b + 11) (10, 6)) (b + 1) = (10, 200) := (lyp_n (by omega)).trans ml1
  have n_ml2 : (lyp la (b + 11) (10, 6)) (b + 2) = (10, 136) := (lyp_n (by omega)).trans ml2
  have n_ml3 : (lyp la (b + 11) (10, 6)) (b + 3) = (10, 680) := (lyp_n (by omega)).trans ml3
  have n_ml4 : (lyp la (b + 11) (10, 6)) (b + 4) = (10, 5) := (lyp_n (by omega)).trans ml4
  have n_ml5 : (lyp la (b + 11) (10, 6)) (b + 5) = (10, 136) := (lyp_n (by omega)).trans ml5
  have n_ml6 : (lyp la (b + 11) (10, 6)) (b + 6) = (10, 136) := (lyp_n (by omega)).trans ml6
  have n_ml7 : (lyp la (b + 11) (10, 6)) (b + 7) = (10, 8800) := (lyp_n (by omega)).trans ml7
  have n_ml8 : (lyp la (b + 11) (10, 6)) (b + 8) = (10, 22) := (lyp_n (by omega)).trans ml8
  have n_ml9 : (lyp la (b + 11) (10, 6)) (b + 9) = (10, 4) := (lyp_n (by omega)).trans ml9
  have n_ml10 : (lyp la (b + 11) (10, 6)) (b + 10) = (10, 4) := (lyp_n (by omega)).trans ml10
  have n_ml11 : (lyp la (b + 11) (10, 6)) (b + 11) = (10, 6) := lyp_s
  have n_mr1 : (rr ra b (rup (ra b) 12 (some (b + 11)))) b 1 = some (b + 1) := by rw [rr_s, rup_n (by decide)]; exact mr1
  have n_mr2 : (rr ra b (rup (ra b) 12 (some (b + 11)))) b 2 = some (b + 2) := by rw [rr_s, rup_n (by decide)]; exact mr2
  have n_mr3 : (rr ra b (rup (ra b) 12 (some (b + 11)))) b 3 = some (b + 3) := by rw [rr_s, rup_n (by decide)]; exact mr3
  have n_mr4 : (rr ra b (rup (ra b) 12 (some (b + 11)))) b 4 = some (b + 4) := by rw [rr_s, rup_n (by decide)]; exact mr4
  have n_mr5 : (rr ra b (rup (ra b) 12 (some (b + 11)))) b 6 = some (b + 5) := by rw [rr_s, rup_n (by decide)]; exact mr5
  have n_mr6 : (rr ra b (rup (ra b) 12 (some (b + 11)))) b 7 = some (b + 6) := by rw [rr_s, rup_n (by decide)]; exact mr6
  have n_mr7 : (rr ra b (rup (ra b) 12 (some (b + 11)))) b 8 = some (b + 7) := by rw [rr_s, rup_n (by decide)]; exact mr7
  have n_mr8 : (rr ra b (rup (ra b) 12 (some (b + 11)))) b 9 = some (b + 8) := by rw [rr_s, rup_n (by decide)]; exact mr8
  have n_mr9 : (rr ra b (rup (ra b) 12 (some (b + 11)))) b 10 = some (b + 9) := by rw [rr_s, rup_n (by decide)]; exact mr9
  have n_mr10 : (rr ra b (rup (ra b) 12 (some (b + 11)))) b 11 = some (b + 10) := by rw [rr_s, rup_n (by decide)]; exact mr10
  have n_mr11 : (rr ra b (rup (ra b) 12 (some (b + 11)))) b 12 = some (b + 11) := by rw [rr_s, rup_s]
  have n_hz : ∀ x, b ≤ x → x ≤ b + 11 → (hr ha (b + 11) (fun _ => 0)) x = fun _ => 0 := fun x x0 x1 => by
    by_cases e : x = b + 11
    · rw [e, hr_s]
    · rw [hr_n e]; exact hz x x0 (by omega)
  have n_fr : ∀ x, x < b → (lyp la (b + 11) (10, 6)) x = lay x ∧ (rr ra b (rup (ra b) 12 (some (b + 11)))) x = r x ∧ (hr ha (b + 11) (fun _ => 0)) x = h x := fun x x0 => by rw [lyp_n (by omega), rr_n (by omega), hr_n (by omega)]; exact fr x x0
  revert n_ml0 n_ml1 n_ml2 n_ml3 n_ml4 n_ml5 n_ml6 n_ml7 n_ml8 n_ml9 n_ml10 n_ml11 n_mr1 n_mr2 n_mr3 n_mr4 n_mr5 n_mr6 n_mr7 n_mr8 n_mr9 n_mr10 n_mr11 n_hz n_fr
  clear ml0 ml1 ml2 ml3 ml4 ml5 ml6 ml7 ml8 ml9 ml10 mr1 mr2 mr3 mr4 mr5 mr6 mr7 mr8 mr9 mr10 hz fr
  generalize (lyp la (b + 11) (10, 6)) = la
  generalize (rr ra b (rup (ra b) 12 (some (b + 11)))) = ra
  generalize (hr ha (b + 11) (fun _ => 0)) = ha
  intro ml0 ml1 ml2 ml3 ml4 ml5 ml6 ml7 ml8 ml9 ml10 ml11 mr1 mr2 mr3 mr4 mr5 mr6 mr7 mr8 mr9 mr10 mr11 hz fr
  exact K la ra ha ml0 ml1 ml2 ml3 ml4 ml5 ml6 ml7 ml8 ml9 ml10 ml11 mr1 mr2 mr3 mr4 mr5 mr6 mr7 mr8 mr9 mr10 mr11 hz fr
set_option maxHeartbeats 4000000 in
set_option maxRecDepth 20000 in
theorem X8_init_A14 {E : EnT} {lay : LyT} {r : RfT} {h : HpT} {b : Nat} (la : LyT) (ra : RfT) (ha : HpT) (ml0 : la b = (9, 0)) (ml1 : la (b + 1) = (10, 200)) (ml2 : la (b + 2) = (10, 136)) (ml3 : la (b + 3) = (10, 680)) (ml4 : la (b + 4) = (10, 5)) (ml5 : la (b + 5) = (10, 136)) (ml6 : la (b + 6) = (10, 136)) (ml7 : la (b + 7) = (10, 8800)) (ml8 : la (b + 8) = (10, 22)) (ml9 : la (b + 9) = (10, 4)) (ml10 : la (b + 10) = (10, 4)) (ml11 : la (b + 11) = (10, 6)) (mr1 : ra b 1 = some (b + 1)) (mr2 : ra b 2 = some (b + 2)) (mr3 : ra b 3 = some (b + 3)) (mr4 : ra b 4 = some (b + 4)) (mr5 : ra b 6 = some (b + 5)) (mr6 : ra b 7 = some (b + 6)) (mr7 : ra b 8 = some (b + 7)) (mr8 : ra b 9 = some (b + 8)) (mr9 : ra b 10 = some (b + 9)) (mr10 : ra b 11 = some (b + 10)) (mr11 : ra b 12 = some (b + 11)) (hz : ∀ x, b ≤ x → x ≤ b + 11 → ha x = fun _ => 0) (fr : ∀ x, x < b → la x = lay x ∧ ra x = r x ∧ ha x = h x) (K : ∀ (la : LyT) (ra : RfT) (ha : HpT), (la b = (9, 0)) → (la (b + 1) = (10, 200)) → (la (b + 2) = (10, 136)) → (la (b + 3) = (10, 680)) → (la (b + 4) = (10, 5)) → (la (b + 5) = (10, 136)) → (la (b + 6) = (10, 136)) → (la (b + 7) = (10, 8800)) → (la (b + 8) = (10, 22)) → (la (b + 9) = (10, 4)) → (la (b + 10) = (10, 4)) → (la (b + 11) = (10, 6)) → (la (b + 12) = (10, 64)) → (la (b + 13) = (10, 64)) → (la (b + 14) = (10, 16)) → (ra b 1 = some (b + 1)) → (ra b 2 = some (b + 2)) → (ra b 3 = some (b + 3)) → (ra b 4 = some (b + 4)) → (ra b 6 = some (b + 5)) → (ra b 7 = some (b + 6)) → (ra b 8 = some (b + 7)) → (ra b 9 = some (b + 8)) → (ra b 10 = some (b + 9)) → (ra b 11 = some (b + 10)) → (ra b 12 = some (b + 11)) → (ra b 13 = some (b + 12)) → (ra b 14 = some (b + 13)) → (ra b 15 = some (b + 14)) → (∀ x, b ≤ x → x ≤ b + 14 → ha x = fun _ => 0) → (∀ x, x < b → la x = lay x ∧ ra x = r x ∧ ha x = h x) → St E mX8_init 119 [some (.ref b), none, none, none] [] (14, 10273) (b + 15) la ra ha) : St E mX8_init 95 [some (.ref b), none, none, none] [] (11, 10129) (b + 12) la ra ha := by
  refine r_aload_0 (pc := 95) dX8_init_95 ?_
  refine r_bipush (pc := 96) dX8_init_96 (by decide) ?_
  refine r_newI (pc := 98) (n := 64) rfl w_aI dX8_init_98 (Nat.le_of_ble_eq_true rfl) (Nat.le_of_ble_eq_true rfl) (Nat.le_of_ble_eq_true rfl) ?_
  refine pf_X8_43 (pc := 100) rfl rfl (show (lyp la (b + 12) (10, 64)) b = (9, 0) from (lyp_n (by omega)).trans ml0) dX8_init_100 ?_
  show St E mX8_init 103 [some (.ref b), none, none, none] [] (12, 10193) (b + 13) (lyp la (b + 12) (10, 64)) (rr ra b (rup (ra b) 13 (some (b + 12)))) (hr ha (b + 12) (fun _ => 0))
  have n_ml0 : (lyp la (b + 12) (10, 64)) b = (9, 0) := (lyp_n (by omega)).trans ml0
  have n_ml1 : (lyp la (b + 12) (10, 64)) (b + 1) = (10, 200) := (lyp_n (by omega)).trans ml1
  have n_ml2 : (lyp la (b + 12) (10, 64)) (b + 2) = (10, 136) := (lyp_n (by omega)).trans ml2
  have n_ml3 : (lyp la (b + 12) (10, 64)) (b + 3) = (10, 680) := (lyp_n (by omega)).trans ml3
  have n_ml4 : (lyp la (b + 12) (10, 64)) (b + 4) = (10, 5) := (lyp_n (by omega)).trans ml4
  have n_ml5 : (lyp la (b + 12) (10, 64)) (b + 5) = (10, 136) := (lyp_n (by omega)).trans ml5
  have n_ml6 : (lyp la (b + 12) (10, 64)) (b + 6) = (10, 136) := (lyp_n (by omega)).trans ml6
  have n_ml7 : (lyp la (b + 12) (10, 64)) (b + 7) = (10, 8800) := (lyp_n (by omega)).trans ml7
  have n_ml8 : (lyp la (b + 12) (10, 64)) (b + 8) = (10, 22) := (lyp_n (by omega)).trans ml8
  have n_ml9 : (lyp la (b + 12) (10, 64)) (b + 9) = (10, 4) := (lyp_n (by omega)).trans ml9
  have n_ml10 : (lyp la (b + 12) (10, 64)) (b + 10) = (10, 4) := (lyp_n (by omega)).trans ml10
  have n_ml11 : (lyp la (b + 12) (10, 64)) (b + 11) = (10, 6) := (lyp_n (by omega)).trans ml11
  have n_ml12 : (lyp la (b + 12) (10, 64)) (b + 12) = (10, 64) := lyp_s
  have n_mr1 : (rr ra b (rup (ra b) 13 (some (b + 12)))) b 1 = some (b + 1) := by rw [rr_s, rup_n (by decide)]; exact mr1
  have n_mr2 : (rr ra b (rup (ra b) 13 (some (b + 12)))) b 2 = some (b + 2) := by rw [rr_s, rup_n (by decide)]; exact mr2
  have n_mr3 : (rr ra b (rup (ra b) 13 (some (b + 12)))) b 3 = some (b + 3) := by rw [rr_s, rup_n (by decide)]; exact mr3
  have n_mr4 : (rr ra b (rup (ra b) 13 (some (b + 12)))) b 4 = some (b + 4) := by rw [rr_s, rup_n (by decide)]; exact mr4
  have n_mr5 : (rr ra b (rup (ra b) 13 (some (b + 12)))) b 6 = some (b + 5) := by rw [rr_s, rup_n (by decide)]; exact mr5
  have n_mr6 : (rr ra b (rup (ra b) 13 (some (b + 12)))) b 7 = some (b + 6) := by rw [rr_s, rup_n (by decide)]; exact mr6
  have n_mr7 : (rr ra b (rup (ra b) 13 (some (b + 12)))) b 8 = some (b + 7) := by rw [rr_s, rup_n (by decide)]; exact mr7
  have n_mr8 : (rr ra b (rup (ra b) 13 (some (b + 12)))) b 9 = some (b + 8) := by rw [rr_s, rup_n (by decide)]; exact mr8
  have n_mr9 : (rr ra b (rup (ra b) 13 (some (b + 12)))) b 10 = some (b + 9) := by rw [rr_s, rup_n (by decide)]; exact mr9
  have n_mr10 : (rr ra b (rup (ra b) 13 (some (b + 12)))) b 11 = some (b + 10) := by rw [rr_s, rup_n (by decide)]; exact mr10
  have n_mr11 : (rr ra b (rup (ra b) 13 (some (b + 12)))) b 12 = some (b + 11) := by rw [rr_s, rup_n (by decide)]; exact mr11
  have n_mr12 : (rr ra b (rup (ra b) 13 (some (b + 12)))) b 13 = some (b + 12) := by rw [rr_s, rup_s]
  have n_hz : ∀ x, b ≤ x → x ≤ b + 12 → (hr ha (b + 12) (fun _ => 0)) x = fun _ => 0 := fun x x0 x1 => by
    by_cases e : x = b + 12
    · rw [e, hr_s]
    · rw [hr_n e]; exact hz x x0 (by omega)
  have n_fr : ∀ x, x < b → (lyp la (b + 12) (10, 64)) x = lay x ∧ (rr ra b (rup (ra b) 13 (some (b + 12)))) x = r x ∧ (hr ha (b + 12) (fun _ => 0)) x = h x := fun x x0 => by rw [lyp_n (by omega), rr_n (by omega), hr_n (by omega)]; exact fr x x0
  revert n_ml0 n_ml1 n_ml2 n_ml3 n_ml4 n_ml5 n_ml6 n_ml7 n_ml8 n_ml9 n_ml10 n_ml11 n_ml12 n_mr1 n_mr2 n_mr3 n_mr4 n_mr5 n_mr6 n_mr7 n_mr8 n_mr9 n_mr10 n_mr11 n_mr12 n_hz n_fr
  clear ml0 ml1 ml2 ml3 ml4 ml5 ml6 ml7 ml8 ml9 ml10 ml11 mr1 mr2 mr3 mr4 mr5 mr6 mr7 mr8 mr9 mr10 mr11 hz fr
  generalize (lyp la (b + 12) (10, 64)) = la
  generalize (rr ra b (rup (ra b) 13 (some (b + 12)))) = ra
  generalize (hr ha (b + 12) (fun _ => 0)) = ha
  intro ml0 ml1 ml2 ml3 ml4 ml5 ml6 ml7 ml8 ml9 ml10 ml11 ml12 mr1 mr2 mr3 mr4 mr5 mr6 mr7 mr8 mr9 mr10 mr11 mr12 hz fr
  refine r_aload_0 (pc := 103) dX8_init_103 ?_
  refine r_bipush (pc := 104) dX8_init_104 (by decide) ?_
  refine r_newI (pc := 106) (n := 64) rfl w_aI dX8_init_106 (Nat.le_of_ble_eq_true rfl) (Nat.le_of_ble_eq_true rfl) (Nat.le_of_ble_eq_true rfl) ?_
  refine pf_X8_46 (pc := 108) rfl rfl (show (lyp la (b + 13) (10, 64)) b = (9, 0) from (lyp_n (by omega)).trans ml0) dX8_init_108 ?_
  show St E mX8_init 111 [some (.ref b), none, none, none] [] (13, 10257) (b + 14) (lyp la (b + 13) (10, 64)) (rr ra b (rup (ra b) 14 (some (b + 13)))) (hr ha (b + 13) (fun _ => 0))
  have n_ml0 : (lyp la (b + 13) (10, 64)) b = (9, 0) := (lyp_n (by omega)).trans ml0
  have n_ml1 : (lyp la (b + 13) (10, 64)) (b + 1) = (10, 200) := (lyp_n (by omega)).trans ml1
  have n_ml2 : (lyp la (b + 13) (10, 64)) (b + 2) = (10, 136) := (lyp_n (by omega)).trans ml2
  have n_ml3 : (lyp la (b + 13) (10, 64)) (b + 3) = (10, 680) := (lyp_n (by omega)).trans ml3
  have n_ml4 : (lyp la (b + 13) (10, 64)) (b + 4) = (10, 5) := (lyp_n (by omega)).trans ml4
  have n_ml5 : (lyp la (b + 13) (10, 64)) (b + 5) = (10, 136) := (lyp_n (by omega)).trans ml5
  have n_ml6 : (lyp la (b + 13) (10, 64)) (b + 6) = (10, 136) := (lyp_n (by omega)).trans ml6
  have n_ml7 : (lyp la (b + 13) (10, 64)) (b + 7) = (10, 8800) := (lyp_n (by omega)).trans ml7
  have n_ml8 : (lyp la (b + 13) (10, 64)) (b + 8) = (10, 22) := (lyp_n (by omega)).trans ml8
  have n_ml9 : (lyp la (b + 13) (10, 64)) (b + 9) = (10, 4) := (lyp_n (by omega)).trans ml9
  have n_ml10 : (lyp la (b + 13) (10, 64)) (b + 10) = (10, 4) := (lyp_n (by omega)).trans ml10
  have n_ml11 : (lyp la (b + 13) (10, 64)) (b + 11) = (10, 6) := (lyp_n (by omega)).trans ml11
  have n_ml12 : (lyp la (b + 13) (10, 64)) (b + 12) = (10, 64) := (lyp_n (by omega)).trans ml12
  have n_ml13 : (lyp la (b + 13) (10, 64)) (b + 13) = (10, 64) := lyp_s
  have n_mr1 : (rr ra b (rup (ra b) 14 (some (b + 13)))) b 1 = some (b + 1) := by rw [rr_s, rup_n (by decide)]; exact mr1
  have n_mr2 : (rr ra b (rup (ra b) 14 (some (b + 13)))) b 2 = some (b + 2) := by rw [rr_s, rup_n (by decide)]; exact mr2
  have n_mr3 : (rr ra b (rup (ra b) 14 (some (b + 13)))) b 3 = some (b + 3) := by rw [rr_s, rup_n (by decide)]; exact mr3
  have n_mr4 : (rr ra b (rup (ra b) 14 (some (b + 13)))) b 4 = some (b + 4) := by rw [rr_s, rup_n (by decide)]; exact mr4
  have n_mr5 : (rr ra b (rup (ra b) 14 (some (b + 13)))) b 6 = some (b + 5) := by rw [rr_s, rup_n (by decide)]; exact mr5
  have n_mr6 : (rr ra b (rup (ra b) 14 (some (b + 13)))) b 7 = some (b + 6) := by rw [rr_s, rup_n (by decide)]; exact mr6
  have n_mr7 : (rr ra b (rup (ra b) 14 (some (b + 13)))) b 8 = some (b + 7) := by rw [rr_s, rup_n (by decide)]; exact mr7
  have n_mr8 : (rr ra b (rup (ra b) 14 (some (b + 13)))) b 9 = some (b + 8) := by rw [rr_s, rup_n (by decide)]; exact mr8
  have n_mr9 : (rr ra b (rup (ra b) 14 (some (b + 13)))) b 10 = some (b + 9) := by rw [rr_s, rup_n (by decide)]; exact mr9
  have n_mr10 : (rr ra b (rup (ra b) 14 (some (b + 13)))) b 11 = some (b + 10) := by rw [rr_s, rup_n (by decide)]; exact mr10
  have n_mr11 : (rr ra b (rup (ra b) 14 (some (b + 13)))) b 12 = some (b + 11) := by rw [rr_s, rup_n (by decide)]; exact mr11
  have n_mr12 : (rr ra b (rup (ra b) 14 (some (b + 13)))) b 13 = some (b + 12) := by rw [rr_s, rup_n (by decide)]; exact mr12
  have n_mr13 : (rr ra b (rup (ra b) 14 (some (b + 13)))) b 14 = some (b + 13) := by rw [rr_s, rup_s]
  have n_hz : ∀ x, b ≤ x → x ≤ b + 13 → (hr ha (b + 13) (fun _ => 0)) x = fun _ => 0 := fun x x0 x1 => by
    by_cases e : x = b + 13
    · rw [e, hr_s]
    · rw [hr_n e]; exact hz x x0 (by omega)
  have n_fr : ∀ x, x < b → (lyp la (b + 13) (10, 64)) x = lay x ∧ (rr ra b (rup (ra b) 14 (some (b + 13)))) x = r x ∧ (hr ha (b + 13) (fun _ => 0)) x = h x := fun x x0 => by rw [lyp_n (by omega), rr_n (by omega), hr_n (by omega)]; exact fr x x0
  revert n_ml0 n_ml1 n_ml2 n_ml3 n_ml4 n_ml5 n_ml6 n_ml7 n_ml8 n_ml9 n_ml10 n_ml11 n_ml12 n_ml13 n_mr1 n_mr2 n_mr3 n_mr4 n_mr5 n_mr6 n_mr7 n_mr8 n_mr9 n_mr10 n_mr11 n_mr12 n_mr13 n_hz n_fr
  clear ml0 ml1 ml2 ml3 ml4 ml5 ml6 ml7 ml8 ml9 ml10 ml11 ml12 mr1 mr2 mr3 mr4 mr5 mr6 mr7 mr8 mr9 mr10 mr11 mr12 hz fr
  generalize (lyp la (b + 13) (10, 64)) = la
  generalize (rr ra b (rup (ra b) 14 (some (b + 13)))) = ra
  generalize (hr ha (b + 13) (fun _ => 0)) = ha
  intro ml0 ml1 ml2 ml3 ml4 ml5 ml6 ml7 ml8 ml9 ml10 ml11 ml12 ml13 mr1 mr2 mr3 mr4 mr5 mr6 mr7 mr8 mr9 mr10 mr11 mr12 mr13 hz fr
  refine r_aload_0 (pc := 111) dX8_init_111 ?_
  refine r_bipush (pc := 112) dX8_init_112 (by decide) ?_
  refine r_newI (pc := 114) (n := 16) rfl w_aI dX8_init_114 (Nat.le_of_ble_eq_true rfl) (Nat.le_of_ble_eq_true rfl) (Nat.le_of_ble_eq_true rfl) ?_
  refine pf_X8_49 (pc := 116) rfl rfl (show (lyp la (b + 14) (10, 16)) b = (9, 0) from (lyp_n (by omega)).trans ml0) dX8_init_116 ?_
  show St E mX8_init 119 [some (.ref b), none, none, none] [] (14, 10273) (b + 15) (lyp la (b + 14) (10, 16)) (rr ra b (rup (ra b) 15 (some (b + 14)))) (hr ha (b + 14) (fun _ => 0))
  have n_ml0 : (lyp la (b + 14) (10, 16)) b = (9, 0) := (lyp_n (by omega)).trans ml0
  have n_ml1 : (lyp la (b + 14) (10, 16)) (b + 1) = (10, 200) := (lyp_n (by omega)).trans ml1
  have n_ml2 : (lyp la (b + 14) (10, 16)) (b + 2) = (10, 136) := (lyp_n (by omega)).trans ml2
  have n_ml3 : (lyp la (b + 14) (10, 16)) (b + 3) = (10, 680) := (lyp_n (by omega)).trans ml3
  have n_ml4 : (lyp la (b + 14) (10, 16)) (b + 4) = (10, 5) := (lyp_n (by omega)).trans ml4
  have n_ml5 : (lyp la (b + 14) (10, 16)) (b + 5) = (10, 136) := (lyp_n (by omega)).trans ml5
  have n_ml6 : (lyp la (b + 14) (10, 16)) (b + 6) = (10, 136) := (lyp_n (by omega)).trans ml6
  have n_ml7 : (lyp la (b + 14) (10, 16)) (b + 7) = (10, 8800) := (lyp_n (by omega)).trans ml7
  have n_ml8 : (lyp la (b + 14) (10, 16)) (b + 8) = (10, 22) := (lyp_n (by omega)).trans ml8
  have n_ml9 : (lyp la (b + 14) (10, 16)) (b + 9) = (10, 4) := (lyp_n (by omega)).trans ml9
  have n_ml10 : (lyp la (b + 14) (10, 16)) (b + 10) = (10, 4) := (lyp_n (by omega)).trans ml10
  have n_ml11 : (lyp la (b + 14) (10, 16)) (b + 11) = (10, 6) := (lyp_n (by omega)).trans ml11
  have n_ml12 : (lyp la (b + 14) (10, 16)) (b + 12) = (10, 64) := (lyp_n (by omega)).trans ml12
  have n_ml13 : (lyp la (b + 14) (10, 16)) (b + 13) = (10, 64) := (lyp_n (by omega)).trans ml13
  have n_ml14 : (lyp la (b + 14) (10, 16)) (b + 14) = (10, 16) := lyp_s
  have n_mr1 : (rr ra b (rup (ra b) 15 (some (b + 14)))) b 1 = some (b + 1) := by rw [rr_s, rup_n (by decide)]; exact mr1
  have n_mr2 : (rr ra b (rup (ra b) 15 (some (b + 14)))) b 2 = some (b + 2) := by rw [rr_s, rup_n (by decide)]; exact mr2
  have n_mr3 : (rr ra b (rup (ra b) 15 (some (b + 14)))) b 3 = some (b + 3) := by rw [rr_s, rup_n (by decide)]; exact mr3
  have n_mr4 : (rr ra b (rup (ra b) 15 (some (b + 14)))) b 4 = some (b + 4) := by rw [rr_s, rup_n (by decide)]; exact mr4
  have n_mr5 : (rr ra b (rup (ra b) 15 (some (b + 14)))) b 6 = some (b + 5) := by rw [rr_s, rup_n (by decide)]; exact mr5
  have n_mr6 : (rr ra b (rup (ra b) 15 (some (b + 14)))) b 7 = some (b + 6) := by rw [rr_s, rup_n (by decide)]; exact mr6
  have n_mr7 : (rr ra b (rup (ra b) 15 (some (b + 14)))) b 8 = some (b + 7) := by rw [rr_s, rup_n (by decide)]; exact mr7
  have n_mr8 : (rr ra b (rup (ra b) 15 (some (b + 14)))) b 9 = some (b + 8) := by rw [rr_s, rup_n (by decide)]; exact mr8
  have n_mr9 : (rr ra b (rup (ra b) 15 (some (b + 14)))) b 10 = some (b + 9) := by rw [rr_s, rup_n (by decide)]; exact mr9
  have n_mr10 : (rr ra b (rup (ra b) 15 (some (b + 14)))) b 11 = some (b + 10) := by rw [rr_s, rup_n (by decide)]; exact mr10
  have n_mr11 : (rr ra b (rup (ra b) 15 (some (b + 14)))) b 12 = some (b + 11) := by rw [rr_s, rup_n (by decide)]; exact mr11
  have n_mr12 : (rr ra b (rup (ra b) 15 (some (b + 14)))) b 13 = some (b + 12) := by rw [rr_s, rup_n (by decide)]; exact mr12
  have n_mr13 : (rr ra b (rup (ra b) 15 (some (b + 14)))) b 14 = some (b + 13) := by rw [rr_s, rup_n (by decide)]; exact mr13
  have n_mr14 : (rr ra b (rup (ra b) 15 (some (b + 14)))) b 15 = some (b + 14) := by rw [rr_s, rup_s]
  have n_hz : ∀ x, b ≤ x → x ≤ b + 14 → (hr ha (b + 14) (fun _ => 0)) x = fun _ => 0 := fun x x0 x1 => by
    by_cases e : x = b + 14
    · rw [e, hr_s]
    · rw [hr_n e]; exact hz x x0 (by omega)
  have n_fr : ∀ x, x < b → (lyp la (b + 14) (10, 16)) x = lay x ∧ (rr ra b (rup (ra b) 15 (some (b + 14)))) x = r x ∧ (hr ha (b + 14) (fun _ => 0)) x = h x := fun x x0 => by rw [lyp_n (by omega), rr_n (by omega), hr_n (by omega)]; exact fr x x0
  revert n_ml0 n_ml1 n_ml2 n_ml3 n_ml4 n_ml5 n_ml6 n_ml7 n_ml8 n_ml9 n_ml10 n_ml11 n_ml12 n_ml13 n_ml14 n_mr1 n_mr2 n_mr3 n_mr4 n_mr5 n_mr6 n_mr7 n_mr8 n_mr9 n_mr10 n_mr11 n_mr12 n_mr13 n_mr14 n_hz n_fr
  clear ml0 ml1 ml2 ml3 ml4 ml5 ml6 ml7 ml8 ml9 ml10 ml11 ml12 ml13 mr1 mr2 mr3 mr4 mr5 mr6 mr7 mr8 mr9 mr10 mr11 mr12 mr13 hz fr
  generalize (lyp la (b + 14) (10, 16)) = la
  generalize (rr ra b (rup (ra b) 15 (some (b + 14)))) = ra
  generalize (hr ha (b + 14) (fun _ => 0)) = ha
  intro ml0 ml1 ml2 ml3 ml4 ml5 ml6 ml7 ml8 ml9 ml10 ml11 ml12 ml13 ml14 mr1 mr2 mr3 mr4 mr5 mr6 mr7 mr8 mr9 mr10 mr11 mr12 mr13 mr14 hz fr
  exact K la ra ha ml0 ml1 ml2 ml3 ml4 ml5 ml6 ml7 ml8 ml9 ml10 ml11 ml12 ml13 ml14 mr1 mr2 mr3 mr4 mr5 mr6 mr7 mr8 mr9 mr10 mr11 mr12 mr13 mr14 hz fr
set_option maxHeartbeats 4000000 in
set_option maxRecDepth 20000 in
theorem X8_init_A16 {E : EnT} {lay : LyT} {r : RfT} {h : HpT} {b : Nat} (la : LyT) (ra : RfT) (ha : HpT) (ml0 : la b = (9, 0)) (ml1 : la (b + 1) = (10, 200)) (ml2 : la (b + 2) = (10, 136)) (ml3 : la (b + 3) = (10, 680)) (ml4 : la (b + 4) = (10, 5)) (ml5 : la (b + 5) = (10, 136)) (ml6 : la (b + 6) = (10, 136)) (ml7 : la (b + 7) = (10, 8800)) (ml8 : la (b + 8) = (10, 22)) (ml9 : la (b + 9) = (10, 4)) (ml10 : la (b + 10) = (10, 4)) (ml11 : la (b + 11) = (10, 6)) (ml12 : la (b + 12) = (10, 64)) (ml13 : la (b + 13) = (10, 64)) (ml14 : la (b + 14) = (10, 16)) (mr1 : ra b 1 = some (b + 1)) (mr2 : ra b 2 = some (b + 2)) (mr3 : ra b 3 = some (b + 3)) (mr4 : ra b 4 = some (b + 4)) (mr5 : ra b 6 = some (b + 5)) (mr6 : ra b 7 = some (b + 6)) (mr7 : ra b 8 = some (b + 7)) (mr8 : ra b 9 = some (b + 8)) (mr9 : ra b 10 = some (b + 9)) (mr10 : ra b 11 = some (b + 10)) (mr11 : ra b 12 = some (b + 11)) (mr12 : ra b 13 = some (b + 12)) (mr13 : ra b 14 = some (b + 13)) (mr14 : ra b 15 = some (b + 14)) (hz : ∀ x, b ≤ x → x ≤ b + 14 → ha x = fun _ => 0) (fr : ∀ x, x < b → la x = lay x ∧ ra x = r x ∧ ha x = h x) (K : ∀ (la : LyT) (ra : RfT) (ha : HpT), (la b = (9, 0)) → (la (b + 1) = (10, 200)) → (la (b + 2) = (10, 136)) → (la (b + 3) = (10, 680)) → (la (b + 4) = (10, 5)) → (la (b + 5) = (10, 136)) → (la (b + 6) = (10, 136)) → (la (b + 7) = (10, 8800)) → (la (b + 8) = (10, 22)) → (la (b + 9) = (10, 4)) → (la (b + 10) = (10, 4)) → (la (b + 11) = (10, 6)) → (la (b + 12) = (10, 64)) → (la (b + 13) = (10, 64)) → (la (b + 14) = (10, 16)) → (la (b + 15) = (10, 16)) → (la (b + 16) = (10, 16)) → (ra b 1 = some (b + 1)) → (ra b 2 = some (b + 2)) → (ra b 3 = some (b + 3)) → (ra b 4 = some (b + 4)) → (ra b 6 = some (b + 5)) → (ra b 7 = some (b + 6)) → (ra b 8 = some (b + 7)) → (ra b 9 = some (b + 8)) → (ra b 10 = some (b + 9)) → (ra b 11 = some (b + 10)) → (ra b 12 = some (b + 11)) → (ra b 13 = some (b + 12)) → (ra b 14 = some (b + 13)) → (ra b 15 = some (b + 14)) → (ra b 16 = some (b + 15)) → (ra b 18 = some (b + 16)) → (∀ x, b ≤ x → x ≤ b + 16 → ha x = fun _ => 0) → (∀ x, x < b → la x = lay x ∧ ra x = r x ∧ ha x = h x) → St E mX8_init 135 [some (.ref b), none, none, none] [] (16, 10305) (b + 17) la ra ha) : St E mX8_init 119 [some (.ref b), none, none, none] [] (14, 10273) (b + 15) la ra ha := by
  refine r_aload_0 (pc := 119) dX8_init_119 ?_
  refine r_bipush (pc := 120) dX8_init_120 (by decide) ?_
  refine r_newI (pc := 122) (n := 16) rfl w_aI dX8_init_122 (Nat.le_of_ble_eq_true rfl) (Nat.le_of_ble_eq_true rfl) (Nat.le_of_ble_eq_true rfl) ?_
  refine pf_X8_52 (pc := 124) rfl rfl (show (lyp la (b + 15) (10, 16)) b = (9, 0) from (lyp_n (by omega)).trans ml0) dX8_init_124 ?_
  show St E mX8_init 127 [some (.ref b), none, none, none] [] (15, 10289) (b + 16) (lyp la (b + 15) (10, 16)) (rr ra b (rup (ra b) 16 (some (b + 15)))) (hr ha (b + 15) (fun _ => 0))
  have n_ml0 : (lyp la (b + 15) (10, 16)) b = (9, 0) := (lyp_n (by omega)).trans ml0
  have n_ml1 : (lyp la (b + 15) (10, 16)) (b + 1) = (10, 200) := (lyp_n (by omega)).trans ml1
  have n_ml2 : (lyp la (b + 15) (10, 16)) (b + 2) = (10, 136) := (lyp_n (by omega)).trans ml2
  have n_ml3 : (lyp la (b + 15) (10, 16)) (b + 3) = (10, 680) := (lyp_n (by omega)).trans ml3
  have n_ml4 : (lyp la (b + 15) (10, 16)) (b + 4) = (10, 5) := (lyp_n (by omega)).trans ml4
  have n_ml5 : (lyp la (b + 15) (10, 16)) (b + 5) = (10, 136) := (lyp_n (by omega)).trans ml5
  have n_ml6 : (lyp la (b + 15) (10, 16)) (b + 6) = (10, 136) := (lyp_n (by omega)).trans ml6
  have n_ml7 : (lyp la (b + 15) (10, 16)) (b + 7) = (10, 8800) := (lyp_n (by omega)).trans ml7
  have n_ml8 : (lyp la (b + 15) (10, 16)) (b + 8) = (10, 22) := (lyp_n (by omega)).trans ml8
  have n_ml9 : (lyp la (b + 15) (10, 16)) (b + 9) = (10, 4) := (lyp_n (by omega)).trans ml9
  have n_ml10 : (lyp la (b + 15) (10, 16)) (b + 10) = (10, 4) := (lyp_n (by omega)).trans ml10
  have n_ml11 : (lyp la (b + 15) (10, 16)) (b + 11) = (10, 6) := (lyp_n (by omega)).trans ml11
  have n_ml12 : (lyp la (b + 15) (10, 16)) (b + 12) = (10, 64) := (lyp_n (by omega)).trans ml12
  have n_ml13 : (lyp la (b + 15) (10, 16)) (b + 13) = (10, 64) := (lyp_n (by omega)).trans ml13
  have n_ml14 : (lyp la (b + 15) (10, 16)) (b + 14) = (10, 16) := (lyp_n (by omega)).trans ml14
  have n_ml15 : (lyp la (b + 15) (10, 16)) (b + 15) = (10, 16) := lyp_s
  have n_mr1 : (rr ra b (rup (ra b) 16 (some (b + 15)))) b 1 = some (b + 1) := by rw [rr_s, rup_n (by decide)]; exact mr1
  have n_mr2 : (rr ra b (rup (ra b) 16 (some (b + 15)))) b 2 = some (b + 2) := by rw [rr_s, rup_n (by decide)]; exact mr2
  have n_mr3 : (rr ra b (rup (ra b) 16 (some (b + 15)))) b 3 = some (b + 3) := by rw [rr_s, rup_n (by decide)]; exact mr3
  have n_mr4 : (rr ra b (rup (ra b) 16 (some (b + 15)))) b 4 = some (b + 4) := by rw [rr_s, rup_n (by decide)]; exact mr4
  have n_mr5 : (rr ra b (rup (ra b) 16 (some (b + 15)))) b 6 = some (b + 5) := by rw [rr_s, rup_n (by decide)]; exact mr5
  have n_mr6 : (rr ra b (rup (ra b) 16 (some (b + 15)))) b 7 = some (b + 6) := by rw [rr_s, rup_n (by decide)]; exact mr6
  have n_mr7 : (rr ra b (rup (ra b) 16 (some (b + 15)))) b 8 = some (b + 7) := by rw [rr_s, rup_n (by decide)]; exact mr7
  have n_mr8 : (rr ra b (rup (ra b) 16 (some (b + 15)))) b 9 = some (b + 8) := by rw [rr_s, rup_n (by decide)]; exact mr8
  have n_mr9 : (rr ra b (rup (ra b) 16 (some (b + 15)))) b 10 = some (b + 9) := by rw [rr_s, rup_n (by decide)]; exact mr9
  have n_mr10 : (rr ra b (rup (ra b) 16 (some (b + 15)))) b 11 = some (b + 10) := by rw [rr_s, rup_n (by decide)]; exact mr10
  have n_mr11 : (rr ra b (rup (ra b) 16 (some (b + 15)))) b 12 = some (b + 11) := by rw [rr_s, rup_n (by decide)]; exact mr11
  have n_mr12 : (rr ra b (rup (ra b) 16 (some (b + 15)))) b 13 = some (b + 12) := by rw [rr_s, rup_n (by decide)]; exact mr12
  have n_mr13 : (rr ra b (rup (ra b) 16 (some (b + 15)))) b 14 = some (b + 13) := by rw [rr_s, rup_n (by decide)]; exact mr13
  have n_mr14 : (rr ra b (rup (ra b) 16 (some (b + 15)))) b 15 = some (b + 14) := by rw [rr_s, rup_n (by decide)]; exact mr14
  have n_mr15 : (rr ra b (rup (ra b) 16 (some (b + 15)))) b 16 = some (b + 15) := by rw [rr_s, rup_s]
  have n_hz : ∀ x, b ≤ x → x ≤ b + 15 → (hr ha (b + 15) (fun _ => 0)) x = fun _ => 0 := fun x x0 x1 => by
    by_cases e : x = b + 15
    · rw [e, hr_s]
    · rw [hr_n e]; exact hz x x0 (by omega)
  have n_fr : ∀ x, x < b → (lyp la (b + 15) (10, 16)) x = lay x ∧ (rr ra b (rup (ra b) 16 (some (b + 15)))) x = r x ∧ (hr ha (b + 15) (fun _ => 0)) x = h x := fun x x0 => by rw [lyp_n (by omega), rr_n (by omega), hr_n (by omega)]; exact fr x x0
  revert n_ml0 n_ml1 n_ml2 n_ml3 n_ml4 n_ml5 n_ml6 n_ml7 n_ml8 n_ml9 n_ml10 n_ml11 n_ml12 n_ml13 n_ml14 n_ml15 n_mr1 n_mr2 n_mr3 n_mr4 n_mr5 n_mr6 n_mr7 n_mr8 n_mr9 n_mr10 n_mr11 n_mr12 n_mr13 n_mr14 n_mr15 n_hz n_fr
  clear ml0 ml1 ml2 ml3 ml4 ml5 ml6 ml7 ml8 ml9 ml10 ml11 ml12 ml13 ml14 mr1 mr2 mr3 mr4 mr5 mr6 mr7 mr8 mr9 mr10 mr11 mr12 mr13 mr14 hz fr
  generalize (lyp la (b + 15) (10, 16)) = la
  generalize (rr ra b (rup (ra b) 16 (some (b + 15)))) = ra
  generalize (hr ha (b + 15) (fun _ => 0)) = ha
  intro ml0 ml1 ml2 ml3 ml4 ml5 ml6 ml7 ml8 ml9 ml10 ml11 ml12 ml13 ml14 ml15 mr1 mr2 mr3 mr4 mr5 mr6 mr7 mr8 mr9 mr10 mr11 mr12 mr13 mr14 mr15 hz fr
  refine r_aload_0 (pc := 127) dX8_init_127 ?_
  refine r_bipush (pc := 128) dX8_init_128 (by decide) ?_
  refine r_newI (pc := 130) (n := 16) rfl w_aI dX8_init_130 (Nat.le_of_ble_eq_true rfl) (Nat.le_of_ble_eq_true rfl) (Nat.le_of_ble_eq_true rfl) ?_
  refine pf_X8_55 (pc := 132) rfl rfl (show (lyp la (b + 16) (10, 16)) b = (9, 0) from (lyp_n (by omega)).trans ml0) dX8_init_132 ?_
  show St E mX8_init 135 [some (.ref b), none, none, none] [] (16, 10305) (b + 17) (lyp la (b + 16) (10, 16)) (rr ra b (rup (ra b) 18 (some (b + 16)))) (hr ha (b + 16) (fun _ => 0))
  have n_ml0 : (lyp la (b + 16) (10, 16)) b = (9, 0) := (lyp_n (by omega)).trans ml0
  have n_ml1 : (lyp la (b + 16) (10, 16)) (b + 1) = (10, 200) := (lyp_n (by omega)).trans ml1
  have n_ml2 : (lyp la (b + 16) (10, 16)) (b + 2) = (10, 136) := (lyp_n (by omega)).trans ml2
  have n_ml3 : (lyp la (b + 16) (10, 16)) (b + 3) = (10, 680) := (lyp_n (by omega)).trans ml3
  have n_ml4 : (lyp la (b + 16) (10, 16)) (b + 4) = (10, 5) := (lyp_n (by omega)).trans ml4
  have n_ml5 : (lyp la (b + 16) (10, 16)) (b + 5) = (10, 136) := (lyp_n (by omega)).trans ml5
  have n_ml6 : (lyp la (b + 16) (10, 16)) (b + 6) = (10, 136) := (lyp_n (by omega)).trans ml6
  have n_ml7 : (lyp la (b + 16) (10, 16)) (b + 7) = (10, 8800) := (lyp_n (by omega)).trans ml7
  have n_ml8 : (lyp la (b + 16) (10, 16)) (b + 8) = (10, 22) := (lyp_n (by omega)).trans ml8
  have n_ml9 : (lyp la (b + 16) (10, 16)) (b + 9) = (10, 4) := (lyp_n (by omega)).trans ml9
  have n_ml10 : (lyp la (b + 16) (10, 16)) (b + 10) = (10, 4) := (lyp_n (by omega)).trans ml10
  have n_ml11 : (lyp la (b + 16) (10, 16)) (b + 11) = (10, 6) := (lyp_n (by omega)).trans ml11
  have n_ml12 : (lyp la (b + 16) (10, 16)) (b + 12) = (10, 64) := (lyp_n (by omega)).trans ml12
  have n_ml13 : (lyp la (b + 16) (10, 16)) (b + 13) = (10, 64) := (lyp_n (by omega)).trans ml13
  have n_ml14 : (lyp la (b + 16) (10, 16)) (b + 14) = (10, 16) := (lyp_n (by omega)).trans ml14
  have n_ml15 : (lyp la (b + 16) (10, 16)) (b + 15) = (10, 16) := (lyp_n (by omega)).trans ml15
  have n_ml16 : (lyp la (b + 16) (10, 16)) (b + 16) = (10, 16) := lyp_s
  have n_mr1 : (rr ra b (rup (ra b) 18 (some (b + 16)))) b 1 = some (b + 1) := by rw [rr_s, rup_n (by decide)]; exact mr1
  have n_mr2 : (rr ra b (rup (ra b) 18 (some (b + 16)))) b 2 = some (b + 2) := by rw [rr_s, rup_n (by decide)]; exact mr2
  have n_mr3 : (rr ra b (rup (ra b) 18 (some (b + 16)))) b 3 = some (b + 3) := by rw [rr_s, rup_n (by decide)]; exact mr3
  have n_mr4 : (rr ra b (rup (ra b) 18 (some (b + 16)))) b 4 = some (b + 4) := by rw [rr_s, rup_n (by decide)]; exact mr4
  have n_mr5 : (rr ra b (rup (ra b) 18 (some (b + 16)))) b 6 = some (b + 5) := by rw [rr_s, rup_n (by decide)]; exact mr5
  have n_mr6 : (rr ra b (rup (ra b) 18 (some (b + 16)))) b 7 = some (b + 6) := by rw [rr_s, rup_n (by decide)]; exact mr6
  have n_mr7 : (rr ra b (rup (ra b) 18 (some (b + 16)))) b 8 = some (b + 7) := by rw [rr_s, rup_n (by decide)]; exact mr7
  have n_mr8 : (rr ra b (rup (ra b) 18 (some (b + 16)))) b 9 = some (b + 8) := by rw [rr_s, rup_n (by decide)]; exact mr8
  have n_mr9 : (rr ra b (rup (ra b) 18 (some (b + 16)))) b 10 = some (b + 9) := by rw [rr_s, rup_n (by decide)]; exact mr9
  have n_mr10 : (rr ra b (rup (ra b) 18 (some (b + 16)))) b 11 = some (b + 10) := by rw [rr_s, rup_n (by decide)]; exact mr10
  have n_mr11 : (rr ra b (rup (ra b) 18 (some (b + 16)))) b 12 = some (b + 11) := by rw [rr_s, rup_n (by decide)]; exact mr11
  have n_mr12 : (rr ra b (rup (ra b) 18 (some (b + 16)))) b 13 = some (b + 12) := by rw [rr_s, rup_n (by decide)]; exact mr12
  have n_mr13 : (rr ra b (rup (ra b) 18 (some (b + 16)))) b 14 = some (b + 13) := by rw [rr_s, rup_n (by decide)]; exact mr13
  have n_mr14 : (rr ra b (rup (ra b) 18 (some (b + 16)))) b 15 = some (b + 14) := by rw [rr_s, rup_n (by decide)]; exact mr14
  have n_mr15 : (rr ra b (rup (ra b) 18 (some (b + 16)))) b 16 = some (b + 15) := by rw [rr_s, rup_n (by decide)]; exact mr15
  have n_mr16 : (rr ra b (rup (ra b) 18 (some (b + 16)))) b 18 = some (b + 16) := by rw [rr_s, rup_s]
  have n_hz : ∀ x, b ≤ x → x ≤ b + 16 → (hr ha (b + 16) (fun _ => 0)) x = fun _ => 0 := fun x x0 x1 => by
    by_cases e : x = b + 16
    · rw [e, hr_s]
    · rw [hr_n e]; exact hz x x0 (by omega)
  have n_fr : ∀ x, x < b → (lyp la (b + 16) (10, 16)) x = lay x ∧ (rr ra b (rup (ra b) 18 (some (b + 16)))) x = r x ∧ (hr ha (b + 16) (fun _ => 0)) x = h x := fun x x0 => by rw [lyp_n (by omega), rr_n (by omega), hr_n (by omega)]; exact fr x x0
  revert n_ml0 n_ml1 n_ml2 n_ml3 n_ml4 n_ml5 n_ml6 n_ml7 n_ml8 n_ml9 n_ml10 n_ml11 n_ml12 n_ml13 n_ml14 n_ml15 n_ml16 n_mr1 n_mr2 n_mr3 n_mr4 n_mr5 n_mr6 n_mr7 n_mr8 n_mr9 n_mr10 n_mr11 n_mr12 n_mr13 n_mr14 n_mr15 n_mr16 n_hz n_fr
  clear ml0 ml1 ml2 ml3 ml4 ml5 ml6 ml7 ml8 ml9 ml10 ml11 ml12 ml13 ml14 ml15 mr1 mr2 mr3 mr4 mr5 mr6 mr7 mr8 mr9 mr10 mr11 mr12 mr13 mr14 mr15 hz fr
  generalize (lyp la (b + 16) (10, 16)) = la
  generalize (rr ra b (rup (ra b) 18 (some (b + 16)))) = ra
  generalize (hr ha (b + 16) (fun _ => 0)) = ha
  intro ml0 ml1 ml2 ml3 ml4 ml5 ml6 ml7 ml8 ml9 ml10 ml11 ml12 ml13 ml14 ml15 ml16 mr1 mr2 mr3 mr4 mr5 mr6 mr7 mr8 mr9 mr10 mr11 mr12 mr13 mr14 mr15 mr16 hz fr
  exact K la ra ha ml0 ml1 ml2 ml3 ml4 ml5 ml6 ml7 ml8 ml9 ml10 ml11 ml12 ml13 ml14 ml15 ml16 mr1 mr2 mr3 mr4 mr5 mr6 mr7 mr8 mr9 mr10 mr11 mr12 mr13 mr14 mr15 mr16 hz fr
set_option maxHeartbeats 4000000 in
set_option maxRecDepth 20000 in
theorem X8_init_A18 {E : EnT} {lay : LyT} {r : RfT} {h : HpT} {b : Nat} (la : LyT) (ra : RfT) (ha : HpT) (ml0 : la b = (9, 0)) (ml1 : la (b + 1) = (10, 200)) (ml2 : la (b + 2) = (10, 136)) (ml3 : la (b + 3) = (10, 680)) (ml4 : la (b + 4) = (10, 5)) (ml5 : la (b + 5) = (10, 136)) (ml6 : la (b + 6) = (10, 136)) (ml7 : la (b + 7) = (10, 8800)) (ml8 : la (b + 8) = (10, 22)) (ml9 : la (b + 9) = (10, 4)) (ml10 : la (b + 10) = (10, 4)) (ml11 : la (b + 11) = (10, 6)) (ml12 : la (b + 12) = (10, 64)) (ml13 : la (b + 13) = (10, 64)) (ml14 : la (b + 14) = (10, 16)) (ml15 : la (b + 15) = (10, 16)) (ml16 : la (b + 16) = (10, 16)) (mr1 : ra b 1 = some (b + 1)) (mr2 : ra b 2 = some (b + 2)) (mr3 : ra b 3 = some (b + 3)) (mr4 : ra b 4 = some (b + 4)) (mr5 : ra b 6 = some (b + 5)) (mr6 : ra b 7 = some (b + 6)) (mr7 : ra b 8 = some (b + 7)) (mr8 : ra b 9 = some (b + 8)) (mr9 : ra b 10 = some (b + 9)) (mr10 : ra b 11 = some (b + 10)) (mr11 : ra b 12 = some (b + 11)) (mr12 : ra b 13 = some (b + 12)) (mr13 : ra b 14 = some (b + 13)) (mr14 : ra b 15 = some (b + 14)) (mr15 : ra b 16 = some (b + 15)) (mr16 : ra b 18 = some (b + 16)) (hz : ∀ x, b ≤ x → x ≤ b + 16 → ha x = fun _ => 0) (fr : ∀ x, x < b → la x = lay x ∧ ra x = r x ∧ ha x = h x) (K : ∀ (la : LyT) (ra : RfT) (ha : HpT), (la b = (9, 0)) → (la (b + 1) = (10, 200)) → (la (b + 2) = (10, 136)) → (la (b + 3) = (10, 680)) → (la (b + 4) = (10, 5)) → (la (b + 5) = (10, 136)) → (la (b + 6) = (10, 136)) → (la (b + 7) = (10, 8800)) → (la (b + 8) = (10, 22)) → (la (b + 9) = (10, 4)) → (la (b + 10) = (10, 4)) → (la (b + 11) = (10, 6)) → (la (b + 12) = (10, 64)) → (la (b + 13) = (10, 64)) → (la (b + 14) = (10, 16)) → (la (b + 15) = (10, 16)) → (la (b + 16) = (10, 16)) → (la (b + 17) = (10, 18)) → (la (b + 18) = (10, 5)) → (ra b 1 = some (b + 1)) → (ra b 2 = some (b + 2)) → (ra b 3 = some (b + 3)) → (ra b 4 = some (b + 4)) → (ra b 6 = some (b + 5)) → (ra b 7 = some (b + 6)) → (ra b 8 = some (b + 7)) → (ra b 9 = some (b + 8)) → (ra b 10 = some (b + 9)) → (ra b 11 = some (b + 10)) → (ra b 12 = some (b + 11)) → (ra b 13 = some (b + 12)) → (ra b 14 = some (b + 13)) → (ra b 15 = some (b + 14)) → (ra b 16 = some (b + 15)) → (ra b 18 = some (b + 16)) → (ra b 20 = some (b + 17)) → (ra b 21 = some (b + 18)) → (∀ x, b ≤ x → x ≤ b + 17 → ha x = fun _ => 0) → (ha (b + 18) = (up (up (up (up (up (fun _ => 0) 0 1) 1 1) 2 2) 3 2) 4 3)) → (∀ x, x < b → la x = lay x ∧ ra x = r x ∧ ha x = h x) → St E mX8_init 170 [some (.ref b), none, none, none] [] (18, 10328) (b + 19) la ra ha) : St E mX8_init 135 [some (.ref b), none, none, none] [] (16, 10305) (b + 17) la ra ha := by
  refine r_aload_0 (pc := 135) dX8_init_135 ?_
  refine r_bipush (pc := 136) dX8_init_136 (by decide) ?_
  refine r_newI (pc := 138) (n := 18) rfl w_aI dX8_init_138 (Nat.le_of_ble_eq_true rfl) (Nat.le_of_ble_eq_true rfl) (Nat.le_of_ble_eq_true rfl) ?_
  refine pf_X8_58 (pc := 140) rfl rfl (show (lyp la (b + 17) (10, 18)) b = (9, 0) from (lyp_n (by omega)).trans ml0) dX8_init_140 ?_
  show St E mX8_init 143 [some (.ref b), none, none, none] [] (17, 10323) (b + 18) (lyp la (b + 17) (10, 18)) (rr ra b (rup (ra b) 20 (some (b + 17)))) (hr ha (b + 17) (fun _ => 0))
  have n_ml0 : (lyp la (b + 17) (10, 18)) b = (9, 0) := (lyp_n (by omega)).trans ml0
  have n_ml1 : (lyp la (b + 17) (10, 18)) (b + 1) = (10, 200) := (lyp_n (by omega)).trans ml1
  have n_ml2 : (lyp la (b + 17) (10, 18)) (b + 2) = (10, 136) := (lyp_n (by omega)).trans ml2
  have n_ml3 : (lyp la (b + 17) (10, 18)) (b + 3) = (10, 680) := (lyp_n (by omega)).trans ml3
  have n_ml4 : (lyp la (b + 17) (10, 18)) (b + 4) = (10, 5) := (lyp_n (by omega)).trans ml4
  have n_ml5 : (lyp la (b + 17) (10, 18)) (b + 5) = (10, 136) := (lyp_n (by omega)).trans ml5
  have n_ml6 : (lyp la (b + 17) (10, 18)) (b + 6) = (10, 136) := (lyp_n (by omega)).trans ml6
  have n_ml7 : (lyp la (b + 17) (10, 18)) (b + 7) = (10, 8800) := (lyp_n (by omega)).trans ml7
  have n_ml8 : (lyp la (b + 17) (10, 18)) (b + 8) = (10, 22) := (lyp_n (by omega)).trans ml8
  have n_ml9 : (lyp la (b + 17) (10, 18)) (b + 9) = (10, 4) := (lyp_n (by omega)).trans ml9
  have n_ml10 : (lyp la (b + 17) (10, 18)) (b + 10) = (10, 4) := (lyp_n (by omega)).trans ml10
  have n_ml11 : (lyp la (b + 17) (10, 18)) (b + 11) = (10, 6) := (lyp_n (by omega)).trans ml11
  have n_ml12 : (lyp la (b + 17) (10, 18)) (b + 12) = (10, 64) := (lyp_n (by omega)).trans ml12
  have n_ml13 : (lyp la (b + 17) (10, 18)) (b + 13) = (10, 64) := (lyp_n (by omega)).trans ml13
  have n_ml14 : (lyp la (b + 17) (10, 18)) (b + 14) = (10, 16) := (lyp_n (by omega)).trans ml14
  have n_ml15 : (lyp la (b + 17) (10, 18)) (b + 15) = (10, 16) := (lyp_n (by omega)).trans ml15
  have n_ml16 : (lyp la (b + 17) (10, 18)) (b + 16) = (10, 16) := (lyp_n (by omega)).trans ml16
  have n_ml17 : (lyp la (b + 17) (10, 18)) (b + 17) = (10, 18) := lyp_s
  have n_mr1 : (rr ra b (rup (ra b) 20 (some (b + 17)))) b 1 = some (b + 1) := by rw [rr_s, rup_n (by decide)]; exact mr1
  have n_mr2 : (rr ra b (rup (ra b) 20 (some (b + 17)))) b 2 = some (b + 2) := by rw [rr_s, rup_n (by decide)]; exact mr2
  have n_mr3 : (rr ra b (rup (ra b) 20 (some (b + 17)))) b 3 = some (b + 3) := by rw [rr_s, rup_n (by decide)]; exact mr3
  have n_mr4 : (rr ra b (rup (ra b) 20 (some (b + 17)))) b 4 = some (b + 4) := by rw [rr_s, rup_n (by decide)]; exact mr4
  have n_mr5 : (rr ra b (rup (ra b) 20 (some (b + 17)))) b 6 = some (b + 5) := by rw [rr_s, rup_n (by decide)]; exact mr5
  have n_mr6 : (rr ra b (rup (ra b) 20 (some (b + 17)))) b 7 = some (b + 6) := by rw [rr_s, rup_n (by decide)]; exact mr6
  have n_mr7 : (rr ra b (rup (ra b) 20 (some (b + 17)))) b 8 = some (b + 7) := by rw [rr_s, rup_n (by decide)]; exact mr7
  have n_mr8 : (rr ra b (rup (ra b) 20 (some (b + 17)))) b 9 = some (b + 8) := by rw [rr_s, rup_n (by decide)]; exact mr8
  have n_mr9 : (rr ra b (rup (ra b) 20 (some (b + 17)))) b 10 = some (b + 9) := by rw [rr_s, rup_n (by decide)]; exact mr9
  have n_mr10 : (rr ra b (rup (ra b) 20 (some (b + 17)))) b 11 = some (b + 10) := by rw [rr_s, rup_n (by decide)]; exact mr10
  have n_mr11 : (rr ra b (rup (ra b) 20 (some (b + 17)))) b 12 = some (b + 11) := by rw [rr_s, rup_n (by decide)]; exact mr11
  have n_mr12 : (rr ra b (rup (ra b) 20 (some (b + 17)))) b 13 = some (b + 12) := by rw [rr_s, rup_n (by decide)]; exact mr12
  have n_mr13 : (rr ra b (rup (ra b) 20 (some (b + 17)))) b 14 = some (b + 13) := by rw [rr_s, rup_n (by decide)]; exact mr13
  have n_mr14 : (rr ra b (rup (ra b) 20 (some (b + 17)))) b 15 = some (b + 14) := by rw [rr_s, rup_n (by decide)]; exact mr14
  have n_mr15 : (rr ra b (rup (ra b) 20 (some (b + 17)))) b 16 = some (b + 15) := by rw [rr_s, rup_n (by decide)]; exact mr15
  have n_mr16 : (rr ra b (rup (ra b) 20 (some (b + 17)))) b 18 = some (b + 16) := by rw [rr_s, rup_n (by decide)]; exact mr16
  have n_mr17 : (rr ra b (rup (ra b) 20 (some (b + 17)))) b 20 = some (b + 17) := by rw [rr_s, rup_s]
  have n_hz : ∀ x, b ≤ x → x ≤ b + 17 → (hr ha (b + 17) (fun _ => 0)) x = fun _ => 0 := fun x x0 x1 => by
    by_cases e : x = b + 17
    · rw [e, hr_s]
    · rw [hr_n e]; exact hz x x0 (by omega)
  have n_fr : ∀ x, x < b → (lyp la (b + 17) (10, 18)) x = lay x ∧ (rr ra b (rup (ra b) 20 (some (b + 17)))) x = r x ∧ (hr ha (b + 17) (fun _ => 0)) x = h x := fun x x0 => by rw [lyp_n (by omega), rr_n (by omega), hr_n (by omega)]; exact fr x x0
  revert n_ml0 n_ml1 n_ml2 n_ml3 n_ml4 n_ml5 n_ml6 n_ml7 n_ml8 n_ml9 n_ml10 n_ml11 n_ml12 n_ml13 n_ml14 n_ml15 n_ml16 n_ml17 n_mr1 n_mr2 n_mr3 n_mr4 n_mr5 n_mr6 n_mr7 n_mr8 n_mr9 n_mr10 n_mr11 n_mr12 n_mr13 n_mr14 n_mr15 n_mr16 n_mr17 n_hz n_fr
  clear ml0 ml1 ml2 ml3 ml4 ml5 ml6 ml7 ml8 ml9 ml10 ml11 ml12 ml13 ml14 ml15 ml16 mr1 mr2 mr3 mr4 mr5 mr6 mr7 mr8 mr9 mr10 mr11 mr12 mr13 mr14 mr15 mr16 hz fr
  generalize (lyp la (b + 17) (10, 18)) = la
  generalize (rr ra b (rup (ra b) 20 (some (b + 17)))) = ra
  generalize (hr ha (b + 17) (fun _ => 0)) = ha
  intro ml0 ml1 ml2 ml3 ml4 ml5 ml6 ml7 ml8 ml9 ml10 ml11 ml12 ml13 ml14 ml15 ml16 ml17 mr1 mr2 mr3 mr4 mr5 mr6 mr7 mr8 mr9 mr10 mr11 mr12 mr13 mr14 mr15 mr16 mr17 hz fr
  refine r_aload_0 (pc := 143) dX8_init_143 ?_
  refine r_iconst (pc := 144) dX8_init_144 ?_
  refine r_newI (pc := 145) (n := 5) rfl w_aI dX8_init_145 (Nat.le_of_ble_eq_true rfl) (Nat.le_of_ble_eq_true rfl) (Nat.le_of_ble_eq_true rfl) ?_
  refine r_dupA (pc := 147) dX8_init_147 ?_
  refine r_iconst (pc := 148) dX8_init_148 ?_
  refine r_iconst (pc := 149) dX8_init_149 ?_
  refine r_iastE (pc := 150) lyp_s hr_s dX8_init_150 (by decide) (by decide) (by decide) ?_
  rw [hr_hr]
  refine r_dupA (pc := 151) dX8_init_151 ?_
  refine r_iconst (pc := 152) dX8_init_152 ?_
  refine r_iconst (pc := 153) dX8_init_153 ?_
  refine r_iastE (pc := 154) lyp_s hr_s dX8_init_154 (by decide) (by decide) (by decide) ?_
  rw [hr_hr]
  refine r_dupA (pc := 155) dX8_init_155 ?_
  refine r_iconst (pc := 156) dX8_init_156 ?_
  refine r_iconst (pc := 157) dX8_init_157 ?_
  refine r_iastE (pc := 158) lyp_s hr_s dX8_init_158 (by decide) (by decide) (by decide) ?_
  rw [hr_hr]
  refine r_dupA (pc := 159) dX8_init_159 ?_
  refine r_iconst (pc := 160) dX8_init_160 ?_
  refine r_iconst (pc := 161) dX8_init_161 ?_
  refine r_iastE (pc := 162) lyp_s hr_s dX8_init_162 (by decide) (by decide) (by decide) ?_
  rw [hr_hr]
  refine r_dupA (pc := 163) dX8_init_163 ?_
  refine r_iconst (pc := 164) dX8_init_164 ?_
  refine r_iconst (pc := 165) dX8_init_165 ?_
  refine r_iastE (pc := 166) lyp_s hr_s dX8_init_166 (by decide) (by decide) (by decide) ?_
  rw [hr_hr]
  refine pf_X8_61 (pc := 167) rfl rfl (show (lyp la (b + 18) (10, 5)) b = (9, 0) from (lyp_n (by omega)).trans ml0) dX8_init_167 ?_
  show St E mX8_init 170 [some (.ref b), none, none, none] [] (18, 10328) (b + 19) (lyp la (b + 18) (10, 5)) (rr ra b (rup (ra b) 21 (some (b + 18)))) (hr ha (b + 18) (up (up (up (up (up (fun _ => 0) 0 1) 1 1) 2 2) 3 2) 4 3))
  have n_ml0 : (lyp la (b + 18) (10, 5)) b = (9, 0) := (lyp_n (by omega)).trans ml0
  have n_ml1 : (lyp la (b + 18) (10, 5)) (b + 1) = (10, 200) := (lyp_n (by omega)).trans ml1
  have n_ml2 : (lyp la (b + 18) (10, 5)) (b + 2) = (10, 136) := (lyp_n (by omega)).trans ml2
  have n_ml3 : (lyp la (b + 18) (10, 5)) (b + 3) = (10, 680) := (lyp_n (by omega)).trans ml3
  have n_ml4 : (lyp la (b + 18) (10, 5)) (b + 4) = (10, 5) := (lyp_n (by omega)).trans ml4
  have n_ml5 : (lyp la (b + 18) (10, 5)) (b + 5) = (10, 136) := (lyp_n (by omega)).trans ml5
  have n_ml6 : (lyp la (b + 18) (10, 5)) (b + 6) = (10, 136) := (lyp_n (by omega)).trans ml6
  have n_ml7 : (lyp la (b + 18) (10, 5)) (b + 7) = (10, 8800) := (lyp_n (by omega)).trans ml7
  have n_ml8 : (lyp la (b + 18) (10, 5)) (b + 8) = (10, 22) := (lyp_n (by omega)).trans ml8
  have n_ml9 : (lyp la (b + 18) (10, 5)) (b + 9) = (10, 4) := (lyp_n (by omega)).trans ml9
  have n_ml10 : (lyp la (b + 18) (10, 5)) (b + 10) = (10, 4) := (lyp_n (by omega)).trans ml10
  have n_ml11 : (lyp la (b + 18) (10, 5)) (b + 11) = (10, 6) := (lyp_n (by omega)).trans ml11
  have n_ml12 : (lyp la (b + 18) (10, 5)) (b + 12) = (10, 64) := (lyp_n (by omega)).trans ml12
  have n_ml13 : (lyp la (b + 18) (10, 5)) (b + 13) = (10, 64) := (lyp_n (by omega)).trans ml13
  have n_ml14 : (lyp la (b + 18) (10, 5)) (b + 14) = (10, 16) := (lyp_n (by omega)).trans ml14
  have n_ml15 : (lyp la (b + 18) (10, 5)) (b + 15) = (10, 16) := (lyp_n (by omega)).trans ml15
  have n_ml16 : (lyp la (b + 18) (10, 5)) (b + 16) = (10, 16) := (lyp_n (by omega)).trans ml16
  have n_ml17 : (lyp la (b + 18) (10, 5)) (b + 17) = (10, 18) := (lyp_n (by omega)).trans ml17
  have n_ml18 : (lyp la (b + 18) (10, 5)) (b + 18) = (10, 5) := lyp_s
  have n_mr1 : (rr ra b (rup (ra b) 21 (some (b + 18)))) b 1 = some (b + 1) := by rw [rr_s, rup_n (by decide)]; exact mr1
  have n_mr2 : (rr ra b (rup (ra b) 21 (some (b + 18)))) b 2 = some (b + 2) := by rw [rr_s, rup_n (by decide)]; exact mr2
  have n_mr3 : (rr ra b (rup (ra b) 21 (some (b + 18)))) b 3 = some (b + 3) := by rw [rr_s, rup_n (by decide)]; exact mr3
  have n_mr4 : (rr ra b (rup (ra b) 21 (some (b + 18)))) b 4 = some (b + 4) := by rw [rr_s, rup_n (by decide)]; exact mr4
  have n_mr5 : (rr ra b (rup (ra b) 21 (some (b + 18)))) b 6 = some (b + 5) := by rw [rr_s, rup_n (by decide)]; exact mr5
  have n_mr6 : (rr ra b (rup (ra b) 21 (some (b + 18)))) b 7 = some (b + 6) := by rw [rr_s, rup_n (by decide)]; exact mr6
  have n_mr7 : (rr ra b (rup (ra b) 21 (some (b + 18)))) b 8 = some (b + 7) := by rw [rr_s, rup_n (by decide)]; exact mr7
  have n_mr8 : (rr ra b (rup (ra b) 21 (some (b + 18)))) b 9 = some (b + 8) := by rw [rr_s, rup_n (by decide)]; exact mr8
  have n_mr9 : (rr ra b (rup (ra b) 21 (some (b + 18)))) b 10 = some (b + 9) := by rw [rr_s, rup_n (by decide)]; exact mr9
  have n_mr10 : (rr ra b (rup (ra b) 21 (some (b + 18)))) b 11 = some (b + 10) := by rw [rr_s, rup_n (by decide)]; exact mr10
  have n_mr11 : (rr ra b (rup (ra b) 21 (some (b + 18)))) b 12 = some (b + 11) := by rw [rr_s, rup_n (by decide)]; exact mr11
  have n_mr12 : (rr ra b (rup (ra b) 21 (some (b + 18)))) b 13 = some (b + 12) := by rw [rr_s, rup_n (by decide)]; exact mr12
  have n_mr13 : (rr ra b (rup (ra b) 21 (some (b + 18)))) b 14 = some (b + 13) := by rw [rr_s, rup_n (by decide)]; exact mr13
  have n_mr14 : (rr ra b (rup (ra b) 21 (some (b + 18)))) b 15 = some (b + 14) := by rw [rr_s, rup_n (by decide)]; exact mr14
  have n_mr15 : (rr ra b (rup (ra b) 21 (some (b + 18)))) b 16 = some (b + 15) := by rw [rr_s, rup_n (by decide)]; exact mr15
  have n_mr16 : (rr ra b (rup (ra b) 21 (some (b + 18)))) b 18 = some (b + 16) := by rw [rr_s, rup_n (by decide)]; exact mr16
  have n_mr17 : (rr ra b (rup (ra b) 21 (some (b + 18)))) b 20 = some (b + 17) := by rw [rr_s, rup_n (by decide)]; exact mr17
  have n_mr18 : (rr ra b (rup (ra b) 21 (some (b + 18)))) b 21 = some (b + 18) := by rw [rr_s, rup_s]
  have n_hz : ∀ x, b ≤ x → x ≤ b + 17 → (hr ha (b + 18) (up (up (up (up (up (fun _ => 0) 0 1) 1 1) 2 2) 3 2) 4 3)) x = fun _ => 0 := fun x x0 x1 => by rw [hr_n (by omega)]; exact hz x x0 x1
  have n_ft18 : (hr ha (b + 18) (up (up (up (up (up (fun _ => 0) 0 1) 1 1) 2 2) 3 2) 4 3)) (b + 18) = (up (up (up (up (up (fun _ => 0) 0 1) 1 1) 2 2) 3 2) 4 3) := hr_s
  have n_fr : ∀ x, x < b → (lyp la (b + 18) (10, 5)) x = lay x ∧ (rr ra b (rup (ra b) 21 (some (b + 18)))) x = r x ∧ (hr ha (b + 18) (up (up (up (up (up (fun _ => 0) 0 1) 1 1) 2 2) 3 2) 4 3)) x = h x := fun x x0 => by rw [lyp_n (by omega), rr_n (by omega), hr_n (by omega)]; exact fr x x0
  revert n_ml0 n_ml1 n_ml2 n_ml3 n_ml4 n_ml5 n_ml6 n_ml7 n_ml8 n_ml9 n_ml10 n_ml11 n_ml12 n_ml13 n_ml14 n_ml15 n_ml16 n_ml17 n_ml18 n_mr1 n_mr2 n_mr3 n_mr4 n_mr5 n_mr6 n_mr7 n_mr8 n_mr9 n_mr10 n_mr11 n_mr12 n_mr13 n_mr14 n_mr15 n_mr16 n_mr17 n_mr18 n_hz n_ft18 n_fr
  clear ml0 ml1 ml2 ml3 ml4 ml5 ml6 ml7 ml8 ml9 ml10 ml11 ml12 ml13 ml14 ml15 ml16 ml17 mr1 mr2 mr3 mr4 mr5 mr6 mr7 mr8 mr9 mr10 mr11 mr12 mr13 mr14 mr15 mr16 mr17 hz fr
  generalize (lyp la (b + 18) (10, 5)) = la
  generalize (rr ra b (rup (ra b) 21 (some (b + 18)))) = ra
  generalize (hr ha (b + 18) (up (up (up (up (up (fun _ => 0) 0 1) 1 1) 2 2) 3 2) 4 3)) = ha
  intro ml0 ml1 ml2 ml3 ml4 ml5 ml6 ml7 ml8 ml9 ml10 ml11 ml12 ml13 ml14 ml15 ml16 ml17 ml18 mr1 mr2 mr3 mr4 mr5 mr6 mr7 mr8 mr9 mr10 mr11 mr12 mr13 mr14 mr15 mr16 mr17 mr18 hz ft18 fr
  exact K la ra ha ml0 ml1 ml2 ml3 ml4 ml5 ml6 ml7 ml8 ml9 ml10 ml11 ml12 ml13 ml14 ml15 ml16 ml17 ml18 mr1 mr2 mr3 mr4 mr5 mr6 mr7 mr8 mr9 mr10 mr11 mr12 mr13 mr14 mr15 mr16 mr17 mr18 hz ft18 fr
set_option maxHeartbeats 4000000 in
set_option maxRecDepth 20000 in
theorem X8_init_A19 {E : EnT} {lay : LyT} {r : RfT} {h : HpT} {b : Nat} (la : LyT) (ra : RfT) (ha : HpT) (ml0 : la b = (9, 0)) (ml1 : la (b + 1) = (10, 200)) (ml2 : la (b + 2) = (10, 136)) (ml3 : la (b + 3) = (10, 680)) (ml4 : la (b + 4) = (10, 5)) (ml5 : la (b + 5) = (10, 136)) (ml6 : la (b + 6) = (10, 136)) (ml7 : la (b + 7) = (10, 8800)) (ml8 : la (b + 8) = (10, 22)) (ml9 : la (b + 9) = (10, 4)) (ml10 : la (b + 10) = (10, 4)) (ml11 : la (b + 11) = (10, 6)) (ml12 : la (b + 12) = (10, 64)) (ml13 : la (b + 13) = (10, 64)) (ml14 : la (b + 14) = (10, 16)) (ml15 : la (b + 15) = (10, 16)) (ml16 : la (b + 16) = (10, 16)) (ml17 : la (b + 17) = (10, 18)) (ml18 : la (b + 18) = (10, 5)) (mr1 : ra b 1 = some (b + 1)) (mr2 : ra b 2 = some (b + 2)) (mr3 : ra b 3 = some (b + 3)) (mr4 : ra b 4 = some (b + 4)) (mr5 : ra b 6 = some (b + 5)) (mr6 : ra b 7 = some (b + 6)) (mr7 : ra b 8 = some (b + 7)) (mr8 : ra b 9 = some (b + 8)) (mr9 : ra b 10 = some (b + 9)) (mr10 : ra b 11 = some (b + 10)) (mr11 : ra b 12 = some (b + 11)) (mr12 : ra b 13 = some (b + 12)) (mr13 : ra b 14 = some (b + 13)) (mr14 : ra b 15 = some (b + 14)) (mr15 : ra b 16 = some (b + 15)) (mr16 : ra b 18 = some (b + 16)) (mr17 : ra b 20 = some (b + 17)) (mr18 : ra b 21 = some (b + 18)) (hz : ∀ x, b ≤ x → x ≤ b + 17 → ha x = fun _ => 0) (ft18 : ha (b + 18) = (up (up (up (up (up (fun _ => 0) 0 1) 1 1) 2 2) 3 2) 4 3)) (fr : ∀ x, x < b → la x = lay x ∧ ra x = r x ∧ ha x = h x) (K : ∀ (la : LyT) (ra : RfT) (ha : HpT), (la b = (9, 0)) → (la (b + 1) = (10, 200)) → (la (b + 2) = (10, 136)) → (la (b + 3) = (10, 680)) → (la (b + 4) = (10, 5)) → (la (b + 5) = (10, 136)) → (la (b + 6) = (10, 136)) → (la (b + 7) = (10, 8800)) → (la (b + 8) = (10, 22)) → (la (b + 9) = (10, 4)) → (la (b + 10) = (10, 4)) → (la (b + 11) = (10, 6)) → (la (b + 12) = (10, 64)) → (la (b + 13) = (10, 64)) → (la (b + 14) = (10, 16)) → (la (b + 15) = (10, 16)) → (la (b + 16) = (10, 16)) → (la (b + 17) = (10, 18)) → (la (b + 18) = (10, 5)) → (la (b + 19) = (10, 9)) → (ra b 1 = some (b + 1)) → (ra b 2 = some (b + 2)) → (ra b 3 = some (b + 3)) → (ra b 4 = some (b + 4)) → (ra b 6 = some (b + 5)) → (ra b 7 = some (b + 6)) → (ra b 8 = some (b + 7)) → (ra b 9 = some (b + 8)) → (ra b 10 = some (b + 9)) → (ra b 11 = some (b + 10)) → (ra b 12 = some (b + 11)) → (ra b 13 = some (b + 12)) → (ra b 14 = some (b + 13)) → (ra b 15 = some (b + 14)) → (ra b 16 = some (b + 15)) → (ra b 18 = some (b + 16)) → (ra b 20 = some (b + 17)) → (ra b 21 = some (b + 18)) → (ra b 22 = some (b + 19)) → (∀ x, b ≤ x → x ≤ b + 17 → ha x = fun _ => 0) → (ha (b + 18) = (up (up (up (up (up (fun _ => 0) 0 1) 1 1) 2 2) 3 2) 4 3)) → (ha (b + 19) = (up (up (up (up (up (up (up (up (up (fun _ => 0) 0 4) 1 4) 2 5) 3 5) 4 6) 5 6) 6 7) 7 8) 8 8)) → (∀ x, x < b → la x = lay x ∧ ra x = r x ∧ ha x = h x) → St E mX8_init 222 [some (.ref b), none, none, none] [] (19, 10337) (b + 20) la ra ha) : St E mX8_init 170 [some (.ref b), none, none, none] [] (18, 10328) (b + 19) la ra ha := by
  refine r_aload_0 (pc := 170) dX8_init_170 ?_
  refine r_bipush (pc := 171) dX8_init_171 (by decide) ?_
  refine r_newI (pc := 173) (n := 9) rfl w_aI dX8_init_173 (Nat.le_of_ble_eq_true rfl) (Nat.le_of_ble_eq_true rfl) (Nat.le_of_ble_eq_true rfl) ?_
  refine r_dupA (pc := 175) dX8_init_175 ?_
  refine r_iconst (pc := 176) dX8_init_176 ?_
  refine r_iconst (pc := 177) dX8_init_177 ?_
  refine r_iastE (pc := 178) lyp_s hr_s dX8_init_178 (by decide) (by decide) (by decide) ?_
  rw [hr_hr]
  refine r_dupA (pc := 179) dX8_init_179 ?_
  refine r_iconst (pc := 180) dX8_init_180 ?_
  refine r_iconst (pc := 181) dX8_init_181 ?_
  refine r_iastE (pc := 182) lyp_s hr_s dX8_init_182 (by decide) (by decide) (by decide) ?_
  rw [hr_hr]
  refine r_dupA (pc := 183) dX8_init_183 ?_
  refine r_iconst (pc := 184) dX8_init_184 ?_
  refine r_iconst (pc := 185) dX8_init_185 ?_
  refine r_iastE (pc := 186) lyp_s hr_s dX8_init_186 (by decide) (by decide) (by decide) ?_
  rw [hr_hr]
  refine r_dupA (pc := 187) dX8_init_187 ?_
  refine r_iconst (pc := 188) dX8_init_188 ?_
  refine r_iconst (pc := 189) dX8_init_189 ?_
  refine r_iastE (pc := 190) lyp_s hr_s dX8_init_190 (by decide) (by decide) (by decide) ?_
  rw [hr_hr]
  refine r_dupA (pc := 191) dX8_init_191 ?_
  refine r_iconst (pc := 192) dX8_init_192 ?_
  refine r_bipush (pc := 193) dX8_init_193 (by decide) ?_
  refine r_iastE (pc := 195) lyp_s hr_s dX8_init_195 (by decide) (by decide) (by decide) ?_
  rw [hr_hr]
  refine r_dupA (pc := 196) dX8_init_196 ?_
  refine r_iconst (pc := 197) dX8_init_197 ?_
  refine r_bipush (pc := 198) dX8_init_198 (by decide) ?_
  refine r_iastE (pc := 200) lyp_s hr_s dX8_init_200 (by decide) (by decide) (by decide) ?_
  rw [hr_hr]
  refine r_dupA (pc := 201) dX8_init_201 ?_
  refine r_bipush (pc := 202) dX8_init_202 (by decide) ?_
  refine r_bipush (pc := 204) dX8_init_204 (by decide) ?_
  refine r_iastE (pc := 206) lyp_s hr_s dX8_init_206 (by decide) (by decide) (by decide) ?_
  rw [hr_hr]
  refine r_dupA (pc := 207) dX8_init_207 ?_
  refine r_bipush (pc := 208) dX8_init_208 (by decide) ?_
  refine r_bipush (pc := 210) dX8_init_210 (by decide) ?_
  refine r_iastE (pc := 212) lyp_s hr_s dX8_init_212 (by decide) (by decide) (by decide) ?_
  rw [hr_hr]
  refine r_dupA (pc := 213) dX8_init_213 ?_
  refine r_bipush (pc := 214) dX8_init_214 (by decide) ?_
  refine r_bipush (pc := 216) dX8_init_216 (by decide) ?_
  refine r_iastE (pc := 218) lyp_s hr_s dX8_init_218 (by decide) (by decide) (by decide) ?_
  rw [hr_hr]
  refine pf_X8_64 (pc := 219) rfl rfl (show (lyp la (b + 19) (10, 9)) b = (9, 0) from (lyp_n (by omega)).trans ml0) dX8_init_219 ?_
  show St E mX8_init 222 [some (.ref b), none, none, none] [] (19, 10337) (b + 20) (lyp la (b + 19) (10, 9)) (rr ra b (rup (ra b) 22 (some (b + 19)))) (hr ha (b + 19) (up (up (up (up (up (up (up (up (up (fun _ => 0) 0 4) 1 4) 2 5) 3 5) 4 6) 5 6) 6 7) 7 8) 8 8))
  have n_ml0 : (lyp la (b + 19) (10, 9)) b = (9, 0) := (lyp_n (by omega)).trans ml0
  have n_ml1 : (lyp la (b + 19) (10, 9)) (b + 1) = (10, 200) := (lyp_n (by omega)).trans ml1
  have n_ml2 : (lyp la (b + 19) (10, 9)) (b + 2) = (10, 136) := (lyp_n (by omega)).trans ml2
  have n_ml3 : (lyp la (b + 19) (10, 9)) (b + 3) = (10, 680) := (lyp_n (by omega)).trans ml3
  have n_ml4 : (lyp la (b + 19) (10, 9)) (b + 4) = (10, 5) := (lyp_n (by omega)).trans ml4
  have n_ml5 : (lyp la (b + 19) (10, 9)) (b + 5) = (10, 136) := (lyp_n (by omega)).trans ml5
  have n_ml6 : (lyp la (b + 19) (10, 9)) (b + 6) = (10, 136) := (lyp_n (by omega)).trans ml6
  have n_ml7 : (lyp la (b + 19) (10, 9)) (b + 7) = (10, 8800) := (lyp_n (by omega)).trans ml7
  have n_ml8 : (lyp la (b + 19) (10, 9)) (b + 8) = (10, 22) := (lyp_n (by omega)).trans ml8
  have n_ml9 : (lyp la (b + 19) (10, 9)) (b + 9) = (10, 4) := (lyp_n (by omega)).trans ml9
  have n_ml10 : (lyp la (b + 19) (10, 9)) (b + 10) = (10, 4) := (lyp_n (by omega)).trans ml10
  have n_ml11 : (lyp la (b + 19) (10, 9)) (b + 11) = (10, 6) := (lyp_n (by omega)).trans ml11
  have n_ml12 : (lyp la (b + 19) (10, 9)) (b + 12) = (10, 64) := (lyp_n (by omega)).trans ml12
  have n_ml13 : (lyp la (b + 19) (10, 9)) (b + 13) = (10, 64) := (lyp_n (by omega)).trans ml13
  have n_ml14 : (lyp la (b + 19) (10, 9)) (b + 14) = (10, 16) := (lyp_n (by omega)).trans ml14
  have n_ml15 : (lyp la (b + 19) (10, 9)) (b + 15) = (10, 16) := (lyp_n (by omega)).trans ml15
  have n_ml16 : (lyp la (b + 19) (10, 9)) (b + 16) = (10, 16) := (lyp_n (by omega)).trans ml16
  have n_ml17 : (lyp la (b + 19) (10, 9)) (b + 17) = (10, 18) := (lyp_n (by omega)).trans ml17
  have n_ml18 : (lyp la (b + 19) (10, 9)) (b + 18) = (10, 5) := (lyp_n (by omega)).trans ml18
  have n_ml19 : (lyp la (b + 19) (10, 9)) (b + 19) = (10, 9) := lyp_s
  have n_mr1 : (rr ra b (rup (ra b) 22 (some (b + 19)))) b 1 = some (b + 1) := by rw [rr_s, rup_n (by decide)]; exact mr1
  have n_mr2 : (rr ra b (rup (ra b) 22 (some (b + 19)))) b 2 = some (b + 2) := by rw [rr_s, rup_n (by decide)]; exact mr2
  have n_mr3 : (rr ra b (rup (ra b) 22 (some (b + 19)))) b 3 = some (b + 3) := by rw [rr_s, rup_n (by decide)]; exact mr3
  have n_mr4 : (rr ra b (rup (ra b) 22 (some (b + 19)))) b 4 = some (b + 4) := by rw [rr_s, rup_n (by decide)]; exact mr4
  have n_mr5 : (rr ra b (rup (ra b) 22 (some (b + 19)))) b 6 = some (b + 5) := by rw [rr_s, rup_n (by decide)]; exact mr5
  have n_mr6 : (rr ra b (rup (ra b) 22 (some (b + 19)))) b 7 = some (b + 6) := by rw [rr_s, rup_n (by decide)]; exact mr6
  have n_mr7 : (rr ra b (rup (ra b) 22 (some (b + 19)))) b 8 = some (b + 7) := by rw [rr_s, rup_n (by decide)]; exact mr7
  have n_mr8 : (rr ra b (rup (ra b) 22 (some (b + 19)))) b 9 = some (b + 8) := by rw [rr_s, rup_n (by decide)]; exact mr8
  have n_mr9 : (rr ra b (rup (ra b) 22 (some (b + 19)))) b 10 = some (b + 9) := by rw [rr_s, rup_n (by decide)]; exact mr9
  have n_mr10 : (rr ra b (rup (ra b) 22 (some (b + 19)))) b 11 = some (b + 10) := by rw [rr_s, rup_n (by decide)]; exact mr10
  have n_mr11 : (rr ra b (rup (ra b) 22 (some (b + 19)))) b 12 = some (b + 11) := by rw [rr_s, rup_n (by decide)]; exact mr11
  have n_mr12 : (rr ra b (rup (ra b) 22 (some (b + 19)))) b 13 = some (b + 12) := by rw [rr_s, rup_n (by decide)]; exact mr12
  have n_mr13 : (rr ra b (rup (ra b) 22 (some (b + 19)))) b 14 = some (b + 13) := by rw [rr_s, rup_n (by decide)]; exact mr13
  have n_mr14 : (rr ra b (rup (ra b) 22 (some (b + 19)))) b 15 = some (b + 14) := by rw [rr_s, rup_n (by decide)]; exact mr14
  have n_mr15 : (rr ra b (rup (ra b) 22 (some (b + 19)))) b 16 = some (b + 15) := by rw [rr_s, rup_n (by decide)]; exact mr15
  have n_mr16 : (rr ra b (rup (ra b) 22 (some (b + 19)))) b 18 = some (b + 16) := by rw [rr_s, rup_n (by decide)]; exact mr16
  have n_mr17 : (rr ra b (rup (ra b) 22 (some (b + 19)))) b 20 = some (b + 17) := by rw [rr_s, rup_n (by decide)]; exact mr17
  have n_mr18 : (rr ra b (rup (ra b) 22 (some (b + 19)))) b 21 = some (b + 18) := by rw [rr_s, rup_n (by decide)]; exact mr18
  have n_mr19 : (rr ra b (rup (ra b) 22 (some (b + 19)))) b 22 = some (b + 19) := by rw [rr_s, rup_s]
  have n_hz : ∀ x, b ≤ x → x ≤ b + 17 → (hr ha (b + 19) (up (up (up (up (up (up (up (up (up (fun _ => 0) 0 4) 1 4) 2 5) 3 5) 4 6) 5 6) 6 7) 7 8) 8 8)) x = fun _ => 0 := fun x x0 x1 => by rw [hr_n (by omega)]; exact hz x x0 x1
  have n_ft18 : (hr ha (b + 19) (up (up (up (up (up (up (up (up (up (fun _ => 0) 0 4) 1 4) 2 5) 3 5) 4 6) 5 6) 6 7) 7 8) 8 8)) (b + 18) = (up (up (up (up (up (fun _ => 0) 0 1) 1 1) 2 2) 3 2) 4 3) := (hr_n (by omega)).trans ft18
  have n_ft19 : (hr ha (b + 19) (up (up (up (up (up (up (up (up (up (fun _ => 0) 0 4) 1 4) 2 5) 3 5) 4 6) 5 6) 6 7) 7 8) 8 8)) (b + 19) = (up (up (up (up (up (up (up (up (up (fun _ => 0) 0 4) 1 4) 2 5) 3 5) 4 6) 5 6) 6 7) 7 8) 8 8) := hr_s
  have n_fr : ∀ x, x < b → (lyp la (b + 19) (10, 9)) x = lay x ∧ (rr ra b (rup (ra b) 22 (some (b + 19)))) x = r x ∧ (hr ha (b + 19) (up (up (up (up (up (up (up (up (up (fun _ => 0) 0 4) 1 4) 2 5) 3 5) 4 6) 5 6) 6 7) 7 8) 8 8)) x = h x := fun x x0 => by rw [lyp_n (by omega), rr_n (by omega), hr_n (by omega)]; exact fr x x0
  revert n_ml0 n_ml1 n_ml2 n_ml3 n_ml4 n_ml5 n_ml6 n_ml7 n_ml8 n_ml9 n_ml10 n_ml11 n_ml12 n_ml13 n_ml14 n_ml15 n_ml16 n_ml17 n_ml18 n_ml19 n_mr1 n_mr2 n_mr3 n_mr4 n_mr5 n_mr6 n_mr7 n_mr8 n_mr9 n_mr10 n_mr11 n_mr12 n_mr13 n_mr14 n_mr15 n_mr16 n_mr17 n_mr18 n_mr19 n_hz n_ft18 n_ft19 n_fr
  clear ml0 ml1 ml2 ml3 ml4 ml5 ml6 ml7 ml8 ml9 ml10 ml11 ml12 ml13 ml14 ml15 ml16 ml17 ml18 mr1 mr2 mr3 mr4 mr5 mr6 mr7 mr8 mr9 mr10 mr11 mr12 mr13 mr14 mr15 mr16 mr17 mr18 hz ft18 fr
  generalize (lyp la (b + 19) (10, 9)) = la
  generalize (rr ra b (rup (ra b) 22 (some (b + 19)))) = ra
  generalize (hr ha (b + 19) (up (up (up (up (up (up (up (up (up (fun _ => 0) 0 4) 1 4) 2 5) 3 5) 4 6) 5 6) 6 7) 7 8) 8 8)) = ha
  intro ml0 ml1 ml2 ml3 ml4 ml5 ml6 ml7 ml8 ml9 ml10 ml11 ml12 ml13 ml14 ml15 ml16 ml17 ml18 ml19 mr1 mr2 mr3 mr4 mr5 mr6 mr7 mr8 mr9 mr10 mr11 mr12 mr13 mr14 mr15 mr16 mr17 mr18 mr19 hz ft18 ft19 fr
  exact K la ra ha ml0 ml1 ml2 ml3 ml4 ml5 ml6 ml7 ml8 ml9 ml10 ml11 ml12 ml13 ml14 ml15 ml16 ml17 ml18 ml19 mr1 mr2 mr3 mr4 mr5 mr6 mr7 mr8 mr9 mr10 mr11 mr12 mr13 mr14 mr15 mr16 mr17 mr18 mr19 hz ft18 ft19 fr
set_option maxHeartbeats 4000000 in
set_option maxRecDepth 20000 in
theorem X8_init_A20 {E : EnT} {lay : LyT} {r : RfT} {h : HpT} {b : Nat} (la : LyT) (ra : RfT) (ha : HpT) (ml0 : la b = (9, 0)) (ml1 : la (b + 1) = (10, 200)) (ml2 : la (b + 2) = (10, 136)) (ml3 : la (b + 3) = (10, 680)) (ml4 : la (b + 4) = (10, 5)) (ml5 : la (b + 5) = (10, 136)) (ml6 : la (b + 6) = (10, 136)) (ml7 : la (b + 7) = (10, 8800)) (ml8 : la (b + 8) = (10, 22)) (ml9 : la (b + 9) = (10, 4)) (ml10 : la (b + 10) = (10, 4)) (ml11 : la (b + 11) = (10, 6)) (ml12 : la (b + 12) = (10, 64)) (ml13 : la (b + 13) = (10, 64)) (ml14 : la (b + 14) = (10, 16)) (ml15 : la (b + 15) = (10, 16)) (ml16 : la (b + 16) = (10, 16)) (ml17 : la (b + 17) = (10, 18)) (ml18 : la (b + 18) = (10, 5)) (ml19 : la (b + 19) = (10, 9)) (mr1 : ra b 1 = some (b + 1)) (mr2 : ra b 2 = some (b + 2)) (mr3 : ra b 3 = some (b + 3)) (mr4 : ra b 4 = some (b + 4)) (mr5 : ra b 6 = some (b + 5)) (mr6 : ra b 7 = some (b + 6)) (mr7 : ra b 8 = some (b + 7)) (mr8 : ra b 9 = some (b + 8)) (mr9 : ra b 10 = some (b + 9)) (mr10 : ra b 11 = some (b + 10)) (mr11 : ra b 12 = some (b + 11)) (mr12 : ra b 13 = some (b + 12)) (mr13 : ra b 14 = some (b + 13)) (mr14 : ra b 15 = some (b + 14)) (mr15 : ra b 16 = some (b + 15)) (mr16 : ra b 18 = some (b + 16)) (mr17 : ra b 20 = some (b + 17)) (mr18 : ra b 21 = some (b + 18)) (mr19 : ra b 22 = some (b + 19)) (hz : ∀ x, b ≤ x → x ≤ b + 17 → ha x = fun _ => 0) (ft18 : ha (b + 18) = (up (up (up (up (up (fun _ => 0) 0 1) 1 1) 2 2) 3 2) 4 3)) (ft19 : ha (b + 19) = (up (up (up (up (up (up (up (up (up (fun _ => 0) 0 4) 1 4) 2 5) 3 5) 4 6) 5 6) 6 7) 7 8) 8 8)) (fr : ∀ x, x < b → la x = lay x ∧ ra x = r x ∧ ha x = h x) (K : ∀ (la : LyT) (ra : RfT) (ha : HpT), (la b = (9, 0)) → (la (b + 1) = (10, 200)) → (la (b + 2) = (10, 136)) → (la (b + 3) = (10, 680)) → (la (b + 4) = (10, 5)) → (la (b + 5) = (10, 136)) → (la (b + 6) = (10, 136)) → (la (b + 7) = (10, 8800)) → (la (b + 8) = (10, 22)) → (la (b + 9) = (10, 4)) → (la (b + 10) = (10, 4)) → (la (b + 11) = (10, 6)) → (la (b + 12) = (10, 64)) → (la (b + 13) = (10, 64)) → (la (b + 14) = (10, 16)) → (la (b + 15) = (10, 16)) → (la (b + 16) = (10, 16)) → (la (b + 17) = (10, 18)) → (la (b + 18) = (10, 5)) → (la (b + 19) = (10, 9)) → (la (b + 20) = (10, 9)) → (ra b 1 = some (b + 1)) → (ra b 2 = some (b + 2)) → (ra b 3 = some (b + 3)) → (ra b 4 = some (b + 4)) → (ra b 6 = some (b + 5)) → (ra b 7 = some (b + 6)) → (ra b 8 = some (b + 7)) → (ra b 9 = some (b + 8)) → (ra b 10 = some (b + 9)) → (ra b 11 = some (b + 10)) → (ra b 12 = some (b + 11)) → (ra b 13 = some (b + 12)) → (ra b 14 = some (b + 13)) → (ra b 15 = some (b + 14)) → (ra b 16 = some (b + 15)) → (ra b 18 = some (b + 16)) → (ra b 20 = some (b + 17)) → (ra b 21 = some (b + 18)) → (ra b 22 = some (b + 19)) → (ra b 23 = some (b + 20)) → (∀ x, b ≤ x → x ≤ b + 17 → ha x = fun _ => 0) → (ha (b + 18) = (up (up (up (up (up (fun _ => 0) 0 1) 1 1) 2 2) 3 2) 4 3)) → (ha (b + 19) = (up (up (up (up (up (up (up (up (up (fun _ => 0) 0 4) 1 4) 2 5) 3 5) 4 6) 5 6) 6 7) 7 8) 8 8)) → (ha (b + 20) = (up (up (up (up (up (up (up (up (up (fun _ => 0) 0 4) 1 2) 2 3) 3 3) 4 5) 5 1) 6 6) 7 2) 8 8)) → (∀ x, x < b → la x = lay x ∧ ra x = r x ∧ ha x = h x) → St E mX8_init 271 [some (.ref b), none, none, none] [] (20, 10346) (b + 21) la ra ha) : St E mX8_init 222 [some (.ref b), none, none, none] [] (19, 10337) (b + 20) la ra ha := by
  refine r_aload_0 (pc := 222) dX8_init_222 ?_
  refine r_bipush (pc := 223) dX8_init_223 (by decide) ?_
  refine r_newI (pc := 225) (n := 9) rfl w_aI dX8_init_225 (Nat.le_of_ble_eq_true rfl) (Nat.le_of_ble_eq_true rfl) (Nat.le_of_ble_eq_true rfl) ?_
  refine r_dupA (pc := 227) dX8_init_227 ?_
  refine r_iconst (pc := 228) dX8_init_228 ?_
  refine r_iconst (pc := 229) dX8_init_229 ?_
  refine r_iastE (pc := 230) lyp_s hr_s dX8_init_230 (by decide) (by decide) (by decide) ?_
  rw [hr_hr]
  refine r_dupA (pc := 231) dX8_init_231 ?_
  refine r_iconst (pc := 232) dX8_init_232 ?_
  refine r_iconst (pc := 233) dX8_init_233 ?_
  refine r_iastE (pc := 234) lyp_s hr_s dX8_init_234 (by decide) (by decide) (by decide) ?_
  rw [hr_hr]
  refine r_dupA (pc := 235) dX8_init_235 ?_
  refine r_iconst (pc := 236) dX8_init_236 ?_
  refine r_iconst (pc := 237) dX8_init_237 ?_
  refine r_iastE (pc := 238) lyp_s hr_s dX8_init_238 (by decide) (by decide) (by decide) ?_
  rw [hr_hr]
  refine r_dupA (pc := 239) dX8_init_239 ?_
  refine r_iconst (pc := 240) dX8_init_240 ?_
  refine r_iconst (pc := 241) dX8_init_241 ?_
  refine r_iastE (pc := 242) lyp_s hr_s dX8_init_242 (by decide) (by decide) (by decide) ?_
  rw [hr_hr]
  refine r_dupA (pc := 243) dX8_init_243 ?_
  refine r_iconst (pc := 244) dX8_init_244 ?_
  refine r_iconst (pc := 245) dX8_init_245 ?_
  refine r_iastE (pc := 246) lyp_s hr_s dX8_init_246 (by decide) (by decide) (by decide) ?_
  rw [hr_hr]
  refine r_dupA (pc := 247) dX8_init_247 ?_
  refine r_iconst (pc := 248) dX8_init_248 ?_
  refine r_iconst (pc := 249) dX8_init_249 ?_
  refine r_iastE (pc := 250) lyp_s hr_s dX8_init_250 (by decide) (by decide) (by decide) ?_
  rw [hr_hr]
  refine r_dupA (pc := 251) dX8_init_251 ?_
  refine r_bipush (pc := 252) dX8_init_252 (by decide) ?_
  refine r_bipush (pc := 254) dX8_init_254 (by decide) ?_
  refine r_iastE (pc := 256) lyp_s hr_s dX8_init_256 (by decide) (by decide) (by decide) ?_
  rw [hr_hr]
  refine r_dupA (pc := 257) dX8_init_257 ?_
  refine r_bipush (pc := 258) dX8_init_258 (by decide) ?_
  refine r_iconst (pc := 260) dX8_init_260 ?_
  refine r_iastE (pc := 261) lyp_s hr_s dX8_init_261 (by decide) (by decide) (by decide) ?_
  rw [hr_hr]
  refine r_dupA (pc := 262) dX8_init_262 ?_
  refine r_bipush (pc := 263) dX8_init_263 (by decide) ?_
  refine r_bipush (pc := 265) dX8_init_265 (by decide) ?_
  refine r_iastE (pc := 267) lyp_s hr_s dX8_init_267 (by decide) (by decide) (by decide) ?_
  rw [hr_hr]
  refine pf_X8_67 (pc := 268) rfl rfl (show (lyp la (b + 20) (10, 9)) b = (9, 0) from (lyp_n (by omega)).trans ml0) dX8_init_268 ?_
  show St E mX8_init 271 [some (.ref b), none, none, none] [] (20, 10346) (b + 21) (lyp la (b + 20) (10, 9)) (rr ra b (rup (ra b) 23 (some (b + 20)))) (hr ha (b + 20) (up (up (up (up (up (up (up (up (up (fun _ => 0) 0 4) 1 2) 2 3) 3 3) 4 5) 5 1) 6 6) 7 2) 8 8))
  have n_ml0 : (lyp la (b + 20) (10, 9)) b = (9, 0) := (lyp_n (by omega)).trans ml0
  have n_ml1 : (lyp la (b + 20) (10, 9)) (b + 1) = (10, 200) := (lyp_n (by omega)).trans ml1
  have n_ml2 : (lyp la (b + 20) (10, 9)) (b + 2) = (10, 136) := (lyp_n (by omega)).trans ml2
  have n_ml3 : (lyp la (b + 20) (10, 9)) (b + 3) = (10, 680) := (lyp_n (by omega)).trans ml3
  have n_ml4 : (lyp la (b + 20) (10, 9)) (b + 4) = (10, 5) := (lyp_n (by omega)).trans ml4
  have n_ml5 : (lyp la (b + 20) (10, 9)) (b + 5) = (10, 136) := (lyp_n (by omega)).trans ml5
  have n_ml6 : (lyp la (b + 20) (10, 9)) (b + 6) = (10, 136) := (lyp_n (by omega)).trans ml6
  have n_ml7 : (lyp la (b + 20) (10, 9)) (b + 7) = (10, 8800) := (lyp_n (by omega)).trans ml7
  have n_ml8 : (lyp la (b + 20) (10, 9)) (b + 8) = (10, 22) := (lyp_n (by omega)).trans ml8
  have n_ml9 : (lyp la (b + 20) (10, 9)) (b + 9) = (10, 4) := (lyp_n (by omega)).trans ml9
  have n_ml10 : (lyp la (b + 20) (10, 9)) (b + 10) = (10, 4) := (lyp_n (by omega)).trans ml10
  have n_ml11 : (lyp la (b + 20) (10, 9)) (b + 11) = (10, 6) := (lyp_n (by omega)).trans ml11
  have n_ml12 : (lyp la (b + 20) (10, 9)) (b + 12) = (10, 64) := (lyp_n (by omega)).trans ml12
  have n_ml13 : (lyp la (b + 20) (10, 9)) (b + 13) = (10, 64) := (lyp_n (by omega)).trans ml13
  have n_ml14 : (lyp la (b + 20) (10, 9)) (b + 14) = (10, 16) := (lyp_n (by omega)).trans ml14
  have n_ml15 : (lyp la (b + 20) (10, 9)) (b + 15) = (10, 16) := (lyp_n (by omega)).trans ml15
  have n_ml16 : (lyp la (b + 20) (10, 9)) (b + 16) = (10, 16) := (lyp_n (by omega)).trans ml16
  have n_ml17 : (lyp la (b + 20) (10, 9)) (b + 17) = (10, 18) := (lyp_n (by omega)).trans ml17
  have n_ml18 : (lyp la (b + 20) (10, 9)) (b + 18) = (10, 5) := (lyp_n (by omega)).trans ml18
  have n_ml19 : (lyp la (b + 20) (10, 9)) (b + 19) = (10, 9) := (lyp_n (by omega)).trans ml19
  have n_ml20 : (lyp la (b + 20) (10, 9)) (b + 20) = (10, 9) := lyp_s
  have n_mr1 : (rr ra b (rup (ra b) 23 (some (b + 20)))) b 1 = some (b + 1) := by rw [rr_s, rup_n (by decide)]; exact mr1
  have n_mr2 : (rr ra b (rup (ra b) 23 (some (b + 20)))) b 2 = some (b + 2) := by rw [rr_s, rup_n (by decide)]; exact mr2
  have n_mr3 : (rr ra b (rup (ra b) 23 (some (b + 20)))) b 3 = some (b + 3) := by rw [rr_s, rup_n (by decide)]; exact mr3
  have n_mr4 : (rr ra b (rup (ra b) 23 (some (b + 20)))) b 4 = some (b + 4) := by rw [rr_s, rup_n (by decide)]; exact mr4
  have n_mr5 : (rr ra b (rup (ra b) 23 (some (b + 20)))) b 6 = some (b + 5) := by rw [rr_s, rup_n (by decide)]; exact mr5
  have n_mr6 : (rr ra b (rup (ra b) 23 (some (b + 20)))) b 7 = some (b + 6) := by rw [rr_s, rup_n (by decide)]; exact mr6
  have n_mr7 : (rr ra b (rup (ra b) 23 (some (b + 20)))) b 8 = some (b + 7) := by rw [rr_s, rup_n (by decide)]; exact mr7
  have n_mr8 : (rr ra b (rup (ra b) 23 (some (b + 20)))) b 9 = some (b + 8) := by rw [rr_s, rup_n (by decide)]; exact mr8
  have n_mr9 : (rr ra b (rup (ra b) 23 (some (b + 20)))) b 10 = some (b + 9) := by rw [rr_s, rup_n (by decide)]; exact mr9
  have n_mr10 : (rr ra b (rup (ra b) 23 (some (b + 20)))) b 11 = some (b + 10) := by rw [rr_s, rup_n (by decide)]; exact mr10
  have n_mr11 : (rr ra b (rup (ra b) 23 (some (b + 20)))) b 12 = some (b + 11) := by rw [rr_s, rup_n (by decide)]; exact mr11
  have n_mr12 : (rr ra b (rup (ra b) 23 (some (b + 20)))) b 13 = some (b + 12) := by rw [rr_s, rup_n (by decide)]; exact mr12
  have n_mr13 : (rr ra b (rup (ra b) 23 (some (b + 20)))) b 14 = some (b + 13) := by rw [rr_s, rup_n (by decide)]; exact mr13
  have n_mr14 : (rr ra b (rup (ra b) 23 (some (b + 20)))) b 15 = some (b + 14) := by rw [rr_s, rup_n (by decide)]; exact mr14
  have n_mr15 : (rr ra b (rup (ra b) 23 (some (b + 20)))) b 16 = some (b + 15) := by rw [rr_s, rup_n (by decide)]; exact mr15
  have n_mr16 : (rr ra b (rup (ra b) 23 (some (b + 20)))) b 18 = some (b + 16) := by rw [rr_s, rup_n (by decide)]; exact mr16
  have n_mr17 : (rr ra b (rup (ra b) 23 (some (b + 20)))) b 20 = some (b + 17) := by rw [rr_s, rup_n (by decide)]; exact mr17
  have n_mr18 : (rr ra b (rup (ra b) 23 (some (b + 20)))) b 21 = some (b + 18) := by rw [rr_s, rup_n (by decide)]; exact mr18
  have n_mr19 : (rr ra b (rup (ra b) 23 (some (b + 20)))) b 22 = some (b + 19) := by rw [rr_s, rup_n (by decide)]; exact mr19
  have n_mr20 : (rr ra b (rup (ra b) 23 (some (b + 20)))) b 23 = some (b + 20) := by rw [rr_s, rup_s]
  have n_hz : ∀ x, b ≤ x → x ≤ b + 17 → (hr ha (b + 20) (up (up (up (up (up (up (up (up (up (fun _ => 0) 0 4) 1 2) 2 3) 3 3) 4 5) 5 1) 6 6) 7 2) 8 8)) x = fun _ => 0 := fun x x0 x1 => by rw [hr_n (by omega)]; exact hz x x0 x1
  have n_ft18 : (hr ha (b + 20) (up (up (up (up (up (up (up (up (up (fun _ => 0) 0 4) 1 2) 2 3) 3 3) 4 5) 5 1) 6 6) 7 2) 8 8)) (b + 18) = (up (up (up (up (up (fun _ => 0) 0 1) 1 1) 2 2) 3 2) 4 3) := (hr_n (by omega)).trans ft18
  have n_ft19 : (hr ha (b + 20) (up (up (up (up (up (up (up (up (up (fun _ => 0) 0 4) 1 2) 2 3) 3 3) 4 5) 5 1) 6 6) 7 2) 8 8)) (b + 19) = (up (up (up (up (up (up (up (up (up (fun _ => 0) 0 4) 1 4) 2 5) 3 5) 4 6) 5 6) 6 7) 7 8) 8 8) := (hr_n (by omega)).trans ft19
  have n_ft20 : (hr ha (b + 20) (up (up (up (up (up (up (up (up (up (fun _ => 0) 0 4) 1 2) 2 3) 3 3) 4 5) 5 1) 6 6) 7 2) 8 8)) (b + 20) = (up (up (up (up (up (up (up (up (up (fun _ => 0) 0 4) 1 2) 2 3) 3 3) 4 5) 5 1) 6 6) 7 2) 8 8) := hr_s
  have n_fr : ∀ x, x < b → (lyp la (b + 20) (10, 9)) x = lay x ∧ (rr ra b (rup (ra b) 23 (some (b + 20)))) x = r x ∧ (hr ha (b + 20) (up (up (up (up (up (up (up (up (up (fun _ => 0) 0 4) 1 2) 2 3) 3 3) 4 5) 5 1) 6 6) 7 2) 8 8)) x = h x := fun x x0 => by rw [lyp_n (by omega), rr_n (by omega), hr_n (by omega)]; exact fr x x0
  revert n_ml0 n_ml1 n_ml2 n_ml3 n_ml4 n_ml5 n_ml6 n_ml7 n_ml8 n_ml9 n_ml10 n_ml11 n_ml12 n_ml13 n_ml14 n_ml15 n_ml16 n_ml17 n_ml18 n_ml19 n_ml20 n_mr1 n_mr2 n_mr3 n_mr4 n_mr5 n_mr6 n_mr7 n_mr8 n_mr9 n_mr10 n_mr11 n_mr12 n_mr13 n_mr14 n_mr15 n_mr16 n_mr17 n_mr18 n_mr19 n_mr20 n_hz n_ft18 n_ft19 n_ft20 n_fr
  clear ml0 ml1 ml2 ml3 ml4 ml5 ml6 ml7 ml8 ml9 ml10 ml11 ml12 ml13 ml14 ml15 ml16 ml17 ml18 ml19 mr1 mr2 mr3 mr4 mr5 mr6 mr7 mr8 mr9 mr10 mr11 mr12 mr13 mr14 mr15 mr16 mr17 mr18 mr19 hz ft18 ft19 fr
  generalize (lyp la (b + 20) (10, 9)) = la
  generalize (rr ra b (rup (ra b) 23 (some (b + 20)))) = ra
  generalize (hr ha (b + 20) (up (up (up (up (up (up (up (up (up (fun _ => 0) 0 4) 1 2) 2 3) 3 3) 4 5) 5 1) 6 6) 7 2) 8 8)) = ha
  intro ml0 ml1 ml2 ml3 ml4 ml5 ml6 ml7 ml8 ml9 ml10 ml11 ml12 ml13 ml14 ml15 ml16 ml17 ml18 ml19 ml20 mr1 mr2 mr3 mr4 mr5 mr6 mr7 mr8 mr9 mr10 mr11 mr12 mr13 mr14 mr15 mr16 mr17 mr18 mr19 mr20 hz ft18 ft19 ft20 fr
  exact K la ra ha ml0 ml1 ml2 ml3 ml4 ml5 ml6 ml7 ml8 ml9 ml10 ml11 ml12 ml13 ml14 ml15 ml16 ml17 ml18 ml19 ml20 mr1 mr2 mr3 mr4 mr5 mr6 mr7 mr8 mr9 mr10 mr11 mr12 mr13 mr14 mr15 mr16 mr17 mr18 mr19 mr20 hz ft18 ft19 ft20 fr
def fRk : Int → Int := (up (up (up (up (up (fun _ => 0) 0 1) 1 1) 2 2) 3 2) 4 3)
def fDk : Int → Int := (up (up (up (up (up (up (up (up (up (fun _ => 0) 0 4) 1 4) 2 5) 3 5) 4 6) 5 6) 6 7) 7 8) 8 8)
def fWt : Int → Int := (up (up (up (up (up (up (up (up (up (fun _ => 0) 0 4) 1 2) 2 3) 3 3) 4 5) 5 1) 6 6) 7 2) 8 8)
theorem X8_init_A {E : EnT} {lay : LyT} {r : RfT} {h : HpT} {b : Nat} (hl0 : lay b = (9, 0)) (h0 : h b = fun _ => 0)
    (K : ∀ (la : LyT) (ra : RfT) (ha : HpT), MdAt la ra b → (∀ x, b ≤ x → x ≤ b + 17 → ha x = fun _ => 0) → ha (b + 18) = fRk → ha (b + 19) = fDk → ha (b + 20) = fWt → (∀ x, x < b → la x = lay x ∧ ra x = r x ∧ ha x = h x) → St E mX8_init 271 [some (.ref b), none, none, none] [] (20, 10346) (b + 21) la ra ha) : St E mX8_init 0 [some (.ref b), none, none, none] [] (0, 0) (b + 1) lay r h := by
  refine X8_init_A4 (lay := lay) (r := r) (h := h) lay r h hl0 (fun x x0 x1 => by rw [show x = b by omega]; exact h0) (fun x x0 => ⟨rfl, rfl, rfl⟩) ?_
  intro la ra ha ml0 ml1 ml2 ml3 ml4 mr1 mr2 mr3 mr4 hz fr
  refine X8_init_A8 (lay := lay) (r := r) (h := h) la ra ha ml0 ml1 ml2 ml3 ml4 mr1 mr2 mr3 mr4 hz fr ?_
  clear ml0 ml1 ml2 ml3 ml4 mr1 mr2 mr3 mr4 hz fr la ra ha
  intro la ra ha ml0 ml1 ml2 ml3 ml4 ml5 ml6 ml7 ml8 mr1 mr2 mr3 mr4 mr5 mr6 mr7 mr8 hz fr
  refine X8_init_A11 (lay := lay) (r := r) (h := h) la ra ha ml0 ml1 ml2 ml3 ml4 ml5 ml6 ml7 ml8 mr1 mr2 mr3 mr4 mr5 mr6 mr7 mr8 hz fr ?_
  clear ml0 ml1 ml2 ml3 ml4 ml5 ml6 ml7 ml8 mr1 mr2 mr3 mr4 mr5 mr6 mr7 mr8 hz fr la ra ha
  intro la ra ha ml0 ml1 ml2 ml3 ml4 ml5 ml6 ml7 ml8 ml9 ml10 ml11 mr1 mr2 mr3 mr4 mr5 mr6 mr7 mr8 mr9 mr10 mr11 hz fr
  refine X8_init_A14 (lay := lay) (r := r) (h := h) la ra ha ml0 ml1 ml2 ml3 ml4 ml5 ml6 ml7 ml8 ml9 ml10 ml11 mr1 mr2 mr3 mr4 mr5 mr6 mr7 mr8 mr9 mr10 mr11 hz fr ?_
  clear ml0 ml1 ml2 ml3 ml4 ml5 ml6 ml7 ml8 ml9 ml10 ml11 mr1 mr2 mr3 mr4 mr5 mr6 mr7 mr8 mr9 mr10 mr11 hz fr la ra ha
  intro la ra ha ml0 ml1 ml2 ml3 ml4 ml5 ml6 ml7 ml8 ml9 ml10 ml11 ml12 ml13 ml14 mr1 mr2 mr3 mr4 mr5 mr6 mr7 mr8 mr9 mr10 mr11 mr12 mr13 mr14 hz fr
  refine X8_init_A16 (lay := lay) (r := r) (h := h) la ra ha ml0 ml1 ml2 ml3 ml4 ml5 ml6 ml7 ml8 ml9 ml10 ml11 ml12 ml13 ml14 mr1 mr2 mr3 mr4 mr5 mr6 mr7 mr8 mr9 mr10 mr11 mr12 mr13 mr14 hz fr ?_
  clear ml0 ml1 ml2 ml3 ml4 ml5 ml6 ml7 ml8 ml9 ml10 ml11 ml12 ml13 ml14 mr1 mr2 mr3 mr4 mr5 mr6 mr7 mr8 mr9 mr10 mr11 mr12 mr13 mr14 hz fr la ra ha
  intro la ra ha ml0 ml1 ml2 ml3 ml4 ml5 ml6 ml7 ml8 ml9 ml10 ml11 ml12 ml13 ml14 ml15 ml16 mr1 mr2 mr3 mr4 mr5 mr6 mr7 mr8 mr9 mr10 mr11 mr12 mr13 mr14 mr15 mr16 hz fr
  refine X8_init_A18 (lay := lay) (r := r) (h := h) la ra ha ml0 ml1 ml2 ml3 ml4 ml5 ml6 ml7 ml8 ml9 ml10 ml11 ml12 ml13 ml14 ml15 ml16 mr1 mr2 mr3 mr4 mr5 mr6 mr7 mr8 mr9 mr10 mr11 mr12 mr13 mr14 mr15 mr16 hz fr ?_
  clear ml0 ml1 ml2 ml3 ml4 ml5 ml6 ml7 ml8 ml9 ml10 ml11 ml12 ml13 ml14 ml15 ml16 mr1 mr2 mr3 mr4 mr5 mr6 mr7 mr8 mr9 mr10 mr11 mr12 mr13 mr14 mr15 mr16 hz fr la ra ha
  intro la ra ha ml0 ml1 ml2 ml3 ml4 ml5 ml6 ml7 ml8 ml9 ml10 ml11 ml12 ml13 ml14 ml15 ml16 ml17 ml18 mr1 mr2 mr3 mr4 mr5 mr6 mr7 mr8 mr9 mr10 mr11 mr12 mr13 mr14 mr15 mr16 mr17 mr18 hz ft18 fr
  refine X8_init_A19 (lay := lay) (r := r) (h := h) la ra ha ml0 ml1 ml2 ml3 ml4 ml5 ml6 ml7 ml8 ml9 ml10 ml11 ml12 ml13 ml14 ml15 ml16 ml17 ml18 mr1 mr2 mr3 mr4 mr5 mr6 mr7 mr8 mr9 mr10 mr11 mr12 mr13 mr14 mr15 mr16 mr17 mr18 hz ft18 fr ?_
  clear ml0 ml1 ml2 ml3 ml4 ml5 ml6 ml7 ml8 ml9 ml10 ml11 ml12 ml13 ml14 ml15 ml16 ml17 ml18 mr1 mr2 mr3 mr4 mr5 mr6 mr7 mr8 mr9 mr10 mr11 mr12 mr13 mr14 mr15 mr16 mr17 mr18 hz ft18 fr la ra ha
  intro la ra ha ml0 ml1 ml2 ml3 ml4 ml5 ml6 ml7 ml8 ml9 ml10 ml11 ml12 ml13 ml14 ml15 ml16 ml17 ml18 ml19 mr1 mr2 mr3 mr4 mr5 mr6 mr7 mr8 mr9 mr10 mr11 mr12 mr13 mr14 mr15 mr16 mr17 mr18 mr19 hz ft18 ft19 fr
  refine X8_init_A20 (lay := lay) (r := r) (h := h) la ra ha ml0 ml1 ml2 ml3 ml4 ml5 ml6 ml7 ml8 ml9 ml10 ml11 ml12 ml13 ml14 ml15 ml16 ml17 ml18 ml19 mr1 mr2 mr3 mr4 mr5 mr6 mr7 mr8 mr9 mr10 mr11 mr12 mr13 mr14 mr15 mr16 mr17 mr18 mr19 hz ft18 ft19 fr ?_
  clear ml0 ml1 ml2 ml3 ml4 ml5 ml6 ml7 ml8 ml9 ml10 ml11 ml12 ml13 ml14 ml15 ml16 ml17 ml18 ml19 mr1 mr2 mr3 mr4 mr5 mr6 mr7 mr8 mr9 mr10 mr11 mr12 mr13 mr14 mr15 mr16 mr17 mr18 mr19 hz ft18 ft19 fr la ra ha
  intro la ra ha ml0 ml1 ml2 ml3 ml4 ml5 ml6 ml7 ml8 ml9 ml10 ml11 ml12 ml13 ml14 ml15 ml16 ml17 ml18 ml19 ml20 mr1 mr2 mr3 mr4 mr5 mr6 mr7 mr8 mr9 mr10 mr11 mr12 mr13 mr14 mr15 mr16 mr17 mr18 mr19 mr20 hz ft18 ft19 ft20 fr
  exact K la ra ha ⟨ml0, ml1, ml2, ml3, ml4, ml5, ml6, ml7, ml8, ml9, ml10, ml11, ml12, ml13, ml14, ml15, ml16, ml17, ml18, ml19, ml20, mr1, mr2, mr3, mr4, mr5, mr6, mr7, mr8, mr9, mr10, mr11, mr12, mr13, mr14, mr15, mr16, mr17, mr18, mr19, mr20⟩ hz ft18 ft19 ft20 fr
