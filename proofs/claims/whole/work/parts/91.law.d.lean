theorem d_law_0 : decode b_law 0 = .ok (.new 7, 3) := by decide +kernel
theorem d_law_3 : decode b_law 3 = .ok (.dup, 1) := by decide +kernel
theorem d_law_4 : decode b_law 4 = .ok (.invokespecial 9, 3) := by decide +kernel
theorem d_law_7 : decode b_law 7 = .ok (.astore_n 1, 1) := by decide +kernel
theorem d_law_8 : decode b_law 8 = .ok (.new 10, 3) := by decide +kernel
theorem d_law_11 : decode b_law 11 = .ok (.dup, 1) := by decide +kernel
theorem d_law_12 : decode b_law 12 = .ok (.invokespecial 12, 3) := by decide +kernel
theorem d_law_15 : decode b_law 15 = .ok (.astore_n 2, 1) := by decide +kernel
theorem d_law_16 : decode b_law 16 = .ok (.iconst 0, 1) := by decide +kernel
theorem d_law_17 : decode b_law 17 = .ok (.istore_n 3, 1) := by decide +kernel
theorem d_law_18 : decode b_law 18 = .ok (.iload_n 3, 1) := by decide +kernel
theorem d_law_19 : decode b_law 19 = .ok (.aload_n 0, 1) := by decide +kernel
theorem d_law_20 : decode b_law 20 = .ok (.arraylength, 1) := by decide +kernel
theorem d_law_21 : decode b_law 21 = .ok (.iconst 5, 1) := by decide +kernel
theorem d_law_22 : decode b_law 22 = .ok (.isub, 1) := by decide +kernel
theorem d_law_23 : decode b_law 23 = .ok (.if_icmp .gt 466, 3) := by decide +kernel
theorem d_law_26 : decode b_law 26 = .ok (.aload_n 0, 1) := by decide +kernel
theorem d_law_27 : decode b_law 27 = .ok (.iload_n 3, 1) := by decide +kernel
theorem d_law_28 : decode b_law 28 = .ok (.iaload, 1) := by decide +kernel
theorem d_law_29 : decode b_law 29 = .ok (.bipush 15, 2) := by decide +kernel
theorem d_law_31 : decode b_law 31 = .ok (.iand, 1) := by decide +kernel
theorem d_law_32 : decode b_law 32 = .ok (.tableswitch 451 0 8 #[52, 115, 178, 211, 234, 308, 331, 354, 377], 52) := by decide +kernel
theorem d_law_84 : decode b_law 84 = .ok (.aload_n 1, 1) := by decide +kernel
theorem d_law_85 : decode b_law 85 = .ok (.aload_n 0, 1) := by decide +kernel
theorem d_law_86 : decode b_law 86 = .ok (.iload_n 3, 1) := by decide +kernel
theorem d_law_87 : decode b_law 87 = .ok (.iconst 1, 1) := by decide +kernel
theorem d_law_88 : decode b_law 88 = .ok (.iadd, 1) := by decide +kernel
theorem d_law_89 : decode b_law 89 = .ok (.iaload, 1) := by decide +kernel
theorem d_law_90 : decode b_law 90 = .ok (.aload_n 0, 1) := by decide +kernel
theorem d_law_91 : decode b_law 91 = .ok (.iload_n 3, 1) := by decide +kernel
theorem d_law_92 : decode b_law 92 = .ok (.iconst 2, 1) := by decide +kernel
theorem d_law_93 : decode b_law 93 = .ok (.iadd, 1) := by decide +kernel
theorem d_law_94 : decode b_law 94 = .ok (.iaload, 1) := by decide +kernel
theorem d_law_95 : decode b_law 95 = .ok (.i2l, 1) := by decide +kernel
theorem d_law_96 : decode b_law 96 = .ok (.bipush 32, 2) := by decide +kernel
theorem d_law_98 : decode b_law 98 = .ok (.lshl, 1) := by decide +kernel
theorem d_law_99 : decode b_law 99 = .ok (.aload_n 0, 1) := by decide +kernel
theorem d_law_100 : decode b_law 100 = .ok (.iload_n 3, 1) := by decide +kernel
theorem d_law_101 : decode b_law 101 = .ok (.iconst 3, 1) := by decide +kernel
theorem d_law_102 : decode b_law 102 = .ok (.iadd, 1) := by decide +kernel
theorem d_law_103 : decode b_law 103 = .ok (.iaload, 1) := by decide +kernel
theorem d_law_104 : decode b_law 104 = .ok (.i2l, 1) := by decide +kernel
theorem d_law_105 : decode b_law 105 = .ok (.ldc2_w 13, 3) := by decide +kernel
theorem d_law_108 : decode b_law 108 = .ok (.land, 1) := by decide +kernel
theorem d_law_109 : decode b_law 109 = .ok (.lor, 1) := by decide +kernel
theorem d_law_110 : decode b_law 110 = .ok (.invokevirtual 15, 3) := by decide +kernel
theorem d_law_113 : decode b_law 113 = .ok (.aload_n 2, 1) := by decide +kernel
theorem d_law_114 : decode b_law 114 = .ok (.aload_n 0, 1) := by decide +kernel
theorem d_law_115 : decode b_law 115 = .ok (.iload_n 3, 1) := by decide +kernel
theorem d_law_116 : decode b_law 116 = .ok (.iconst 1, 1) := by decide +kernel
theorem d_law_117 : decode b_law 117 = .ok (.iadd, 1) := by decide +kernel
theorem d_law_118 : decode b_law 118 = .ok (.iaload, 1) := by decide +kernel
theorem d_law_119 : decode b_law 119 = .ok (.aload_n 0, 1) := by decide +kernel
theorem d_law_120 : decode b_law 120 = .ok (.iload_n 3, 1) := by decide +kernel
theorem d_law_121 : decode b_law 121 = .ok (.iconst 2, 1) := by decide +kernel
theorem d_law_122 : decode b_law 122 = .ok (.iadd, 1) := by decide +kernel
theorem d_law_123 : decode b_law 123 = .ok (.iaload, 1) := by decide +kernel
theorem d_law_124 : decode b_law 124 = .ok (.i2l, 1) := by decide +kernel
theorem d_law_125 : decode b_law 125 = .ok (.bipush 32, 2) := by decide +kernel
theorem d_law_127 : decode b_law 127 = .ok (.lshl, 1) := by decide +kernel
theorem d_law_128 : decode b_law 128 = .ok (.aload_n 0, 1) := by decide +kernel
theorem d_law_129 : decode b_law 129 = .ok (.iload_n 3, 1) := by decide +kernel
theorem d_law_130 : decode b_law 130 = .ok (.iconst 3, 1) := by decide +kernel
theorem d_law_131 : decode b_law 131 = .ok (.iadd, 1) := by decide +kernel
theorem d_law_132 : decode b_law 132 = .ok (.iaload, 1) := by decide +kernel
theorem d_law_133 : decode b_law 133 = .ok (.i2l, 1) := by decide +kernel
theorem d_law_134 : decode b_law 134 = .ok (.ldc2_w 13, 3) := by decide +kernel
theorem d_law_137 : decode b_law 137 = .ok (.land, 1) := by decide +kernel
theorem d_law_138 : decode b_law 138 = .ok (.lor, 1) := by decide +kernel
theorem d_law_139 : decode b_law 139 = .ok (.invokevirtual 19, 3) := by decide +kernel
theorem d_law_142 : decode b_law 142 = .ok (.if_icmp .eq 341, 3) := by decide +kernel
theorem d_law_145 : decode b_law 145 = .ok (.iconst 0, 1) := by decide +kernel
theorem d_law_146 : decode b_law 146 = .ok (.ireturn, 1) := by decide +kernel
theorem d_law_147 : decode b_law 147 = .ok (.aload_n 1, 1) := by decide +kernel
theorem d_law_148 : decode b_law 148 = .ok (.aload_n 0, 1) := by decide +kernel
theorem d_law_149 : decode b_law 149 = .ok (.iload_n 3, 1) := by decide +kernel
theorem d_law_150 : decode b_law 150 = .ok (.iconst 1, 1) := by decide +kernel
theorem d_law_151 : decode b_law 151 = .ok (.iadd, 1) := by decide +kernel
theorem d_law_152 : decode b_law 152 = .ok (.iaload, 1) := by decide +kernel
theorem d_law_153 : decode b_law 153 = .ok (.aload_n 0, 1) := by decide +kernel
theorem d_law_154 : decode b_law 154 = .ok (.iload_n 3, 1) := by decide +kernel
theorem d_law_155 : decode b_law 155 = .ok (.iconst 2, 1) := by decide +kernel
theorem d_law_156 : decode b_law 156 = .ok (.iadd, 1) := by decide +kernel
theorem d_law_157 : decode b_law 157 = .ok (.iaload, 1) := by decide +kernel
theorem d_law_158 : decode b_law 158 = .ok (.i2l, 1) := by decide +kernel
theorem d_law_159 : decode b_law 159 = .ok (.bipush 32, 2) := by decide +kernel
theorem d_law_161 : decode b_law 161 = .ok (.lshl, 1) := by decide +kernel
theorem d_law_162 : decode b_law 162 = .ok (.aload_n 0, 1) := by decide +kernel
theorem d_law_163 : decode b_law 163 = .ok (.iload_n 3, 1) := by decide +kernel
theorem d_law_164 : decode b_law 164 = .ok (.iconst 3, 1) := by decide +kernel
theorem d_law_165 : decode b_law 165 = .ok (.iadd, 1) := by decide +kernel
theorem d_law_166 : decode b_law 166 = .ok (.iaload, 1) := by decide +kernel
theorem d_law_167 : decode b_law 167 = .ok (.i2l, 1) := by decide +kernel
theorem d_law_168 : decode b_law 168 = .ok (.ldc2_w 13, 3) := by decide +kernel
theorem d_law_171 : decode b_law 171 = .ok (.land, 1) := by decide +kernel
theorem d_law_172 : decode b_law 172 = .ok (.lor, 1) := by decide +kernel
theorem d_law_173 : decode b_law 173 = .ok (.invokevirtual 20, 3) := by decide +kernel
theorem d_law_176 : decode b_law 176 = .ok (.aload_n 2, 1) := by decide +kernel
theorem d_law_177 : decode b_law 177 = .ok (.aload_n 0, 1) := by decide +kernel
theorem d_law_178 : decode b_law 178 = .ok (.iload_n 3, 1) := by decide +kernel
theorem d_law_179 : decode b_law 179 = .ok (.iconst 1, 1) := by decide +kernel
theorem d_law_180 : decode b_law 180 = .ok (.iadd, 1) := by decide +kernel
theorem d_law_181 : decode b_law 181 = .ok (.iaload, 1) := by decide +kernel
theorem d_law_182 : decode b_law 182 = .ok (.aload_n 0, 1) := by decide +kernel
theorem d_law_183 : decode b_law 183 = .ok (.iload_n 3, 1) := by decide +kernel
theorem d_law_184 : decode b_law 184 = .ok (.iconst 2, 1) := by decide +kernel
theorem d_law_185 : decode b_law 185 = .ok (.iadd, 1) := by decide +kernel
theorem d_law_186 : decode b_law 186 = .ok (.iaload, 1) := by decide +kernel
theorem d_law_187 : decode b_law 187 = .ok (.i2l, 1) := by decide +kernel
theorem d_law_188 : decode b_law 188 = .ok (.bipush 32, 2) := by decide +kernel
theorem d_law_190 : decode b_law 190 = .ok (.lshl, 1) := by decide +kernel
theorem d_law_191 : decode b_law 191 = .ok (.aload_n 0, 1) := by decide +kernel
theorem d_law_192 : decode b_law 192 = .ok (.iload_n 3, 1) := by decide +kernel
theorem d_law_193 : decode b_law 193 = .ok (.iconst 3, 1) := by decide +kernel
theorem d_law_194 : decode b_law 194 = .ok (.iadd, 1) := by decide +kernel
theorem d_law_195 : decode b_law 195 = .ok (.iaload, 1) := by decide +kernel
theorem d_law_196 : decode b_law 196 = .ok (.i2l, 1) := by decide +kernel
theorem d_law_197 : decode b_law 197 = .ok (.ldc2_w 13, 3) := by decide +kernel
theorem d_law_200 : decode b_law 200 = .ok (.land, 1) := by decide +kernel
theorem d_law_201 : decode b_law 201 = .ok (.lor, 1) := by decide +kernel
theorem d_law_202 : decode b_law 202 = .ok (.invokevirtual 23, 3) := by decide +kernel
theorem d_law_205 : decode b_law 205 = .ok (.if_icmp .eq 278, 3) := by decide +kernel
theorem d_law_208 : decode b_law 208 = .ok (.iconst 0, 1) := by decide +kernel
theorem d_law_209 : decode b_law 209 = .ok (.ireturn, 1) := by decide +kernel
theorem d_law_210 : decode b_law 210 = .ok (.aload_n 1, 1) := by decide +kernel
theorem d_law_211 : decode b_law 211 = .ok (.aload_n 0, 1) := by decide +kernel
theorem d_law_212 : decode b_law 212 = .ok (.iload_n 3, 1) := by decide +kernel
theorem d_law_213 : decode b_law 213 = .ok (.iconst 1, 1) := by decide +kernel
theorem d_law_214 : decode b_law 214 = .ok (.iadd, 1) := by decide +kernel
theorem d_law_215 : decode b_law 215 = .ok (.iaload, 1) := by decide +kernel
theorem d_law_216 : decode b_law 216 = .ok (.aload_n 0, 1) := by decide +kernel
theorem d_law_217 : decode b_law 217 = .ok (.iload_n 3, 1) := by decide +kernel
theorem d_law_218 : decode b_law 218 = .ok (.iconst 2, 1) := by decide +kernel
theorem d_law_219 : decode b_law 219 = .ok (.iadd, 1) := by decide +kernel
theorem d_law_220 : decode b_law 220 = .ok (.iaload, 1) := by decide +kernel
theorem d_law_221 : decode b_law 221 = .ok (.invokevirtual 24, 3) := by decide +kernel
theorem d_law_224 : decode b_law 224 = .ok (.aload_n 2, 1) := by decide +kernel
theorem d_law_225 : decode b_law 225 = .ok (.aload_n 0, 1) := by decide +kernel
theorem d_law_226 : decode b_law 226 = .ok (.iload_n 3, 1) := by decide +kernel
theorem d_law_227 : decode b_law 227 = .ok (.iconst 1, 1) := by decide +kernel
theorem d_law_228 : decode b_law 228 = .ok (.iadd, 1) := by decide +kernel
theorem d_law_229 : decode b_law 229 = .ok (.iaload, 1) := by decide +kernel
theorem d_law_230 : decode b_law 230 = .ok (.aload_n 0, 1) := by decide +kernel
theorem d_law_231 : decode b_law 231 = .ok (.iload_n 3, 1) := by decide +kernel
theorem d_law_232 : decode b_law 232 = .ok (.iconst 2, 1) := by decide +kernel
theorem d_law_233 : decode b_law 233 = .ok (.iadd, 1) := by decide +kernel
theorem d_law_234 : decode b_law 234 = .ok (.iaload, 1) := by decide +kernel
theorem d_law_235 : decode b_law 235 = .ok (.invokevirtual 28, 3) := by decide +kernel
theorem d_law_238 : decode b_law 238 = .ok (.if_icmp .eq 245, 3) := by decide +kernel
theorem d_law_241 : decode b_law 241 = .ok (.iconst 0, 1) := by decide +kernel
theorem d_law_242 : decode b_law 242 = .ok (.ireturn, 1) := by decide +kernel
theorem d_law_243 : decode b_law 243 = .ok (.aload_n 1, 1) := by decide +kernel
theorem d_law_244 : decode b_law 244 = .ok (.aload_n 0, 1) := by decide +kernel
theorem d_law_245 : decode b_law 245 = .ok (.iload_n 3, 1) := by decide +kernel
theorem d_law_246 : decode b_law 246 = .ok (.iconst 1, 1) := by decide +kernel
theorem d_law_247 : decode b_law 247 = .ok (.iadd, 1) := by decide +kernel
theorem d_law_248 : decode b_law 248 = .ok (.iaload, 1) := by decide +kernel
theorem d_law_249 : decode b_law 249 = .ok (.invokevirtual 29, 3) := by decide +kernel
theorem d_law_252 : decode b_law 252 = .ok (.aload_n 2, 1) := by decide +kernel
theorem d_law_253 : decode b_law 253 = .ok (.aload_n 0, 1) := by decide +kernel
theorem d_law_254 : decode b_law 254 = .ok (.iload_n 3, 1) := by decide +kernel
theorem d_law_255 : decode b_law 255 = .ok (.iconst 1, 1) := by decide +kernel
theorem d_law_256 : decode b_law 256 = .ok (.iadd, 1) := by decide +kernel
theorem d_law_257 : decode b_law 257 = .ok (.iaload, 1) := by decide +kernel
theorem d_law_258 : decode b_law 258 = .ok (.invokevirtual 33, 3) := by decide +kernel
theorem d_law_261 : decode b_law 261 = .ok (.if_icmp .eq 222, 3) := by decide +kernel
theorem d_law_264 : decode b_law 264 = .ok (.iconst 0, 1) := by decide +kernel
theorem d_law_265 : decode b_law 265 = .ok (.ireturn, 1) := by decide +kernel
theorem d_law_266 : decode b_law 266 = .ok (.aload_n 1, 1) := by decide +kernel
theorem d_law_267 : decode b_law 267 = .ok (.aload_n 0, 1) := by decide +kernel
theorem d_law_268 : decode b_law 268 = .ok (.iload_n 3, 1) := by decide +kernel
theorem d_law_269 : decode b_law 269 = .ok (.iconst 1, 1) := by decide +kernel
theorem d_law_270 : decode b_law 270 = .ok (.iadd, 1) := by decide +kernel
theorem d_law_271 : decode b_law 271 = .ok (.iaload, 1) := by decide +kernel
theorem d_law_272 : decode b_law 272 = .ok (.aload_n 0, 1) := by decide +kernel
theorem d_law_273 : decode b_law 273 = .ok (.iload_n 3, 1) := by decide +kernel
theorem d_law_274 : decode b_law 274 = .ok (.iconst 2, 1) := by decide +kernel
theorem d_law_275 : decode b_law 275 = .ok (.iadd, 1) := by decide +kernel
theorem d_law_276 : decode b_law 276 = .ok (.iaload, 1) := by decide +kernel
theorem d_law_277 : decode b_law 277 = .ok (.aload_n 0, 1) := by decide +kernel
theorem d_law_278 : decode b_law 278 = .ok (.iload_n 3, 1) := by decide +kernel
theorem d_law_279 : decode b_law 279 = .ok (.iconst 3, 1) := by decide +kernel
theorem d_law_280 : decode b_law 280 = .ok (.iadd, 1) := by decide +kernel
theorem d_law_281 : decode b_law 281 = .ok (.iaload, 1) := by decide +kernel
theorem d_law_282 : decode b_law 282 = .ok (.i2l, 1) := by decide +kernel
theorem d_law_283 : decode b_law 283 = .ok (.bipush 32, 2) := by decide +kernel
theorem d_law_285 : decode b_law 285 = .ok (.lshl, 1) := by decide +kernel
theorem d_law_286 : decode b_law 286 = .ok (.aload_n 0, 1) := by decide +kernel
theorem d_law_287 : decode b_law 287 = .ok (.iload_n 3, 1) := by decide +kernel
theorem d_law_288 : decode b_law 288 = .ok (.iconst 4, 1) := by decide +kernel
theorem d_law_289 : decode b_law 289 = .ok (.iadd, 1) := by decide +kernel
theorem d_law_290 : decode b_law 290 = .ok (.iaload, 1) := by decide +kernel
theorem d_law_291 : decode b_law 291 = .ok (.i2l, 1) := by decide +kernel
theorem d_law_292 : decode b_law 292 = .ok (.ldc2_w 13, 3) := by decide +kernel
theorem d_law_295 : decode b_law 295 = .ok (.land, 1) := by decide +kernel
theorem d_law_296 : decode b_law 296 = .ok (.lor, 1) := by decide +kernel
theorem d_law_297 : decode b_law 297 = .ok (.invokevirtual 34, 3) := by decide +kernel
theorem d_law_300 : decode b_law 300 = .ok (.aload_n 2, 1) := by decide +kernel
theorem d_law_301 : decode b_law 301 = .ok (.aload_n 0, 1) := by decide +kernel
theorem d_law_302 : decode b_law 302 = .ok (.iload_n 3, 1) := by decide +kernel
theorem d_law_303 : decode b_law 303 = .ok (.iconst 1, 1) := by decide +kernel
theorem d_law_304 : decode b_law 304 = .ok (.iadd, 1) := by decide +kernel
theorem d_law_305 : decode b_law 305 = .ok (.iaload, 1) := by decide +kernel
theorem d_law_306 : decode b_law 306 = .ok (.aload_n 0, 1) := by decide +kernel
theorem d_law_307 : decode b_law 307 = .ok (.iload_n 3, 1) := by decide +kernel
theorem d_law_308 : decode b_law 308 = .ok (.iconst 2, 1) := by decide +kernel
theorem d_law_309 : decode b_law 309 = .ok (.iadd, 1) := by decide +kernel
theorem d_law_310 : decode b_law 310 = .ok (.iaload, 1) := by decide +kernel
theorem d_law_311 : decode b_law 311 = .ok (.aload_n 0, 1) := by decide +kernel
theorem d_law_312 : decode b_law 312 = .ok (.iload_n 3, 1) := by decide +kernel
theorem d_law_313 : decode b_law 313 = .ok (.iconst 3, 1) := by decide +kernel
theorem d_law_314 : decode b_law 314 = .ok (.iadd, 1) := by decide +kernel
theorem d_law_315 : decode b_law 315 = .ok (.iaload, 1) := by decide +kernel
theorem d_law_316 : decode b_law 316 = .ok (.i2l, 1) := by decide +kernel
theorem d_law_317 : decode b_law 317 = .ok (.bipush 32, 2) := by decide +kernel
theorem d_law_319 : decode b_law 319 = .ok (.lshl, 1) := by decide +kernel
theorem d_law_320 : decode b_law 320 = .ok (.aload_n 0, 1) := by decide +kernel
theorem d_law_321 : decode b_law 321 = .ok (.iload_n 3, 1) := by decide +kernel
theorem d_law_322 : decode b_law 322 = .ok (.iconst 4, 1) := by decide +kernel
theorem d_law_323 : decode b_law 323 = .ok (.iadd, 1) := by decide +kernel
theorem d_law_324 : decode b_law 324 = .ok (.iaload, 1) := by decide +kernel
theorem d_law_325 : decode b_law 325 = .ok (.i2l, 1) := by decide +kernel
theorem d_law_326 : decode b_law 326 = .ok (.ldc2_w 13, 3) := by decide +kernel
theorem d_law_329 : decode b_law 329 = .ok (.land, 1) := by decide +kernel
theorem d_law_330 : decode b_law 330 = .ok (.lor, 1) := by decide +kernel
theorem d_law_331 : decode b_law 331 = .ok (.invokevirtual 38, 3) := by decide +kernel
theorem d_law_334 : decode b_law 334 = .ok (.lcmp, 1) := by decide +kernel
theorem d_law_335 : decode b_law 335 = .ok (.ifCond .eq 148, 3) := by decide +kernel
theorem d_law_338 : decode b_law 338 = .ok (.iconst 0, 1) := by decide +kernel
theorem d_law_339 : decode b_law 339 = .ok (.ireturn, 1) := by decide +kernel
theorem d_law_340 : decode b_law 340 = .ok (.aload_n 1, 1) := by decide +kernel
theorem d_law_341 : decode b_law 341 = .ok (.aload_n 0, 1) := by decide +kernel
theorem d_law_342 : decode b_law 342 = .ok (.iload_n 3, 1) := by decide +kernel
theorem d_law_343 : decode b_law 343 = .ok (.iconst 1, 1) := by decide +kernel
theorem d_law_344 : decode b_law 344 = .ok (.iadd, 1) := by decide +kernel
theorem d_law_345 : decode b_law 345 = .ok (.iaload, 1) := by decide +kernel
theorem d_law_346 : decode b_law 346 = .ok (.invokevirtual 39, 3) := by decide +kernel
theorem d_law_349 : decode b_law 349 = .ok (.aload_n 2, 1) := by decide +kernel
theorem d_law_350 : decode b_law 350 = .ok (.aload_n 0, 1) := by decide +kernel
theorem d_law_351 : decode b_law 351 = .ok (.iload_n 3, 1) := by decide +kernel
theorem d_law_352 : decode b_law 352 = .ok (.iconst 1, 1) := by decide +kernel
theorem d_law_353 : decode b_law 353 = .ok (.iadd, 1) := by decide +kernel
theorem d_law_354 : decode b_law 354 = .ok (.iaload, 1) := by decide +kernel
theorem d_law_355 : decode b_law 355 = .ok (.invokevirtual 42, 3) := by decide +kernel
theorem d_law_358 : decode b_law 358 = .ok (.if_icmp .eq 125, 3) := by decide +kernel
theorem d_law_361 : decode b_law 361 = .ok (.iconst 0, 1) := by decide +kernel
theorem d_law_362 : decode b_law 362 = .ok (.ireturn, 1) := by decide +kernel
theorem d_law_363 : decode b_law 363 = .ok (.aload_n 1, 1) := by decide +kernel
theorem d_law_364 : decode b_law 364 = .ok (.aload_n 0, 1) := by decide +kernel
theorem d_law_365 : decode b_law 365 = .ok (.iload_n 3, 1) := by decide +kernel
theorem d_law_366 : decode b_law 366 = .ok (.iconst 1, 1) := by decide +kernel
theorem d_law_367 : decode b_law 367 = .ok (.iadd, 1) := by decide +kernel
theorem d_law_368 : decode b_law 368 = .ok (.iaload, 1) := by decide +kernel
theorem d_law_369 : decode b_law 369 = .ok (.invokevirtual 43, 3) := by decide +kernel
theorem d_law_372 : decode b_law 372 = .ok (.aload_n 2, 1) := by decide +kernel
theorem d_law_373 : decode b_law 373 = .ok (.aload_n 0, 1) := by decide +kernel
theorem d_law_374 : decode b_law 374 = .ok (.iload_n 3, 1) := by decide +kernel
theorem d_law_375 : decode b_law 375 = .ok (.iconst 1, 1) := by decide +kernel
theorem d_law_376 : decode b_law 376 = .ok (.iadd, 1) := by decide +kernel
theorem d_law_377 : decode b_law 377 = .ok (.iaload, 1) := by decide +kernel
theorem d_law_378 : decode b_law 378 = .ok (.invokevirtual 47, 3) := by decide +kernel
theorem d_law_381 : decode b_law 381 = .ok (.if_icmp .eq 102, 3) := by decide +kernel
theorem d_law_384 : decode b_law 384 = .ok (.iconst 0, 1) := by decide +kernel
theorem d_law_385 : decode b_law 385 = .ok (.ireturn, 1) := by decide +kernel
theorem d_law_386 : decode b_law 386 = .ok (.aload_n 1, 1) := by decide +kernel
theorem d_law_387 : decode b_law 387 = .ok (.aload_n 0, 1) := by decide +kernel
theorem d_law_388 : decode b_law 388 = .ok (.iload_n 3, 1) := by decide +kernel
theorem d_law_389 : decode b_law 389 = .ok (.iconst 1, 1) := by decide +kernel
theorem d_law_390 : decode b_law 390 = .ok (.iadd, 1) := by decide +kernel
theorem d_law_391 : decode b_law 391 = .ok (.iaload, 1) := by decide +kernel
theorem d_law_392 : decode b_law 392 = .ok (.invokevirtual 48, 3) := by decide +kernel
theorem d_law_395 : decode b_law 395 = .ok (.aload_n 2, 1) := by decide +kernel
theorem d_law_396 : decode b_law 396 = .ok (.aload_n 0, 1) := by decide +kernel
theorem d_law_397 : decode b_law 397 = .ok (.iload_n 3, 1) := by decide +kernel
theorem d_law_398 : decode b_law 398 = .ok (.iconst 1, 1) := by decide +kernel
theorem d_law_399 : decode b_law 399 = .ok (.iadd, 1) := by decide +kernel
theorem d_law_400 : decode b_law 400 = .ok (.iaload, 1) := by decide +kernel
theorem d_law_401 : decode b_law 401 = .ok (.invokevirtual 51, 3) := by decide +kernel
theorem d_law_404 : decode b_law 404 = .ok (.if_icmp .eq 79, 3) := by decide +kernel
theorem d_law_407 : decode b_law 407 = .ok (.iconst 0, 1) := by decide +kernel
theorem d_law_408 : decode b_law 408 = .ok (.ireturn, 1) := by decide +kernel
theorem d_law_409 : decode b_law 409 = .ok (.aload_n 1, 1) := by decide +kernel
theorem d_law_410 : decode b_law 410 = .ok (.aload_n 0, 1) := by decide +kernel
theorem d_law_411 : decode b_law 411 = .ok (.iload_n 3, 1) := by decide +kernel
theorem d_law_412 : decode b_law 412 = .ok (.iconst 1, 1) := by decide +kernel
theorem d_law_413 : decode b_law 413 = .ok (.iadd, 1) := by decide +kernel
theorem d_law_414 : decode b_law 414 = .ok (.iaload, 1) := by decide +kernel
theorem d_law_415 : decode b_law 415 = .ok (.aload_n 0, 1) := by decide +kernel
theorem d_law_416 : decode b_law 416 = .ok (.iload_n 3, 1) := by decide +kernel
theorem d_law_417 : decode b_law 417 = .ok (.iconst 2, 1) := by decide +kernel
theorem d_law_418 : decode b_law 418 = .ok (.iadd, 1) := by decide +kernel
theorem d_law_419 : decode b_law 419 = .ok (.iaload, 1) := by decide +kernel
theorem d_law_420 : decode b_law 420 = .ok (.aload_n 0, 1) := by decide +kernel
theorem d_law_421 : decode b_law 421 = .ok (.iload_n 3, 1) := by decide +kernel
theorem d_law_422 : decode b_law 422 = .ok (.iconst 3, 1) := by decide +kernel
theorem d_law_423 : decode b_law 423 = .ok (.iadd, 1) := by decide +kernel
theorem d_law_424 : decode b_law 424 = .ok (.iaload, 1) := by decide +kernel
theorem d_law_425 : decode b_law 425 = .ok (.i2l, 1) := by decide +kernel
theorem d_law_426 : decode b_law 426 = .ok (.bipush 32, 2) := by decide +kernel
theorem d_law_428 : decode b_law 428 = .ok (.lshl, 1) := by decide +kernel
theorem d_law_429 : decode b_law 429 = .ok (.aload_n 0, 1) := by decide +kernel
theorem d_law_430 : decode b_law 430 = .ok (.iload_n 3, 1) := by decide +kernel
theorem d_law_431 : decode b_law 431 = .ok (.iconst 4, 1) := by decide +kernel
theorem d_law_432 : decode b_law 432 = .ok (.iadd, 1) := by decide +kernel
theorem d_law_433 : decode b_law 433 = .ok (.iaload, 1) := by decide +kernel
theorem d_law_434 : decode b_law 434 = .ok (.i2l, 1) := by decide +kernel
theorem d_law_435 : decode b_law 435 = .ok (.ldc2_w 13, 3) := by decide +kernel
theorem d_law_438 : decode b_law 438 = .ok (.land, 1) := by decide +kernel
theorem d_law_439 : decode b_law 439 = .ok (.lor, 1) := by decide +kernel
theorem d_law_440 : decode b_law 440 = .ok (.invokevirtual 52, 3) := by decide +kernel
theorem d_law_443 : decode b_law 443 = .ok (.aload_n 2, 1) := by decide +kernel
theorem d_law_444 : decode b_law 444 = .ok (.aload_n 0, 1) := by decide +kernel
theorem d_law_445 : decode b_law 445 = .ok (.iload_n 3, 1) := by decide +kernel
theorem d_law_446 : decode b_law 446 = .ok (.iconst 1, 1) := by decide +kernel
theorem d_law_447 : decode b_law 447 = .ok (.iadd, 1) := by decide +kernel
theorem d_law_448 : decode b_law 448 = .ok (.iaload, 1) := by decide +kernel
theorem d_law_449 : decode b_law 449 = .ok (.aload_n 0, 1) := by decide +kernel
theorem d_law_450 : decode b_law 450 = .ok (.iload_n 3, 1) := by decide +kernel
theorem d_law_451 : decode b_law 451 = .ok (.iconst 2, 1) := by decide +kernel
theorem d_law_452 : decode b_law 452 = .ok (.iadd, 1) := by decide +kernel
theorem d_law_453 : decode b_law 453 = .ok (.iaload, 1) := by decide +kernel
theorem d_law_454 : decode b_law 454 = .ok (.aload_n 0, 1) := by decide +kernel
theorem d_law_455 : decode b_law 455 = .ok (.iload_n 3, 1) := by decide +kernel
theorem d_law_456 : decode b_law 456 = .ok (.iconst 3, 1) := by decide +kernel
theorem d_law_457 : decode b_law 457 = .ok (.iadd, 1) := by decide +kernel
theorem d_law_458 : decode b_law 458 = .ok (.iaload, 1) := by decide +kernel
theorem d_law_459 : decode b_law 459 = .ok (.i2l, 1) := by decide +kernel
theorem d_law_460 : decode b_law 460 = .ok (.bipush 32, 2) := by decide +kernel
theorem d_law_462 : decode b_law 462 = .ok (.lshl, 1) := by decide +kernel
theorem d_law_463 : decode b_law 463 = .ok (.aload_n 0, 1) := by decide +kernel
theorem d_law_464 : decode b_law 464 = .ok (.iload_n 3, 1) := by decide +kernel
theorem d_law_465 : decode b_law 465 = .ok (.iconst 4, 1) := by decide +kernel
theorem d_law_466 : decode b_law 466 = .ok (.iadd, 1) := by decide +kernel
theorem d_law_467 : decode b_law 467 = .ok (.iaload, 1) := by decide +kernel
theorem d_law_468 : decode b_law 468 = .ok (.i2l, 1) := by decide +kernel
theorem d_law_469 : decode b_law 469 = .ok (.ldc2_w 13, 3) := by decide +kernel
theorem d_law_472 : decode b_law 472 = .ok (.land, 1) := by decide +kernel
theorem d_law_473 : decode b_law 473 = .ok (.lor, 1) := by decide +kernel
theorem d_law_474 : decode b_law 474 = .ok (.invokevirtual 55, 3) := by decide +kernel
theorem d_law_477 : decode b_law 477 = .ok (.lcmp, 1) := by decide +kernel
theorem d_law_478 : decode b_law 478 = .ok (.ifCond .eq 5, 3) := by decide +kernel
theorem d_law_481 : decode b_law 481 = .ok (.iconst 0, 1) := by decide +kernel
theorem d_law_482 : decode b_law 482 = .ok (.ireturn, 1) := by decide +kernel
theorem d_law_483 : decode b_law 483 = .ok (.iinc 3 5, 3) := by decide +kernel
theorem d_law_486 : decode b_law 486 = .ok (.goto (-468), 3) := by decide +kernel
theorem d_law_489 : decode b_law 489 = .ok (.iconst 1, 1) := by decide +kernel
theorem d_law_490 : decode b_law 490 = .ok (.ireturn, 1) := by decide +kernel

