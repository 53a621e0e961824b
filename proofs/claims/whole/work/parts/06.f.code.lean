/-! code in blocks, by program -/
theorem d_L_law_0 : decode code 0 = .ok (.new 7, 3) := by decide +kernel
theorem d_L_law_3 : decode code 3 = .ok (.dup, 1) := by decide +kernel
theorem d_L_law_4 : decode code 4 = .ok (.invokespecial 9, 3) := by decide +kernel
theorem d_L_law_7 : decode code 7 = .ok (.astore_n 1, 1) := by decide +kernel
theorem d_L_law_8 : decode code 8 = .ok (.new 10, 3) := by decide +kernel
theorem d_L_law_11 : decode code 11 = .ok (.dup, 1) := by decide +kernel
theorem d_L_law_12 : decode code 12 = .ok (.invokespecial 12, 3) := by decide +kernel
theorem d_L_law_15 : decode code 15 = .ok (.astore_n 2, 1) := by decide +kernel
theorem d_L_law_16 : decode code 16 = .ok (.iconst 0, 1) := by decide +kernel
theorem d_L_law_17 : decode code 17 = .ok (.istore_n 3, 1) := by decide +kernel
theorem d_L_law_18 : decode code 18 = .ok (.iload_n 3, 1) := by decide +kernel
theorem d_L_law_19 : decode code 19 = .ok (.aload_n 0, 1) := by decide +kernel
theorem d_L_law_20 : decode code 20 = .ok (.arraylength, 1) := by decide +kernel
theorem d_L_law_21 : decode code 21 = .ok (.bipush 6, 2) := by decide +kernel
theorem d_L_law_23 : decode code 23 = .ok (.isub, 1) := by decide +kernel
theorem d_L_law_24 : decode code 24 = .ok (.if_icmp .gt 504, 3) := by decide +kernel
theorem d_L_law_27 : decode code 27 = .ok (.aload_n 0, 1) := by decide +kernel
theorem d_L_law_28 : decode code 28 = .ok (.iload_n 3, 1) := by decide +kernel
theorem d_L_law_29 : decode code 29 = .ok (.iaload, 1) := by decide +kernel
theorem d_L_law_30 : decode code 30 = .ok (.bipush 15, 2) := by decide +kernel
theorem d_L_law_32 : decode code 32 = .ok (.iand, 1) := by decide +kernel
theorem d_L_law_33 : decode code 33 = .ok (.tableswitch 489 0 11 #[63, 116, 149, 182, 225, 258, 301, 334, 367, 430, 443, 466], 63) := by decide +kernel
theorem d_L_law_96 : decode code 96 = .ok (.aload_n 1, 1) := by decide +kernel
theorem d_L_law_97 : decode code 97 = .ok (.aload_n 0, 1) := by decide +kernel
theorem d_L_law_98 : decode code 98 = .ok (.iload_n 3, 1) := by decide +kernel
theorem d_L_law_99 : decode code 99 = .ok (.iconst 1, 1) := by decide +kernel
theorem d_L_law_100 : decode code 100 = .ok (.iadd, 1) := by decide +kernel
theorem d_L_law_101 : decode code 101 = .ok (.iaload, 1) := by decide +kernel
theorem d_L_law_102 : decode code 102 = .ok (.aload_n 0, 1) := by decide +kernel
theorem d_L_law_103 : decode code 103 = .ok (.iload_n 3, 1) := by decide +kernel
theorem d_L_law_104 : decode code 104 = .ok (.iconst 2, 1) := by decide +kernel
theorem d_L_law_105 : decode code 105 = .ok (.iadd, 1) := by decide +kernel
theorem d_L_law_106 : decode code 106 = .ok (.iaload, 1) := by decide +kernel
theorem d_L_law_107 : decode code 107 = .ok (.aload_n 0, 1) := by decide +kernel
theorem d_L_law_108 : decode code 108 = .ok (.iload_n 3, 1) := by decide +kernel
theorem d_L_law_109 : decode code 109 = .ok (.iconst 3, 1) := by decide +kernel
theorem d_L_law_110 : decode code 110 = .ok (.iadd, 1) := by decide +kernel
theorem d_L_law_111 : decode code 111 = .ok (.iaload, 1) := by decide +kernel
theorem d_L_law_112 : decode code 112 = .ok (.aload_n 0, 1) := by decide +kernel
theorem d_L_law_113 : decode code 113 = .ok (.iload_n 3, 1) := by decide +kernel
theorem d_L_law_114 : decode code 114 = .ok (.iconst 4, 1) := by decide +kernel
theorem d_L_law_115 : decode code 115 = .ok (.iadd, 1) := by decide +kernel
theorem d_L_law_116 : decode code 116 = .ok (.iaload, 1) := by decide +kernel
theorem d_L_law_117 : decode code 117 = .ok (.invokevirtual 13, 3) := by decide +kernel
theorem d_L_law_120 : decode code 120 = .ok (.aload_n 2, 1) := by decide +kernel
theorem d_L_law_121 : decode code 121 = .ok (.aload_n 0, 1) := by decide +kernel
theorem d_L_law_122 : decode code 122 = .ok (.iload_n 3, 1) := by decide +kernel
theorem d_L_law_123 : decode code 123 = .ok (.iconst 1, 1) := by decide +kernel
theorem d_L_law_124 : decode code 124 = .ok (.iadd, 1) := by decide +kernel
theorem d_L_law_125 : decode code 125 = .ok (.iaload, 1) := by decide +kernel
theorem d_L_law_126 : decode code 126 = .ok (.aload_n 0, 1) := by decide +kernel
theorem d_L_law_127 : decode code 127 = .ok (.iload_n 3, 1) := by decide +kernel
theorem d_L_law_128 : decode code 128 = .ok (.iconst 2, 1) := by decide +kernel
theorem d_L_law_129 : decode code 129 = .ok (.iadd, 1) := by decide +kernel
theorem d_L_law_130 : decode code 130 = .ok (.iaload, 1) := by decide +kernel
theorem d_L_law_131 : decode code 131 = .ok (.aload_n 0, 1) := by decide +kernel
theorem d_L_law_132 : decode code 132 = .ok (.iload_n 3, 1) := by decide +kernel
theorem d_L_law_133 : decode code 133 = .ok (.iconst 3, 1) := by decide +kernel
theorem d_L_law_134 : decode code 134 = .ok (.iadd, 1) := by decide +kernel
theorem d_L_law_135 : decode code 135 = .ok (.iaload, 1) := by decide +kernel
theorem d_L_law_136 : decode code 136 = .ok (.aload_n 0, 1) := by decide +kernel
theorem d_L_law_137 : decode code 137 = .ok (.iload_n 3, 1) := by decide +kernel
theorem d_L_law_138 : decode code 138 = .ok (.iconst 4, 1) := by decide +kernel
theorem d_L_law_139 : decode code 139 = .ok (.iadd, 1) := by decide +kernel
theorem d_L_law_140 : decode code 140 = .ok (.iaload, 1) := by decide +kernel
theorem d_L_law_141 : decode code 141 = .ok (.invokevirtual 17, 3) := by decide +kernel
theorem d_L_law_144 : decode code 144 = .ok (.if_icmp .eq 378, 3) := by decide +kernel
theorem d_L_law_147 : decode code 147 = .ok (.iconst 0, 1) := by decide +kernel
theorem d_L_law_148 : decode code 148 = .ok (.ireturn, 1) := by decide +kernel
theorem d_L_law_149 : decode code 149 = .ok (.aload_n 1, 1) := by decide +kernel
theorem d_L_law_150 : decode code 150 = .ok (.aload_n 0, 1) := by decide +kernel
theorem d_L_law_151 : decode code 151 = .ok (.iload_n 3, 1) := by decide +kernel
theorem d_L_law_152 : decode code 152 = .ok (.iconst 1, 1) := by decide +kernel
theorem d_L_law_153 : decode code 153 = .ok (.iadd, 1) := by decide +kernel
theorem d_L_law_154 : decode code 154 = .ok (.iaload, 1) := by decide +kernel
theorem d_L_law_155 : decode code 155 = .ok (.aload_n 0, 1) := by decide +kernel
theorem d_L_law_156 : decode code 156 = .ok (.iload_n 3, 1) := by decide +kernel
theorem d_L_law_157 : decode code 157 = .ok (.iconst 2, 1) := by decide +kernel
theorem d_L_law_158 : decode code 158 = .ok (.iadd, 1) := by decide +kernel
theorem d_L_law_159 : decode code 159 = .ok (.iaload, 1) := by decide +kernel
theorem d_L_law_160 : decode code 160 = .ok (.invokevirtual 18, 3) := by decide +kernel
theorem d_L_law_163 : decode code 163 = .ok (.aload_n 2, 1) := by decide +kernel
theorem d_L_law_164 : decode code 164 = .ok (.aload_n 0, 1) := by decide +kernel
theorem d_L_law_165 : decode code 165 = .ok (.iload_n 3, 1) := by decide +kernel
theorem d_L_law_166 : decode code 166 = .ok (.iconst 1, 1) := by decide +kernel
theorem d_L_law_167 : decode code 167 = .ok (.iadd, 1) := by decide +kernel
theorem d_L_law_168 : decode code 168 = .ok (.iaload, 1) := by decide +kernel
theorem d_L_law_169 : decode code 169 = .ok (.aload_n 0, 1) := by decide +kernel
theorem d_L_law_170 : decode code 170 = .ok (.iload_n 3, 1) := by decide +kernel
theorem d_L_law_171 : decode code 171 = .ok (.iconst 2, 1) := by decide +kernel
theorem d_L_law_172 : decode code 172 = .ok (.iadd, 1) := by decide +kernel
theorem d_L_law_173 : decode code 173 = .ok (.iaload, 1) := by decide +kernel
theorem d_L_law_174 : decode code 174 = .ok (.invokevirtual 22, 3) := by decide +kernel
theorem d_L_law_177 : decode code 177 = .ok (.if_icmp .eq 345, 3) := by decide +kernel
theorem d_L_law_180 : decode code 180 = .ok (.iconst 0, 1) := by decide +kernel
theorem d_L_law_181 : decode code 181 = .ok (.ireturn, 1) := by decide +kernel
theorem d_L_law_182 : decode code 182 = .ok (.aload_n 1, 1) := by decide +kernel
theorem d_L_law_183 : decode code 183 = .ok (.aload_n 0, 1) := by decide +kernel
theorem d_L_law_184 : decode code 184 = .ok (.iload_n 3, 1) := by decide +kernel
theorem d_L_law_185 : decode code 185 = .ok (.iconst 1, 1) := by decide +kernel
theorem d_L_law_186 : decode code 186 = .ok (.iadd, 1) := by decide +kernel
theorem d_L_law_187 : decode code 187 = .ok (.iaload, 1) := by decide +kernel
theorem d_L_law_188 : decode code 188 = .ok (.aload_n 0, 1) := by decide +kernel
theorem d_L_law_189 : decode code 189 = .ok (.iload_n 3, 1) := by decide +kernel
theorem d_L_law_190 : decode code 190 = .ok (.iconst 2, 1) := by decide +kernel
theorem d_L_law_191 : decode code 191 = .ok (.iadd, 1) := by decide +kernel
theorem d_L_law_192 : decode code 192 = .ok (.iaload, 1) := by decide +kernel
theorem d_L_law_193 : decode code 193 = .ok (.invokevirtual 23, 3) := by decide +kernel
theorem d_L_law_196 : decode code 196 = .ok (.aload_n 2, 1) := by decide +kernel
theorem d_L_law_197 : decode code 197 = .ok (.aload_n 0, 1) := by decide +kernel
theorem d_L_law_198 : decode code 198 = .ok (.iload_n 3, 1) := by decide +kernel
theorem d_L_law_199 : decode code 199 = .ok (.iconst 1, 1) := by decide +kernel
theorem d_L_law_200 : decode code 200 = .ok (.iadd, 1) := by decide +kernel
theorem d_L_law_201 : decode code 201 = .ok (.iaload, 1) := by decide +kernel
theorem d_L_law_202 : decode code 202 = .ok (.aload_n 0, 1) := by decide +kernel
theorem d_L_law_203 : decode code 203 = .ok (.iload_n 3, 1) := by decide +kernel
theorem d_L_law_204 : decode code 204 = .ok (.iconst 2, 1) := by decide +kernel
theorem d_L_law_205 : decode code 205 = .ok (.iadd, 1) := by decide +kernel
theorem d_L_law_206 : decode code 206 = .ok (.iaload, 1) := by decide +kernel
theorem d_L_law_207 : decode code 207 = .ok (.invokevirtual 27, 3) := by decide +kernel
theorem d_L_law_210 : decode code 210 = .ok (.if_icmp .eq 312, 3) := by decide +kernel
theorem d_L_law_213 : decode code 213 = .ok (.iconst 0, 1) := by decide +kernel
theorem d_L_law_214 : decode code 214 = .ok (.ireturn, 1) := by decide +kernel
theorem d_L_law_215 : decode code 215 = .ok (.aload_n 1, 1) := by decide +kernel
theorem d_L_law_216 : decode code 216 = .ok (.aload_n 0, 1) := by decide +kernel
theorem d_L_law_217 : decode code 217 = .ok (.iload_n 3, 1) := by decide +kernel
theorem d_L_law_218 : decode code 218 = .ok (.iconst 1, 1) := by decide +kernel
theorem d_L_law_219 : decode code 219 = .ok (.iadd, 1) := by decide +kernel
theorem d_L_law_220 : decode code 220 = .ok (.iaload, 1) := by decide +kernel
theorem d_L_law_221 : decode code 221 = .ok (.aload_n 0, 1) := by decide +kernel
theorem d_L_law_222 : decode code 222 = .ok (.iload_n 3, 1) := by decide +kernel
theorem d_L_law_223 : decode code 223 = .ok (.iconst 2, 1) := by decide +kernel
theorem d_L_law_224 : decode code 224 = .ok (.iadd, 1) := by decide +kernel
theorem d_L_law_225 : decode code 225 = .ok (.iaload, 1) := by decide +kernel
theorem d_L_law_226 : decode code 226 = .ok (.aload_n 0, 1) := by decide +kernel
theorem d_L_law_227 : decode code 227 = .ok (.iload_n 3, 1) := by decide +kernel
theorem d_L_law_228 : decode code 228 = .ok (.iconst 3, 1) := by decide +kernel
theorem d_L_law_229 : decode code 229 = .ok (.iadd, 1) := by decide +kernel
theorem d_L_law_230 : decode code 230 = .ok (.iaload, 1) := by decide +kernel
theorem d_L_law_231 : decode code 231 = .ok (.invokevirtual 28, 3) := by decide +kernel
theorem d_L_law_234 : decode code 234 = .ok (.aload_n 2, 1) := by decide +kernel
theorem d_L_law_235 : decode code 235 = .ok (.aload_n 0, 1) := by decide +kernel
theorem d_L_law_236 : decode code 236 = .ok (.iload_n 3, 1) := by decide +kernel
theorem d_L_law_237 : decode code 237 = .ok (.iconst 1, 1) := by decide +kernel
theorem d_L_law_238 : decode code 238 = .ok (.iadd, 1) := by decide +kernel
theorem d_L_law_239 : decode code 239 = .ok (.iaload, 1) := by decide +kernel
theorem d_L_law_240 : decode code 240 = .ok (.aload_n 0, 1) := by decide +kernel
theorem d_L_law_241 : decode code 241 = .ok (.iload_n 3, 1) := by decide +kernel
theorem d_L_law_242 : decode code 242 = .ok (.iconst 2, 1) := by decide +kernel
theorem d_L_law_243 : decode code 243 = .ok (.iadd, 1) := by decide +kernel
theorem d_L_law_244 : decode code 244 = .ok (.iaload, 1) := by decide +kernel
theorem d_L_law_245 : decode code 245 = .ok (.aload_n 0, 1) := by decide +kernel
theorem d_L_law_246 : decode code 246 = .ok (.iload_n 3, 1) := by decide +kernel
theorem d_L_law_247 : decode code 247 = .ok (.iconst 3, 1) := by decide +kernel
theorem d_L_law_248 : decode code 248 = .ok (.iadd, 1) := by decide +kernel
theorem d_L_law_249 : decode code 249 = .ok (.iaload, 1) := by decide +kernel
theorem d_L_law_250 : decode code 250 = .ok (.invokevirtual 32, 3) := by decide +kernel
theorem d_L_law_253 : decode code 253 = .ok (.if_icmp .eq 269, 3) := by decide +kernel
theorem d_L_law_256 : decode code 256 = .ok (.iconst 0, 1) := by decide +kernel
theorem d_L_law_257 : decode code 257 = .ok (.ireturn, 1) := by decide +kernel
theorem d_L_law_258 : decode code 258 = .ok (.aload_n 1, 1) := by decide +kernel
theorem d_L_law_259 : decode code 259 = .ok (.aload_n 0, 1) := by decide +kernel
theorem d_L_law_260 : decode code 260 = .ok (.iload_n 3, 1) := by decide +kernel
theorem d_L_law_261 : decode code 261 = .ok (.iconst 1, 1) := by decide +kernel
theorem d_L_law_262 : decode code 262 = .ok (.iadd, 1) := by decide +kernel
theorem d_L_law_263 : decode code 263 = .ok (.iaload, 1) := by decide +kernel
theorem d_L_law_264 : decode code 264 = .ok (.aload_n 0, 1) := by decide +kernel
theorem d_L_law_265 : decode code 265 = .ok (.iload_n 3, 1) := by decide +kernel
theorem d_L_law_266 : decode code 266 = .ok (.iconst 2, 1) := by decide +kernel
theorem d_L_law_267 : decode code 267 = .ok (.iadd, 1) := by decide +kernel
theorem d_L_law_268 : decode code 268 = .ok (.iaload, 1) := by decide +kernel
theorem d_L_law_269 : decode code 269 = .ok (.invokevirtual 33, 3) := by decide +kernel
theorem d_L_law_272 : decode code 272 = .ok (.aload_n 2, 1) := by decide +kernel
theorem d_L_law_273 : decode code 273 = .ok (.aload_n 0, 1) := by decide +kernel
theorem d_L_law_274 : decode code 274 = .ok (.iload_n 3, 1) := by decide +kernel
theorem d_L_law_275 : decode code 275 = .ok (.iconst 1, 1) := by decide +kernel
theorem d_L_law_276 : decode code 276 = .ok (.iadd, 1) := by decide +kernel
theorem d_L_law_277 : decode code 277 = .ok (.iaload, 1) := by decide +kernel
theorem d_L_law_278 : decode code 278 = .ok (.aload_n 0, 1) := by decide +kernel
theorem d_L_law_279 : decode code 279 = .ok (.iload_n 3, 1) := by decide +kernel
theorem d_L_law_280 : decode code 280 = .ok (.iconst 2, 1) := by decide +kernel
theorem d_L_law_281 : decode code 281 = .ok (.iadd, 1) := by decide +kernel
theorem d_L_law_282 : decode code 282 = .ok (.iaload, 1) := by decide +kernel
theorem d_L_law_283 : decode code 283 = .ok (.invokevirtual 36, 3) := by decide +kernel
theorem d_L_law_286 : decode code 286 = .ok (.if_icmp .eq 236, 3) := by decide +kernel
theorem d_L_law_289 : decode code 289 = .ok (.iconst 0, 1) := by decide +kernel
theorem d_L_law_290 : decode code 290 = .ok (.ireturn, 1) := by decide +kernel
theorem d_L_law_291 : decode code 291 = .ok (.aload_n 1, 1) := by decide +kernel
theorem d_L_law_292 : decode code 292 = .ok (.aload_n 0, 1) := by decide +kernel
theorem d_L_law_293 : decode code 293 = .ok (.iload_n 3, 1) := by decide +kernel
theorem d_L_law_294 : decode code 294 = .ok (.iconst 1, 1) := by decide +kernel
theorem d_L_law_295 : decode code 295 = .ok (.iadd, 1) := by decide +kernel
theorem d_L_law_296 : decode code 296 = .ok (.iaload, 1) := by decide +kernel
theorem d_L_law_297 : decode code 297 = .ok (.aload_n 0, 1) := by decide +kernel
theorem d_L_law_298 : decode code 298 = .ok (.iload_n 3, 1) := by decide +kernel
theorem d_L_law_299 : decode code 299 = .ok (.iconst 2, 1) := by decide +kernel
theorem d_L_law_300 : decode code 300 = .ok (.iadd, 1) := by decide +kernel
theorem d_L_law_301 : decode code 301 = .ok (.iaload, 1) := by decide +kernel
theorem d_L_law_302 : decode code 302 = .ok (.aload_n 0, 1) := by decide +kernel
theorem d_L_law_303 : decode code 303 = .ok (.iload_n 3, 1) := by decide +kernel
theorem d_L_law_304 : decode code 304 = .ok (.iconst 3, 1) := by decide +kernel
theorem d_L_law_305 : decode code 305 = .ok (.iadd, 1) := by decide +kernel
theorem d_L_law_306 : decode code 306 = .ok (.iaload, 1) := by decide +kernel
theorem d_L_law_307 : decode code 307 = .ok (.invokevirtual 37, 3) := by decide +kernel
theorem d_L_law_310 : decode code 310 = .ok (.aload_n 2, 1) := by decide +kernel
theorem d_L_law_311 : decode code 311 = .ok (.aload_n 0, 1) := by decide +kernel
theorem d_L_law_312 : decode code 312 = .ok (.iload_n 3, 1) := by decide +kernel
theorem d_L_law_313 : decode code 313 = .ok (.iconst 1, 1) := by decide +kernel
theorem d_L_law_314 : decode code 314 = .ok (.iadd, 1) := by decide +kernel
theorem d_L_law_315 : decode code 315 = .ok (.iaload, 1) := by decide +kernel
theorem d_L_law_316 : decode code 316 = .ok (.aload_n 0, 1) := by decide +kernel
theorem d_L_law_317 : decode code 317 = .ok (.iload_n 3, 1) := by decide +kernel
theorem d_L_law_318 : decode code 318 = .ok (.iconst 2, 1) := by decide +kernel
theorem d_L_law_319 : decode code 319 = .ok (.iadd, 1) := by decide +kernel
theorem d_L_law_320 : decode code 320 = .ok (.iaload, 1) := by decide +kernel
theorem d_L_law_321 : decode code 321 = .ok (.aload_n 0, 1) := by decide +kernel
theorem d_L_law_322 : decode code 322 = .ok (.iload_n 3, 1) := by decide +kernel
theorem d_L_law_323 : decode code 323 = .ok (.iconst 3, 1) := by decide +kernel
theorem d_L_law_324 : decode code 324 = .ok (.iadd, 1) := by decide +kernel
theorem d_L_law_325 : decode code 325 = .ok (.iaload, 1) := by decide +kernel
theorem d_L_law_326 : decode code 326 = .ok (.invokevirtual 40, 3) := by decide +kernel
theorem d_L_law_329 : decode code 329 = .ok (.if_icmp .eq 193, 3) := by decide +kernel
theorem d_L_law_332 : decode code 332 = .ok (.iconst 0, 1) := by decide +kernel
theorem d_L_law_333 : decode code 333 = .ok (.ireturn, 1) := by decide +kernel
theorem d_L_law_334 : decode code 334 = .ok (.aload_n 1, 1) := by decide +kernel
theorem d_L_law_335 : decode code 335 = .ok (.aload_n 0, 1) := by decide +kernel
theorem d_L_law_336 : decode code 336 = .ok (.iload_n 3, 1) := by decide +kernel
theorem d_L_law_337 : decode code 337 = .ok (.iconst 1, 1) := by decide +kernel
theorem d_L_law_338 : decode code 338 = .ok (.iadd, 1) := by decide +kernel
theorem d_L_law_339 : decode code 339 = .ok (.iaload, 1) := by decide +kernel
theorem d_L_law_340 : decode code 340 = .ok (.aload_n 0, 1) := by decide +kernel
theorem d_L_law_341 : decode code 341 = .ok (.iload_n 3, 1) := by decide +kernel
theorem d_L_law_342 : decode code 342 = .ok (.iconst 2, 1) := by decide +kernel
theorem d_L_law_343 : decode code 343 = .ok (.iadd, 1) := by decide +kernel
theorem d_L_law_344 : decode code 344 = .ok (.iaload, 1) := by decide +kernel
theorem d_L_law_345 : decode code 345 = .ok (.invokevirtual 41, 3) := by decide +kernel
theorem d_L_law_348 : decode code 348 = .ok (.aload_n 2, 1) := by decide +kernel
theorem d_L_law_349 : decode code 349 = .ok (.aload_n 0, 1) := by decide +kernel
theorem d_L_law_350 : decode code 350 = .ok (.iload_n 3, 1) := by decide +kernel
theorem d_L_law_351 : decode code 351 = .ok (.iconst 1, 1) := by decide +kernel
theorem d_L_law_352 : decode code 352 = .ok (.iadd, 1) := by decide +kernel
theorem d_L_law_353 : decode code 353 = .ok (.iaload, 1) := by decide +kernel
theorem d_L_law_354 : decode code 354 = .ok (.aload_n 0, 1) := by decide +kernel
theorem d_L_law_355 : decode code 355 = .ok (.iload_n 3, 1) := by decide +kernel
theorem d_L_law_356 : decode code 356 = .ok (.iconst 2, 1) := by decide +kernel
theorem d_L_law_357 : decode code 357 = .ok (.iadd, 1) := by decide +kernel
theorem d_L_law_358 : decode code 358 = .ok (.iaload, 1) := by decide +kernel
theorem d_L_law_359 : decode code 359 = .ok (.invokevirtual 44, 3) := by decide +kernel
theorem d_L_law_362 : decode code 362 = .ok (.if_icmp .eq 160, 3) := by decide +kernel
theorem d_L_law_365 : decode code 365 = .ok (.iconst 0, 1) := by decide +kernel
theorem d_L_law_366 : decode code 366 = .ok (.ireturn, 1) := by decide +kernel
theorem d_L_law_367 : decode code 367 = .ok (.aload_n 1, 1) := by decide +kernel
theorem d_L_law_368 : decode code 368 = .ok (.aload_n 0, 1) := by decide +kernel
theorem d_L_law_369 : decode code 369 = .ok (.iload_n 3, 1) := by decide +kernel
theorem d_L_law_370 : decode code 370 = .ok (.iconst 1, 1) := by decide +kernel
theorem d_L_law_371 : decode code 371 = .ok (.iadd, 1) := by decide +kernel
theorem d_L_law_372 : decode code 372 = .ok (.iaload, 1) := by decide +kernel
theorem d_L_law_373 : decode code 373 = .ok (.aload_n 0, 1) := by decide +kernel
theorem d_L_law_374 : decode code 374 = .ok (.iload_n 3, 1) := by decide +kernel
theorem d_L_law_375 : decode code 375 = .ok (.iconst 2, 1) := by decide +kernel
theorem d_L_law_376 : decode code 376 = .ok (.iadd, 1) := by decide +kernel
theorem d_L_law_377 : decode code 377 = .ok (.iaload, 1) := by decide +kernel
theorem d_L_law_378 : decode code 378 = .ok (.invokevirtual 45, 3) := by decide +kernel
theorem d_L_law_381 : decode code 381 = .ok (.aload_n 2, 1) := by decide +kernel
theorem d_L_law_382 : decode code 382 = .ok (.aload_n 0, 1) := by decide +kernel
theorem d_L_law_383 : decode code 383 = .ok (.iload_n 3, 1) := by decide +kernel
theorem d_L_law_384 : decode code 384 = .ok (.iconst 1, 1) := by decide +kernel
theorem d_L_law_385 : decode code 385 = .ok (.iadd, 1) := by decide +kernel
theorem d_L_law_386 : decode code 386 = .ok (.iaload, 1) := by decide +kernel
theorem d_L_law_387 : decode code 387 = .ok (.aload_n 0, 1) := by decide +kernel
theorem d_L_law_388 : decode code 388 = .ok (.iload_n 3, 1) := by decide +kernel
theorem d_L_law_389 : decode code 389 = .ok (.iconst 2, 1) := by decide +kernel
theorem d_L_law_390 : decode code 390 = .ok (.iadd, 1) := by decide +kernel
theorem d_L_law_391 : decode code 391 = .ok (.iaload, 1) := by decide +kernel
theorem d_L_law_392 : decode code 392 = .ok (.invokevirtual 48, 3) := by decide +kernel
theorem d_L_law_395 : decode code 395 = .ok (.if_icmp .eq 127, 3) := by decide +kernel
theorem d_L_law_398 : decode code 398 = .ok (.iconst 0, 1) := by decide +kernel
theorem d_L_law_399 : decode code 399 = .ok (.ireturn, 1) := by decide +kernel
theorem d_L_law_400 : decode code 400 = .ok (.aload_n 1, 1) := by decide +kernel
theorem d_L_law_401 : decode code 401 = .ok (.aload_n 0, 1) := by decide +kernel
theorem d_L_law_402 : decode code 402 = .ok (.iload_n 3, 1) := by decide +kernel
theorem d_L_law_403 : decode code 403 = .ok (.iconst 1, 1) := by decide +kernel
theorem d_L_law_404 : decode code 404 = .ok (.iadd, 1) := by decide +kernel
theorem d_L_law_405 : decode code 405 = .ok (.iaload, 1) := by decide +kernel
theorem d_L_law_406 : decode code 406 = .ok (.aload_n 0, 1) := by decide +kernel
theorem d_L_law_407 : decode code 407 = .ok (.iload_n 3, 1) := by decide +kernel
theorem d_L_law_408 : decode code 408 = .ok (.iconst 2, 1) := by decide +kernel
theorem d_L_law_409 : decode code 409 = .ok (.iadd, 1) := by decide +kernel
theorem d_L_law_410 : decode code 410 = .ok (.iaload, 1) := by decide +kernel
theorem d_L_law_411 : decode code 411 = .ok (.aload_n 0, 1) := by decide +kernel
theorem d_L_law_412 : decode code 412 = .ok (.iload_n 3, 1) := by decide +kernel
theorem d_L_law_413 : decode code 413 = .ok (.iconst 3, 1) := by decide +kernel
theorem d_L_law_414 : decode code 414 = .ok (.iadd, 1) := by decide +kernel
theorem d_L_law_415 : decode code 415 = .ok (.iaload, 1) := by decide +kernel
theorem d_L_law_416 : decode code 416 = .ok (.aload_n 0, 1) := by decide +kernel
theorem d_L_law_417 : decode code 417 = .ok (.iload_n 3, 1) := by decide +kernel
theorem d_L_law_418 : decode code 418 = .ok (.iconst 4, 1) := by decide +kernel
theorem d_L_law_419 : decode code 419 = .ok (.iadd, 1) := by decide +kernel
theorem d_L_law_420 : decode code 420 = .ok (.iaload, 1) := by decide +kernel
theorem d_L_law_421 : decode code 421 = .ok (.aload_n 0, 1) := by decide +kernel
theorem d_L_law_422 : decode code 422 = .ok (.iload_n 3, 1) := by decide +kernel
theorem d_L_law_423 : decode code 423 = .ok (.iconst 5, 1) := by decide +kernel
theorem d_L_law_424 : decode code 424 = .ok (.iadd, 1) := by decide +kernel
theorem d_L_law_425 : decode code 425 = .ok (.iaload, 1) := by decide +kernel
theorem d_L_law_426 : decode code 426 = .ok (.invokevirtual 49, 3) := by decide +kernel
theorem d_L_law_429 : decode code 429 = .ok (.aload_n 2, 1) := by decide +kernel
theorem d_L_law_430 : decode code 430 = .ok (.aload_n 0, 1) := by decide +kernel
theorem d_L_law_431 : decode code 431 = .ok (.iload_n 3, 1) := by decide +kernel
theorem d_L_law_432 : decode code 432 = .ok (.iconst 1, 1) := by decide +kernel
theorem d_L_law_433 : decode code 433 = .ok (.iadd, 1) := by decide +kernel
theorem d_L_law_434 : decode code 434 = .ok (.iaload, 1) := by decide +kernel
theorem d_L_law_435 : decode code 435 = .ok (.aload_n 0, 1) := by decide +kernel
theorem d_L_law_436 : decode code 436 = .ok (.iload_n 3, 1) := by decide +kernel
theorem d_L_law_437 : decode code 437 = .ok (.iconst 2, 1) := by decide +kernel
theorem d_L_law_438 : decode code 438 = .ok (.iadd, 1) := by decide +kernel
theorem d_L_law_439 : decode code 439 = .ok (.iaload, 1) := by decide +kernel
theorem d_L_law_440 : decode code 440 = .ok (.aload_n 0, 1) := by decide +kernel
theorem d_L_law_441 : decode code 441 = .ok (.iload_n 3, 1) := by decide +kernel
theorem d_L_law_442 : decode code 442 = .ok (.iconst 3, 1) := by decide +kernel
theorem d_L_law_443 : decode code 443 = .ok (.iadd, 1) := by decide +kernel
theorem d_L_law_444 : decode code 444 = .ok (.iaload, 1) := by decide +kernel
theorem d_L_law_445 : decode code 445 = .ok (.aload_n 0, 1) := by decide +kernel
theorem d_L_law_446 : decode code 446 = .ok (.iload_n 3, 1) := by decide +kernel
theorem d_L_law_447 : decode code 447 = .ok (.iconst 4, 1) := by decide +kernel
theorem d_L_law_448 : decode code 448 = .ok (.iadd, 1) := by decide +kernel
theorem d_L_law_449 : decode code 449 = .ok (.iaload, 1) := by decide +kernel
theorem d_L_law_450 : decode code 450 = .ok (.aload_n 0, 1) := by decide +kernel
theorem d_L_law_451 : decode code 451 = .ok (.iload_n 3, 1) := by decide +kernel
theorem d_L_law_452 : decode code 452 = .ok (.iconst 5, 1) := by decide +kernel
theorem d_L_law_453 : decode code 453 = .ok (.iadd, 1) := by decide +kernel
theorem d_L_law_454 : decode code 454 = .ok (.iaload, 1) := by decide +kernel
theorem d_L_law_455 : decode code 455 = .ok (.invokevirtual 53, 3) := by decide +kernel
theorem d_L_law_458 : decode code 458 = .ok (.if_icmp .eq 64, 3) := by decide +kernel
theorem d_L_law_461 : decode code 461 = .ok (.iconst 0, 1) := by decide +kernel
theorem d_L_law_462 : decode code 462 = .ok (.ireturn, 1) := by decide +kernel
theorem d_L_law_463 : decode code 463 = .ok (.aload_n 1, 1) := by decide +kernel
theorem d_L_law_464 : decode code 464 = .ok (.invokevirtual 54, 3) := by decide +kernel
theorem d_L_law_467 : decode code 467 = .ok (.aload_n 2, 1) := by decide +kernel
theorem d_L_law_468 : decode code 468 = .ok (.invokevirtual 58, 3) := by decide +kernel
theorem d_L_law_471 : decode code 471 = .ok (.if_icmp .eq 51, 3) := by decide +kernel
theorem d_L_law_474 : decode code 474 = .ok (.iconst 0, 1) := by decide +kernel
theorem d_L_law_475 : decode code 475 = .ok (.ireturn, 1) := by decide +kernel
theorem d_L_law_476 : decode code 476 = .ok (.aload_n 1, 1) := by decide +kernel
theorem d_L_law_477 : decode code 477 = .ok (.aload_n 0, 1) := by decide +kernel
theorem d_L_law_478 : decode code 478 = .ok (.iload_n 3, 1) := by decide +kernel
theorem d_L_law_479 : decode code 479 = .ok (.iconst 1, 1) := by decide +kernel
theorem d_L_law_480 : decode code 480 = .ok (.iadd, 1) := by decide +kernel
theorem d_L_law_481 : decode code 481 = .ok (.iaload, 1) := by decide +kernel
theorem d_L_law_482 : decode code 482 = .ok (.invokevirtual 59, 3) := by decide +kernel
theorem d_L_law_485 : decode code 485 = .ok (.aload_n 2, 1) := by decide +kernel
theorem d_L_law_486 : decode code 486 = .ok (.aload_n 0, 1) := by decide +kernel
theorem d_L_law_487 : decode code 487 = .ok (.iload_n 3, 1) := by decide +kernel
theorem d_L_law_488 : decode code 488 = .ok (.iconst 1, 1) := by decide +kernel
theorem d_L_law_489 : decode code 489 = .ok (.iadd, 1) := by decide +kernel
theorem d_L_law_490 : decode code 490 = .ok (.iaload, 1) := by decide +kernel
theorem d_L_law_491 : decode code 491 = .ok (.invokevirtual 63, 3) := by decide +kernel
theorem d_L_law_494 : decode code 494 = .ok (.if_icmp .eq 28, 3) := by decide +kernel
theorem d_L_law_497 : decode code 497 = .ok (.iconst 0, 1) := by decide +kernel
theorem d_L_law_498 : decode code 498 = .ok (.ireturn, 1) := by decide +kernel
theorem d_L_law_499 : decode code 499 = .ok (.aload_n 1, 1) := by decide +kernel
theorem d_L_law_500 : decode code 500 = .ok (.aload_n 0, 1) := by decide +kernel
theorem d_L_law_501 : decode code 501 = .ok (.iload_n 3, 1) := by decide +kernel
theorem d_L_law_502 : decode code 502 = .ok (.iconst 1, 1) := by decide +kernel
theorem d_L_law_503 : decode code 503 = .ok (.iadd, 1) := by decide +kernel
theorem d_L_law_504 : decode code 504 = .ok (.iaload, 1) := by decide +kernel
theorem d_L_law_505 : decode code 505 = .ok (.invokevirtual 64, 3) := by decide +kernel
theorem d_L_law_508 : decode code 508 = .ok (.aload_n 2, 1) := by decide +kernel
theorem d_L_law_509 : decode code 509 = .ok (.aload_n 0, 1) := by decide +kernel
theorem d_L_law_510 : decode code 510 = .ok (.iload_n 3, 1) := by decide +kernel
theorem d_L_law_511 : decode code 511 = .ok (.iconst 1, 1) := by decide +kernel
theorem d_L_law_512 : decode code 512 = .ok (.iadd, 1) := by decide +kernel
theorem d_L_law_513 : decode code 513 = .ok (.iaload, 1) := by decide +kernel
theorem d_L_law_514 : decode code 514 = .ok (.invokevirtual 67, 3) := by decide +kernel
theorem d_L_law_517 : decode code 517 = .ok (.if_icmp .eq 5, 3) := by decide +kernel
theorem d_L_law_520 : decode code 520 = .ok (.iconst 0, 1) := by decide +kernel
theorem d_L_law_521 : decode code 521 = .ok (.ireturn, 1) := by decide +kernel
theorem d_L_law_522 : decode code 522 = .ok (.iinc 3 6, 3) := by decide +kernel
theorem d_L_law_525 : decode code 525 = .ok (.goto (-507), 3) := by decide +kernel
theorem d_L_law_528 : decode code 528 = .ok (.iconst 1, 1) := by decide +kernel
theorem d_L_law_529 : decode code 529 = .ok (.ireturn, 1) := by decide +kernel
def k_L_law_0 (G : oG) (Post : oP) : oK := o_new 6 [.null, .null, .null, .null, .null, .null, .null, .null, .int 0] <| o_dup <| o_callI G m_T_init 0 <| o_jmp G m_L_law Post 7 [0]
theorem s_L_law_0 {G : oG} {Post : oP} : oS G m_L_law Post 0 (k_L_law_0 G Post) := by
  unfold k_L_law_0
  refine so_new cl_6 w_79 w_80 w_69 rfl rfl (by decide +kernel) d_L_law_0 ?_
  refine so_dup d_L_law_3 ?_
  refine so_callI f_T_init w_82 rfl rfl w_81 (by decide) (by decide) d_L_law_4 ?_
  exact so_jmp
def k_L_law_7 (G : oG) (Post : oP) : oK := o_astore 1 <| o_new 7 [.null, .null, .null, .null, .int 0, .null, .null, .null, .null, .null, .null, .null, .null, .null, .null, .null, .null, .null, .null, .int 0, .int 0, .int 0, .int 0, .int 0, .null, .null, .null, .null] <| o_dup <| o_callI G m_X_init 0 <| o_jmp G m_L_law Post 15 [0, 1]
theorem s_L_law_7 {G : oG} {Post : oP} : oS G m_L_law Post 7 (k_L_law_7 G Post) := by
  unfold k_L_law_7
  refine so_astore_n d_L_law_7 rfl (by decide) ?_
  refine so_new cl_7 w_556 w_557 w_77 rfl rfl (by decide +kernel) d_L_law_8 ?_
  refine so_dup d_L_law_11 ?_
  refine so_callI f_X_init w_559 rfl rfl w_558 (by decide) (by decide) d_L_law_12 ?_
  exact so_jmp
def k_L_law_15 (G : oG) (Post : oP) : oK := o_astore 2 <| o_iconst 0 <| o_istore 3 <| o_jmp G m_L_law Post 18 [0, 1, 2, 3]
theorem s_L_law_15 {G : oG} {Post : oP} : oS G m_L_law Post 15 (k_L_law_15 G Post) := by
  unfold k_L_law_15
  refine so_astore_n d_L_law_15 rfl (by decide) ?_
  refine so_iconst d_L_law_16 rfl ?_
  refine so_istore_n d_L_law_17 rfl (by decide) ?_
  exact so_jmp
def k_L_law_18 (G : oG) (Post : oP) : oK := o_iload 3 <| o_aload 0 <| o_alen G <| o_iconst 6 <| o_isub <| o_icmpgt (o_iconst 1 <| o_zret Post) (o_aload 0 <| o_iload 3 <| o_iald G <| o_iconst 15 <| o_iand <| o_tsw G m_L_law Post 0 [96, 149, 182, 215, 258, 291, 334, 367, 400, 463, 476, 499] 522 [0, 1, 2, 3])
theorem s_L_law_18 {G : oG} {Post : oP} : oS G m_L_law Post 18 (k_L_law_18 G Post) := by
  unfold k_L_law_18
  refine so_iload_n d_L_law_18 rfl ?_
  refine so_aload_n d_L_law_19 rfl ?_
  refine so_alen d_L_law_20 ?_
  refine so_bipush d_L_law_21 rfl ?_
  refine so_isub d_L_law_23 ?_
  refine so_icmpgt d_L_law_24 (tgt := 528) (by decide) ?_ ?_
  · refine so_iconst d_L_law_528 rfl ?_
    exact so_zret d_L_law_529 rfl
  · refine so_aload_n d_L_law_27 rfl ?_
    refine so_iload_n d_L_law_28 rfl ?_
    refine so_iald d_L_law_29 ?_
    refine so_bipush d_L_law_30 rfl ?_
    refine so_iand d_L_law_32 ?_
    exact so_tsw d_L_law_33 (by decide) (by decide) (by decide)
def k_L_law_96 (G : oG) (Post : oP) : oK := o_aload 1 <| o_aload 0 <| o_iload 3 <| o_iconst 1 <| o_iadd <| o_iald G <| o_aload 0 <| o_iload 3 <| o_iconst 2 <| o_iadd <| o_iald G <| o_aload 0 <| o_iload 3 <| o_iconst 3 <| o_iadd <| o_iald G <| o_aload 0 <| o_iload 3 <| o_iconst 4 <| o_iadd <| o_iald G <| o_callV G 6 m_T_map 4 <| o_jmp G m_L_law Post 120 [0, 1, 2, 3]
theorem s_L_law_96 {G : oG} {Post : oP} : oS G m_L_law Post 96 (k_L_law_96 G Post) := by
  unfold k_L_law_96
  refine so_aload_n d_L_law_96 rfl ?_
  refine so_aload_n d_L_law_97 rfl ?_
  refine so_iload_n d_L_law_98 rfl ?_
  refine so_iconst d_L_law_99 rfl ?_
  refine so_iadd d_L_law_100 ?_
  refine so_iald d_L_law_101 ?_
  refine so_aload_n d_L_law_102 rfl ?_
  refine so_iload_n d_L_law_103 rfl ?_
  refine so_iconst d_L_law_104 rfl ?_
  refine so_iadd d_L_law_105 ?_
  refine so_iald d_L_law_106 ?_
  refine so_aload_n d_L_law_107 rfl ?_
  refine so_iload_n d_L_law_108 rfl ?_
  refine so_iconst d_L_law_109 rfl ?_
  refine so_iadd d_L_law_110 ?_
  refine so_iald d_L_law_111 ?_
  refine so_aload_n d_L_law_112 rfl ?_
  refine so_iload_n d_L_law_113 rfl ?_
  refine so_iconst d_L_law_114 rfl ?_
  refine so_iadd d_L_law_115 ?_
  refine so_iald d_L_law_116 ?_
  refine so_callV cl_6 f_T_map w_225 w_226 w_224 (by decide) (by decide) d_L_law_117 ?_
  exact so_jmp
def k_L_law_120 (G : oG) (Post : oP) : oK := o_aload 2 <| o_aload 0 <| o_iload 3 <| o_iconst 1 <| o_iadd <| o_iald G <| o_aload 0 <| o_iload 3 <| o_iconst 2 <| o_iadd <| o_iald G <| o_aload 0 <| o_iload 3 <| o_iconst 3 <| o_iadd <| o_iald G <| o_aload 0 <| o_iload 3 <| o_iconst 4 <| o_iadd <| o_iald G <| o_callV G 7 m_X_map 4 <| o_jmp G m_L_law Post 144 [0, 1, 2, 3]
theorem s_L_law_120 {G : oG} {Post : oP} : oS G m_L_law Post 120 (k_L_law_120 G Post) := by
  unfold k_L_law_120
  refine so_aload_n d_L_law_120 rfl ?_
  refine so_aload_n d_L_law_121 rfl ?_
  refine so_iload_n d_L_law_122 rfl ?_
  refine so_iconst d_L_law_123 rfl ?_
  refine so_iadd d_L_law_124 ?_
  refine so_iald d_L_law_125 ?_
  refine so_aload_n d_L_law_126 rfl ?_
  refine so_iload_n d_L_law_127 rfl ?_
  refine so_iconst d_L_law_128 rfl ?_
  refine so_iadd d_L_law_129 ?_
  refine so_iald d_L_law_130 ?_
  refine so_aload_n d_L_law_131 rfl ?_
  refine so_iload_n d_L_law_132 rfl ?_
  refine so_iconst d_L_law_133 rfl ?_
  refine so_iadd d_L_law_134 ?_
  refine so_iald d_L_law_135 ?_
  refine so_aload_n d_L_law_136 rfl ?_
  refine so_iload_n d_L_law_137 rfl ?_
  refine so_iconst d_L_law_138 rfl ?_
  refine so_iadd d_L_law_139 ?_
  refine so_iald d_L_law_140 ?_
  refine so_callV cl_7 f_X_map w_649 w_650 w_648 (by decide) (by decide) d_L_law_141 ?_
  exact so_jmp
def k_L_law_144 (G : oG) (Post : oP) : oK := o_icmpeq (o_iinc 3 6 <| o_jmp G m_L_law Post 18 [0, 1, 2, 3]) (o_iconst 0 <| o_zret Post)
theorem s_L_law_144 {G : oG} {Post : oP} : oS G m_L_law Post 144 (k_L_law_144 G Post) := by
  unfold k_L_law_144
  refine so_icmpeq d_L_law_144 (tgt := 522) (by decide) ?_ ?_
  · refine so_iinc d_L_law_522 rfl (by decide) ?_
    refine so_goto d_L_law_525 (tgt := 18) (by decide) ?_
    exact so_jmp
  · refine so_iconst d_L_law_147 rfl ?_
    exact so_zret d_L_law_148 rfl
def k_L_law_149 (G : oG) (Post : oP) : oK := o_aload 1 <| o_aload 0 <| o_iload 3 <| o_iconst 1 <| o_iadd <| o_iald G <| o_aload 0 <| o_iload 3 <| o_iconst 2 <| o_iadd <| o_iald G <| o_callV G 6 m_T_unmap 2 <| o_jmp G m_L_law Post 163 [0, 1, 2, 3]
theorem s_L_law_149 {G : oG} {Post : oP} : oS G m_L_law Post 149 (k_L_law_149 G Post) := by
  unfold k_L_law_149
  refine so_aload_n d_L_law_149 rfl ?_
  refine so_aload_n d_L_law_150 rfl ?_
  refine so_iload_n d_L_law_151 rfl ?_
  refine so_iconst d_L_law_152 rfl ?_
  refine so_iadd d_L_law_153 ?_
  refine so_iald d_L_law_154 ?_
  refine so_aload_n d_L_law_155 rfl ?_
  refine so_iload_n d_L_law_156 rfl ?_
  refine so_iconst d_L_law_157 rfl ?_
  refine so_iadd d_L_law_158 ?_
  refine so_iald d_L_law_159 ?_
  refine so_callV cl_6 f_T_unmap w_239 w_240 w_238 (by decide) (by decide) d_L_law_160 ?_
  exact so_jmp
def k_L_law_163 (G : oG) (Post : oP) : oK := o_aload 2 <| o_aload 0 <| o_iload 3 <| o_iconst 1 <| o_iadd <| o_iald G <| o_aload 0 <| o_iload 3 <| o_iconst 2 <| o_iadd <| o_iald G <| o_callV G 7 m_X_unmap 2 <| o_jmp G m_L_law Post 177 [0, 1, 2, 3]
theorem s_L_law_163 {G : oG} {Post : oP} : oS G m_L_law Post 163 (k_L_law_163 G Post) := by
  unfold k_L_law_163
  refine so_aload_n d_L_law_163 rfl ?_
  refine so_aload_n d_L_law_164 rfl ?_
  refine so_iload_n d_L_law_165 rfl ?_
  refine so_iconst d_L_law_166 rfl ?_
  refine so_iadd d_L_law_167 ?_
  refine so_iald d_L_law_168 ?_
  refine so_aload_n d_L_law_169 rfl ?_
  refine so_iload_n d_L_law_170 rfl ?_
  refine so_iconst d_L_law_171 rfl ?_
  refine so_iadd d_L_law_172 ?_
  refine so_iald d_L_law_173 ?_
  refine so_callV cl_7 f_X_unmap w_659 w_660 w_658 (by decide) (by decide) d_L_law_174 ?_
  exact so_jmp
def k_L_law_177 (G : oG) (Post : oP) : oK := o_icmpeq (o_iinc 3 6 <| o_jmp G m_L_law Post 18 [0, 1, 2, 3]) (o_iconst 0 <| o_zret Post)
theorem s_L_law_177 {G : oG} {Post : oP} : oS G m_L_law Post 177 (k_L_law_177 G Post) := by
  unfold k_L_law_177
  refine so_icmpeq d_L_law_177 (tgt := 522) (by decide) ?_ ?_
  · refine so_iinc d_L_law_522 rfl (by decide) ?_
    refine so_goto d_L_law_525 (tgt := 18) (by decide) ?_
    exact so_jmp
  · refine so_iconst d_L_law_180 rfl ?_
    exact so_zret d_L_law_181 rfl
def k_L_law_182 (G : oG) (Post : oP) : oK := o_aload 1 <| o_aload 0 <| o_iload 3 <| o_iconst 1 <| o_iadd <| o_iald G <| o_aload 0 <| o_iload 3 <| o_iconst 2 <| o_iadd <| o_iald G <| o_callV G 6 m_T_page 2 <| o_jmp G m_L_law Post 196 [0, 1, 2, 3]
theorem s_L_law_182 {G : oG} {Post : oP} : oS G m_L_law Post 182 (k_L_law_182 G Post) := by
  unfold k_L_law_182
  refine so_aload_n d_L_law_182 rfl ?_
  refine so_aload_n d_L_law_183 rfl ?_
  refine so_iload_n d_L_law_184 rfl ?_
  refine so_iconst d_L_law_185 rfl ?_
  refine so_iadd d_L_law_186 ?_
  refine so_iald d_L_law_187 ?_
  refine so_aload_n d_L_law_188 rfl ?_
  refine so_iload_n d_L_law_189 rfl ?_
  refine so_iconst d_L_law_190 rfl ?_
  refine so_iadd d_L_law_191 ?_
  refine so_iald d_L_law_192 ?_
  refine so_callV cl_6 f_T_page w_243 w_244 w_250 (by decide) (by decide) d_L_law_193 ?_
  exact so_jmp
def k_L_law_196 (G : oG) (Post : oP) : oK := o_aload 2 <| o_aload 0 <| o_iload 3 <| o_iconst 1 <| o_iadd <| o_iald G <| o_aload 0 <| o_iload 3 <| o_iconst 2 <| o_iadd <| o_iald G <| o_callV G 7 m_X_page 2 <| o_jmp G m_L_law Post 210 [0, 1, 2, 3]
theorem s_L_law_196 {G : oG} {Post : oP} : oS G m_L_law Post 196 (k_L_law_196 G Post) := by
  unfold k_L_law_196
  refine so_aload_n d_L_law_196 rfl ?_
  refine so_aload_n d_L_law_197 rfl ?_
  refine so_iload_n d_L_law_198 rfl ?_
  refine so_iconst d_L_law_199 rfl ?_
  refine so_iadd d_L_law_200 ?_
  refine so_iald d_L_law_201 ?_
  refine so_aload_n d_L_law_202 rfl ?_
  refine so_iload_n d_L_law_203 rfl ?_
  refine so_iconst d_L_law_204 rfl ?_
  refine so_iadd d_L_law_205 ?_
  refine so_iald d_L_law_206 ?_
  refine so_callV cl_7 f_X_page w_663 w_664 w_662 (by decide) (by decide) d_L_law_207 ?_
  exact so_jmp
def k_L_law_210 (G : oG) (Post : oP) : oK := o_icmpeq (o_iinc 3 6 <| o_jmp G m_L_law Post 18 [0, 1, 2, 3]) (o_iconst 0 <| o_zret Post)
theorem s_L_law_210 {G : oG} {Post : oP} : oS G m_L_law Post 210 (k_L_law_210 G Post) := by
  unfold k_L_law_210
  refine so_icmpeq d_L_law_210 (tgt := 522) (by decide) ?_ ?_
  · refine so_iinc d_L_law_522 rfl (by decide) ?_
    refine so_goto d_L_law_525 (tgt := 18) (by decide) ?_
    exact so_jmp
  · refine so_iconst d_L_law_213 rfl ?_
    exact so_zret d_L_law_214 rfl
def k_L_law_215 (G : oG) (Post : oP) : oK := o_aload 1 <| o_aload 0 <| o_iload 3 <| o_iconst 1 <| o_iadd <| o_iald G <| o_aload 0 <| o_iload 3 <| o_iconst 2 <| o_iadd <| o_iald G <| o_aload 0 <| o_iload 3 <| o_iconst 3 <| o_iadd <| o_iald G <| o_callV G 6 m_T_poke 3 <| o_jmp G m_L_law Post 234 [0, 1, 2, 3]
theorem s_L_law_215 {G : oG} {Post : oP} : oS G m_L_law Post 215 (k_L_law_215 G Post) := by
  unfold k_L_law_215
  refine so_aload_n d_L_law_215 rfl ?_
  refine so_aload_n d_L_law_216 rfl ?_
  refine so_iload_n d_L_law_217 rfl ?_
  refine so_iconst d_L_law_218 rfl ?_
  refine so_iadd d_L_law_219 ?_
  refine so_iald d_L_law_220 ?_
  refine so_aload_n d_L_law_221 rfl ?_
  refine so_iload_n d_L_law_222 rfl ?_
  refine so_iconst d_L_law_223 rfl ?_
  refine so_iadd d_L_law_224 ?_
  refine so_iald d_L_law_225 ?_
  refine so_aload_n d_L_law_226 rfl ?_
  refine so_iload_n d_L_law_227 rfl ?_
  refine so_iconst d_L_law_228 rfl ?_
  refine so_iadd d_L_law_229 ?_
  refine so_iald d_L_law_230 ?_
  refine so_callV cl_6 f_T_poke w_252 w_253 w_251 (by decide) (by decide) d_L_law_231 ?_
  exact so_jmp
def k_L_law_234 (G : oG) (Post : oP) : oK := o_aload 2 <| o_aload 0 <| o_iload 3 <| o_iconst 1 <| o_iadd <| o_iald G <| o_aload 0 <| o_iload 3 <| o_iconst 2 <| o_iadd <| o_iald G <| o_aload 0 <| o_iload 3 <| o_iconst 3 <| o_iadd <| o_iald G <| o_callV G 7 m_X_poke 3 <| o_jmp G m_L_law Post 253 [0, 1, 2, 3]
theorem s_L_law_234 {G : oG} {Post : oP} : oS G m_L_law Post 234 (k_L_law_234 G Post) := by
  unfold k_L_law_234
  refine so_aload_n d_L_law_234 rfl ?_
  refine so_aload_n d_L_law_235 rfl ?_
  refine so_iload_n d_L_law_236 rfl ?_
  refine so_iconst d_L_law_237 rfl ?_
  refine so_iadd d_L_law_238 ?_
  refine so_iald d_L_law_239 ?_
  refine so_aload_n d_L_law_240 rfl ?_
  refine so_iload_n d_L_law_241 rfl ?_
  refine so_iconst d_L_law_242 rfl ?_
  refine so_iadd d_L_law_243 ?_
  refine so_iald d_L_law_244 ?_
  refine so_aload_n d_L_law_245 rfl ?_
  refine so_iload_n d_L_law_246 rfl ?_
  refine so_iconst d_L_law_247 rfl ?_
  refine so_iadd d_L_law_248 ?_
  refine so_iald d_L_law_249 ?_
  refine so_callV cl_7 f_X_poke w_667 w_668 w_666 (by decide) (by decide) d_L_law_250 ?_
  exact so_jmp
def k_L_law_253 (G : oG) (Post : oP) : oK := o_icmpeq (o_iinc 3 6 <| o_jmp G m_L_law Post 18 [0, 1, 2, 3]) (o_iconst 0 <| o_zret Post)
theorem s_L_law_253 {G : oG} {Post : oP} : oS G m_L_law Post 253 (k_L_law_253 G Post) := by
  unfold k_L_law_253
  refine so_icmpeq d_L_law_253 (tgt := 522) (by decide) ?_ ?_
  · refine so_iinc d_L_law_522 rfl (by decide) ?_
    refine so_goto d_L_law_525 (tgt := 18) (by decide) ?_
    exact so_jmp
  · refine so_iconst d_L_law_256 rfl ?_
    exact so_zret d_L_law_257 rfl
def k_L_law_258 (G : oG) (Post : oP) : oK := o_aload 1 <| o_aload 0 <| o_iload 3 <| o_iconst 1 <| o_iadd <| o_iald G <| o_aload 0 <| o_iload 3 <| o_iconst 2 <| o_iadd <| o_iald G <| o_callV G 6 m_T_peek 2 <| o_jmp G m_L_law Post 272 [0, 1, 2, 3]
theorem s_L_law_258 {G : oG} {Post : oP} : oS G m_L_law Post 258 (k_L_law_258 G Post) := by
  unfold k_L_law_258
  refine so_aload_n d_L_law_258 rfl ?_
  refine so_aload_n d_L_law_259 rfl ?_
  refine so_iload_n d_L_law_260 rfl ?_
  refine so_iconst d_L_law_261 rfl ?_
  refine so_iadd d_L_law_262 ?_
  refine so_iald d_L_law_263 ?_
  refine so_aload_n d_L_law_264 rfl ?_
  refine so_iload_n d_L_law_265 rfl ?_
  refine so_iconst d_L_law_266 rfl ?_
  refine so_iadd d_L_law_267 ?_
  refine so_iald d_L_law_268 ?_
  refine so_callV cl_6 f_T_peek w_256 w_257 w_255 (by decide) (by decide) d_L_law_269 ?_
  exact so_jmp
def k_L_law_272 (G : oG) (Post : oP) : oK := o_aload 2 <| o_aload 0 <| o_iload 3 <| o_iconst 1 <| o_iadd <| o_iald G <| o_aload 0 <| o_iload 3 <| o_iconst 2 <| o_iadd <| o_iald G <| o_callV G 7 m_X_peek 2 <| o_jmp G m_L_law Post 286 [0, 1, 2, 3]
theorem s_L_law_272 {G : oG} {Post : oP} : oS G m_L_law Post 272 (k_L_law_272 G Post) := by
  unfold k_L_law_272
  refine so_aload_n d_L_law_272 rfl ?_
  refine so_aload_n d_L_law_273 rfl ?_
  refine so_iload_n d_L_law_274 rfl ?_
  refine so_iconst d_L_law_275 rfl ?_
  refine so_iadd d_L_law_276 ?_
  refine so_iald d_L_law_277 ?_
  refine so_aload_n d_L_law_278 rfl ?_
  refine so_iload_n d_L_law_279 rfl ?_
  refine so_iconst d_L_law_280 rfl ?_
  refine so_iadd d_L_law_281 ?_
  refine so_iald d_L_law_282 ?_
  refine so_callV cl_7 f_X_peek w_674 w_675 w_673 (by decide) (by decide) d_L_law_283 ?_
  exact so_jmp
def k_L_law_286 (G : oG) (Post : oP) : oK := o_icmpeq (o_iinc 3 6 <| o_jmp G m_L_law Post 18 [0, 1, 2, 3]) (o_iconst 0 <| o_zret Post)
theorem s_L_law_286 {G : oG} {Post : oP} : oS G m_L_law Post 286 (k_L_law_286 G Post) := by
  unfold k_L_law_286
  refine so_icmpeq d_L_law_286 (tgt := 522) (by decide) ?_ ?_
  · refine so_iinc d_L_law_522 rfl (by decide) ?_
    refine so_goto d_L_law_525 (tgt := 18) (by decide) ?_
    exact so_jmp
  · refine so_iconst d_L_law_289 rfl ?_
    exact so_zret d_L_law_290 rfl
def k_L_law_291 (G : oG) (Post : oP) : oK := o_aload 1 <| o_aload 0 <| o_iload 3 <| o_iconst 1 <| o_iadd <| o_iald G <| o_aload 0 <| o_iload 3 <| o_iconst 2 <| o_iadd <| o_iald G <| o_aload 0 <| o_iload 3 <| o_iconst 3 <| o_iadd <| o_iald G <| o_callV G 6 m_T_set 3 <| o_jmp G m_L_law Post 310 [0, 1, 2, 3]
theorem s_L_law_291 {G : oG} {Post : oP} : oS G m_L_law Post 291 (k_L_law_291 G Post) := by
  unfold k_L_law_291
  refine so_aload_n d_L_law_291 rfl ?_
  refine so_aload_n d_L_law_292 rfl ?_
  refine so_iload_n d_L_law_293 rfl ?_
  refine so_iconst d_L_law_294 rfl ?_
  refine so_iadd d_L_law_295 ?_
  refine so_iald d_L_law_296 ?_
  refine so_aload_n d_L_law_297 rfl ?_
  refine so_iload_n d_L_law_298 rfl ?_
  refine so_iconst d_L_law_299 rfl ?_
  refine so_iadd d_L_law_300 ?_
  refine so_iald d_L_law_301 ?_
  refine so_aload_n d_L_law_302 rfl ?_
  refine so_iload_n d_L_law_303 rfl ?_
  refine so_iconst d_L_law_304 rfl ?_
  refine so_iadd d_L_law_305 ?_
  refine so_iald d_L_law_306 ?_
  refine so_callV cl_6 f_T_set w_260 w_261 w_259 (by decide) (by decide) d_L_law_307 ?_
  exact so_jmp
def k_L_law_310 (G : oG) (Post : oP) : oK := o_aload 2 <| o_aload 0 <| o_iload 3 <| o_iconst 1 <| o_iadd <| o_iald G <| o_aload 0 <| o_iload 3 <| o_iconst 2 <| o_iadd <| o_iald G <| o_aload 0 <| o_iload 3 <| o_iconst 3 <| o_iadd <| o_iald G <| o_callV G 7 m_X_set 3 <| o_jmp G m_L_law Post 329 [0, 1, 2, 3]
theorem s_L_law_310 {G : oG} {Post : oP} : oS G m_L_law Post 310 (k_L_law_310 G Post) := by
  unfold k_L_law_310
  refine so_aload_n d_L_law_310 rfl ?_
  refine so_aload_n d_L_law_311 rfl ?_
  refine so_iload_n d_L_law_312 rfl ?_
  refine so_iconst d_L_law_313 rfl ?_
  refine so_iadd d_L_law_314 ?_
  refine so_iald d_L_law_315 ?_
  refine so_aload_n d_L_law_316 rfl ?_
  refine so_iload_n d_L_law_317 rfl ?_
  refine so_iconst d_L_law_318 rfl ?_
  refine so_iadd d_L_law_319 ?_
  refine so_iald d_L_law_320 ?_
  refine so_aload_n d_L_law_321 rfl ?_
  refine so_iload_n d_L_law_322 rfl ?_
  refine so_iconst d_L_law_323 rfl ?_
  refine so_iadd d_L_law_324 ?_
  refine so_iald d_L_law_325 ?_
  refine so_callV cl_7 f_X_set w_678 w_679 w_677 (by decide) (by decide) d_L_law_326 ?_
  exact so_jmp
def k_L_law_329 (G : oG) (Post : oP) : oK := o_icmpeq (o_iinc 3 6 <| o_jmp G m_L_law Post 18 [0, 1, 2, 3]) (o_iconst 0 <| o_zret Post)
theorem s_L_law_329 {G : oG} {Post : oP} : oS G m_L_law Post 329 (k_L_law_329 G Post) := by
  unfold k_L_law_329
  refine so_icmpeq d_L_law_329 (tgt := 522) (by decide) ?_ ?_
  · refine so_iinc d_L_law_522 rfl (by decide) ?_
    refine so_goto d_L_law_525 (tgt := 18) (by decide) ?_
    exact so_jmp
  · refine so_iconst d_L_law_332 rfl ?_
    exact so_zret d_L_law_333 rfl
def k_L_law_334 (G : oG) (Post : oP) : oK := o_aload 1 <| o_aload 0 <| o_iload 3 <| o_iconst 1 <| o_iadd <| o_iald G <| o_aload 0 <| o_iload 3 <| o_iconst 2 <| o_iadd <| o_iald G <| o_callV G 6 m_T_register 2 <| o_jmp G m_L_law Post 348 [0, 1, 2, 3]
theorem s_L_law_334 {G : oG} {Post : oP} : oS G m_L_law Post 334 (k_L_law_334 G Post) := by
  unfold k_L_law_334
  refine so_aload_n d_L_law_334 rfl ?_
  refine so_aload_n d_L_law_335 rfl ?_
  refine so_iload_n d_L_law_336 rfl ?_
  refine so_iconst d_L_law_337 rfl ?_
  refine so_iadd d_L_law_338 ?_
  refine so_iald d_L_law_339 ?_
  refine so_aload_n d_L_law_340 rfl ?_
  refine so_iload_n d_L_law_341 rfl ?_
  refine so_iconst d_L_law_342 rfl ?_
  refine so_iadd d_L_law_343 ?_
  refine so_iald d_L_law_344 ?_
  refine so_callV cl_6 f_T_register w_264 w_265 w_263 (by decide) (by decide) d_L_law_345 ?_
  exact so_jmp
def k_L_law_348 (G : oG) (Post : oP) : oK := o_aload 2 <| o_aload 0 <| o_iload 3 <| o_iconst 1 <| o_iadd <| o_iald G <| o_aload 0 <| o_iload 3 <| o_iconst 2 <| o_iadd <| o_iald G <| o_callV G 7 m_X_register 2 <| o_jmp G m_L_law Post 362 [0, 1, 2, 3]
theorem s_L_law_348 {G : oG} {Post : oP} : oS G m_L_law Post 348 (k_L_law_348 G Post) := by
  unfold k_L_law_348
  refine so_aload_n d_L_law_348 rfl ?_
  refine so_aload_n d_L_law_349 rfl ?_
  refine so_iload_n d_L_law_350 rfl ?_
  refine so_iconst d_L_law_351 rfl ?_
  refine so_iadd d_L_law_352 ?_
  refine so_iald d_L_law_353 ?_
  refine so_aload_n d_L_law_354 rfl ?_
  refine so_iload_n d_L_law_355 rfl ?_
  refine so_iconst d_L_law_356 rfl ?_
  refine so_iadd d_L_law_357 ?_
  refine so_iald d_L_law_358 ?_
  refine so_callV cl_7 f_X_register w_682 w_683 w_681 (by decide) (by decide) d_L_law_359 ?_
  exact so_jmp
def k_L_law_362 (G : oG) (Post : oP) : oK := o_icmpeq (o_iinc 3 6 <| o_jmp G m_L_law Post 18 [0, 1, 2, 3]) (o_iconst 0 <| o_zret Post)
theorem s_L_law_362 {G : oG} {Post : oP} : oS G m_L_law Post 362 (k_L_law_362 G Post) := by
  unfold k_L_law_362
  refine so_icmpeq d_L_law_362 (tgt := 522) (by decide) ?_ ?_
  · refine so_iinc d_L_law_522 rfl (by decide) ?_
    refine so_goto d_L_law_525 (tgt := 18) (by decide) ?_
    exact so_jmp
  · refine so_iconst d_L_law_365 rfl ?_
    exact so_zret d_L_law_366 rfl
def k_L_law_367 (G : oG) (Post : oP) : oK := o_aload 1 <| o_aload 0 <| o_iload 3 <| o_iconst 1 <| o_iadd <| o_iald G <| o_aload 0 <| o_iload 3 <| o_iconst 2 <| o_iadd <| o_iald G <| o_callV G 6 m_T_trap 2 <| o_jmp G m_L_law Post 381 [0, 1, 2, 3]
theorem s_L_law_367 {G : oG} {Post : oP} : oS G m_L_law Post 367 (k_L_law_367 G Post) := by
  unfold k_L_law_367
  refine so_aload_n d_L_law_367 rfl ?_
  refine so_aload_n d_L_law_368 rfl ?_
  refine so_iload_n d_L_law_369 rfl ?_
  refine so_iconst d_L_law_370 rfl ?_
  refine so_iadd d_L_law_371 ?_
  refine so_iald d_L_law_372 ?_
  refine so_aload_n d_L_law_373 rfl ?_
  refine so_iload_n d_L_law_374 rfl ?_
  refine so_iconst d_L_law_375 rfl ?_
  refine so_iadd d_L_law_376 ?_
  refine so_iald d_L_law_377 ?_
  refine so_callV cl_6 f_T_trap w_268 w_269 w_267 (by decide) (by decide) d_L_law_378 ?_
  exact so_jmp
def k_L_law_381 (G : oG) (Post : oP) : oK := o_aload 2 <| o_aload 0 <| o_iload 3 <| o_iconst 1 <| o_iadd <| o_iald G <| o_aload 0 <| o_iload 3 <| o_iconst 2 <| o_iadd <| o_iald G <| o_callV G 7 m_X_trap 2 <| o_jmp G m_L_law Post 395 [0, 1, 2, 3]
theorem s_L_law_381 {G : oG} {Post : oP} : oS G m_L_law Post 381 (k_L_law_381 G Post) := by
  unfold k_L_law_381
  refine so_aload_n d_L_law_381 rfl ?_
  refine so_aload_n d_L_law_382 rfl ?_
  refine so_iload_n d_L_law_383 rfl ?_
  refine so_iconst d_L_law_384 rfl ?_
  refine so_iadd d_L_law_385 ?_
  refine so_iald d_L_law_386 ?_
  refine so_aload_n d_L_law_387 rfl ?_
  refine so_iload_n d_L_law_388 rfl ?_
  refine so_iconst d_L_law_389 rfl ?_
  refine so_iadd d_L_law_390 ?_
  refine so_iald d_L_law_391 ?_
  refine so_callV cl_7 f_X_trap w_690 w_691 w_853 (by decide) (by decide) d_L_law_392 ?_
  exact so_jmp
def k_L_law_395 (G : oG) (Post : oP) : oK := o_icmpeq (o_iinc 3 6 <| o_jmp G m_L_law Post 18 [0, 1, 2, 3]) (o_iconst 0 <| o_zret Post)
theorem s_L_law_395 {G : oG} {Post : oP} : oS G m_L_law Post 395 (k_L_law_395 G Post) := by
  unfold k_L_law_395
  refine so_icmpeq d_L_law_395 (tgt := 522) (by decide) ?_ ?_
  · refine so_iinc d_L_law_522 rfl (by decide) ?_
    refine so_goto d_L_law_525 (tgt := 18) (by decide) ?_
    exact so_jmp
  · refine so_iconst d_L_law_398 rfl ?_
    exact so_zret d_L_law_399 rfl
def k_L_law_400 (G : oG) (Post : oP) : oK := o_aload 1 <| o_aload 0 <| o_iload 3 <| o_iconst 1 <| o_iadd <| o_iald G <| o_aload 0 <| o_iload 3 <| o_iconst 2 <| o_iadd <| o_iald G <| o_aload 0 <| o_iload 3 <| o_iconst 3 <| o_iadd <| o_iald G <| o_aload 0 <| o_iload 3 <| o_iconst 4 <| o_iadd <| o_iald G <| o_aload 0 <| o_iload 3 <| o_iconst 5 <| o_iadd <| o_iald G <| o_callV G 6 m_T_call 5 <| o_jmp G m_L_law Post 429 [0, 1, 2, 3]
theorem s_L_law_400 {G : oG} {Post : oP} : oS G m_L_law Post 400 (k_L_law_400 G Post) := by
  unfold k_L_law_400
  refine so_aload_n d_L_law_400 rfl ?_
  refine so_aload_n d_L_law_401 rfl ?_
  refine so_iload_n d_L_law_402 rfl ?_
  refine so_iconst d_L_law_403 rfl ?_
  refine so_iadd d_L_law_404 ?_
  refine so_iald d_L_law_405 ?_
  refine so_aload_n d_L_law_406 rfl ?_
  refine so_iload_n d_L_law_407 rfl ?_
  refine so_iconst d_L_law_408 rfl ?_
  refine so_iadd d_L_law_409 ?_
  refine so_iald d_L_law_410 ?_
  refine so_aload_n d_L_law_411 rfl ?_
  refine so_iload_n d_L_law_412 rfl ?_
  refine so_iconst d_L_law_413 rfl ?_
  refine so_iadd d_L_law_414 ?_
  refine so_iald d_L_law_415 ?_
  refine so_aload_n d_L_law_416 rfl ?_
  refine so_iload_n d_L_law_417 rfl ?_
  refine so_iconst d_L_law_418 rfl ?_
  refine so_iadd d_L_law_419 ?_
  refine so_iald d_L_law_420 ?_
  refine so_aload_n d_L_law_421 rfl ?_
  refine so_iload_n d_L_law_422 rfl ?_
  refine so_iconst d_L_law_423 rfl ?_
  refine so_iadd d_L_law_424 ?_
  refine so_iald d_L_law_425 ?_
  refine so_callV cl_6 f_T_call w_524 w_525 w_523 (by decide) (by decide) d_L_law_426 ?_
  exact so_jmp
def k_L_law_429 (G : oG) (Post : oP) : oK := o_aload 2 <| o_aload 0 <| o_iload 3 <| o_iconst 1 <| o_iadd <| o_iald G <| o_aload 0 <| o_iload 3 <| o_iconst 2 <| o_iadd <| o_iald G <| o_aload 0 <| o_iload 3 <| o_iconst 3 <| o_iadd <| o_iald G <| o_aload 0 <| o_iload 3 <| o_iconst 4 <| o_iadd <| o_iald G <| o_aload 0 <| o_iload 3 <| o_iconst 5 <| o_iadd <| o_iald G <| o_callV G 7 m_X_call 5 <| o_jmp G m_L_law Post 458 [0, 1, 2, 3]
theorem s_L_law_429 {G : oG} {Post : oP} : oS G m_L_law Post 429 (k_L_law_429 G Post) := by
  unfold k_L_law_429
  refine so_aload_n d_L_law_429 rfl ?_
  refine so_aload_n d_L_law_430 rfl ?_
  refine so_iload_n d_L_law_431 rfl ?_
  refine so_iconst d_L_law_432 rfl ?_
  refine so_iadd d_L_law_433 ?_
  refine so_iald d_L_law_434 ?_
  refine so_aload_n d_L_law_435 rfl ?_
  refine so_iload_n d_L_law_436 rfl ?_
  refine so_iconst d_L_law_437 rfl ?_
  refine so_iadd d_L_law_438 ?_
  refine so_iald d_L_law_439 ?_
  refine so_aload_n d_L_law_440 rfl ?_
  refine so_iload_n d_L_law_441 rfl ?_
  refine so_iconst d_L_law_442 rfl ?_
  refine so_iadd d_L_law_443 ?_
  refine so_iald d_L_law_444 ?_
  refine so_aload_n d_L_law_445 rfl ?_
  refine so_iload_n d_L_law_446 rfl ?_
  refine so_iconst d_L_law_447 rfl ?_
  refine so_iadd d_L_law_448 ?_
  refine so_iald d_L_law_449 ?_
  refine so_aload_n d_L_law_450 rfl ?_
  refine so_iload_n d_L_law_451 rfl ?_
  refine so_iconst d_L_law_452 rfl ?_
  refine so_iadd d_L_law_453 ?_
  refine so_iald d_L_law_454 ?_
  refine so_callV cl_7 f_X_call w_686 w_687 w_685 (by decide) (by decide) d_L_law_455 ?_
  exact so_jmp
def k_L_law_458 (G : oG) (Post : oP) : oK := o_icmpeq (o_iinc 3 6 <| o_jmp G m_L_law Post 18 [0, 1, 2, 3]) (o_iconst 0 <| o_zret Post)
theorem s_L_law_458 {G : oG} {Post : oP} : oS G m_L_law Post 458 (k_L_law_458 G Post) := by
  unfold k_L_law_458
  refine so_icmpeq d_L_law_458 (tgt := 522) (by decide) ?_ ?_
  · refine so_iinc d_L_law_522 rfl (by decide) ?_
    refine so_goto d_L_law_525 (tgt := 18) (by decide) ?_
    exact so_jmp
  · refine so_iconst d_L_law_461 rfl ?_
    exact so_zret d_L_law_462 rfl
def k_L_law_463 (G : oG) (Post : oP) : oK := o_aload 1 <| o_callV G 6 m_T_traps 0 <| o_jmp G m_L_law Post 467 [0, 1, 2, 3]
theorem s_L_law_463 {G : oG} {Post : oP} : oS G m_L_law Post 463 (k_L_law_463 G Post) := by
  unfold k_L_law_463
  refine so_aload_n d_L_law_463 rfl ?_
  refine so_callV cl_6 f_T_traps w_529 w_530 w_528 (by decide) (by decide) d_L_law_464 ?_
  exact so_jmp
def k_L_law_467 (G : oG) (Post : oP) : oK := o_aload 2 <| o_callV G 7 m_X_traps 0 <| o_jmp G m_L_law Post 471 [0, 1, 2, 3]
theorem s_L_law_467 {G : oG} {Post : oP} : oS G m_L_law Post 467 (k_L_law_467 G Post) := by
  unfold k_L_law_467
  refine so_aload_n d_L_law_467 rfl ?_
  refine so_callV cl_7 f_X_traps w_855 w_856 w_854 (by decide) (by decide) d_L_law_468 ?_
  exact so_jmp
def k_L_law_471 (G : oG) (Post : oP) : oK := o_icmpeq (o_iinc 3 6 <| o_jmp G m_L_law Post 18 [0, 1, 2, 3]) (o_iconst 0 <| o_zret Post)
theorem s_L_law_471 {G : oG} {Post : oP} : oS G m_L_law Post 471 (k_L_law_471 G Post) := by
  unfold k_L_law_471
  refine so_icmpeq d_L_law_471 (tgt := 522) (by decide) ?_ ?_
  · refine so_iinc d_L_law_522 rfl (by decide) ?_
    refine so_goto d_L_law_525 (tgt := 18) (by decide) ?_
    exact so_jmp
  · refine so_iconst d_L_law_474 rfl ?_
    exact so_zret d_L_law_475 rfl
def k_L_law_476 (G : oG) (Post : oP) : oK := o_aload 1 <| o_aload 0 <| o_iload 3 <| o_iconst 1 <| o_iadd <| o_iald G <| o_callV G 6 m_T_count 1 <| o_jmp G m_L_law Post 485 [0, 1, 2, 3]
theorem s_L_law_476 {G : oG} {Post : oP} : oS G m_L_law Post 476 (k_L_law_476 G Post) := by
  unfold k_L_law_476
  refine so_aload_n d_L_law_476 rfl ?_
  refine so_aload_n d_L_law_477 rfl ?_
  refine so_iload_n d_L_law_478 rfl ?_
  refine so_iconst d_L_law_479 rfl ?_
  refine so_iadd d_L_law_480 ?_
  refine so_iald d_L_law_481 ?_
  refine so_callV cl_6 f_T_count w_533 w_534 w_532 (by decide) (by decide) d_L_law_482 ?_
  exact so_jmp
def k_L_law_485 (G : oG) (Post : oP) : oK := o_aload 2 <| o_aload 0 <| o_iload 3 <| o_iconst 1 <| o_iadd <| o_iald G <| o_callV G 7 m_X_count 1 <| o_jmp G m_L_law Post 494 [0, 1, 2, 3]
theorem s_L_law_485 {G : oG} {Post : oP} : oS G m_L_law Post 485 (k_L_law_485 G Post) := by
  unfold k_L_law_485
  refine so_aload_n d_L_law_485 rfl ?_
  refine so_aload_n d_L_law_486 rfl ?_
  refine so_iload_n d_L_law_487 rfl ?_
  refine so_iconst d_L_law_488 rfl ?_
  refine so_iadd d_L_law_489 ?_
  refine so_iald d_L_law_490 ?_
  refine so_callV cl_7 f_X_count w_826 w_827 w_858 (by decide) (by decide) d_L_law_491 ?_
  exact so_jmp
def k_L_law_494 (G : oG) (Post : oP) : oK := o_icmpeq (o_iinc 3 6 <| o_jmp G m_L_law Post 18 [0, 1, 2, 3]) (o_iconst 0 <| o_zret Post)
theorem s_L_law_494 {G : oG} {Post : oP} : oS G m_L_law Post 494 (k_L_law_494 G Post) := by
  unfold k_L_law_494
  refine so_icmpeq d_L_law_494 (tgt := 522) (by decide) ?_ ?_
  · refine so_iinc d_L_law_522 rfl (by decide) ?_
    refine so_goto d_L_law_525 (tgt := 18) (by decide) ?_
    exact so_jmp
  · refine so_iconst d_L_law_497 rfl ?_
    exact so_zret d_L_law_498 rfl
def k_L_law_499 (G : oG) (Post : oP) : oK := o_aload 1 <| o_aload 0 <| o_iload 3 <| o_iconst 1 <| o_iadd <| o_iald G <| o_callV G 6 m_T_descriptors 1 <| o_jmp G m_L_law Post 508 [0, 1, 2, 3]
theorem s_L_law_499 {G : oG} {Post : oP} : oS G m_L_law Post 499 (k_L_law_499 G Post) := by
  unfold k_L_law_499
  refine so_aload_n d_L_law_499 rfl ?_
  refine so_aload_n d_L_law_500 rfl ?_
  refine so_iload_n d_L_law_501 rfl ?_
  refine so_iconst d_L_law_502 rfl ?_
  refine so_iadd d_L_law_503 ?_
  refine so_iald d_L_law_504 ?_
  refine so_callV cl_6 f_T_descriptors w_549 w_550 w_548 (by decide) (by decide) d_L_law_505 ?_
  exact so_jmp
def k_L_law_508 (G : oG) (Post : oP) : oK := o_aload 2 <| o_aload 0 <| o_iload 3 <| o_iconst 1 <| o_iadd <| o_iald G <| o_callV G 7 m_X_descriptors 1 <| o_jmp G m_L_law Post 517 [0, 1, 2, 3]
theorem s_L_law_508 {G : oG} {Post : oP} : oS G m_L_law Post 508 (k_L_law_508 G Post) := by
  unfold k_L_law_508
  refine so_aload_n d_L_law_508 rfl ?_
  refine so_aload_n d_L_law_509 rfl ?_
  refine so_iload_n d_L_law_510 rfl ?_
  refine so_iconst d_L_law_511 rfl ?_
  refine so_iadd d_L_law_512 ?_
  refine so_iald d_L_law_513 ?_
  refine so_callV cl_7 f_X_descriptors w_822 w_823 w_859 (by decide) (by decide) d_L_law_514 ?_
  exact so_jmp
def k_L_law_517 (G : oG) (Post : oP) : oK := o_icmpeq (o_iinc 3 6 <| o_jmp G m_L_law Post 18 [0, 1, 2, 3]) (o_iconst 0 <| o_zret Post)
theorem s_L_law_517 {G : oG} {Post : oP} : oS G m_L_law Post 517 (k_L_law_517 G Post) := by
  unfold k_L_law_517
  refine so_icmpeq d_L_law_517 (tgt := 522) (by decide) ?_ ?_
  · refine so_iinc d_L_law_522 rfl (by decide) ?_
    refine so_goto d_L_law_525 (tgt := 18) (by decide) ?_
    exact so_jmp
  · refine so_iconst d_L_law_520 rfl ?_
    exact so_zret d_L_law_521 rfl
def k_L_law_522 (G : oG) (Post : oP) : oK := o_iinc 3 6 <| o_jmp G m_L_law Post 18 [0, 1, 2, 3]
theorem s_L_law_522 {G : oG} {Post : oP} : oS G m_L_law Post 522 (k_L_law_522 G Post) := by
  unfold k_L_law_522
  refine so_iinc d_L_law_522 rfl (by decide) ?_
  refine so_goto d_L_law_525 (tgt := 18) (by decide) ?_
  exact so_jmp
