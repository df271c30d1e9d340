theorem d_law_0 : decode code 0 = .ok (.new 7, 3) := by decide +kernel
theorem d_law_3 : decode code 3 = .ok (.dup, 1) := by decide +kernel
theorem d_law_4 : decode code 4 = .ok (.invokespecial 9, 3) := by decide +kernel
theorem d_law_7 : decode code 7 = .ok (.astore_n 1, 1) := by decide +kernel
theorem d_law_8 : decode code 8 = .ok (.new 10, 3) := by decide +kernel
theorem d_law_11 : decode code 11 = .ok (.dup, 1) := by decide +kernel
theorem d_law_12 : decode code 12 = .ok (.invokespecial 12, 3) := by decide +kernel
theorem d_law_15 : decode code 15 = .ok (.astore_n 2, 1) := by decide +kernel
theorem d_law_16 : decode code 16 = .ok (.iconst 0, 1) := by decide +kernel
theorem d_law_17 : decode code 17 = .ok (.istore_n 3, 1) := by decide +kernel
theorem d_law_18 : decode code 18 = .ok (.iload_n 3, 1) := by decide +kernel
theorem d_law_19 : decode code 19 = .ok (.aload_n 0, 1) := by decide +kernel
theorem d_law_20 : decode code 20 = .ok (.arraylength, 1) := by decide +kernel
theorem d_law_21 : decode code 21 = .ok (.iconst 4, 1) := by decide +kernel
theorem d_law_22 : decode code 22 = .ok (.isub, 1) := by decide +kernel
theorem d_law_23 : decode code 23 = .ok (.if_icmp .gt 918, 3) := by decide +kernel
theorem d_law_26 : decode code 26 = .ok (.aload_n 0, 1) := by decide +kernel
theorem d_law_27 : decode code 27 = .ok (.iload_n 3, 1) := by decide +kernel
theorem d_law_28 : decode code 28 = .ok (.iaload, 1) := by decide +kernel
theorem d_law_29 : decode code 29 = .ok (.bipush 31, 2) := by decide +kernel
theorem d_law_31 : decode code 31 = .ok (.iand, 1) := by decide +kernel
theorem d_law_32 : decode code 32 = .ok (.tableswitch 903 0 28 #[132, 155, 169, 193, 226, 259, 292, 315, 328, 341, 364, 387, 440, 463, 496, 519, 542, 566, 589, 622, 645, 688, 722, 755, 778, 821, 834, 857, 880], 132) := by decide +kernel
theorem d_law_164 : decode code 164 = .ok (.aload_n 1, 1) := by decide +kernel
theorem d_law_165 : decode code 165 = .ok (.aload_n 0, 1) := by decide +kernel
theorem d_law_166 : decode code 166 = .ok (.iload_n 3, 1) := by decide +kernel
theorem d_law_167 : decode code 167 = .ok (.iconst 1, 1) := by decide +kernel
theorem d_law_168 : decode code 168 = .ok (.iadd, 1) := by decide +kernel
theorem d_law_169 : decode code 169 = .ok (.iaload, 1) := by decide +kernel
theorem d_law_170 : decode code 170 = .ok (.invokevirtual 13, 3) := by decide +kernel
theorem d_law_173 : decode code 173 = .ok (.aload_n 2, 1) := by decide +kernel
theorem d_law_174 : decode code 174 = .ok (.aload_n 0, 1) := by decide +kernel
theorem d_law_175 : decode code 175 = .ok (.iload_n 3, 1) := by decide +kernel
theorem d_law_176 : decode code 176 = .ok (.iconst 1, 1) := by decide +kernel
theorem d_law_177 : decode code 177 = .ok (.iadd, 1) := by decide +kernel
theorem d_law_178 : decode code 178 = .ok (.iaload, 1) := by decide +kernel
theorem d_law_179 : decode code 179 = .ok (.invokevirtual 17, 3) := by decide +kernel
theorem d_law_182 : decode code 182 = .ok (.if_icmp .eq 753, 3) := by decide +kernel
theorem d_law_185 : decode code 185 = .ok (.iconst 0, 1) := by decide +kernel
theorem d_law_186 : decode code 186 = .ok (.ireturn, 1) := by decide +kernel
theorem d_law_187 : decode code 187 = .ok (.aload_n 1, 1) := by decide +kernel
theorem d_law_188 : decode code 188 = .ok (.invokevirtual 18, 3) := by decide +kernel
theorem d_law_191 : decode code 191 = .ok (.aload_n 2, 1) := by decide +kernel
theorem d_law_192 : decode code 192 = .ok (.invokevirtual 22, 3) := by decide +kernel
theorem d_law_195 : decode code 195 = .ok (.lcmp, 1) := by decide +kernel
theorem d_law_196 : decode code 196 = .ok (.ifCond .eq 739, 3) := by decide +kernel
theorem d_law_199 : decode code 199 = .ok (.iconst 0, 1) := by decide +kernel
theorem d_law_200 : decode code 200 = .ok (.ireturn, 1) := by decide +kernel
theorem d_law_201 : decode code 201 = .ok (.aload_n 1, 1) := by decide +kernel
theorem d_law_202 : decode code 202 = .ok (.aload_n 0, 1) := by decide +kernel
theorem d_law_203 : decode code 203 = .ok (.iload_n 3, 1) := by decide +kernel
theorem d_law_204 : decode code 204 = .ok (.iconst 1, 1) := by decide +kernel
theorem d_law_205 : decode code 205 = .ok (.iadd, 1) := by decide +kernel
theorem d_law_206 : decode code 206 = .ok (.iaload, 1) := by decide +kernel
theorem d_law_207 : decode code 207 = .ok (.invokevirtual 23, 3) := by decide +kernel
theorem d_law_210 : decode code 210 = .ok (.aload_n 2, 1) := by decide +kernel
theorem d_law_211 : decode code 211 = .ok (.aload_n 0, 1) := by decide +kernel
theorem d_law_212 : decode code 212 = .ok (.iload_n 3, 1) := by decide +kernel
theorem d_law_213 : decode code 213 = .ok (.iconst 1, 1) := by decide +kernel
theorem d_law_214 : decode code 214 = .ok (.iadd, 1) := by decide +kernel
theorem d_law_215 : decode code 215 = .ok (.iaload, 1) := by decide +kernel
theorem d_law_216 : decode code 216 = .ok (.invokevirtual 27, 3) := by decide +kernel
theorem d_law_219 : decode code 219 = .ok (.lcmp, 1) := by decide +kernel
theorem d_law_220 : decode code 220 = .ok (.ifCond .eq 715, 3) := by decide +kernel
theorem d_law_223 : decode code 223 = .ok (.iconst 0, 1) := by decide +kernel
theorem d_law_224 : decode code 224 = .ok (.ireturn, 1) := by decide +kernel
theorem d_law_225 : decode code 225 = .ok (.aload_n 1, 1) := by decide +kernel
theorem d_law_226 : decode code 226 = .ok (.aload_n 0, 1) := by decide +kernel
theorem d_law_227 : decode code 227 = .ok (.iload_n 3, 1) := by decide +kernel
theorem d_law_228 : decode code 228 = .ok (.iconst 1, 1) := by decide +kernel
theorem d_law_229 : decode code 229 = .ok (.iadd, 1) := by decide +kernel
theorem d_law_230 : decode code 230 = .ok (.iaload, 1) := by decide +kernel
theorem d_law_231 : decode code 231 = .ok (.aload_n 0, 1) := by decide +kernel
theorem d_law_232 : decode code 232 = .ok (.iload_n 3, 1) := by decide +kernel
theorem d_law_233 : decode code 233 = .ok (.iconst 2, 1) := by decide +kernel
theorem d_law_234 : decode code 234 = .ok (.iadd, 1) := by decide +kernel
theorem d_law_235 : decode code 235 = .ok (.iaload, 1) := by decide +kernel
theorem d_law_236 : decode code 236 = .ok (.invokevirtual 28, 3) := by decide +kernel
theorem d_law_239 : decode code 239 = .ok (.aload_n 2, 1) := by decide +kernel
theorem d_law_240 : decode code 240 = .ok (.aload_n 0, 1) := by decide +kernel
theorem d_law_241 : decode code 241 = .ok (.iload_n 3, 1) := by decide +kernel
theorem d_law_242 : decode code 242 = .ok (.iconst 1, 1) := by decide +kernel
theorem d_law_243 : decode code 243 = .ok (.iadd, 1) := by decide +kernel
theorem d_law_244 : decode code 244 = .ok (.iaload, 1) := by decide +kernel
theorem d_law_245 : decode code 245 = .ok (.aload_n 0, 1) := by decide +kernel
theorem d_law_246 : decode code 246 = .ok (.iload_n 3, 1) := by decide +kernel
theorem d_law_247 : decode code 247 = .ok (.iconst 2, 1) := by decide +kernel
theorem d_law_248 : decode code 248 = .ok (.iadd, 1) := by decide +kernel
theorem d_law_249 : decode code 249 = .ok (.iaload, 1) := by decide +kernel
theorem d_law_250 : decode code 250 = .ok (.invokevirtual 32, 3) := by decide +kernel
theorem d_law_253 : decode code 253 = .ok (.if_icmp .eq 682, 3) := by decide +kernel
theorem d_law_256 : decode code 256 = .ok (.iconst 0, 1) := by decide +kernel
theorem d_law_257 : decode code 257 = .ok (.ireturn, 1) := by decide +kernel
theorem d_law_258 : decode code 258 = .ok (.aload_n 1, 1) := by decide +kernel
theorem d_law_259 : decode code 259 = .ok (.aload_n 0, 1) := by decide +kernel
theorem d_law_260 : decode code 260 = .ok (.iload_n 3, 1) := by decide +kernel
theorem d_law_261 : decode code 261 = .ok (.iconst 1, 1) := by decide +kernel
theorem d_law_262 : decode code 262 = .ok (.iadd, 1) := by decide +kernel
theorem d_law_263 : decode code 263 = .ok (.iaload, 1) := by decide +kernel
theorem d_law_264 : decode code 264 = .ok (.aload_n 0, 1) := by decide +kernel
theorem d_law_265 : decode code 265 = .ok (.iload_n 3, 1) := by decide +kernel
theorem d_law_266 : decode code 266 = .ok (.iconst 2, 1) := by decide +kernel
theorem d_law_267 : decode code 267 = .ok (.iadd, 1) := by decide +kernel
theorem d_law_268 : decode code 268 = .ok (.iaload, 1) := by decide +kernel
theorem d_law_269 : decode code 269 = .ok (.invokevirtual 33, 3) := by decide +kernel
theorem d_law_272 : decode code 272 = .ok (.aload_n 2, 1) := by decide +kernel
theorem d_law_273 : decode code 273 = .ok (.aload_n 0, 1) := by decide +kernel
theorem d_law_274 : decode code 274 = .ok (.iload_n 3, 1) := by decide +kernel
theorem d_law_275 : decode code 275 = .ok (.iconst 1, 1) := by decide +kernel
theorem d_law_276 : decode code 276 = .ok (.iadd, 1) := by decide +kernel
theorem d_law_277 : decode code 277 = .ok (.iaload, 1) := by decide +kernel
theorem d_law_278 : decode code 278 = .ok (.aload_n 0, 1) := by decide +kernel
theorem d_law_279 : decode code 279 = .ok (.iload_n 3, 1) := by decide +kernel
theorem d_law_280 : decode code 280 = .ok (.iconst 2, 1) := by decide +kernel
theorem d_law_281 : decode code 281 = .ok (.iadd, 1) := by decide +kernel
theorem d_law_282 : decode code 282 = .ok (.iaload, 1) := by decide +kernel
theorem d_law_283 : decode code 283 = .ok (.invokevirtual 36, 3) := by decide +kernel
theorem d_law_286 : decode code 286 = .ok (.if_icmp .eq 649, 3) := by decide +kernel
theorem d_law_289 : decode code 289 = .ok (.iconst 0, 1) := by decide +kernel
theorem d_law_290 : decode code 290 = .ok (.ireturn, 1) := by decide +kernel
theorem d_law_291 : decode code 291 = .ok (.aload_n 1, 1) := by decide +kernel
theorem d_law_292 : decode code 292 = .ok (.aload_n 0, 1) := by decide +kernel
theorem d_law_293 : decode code 293 = .ok (.iload_n 3, 1) := by decide +kernel
theorem d_law_294 : decode code 294 = .ok (.iconst 1, 1) := by decide +kernel
theorem d_law_295 : decode code 295 = .ok (.iadd, 1) := by decide +kernel
theorem d_law_296 : decode code 296 = .ok (.iaload, 1) := by decide +kernel
theorem d_law_297 : decode code 297 = .ok (.aload_n 0, 1) := by decide +kernel
theorem d_law_298 : decode code 298 = .ok (.iload_n 3, 1) := by decide +kernel
theorem d_law_299 : decode code 299 = .ok (.iconst 2, 1) := by decide +kernel
theorem d_law_300 : decode code 300 = .ok (.iadd, 1) := by decide +kernel
theorem d_law_301 : decode code 301 = .ok (.iaload, 1) := by decide +kernel
theorem d_law_302 : decode code 302 = .ok (.invokevirtual 37, 3) := by decide +kernel
theorem d_law_305 : decode code 305 = .ok (.aload_n 2, 1) := by decide +kernel
theorem d_law_306 : decode code 306 = .ok (.aload_n 0, 1) := by decide +kernel
theorem d_law_307 : decode code 307 = .ok (.iload_n 3, 1) := by decide +kernel
theorem d_law_308 : decode code 308 = .ok (.iconst 1, 1) := by decide +kernel
theorem d_law_309 : decode code 309 = .ok (.iadd, 1) := by decide +kernel
theorem d_law_310 : decode code 310 = .ok (.iaload, 1) := by decide +kernel
theorem d_law_311 : decode code 311 = .ok (.aload_n 0, 1) := by decide +kernel
theorem d_law_312 : decode code 312 = .ok (.iload_n 3, 1) := by decide +kernel
theorem d_law_313 : decode code 313 = .ok (.iconst 2, 1) := by decide +kernel
theorem d_law_314 : decode code 314 = .ok (.iadd, 1) := by decide +kernel
theorem d_law_315 : decode code 315 = .ok (.iaload, 1) := by decide +kernel
theorem d_law_316 : decode code 316 = .ok (.invokevirtual 40, 3) := by decide +kernel
theorem d_law_319 : decode code 319 = .ok (.if_icmp .eq 616, 3) := by decide +kernel
theorem d_law_322 : decode code 322 = .ok (.iconst 0, 1) := by decide +kernel
theorem d_law_323 : decode code 323 = .ok (.ireturn, 1) := by decide +kernel
theorem d_law_324 : decode code 324 = .ok (.aload_n 1, 1) := by decide +kernel
theorem d_law_325 : decode code 325 = .ok (.aload_n 0, 1) := by decide +kernel
theorem d_law_326 : decode code 326 = .ok (.iload_n 3, 1) := by decide +kernel
theorem d_law_327 : decode code 327 = .ok (.iconst 1, 1) := by decide +kernel
theorem d_law_328 : decode code 328 = .ok (.iadd, 1) := by decide +kernel
theorem d_law_329 : decode code 329 = .ok (.iaload, 1) := by decide +kernel
theorem d_law_330 : decode code 330 = .ok (.invokevirtual 41, 3) := by decide +kernel
theorem d_law_333 : decode code 333 = .ok (.aload_n 2, 1) := by decide +kernel
theorem d_law_334 : decode code 334 = .ok (.aload_n 0, 1) := by decide +kernel
theorem d_law_335 : decode code 335 = .ok (.iload_n 3, 1) := by decide +kernel
theorem d_law_336 : decode code 336 = .ok (.iconst 1, 1) := by decide +kernel
theorem d_law_337 : decode code 337 = .ok (.iadd, 1) := by decide +kernel
theorem d_law_338 : decode code 338 = .ok (.iaload, 1) := by decide +kernel
theorem d_law_339 : decode code 339 = .ok (.invokevirtual 44, 3) := by decide +kernel
