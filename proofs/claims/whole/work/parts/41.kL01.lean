theorem d_L_law_214 : decode (qB q_L_law) 214 = .ok (.iload_n 3, 1) := by decide +kernel
theorem d_L_law_215 : decode (qB q_L_law) 215 = .ok (.iconst 2, 1) := by decide +kernel
theorem d_L_law_216 : decode (qB q_L_law) 216 = .ok (.iadd, 1) := by decide +kernel
theorem d_L_law_217 : decode (qB q_L_law) 217 = .ok (.iaload, 1) := by decide +kernel
theorem d_L_law_218 : decode (qB q_L_law) 218 = .ok (.invokevirtual 29, 3) := by decide +kernel
theorem d_L_law_221 : decode (qB q_L_law) 221 = .ok (.if_icmp .eq 779, 3) := by decide +kernel
theorem d_L_law_224 : decode (qB q_L_law) 224 = .ok (.iconst 0, 1) := by decide +kernel
theorem d_L_law_225 : decode (qB q_L_law) 225 = .ok (.ireturn, 1) := by decide +kernel
theorem d_L_law_226 : decode (qB q_L_law) 226 = .ok (.aload_n 1, 1) := by decide +kernel
theorem d_L_law_227 : decode (qB q_L_law) 227 = .ok (.aload_n 0, 1) := by decide +kernel
theorem d_L_law_228 : decode (qB q_L_law) 228 = .ok (.iload_n 3, 1) := by decide +kernel
theorem d_L_law_229 : decode (qB q_L_law) 229 = .ok (.iconst 1, 1) := by decide +kernel
theorem d_L_law_230 : decode (qB q_L_law) 230 = .ok (.iadd, 1) := by decide +kernel
theorem d_L_law_231 : decode (qB q_L_law) 231 = .ok (.iaload, 1) := by decide +kernel
theorem d_L_law_232 : decode (qB q_L_law) 232 = .ok (.aload_n 0, 1) := by decide +kernel
theorem d_L_law_233 : decode (qB q_L_law) 233 = .ok (.iload_n 3, 1) := by decide +kernel
theorem d_L_law_234 : decode (qB q_L_law) 234 = .ok (.iconst 2, 1) := by decide +kernel
theorem d_L_law_235 : decode (qB q_L_law) 235 = .ok (.iadd, 1) := by decide +kernel
theorem d_L_law_236 : decode (qB q_L_law) 236 = .ok (.iaload, 1) := by decide +kernel
theorem d_L_law_237 : decode (qB q_L_law) 237 = .ok (.aload_n 0, 1) := by decide +kernel
theorem d_L_law_238 : decode (qB q_L_law) 238 = .ok (.iload_n 3, 1) := by decide +kernel
theorem d_L_law_239 : decode (qB q_L_law) 239 = .ok (.iconst 3, 1) := by decide +kernel
theorem d_L_law_240 : decode (qB q_L_law) 240 = .ok (.iadd, 1) := by decide +kernel
theorem d_L_law_241 : decode (qB q_L_law) 241 = .ok (.iaload, 1) := by decide +kernel
theorem d_L_law_242 : decode (qB q_L_law) 242 = .ok (.invokevirtual 30, 3) := by decide +kernel
theorem d_L_law_245 : decode (qB q_L_law) 245 = .ok (.aload_n 2, 1) := by decide +kernel
theorem d_L_law_246 : decode (qB q_L_law) 246 = .ok (.aload_n 0, 1) := by decide +kernel
theorem d_L_law_247 : decode (qB q_L_law) 247 = .ok (.iload_n 3, 1) := by decide +kernel
theorem d_L_law_248 : decode (qB q_L_law) 248 = .ok (.iconst 1, 1) := by decide +kernel
theorem d_L_law_249 : decode (qB q_L_law) 249 = .ok (.iadd, 1) := by decide +kernel
theorem d_L_law_250 : decode (qB q_L_law) 250 = .ok (.iaload, 1) := by decide +kernel
theorem d_L_law_251 : decode (qB q_L_law) 251 = .ok (.aload_n 0, 1) := by decide +kernel
theorem d_L_law_252 : decode (qB q_L_law) 252 = .ok (.iload_n 3, 1) := by decide +kernel
theorem d_L_law_253 : decode (qB q_L_law) 253 = .ok (.iconst 2, 1) := by decide +kernel
theorem d_L_law_254 : decode (qB q_L_law) 254 = .ok (.iadd, 1) := by decide +kernel
theorem d_L_law_255 : decode (qB q_L_law) 255 = .ok (.iaload, 1) := by decide +kernel
theorem d_L_law_256 : decode (qB q_L_law) 256 = .ok (.aload_n 0, 1) := by decide +kernel
theorem d_L_law_257 : decode (qB q_L_law) 257 = .ok (.iload_n 3, 1) := by decide +kernel
theorem d_L_law_258 : decode (qB q_L_law) 258 = .ok (.iconst 3, 1) := by decide +kernel
theorem d_L_law_259 : decode (qB q_L_law) 259 = .ok (.iadd, 1) := by decide +kernel
theorem d_L_law_260 : decode (qB q_L_law) 260 = .ok (.iaload, 1) := by decide +kernel
theorem d_L_law_261 : decode (qB q_L_law) 261 = .ok (.invokevirtual 34, 3) := by decide +kernel
theorem d_L_law_264 : decode (qB q_L_law) 264 = .ok (.if_icmp .eq 736, 3) := by decide +kernel
theorem d_L_law_267 : decode (qB q_L_law) 267 = .ok (.iconst 0, 1) := by decide +kernel
theorem d_L_law_268 : decode (qB q_L_law) 268 = .ok (.ireturn, 1) := by decide +kernel
theorem d_L_law_269 : decode (qB q_L_law) 269 = .ok (.aload_n 1, 1) := by decide +kernel
theorem d_L_law_270 : decode (qB q_L_law) 270 = .ok (.aload_n 0, 1) := by decide +kernel
theorem d_L_law_271 : decode (qB q_L_law) 271 = .ok (.iload_n 3, 1) := by decide +kernel
theorem d_L_law_272 : decode (qB q_L_law) 272 = .ok (.iconst 1, 1) := by decide +kernel
theorem d_L_law_273 : decode (qB q_L_law) 273 = .ok (.iadd, 1) := by decide +kernel
theorem d_L_law_274 : decode (qB q_L_law) 274 = .ok (.iaload, 1) := by decide +kernel
theorem d_L_law_275 : decode (qB q_L_law) 275 = .ok (.aload_n 0, 1) := by decide +kernel
theorem d_L_law_276 : decode (qB q_L_law) 276 = .ok (.iload_n 3, 1) := by decide +kernel
theorem d_L_law_277 : decode (qB q_L_law) 277 = .ok (.iconst 2, 1) := by decide +kernel
theorem d_L_law_278 : decode (qB q_L_law) 278 = .ok (.iadd, 1) := by decide +kernel
theorem d_L_law_279 : decode (qB q_L_law) 279 = .ok (.iaload, 1) := by decide +kernel
theorem d_L_law_280 : decode (qB q_L_law) 280 = .ok (.aload_n 0, 1) := by decide +kernel
theorem d_L_law_281 : decode (qB q_L_law) 281 = .ok (.iload_n 3, 1) := by decide +kernel
theorem d_L_law_282 : decode (qB q_L_law) 282 = .ok (.iconst 3, 1) := by decide +kernel
theorem d_L_law_283 : decode (qB q_L_law) 283 = .ok (.iadd, 1) := by decide +kernel
theorem d_L_law_284 : decode (qB q_L_law) 284 = .ok (.iaload, 1) := by decide +kernel
theorem d_L_law_285 : decode (qB q_L_law) 285 = .ok (.aload_n 0, 1) := by decide +kernel
theorem d_L_law_286 : decode (qB q_L_law) 286 = .ok (.iload_n 3, 1) := by decide +kernel
theorem d_L_law_287 : decode (qB q_L_law) 287 = .ok (.iconst 4, 1) := by decide +kernel
theorem d_L_law_288 : decode (qB q_L_law) 288 = .ok (.iadd, 1) := by decide +kernel
theorem d_L_law_289 : decode (qB q_L_law) 289 = .ok (.iaload, 1) := by decide +kernel
theorem d_L_law_290 : decode (qB q_L_law) 290 = .ok (.i2l, 1) := by decide +kernel
theorem d_L_law_291 : decode (qB q_L_law) 291 = .ok (.bipush 32, 2) := by decide +kernel
theorem d_L_law_293 : decode (qB q_L_law) 293 = .ok (.lshl, 1) := by decide +kernel
theorem d_L_law_294 : decode (qB q_L_law) 294 = .ok (.aload_n 0, 1) := by decide +kernel
theorem d_L_law_295 : decode (qB q_L_law) 295 = .ok (.iload_n 3, 1) := by decide +kernel
theorem d_L_law_296 : decode (qB q_L_law) 296 = .ok (.iconst 5, 1) := by decide +kernel
theorem d_L_law_297 : decode (qB q_L_law) 297 = .ok (.iadd, 1) := by decide +kernel
theorem d_L_law_298 : decode (qB q_L_law) 298 = .ok (.iaload, 1) := by decide +kernel
theorem d_L_law_299 : decode (qB q_L_law) 299 = .ok (.i2l, 1) := by decide +kernel
theorem d_L_law_300 : decode (qB q_L_law) 300 = .ok (.ldc2_w 35, 3) := by decide +kernel
theorem d_L_law_303 : decode (qB q_L_law) 303 = .ok (.land, 1) := by decide +kernel
theorem d_L_law_304 : decode (qB q_L_law) 304 = .ok (.lor, 1) := by decide +kernel
theorem d_L_law_305 : decode (qB q_L_law) 305 = .ok (.invokevirtual 37, 3) := by decide +kernel
theorem d_L_law_308 : decode (qB q_L_law) 308 = .ok (.aload_n 2, 1) := by decide +kernel
theorem d_L_law_309 : decode (qB q_L_law) 309 = .ok (.aload_n 0, 1) := by decide +kernel
theorem d_L_law_310 : decode (qB q_L_law) 310 = .ok (.iload_n 3, 1) := by decide +kernel
theorem d_L_law_311 : decode (qB q_L_law) 311 = .ok (.iconst 1, 1) := by decide +kernel
theorem d_L_law_312 : decode (qB q_L_law) 312 = .ok (.iadd, 1) := by decide +kernel
theorem d_L_law_313 : decode (qB q_L_law) 313 = .ok (.iaload, 1) := by decide +kernel
theorem d_L_law_314 : decode (qB q_L_law) 314 = .ok (.aload_n 0, 1) := by decide +kernel
theorem d_L_law_315 : decode (qB q_L_law) 315 = .ok (.iload_n 3, 1) := by decide +kernel
theorem d_L_law_316 : decode (qB q_L_law) 316 = .ok (.iconst 2, 1) := by decide +kernel
theorem d_L_law_317 : decode (qB q_L_law) 317 = .ok (.iadd, 1) := by decide +kernel
theorem d_L_law_318 : decode (qB q_L_law) 318 = .ok (.iaload, 1) := by decide +kernel
theorem d_L_law_319 : decode (qB q_L_law) 319 = .ok (.aload_n 0, 1) := by decide +kernel
theorem d_L_law_320 : decode (qB q_L_law) 320 = .ok (.iload_n 3, 1) := by decide +kernel
theorem d_L_law_321 : decode (qB q_L_law) 321 = .ok (.iconst 3, 1) := by decide +kernel
theorem d_L_law_322 : decode (qB q_L_law) 322 = .ok (.iadd, 1) := by decide +kernel
theorem d_L_law_323 : decode (qB q_L_law) 323 = .ok (.iaload, 1) := by decide +kernel
theorem d_L_law_324 : decode (qB q_L_law) 324 = .ok (.aload_n 0, 1) := by decide +kernel
theorem d_L_law_325 : decode (qB q_L_law) 325 = .ok (.iload_n 3, 1) := by decide +kernel
theorem d_L_law_326 : decode (qB q_L_law) 326 = .ok (.iconst 4, 1) := by decide +kernel
theorem d_L_law_327 : decode (qB q_L_law) 327 = .ok (.iadd, 1) := by decide +kernel
theorem d_L_law_328 : decode (qB q_L_law) 328 = .ok (.iaload, 1) := by decide +kernel
