theorem d_LAW_law_232 : decode mi_LAW_law.2.1 232 = .ok (.invokevirtual 35, 3) := by decide +kernel
theorem d_LAW_law_235 : decode mi_LAW_law.2.1 235 = .ok (.aload_n 2, 1) := by decide +kernel
theorem d_LAW_law_236 : decode mi_LAW_law.2.1 236 = .ok (.aload_n 0, 1) := by decide +kernel
theorem d_LAW_law_237 : decode mi_LAW_law.2.1 237 = .ok (.iload_n 3, 1) := by decide +kernel
theorem d_LAW_law_238 : decode mi_LAW_law.2.1 238 = .ok (.iconst 1, 1) := by decide +kernel
theorem d_LAW_law_239 : decode mi_LAW_law.2.1 239 = .ok (.iadd, 1) := by decide +kernel
theorem d_LAW_law_240 : decode mi_LAW_law.2.1 240 = .ok (.iaload, 1) := by decide +kernel
theorem d_LAW_law_241 : decode mi_LAW_law.2.1 241 = .ok (.aload_n 0, 1) := by decide +kernel
theorem d_LAW_law_242 : decode mi_LAW_law.2.1 242 = .ok (.iload_n 3, 1) := by decide +kernel
theorem d_LAW_law_243 : decode mi_LAW_law.2.1 243 = .ok (.iconst 2, 1) := by decide +kernel
theorem d_LAW_law_244 : decode mi_LAW_law.2.1 244 = .ok (.iadd, 1) := by decide +kernel
theorem d_LAW_law_245 : decode mi_LAW_law.2.1 245 = .ok (.iaload, 1) := by decide +kernel
theorem d_LAW_law_246 : decode mi_LAW_law.2.1 246 = .ok (.invokevirtual 38, 3) := by decide +kernel
theorem d_LAW_law_249 : decode mi_LAW_law.2.1 249 = .ok (.if_icmp .eq (526), 3) := by decide +kernel
theorem d_LAW_law_252 : decode mi_LAW_law.2.1 252 = .ok (.iconst 0, 1) := by decide +kernel
theorem d_LAW_law_253 : decode mi_LAW_law.2.1 253 = .ok (.ireturn, 1) := by decide +kernel
theorem d_LAW_law_254 : decode mi_LAW_law.2.1 254 = .ok (.aload_n 1, 1) := by decide +kernel
theorem d_LAW_law_255 : decode mi_LAW_law.2.1 255 = .ok (.aload_n 0, 1) := by decide +kernel
theorem d_LAW_law_256 : decode mi_LAW_law.2.1 256 = .ok (.iload_n 3, 1) := by decide +kernel
theorem d_LAW_law_257 : decode mi_LAW_law.2.1 257 = .ok (.iconst 1, 1) := by decide +kernel
theorem d_LAW_law_258 : decode mi_LAW_law.2.1 258 = .ok (.iadd, 1) := by decide +kernel
theorem d_LAW_law_259 : decode mi_LAW_law.2.1 259 = .ok (.iaload, 1) := by decide +kernel
theorem d_LAW_law_260 : decode mi_LAW_law.2.1 260 = .ok (.aload_n 0, 1) := by decide +kernel
theorem d_LAW_law_261 : decode mi_LAW_law.2.1 261 = .ok (.iload_n 3, 1) := by decide +kernel
theorem d_LAW_law_262 : decode mi_LAW_law.2.1 262 = .ok (.iconst 2, 1) := by decide +kernel
theorem d_LAW_law_263 : decode mi_LAW_law.2.1 263 = .ok (.iadd, 1) := by decide +kernel
theorem d_LAW_law_264 : decode mi_LAW_law.2.1 264 = .ok (.iaload, 1) := by decide +kernel
theorem d_LAW_law_265 : decode mi_LAW_law.2.1 265 = .ok (.aload_n 0, 1) := by decide +kernel
theorem d_LAW_law_266 : decode mi_LAW_law.2.1 266 = .ok (.iload_n 3, 1) := by decide +kernel
theorem d_LAW_law_267 : decode mi_LAW_law.2.1 267 = .ok (.iconst 3, 1) := by decide +kernel
theorem d_LAW_law_268 : decode mi_LAW_law.2.1 268 = .ok (.iadd, 1) := by decide +kernel
theorem d_LAW_law_269 : decode mi_LAW_law.2.1 269 = .ok (.iaload, 1) := by decide +kernel
theorem d_LAW_law_270 : decode mi_LAW_law.2.1 270 = .ok (.invokevirtual 39, 3) := by decide +kernel
theorem d_LAW_law_273 : decode mi_LAW_law.2.1 273 = .ok (.aload_n 2, 1) := by decide +kernel
theorem d_LAW_law_274 : decode mi_LAW_law.2.1 274 = .ok (.aload_n 0, 1) := by decide +kernel
theorem d_LAW_law_275 : decode mi_LAW_law.2.1 275 = .ok (.iload_n 3, 1) := by decide +kernel
theorem d_LAW_law_276 : decode mi_LAW_law.2.1 276 = .ok (.iconst 1, 1) := by decide +kernel
theorem d_LAW_law_277 : decode mi_LAW_law.2.1 277 = .ok (.iadd, 1) := by decide +kernel
theorem d_LAW_law_278 : decode mi_LAW_law.2.1 278 = .ok (.iaload, 1) := by decide +kernel
theorem d_LAW_law_279 : decode mi_LAW_law.2.1 279 = .ok (.aload_n 0, 1) := by decide +kernel
theorem d_LAW_law_280 : decode mi_LAW_law.2.1 280 = .ok (.iload_n 3, 1) := by decide +kernel
theorem d_LAW_law_281 : decode mi_LAW_law.2.1 281 = .ok (.iconst 2, 1) := by decide +kernel
theorem d_LAW_law_282 : decode mi_LAW_law.2.1 282 = .ok (.iadd, 1) := by decide +kernel
theorem d_LAW_law_283 : decode mi_LAW_law.2.1 283 = .ok (.iaload, 1) := by decide +kernel
theorem d_LAW_law_284 : decode mi_LAW_law.2.1 284 = .ok (.aload_n 0, 1) := by decide +kernel
theorem d_LAW_law_285 : decode mi_LAW_law.2.1 285 = .ok (.iload_n 3, 1) := by decide +kernel
theorem d_LAW_law_286 : decode mi_LAW_law.2.1 286 = .ok (.iconst 3, 1) := by decide +kernel
theorem d_LAW_law_287 : decode mi_LAW_law.2.1 287 = .ok (.iadd, 1) := by decide +kernel
theorem d_LAW_law_288 : decode mi_LAW_law.2.1 288 = .ok (.iaload, 1) := by decide +kernel
theorem d_LAW_law_289 : decode mi_LAW_law.2.1 289 = .ok (.invokevirtual 43, 3) := by decide +kernel
theorem d_LAW_law_292 : decode mi_LAW_law.2.1 292 = .ok (.if_icmp .eq (483), 3) := by decide +kernel
theorem d_LAW_law_295 : decode mi_LAW_law.2.1 295 = .ok (.iconst 0, 1) := by decide +kernel
theorem d_LAW_law_296 : decode mi_LAW_law.2.1 296 = .ok (.ireturn, 1) := by decide +kernel
theorem d_LAW_law_297 : decode mi_LAW_law.2.1 297 = .ok (.aload_n 1, 1) := by decide +kernel
theorem d_LAW_law_298 : decode mi_LAW_law.2.1 298 = .ok (.aload_n 0, 1) := by decide +kernel
theorem d_LAW_law_299 : decode mi_LAW_law.2.1 299 = .ok (.iload_n 3, 1) := by decide +kernel
theorem d_LAW_law_300 : decode mi_LAW_law.2.1 300 = .ok (.iconst 1, 1) := by decide +kernel
theorem d_LAW_law_301 : decode mi_LAW_law.2.1 301 = .ok (.iadd, 1) := by decide +kernel
theorem d_LAW_law_302 : decode mi_LAW_law.2.1 302 = .ok (.iaload, 1) := by decide +kernel
theorem d_LAW_law_303 : decode mi_LAW_law.2.1 303 = .ok (.aload_n 0, 1) := by decide +kernel
