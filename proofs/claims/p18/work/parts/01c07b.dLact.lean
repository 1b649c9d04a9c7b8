theorem dL_act_231 : decode cL_act 231 = .ok (.iload_n 3, 1) := by decide +kernel
theorem dL_act_232 : decode cL_act 232 = .ok (.ifCond .eq 18, 3) := by decide +kernel
theorem dL_act_235 : decode cL_act 235 = .ok (.iload_n 1, 1) := by decide +kernel
theorem dL_act_236 : decode cL_act 236 = .ok (.bipush 12, 2) := by decide +kernel
theorem dL_act_238 : decode cL_act 238 = .ok (.ishr, 1) := by decide +kernel
theorem dL_act_239 : decode cL_act 239 = .ok (.sipush 1005, 3) := by decide +kernel
theorem dL_act_242 : decode cL_act 242 = .ok (.invokestatic 8, 3) := by decide +kernel
theorem dL_act_245 : decode cL_act 245 = .ok (.iconst 2, 1) := by decide +kernel
theorem dL_act_246 : decode cL_act 246 = .ok (.isub, 1) := by decide +kernel
theorem dL_act_247 : decode cL_act 247 = .ok (.goto 12, 3) := by decide +kernel
theorem dL_act_250 : decode cL_act 250 = .ok (.iload_n 1, 1) := by decide +kernel
theorem dL_act_251 : decode cL_act 251 = .ok (.bipush 12, 2) := by decide +kernel
theorem dL_act_253 : decode cL_act 253 = .ok (.ishr, 1) := by decide +kernel
theorem dL_act_254 : decode cL_act 254 = .ok (.bipush 30, 2) := by decide +kernel
theorem dL_act_256 : decode cL_act 256 = .ok (.invokestatic 8, 3) := by decide +kernel
theorem dL_act_259 : decode cL_act 259 = .ok (.invokestatic 58, 3) := by decide +kernel
theorem dL_act_262 : decode cL_act 262 = .ok (.ireturn, 1) := by decide +kernel
theorem dL_act_263 : decode cL_act 263 = .ok (.aload_n 0, 1) := by decide +kernel
theorem dL_act_264 : decode cL_act 264 = .ok (.iload_n 3, 1) := by decide +kernel
theorem dL_act_265 : decode cL_act 265 = .ok (.ifCond .eq 18, 3) := by decide +kernel
theorem dL_act_268 : decode cL_act 268 = .ok (.iload_n 1, 1) := by decide +kernel
theorem dL_act_269 : decode cL_act 269 = .ok (.bipush 7, 2) := by decide +kernel
theorem dL_act_271 : decode cL_act 271 = .ok (.ishr, 1) := by decide +kernel
theorem dL_act_272 : decode cL_act 272 = .ok (.sipush 1005, 3) := by decide +kernel
theorem dL_act_275 : decode cL_act 275 = .ok (.invokestatic 8, 3) := by decide +kernel
theorem dL_act_278 : decode cL_act 278 = .ok (.iconst 2, 1) := by decide +kernel
theorem dL_act_279 : decode cL_act 279 = .ok (.isub, 1) := by decide +kernel
theorem dL_act_280 : decode cL_act 280 = .ok (.goto 12, 3) := by decide +kernel
theorem dL_act_283 : decode cL_act 283 = .ok (.iload_n 1, 1) := by decide +kernel
theorem dL_act_284 : decode cL_act 284 = .ok (.bipush 7, 2) := by decide +kernel
theorem dL_act_286 : decode cL_act 286 = .ok (.ishr, 1) := by decide +kernel
theorem dL_act_287 : decode cL_act 287 = .ok (.bipush 60, 2) := by decide +kernel
theorem dL_act_289 : decode cL_act 289 = .ok (.invokestatic 8, 3) := by decide +kernel
theorem dL_act_292 : decode cL_act 292 = .ok (.invokestatic 60, 3) := by decide +kernel
theorem dL_act_295 : decode cL_act 295 = .ok (.ireturn, 1) := by decide +kernel
theorem dL_act_296 : decode cL_act 296 = .ok (.aload_n 0, 1) := by decide +kernel
theorem dL_act_297 : decode cL_act 297 = .ok (.iload 4, 2) := by decide +kernel
theorem dL_act_299 : decode cL_act 299 = .ok (.iload 5, 2) := by decide +kernel
theorem dL_act_301 : decode cL_act 301 = .ok (.iload_n 3, 1) := by decide +kernel
theorem dL_act_302 : decode cL_act 302 = .ok (.ifCond .eq 16, 3) := by decide +kernel
theorem dL_act_305 : decode cL_act 305 = .ok (.iload_n 1, 1) := by decide +kernel
theorem dL_act_306 : decode cL_act 306 = .ok (.bipush 12, 2) := by decide +kernel
theorem dL_act_308 : decode cL_act 308 = .ok (.ishr, 1) := by decide +kernel
theorem dL_act_309 : decode cL_act 309 = .ok (.iconst 4, 1) := by decide +kernel
theorem dL_act_310 : decode cL_act 310 = .ok (.invokestatic 8, 3) := by decide +kernel
theorem dL_act_313 : decode cL_act 313 = .ok (.iconst 1, 1) := by decide +kernel
theorem dL_act_314 : decode cL_act 314 = .ok (.isub, 1) := by decide +kernel
theorem dL_act_315 : decode cL_act 315 = .ok (.goto 11, 3) := by decide +kernel
theorem dL_act_318 : decode cL_act 318 = .ok (.iload_n 1, 1) := by decide +kernel
theorem dL_act_319 : decode cL_act 319 = .ok (.bipush 12, 2) := by decide +kernel
theorem dL_act_321 : decode cL_act 321 = .ok (.ishr, 1) := by decide +kernel
theorem dL_act_322 : decode cL_act 322 = .ok (.iconst 2, 1) := by decide +kernel
theorem dL_act_323 : decode cL_act 323 = .ok (.invokestatic 8, 3) := by decide +kernel
theorem dL_act_326 : decode cL_act 326 = .ok (.lload 6, 2) := by decide +kernel
theorem dL_act_328 : decode cL_act 328 = .ok (.lload 8, 2) := by decide +kernel
theorem dL_act_330 : decode cL_act 330 = .ok (.iload_n 1, 1) := by decide +kernel
theorem dL_act_331 : decode cL_act 331 = .ok (.bipush 15, 2) := by decide +kernel
theorem dL_act_333 : decode cL_act 333 = .ok (.ishr, 1) := by decide +kernel
theorem dL_act_334 : decode cL_act 334 = .ok (.iload_n 3, 1) := by decide +kernel
theorem dL_act_335 : decode cL_act 335 = .ok (.ifCond .eq 8, 3) := by decide +kernel
theorem dL_act_338 : decode cL_act 338 = .ok (.bipush 8, 2) := by decide +kernel
theorem dL_act_340 : decode cL_act 340 = .ok (.goto 5, 3) := by decide +kernel
theorem dL_act_343 : decode cL_act 343 = .ok (.bipush 7, 2) := by decide +kernel
theorem dL_act_345 : decode cL_act 345 = .ok (.invokestatic 8, 3) := by decide +kernel
theorem dL_act_348 : decode cL_act 348 = .ok (.invokestatic 63, 3) := by decide +kernel
theorem dL_act_351 : decode cL_act 351 = .ok (.ireturn, 1) := by decide +kernel
