theorem dX7_deliver_181 : decode cX7_deliver 181 = .ok (.ifCond .eq 22, 3) := by decide +kernel
theorem dX7_deliver_184 : decode cX7_deliver 184 = .ok (.aload_n 0, 1) := by decide +kernel
theorem dX7_deliver_185 : decode cX7_deliver 185 = .ok (.getfield 30, 3) := by decide +kernel
theorem dX7_deliver_188 : decode cX7_deliver 188 = .ok (.iload 4, 2) := by decide +kernel
theorem dX7_deliver_190 : decode cX7_deliver 190 = .ok (.laload, 1) := by decide +kernel
theorem dX7_deliver_191 : decode cX7_deliver 191 = .ok (.lload 6, 2) := by decide +kernel
theorem dX7_deliver_193 : decode cX7_deliver 193 = .ok (.invokestatic 223, 3) := by decide +kernel
theorem dX7_deliver_196 : decode cX7_deliver 196 = .ok (.ifCond .ne 7, 3) := by decide +kernel
theorem dX7_deliver_199 : decode cX7_deliver 199 = .ok (.iconst 1, 1) := by decide +kernel
theorem dX7_deliver_200 : decode cX7_deliver 200 = .ok (.goto 4, 3) := by decide +kernel
theorem dX7_deliver_203 : decode cX7_deliver 203 = .ok (.iconst 0, 1) := by decide +kernel
theorem dX7_deliver_204 : decode cX7_deliver 204 = .ok (.istore 8, 2) := by decide +kernel
theorem dX7_deliver_206 : decode cX7_deliver 206 = .ok (.aload_n 0, 1) := by decide +kernel
theorem dX7_deliver_207 : decode cX7_deliver 207 = .ok (.getfield 30, 3) := by decide +kernel
theorem dX7_deliver_210 : decode cX7_deliver 210 = .ok (.iload 4, 2) := by decide +kernel
theorem dX7_deliver_212 : decode cX7_deliver 212 = .ok (.laload, 1) := by decide +kernel
theorem dX7_deliver_213 : decode cX7_deliver 213 = .ok (.lload 6, 2) := by decide +kernel
theorem dX7_deliver_215 : decode cX7_deliver 215 = .ok (.lsub, 1) := by decide +kernel
theorem dX7_deliver_216 : decode cX7_deliver 216 = .ok (.lstore 9, 2) := by decide +kernel
theorem dX7_deliver_218 : decode cX7_deliver 218 = .ok (.iload 8, 2) := by decide +kernel
theorem dX7_deliver_220 : decode cX7_deliver 220 = .ok (.ifCond .eq 16, 3) := by decide +kernel
theorem dX7_deliver_223 : decode cX7_deliver 223 = .ok (.lload 9, 2) := by decide +kernel
theorem dX7_deliver_225 : decode cX7_deliver 225 = .ok (.ldc2_w 227, 3) := by decide +kernel
theorem dX7_deliver_228 : decode cX7_deliver 228 = .ok (.invokestatic 223, 3) := by decide +kernel
theorem dX7_deliver_231 : decode cX7_deliver 231 = .ok (.ifCond .ne 5, 3) := by decide +kernel
theorem dX7_deliver_234 : decode cX7_deliver 234 = .ok (.iconst 5, 1) := by decide +kernel
theorem dX7_deliver_235 : decode cX7_deliver 235 = .ok (.ireturn, 1) := by decide +kernel
theorem dX7_deliver_236 : decode cX7_deliver 236 = .ok (.iload 8, 2) := by decide +kernel
theorem dX7_deliver_238 : decode cX7_deliver 238 = .ok (.ifCond .eq 23, 3) := by decide +kernel
theorem dX7_deliver_241 : decode cX7_deliver 241 = .ok (.aload_n 0, 1) := by decide +kernel
theorem dX7_deliver_242 : decode cX7_deliver 242 = .ok (.getfield 33, 3) := by decide +kernel
theorem dX7_deliver_245 : decode cX7_deliver 245 = .ok (.bipush 64, 2) := by decide +kernel
theorem dX7_deliver_247 : decode cX7_deliver 247 = .ok (.iload 4, 2) := by decide +kernel
theorem dX7_deliver_249 : decode cX7_deliver 249 = .ok (.imul, 1) := by decide +kernel
theorem dX7_deliver_250 : decode cX7_deliver 250 = .ok (.lload 9, 2) := by decide +kernel
theorem dX7_deliver_252 : decode cX7_deliver 252 = .ok (.l2i, 1) := by decide +kernel
theorem dX7_deliver_253 : decode cX7_deliver 253 = .ok (.iadd, 1) := by decide +kernel
theorem dX7_deliver_254 : decode cX7_deliver 254 = .ok (.baload, 1) := by decide +kernel
theorem dX7_deliver_255 : decode cX7_deliver 255 = .ok (.ifCond .eq 6, 3) := by decide +kernel
theorem dX7_deliver_258 : decode cX7_deliver 258 = .ok (.bipush 6, 2) := by decide +kernel
theorem dX7_deliver_260 : decode cX7_deliver 260 = .ok (.ireturn, 1) := by decide +kernel
theorem dX7_deliver_261 : decode cX7_deliver 261 = .ok (.iload 8, 2) := by decide +kernel
theorem dX7_deliver_263 : decode cX7_deliver 263 = .ok (.ifCond .ne 130, 3) := by decide +kernel
theorem dX7_deliver_266 : decode cX7_deliver 266 = .ok (.lload 6, 2) := by decide +kernel
theorem dX7_deliver_268 : decode cX7_deliver 268 = .ok (.aload_n 0, 1) := by decide +kernel
theorem dX7_deliver_269 : decode cX7_deliver 269 = .ok (.getfield 30, 3) := by decide +kernel
theorem dX7_deliver_272 : decode cX7_deliver 272 = .ok (.iload 4, 2) := by decide +kernel
theorem dX7_deliver_274 : decode cX7_deliver 274 = .ok (.laload, 1) := by decide +kernel
theorem dX7_deliver_275 : decode cX7_deliver 275 = .ok (.lsub, 1) := by decide +kernel
theorem dX7_deliver_276 : decode cX7_deliver 276 = .ok (.lstore 11, 2) := by decide +kernel
theorem dX7_deliver_278 : decode cX7_deliver 278 = .ok (.bipush 63, 2) := by decide +kernel
theorem dX7_deliver_280 : decode cX7_deliver 280 = .ok (.istore 13, 2) := by decide +kernel
theorem dX7_deliver_282 : decode cX7_deliver 282 = .ok (.iload 13, 2) := by decide +kernel
theorem dX7_deliver_284 : decode cX7_deliver 284 = .ok (.ifCond .lt 89, 3) := by decide +kernel
theorem dX7_deliver_287 : decode cX7_deliver 287 = .ok (.aload_n 0, 1) := by decide +kernel
theorem dX7_deliver_288 : decode cX7_deliver 288 = .ok (.getfield 26, 3) := by decide +kernel
theorem dX7_deliver_291 : decode cX7_deliver 291 = .ok (.iload 4, 2) := by decide +kernel
theorem dX7_deliver_293 : decode cX7_deliver 293 = .ok (.baload, 1) := by decide +kernel
theorem dX7_deliver_294 : decode cX7_deliver 294 = .ok (.ifCond .eq 27, 3) := by decide +kernel
theorem dX7_deliver_297 : decode cX7_deliver 297 = .ok (.lload 11, 2) := by decide +kernel
theorem dX7_deliver_299 : decode cX7_deliver 299 = .ok (.ldc2_w 227, 3) := by decide +kernel
theorem dX7_deliver_302 : decode cX7_deliver 302 = .ok (.invokestatic 223, 3) := by decide +kernel
theorem dX7_deliver_305 : decode cX7_deliver 305 = .ok (.ifCond .eq 16, 3) := by decide +kernel
theorem dX7_deliver_308 : decode cX7_deliver 308 = .ok (.iload 13, 2) := by decide +kernel
theorem dX7_deliver_310 : decode cX7_deliver 310 = .ok (.i2l, 1) := by decide +kernel
theorem dX7_deliver_311 : decode cX7_deliver 311 = .ok (.lload 11, 2) := by decide +kernel
theorem dX7_deliver_313 : decode cX7_deliver 313 = .ok (.lcmp, 1) := by decide +kernel
theorem dX7_deliver_314 : decode cX7_deliver 314 = .ok (.ifCond .lt 7, 3) := by decide +kernel
theorem dX7_deliver_317 : decode cX7_deliver 317 = .ok (.iconst 1, 1) := by decide +kernel
theorem dX7_deliver_318 : decode cX7_deliver 318 = .ok (.goto 4, 3) := by decide +kernel
theorem dX7_deliver_321 : decode cX7_deliver 321 = .ok (.iconst 0, 1) := by decide +kernel
theorem dX7_deliver_322 : decode cX7_deliver 322 = .ok (.istore 14, 2) := by decide +kernel
theorem dX7_deliver_324 : decode cX7_deliver 324 = .ok (.aload_n 0, 1) := by decide +kernel
theorem dX7_deliver_325 : decode cX7_deliver 325 = .ok (.getfield 33, 3) := by decide +kernel
theorem dX7_deliver_328 : decode cX7_deliver 328 = .ok (.bipush 64, 2) := by decide +kernel
theorem dX7_deliver_330 : decode cX7_deliver 330 = .ok (.iload 4, 2) := by decide +kernel
theorem dX7_deliver_332 : decode cX7_deliver 332 = .ok (.imul, 1) := by decide +kernel
theorem dX7_deliver_333 : decode cX7_deliver 333 = .ok (.iload 13, 2) := by decide +kernel
theorem dX7_deliver_335 : decode cX7_deliver 335 = .ok (.iadd, 1) := by decide +kernel
theorem dX7_deliver_336 : decode cX7_deliver 336 = .ok (.iload 14, 2) := by decide +kernel
theorem dX7_deliver_338 : decode cX7_deliver 338 = .ok (.ifCond .eq 27, 3) := by decide +kernel
theorem dX7_deliver_341 : decode cX7_deliver 341 = .ok (.aload_n 0, 1) := by decide +kernel
theorem dX7_deliver_342 : decode cX7_deliver 342 = .ok (.getfield 33, 3) := by decide +kernel
theorem dX7_deliver_345 : decode cX7_deliver 345 = .ok (.bipush 64, 2) := by decide +kernel
theorem dX7_deliver_347 : decode cX7_deliver 347 = .ok (.iload 4, 2) := by decide +kernel
theorem dX7_deliver_349 : decode cX7_deliver 349 = .ok (.imul, 1) := by decide +kernel
theorem dX7_deliver_350 : decode cX7_deliver 350 = .ok (.iload 13, 2) := by decide +kernel
theorem dX7_deliver_352 : decode cX7_deliver 352 = .ok (.iadd, 1) := by decide +kernel
theorem dX7_deliver_353 : decode cX7_deliver 353 = .ok (.lload 11, 2) := by decide +kernel
theorem dX7_deliver_355 : decode cX7_deliver 355 = .ok (.l2i, 1) := by decide +kernel
theorem dX7_deliver_356 : decode cX7_deliver 356 = .ok (.isub, 1) := by decide +kernel
theorem dX7_deliver_357 : decode cX7_deliver 357 = .ok (.baload, 1) := by decide +kernel
theorem dX7_deliver_358 : decode cX7_deliver 358 = .ok (.ifCond .eq 7, 3) := by decide +kernel
theorem dX7_deliver_361 : decode cX7_deliver 361 = .ok (.iconst 1, 1) := by decide +kernel
theorem dX7_deliver_362 : decode cX7_deliver 362 = .ok (.goto 4, 3) := by decide +kernel
theorem dX7_deliver_365 : decode cX7_deliver 365 = .ok (.iconst 0, 1) := by decide +kernel
theorem dX7_deliver_366 : decode cX7_deliver 366 = .ok (.bastore, 1) := by decide +kernel
theorem dX7_deliver_367 : decode cX7_deliver 367 = .ok (.iinc 13 (-1), 3) := by decide +kernel
theorem dX7_deliver_370 : decode cX7_deliver 370 = .ok (.goto (-88), 3) := by decide +kernel
theorem dX7_deliver_373 : decode cX7_deliver 373 = .ok (.aload_n 0, 1) := by decide +kernel
theorem dX7_deliver_374 : decode cX7_deliver 374 = .ok (.getfield 30, 3) := by decide +kernel
theorem dX7_deliver_377 : decode cX7_deliver 377 = .ok (.iload 4, 2) := by decide +kernel
theorem dX7_deliver_379 : decode cX7_deliver 379 = .ok (.lload 6, 2) := by decide +kernel
theorem dX7_deliver_381 : decode cX7_deliver 381 = .ok (.lastore, 1) := by decide +kernel
theorem dX7_deliver_382 : decode cX7_deliver 382 = .ok (.aload_n 0, 1) := by decide +kernel
theorem dX7_deliver_383 : decode cX7_deliver 383 = .ok (.getfield 26, 3) := by decide +kernel
theorem dX7_deliver_386 : decode cX7_deliver 386 = .ok (.iload 4, 2) := by decide +kernel
theorem dX7_deliver_388 : decode cX7_deliver 388 = .ok (.iconst 1, 1) := by decide +kernel
theorem dX7_deliver_389 : decode cX7_deliver 389 = .ok (.bastore, 1) := by decide +kernel
theorem dX7_deliver_390 : decode cX7_deliver 390 = .ok (.lconst 0, 1) := by decide +kernel
