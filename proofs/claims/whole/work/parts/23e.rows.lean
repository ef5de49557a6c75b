theorem s171_0 : T_new 171 0 3 6 := w_new (x := 8) (N := 7) (by decide +kernel) (by decide +kernel) (by decide +kernel)
theorem s171_3 : T_dup 171 3 4 := w_dup (by decide +kernel)
theorem s171_4 : T_ca1 171 4 7 40 := w_ca1 (x := 106) (i := .invokespecial 106) (by decide +kernel) (by decide +kernel) (Or.inr (Or.inr ⟨rfl, by decide +kernel⟩))
theorem s171_7 : T_as1 171 7 8 := w_asn1 (by decide +kernel)
theorem s171_8 : T_new 171 8 11 7 := w_new (x := 107) (N := 46) (by decide +kernel) (by decide +kernel) (by decide +kernel)
theorem s171_11 : T_dup 171 11 12 := w_dup (by decide +kernel)
theorem s171_12 : T_ca1 171 12 15 87 := w_ca1 (x := 109) (i := .invokespecial 109) (by decide +kernel) (by decide +kernel) (Or.inr (Or.inr ⟨rfl, by decide +kernel⟩))
theorem s171_15 : T_as2 171 15 16 := w_asn2 (by decide +kernel)
theorem s171_16 : T_ic 171 16 17 1 := w_ic1 (n := 1) (by decide +kernel) rfl
theorem s171_17 : T_naj 171 17 19 := w_naj (by decide +kernel)
theorem s171_19 : T_as3 171 19 20 := w_asn3 (by decide +kernel)
theorem s171_20 : T_ic 171 20 21 0 := w_ic1 (n := 0) (by decide +kernel) rfl
theorem s171_21 : T_is4 171 21 23 := w_is4 (by decide +kernel)
theorem s171_23 : T_il4 171 23 25 := w_il4 (by decide +kernel)
theorem s171_25 : T_al0 171 25 26 := w_aln0 (by decide +kernel)
theorem s171_26 : T_slen 171 26 27 := w_slen (by decide +kernel) rfl
theorem s171_27 : T_ic 171 27 28 5 := w_ic1 (n := 5) (by decide +kernel) rfl
theorem s171_28 : T_isub 171 28 29 := w_isub (by decide +kernel)
theorem s171_29 : T_ic_gt 171 29 32 2064 := w_ic_gt (off := 2035) (by decide +kernel) (by decide +kernel)
theorem s171_32 : T_al0 171 32 33 := w_aln0 (by decide +kernel)
theorem s171_33 : T_il4 171 33 35 := w_il4 (by decide +kernel)
theorem s171_35 : T_sld 171 35 36 := w_sld (by decide +kernel) rfl
theorem s171_36 : T_ic 171 36 38 31 := w_ic2 (n := 31) (by decide +kernel) (by decide +kernel)
theorem s171_38 : T_iand 171 38 39 := w_iand (by decide +kernel)
theorem s171_39 : T_tsw 171 39 [164, 256, 324, 404, 500, 596, 699, 755, 811, 867, 935, 1003, 1071, 1139, 1207, 1282, 1345, 1389, 1457, 1470, 1538, 1606, 1674, 1742, 1810, 1878, 1946, 2002] 2058 := w_tsw (len := 125) (dd := 2019) (hi := 27) (offs := #[125, 217, 285, 365, 461, 557, 660, 716, 772, 828, 896, 964, 1032, 1100, 1168, 1243, 1306, 1350, 1418, 1431, 1499, 1567, 1635, 1703, 1771, 1839, 1907, 1963]) (by decide +kernel) (by decide +kernel) (by decide +kernel) (by decide +kernel)
theorem s171_164 : T_al1 171 164 165 := w_aln1 (by decide +kernel)
theorem s171_165 : T_al0 171 165 166 := w_aln0 (by decide +kernel)
theorem s171_166 : T_il4 171 166 168 := w_il4 (by decide +kernel)
theorem s171_168 : T_ic 171 168 169 1 := w_ic1 (n := 1) (by decide +kernel) rfl
theorem s171_169 : T_iadd 171 169 170 := w_iadd (by decide +kernel)
theorem s171_170 : T_sld 171 170 171 := w_sld (by decide +kernel) rfl
theorem s171_171 : T_al0 171 171 172 := w_aln0 (by decide +kernel)
theorem s171_172 : T_il4 171 172 174 := w_il4 (by decide +kernel)
theorem s171_174 : T_ic 171 174 175 2 := w_ic1 (n := 2) (by decide +kernel) rfl
theorem s171_175 : T_iadd 171 175 176 := w_iadd (by decide +kernel)
theorem s171_176 : T_sld 171 176 177 := w_sld (by decide +kernel) rfl
theorem s171_177 : T_al0 171 177 178 := w_aln0 (by decide +kernel)
theorem s171_178 : T_il4 171 178 180 := w_il4 (by decide +kernel)
theorem s171_180 : T_ic 171 180 181 3 := w_ic1 (n := 3) (by decide +kernel) rfl
theorem s171_181 : T_iadd 171 181 182 := w_iadd (by decide +kernel)
theorem s171_182 : T_sld 171 182 183 := w_sld (by decide +kernel) rfl
theorem s171_183 : T_al0 171 183 184 := w_aln0 (by decide +kernel)
theorem s171_184 : T_il4 171 184 186 := w_il4 (by decide +kernel)
theorem s171_186 : T_ic 171 186 187 4 := w_ic1 (n := 4) (by decide +kernel) rfl
theorem s171_187 : T_iadd 171 187 188 := w_iadd (by decide +kernel)
theorem s171_188 : T_sld 171 188 189 := w_sld (by decide +kernel) rfl
theorem s171_189 : T_al3 171 189 190 := w_aln3 (by decide +kernel)
theorem s171_190 : T_ca6 171 190 193 144 := w_ca6 (x := 110) (i := .invokestatic 110) (by decide +kernel) (by decide +kernel) (Or.inr (Or.inl ⟨rfl, by decide +kernel⟩))
theorem s171_193 : T_is5 171 193 195 := w_is5 (by decide +kernel)
theorem s171_195 : T_al2 171 195 196 := w_aln2 (by decide +kernel)
theorem s171_196 : T_al0 171 196 197 := w_aln0 (by decide +kernel)
theorem s171_197 : T_il4 171 197 199 := w_il4 (by decide +kernel)
theorem s171_199 : T_ic 171 199 200 1 := w_ic1 (n := 1) (by decide +kernel) rfl
theorem s171_200 : T_iadd 171 200 201 := w_iadd (by decide +kernel)
theorem s171_201 : T_sld 171 201 202 := w_sld (by decide +kernel) rfl
theorem s171_202 : T_al0 171 202 203 := w_aln0 (by decide +kernel)
theorem s171_203 : T_il4 171 203 205 := w_il4 (by decide +kernel)
theorem s171_205 : T_ic 171 205 206 2 := w_ic1 (n := 2) (by decide +kernel) rfl
theorem s171_206 : T_iadd 171 206 207 := w_iadd (by decide +kernel)
theorem s171_207 : T_sld 171 207 208 := w_sld (by decide +kernel) rfl
theorem s171_208 : T_al0 171 208 209 := w_aln0 (by decide +kernel)
theorem s171_209 : T_il4 171 209 211 := w_il4 (by decide +kernel)
theorem s171_211 : T_ic 171 211 212 3 := w_ic1 (n := 3) (by decide +kernel) rfl
theorem s171_212 : T_iadd 171 212 213 := w_iadd (by decide +kernel)
theorem s171_213 : T_sld 171 213 214 := w_sld (by decide +kernel) rfl
theorem s171_214 : T_al0 171 214 215 := w_aln0 (by decide +kernel)
theorem s171_215 : T_il4 171 215 217 := w_il4 (by decide +kernel)
theorem s171_217 : T_ic 171 217 218 4 := w_ic1 (n := 4) (by decide +kernel) rfl
theorem s171_218 : T_iadd 171 218 219 := w_iadd (by decide +kernel)
theorem s171_219 : T_sld 171 219 220 := w_sld (by decide +kernel) rfl
theorem s171_220 : T_ca5 171 220 223 97 := w_ca5 (x := 115) (i := .invokevirtual 115) (by decide +kernel) (by decide +kernel) (Or.inl ⟨rfl, by decide +kernel⟩)
theorem s171_223 : T_is6 171 223 225 := w_is6 (by decide +kernel)
theorem s171_225 : T_al2 171 225 226 := w_aln2 (by decide +kernel)
theorem s171_226 : T_ca1 171 226 229 88 := w_ca1 (x := 116) (i := .invokevirtual 116) (by decide +kernel) (by decide +kernel) (Or.inl ⟨rfl, by decide +kernel⟩)
theorem s171_229 : T_il5 171 229 231 := w_il5 (by decide +kernel)
theorem s171_231 : T_ic_eq 171 231 234 236 := w_ic_eq (off := 5) (by decide +kernel) (by decide +kernel)
theorem s171_234 : T_ic 171 234 235 0 := w_ic1 (n := 0) (by decide +kernel) rfl
theorem s171_235 : T_zr 171 235 := w_zr (by decide +kernel) (by decide +kernel)
theorem s171_236 : T_il5 171 236 238 := w_il5 (by decide +kernel)
theorem s171_238 : T_if_ne 171 238 241 253 := w_if_ne (off := 15) (by decide +kernel) (by decide +kernel)
theorem s171_241 : T_al3 171 241 242 := w_aln3 (by decide +kernel)
theorem s171_242 : T_ic 171 242 243 0 := w_ic1 (n := 0) (by decide +kernel) rfl
theorem s171_243 : T_la 171 243 244 := w_la (by decide +kernel)
theorem s171_244 : T_il6 171 244 246 := w_il6 (by decide +kernel)
theorem s171_246 : T_i2l 171 246 247 := w_i2l (by decide +kernel)
theorem s171_247 : T_lcmp 171 247 248 := w_lcmp (by decide +kernel)
theorem s171_248 : T_if_eq 171 248 251 253 := w_if_eq (off := 5) (by decide +kernel) (by decide +kernel)
theorem s171_251 : T_ic 171 251 252 0 := w_ic1 (n := 0) (by decide +kernel) rfl
theorem s171_252 : T_zr 171 252 := w_zr (by decide +kernel) (by decide +kernel)
theorem s171_253 : T_goto 171 253 2058 := w_goto (off := 1805) (by decide +kernel) (by decide +kernel)
theorem s171_256 : T_al1 171 256 257 := w_aln1 (by decide +kernel)
theorem s171_257 : T_al0 171 257 258 := w_aln0 (by decide +kernel)
theorem s171_258 : T_il4 171 258 260 := w_il4 (by decide +kernel)
theorem s171_260 : T_ic 171 260 261 1 := w_ic1 (n := 1) (by decide +kernel) rfl
theorem s171_261 : T_iadd 171 261 262 := w_iadd (by decide +kernel)
theorem s171_262 : T_sld 171 262 263 := w_sld (by decide +kernel) rfl
theorem s171_263 : T_al0 171 263 264 := w_aln0 (by decide +kernel)
theorem s171_264 : T_il4 171 264 266 := w_il4 (by decide +kernel)
theorem s171_266 : T_ic 171 266 267 2 := w_ic1 (n := 2) (by decide +kernel) rfl
theorem s171_267 : T_iadd 171 267 268 := w_iadd (by decide +kernel)
theorem s171_268 : T_sld 171 268 269 := w_sld (by decide +kernel) rfl
theorem s171_269 : T_al3 171 269 270 := w_aln3 (by decide +kernel)
theorem s171_270 : T_ca4 171 270 273 145 := w_ca4 (x := 119) (i := .invokestatic 119) (by decide +kernel) (by decide +kernel) (Or.inr (Or.inl ⟨rfl, by decide +kernel⟩))
theorem s171_273 : T_is5 171 273 275 := w_is5 (by decide +kernel)
theorem s171_275 : T_al2 171 275 276 := w_aln2 (by decide +kernel)
theorem s171_276 : T_al0 171 276 277 := w_aln0 (by decide +kernel)
theorem s171_277 : T_il4 171 277 279 := w_il4 (by decide +kernel)
theorem s171_279 : T_ic 171 279 280 1 := w_ic1 (n := 1) (by decide +kernel) rfl
theorem s171_280 : T_iadd 171 280 281 := w_iadd (by decide +kernel)
theorem s171_281 : T_sld 171 281 282 := w_sld (by decide +kernel) rfl
theorem s171_282 : T_al0 171 282 283 := w_aln0 (by decide +kernel)
theorem s171_283 : T_il4 171 283 285 := w_il4 (by decide +kernel)
theorem s171_285 : T_ic 171 285 286 2 := w_ic1 (n := 2) (by decide +kernel) rfl
theorem s171_286 : T_iadd 171 286 287 := w_iadd (by decide +kernel)
theorem s171_287 : T_sld 171 287 288 := w_sld (by decide +kernel) rfl
theorem s171_288 : T_ca3 171 288 291 98 := w_ca3 (x := 122) (i := .invokevirtual 122) (by decide +kernel) (by decide +kernel) (Or.inl ⟨rfl, by decide +kernel⟩)
theorem s171_291 : T_is6 171 291 293 := w_is6 (by decide +kernel)
theorem s171_293 : T_al2 171 293 294 := w_aln2 (by decide +kernel)
theorem s171_294 : T_ca1 171 294 297 88 := w_ca1 (x := 116) (i := .invokevirtual 116) (by decide +kernel) (by decide +kernel) (Or.inl ⟨rfl, by decide +kernel⟩)
theorem s171_297 : T_il5 171 297 299 := w_il5 (by decide +kernel)
theorem s171_299 : T_ic_eq 171 299 302 304 := w_ic_eq (off := 5) (by decide +kernel) (by decide +kernel)
theorem s171_302 : T_ic 171 302 303 0 := w_ic1 (n := 0) (by decide +kernel) rfl
theorem s171_303 : T_zr 171 303 := w_zr (by decide +kernel) (by decide +kernel)
theorem s171_304 : T_il5 171 304 306 := w_il5 (by decide +kernel)
theorem s171_306 : T_if_ne 171 306 309 321 := w_if_ne (off := 15) (by decide +kernel) (by decide +kernel)
theorem s171_309 : T_al3 171 309 310 := w_aln3 (by decide +kernel)
theorem s171_310 : T_ic 171 310 311 0 := w_ic1 (n := 0) (by decide +kernel) rfl
theorem s171_311 : T_la 171 311 312 := w_la (by decide +kernel)
theorem s171_312 : T_il6 171 312 314 := w_il6 (by decide +kernel)
theorem s171_314 : T_i2l 171 314 315 := w_i2l (by decide +kernel)
theorem s171_315 : T_lcmp 171 315 316 := w_lcmp (by decide +kernel)
theorem s171_316 : T_if_eq 171 316 319 321 := w_if_eq (off := 5) (by decide +kernel) (by decide +kernel)
theorem s171_319 : T_ic 171 319 320 0 := w_ic1 (n := 0) (by decide +kernel) rfl
theorem s171_320 : T_zr 171 320 := w_zr (by decide +kernel) (by decide +kernel)
theorem s171_321 : T_goto 171 321 2058 := w_goto (off := 1737) (by decide +kernel) (by decide +kernel)
theorem s171_324 : T_al1 171 324 325 := w_aln1 (by decide +kernel)
theorem s171_325 : T_al0 171 325 326 := w_aln0 (by decide +kernel)
theorem s171_326 : T_il4 171 326 328 := w_il4 (by decide +kernel)
theorem s171_328 : T_ic 171 328 329 1 := w_ic1 (n := 1) (by decide +kernel) rfl
theorem s171_329 : T_iadd 171 329 330 := w_iadd (by decide +kernel)
theorem s171_330 : T_sld 171 330 331 := w_sld (by decide +kernel) rfl
theorem s171_331 : T_al0 171 331 332 := w_aln0 (by decide +kernel)
theorem s171_332 : T_il4 171 332 334 := w_il4 (by decide +kernel)
theorem s171_334 : T_ic 171 334 335 2 := w_ic1 (n := 2) (by decide +kernel) rfl
theorem s171_335 : T_iadd 171 335 336 := w_iadd (by decide +kernel)
theorem s171_336 : T_sld 171 336 337 := w_sld (by decide +kernel) rfl
theorem s171_337 : T_al0 171 337 338 := w_aln0 (by decide +kernel)
theorem s171_338 : T_il4 171 338 340 := w_il4 (by decide +kernel)
theorem s171_340 : T_ic 171 340 341 3 := w_ic1 (n := 3) (by decide +kernel) rfl
theorem s171_341 : T_iadd 171 341 342 := w_iadd (by decide +kernel)
theorem s171_342 : T_sld 171 342 343 := w_sld (by decide +kernel) rfl
theorem s171_343 : T_al3 171 343 344 := w_aln3 (by decide +kernel)
theorem s171_344 : T_ca5 171 344 347 146 := w_ca5 (x := 123) (i := .invokestatic 123) (by decide +kernel) (by decide +kernel) (Or.inr (Or.inl ⟨rfl, by decide +kernel⟩))
theorem s171_347 : T_is5 171 347 349 := w_is5 (by decide +kernel)
theorem s171_349 : T_al2 171 349 350 := w_aln2 (by decide +kernel)
theorem s171_350 : T_al0 171 350 351 := w_aln0 (by decide +kernel)
theorem s171_351 : T_il4 171 351 353 := w_il4 (by decide +kernel)
theorem s171_353 : T_ic 171 353 354 1 := w_ic1 (n := 1) (by decide +kernel) rfl
theorem s171_354 : T_iadd 171 354 355 := w_iadd (by decide +kernel)
theorem s171_355 : T_sld 171 355 356 := w_sld (by decide +kernel) rfl
theorem s171_356 : T_al0 171 356 357 := w_aln0 (by decide +kernel)
theorem s171_357 : T_il4 171 357 359 := w_il4 (by decide +kernel)
theorem s171_359 : T_ic 171 359 360 2 := w_ic1 (n := 2) (by decide +kernel) rfl
theorem s171_360 : T_iadd 171 360 361 := w_iadd (by decide +kernel)
theorem s171_361 : T_sld 171 361 362 := w_sld (by decide +kernel) rfl
theorem s171_362 : T_al0 171 362 363 := w_aln0 (by decide +kernel)
theorem s171_363 : T_il4 171 363 365 := w_il4 (by decide +kernel)
theorem s171_365 : T_ic 171 365 366 3 := w_ic1 (n := 3) (by decide +kernel) rfl
theorem s171_366 : T_iadd 171 366 367 := w_iadd (by decide +kernel)
theorem s171_367 : T_sld 171 367 368 := w_sld (by decide +kernel) rfl
theorem s171_368 : T_ca4 171 368 371 100 := w_ca4 (x := 126) (i := .invokevirtual 126) (by decide +kernel) (by decide +kernel) (Or.inl ⟨rfl, by decide +kernel⟩)
theorem s171_371 : T_is6 171 371 373 := w_is6 (by decide +kernel)
theorem s171_373 : T_al2 171 373 374 := w_aln2 (by decide +kernel)
theorem s171_374 : T_ca1 171 374 377 88 := w_ca1 (x := 116) (i := .invokevirtual 116) (by decide +kernel) (by decide +kernel) (Or.inl ⟨rfl, by decide +kernel⟩)
theorem s171_377 : T_il5 171 377 379 := w_il5 (by decide +kernel)
theorem s171_379 : T_ic_eq 171 379 382 384 := w_ic_eq (off := 5) (by decide +kernel) (by decide +kernel)
theorem s171_382 : T_ic 171 382 383 0 := w_ic1 (n := 0) (by decide +kernel) rfl
theorem s171_383 : T_zr 171 383 := w_zr (by decide +kernel) (by decide +kernel)
theorem s171_384 : T_il5 171 384 386 := w_il5 (by decide +kernel)
theorem s171_386 : T_if_ne 171 386 389 401 := w_if_ne (off := 15) (by decide +kernel) (by decide +kernel)
theorem s171_389 : T_al3 171 389 390 := w_aln3 (by decide +kernel)
theorem s171_390 : T_ic 171 390 391 0 := w_ic1 (n := 0) (by decide +kernel) rfl
theorem s171_391 : T_la 171 391 392 := w_la (by decide +kernel)
theorem s171_392 : T_il6 171 392 394 := w_il6 (by decide +kernel)
theorem s171_394 : T_i2l 171 394 395 := w_i2l (by decide +kernel)
theorem s171_395 : T_lcmp 171 395 396 := w_lcmp (by decide +kernel)
theorem s171_396 : T_if_eq 171 396 399 401 := w_if_eq (off := 5) (by decide +kernel) (by decide +kernel)
theorem s171_399 : T_ic 171 399 400 0 := w_ic1 (n := 0) (by decide +kernel) rfl
theorem s171_400 : T_zr 171 400 := w_zr (by decide +kernel) (by decide +kernel)
theorem s171_401 : T_goto 171 401 2058 := w_goto (off := 1657) (by decide +kernel) (by decide +kernel)
theorem s171_404 : T_al1 171 404 405 := w_aln1 (by decide +kernel)
theorem s171_405 : T_al0 171 405 406 := w_aln0 (by decide +kernel)
theorem s171_406 : T_il4 171 406 408 := w_il4 (by decide +kernel)
theorem s171_408 : T_ic 171 408 409 1 := w_ic1 (n := 1) (by decide +kernel) rfl
theorem s171_409 : T_iadd 171 409 410 := w_iadd (by decide +kernel)
theorem s171_410 : T_sld 171 410 411 := w_sld (by decide +kernel) rfl
theorem s171_411 : T_al0 171 411 412 := w_aln0 (by decide +kernel)
theorem s171_412 : T_il4 171 412 414 := w_il4 (by decide +kernel)
theorem s171_414 : T_ic 171 414 415 2 := w_ic1 (n := 2) (by decide +kernel) rfl
theorem s171_415 : T_iadd 171 415 416 := w_iadd (by decide +kernel)
theorem s171_416 : T_sld 171 416 417 := w_sld (by decide +kernel) rfl
theorem s171_417 : T_al0 171 417 418 := w_aln0 (by decide +kernel)
theorem s171_418 : T_il4 171 418 420 := w_il4 (by decide +kernel)
theorem s171_420 : T_ic 171 420 421 3 := w_ic1 (n := 3) (by decide +kernel) rfl
theorem s171_421 : T_iadd 171 421 422 := w_iadd (by decide +kernel)
theorem s171_422 : T_sld 171 422 423 := w_sld (by decide +kernel) rfl
theorem s171_423 : T_if_eq 171 423 426 430 := w_if_eq (off := 7) (by decide +kernel) (by decide +kernel)
theorem s171_426 : T_ic 171 426 427 1 := w_ic1 (n := 1) (by decide +kernel) rfl
theorem s171_427 : T_goto 171 427 431 := w_goto (off := 4) (by decide +kernel) (by decide +kernel)
theorem s171_430 : T_ic 171 430 431 0 := w_ic1 (n := 0) (by decide +kernel) rfl
theorem s171_431 : T_al3 171 431 432 := w_aln3 (by decide +kernel)
theorem s171_432 : T_ca5 171 432 435 147 := w_ca5 (x := 127) (i := .invokestatic 127) (by decide +kernel) (by decide +kernel) (Or.inr (Or.inl ⟨rfl, by decide +kernel⟩))
theorem s171_435 : T_is5 171 435 437 := w_is5 (by decide +kernel)
theorem s171_437 : T_al2 171 437 438 := w_aln2 (by decide +kernel)
theorem s171_438 : T_al0 171 438 439 := w_aln0 (by decide +kernel)
theorem s171_439 : T_il4 171 439 441 := w_il4 (by decide +kernel)
theorem s171_441 : T_ic 171 441 442 1 := w_ic1 (n := 1) (by decide +kernel) rfl
theorem s171_442 : T_iadd 171 442 443 := w_iadd (by decide +kernel)
theorem s171_443 : T_sld 171 443 444 := w_sld (by decide +kernel) rfl
theorem s171_444 : T_al0 171 444 445 := w_aln0 (by decide +kernel)
theorem s171_445 : T_il4 171 445 447 := w_il4 (by decide +kernel)
theorem s171_447 : T_ic 171 447 448 2 := w_ic1 (n := 2) (by decide +kernel) rfl
theorem s171_448 : T_iadd 171 448 449 := w_iadd (by decide +kernel)
theorem s171_449 : T_sld 171 449 450 := w_sld (by decide +kernel) rfl
theorem s171_450 : T_al0 171 450 451 := w_aln0 (by decide +kernel)
theorem s171_451 : T_il4 171 451 453 := w_il4 (by decide +kernel)
theorem s171_453 : T_ic 171 453 454 3 := w_ic1 (n := 3) (by decide +kernel) rfl
theorem s171_454 : T_iadd 171 454 455 := w_iadd (by decide +kernel)
theorem s171_455 : T_sld 171 455 456 := w_sld (by decide +kernel) rfl
theorem s171_456 : T_if_eq 171 456 459 463 := w_if_eq (off := 7) (by decide +kernel) (by decide +kernel)
theorem s171_459 : T_ic 171 459 460 1 := w_ic1 (n := 1) (by decide +kernel) rfl
theorem s171_460 : T_goto 171 460 464 := w_goto (off := 4) (by decide +kernel) (by decide +kernel)
theorem s171_463 : T_ic 171 463 464 0 := w_ic1 (n := 0) (by decide +kernel) rfl
theorem s171_464 : T_ca4 171 464 467 102 := w_ca4 (x := 130) (i := .invokevirtual 130) (by decide +kernel) (by decide +kernel) (Or.inl ⟨rfl, by decide +kernel⟩)
theorem s171_467 : T_is6 171 467 469 := w_is6 (by decide +kernel)
theorem s171_469 : T_al2 171 469 470 := w_aln2 (by decide +kernel)
theorem s171_470 : T_ca1 171 470 473 88 := w_ca1 (x := 116) (i := .invokevirtual 116) (by decide +kernel) (by decide +kernel) (Or.inl ⟨rfl, by decide +kernel⟩)
theorem s171_473 : T_il5 171 473 475 := w_il5 (by decide +kernel)
theorem s171_475 : T_ic_eq 171 475 478 480 := w_ic_eq (off := 5) (by decide +kernel) (by decide +kernel)
theorem s171_478 : T_ic 171 478 479 0 := w_ic1 (n := 0) (by decide +kernel) rfl
theorem s171_479 : T_zr 171 479 := w_zr (by decide +kernel) (by decide +kernel)
theorem s171_480 : T_il5 171 480 482 := w_il5 (by decide +kernel)
theorem s171_482 : T_if_ne 171 482 485 497 := w_if_ne (off := 15) (by decide +kernel) (by decide +kernel)
theorem s171_485 : T_al3 171 485 486 := w_aln3 (by decide +kernel)
theorem s171_486 : T_ic 171 486 487 0 := w_ic1 (n := 0) (by decide +kernel) rfl
theorem s171_487 : T_la 171 487 488 := w_la (by decide +kernel)
theorem s171_488 : T_il6 171 488 490 := w_il6 (by decide +kernel)
theorem s171_490 : T_i2l 171 490 491 := w_i2l (by decide +kernel)
theorem s171_491 : T_lcmp 171 491 492 := w_lcmp (by decide +kernel)
theorem s171_492 : T_if_eq 171 492 495 497 := w_if_eq (off := 5) (by decide +kernel) (by decide +kernel)
theorem s171_495 : T_ic 171 495 496 0 := w_ic1 (n := 0) (by decide +kernel) rfl
theorem s171_496 : T_zr 171 496 := w_zr (by decide +kernel) (by decide +kernel)
theorem s171_497 : T_goto 171 497 2058 := w_goto (off := 1561) (by decide +kernel) (by decide +kernel)
theorem s171_500 : T_al1 171 500 501 := w_aln1 (by decide +kernel)
theorem s171_501 : T_al0 171 501 502 := w_aln0 (by decide +kernel)
theorem s171_502 : T_il4 171 502 504 := w_il4 (by decide +kernel)
theorem s171_504 : T_ic 171 504 505 1 := w_ic1 (n := 1) (by decide +kernel) rfl
theorem s171_505 : T_iadd 171 505 506 := w_iadd (by decide +kernel)
theorem s171_506 : T_sld 171 506 507 := w_sld (by decide +kernel) rfl
theorem s171_507 : T_if_eq 171 507 510 514 := w_if_eq (off := 7) (by decide +kernel) (by decide +kernel)
theorem s171_510 : T_ic 171 510 511 1 := w_ic1 (n := 1) (by decide +kernel) rfl
theorem s171_511 : T_goto 171 511 515 := w_goto (off := 4) (by decide +kernel) (by decide +kernel)
theorem s171_514 : T_ic 171 514 515 0 := w_ic1 (n := 0) (by decide +kernel) rfl
theorem s171_515 : T_al0 171 515 516 := w_aln0 (by decide +kernel)
theorem s171_516 : T_il4 171 516 518 := w_il4 (by decide +kernel)
theorem s171_518 : T_ic 171 518 519 2 := w_ic1 (n := 2) (by decide +kernel) rfl
theorem s171_519 : T_iadd 171 519 520 := w_iadd (by decide +kernel)
theorem s171_520 : T_sld 171 520 521 := w_sld (by decide +kernel) rfl
theorem s171_521 : T_al0 171 521 522 := w_aln0 (by decide +kernel)
theorem s171_522 : T_il4 171 522 524 := w_il4 (by decide +kernel)
theorem s171_524 : T_ic 171 524 525 3 := w_ic1 (n := 3) (by decide +kernel) rfl
theorem s171_525 : T_iadd 171 525 526 := w_iadd (by decide +kernel)
theorem s171_526 : T_sld 171 526 527 := w_sld (by decide +kernel) rfl
theorem s171_527 : T_al3 171 527 528 := w_aln3 (by decide +kernel)
theorem s171_528 : T_ca5 171 528 531 148 := w_ca5 (x := 131) (i := .invokestatic 131) (by decide +kernel) (by decide +kernel) (Or.inr (Or.inl ⟨rfl, by decide +kernel⟩))
theorem s171_531 : T_is5 171 531 533 := w_is5 (by decide +kernel)
theorem s171_533 : T_al2 171 533 534 := w_aln2 (by decide +kernel)
theorem s171_534 : T_al0 171 534 535 := w_aln0 (by decide +kernel)
theorem s171_535 : T_il4 171 535 537 := w_il4 (by decide +kernel)
theorem s171_537 : T_ic 171 537 538 1 := w_ic1 (n := 1) (by decide +kernel) rfl
theorem s171_538 : T_iadd 171 538 539 := w_iadd (by decide +kernel)
theorem s171_539 : T_sld 171 539 540 := w_sld (by decide +kernel) rfl
theorem s171_540 : T_if_eq 171 540 543 547 := w_if_eq (off := 7) (by decide +kernel) (by decide +kernel)
theorem s171_543 : T_ic 171 543 544 1 := w_ic1 (n := 1) (by decide +kernel) rfl
theorem s171_544 : T_goto 171 544 548 := w_goto (off := 4) (by decide +kernel) (by decide +kernel)
theorem s171_547 : T_ic 171 547 548 0 := w_ic1 (n := 0) (by decide +kernel) rfl
theorem s171_548 : T_al0 171 548 549 := w_aln0 (by decide +kernel)
theorem s171_549 : T_il4 171 549 551 := w_il4 (by decide +kernel)
theorem s171_551 : T_ic 171 551 552 2 := w_ic1 (n := 2) (by decide +kernel) rfl
theorem s171_552 : T_iadd 171 552 553 := w_iadd (by decide +kernel)
theorem s171_553 : T_sld 171 553 554 := w_sld (by decide +kernel) rfl
theorem s171_554 : T_al0 171 554 555 := w_aln0 (by decide +kernel)
theorem s171_555 : T_il4 171 555 557 := w_il4 (by decide +kernel)
theorem s171_557 : T_ic 171 557 558 3 := w_ic1 (n := 3) (by decide +kernel) rfl
theorem s171_558 : T_iadd 171 558 559 := w_iadd (by decide +kernel)
theorem s171_559 : T_sld 171 559 560 := w_sld (by decide +kernel) rfl
theorem s171_560 : T_ca4 171 560 563 103 := w_ca4 (x := 134) (i := .invokevirtual 134) (by decide +kernel) (by decide +kernel) (Or.inl ⟨rfl, by decide +kernel⟩)
theorem s171_563 : T_is6 171 563 565 := w_is6 (by decide +kernel)
theorem s171_565 : T_al2 171 565 566 := w_aln2 (by decide +kernel)
theorem s171_566 : T_ca1 171 566 569 88 := w_ca1 (x := 116) (i := .invokevirtual 116) (by decide +kernel) (by decide +kernel) (Or.inl ⟨rfl, by decide +kernel⟩)
theorem s171_569 : T_il5 171 569 571 := w_il5 (by decide +kernel)
theorem s171_571 : T_ic_eq 171 571 574 576 := w_ic_eq (off := 5) (by decide +kernel) (by decide +kernel)
theorem s171_574 : T_ic 171 574 575 0 := w_ic1 (n := 0) (by decide +kernel) rfl
theorem s171_575 : T_zr 171 575 := w_zr (by decide +kernel) (by decide +kernel)
theorem s171_576 : T_il5 171 576 578 := w_il5 (by decide +kernel)
theorem s171_578 : T_if_ne 171 578 581 593 := w_if_ne (off := 15) (by decide +kernel) (by decide +kernel)
theorem s171_581 : T_al3 171 581 582 := w_aln3 (by decide +kernel)
theorem s171_582 : T_ic 171 582 583 0 := w_ic1 (n := 0) (by decide +kernel) rfl
theorem s171_583 : T_la 171 583 584 := w_la (by decide +kernel)
theorem s171_584 : T_il6 171 584 586 := w_il6 (by decide +kernel)
theorem s171_586 : T_i2l 171 586 587 := w_i2l (by decide +kernel)
theorem s171_587 : T_lcmp 171 587 588 := w_lcmp (by decide +kernel)
theorem s171_588 : T_if_eq 171 588 591 593 := w_if_eq (off := 5) (by decide +kernel) (by decide +kernel)
theorem s171_591 : T_ic 171 591 592 0 := w_ic1 (n := 0) (by decide +kernel) rfl
theorem s171_592 : T_zr 171 592 := w_zr (by decide +kernel) (by decide +kernel)
theorem s171_593 : T_goto 171 593 2058 := w_goto (off := 1465) (by decide +kernel) (by decide +kernel)
theorem s171_596 : T_al1 171 596 597 := w_aln1 (by decide +kernel)
theorem s171_597 : T_al0 171 597 598 := w_aln0 (by decide +kernel)
theorem s171_598 : T_il4 171 598 600 := w_il4 (by decide +kernel)
theorem s171_600 : T_ic 171 600 601 1 := w_ic1 (n := 1) (by decide +kernel) rfl
theorem s171_601 : T_iadd 171 601 602 := w_iadd (by decide +kernel)
theorem s171_602 : T_sld 171 602 603 := w_sld (by decide +kernel) rfl
theorem s171_603 : T_al0 171 603 604 := w_aln0 (by decide +kernel)
theorem s171_604 : T_il4 171 604 606 := w_il4 (by decide +kernel)
theorem s171_606 : T_ic 171 606 607 2 := w_ic1 (n := 2) (by decide +kernel) rfl
theorem s171_607 : T_iadd 171 607 608 := w_iadd (by decide +kernel)
theorem s171_608 : T_sld 171 608 609 := w_sld (by decide +kernel) rfl
theorem s171_609 : T_al0 171 609 610 := w_aln0 (by decide +kernel)
theorem s171_610 : T_il4 171 610 612 := w_il4 (by decide +kernel)
theorem s171_612 : T_ic 171 612 613 3 := w_ic1 (n := 3) (by decide +kernel) rfl
theorem s171_613 : T_iadd 171 613 614 := w_iadd (by decide +kernel)
theorem s171_614 : T_sld 171 614 615 := w_sld (by decide +kernel) rfl
theorem s171_615 : T_if_eq 171 615 618 622 := w_if_eq (off := 7) (by decide +kernel) (by decide +kernel)
theorem s171_618 : T_ic 171 618 619 1 := w_ic1 (n := 1) (by decide +kernel) rfl
theorem s171_619 : T_goto 171 619 623 := w_goto (off := 4) (by decide +kernel) (by decide +kernel)
theorem s171_622 : T_ic 171 622 623 0 := w_ic1 (n := 0) (by decide +kernel) rfl
theorem s171_623 : T_al3 171 623 624 := w_aln3 (by decide +kernel)
theorem s171_624 : T_ca5 171 624 627 149 := w_ca5 (x := 135) (i := .invokestatic 135) (by decide +kernel) (by decide +kernel) (Or.inr (Or.inl ⟨rfl, by decide +kernel⟩))
theorem s171_627 : T_is5 171 627 629 := w_is5 (by decide +kernel)
theorem s171_629 : T_al2 171 629 630 := w_aln2 (by decide +kernel)
theorem s171_630 : T_al0 171 630 631 := w_aln0 (by decide +kernel)
theorem s171_631 : T_il4 171 631 633 := w_il4 (by decide +kernel)
theorem s171_633 : T_ic 171 633 634 1 := w_ic1 (n := 1) (by decide +kernel) rfl
theorem s171_634 : T_iadd 171 634 635 := w_iadd (by decide +kernel)
theorem s171_635 : T_sld 171 635 636 := w_sld (by decide +kernel) rfl
theorem s171_636 : T_al0 171 636 637 := w_aln0 (by decide +kernel)
theorem s171_637 : T_il4 171 637 639 := w_il4 (by decide +kernel)
theorem s171_639 : T_ic 171 639 640 2 := w_ic1 (n := 2) (by decide +kernel) rfl
theorem s171_640 : T_iadd 171 640 641 := w_iadd (by decide +kernel)
theorem s171_641 : T_sld 171 641 642 := w_sld (by decide +kernel) rfl
theorem s171_642 : T_al0 171 642 643 := w_aln0 (by decide +kernel)
theorem s171_643 : T_il4 171 643 645 := w_il4 (by decide +kernel)
theorem s171_645 : T_ic 171 645 646 3 := w_ic1 (n := 3) (by decide +kernel) rfl
theorem s171_646 : T_iadd 171 646 647 := w_iadd (by decide +kernel)
theorem s171_647 : T_sld 171 647 648 := w_sld (by decide +kernel) rfl
theorem s171_648 : T_if_eq 171 648 651 655 := w_if_eq (off := 7) (by decide +kernel) (by decide +kernel)
theorem s171_651 : T_ic 171 651 652 1 := w_ic1 (n := 1) (by decide +kernel) rfl
theorem s171_652 : T_goto 171 652 656 := w_goto (off := 4) (by decide +kernel) (by decide +kernel)
theorem s171_655 : T_ic 171 655 656 0 := w_ic1 (n := 0) (by decide +kernel) rfl
theorem s171_656 : T_ca4 171 656 659 104 := w_ca4 (x := 137) (i := .invokevirtual 137) (by decide +kernel) (by decide +kernel) (Or.inl ⟨rfl, by decide +kernel⟩)
theorem s171_659 : T_is6 171 659 661 := w_is6 (by decide +kernel)
theorem s171_661 : T_al2 171 661 662 := w_aln2 (by decide +kernel)
theorem s171_662 : T_ca1 171 662 665 88 := w_ca1 (x := 116) (i := .invokevirtual 116) (by decide +kernel) (by decide +kernel) (Or.inl ⟨rfl, by decide +kernel⟩)
theorem s171_665 : T_il5 171 665 667 := w_il5 (by decide +kernel)
theorem s171_667 : T_ic_eq 171 667 670 672 := w_ic_eq (off := 5) (by decide +kernel) (by decide +kernel)
theorem s171_670 : T_ic 171 670 671 0 := w_ic1 (n := 0) (by decide +kernel) rfl
theorem s171_671 : T_zr 171 671 := w_zr (by decide +kernel) (by decide +kernel)
theorem s171_672 : T_il5 171 672 674 := w_il5 (by decide +kernel)
theorem s171_674 : T_if_ne 171 674 677 696 := w_if_ne (off := 22) (by decide +kernel) (by decide +kernel)
theorem s171_677 : T_al3 171 677 678 := w_aln3 (by decide +kernel)
theorem s171_678 : T_ic 171 678 679 0 := w_ic1 (n := 0) (by decide +kernel) rfl
theorem s171_679 : T_la 171 679 680 := w_la (by decide +kernel)
theorem s171_680 : T_il6 171 680 682 := w_il6 (by decide +kernel)
theorem s171_682 : T_if_eq 171 682 685 689 := w_if_eq (off := 7) (by decide +kernel) (by decide +kernel)
theorem s171_685 : T_lc 171 685 686 1 := w_lc (n := 1) (by decide +kernel) rfl
theorem s171_686 : T_goto 171 686 690 := w_goto (off := 4) (by decide +kernel) (by decide +kernel)
theorem s171_689 : T_lc 171 689 690 0 := w_lc (n := 0) (by decide +kernel) rfl
theorem s171_690 : T_lcmp 171 690 691 := w_lcmp (by decide +kernel)
theorem s171_691 : T_if_eq 171 691 694 696 := w_if_eq (off := 5) (by decide +kernel) (by decide +kernel)
theorem s171_694 : T_ic 171 694 695 0 := w_ic1 (n := 0) (by decide +kernel) rfl
theorem s171_695 : T_zr 171 695 := w_zr (by decide +kernel) (by decide +kernel)
theorem s171_696 : T_goto 171 696 2058 := w_goto (off := 1362) (by decide +kernel) (by decide +kernel)
theorem s171_699 : T_al1 171 699 700 := w_aln1 (by decide +kernel)
theorem s171_700 : T_al0 171 700 701 := w_aln0 (by decide +kernel)
theorem s171_701 : T_il4 171 701 703 := w_il4 (by decide +kernel)
theorem s171_703 : T_ic 171 703 704 1 := w_ic1 (n := 1) (by decide +kernel) rfl
theorem s171_704 : T_iadd 171 704 705 := w_iadd (by decide +kernel)
theorem s171_705 : T_sld 171 705 706 := w_sld (by decide +kernel) rfl
theorem s171_706 : T_al3 171 706 707 := w_aln3 (by decide +kernel)
theorem s171_707 : T_ca3 171 707 710 150 := w_ca3 (x := 138) (i := .invokestatic 138) (by decide +kernel) (by decide +kernel) (Or.inr (Or.inl ⟨rfl, by decide +kernel⟩))
theorem s171_710 : T_is5 171 710 712 := w_is5 (by decide +kernel)
theorem s171_712 : T_al2 171 712 713 := w_aln2 (by decide +kernel)
theorem s171_713 : T_al0 171 713 714 := w_aln0 (by decide +kernel)
theorem s171_714 : T_il4 171 714 716 := w_il4 (by decide +kernel)
theorem s171_716 : T_ic 171 716 717 1 := w_ic1 (n := 1) (by decide +kernel) rfl
theorem s171_717 : T_iadd 171 717 718 := w_iadd (by decide +kernel)
theorem s171_718 : T_sld 171 718 719 := w_sld (by decide +kernel) rfl
theorem s171_719 : T_ca2 171 719 722 109 := w_ca2 (x := 141) (i := .invokevirtual 141) (by decide +kernel) (by decide +kernel) (Or.inl ⟨rfl, by decide +kernel⟩)
theorem s171_722 : T_is6 171 722 724 := w_is6 (by decide +kernel)
theorem s171_724 : T_al2 171 724 725 := w_aln2 (by decide +kernel)
theorem s171_725 : T_ca1 171 725 728 88 := w_ca1 (x := 116) (i := .invokevirtual 116) (by decide +kernel) (by decide +kernel) (Or.inl ⟨rfl, by decide +kernel⟩)
theorem s171_728 : T_il5 171 728 730 := w_il5 (by decide +kernel)
theorem s171_730 : T_ic_eq 171 730 733 735 := w_ic_eq (off := 5) (by decide +kernel) (by decide +kernel)
theorem s171_733 : T_ic 171 733 734 0 := w_ic1 (n := 0) (by decide +kernel) rfl
theorem s171_734 : T_zr 171 734 := w_zr (by decide +kernel) (by decide +kernel)
theorem s171_735 : T_il5 171 735 737 := w_il5 (by decide +kernel)
theorem s171_737 : T_if_ne 171 737 740 752 := w_if_ne (off := 15) (by decide +kernel) (by decide +kernel)
theorem s171_740 : T_al3 171 740 741 := w_aln3 (by decide +kernel)
theorem s171_741 : T_ic 171 741 742 0 := w_ic1 (n := 0) (by decide +kernel) rfl
theorem s171_742 : T_la 171 742 743 := w_la (by decide +kernel)
theorem s171_743 : T_il6 171 743 745 := w_il6 (by decide +kernel)
theorem s171_745 : T_i2l 171 745 746 := w_i2l (by decide +kernel)
theorem s171_746 : T_lcmp 171 746 747 := w_lcmp (by decide +kernel)
theorem s171_747 : T_if_eq 171 747 750 752 := w_if_eq (off := 5) (by decide +kernel) (by decide +kernel)
theorem s171_750 : T_ic 171 750 751 0 := w_ic1 (n := 0) (by decide +kernel) rfl
theorem s171_751 : T_zr 171 751 := w_zr (by decide +kernel) (by decide +kernel)
theorem s171_752 : T_goto 171 752 2058 := w_goto (off := 1306) (by decide +kernel) (by decide +kernel)
theorem s171_755 : T_al1 171 755 756 := w_aln1 (by decide +kernel)
theorem s171_756 : T_al0 171 756 757 := w_aln0 (by decide +kernel)
theorem s171_757 : T_il4 171 757 759 := w_il4 (by decide +kernel)
theorem s171_759 : T_ic 171 759 760 1 := w_ic1 (n := 1) (by decide +kernel) rfl
theorem s171_760 : T_iadd 171 760 761 := w_iadd (by decide +kernel)
theorem s171_761 : T_sld 171 761 762 := w_sld (by decide +kernel) rfl
theorem s171_762 : T_al3 171 762 763 := w_aln3 (by decide +kernel)
theorem s171_763 : T_ca3 171 763 766 151 := w_ca3 (x := 142) (i := .invokestatic 142) (by decide +kernel) (by decide +kernel) (Or.inr (Or.inl ⟨rfl, by decide +kernel⟩))
theorem s171_766 : T_is5 171 766 768 := w_is5 (by decide +kernel)
theorem s171_768 : T_al2 171 768 769 := w_aln2 (by decide +kernel)
theorem s171_769 : T_al0 171 769 770 := w_aln0 (by decide +kernel)
theorem s171_770 : T_il4 171 770 772 := w_il4 (by decide +kernel)
theorem s171_772 : T_ic 171 772 773 1 := w_ic1 (n := 1) (by decide +kernel) rfl
theorem s171_773 : T_iadd 171 773 774 := w_iadd (by decide +kernel)
theorem s171_774 : T_sld 171 774 775 := w_sld (by decide +kernel) rfl
theorem s171_775 : T_ca2 171 775 778 110 := w_ca2 (x := 144) (i := .invokevirtual 144) (by decide +kernel) (by decide +kernel) (Or.inl ⟨rfl, by decide +kernel⟩)
theorem s171_778 : T_is6 171 778 780 := w_is6 (by decide +kernel)
theorem s171_780 : T_al2 171 780 781 := w_aln2 (by decide +kernel)
theorem s171_781 : T_ca1 171 781 784 88 := w_ca1 (x := 116) (i := .invokevirtual 116) (by decide +kernel) (by decide +kernel) (Or.inl ⟨rfl, by decide +kernel⟩)
theorem s171_784 : T_il5 171 784 786 := w_il5 (by decide +kernel)
theorem s171_786 : T_ic_eq 171 786 789 791 := w_ic_eq (off := 5) (by decide +kernel) (by decide +kernel)
theorem s171_789 : T_ic 171 789 790 0 := w_ic1 (n := 0) (by decide +kernel) rfl
theorem s171_790 : T_zr 171 790 := w_zr (by decide +kernel) (by decide +kernel)
theorem s171_791 : T_il5 171 791 793 := w_il5 (by decide +kernel)
theorem s171_793 : T_if_ne 171 793 796 808 := w_if_ne (off := 15) (by decide +kernel) (by decide +kernel)
theorem s171_796 : T_al3 171 796 797 := w_aln3 (by decide +kernel)
theorem s171_797 : T_ic 171 797 798 0 := w_ic1 (n := 0) (by decide +kernel) rfl
theorem s171_798 : T_la 171 798 799 := w_la (by decide +kernel)
theorem s171_799 : T_il6 171 799 801 := w_il6 (by decide +kernel)
theorem s171_801 : T_i2l 171 801 802 := w_i2l (by decide +kernel)
theorem s171_802 : T_lcmp 171 802 803 := w_lcmp (by decide +kernel)
theorem s171_803 : T_if_eq 171 803 806 808 := w_if_eq (off := 5) (by decide +kernel) (by decide +kernel)
theorem s171_806 : T_ic 171 806 807 0 := w_ic1 (n := 0) (by decide +kernel) rfl
theorem s171_807 : T_zr 171 807 := w_zr (by decide +kernel) (by decide +kernel)
theorem s171_808 : T_goto 171 808 2058 := w_goto (off := 1250) (by decide +kernel) (by decide +kernel)
theorem s171_811 : T_al1 171 811 812 := w_aln1 (by decide +kernel)
theorem s171_812 : T_al0 171 812 813 := w_aln0 (by decide +kernel)
theorem s171_813 : T_il4 171 813 815 := w_il4 (by decide +kernel)
theorem s171_815 : T_ic 171 815 816 1 := w_ic1 (n := 1) (by decide +kernel) rfl
theorem s171_816 : T_iadd 171 816 817 := w_iadd (by decide +kernel)
theorem s171_817 : T_sld 171 817 818 := w_sld (by decide +kernel) rfl
theorem s171_818 : T_al3 171 818 819 := w_aln3 (by decide +kernel)
theorem s171_819 : T_ca3 171 819 822 152 := w_ca3 (x := 145) (i := .invokestatic 145) (by decide +kernel) (by decide +kernel) (Or.inr (Or.inl ⟨rfl, by decide +kernel⟩))
theorem s171_822 : T_is5 171 822 824 := w_is5 (by decide +kernel)
theorem s171_824 : T_al2 171 824 825 := w_aln2 (by decide +kernel)
theorem s171_825 : T_al0 171 825 826 := w_aln0 (by decide +kernel)
theorem s171_826 : T_il4 171 826 828 := w_il4 (by decide +kernel)
theorem s171_828 : T_ic 171 828 829 1 := w_ic1 (n := 1) (by decide +kernel) rfl
theorem s171_829 : T_iadd 171 829 830 := w_iadd (by decide +kernel)
theorem s171_830 : T_sld 171 830 831 := w_sld (by decide +kernel) rfl
theorem s171_831 : T_ca2 171 831 834 111 := w_ca2 (x := 147) (i := .invokevirtual 147) (by decide +kernel) (by decide +kernel) (Or.inl ⟨rfl, by decide +kernel⟩)
theorem s171_834 : T_is6 171 834 836 := w_is6 (by decide +kernel)
theorem s171_836 : T_al2 171 836 837 := w_aln2 (by decide +kernel)
theorem s171_837 : T_ca1 171 837 840 88 := w_ca1 (x := 116) (i := .invokevirtual 116) (by decide +kernel) (by decide +kernel) (Or.inl ⟨rfl, by decide +kernel⟩)
theorem s171_840 : T_il5 171 840 842 := w_il5 (by decide +kernel)
theorem s171_842 : T_ic_eq 171 842 845 847 := w_ic_eq (off := 5) (by decide +kernel) (by decide +kernel)
theorem s171_845 : T_ic 171 845 846 0 := w_ic1 (n := 0) (by decide +kernel) rfl
theorem s171_846 : T_zr 171 846 := w_zr (by decide +kernel) (by decide +kernel)
theorem s171_847 : T_il5 171 847 849 := w_il5 (by decide +kernel)
theorem s171_849 : T_if_ne 171 849 852 864 := w_if_ne (off := 15) (by decide +kernel) (by decide +kernel)
theorem s171_852 : T_al3 171 852 853 := w_aln3 (by decide +kernel)
theorem s171_853 : T_ic 171 853 854 0 := w_ic1 (n := 0) (by decide +kernel) rfl
theorem s171_854 : T_la 171 854 855 := w_la (by decide +kernel)
theorem s171_855 : T_il6 171 855 857 := w_il6 (by decide +kernel)
theorem s171_857 : T_i2l 171 857 858 := w_i2l (by decide +kernel)
theorem s171_858 : T_lcmp 171 858 859 := w_lcmp (by decide +kernel)
theorem s171_859 : T_if_eq 171 859 862 864 := w_if_eq (off := 5) (by decide +kernel) (by decide +kernel)
theorem s171_862 : T_ic 171 862 863 0 := w_ic1 (n := 0) (by decide +kernel) rfl
theorem s171_863 : T_zr 171 863 := w_zr (by decide +kernel) (by decide +kernel)
theorem s171_864 : T_goto 171 864 2058 := w_goto (off := 1194) (by decide +kernel) (by decide +kernel)
theorem s171_867 : T_al1 171 867 868 := w_aln1 (by decide +kernel)
theorem s171_868 : T_al0 171 868 869 := w_aln0 (by decide +kernel)
theorem s171_869 : T_il4 171 869 871 := w_il4 (by decide +kernel)
theorem s171_871 : T_ic 171 871 872 1 := w_ic1 (n := 1) (by decide +kernel) rfl
theorem s171_872 : T_iadd 171 872 873 := w_iadd (by decide +kernel)
theorem s171_873 : T_sld 171 873 874 := w_sld (by decide +kernel) rfl
theorem s171_874 : T_al0 171 874 875 := w_aln0 (by decide +kernel)
theorem s171_875 : T_il4 171 875 877 := w_il4 (by decide +kernel)
theorem s171_877 : T_ic 171 877 878 2 := w_ic1 (n := 2) (by decide +kernel) rfl
theorem s171_878 : T_iadd 171 878 879 := w_iadd (by decide +kernel)
theorem s171_879 : T_sld 171 879 880 := w_sld (by decide +kernel) rfl
theorem s171_880 : T_al3 171 880 881 := w_aln3 (by decide +kernel)
theorem s171_881 : T_ca4 171 881 884 153 := w_ca4 (x := 148) (i := .invokestatic 148) (by decide +kernel) (by decide +kernel) (Or.inr (Or.inl ⟨rfl, by decide +kernel⟩))
theorem s171_884 : T_is5 171 884 886 := w_is5 (by decide +kernel)
theorem s171_886 : T_al2 171 886 887 := w_aln2 (by decide +kernel)
theorem s171_887 : T_al0 171 887 888 := w_aln0 (by decide +kernel)
theorem s171_888 : T_il4 171 888 890 := w_il4 (by decide +kernel)
theorem s171_890 : T_ic 171 890 891 1 := w_ic1 (n := 1) (by decide +kernel) rfl
theorem s171_891 : T_iadd 171 891 892 := w_iadd (by decide +kernel)
theorem s171_892 : T_sld 171 892 893 := w_sld (by decide +kernel) rfl
theorem s171_893 : T_al0 171 893 894 := w_aln0 (by decide +kernel)
theorem s171_894 : T_il4 171 894 896 := w_il4 (by decide +kernel)
theorem s171_896 : T_ic 171 896 897 2 := w_ic1 (n := 2) (by decide +kernel) rfl
theorem s171_897 : T_iadd 171 897 898 := w_iadd (by decide +kernel)
theorem s171_898 : T_sld 171 898 899 := w_sld (by decide +kernel) rfl
theorem s171_899 : T_ca3 171 899 902 115 := w_ca3 (x := 150) (i := .invokevirtual 150) (by decide +kernel) (by decide +kernel) (Or.inl ⟨rfl, by decide +kernel⟩)
theorem s171_902 : T_is6 171 902 904 := w_is6 (by decide +kernel)
theorem s171_904 : T_al2 171 904 905 := w_aln2 (by decide +kernel)
theorem s171_905 : T_ca1 171 905 908 88 := w_ca1 (x := 116) (i := .invokevirtual 116) (by decide +kernel) (by decide +kernel) (Or.inl ⟨rfl, by decide +kernel⟩)
theorem s171_908 : T_il5 171 908 910 := w_il5 (by decide +kernel)
theorem s171_910 : T_ic_eq 171 910 913 915 := w_ic_eq (off := 5) (by decide +kernel) (by decide +kernel)
theorem s171_913 : T_ic 171 913 914 0 := w_ic1 (n := 0) (by decide +kernel) rfl
theorem s171_914 : T_zr 171 914 := w_zr (by decide +kernel) (by decide +kernel)
theorem s171_915 : T_il5 171 915 917 := w_il5 (by decide +kernel)
theorem s171_917 : T_if_ne 171 917 920 932 := w_if_ne (off := 15) (by decide +kernel) (by decide +kernel)
theorem s171_920 : T_al3 171 920 921 := w_aln3 (by decide +kernel)
theorem s171_921 : T_ic 171 921 922 0 := w_ic1 (n := 0) (by decide +kernel) rfl
theorem s171_922 : T_la 171 922 923 := w_la (by decide +kernel)
theorem s171_923 : T_il6 171 923 925 := w_il6 (by decide +kernel)
theorem s171_925 : T_i2l 171 925 926 := w_i2l (by decide +kernel)
theorem s171_926 : T_lcmp 171 926 927 := w_lcmp (by decide +kernel)
theorem s171_927 : T_if_eq 171 927 930 932 := w_if_eq (off := 5) (by decide +kernel) (by decide +kernel)
theorem s171_930 : T_ic 171 930 931 0 := w_ic1 (n := 0) (by decide +kernel) rfl
theorem s171_931 : T_zr 171 931 := w_zr (by decide +kernel) (by decide +kernel)
theorem s171_932 : T_goto 171 932 2058 := w_goto (off := 1126) (by decide +kernel) (by decide +kernel)
theorem s171_935 : T_al1 171 935 936 := w_aln1 (by decide +kernel)
theorem s171_936 : T_al0 171 936 937 := w_aln0 (by decide +kernel)
theorem s171_937 : T_il4 171 937 939 := w_il4 (by decide +kernel)
theorem s171_939 : T_ic 171 939 940 1 := w_ic1 (n := 1) (by decide +kernel) rfl
theorem s171_940 : T_iadd 171 940 941 := w_iadd (by decide +kernel)
theorem s171_941 : T_sld 171 941 942 := w_sld (by decide +kernel) rfl
theorem s171_942 : T_al0 171 942 943 := w_aln0 (by decide +kernel)
theorem s171_943 : T_il4 171 943 945 := w_il4 (by decide +kernel)
theorem s171_945 : T_ic 171 945 946 2 := w_ic1 (n := 2) (by decide +kernel) rfl
theorem s171_946 : T_iadd 171 946 947 := w_iadd (by decide +kernel)
theorem s171_947 : T_sld 171 947 948 := w_sld (by decide +kernel) rfl
theorem s171_948 : T_al3 171 948 949 := w_aln3 (by decide +kernel)
theorem s171_949 : T_ca4 171 949 952 154 := w_ca4 (x := 151) (i := .invokestatic 151) (by decide +kernel) (by decide +kernel) (Or.inr (Or.inl ⟨rfl, by decide +kernel⟩))
theorem s171_952 : T_is5 171 952 954 := w_is5 (by decide +kernel)
theorem s171_954 : T_al2 171 954 955 := w_aln2 (by decide +kernel)
theorem s171_955 : T_al0 171 955 956 := w_aln0 (by decide +kernel)
theorem s171_956 : T_il4 171 956 958 := w_il4 (by decide +kernel)
theorem s171_958 : T_ic 171 958 959 1 := w_ic1 (n := 1) (by decide +kernel) rfl
theorem s171_959 : T_iadd 171 959 960 := w_iadd (by decide +kernel)
theorem s171_960 : T_sld 171 960 961 := w_sld (by decide +kernel) rfl
theorem s171_961 : T_al0 171 961 962 := w_aln0 (by decide +kernel)
theorem s171_962 : T_il4 171 962 964 := w_il4 (by decide +kernel)
theorem s171_964 : T_ic 171 964 965 2 := w_ic1 (n := 2) (by decide +kernel) rfl
theorem s171_965 : T_iadd 171 965 966 := w_iadd (by decide +kernel)
theorem s171_966 : T_sld 171 966 967 := w_sld (by decide +kernel) rfl
theorem s171_967 : T_ca3 171 967 970 116 := w_ca3 (x := 153) (i := .invokevirtual 153) (by decide +kernel) (by decide +kernel) (Or.inl ⟨rfl, by decide +kernel⟩)
theorem s171_970 : T_is6 171 970 972 := w_is6 (by decide +kernel)
theorem s171_972 : T_al2 171 972 973 := w_aln2 (by decide +kernel)
theorem s171_973 : T_ca1 171 973 976 88 := w_ca1 (x := 116) (i := .invokevirtual 116) (by decide +kernel) (by decide +kernel) (Or.inl ⟨rfl, by decide +kernel⟩)
theorem s171_976 : T_il5 171 976 978 := w_il5 (by decide +kernel)
theorem s171_978 : T_ic_eq 171 978 981 983 := w_ic_eq (off := 5) (by decide +kernel) (by decide +kernel)
theorem s171_981 : T_ic 171 981 982 0 := w_ic1 (n := 0) (by decide +kernel) rfl
theorem s171_982 : T_zr 171 982 := w_zr (by decide +kernel) (by decide +kernel)
theorem s171_983 : T_il5 171 983 985 := w_il5 (by decide +kernel)
theorem s171_985 : T_if_ne 171 985 988 1000 := w_if_ne (off := 15) (by decide +kernel) (by decide +kernel)
theorem s171_988 : T_al3 171 988 989 := w_aln3 (by decide +kernel)
theorem s171_989 : T_ic 171 989 990 0 := w_ic1 (n := 0) (by decide +kernel) rfl
theorem s171_990 : T_la 171 990 991 := w_la (by decide +kernel)
theorem s171_991 : T_il6 171 991 993 := w_il6 (by decide +kernel)
theorem s171_993 : T_i2l 171 993 994 := w_i2l (by decide +kernel)
theorem s171_994 : T_lcmp 171 994 995 := w_lcmp (by decide +kernel)
theorem s171_995 : T_if_eq 171 995 998 1000 := w_if_eq (off := 5) (by decide +kernel) (by decide +kernel)
theorem s171_998 : T_ic 171 998 999 0 := w_ic1 (n := 0) (by decide +kernel) rfl
theorem s171_999 : T_zr 171 999 := w_zr (by decide +kernel) (by decide +kernel)
theorem s171_1000 : T_goto 171 1000 2058 := w_goto (off := 1058) (by decide +kernel) (by decide +kernel)
theorem s171_1003 : T_al1 171 1003 1004 := w_aln1 (by decide +kernel)
theorem s171_1004 : T_al0 171 1004 1005 := w_aln0 (by decide +kernel)
theorem s171_1005 : T_il4 171 1005 1007 := w_il4 (by decide +kernel)
theorem s171_1007 : T_ic 171 1007 1008 1 := w_ic1 (n := 1) (by decide +kernel) rfl
theorem s171_1008 : T_iadd 171 1008 1009 := w_iadd (by decide +kernel)
theorem s171_1009 : T_sld 171 1009 1010 := w_sld (by decide +kernel) rfl
theorem s171_1010 : T_al0 171 1010 1011 := w_aln0 (by decide +kernel)
theorem s171_1011 : T_il4 171 1011 1013 := w_il4 (by decide +kernel)
theorem s171_1013 : T_ic 171 1013 1014 2 := w_ic1 (n := 2) (by decide +kernel) rfl
theorem s171_1014 : T_iadd 171 1014 1015 := w_iadd (by decide +kernel)
theorem s171_1015 : T_sld 171 1015 1016 := w_sld (by decide +kernel) rfl
theorem s171_1016 : T_al3 171 1016 1017 := w_aln3 (by decide +kernel)
theorem s171_1017 : T_ca4 171 1017 1020 155 := w_ca4 (x := 154) (i := .invokestatic 154) (by decide +kernel) (by decide +kernel) (Or.inr (Or.inl ⟨rfl, by decide +kernel⟩))
theorem s171_1020 : T_is5 171 1020 1022 := w_is5 (by decide +kernel)
theorem s171_1022 : T_al2 171 1022 1023 := w_aln2 (by decide +kernel)
theorem s171_1023 : T_al0 171 1023 1024 := w_aln0 (by decide +kernel)
theorem s171_1024 : T_il4 171 1024 1026 := w_il4 (by decide +kernel)
theorem s171_1026 : T_ic 171 1026 1027 1 := w_ic1 (n := 1) (by decide +kernel) rfl
theorem s171_1027 : T_iadd 171 1027 1028 := w_iadd (by decide +kernel)
theorem s171_1028 : T_sld 171 1028 1029 := w_sld (by decide +kernel) rfl
theorem s171_1029 : T_al0 171 1029 1030 := w_aln0 (by decide +kernel)
theorem s171_1030 : T_il4 171 1030 1032 := w_il4 (by decide +kernel)
theorem s171_1032 : T_ic 171 1032 1033 2 := w_ic1 (n := 2) (by decide +kernel) rfl
theorem s171_1033 : T_iadd 171 1033 1034 := w_iadd (by decide +kernel)
theorem s171_1034 : T_sld 171 1034 1035 := w_sld (by decide +kernel) rfl
theorem s171_1035 : T_ca3 171 1035 1038 118 := w_ca3 (x := 156) (i := .invokevirtual 156) (by decide +kernel) (by decide +kernel) (Or.inl ⟨rfl, by decide +kernel⟩)
theorem s171_1038 : T_is6 171 1038 1040 := w_is6 (by decide +kernel)
theorem s171_1040 : T_al2 171 1040 1041 := w_aln2 (by decide +kernel)
theorem s171_1041 : T_ca1 171 1041 1044 88 := w_ca1 (x := 116) (i := .invokevirtual 116) (by decide +kernel) (by decide +kernel) (Or.inl ⟨rfl, by decide +kernel⟩)
theorem s171_1044 : T_il5 171 1044 1046 := w_il5 (by decide +kernel)
theorem s171_1046 : T_ic_eq 171 1046 1049 1051 := w_ic_eq (off := 5) (by decide +kernel) (by decide +kernel)
theorem s171_1049 : T_ic 171 1049 1050 0 := w_ic1 (n := 0) (by decide +kernel) rfl
theorem s171_1050 : T_zr 171 1050 := w_zr (by decide +kernel) (by decide +kernel)
theorem s171_1051 : T_il5 171 1051 1053 := w_il5 (by decide +kernel)
theorem s171_1053 : T_if_ne 171 1053 1056 1068 := w_if_ne (off := 15) (by decide +kernel) (by decide +kernel)
theorem s171_1056 : T_al3 171 1056 1057 := w_aln3 (by decide +kernel)
theorem s171_1057 : T_ic 171 1057 1058 0 := w_ic1 (n := 0) (by decide +kernel) rfl
theorem s171_1058 : T_la 171 1058 1059 := w_la (by decide +kernel)
theorem s171_1059 : T_il6 171 1059 1061 := w_il6 (by decide +kernel)
theorem s171_1061 : T_i2l 171 1061 1062 := w_i2l (by decide +kernel)
theorem s171_1062 : T_lcmp 171 1062 1063 := w_lcmp (by decide +kernel)
theorem s171_1063 : T_if_eq 171 1063 1066 1068 := w_if_eq (off := 5) (by decide +kernel) (by decide +kernel)
theorem s171_1066 : T_ic 171 1066 1067 0 := w_ic1 (n := 0) (by decide +kernel) rfl
theorem s171_1067 : T_zr 171 1067 := w_zr (by decide +kernel) (by decide +kernel)
theorem s171_1068 : T_goto 171 1068 2058 := w_goto (off := 990) (by decide +kernel) (by decide +kernel)
theorem s171_1071 : T_al1 171 1071 1072 := w_aln1 (by decide +kernel)
theorem s171_1072 : T_al0 171 1072 1073 := w_aln0 (by decide +kernel)
theorem s171_1073 : T_il4 171 1073 1075 := w_il4 (by decide +kernel)
theorem s171_1075 : T_ic 171 1075 1076 1 := w_ic1 (n := 1) (by decide +kernel) rfl
theorem s171_1076 : T_iadd 171 1076 1077 := w_iadd (by decide +kernel)
theorem s171_1077 : T_sld 171 1077 1078 := w_sld (by decide +kernel) rfl
theorem s171_1078 : T_al0 171 1078 1079 := w_aln0 (by decide +kernel)
theorem s171_1079 : T_il4 171 1079 1081 := w_il4 (by decide +kernel)
theorem s171_1081 : T_ic 171 1081 1082 2 := w_ic1 (n := 2) (by decide +kernel) rfl
theorem s171_1082 : T_iadd 171 1082 1083 := w_iadd (by decide +kernel)
theorem s171_1083 : T_sld 171 1083 1084 := w_sld (by decide +kernel) rfl
theorem s171_1084 : T_al3 171 1084 1085 := w_aln3 (by decide +kernel)
theorem s171_1085 : T_ca4 171 1085 1088 156 := w_ca4 (x := 157) (i := .invokestatic 157) (by decide +kernel) (by decide +kernel) (Or.inr (Or.inl ⟨rfl, by decide +kernel⟩))
theorem s171_1088 : T_is5 171 1088 1090 := w_is5 (by decide +kernel)
theorem s171_1090 : T_al2 171 1090 1091 := w_aln2 (by decide +kernel)
theorem s171_1091 : T_al0 171 1091 1092 := w_aln0 (by decide +kernel)
theorem s171_1092 : T_il4 171 1092 1094 := w_il4 (by decide +kernel)
theorem s171_1094 : T_ic 171 1094 1095 1 := w_ic1 (n := 1) (by decide +kernel) rfl
theorem s171_1095 : T_iadd 171 1095 1096 := w_iadd (by decide +kernel)
theorem s171_1096 : T_sld 171 1096 1097 := w_sld (by decide +kernel) rfl
theorem s171_1097 : T_al0 171 1097 1098 := w_aln0 (by decide +kernel)
theorem s171_1098 : T_il4 171 1098 1100 := w_il4 (by decide +kernel)
theorem s171_1100 : T_ic 171 1100 1101 2 := w_ic1 (n := 2) (by decide +kernel) rfl
theorem s171_1101 : T_iadd 171 1101 1102 := w_iadd (by decide +kernel)
theorem s171_1102 : T_sld 171 1102 1103 := w_sld (by decide +kernel) rfl
theorem s171_1103 : T_ca3 171 1103 1106 120 := w_ca3 (x := 159) (i := .invokevirtual 159) (by decide +kernel) (by decide +kernel) (Or.inl ⟨rfl, by decide +kernel⟩)
theorem s171_1106 : T_is6 171 1106 1108 := w_is6 (by decide +kernel)
theorem s171_1108 : T_al2 171 1108 1109 := w_aln2 (by decide +kernel)
theorem s171_1109 : T_ca1 171 1109 1112 88 := w_ca1 (x := 116) (i := .invokevirtual 116) (by decide +kernel) (by decide +kernel) (Or.inl ⟨rfl, by decide +kernel⟩)
theorem s171_1112 : T_il5 171 1112 1114 := w_il5 (by decide +kernel)
theorem s171_1114 : T_ic_eq 171 1114 1117 1119 := w_ic_eq (off := 5) (by decide +kernel) (by decide +kernel)
theorem s171_1117 : T_ic 171 1117 1118 0 := w_ic1 (n := 0) (by decide +kernel) rfl
theorem s171_1118 : T_zr 171 1118 := w_zr (by decide +kernel) (by decide +kernel)
theorem s171_1119 : T_il5 171 1119 1121 := w_il5 (by decide +kernel)
theorem s171_1121 : T_if_ne 171 1121 1124 1136 := w_if_ne (off := 15) (by decide +kernel) (by decide +kernel)
theorem s171_1124 : T_al3 171 1124 1125 := w_aln3 (by decide +kernel)
theorem s171_1125 : T_ic 171 1125 1126 0 := w_ic1 (n := 0) (by decide +kernel) rfl
theorem s171_1126 : T_la 171 1126 1127 := w_la (by decide +kernel)
theorem s171_1127 : T_il6 171 1127 1129 := w_il6 (by decide +kernel)
theorem s171_1129 : T_i2l 171 1129 1130 := w_i2l (by decide +kernel)
theorem s171_1130 : T_lcmp 171 1130 1131 := w_lcmp (by decide +kernel)
theorem s171_1131 : T_if_eq 171 1131 1134 1136 := w_if_eq (off := 5) (by decide +kernel) (by decide +kernel)
theorem s171_1134 : T_ic 171 1134 1135 0 := w_ic1 (n := 0) (by decide +kernel) rfl
theorem s171_1135 : T_zr 171 1135 := w_zr (by decide +kernel) (by decide +kernel)
theorem s171_1136 : T_goto 171 1136 2058 := w_goto (off := 922) (by decide +kernel) (by decide +kernel)
theorem s171_1139 : T_al1 171 1139 1140 := w_aln1 (by decide +kernel)
theorem s171_1140 : T_al0 171 1140 1141 := w_aln0 (by decide +kernel)
theorem s171_1141 : T_il4 171 1141 1143 := w_il4 (by decide +kernel)
theorem s171_1143 : T_ic 171 1143 1144 1 := w_ic1 (n := 1) (by decide +kernel) rfl
theorem s171_1144 : T_iadd 171 1144 1145 := w_iadd (by decide +kernel)
theorem s171_1145 : T_sld 171 1145 1146 := w_sld (by decide +kernel) rfl
theorem s171_1146 : T_al0 171 1146 1147 := w_aln0 (by decide +kernel)
theorem s171_1147 : T_il4 171 1147 1149 := w_il4 (by decide +kernel)
theorem s171_1149 : T_ic 171 1149 1150 2 := w_ic1 (n := 2) (by decide +kernel) rfl
theorem s171_1150 : T_iadd 171 1150 1151 := w_iadd (by decide +kernel)
theorem s171_1151 : T_sld 171 1151 1152 := w_sld (by decide +kernel) rfl
theorem s171_1152 : T_al3 171 1152 1153 := w_aln3 (by decide +kernel)
theorem s171_1153 : T_ca4 171 1153 1156 157 := w_ca4 (x := 160) (i := .invokestatic 160) (by decide +kernel) (by decide +kernel) (Or.inr (Or.inl ⟨rfl, by decide +kernel⟩))
theorem s171_1156 : T_is5 171 1156 1158 := w_is5 (by decide +kernel)
theorem s171_1158 : T_al2 171 1158 1159 := w_aln2 (by decide +kernel)
theorem s171_1159 : T_al0 171 1159 1160 := w_aln0 (by decide +kernel)
theorem s171_1160 : T_il4 171 1160 1162 := w_il4 (by decide +kernel)
theorem s171_1162 : T_ic 171 1162 1163 1 := w_ic1 (n := 1) (by decide +kernel) rfl
theorem s171_1163 : T_iadd 171 1163 1164 := w_iadd (by decide +kernel)
theorem s171_1164 : T_sld 171 1164 1165 := w_sld (by decide +kernel) rfl
theorem s171_1165 : T_al0 171 1165 1166 := w_aln0 (by decide +kernel)
theorem s171_1166 : T_il4 171 1166 1168 := w_il4 (by decide +kernel)
theorem s171_1168 : T_ic 171 1168 1169 2 := w_ic1 (n := 2) (by decide +kernel) rfl
theorem s171_1169 : T_iadd 171 1169 1170 := w_iadd (by decide +kernel)
theorem s171_1170 : T_sld 171 1170 1171 := w_sld (by decide +kernel) rfl
theorem s171_1171 : T_ca3 171 1171 1174 121 := w_ca3 (x := 162) (i := .invokevirtual 162) (by decide +kernel) (by decide +kernel) (Or.inl ⟨rfl, by decide +kernel⟩)
theorem s171_1174 : T_is6 171 1174 1176 := w_is6 (by decide +kernel)
theorem s171_1176 : T_al2 171 1176 1177 := w_aln2 (by decide +kernel)
theorem s171_1177 : T_ca1 171 1177 1180 88 := w_ca1 (x := 116) (i := .invokevirtual 116) (by decide +kernel) (by decide +kernel) (Or.inl ⟨rfl, by decide +kernel⟩)
theorem s171_1180 : T_il5 171 1180 1182 := w_il5 (by decide +kernel)
theorem s171_1182 : T_ic_eq 171 1182 1185 1187 := w_ic_eq (off := 5) (by decide +kernel) (by decide +kernel)
theorem s171_1185 : T_ic 171 1185 1186 0 := w_ic1 (n := 0) (by decide +kernel) rfl
theorem s171_1186 : T_zr 171 1186 := w_zr (by decide +kernel) (by decide +kernel)
theorem s171_1187 : T_il5 171 1187 1189 := w_il5 (by decide +kernel)
theorem s171_1189 : T_if_ne 171 1189 1192 1204 := w_if_ne (off := 15) (by decide +kernel) (by decide +kernel)
theorem s171_1192 : T_al3 171 1192 1193 := w_aln3 (by decide +kernel)
theorem s171_1193 : T_ic 171 1193 1194 0 := w_ic1 (n := 0) (by decide +kernel) rfl
theorem s171_1194 : T_la 171 1194 1195 := w_la (by decide +kernel)
theorem s171_1195 : T_il6 171 1195 1197 := w_il6 (by decide +kernel)
theorem s171_1197 : T_i2l 171 1197 1198 := w_i2l (by decide +kernel)
theorem s171_1198 : T_lcmp 171 1198 1199 := w_lcmp (by decide +kernel)
theorem s171_1199 : T_if_eq 171 1199 1202 1204 := w_if_eq (off := 5) (by decide +kernel) (by decide +kernel)
theorem s171_1202 : T_ic 171 1202 1203 0 := w_ic1 (n := 0) (by decide +kernel) rfl
theorem s171_1203 : T_zr 171 1203 := w_zr (by decide +kernel) (by decide +kernel)
theorem s171_1204 : T_goto 171 1204 2058 := w_goto (off := 854) (by decide +kernel) (by decide +kernel)
theorem s171_1207 : T_al1 171 1207 1208 := w_aln1 (by decide +kernel)
theorem s171_1208 : T_al0 171 1208 1209 := w_aln0 (by decide +kernel)
theorem s171_1209 : T_il4 171 1209 1211 := w_il4 (by decide +kernel)
theorem s171_1211 : T_ic 171 1211 1212 1 := w_ic1 (n := 1) (by decide +kernel) rfl
theorem s171_1212 : T_iadd 171 1212 1213 := w_iadd (by decide +kernel)
theorem s171_1213 : T_sld 171 1213 1214 := w_sld (by decide +kernel) rfl
theorem s171_1214 : T_al0 171 1214 1215 := w_aln0 (by decide +kernel)
theorem s171_1215 : T_il4 171 1215 1217 := w_il4 (by decide +kernel)
theorem s171_1217 : T_ic 171 1217 1218 2 := w_ic1 (n := 2) (by decide +kernel) rfl
theorem s171_1218 : T_iadd 171 1218 1219 := w_iadd (by decide +kernel)
theorem s171_1219 : T_sld 171 1219 1220 := w_sld (by decide +kernel) rfl
theorem s171_1220 : T_al3 171 1220 1221 := w_aln3 (by decide +kernel)
theorem s171_1221 : T_ca4 171 1221 1224 158 := w_ca4 (x := 163) (i := .invokestatic 163) (by decide +kernel) (by decide +kernel) (Or.inr (Or.inl ⟨rfl, by decide +kernel⟩))
theorem s171_1224 : T_is5 171 1224 1226 := w_is5 (by decide +kernel)
theorem s171_1226 : T_al2 171 1226 1227 := w_aln2 (by decide +kernel)
theorem s171_1227 : T_al0 171 1227 1228 := w_aln0 (by decide +kernel)
theorem s171_1228 : T_il4 171 1228 1230 := w_il4 (by decide +kernel)
theorem s171_1230 : T_ic 171 1230 1231 1 := w_ic1 (n := 1) (by decide +kernel) rfl
theorem s171_1231 : T_iadd 171 1231 1232 := w_iadd (by decide +kernel)
theorem s171_1232 : T_sld 171 1232 1233 := w_sld (by decide +kernel) rfl
theorem s171_1233 : T_al0 171 1233 1234 := w_aln0 (by decide +kernel)
theorem s171_1234 : T_il4 171 1234 1236 := w_il4 (by decide +kernel)
theorem s171_1236 : T_ic 171 1236 1237 2 := w_ic1 (n := 2) (by decide +kernel) rfl
theorem s171_1237 : T_iadd 171 1237 1238 := w_iadd (by decide +kernel)
theorem s171_1238 : T_sld 171 1238 1239 := w_sld (by decide +kernel) rfl
theorem s171_1239 : T_ca3 171 1239 1242 123 := w_ca3 (x := 165) (i := .invokevirtual 165) (by decide +kernel) (by decide +kernel) (Or.inl ⟨rfl, by decide +kernel⟩)
theorem s171_1242 : T_is6 171 1242 1244 := w_is6 (by decide +kernel)
theorem s171_1244 : T_al2 171 1244 1245 := w_aln2 (by decide +kernel)
theorem s171_1245 : T_ca1 171 1245 1248 88 := w_ca1 (x := 116) (i := .invokevirtual 116) (by decide +kernel) (by decide +kernel) (Or.inl ⟨rfl, by decide +kernel⟩)
theorem s171_1248 : T_il5 171 1248 1250 := w_il5 (by decide +kernel)
theorem s171_1250 : T_ic_eq 171 1250 1253 1255 := w_ic_eq (off := 5) (by decide +kernel) (by decide +kernel)
theorem s171_1253 : T_ic 171 1253 1254 0 := w_ic1 (n := 0) (by decide +kernel) rfl
theorem s171_1254 : T_zr 171 1254 := w_zr (by decide +kernel) (by decide +kernel)
theorem s171_1255 : T_il5 171 1255 1257 := w_il5 (by decide +kernel)
theorem s171_1257 : T_if_ne 171 1257 1260 1279 := w_if_ne (off := 22) (by decide +kernel) (by decide +kernel)
theorem s171_1260 : T_al3 171 1260 1261 := w_aln3 (by decide +kernel)
theorem s171_1261 : T_ic 171 1261 1262 0 := w_ic1 (n := 0) (by decide +kernel) rfl
theorem s171_1262 : T_la 171 1262 1263 := w_la (by decide +kernel)
theorem s171_1263 : T_il6 171 1263 1265 := w_il6 (by decide +kernel)
theorem s171_1265 : T_if_eq 171 1265 1268 1272 := w_if_eq (off := 7) (by decide +kernel) (by decide +kernel)
theorem s171_1268 : T_lc 171 1268 1269 1 := w_lc (n := 1) (by decide +kernel) rfl
theorem s171_1269 : T_goto 171 1269 1273 := w_goto (off := 4) (by decide +kernel) (by decide +kernel)
theorem s171_1272 : T_lc 171 1272 1273 0 := w_lc (n := 0) (by decide +kernel) rfl
theorem s171_1273 : T_lcmp 171 1273 1274 := w_lcmp (by decide +kernel)
theorem s171_1274 : T_if_eq 171 1274 1277 1279 := w_if_eq (off := 5) (by decide +kernel) (by decide +kernel)
theorem s171_1277 : T_ic 171 1277 1278 0 := w_ic1 (n := 0) (by decide +kernel) rfl
theorem s171_1278 : T_zr 171 1278 := w_zr (by decide +kernel) (by decide +kernel)
theorem s171_1279 : T_goto 171 1279 2058 := w_goto (off := 779) (by decide +kernel) (by decide +kernel)
theorem s171_1282 : T_al1 171 1282 1283 := w_aln1 (by decide +kernel)
theorem s171_1283 : T_al0 171 1283 1284 := w_aln0 (by decide +kernel)
theorem s171_1284 : T_il4 171 1284 1286 := w_il4 (by decide +kernel)
theorem s171_1286 : T_ic 171 1286 1287 1 := w_ic1 (n := 1) (by decide +kernel) rfl
theorem s171_1287 : T_iadd 171 1287 1288 := w_iadd (by decide +kernel)
theorem s171_1288 : T_sld 171 1288 1289 := w_sld (by decide +kernel) rfl
theorem s171_1289 : T_al3 171 1289 1290 := w_aln3 (by decide +kernel)
theorem s171_1290 : T_ca3 171 1290 1293 159 := w_ca3 (x := 166) (i := .invokestatic 166) (by decide +kernel) (by decide +kernel) (Or.inr (Or.inl ⟨rfl, by decide +kernel⟩))
theorem s171_1293 : T_is5 171 1293 1295 := w_is5 (by decide +kernel)
theorem s171_1295 : T_al2 171 1295 1296 := w_aln2 (by decide +kernel)
theorem s171_1296 : T_al0 171 1296 1297 := w_aln0 (by decide +kernel)
theorem s171_1297 : T_il4 171 1297 1299 := w_il4 (by decide +kernel)
theorem s171_1299 : T_ic 171 1299 1300 1 := w_ic1 (n := 1) (by decide +kernel) rfl
theorem s171_1300 : T_iadd 171 1300 1301 := w_iadd (by decide +kernel)
theorem s171_1301 : T_sld 171 1301 1302 := w_sld (by decide +kernel) rfl
theorem s171_1302 : T_ca2 171 1302 1305 124 := w_ca2 (x := 168) (i := .invokevirtual 168) (by decide +kernel) (by decide +kernel) (Or.inl ⟨rfl, by decide +kernel⟩)
theorem s171_1305 : T_is6 171 1305 1307 := w_is6 (by decide +kernel)
theorem s171_1307 : T_al2 171 1307 1308 := w_aln2 (by decide +kernel)
theorem s171_1308 : T_ca1 171 1308 1311 88 := w_ca1 (x := 116) (i := .invokevirtual 116) (by decide +kernel) (by decide +kernel) (Or.inl ⟨rfl, by decide +kernel⟩)
theorem s171_1311 : T_il5 171 1311 1313 := w_il5 (by decide +kernel)
theorem s171_1313 : T_ic_eq 171 1313 1316 1318 := w_ic_eq (off := 5) (by decide +kernel) (by decide +kernel)
theorem s171_1316 : T_ic 171 1316 1317 0 := w_ic1 (n := 0) (by decide +kernel) rfl
theorem s171_1317 : T_zr 171 1317 := w_zr (by decide +kernel) (by decide +kernel)
theorem s171_1318 : T_il5 171 1318 1320 := w_il5 (by decide +kernel)
theorem s171_1320 : T_if_ne 171 1320 1323 1342 := w_if_ne (off := 22) (by decide +kernel) (by decide +kernel)
theorem s171_1323 : T_al3 171 1323 1324 := w_aln3 (by decide +kernel)
theorem s171_1324 : T_ic 171 1324 1325 0 := w_ic1 (n := 0) (by decide +kernel) rfl
theorem s171_1325 : T_la 171 1325 1326 := w_la (by decide +kernel)
theorem s171_1326 : T_il6 171 1326 1328 := w_il6 (by decide +kernel)
theorem s171_1328 : T_if_eq 171 1328 1331 1335 := w_if_eq (off := 7) (by decide +kernel) (by decide +kernel)
theorem s171_1331 : T_lc 171 1331 1332 1 := w_lc (n := 1) (by decide +kernel) rfl
theorem s171_1332 : T_goto 171 1332 1336 := w_goto (off := 4) (by decide +kernel) (by decide +kernel)
theorem s171_1335 : T_lc 171 1335 1336 0 := w_lc (n := 0) (by decide +kernel) rfl
theorem s171_1336 : T_lcmp 171 1336 1337 := w_lcmp (by decide +kernel)
theorem s171_1337 : T_if_eq 171 1337 1340 1342 := w_if_eq (off := 5) (by decide +kernel) (by decide +kernel)
theorem s171_1340 : T_ic 171 1340 1341 0 := w_ic1 (n := 0) (by decide +kernel) rfl
theorem s171_1341 : T_zr 171 1341 := w_zr (by decide +kernel) (by decide +kernel)
theorem s171_1342 : T_goto 171 1342 2058 := w_goto (off := 716) (by decide +kernel) (by decide +kernel)
theorem s171_1345 : T_al1 171 1345 1346 := w_aln1 (by decide +kernel)
theorem s171_1346 : T_al3 171 1346 1347 := w_aln3 (by decide +kernel)
theorem s171_1347 : T_ca2 171 1347 1350 160 := w_ca2 (x := 169) (i := .invokestatic 169) (by decide +kernel) (by decide +kernel) (Or.inr (Or.inl ⟨rfl, by decide +kernel⟩))
theorem s171_1350 : T_is5 171 1350 1352 := w_is5 (by decide +kernel)
theorem s171_1352 : T_al2 171 1352 1353 := w_aln2 (by decide +kernel)
theorem s171_1353 : T_ca1 171 1353 1356 127 := w_ca1 (x := 172) (i := .invokevirtual 172) (by decide +kernel) (by decide +kernel) (Or.inl ⟨rfl, by decide +kernel⟩)
theorem s171_1356 : T_is6 171 1356 1358 := w_is6 (by decide +kernel)
theorem s171_1358 : T_al2 171 1358 1359 := w_aln2 (by decide +kernel)
theorem s171_1359 : T_ca1 171 1359 1362 88 := w_ca1 (x := 116) (i := .invokevirtual 116) (by decide +kernel) (by decide +kernel) (Or.inl ⟨rfl, by decide +kernel⟩)
theorem s171_1362 : T_il5 171 1362 1364 := w_il5 (by decide +kernel)
theorem s171_1364 : T_ic_eq 171 1364 1367 1369 := w_ic_eq (off := 5) (by decide +kernel) (by decide +kernel)
theorem s171_1367 : T_ic 171 1367 1368 0 := w_ic1 (n := 0) (by decide +kernel) rfl
theorem s171_1368 : T_zr 171 1368 := w_zr (by decide +kernel) (by decide +kernel)
theorem s171_1369 : T_il5 171 1369 1371 := w_il5 (by decide +kernel)
theorem s171_1371 : T_if_ne 171 1371 1374 1386 := w_if_ne (off := 15) (by decide +kernel) (by decide +kernel)
theorem s171_1374 : T_al3 171 1374 1375 := w_aln3 (by decide +kernel)
theorem s171_1375 : T_ic 171 1375 1376 0 := w_ic1 (n := 0) (by decide +kernel) rfl
theorem s171_1376 : T_la 171 1376 1377 := w_la (by decide +kernel)
theorem s171_1377 : T_il6 171 1377 1379 := w_il6 (by decide +kernel)
theorem s171_1379 : T_i2l 171 1379 1380 := w_i2l (by decide +kernel)
theorem s171_1380 : T_lcmp 171 1380 1381 := w_lcmp (by decide +kernel)
theorem s171_1381 : T_if_eq 171 1381 1384 1386 := w_if_eq (off := 5) (by decide +kernel) (by decide +kernel)
theorem s171_1384 : T_ic 171 1384 1385 0 := w_ic1 (n := 0) (by decide +kernel) rfl
theorem s171_1385 : T_zr 171 1385 := w_zr (by decide +kernel) (by decide +kernel)
theorem s171_1386 : T_goto 171 1386 2058 := w_goto (off := 672) (by decide +kernel) (by decide +kernel)
theorem s171_1389 : T_al1 171 1389 1390 := w_aln1 (by decide +kernel)
theorem s171_1390 : T_al0 171 1390 1391 := w_aln0 (by decide +kernel)
theorem s171_1391 : T_il4 171 1391 1393 := w_il4 (by decide +kernel)
theorem s171_1393 : T_ic 171 1393 1394 1 := w_ic1 (n := 1) (by decide +kernel) rfl
theorem s171_1394 : T_iadd 171 1394 1395 := w_iadd (by decide +kernel)
theorem s171_1395 : T_sld 171 1395 1396 := w_sld (by decide +kernel) rfl
theorem s171_1396 : T_al0 171 1396 1397 := w_aln0 (by decide +kernel)
theorem s171_1397 : T_il4 171 1397 1399 := w_il4 (by decide +kernel)
theorem s171_1399 : T_ic 171 1399 1400 2 := w_ic1 (n := 2) (by decide +kernel) rfl
theorem s171_1400 : T_iadd 171 1400 1401 := w_iadd (by decide +kernel)
theorem s171_1401 : T_sld 171 1401 1402 := w_sld (by decide +kernel) rfl
theorem s171_1402 : T_al3 171 1402 1403 := w_aln3 (by decide +kernel)
theorem s171_1403 : T_ca4 171 1403 1406 161 := w_ca4 (x := 173) (i := .invokestatic 173) (by decide +kernel) (by decide +kernel) (Or.inr (Or.inl ⟨rfl, by decide +kernel⟩))
theorem s171_1406 : T_is5 171 1406 1408 := w_is5 (by decide +kernel)
theorem s171_1408 : T_al2 171 1408 1409 := w_aln2 (by decide +kernel)
theorem s171_1409 : T_al0 171 1409 1410 := w_aln0 (by decide +kernel)
theorem s171_1410 : T_il4 171 1410 1412 := w_il4 (by decide +kernel)
theorem s171_1412 : T_ic 171 1412 1413 1 := w_ic1 (n := 1) (by decide +kernel) rfl
theorem s171_1413 : T_iadd 171 1413 1414 := w_iadd (by decide +kernel)
theorem s171_1414 : T_sld 171 1414 1415 := w_sld (by decide +kernel) rfl
theorem s171_1415 : T_al0 171 1415 1416 := w_aln0 (by decide +kernel)
theorem s171_1416 : T_il4 171 1416 1418 := w_il4 (by decide +kernel)
theorem s171_1418 : T_ic 171 1418 1419 2 := w_ic1 (n := 2) (by decide +kernel) rfl
theorem s171_1419 : T_iadd 171 1419 1420 := w_iadd (by decide +kernel)
theorem s171_1420 : T_sld 171 1420 1421 := w_sld (by decide +kernel) rfl
theorem s171_1421 : T_ca3 171 1421 1424 130 := w_ca3 (x := 175) (i := .invokevirtual 175) (by decide +kernel) (by decide +kernel) (Or.inl ⟨rfl, by decide +kernel⟩)
theorem s171_1424 : T_is6 171 1424 1426 := w_is6 (by decide +kernel)
theorem s171_1426 : T_al2 171 1426 1427 := w_aln2 (by decide +kernel)
theorem s171_1427 : T_ca1 171 1427 1430 88 := w_ca1 (x := 116) (i := .invokevirtual 116) (by decide +kernel) (by decide +kernel) (Or.inl ⟨rfl, by decide +kernel⟩)
theorem s171_1430 : T_il5 171 1430 1432 := w_il5 (by decide +kernel)
theorem s171_1432 : T_ic_eq 171 1432 1435 1437 := w_ic_eq (off := 5) (by decide +kernel) (by decide +kernel)
theorem s171_1435 : T_ic 171 1435 1436 0 := w_ic1 (n := 0) (by decide +kernel) rfl
theorem s171_1436 : T_zr 171 1436 := w_zr (by decide +kernel) (by decide +kernel)
theorem s171_1437 : T_il5 171 1437 1439 := w_il5 (by decide +kernel)
theorem s171_1439 : T_if_ne 171 1439 1442 1454 := w_if_ne (off := 15) (by decide +kernel) (by decide +kernel)
theorem s171_1442 : T_al3 171 1442 1443 := w_aln3 (by decide +kernel)
theorem s171_1443 : T_ic 171 1443 1444 0 := w_ic1 (n := 0) (by decide +kernel) rfl
theorem s171_1444 : T_la 171 1444 1445 := w_la (by decide +kernel)
theorem s171_1445 : T_il6 171 1445 1447 := w_il6 (by decide +kernel)
theorem s171_1447 : T_i2l 171 1447 1448 := w_i2l (by decide +kernel)
theorem s171_1448 : T_lcmp 171 1448 1449 := w_lcmp (by decide +kernel)
theorem s171_1449 : T_if_eq 171 1449 1452 1454 := w_if_eq (off := 5) (by decide +kernel) (by decide +kernel)
theorem s171_1452 : T_ic 171 1452 1453 0 := w_ic1 (n := 0) (by decide +kernel) rfl
theorem s171_1453 : T_zr 171 1453 := w_zr (by decide +kernel) (by decide +kernel)
theorem s171_1454 : T_goto 171 1454 2058 := w_goto (off := 604) (by decide +kernel) (by decide +kernel)
theorem s171_1457 : T_al1 171 1457 1458 := w_aln1 (by decide +kernel)
theorem s171_1458 : T_ca1 171 1458 1461 59 := w_ca1 (x := 176) (i := .invokevirtual 176) (by decide +kernel) (by decide +kernel) (Or.inl ⟨rfl, by decide +kernel⟩)
theorem s171_1461 : T_al2 171 1461 1462 := w_aln2 (by decide +kernel)
theorem s171_1462 : T_ca1 171 1462 1465 131 := w_ca1 (x := 179) (i := .invokevirtual 179) (by decide +kernel) (by decide +kernel) (Or.inl ⟨rfl, by decide +kernel⟩)
theorem s171_1465 : T_ic_eq 171 1465 1468 2058 := w_ic_eq (off := 593) (by decide +kernel) (by decide +kernel)
theorem s171_1468 : T_ic 171 1468 1469 0 := w_ic1 (n := 0) (by decide +kernel) rfl
theorem s171_1469 : T_zr 171 1469 := w_zr (by decide +kernel) (by decide +kernel)
theorem s171_1470 : T_al1 171 1470 1471 := w_aln1 (by decide +kernel)
theorem s171_1471 : T_al0 171 1471 1472 := w_aln0 (by decide +kernel)
theorem s171_1472 : T_il4 171 1472 1474 := w_il4 (by decide +kernel)
theorem s171_1474 : T_ic 171 1474 1475 1 := w_ic1 (n := 1) (by decide +kernel) rfl
theorem s171_1475 : T_iadd 171 1475 1476 := w_iadd (by decide +kernel)
theorem s171_1476 : T_sld 171 1476 1477 := w_sld (by decide +kernel) rfl
theorem s171_1477 : T_al0 171 1477 1478 := w_aln0 (by decide +kernel)
theorem s171_1478 : T_il4 171 1478 1480 := w_il4 (by decide +kernel)
theorem s171_1480 : T_ic 171 1480 1481 2 := w_ic1 (n := 2) (by decide +kernel) rfl
theorem s171_1481 : T_iadd 171 1481 1482 := w_iadd (by decide +kernel)
theorem s171_1482 : T_sld 171 1482 1483 := w_sld (by decide +kernel) rfl
theorem s171_1483 : T_al3 171 1483 1484 := w_aln3 (by decide +kernel)
theorem s171_1484 : T_ca4 171 1484 1487 162 := w_ca4 (x := 180) (i := .invokestatic 180) (by decide +kernel) (by decide +kernel) (Or.inr (Or.inl ⟨rfl, by decide +kernel⟩))
theorem s171_1487 : T_is5 171 1487 1489 := w_is5 (by decide +kernel)
theorem s171_1489 : T_al2 171 1489 1490 := w_aln2 (by decide +kernel)
theorem s171_1490 : T_al0 171 1490 1491 := w_aln0 (by decide +kernel)
theorem s171_1491 : T_il4 171 1491 1493 := w_il4 (by decide +kernel)
theorem s171_1493 : T_ic 171 1493 1494 1 := w_ic1 (n := 1) (by decide +kernel) rfl
theorem s171_1494 : T_iadd 171 1494 1495 := w_iadd (by decide +kernel)
theorem s171_1495 : T_sld 171 1495 1496 := w_sld (by decide +kernel) rfl
theorem s171_1496 : T_al0 171 1496 1497 := w_aln0 (by decide +kernel)
theorem s171_1497 : T_il4 171 1497 1499 := w_il4 (by decide +kernel)
theorem s171_1499 : T_ic 171 1499 1500 2 := w_ic1 (n := 2) (by decide +kernel) rfl
theorem s171_1500 : T_iadd 171 1500 1501 := w_iadd (by decide +kernel)
theorem s171_1501 : T_sld 171 1501 1502 := w_sld (by decide +kernel) rfl
theorem s171_1502 : T_ca3 171 1502 1505 132 := w_ca3 (x := 182) (i := .invokevirtual 182) (by decide +kernel) (by decide +kernel) (Or.inl ⟨rfl, by decide +kernel⟩)
theorem s171_1505 : T_is6 171 1505 1507 := w_is6 (by decide +kernel)
theorem s171_1507 : T_al2 171 1507 1508 := w_aln2 (by decide +kernel)
theorem s171_1508 : T_ca1 171 1508 1511 88 := w_ca1 (x := 116) (i := .invokevirtual 116) (by decide +kernel) (by decide +kernel) (Or.inl ⟨rfl, by decide +kernel⟩)
theorem s171_1511 : T_il5 171 1511 1513 := w_il5 (by decide +kernel)
theorem s171_1513 : T_ic_eq 171 1513 1516 1518 := w_ic_eq (off := 5) (by decide +kernel) (by decide +kernel)
theorem s171_1516 : T_ic 171 1516 1517 0 := w_ic1 (n := 0) (by decide +kernel) rfl
theorem s171_1517 : T_zr 171 1517 := w_zr (by decide +kernel) (by decide +kernel)
theorem s171_1518 : T_il5 171 1518 1520 := w_il5 (by decide +kernel)
theorem s171_1520 : T_if_ne 171 1520 1523 1535 := w_if_ne (off := 15) (by decide +kernel) (by decide +kernel)
theorem s171_1523 : T_al3 171 1523 1524 := w_aln3 (by decide +kernel)
theorem s171_1524 : T_ic 171 1524 1525 0 := w_ic1 (n := 0) (by decide +kernel) rfl
theorem s171_1525 : T_la 171 1525 1526 := w_la (by decide +kernel)
theorem s171_1526 : T_il6 171 1526 1528 := w_il6 (by decide +kernel)
theorem s171_1528 : T_i2l 171 1528 1529 := w_i2l (by decide +kernel)
theorem s171_1529 : T_lcmp 171 1529 1530 := w_lcmp (by decide +kernel)
theorem s171_1530 : T_if_eq 171 1530 1533 1535 := w_if_eq (off := 5) (by decide +kernel) (by decide +kernel)
theorem s171_1533 : T_ic 171 1533 1534 0 := w_ic1 (n := 0) (by decide +kernel) rfl
theorem s171_1534 : T_zr 171 1534 := w_zr (by decide +kernel) (by decide +kernel)
theorem s171_1535 : T_goto 171 1535 2058 := w_goto (off := 523) (by decide +kernel) (by decide +kernel)
theorem s171_1538 : T_al1 171 1538 1539 := w_aln1 (by decide +kernel)
theorem s171_1539 : T_al0 171 1539 1540 := w_aln0 (by decide +kernel)
theorem s171_1540 : T_il4 171 1540 1542 := w_il4 (by decide +kernel)
theorem s171_1542 : T_ic 171 1542 1543 1 := w_ic1 (n := 1) (by decide +kernel) rfl
theorem s171_1543 : T_iadd 171 1543 1544 := w_iadd (by decide +kernel)
theorem s171_1544 : T_sld 171 1544 1545 := w_sld (by decide +kernel) rfl
theorem s171_1545 : T_al0 171 1545 1546 := w_aln0 (by decide +kernel)
theorem s171_1546 : T_il4 171 1546 1548 := w_il4 (by decide +kernel)
theorem s171_1548 : T_ic 171 1548 1549 2 := w_ic1 (n := 2) (by decide +kernel) rfl
theorem s171_1549 : T_iadd 171 1549 1550 := w_iadd (by decide +kernel)
theorem s171_1550 : T_sld 171 1550 1551 := w_sld (by decide +kernel) rfl
theorem s171_1551 : T_al3 171 1551 1552 := w_aln3 (by decide +kernel)
theorem s171_1552 : T_ca4 171 1552 1555 163 := w_ca4 (x := 183) (i := .invokestatic 183) (by decide +kernel) (by decide +kernel) (Or.inr (Or.inl ⟨rfl, by decide +kernel⟩))
theorem s171_1555 : T_is5 171 1555 1557 := w_is5 (by decide +kernel)
theorem s171_1557 : T_al2 171 1557 1558 := w_aln2 (by decide +kernel)
theorem s171_1558 : T_al0 171 1558 1559 := w_aln0 (by decide +kernel)
theorem s171_1559 : T_il4 171 1559 1561 := w_il4 (by decide +kernel)
theorem s171_1561 : T_ic 171 1561 1562 1 := w_ic1 (n := 1) (by decide +kernel) rfl
theorem s171_1562 : T_iadd 171 1562 1563 := w_iadd (by decide +kernel)
theorem s171_1563 : T_sld 171 1563 1564 := w_sld (by decide +kernel) rfl
theorem s171_1564 : T_al0 171 1564 1565 := w_aln0 (by decide +kernel)
theorem s171_1565 : T_il4 171 1565 1567 := w_il4 (by decide +kernel)
theorem s171_1567 : T_ic 171 1567 1568 2 := w_ic1 (n := 2) (by decide +kernel) rfl
theorem s171_1568 : T_iadd 171 1568 1569 := w_iadd (by decide +kernel)
theorem s171_1569 : T_sld 171 1569 1570 := w_sld (by decide +kernel) rfl
theorem s171_1570 : T_ca3 171 1570 1573 133 := w_ca3 (x := 185) (i := .invokevirtual 185) (by decide +kernel) (by decide +kernel) (Or.inl ⟨rfl, by decide +kernel⟩)
theorem s171_1573 : T_is6 171 1573 1575 := w_is6 (by decide +kernel)
theorem s171_1575 : T_al2 171 1575 1576 := w_aln2 (by decide +kernel)
theorem s171_1576 : T_ca1 171 1576 1579 88 := w_ca1 (x := 116) (i := .invokevirtual 116) (by decide +kernel) (by decide +kernel) (Or.inl ⟨rfl, by decide +kernel⟩)
theorem s171_1579 : T_il5 171 1579 1581 := w_il5 (by decide +kernel)
theorem s171_1581 : T_ic_eq 171 1581 1584 1586 := w_ic_eq (off := 5) (by decide +kernel) (by decide +kernel)
theorem s171_1584 : T_ic 171 1584 1585 0 := w_ic1 (n := 0) (by decide +kernel) rfl
theorem s171_1585 : T_zr 171 1585 := w_zr (by decide +kernel) (by decide +kernel)
theorem s171_1586 : T_il5 171 1586 1588 := w_il5 (by decide +kernel)
theorem s171_1588 : T_if_ne 171 1588 1591 1603 := w_if_ne (off := 15) (by decide +kernel) (by decide +kernel)
theorem s171_1591 : T_al3 171 1591 1592 := w_aln3 (by decide +kernel)
theorem s171_1592 : T_ic 171 1592 1593 0 := w_ic1 (n := 0) (by decide +kernel) rfl
theorem s171_1593 : T_la 171 1593 1594 := w_la (by decide +kernel)
theorem s171_1594 : T_il6 171 1594 1596 := w_il6 (by decide +kernel)
theorem s171_1596 : T_i2l 171 1596 1597 := w_i2l (by decide +kernel)
theorem s171_1597 : T_lcmp 171 1597 1598 := w_lcmp (by decide +kernel)
theorem s171_1598 : T_if_eq 171 1598 1601 1603 := w_if_eq (off := 5) (by decide +kernel) (by decide +kernel)
theorem s171_1601 : T_ic 171 1601 1602 0 := w_ic1 (n := 0) (by decide +kernel) rfl
theorem s171_1602 : T_zr 171 1602 := w_zr (by decide +kernel) (by decide +kernel)
theorem s171_1603 : T_goto 171 1603 2058 := w_goto (off := 455) (by decide +kernel) (by decide +kernel)
theorem s171_1606 : T_al1 171 1606 1607 := w_aln1 (by decide +kernel)
theorem s171_1607 : T_al0 171 1607 1608 := w_aln0 (by decide +kernel)
theorem s171_1608 : T_il4 171 1608 1610 := w_il4 (by decide +kernel)
theorem s171_1610 : T_ic 171 1610 1611 1 := w_ic1 (n := 1) (by decide +kernel) rfl
theorem s171_1611 : T_iadd 171 1611 1612 := w_iadd (by decide +kernel)
theorem s171_1612 : T_sld 171 1612 1613 := w_sld (by decide +kernel) rfl
theorem s171_1613 : T_al0 171 1613 1614 := w_aln0 (by decide +kernel)
theorem s171_1614 : T_il4 171 1614 1616 := w_il4 (by decide +kernel)
theorem s171_1616 : T_ic 171 1616 1617 2 := w_ic1 (n := 2) (by decide +kernel) rfl
theorem s171_1617 : T_iadd 171 1617 1618 := w_iadd (by decide +kernel)
theorem s171_1618 : T_sld 171 1618 1619 := w_sld (by decide +kernel) rfl
theorem s171_1619 : T_al3 171 1619 1620 := w_aln3 (by decide +kernel)
theorem s171_1620 : T_ca4 171 1620 1623 164 := w_ca4 (x := 186) (i := .invokestatic 186) (by decide +kernel) (by decide +kernel) (Or.inr (Or.inl ⟨rfl, by decide +kernel⟩))
theorem s171_1623 : T_is5 171 1623 1625 := w_is5 (by decide +kernel)
theorem s171_1625 : T_al2 171 1625 1626 := w_aln2 (by decide +kernel)
theorem s171_1626 : T_al0 171 1626 1627 := w_aln0 (by decide +kernel)
theorem s171_1627 : T_il4 171 1627 1629 := w_il4 (by decide +kernel)
theorem s171_1629 : T_ic 171 1629 1630 1 := w_ic1 (n := 1) (by decide +kernel) rfl
theorem s171_1630 : T_iadd 171 1630 1631 := w_iadd (by decide +kernel)
theorem s171_1631 : T_sld 171 1631 1632 := w_sld (by decide +kernel) rfl
theorem s171_1632 : T_al0 171 1632 1633 := w_aln0 (by decide +kernel)
theorem s171_1633 : T_il4 171 1633 1635 := w_il4 (by decide +kernel)
theorem s171_1635 : T_ic 171 1635 1636 2 := w_ic1 (n := 2) (by decide +kernel) rfl
theorem s171_1636 : T_iadd 171 1636 1637 := w_iadd (by decide +kernel)
theorem s171_1637 : T_sld 171 1637 1638 := w_sld (by decide +kernel) rfl
theorem s171_1638 : T_ca3 171 1638 1641 134 := w_ca3 (x := 188) (i := .invokevirtual 188) (by decide +kernel) (by decide +kernel) (Or.inl ⟨rfl, by decide +kernel⟩)
theorem s171_1641 : T_is6 171 1641 1643 := w_is6 (by decide +kernel)
theorem s171_1643 : T_al2 171 1643 1644 := w_aln2 (by decide +kernel)
theorem s171_1644 : T_ca1 171 1644 1647 88 := w_ca1 (x := 116) (i := .invokevirtual 116) (by decide +kernel) (by decide +kernel) (Or.inl ⟨rfl, by decide +kernel⟩)
theorem s171_1647 : T_il5 171 1647 1649 := w_il5 (by decide +kernel)
theorem s171_1649 : T_ic_eq 171 1649 1652 1654 := w_ic_eq (off := 5) (by decide +kernel) (by decide +kernel)
theorem s171_1652 : T_ic 171 1652 1653 0 := w_ic1 (n := 0) (by decide +kernel) rfl
theorem s171_1653 : T_zr 171 1653 := w_zr (by decide +kernel) (by decide +kernel)
theorem s171_1654 : T_il5 171 1654 1656 := w_il5 (by decide +kernel)
theorem s171_1656 : T_if_ne 171 1656 1659 1671 := w_if_ne (off := 15) (by decide +kernel) (by decide +kernel)
theorem s171_1659 : T_al3 171 1659 1660 := w_aln3 (by decide +kernel)
theorem s171_1660 : T_ic 171 1660 1661 0 := w_ic1 (n := 0) (by decide +kernel) rfl
theorem s171_1661 : T_la 171 1661 1662 := w_la (by decide +kernel)
theorem s171_1662 : T_il6 171 1662 1664 := w_il6 (by decide +kernel)
theorem s171_1664 : T_i2l 171 1664 1665 := w_i2l (by decide +kernel)
theorem s171_1665 : T_lcmp 171 1665 1666 := w_lcmp (by decide +kernel)
theorem s171_1666 : T_if_eq 171 1666 1669 1671 := w_if_eq (off := 5) (by decide +kernel) (by decide +kernel)
theorem s171_1669 : T_ic 171 1669 1670 0 := w_ic1 (n := 0) (by decide +kernel) rfl
theorem s171_1670 : T_zr 171 1670 := w_zr (by decide +kernel) (by decide +kernel)
theorem s171_1671 : T_goto 171 1671 2058 := w_goto (off := 387) (by decide +kernel) (by decide +kernel)
theorem s171_1674 : T_al1 171 1674 1675 := w_aln1 (by decide +kernel)
theorem s171_1675 : T_al0 171 1675 1676 := w_aln0 (by decide +kernel)
theorem s171_1676 : T_il4 171 1676 1678 := w_il4 (by decide +kernel)
theorem s171_1678 : T_ic 171 1678 1679 1 := w_ic1 (n := 1) (by decide +kernel) rfl
theorem s171_1679 : T_iadd 171 1679 1680 := w_iadd (by decide +kernel)
theorem s171_1680 : T_sld 171 1680 1681 := w_sld (by decide +kernel) rfl
theorem s171_1681 : T_al0 171 1681 1682 := w_aln0 (by decide +kernel)
theorem s171_1682 : T_il4 171 1682 1684 := w_il4 (by decide +kernel)
theorem s171_1684 : T_ic 171 1684 1685 2 := w_ic1 (n := 2) (by decide +kernel) rfl
theorem s171_1685 : T_iadd 171 1685 1686 := w_iadd (by decide +kernel)
theorem s171_1686 : T_sld 171 1686 1687 := w_sld (by decide +kernel) rfl
theorem s171_1687 : T_al3 171 1687 1688 := w_aln3 (by decide +kernel)
theorem s171_1688 : T_ca4 171 1688 1691 165 := w_ca4 (x := 189) (i := .invokestatic 189) (by decide +kernel) (by decide +kernel) (Or.inr (Or.inl ⟨rfl, by decide +kernel⟩))
theorem s171_1691 : T_is5 171 1691 1693 := w_is5 (by decide +kernel)
theorem s171_1693 : T_al2 171 1693 1694 := w_aln2 (by decide +kernel)
theorem s171_1694 : T_al0 171 1694 1695 := w_aln0 (by decide +kernel)
theorem s171_1695 : T_il4 171 1695 1697 := w_il4 (by decide +kernel)
theorem s171_1697 : T_ic 171 1697 1698 1 := w_ic1 (n := 1) (by decide +kernel) rfl
theorem s171_1698 : T_iadd 171 1698 1699 := w_iadd (by decide +kernel)
theorem s171_1699 : T_sld 171 1699 1700 := w_sld (by decide +kernel) rfl
theorem s171_1700 : T_al0 171 1700 1701 := w_aln0 (by decide +kernel)
theorem s171_1701 : T_il4 171 1701 1703 := w_il4 (by decide +kernel)
theorem s171_1703 : T_ic 171 1703 1704 2 := w_ic1 (n := 2) (by decide +kernel) rfl
theorem s171_1704 : T_iadd 171 1704 1705 := w_iadd (by decide +kernel)
theorem s171_1705 : T_sld 171 1705 1706 := w_sld (by decide +kernel) rfl
theorem s171_1706 : T_ca3 171 1706 1709 135 := w_ca3 (x := 191) (i := .invokevirtual 191) (by decide +kernel) (by decide +kernel) (Or.inl ⟨rfl, by decide +kernel⟩)
theorem s171_1709 : T_is6 171 1709 1711 := w_is6 (by decide +kernel)
theorem s171_1711 : T_al2 171 1711 1712 := w_aln2 (by decide +kernel)
theorem s171_1712 : T_ca1 171 1712 1715 88 := w_ca1 (x := 116) (i := .invokevirtual 116) (by decide +kernel) (by decide +kernel) (Or.inl ⟨rfl, by decide +kernel⟩)
theorem s171_1715 : T_il5 171 1715 1717 := w_il5 (by decide +kernel)
theorem s171_1717 : T_ic_eq 171 1717 1720 1722 := w_ic_eq (off := 5) (by decide +kernel) (by decide +kernel)
theorem s171_1720 : T_ic 171 1720 1721 0 := w_ic1 (n := 0) (by decide +kernel) rfl
theorem s171_1721 : T_zr 171 1721 := w_zr (by decide +kernel) (by decide +kernel)
theorem s171_1722 : T_il5 171 1722 1724 := w_il5 (by decide +kernel)
theorem s171_1724 : T_if_ne 171 1724 1727 1739 := w_if_ne (off := 15) (by decide +kernel) (by decide +kernel)
theorem s171_1727 : T_al3 171 1727 1728 := w_aln3 (by decide +kernel)
theorem s171_1728 : T_ic 171 1728 1729 0 := w_ic1 (n := 0) (by decide +kernel) rfl
theorem s171_1729 : T_la 171 1729 1730 := w_la (by decide +kernel)
theorem s171_1730 : T_il6 171 1730 1732 := w_il6 (by decide +kernel)
theorem s171_1732 : T_i2l 171 1732 1733 := w_i2l (by decide +kernel)
theorem s171_1733 : T_lcmp 171 1733 1734 := w_lcmp (by decide +kernel)
theorem s171_1734 : T_if_eq 171 1734 1737 1739 := w_if_eq (off := 5) (by decide +kernel) (by decide +kernel)
theorem s171_1737 : T_ic 171 1737 1738 0 := w_ic1 (n := 0) (by decide +kernel) rfl
theorem s171_1738 : T_zr 171 1738 := w_zr (by decide +kernel) (by decide +kernel)
theorem s171_1739 : T_goto 171 1739 2058 := w_goto (off := 319) (by decide +kernel) (by decide +kernel)
theorem s171_1742 : T_al1 171 1742 1743 := w_aln1 (by decide +kernel)
theorem s171_1743 : T_al0 171 1743 1744 := w_aln0 (by decide +kernel)
theorem s171_1744 : T_il4 171 1744 1746 := w_il4 (by decide +kernel)
theorem s171_1746 : T_ic 171 1746 1747 1 := w_ic1 (n := 1) (by decide +kernel) rfl
theorem s171_1747 : T_iadd 171 1747 1748 := w_iadd (by decide +kernel)
theorem s171_1748 : T_sld 171 1748 1749 := w_sld (by decide +kernel) rfl
theorem s171_1749 : T_al0 171 1749 1750 := w_aln0 (by decide +kernel)
theorem s171_1750 : T_il4 171 1750 1752 := w_il4 (by decide +kernel)
theorem s171_1752 : T_ic 171 1752 1753 2 := w_ic1 (n := 2) (by decide +kernel) rfl
theorem s171_1753 : T_iadd 171 1753 1754 := w_iadd (by decide +kernel)
theorem s171_1754 : T_sld 171 1754 1755 := w_sld (by decide +kernel) rfl
theorem s171_1755 : T_al3 171 1755 1756 := w_aln3 (by decide +kernel)
theorem s171_1756 : T_ca4 171 1756 1759 166 := w_ca4 (x := 192) (i := .invokestatic 192) (by decide +kernel) (by decide +kernel) (Or.inr (Or.inl ⟨rfl, by decide +kernel⟩))
theorem s171_1759 : T_is5 171 1759 1761 := w_is5 (by decide +kernel)
theorem s171_1761 : T_al2 171 1761 1762 := w_aln2 (by decide +kernel)
theorem s171_1762 : T_al0 171 1762 1763 := w_aln0 (by decide +kernel)
theorem s171_1763 : T_il4 171 1763 1765 := w_il4 (by decide +kernel)
theorem s171_1765 : T_ic 171 1765 1766 1 := w_ic1 (n := 1) (by decide +kernel) rfl
theorem s171_1766 : T_iadd 171 1766 1767 := w_iadd (by decide +kernel)
theorem s171_1767 : T_sld 171 1767 1768 := w_sld (by decide +kernel) rfl
theorem s171_1768 : T_al0 171 1768 1769 := w_aln0 (by decide +kernel)
theorem s171_1769 : T_il4 171 1769 1771 := w_il4 (by decide +kernel)
theorem s171_1771 : T_ic 171 1771 1772 2 := w_ic1 (n := 2) (by decide +kernel) rfl
theorem s171_1772 : T_iadd 171 1772 1773 := w_iadd (by decide +kernel)
theorem s171_1773 : T_sld 171 1773 1774 := w_sld (by decide +kernel) rfl
theorem s171_1774 : T_ca3 171 1774 1777 136 := w_ca3 (x := 194) (i := .invokevirtual 194) (by decide +kernel) (by decide +kernel) (Or.inl ⟨rfl, by decide +kernel⟩)
theorem s171_1777 : T_is6 171 1777 1779 := w_is6 (by decide +kernel)
theorem s171_1779 : T_al2 171 1779 1780 := w_aln2 (by decide +kernel)
theorem s171_1780 : T_ca1 171 1780 1783 88 := w_ca1 (x := 116) (i := .invokevirtual 116) (by decide +kernel) (by decide +kernel) (Or.inl ⟨rfl, by decide +kernel⟩)
theorem s171_1783 : T_il5 171 1783 1785 := w_il5 (by decide +kernel)
theorem s171_1785 : T_ic_eq 171 1785 1788 1790 := w_ic_eq (off := 5) (by decide +kernel) (by decide +kernel)
theorem s171_1788 : T_ic 171 1788 1789 0 := w_ic1 (n := 0) (by decide +kernel) rfl
theorem s171_1789 : T_zr 171 1789 := w_zr (by decide +kernel) (by decide +kernel)
theorem s171_1790 : T_il5 171 1790 1792 := w_il5 (by decide +kernel)
theorem s171_1792 : T_if_ne 171 1792 1795 1807 := w_if_ne (off := 15) (by decide +kernel) (by decide +kernel)
theorem s171_1795 : T_al3 171 1795 1796 := w_aln3 (by decide +kernel)
theorem s171_1796 : T_ic 171 1796 1797 0 := w_ic1 (n := 0) (by decide +kernel) rfl
theorem s171_1797 : T_la 171 1797 1798 := w_la (by decide +kernel)
theorem s171_1798 : T_il6 171 1798 1800 := w_il6 (by decide +kernel)
theorem s171_1800 : T_i2l 171 1800 1801 := w_i2l (by decide +kernel)
theorem s171_1801 : T_lcmp 171 1801 1802 := w_lcmp (by decide +kernel)
theorem s171_1802 : T_if_eq 171 1802 1805 1807 := w_if_eq (off := 5) (by decide +kernel) (by decide +kernel)
theorem s171_1805 : T_ic 171 1805 1806 0 := w_ic1 (n := 0) (by decide +kernel) rfl
theorem s171_1806 : T_zr 171 1806 := w_zr (by decide +kernel) (by decide +kernel)
theorem s171_1807 : T_goto 171 1807 2058 := w_goto (off := 251) (by decide +kernel) (by decide +kernel)
theorem s171_1810 : T_al1 171 1810 1811 := w_aln1 (by decide +kernel)
theorem s171_1811 : T_al0 171 1811 1812 := w_aln0 (by decide +kernel)
theorem s171_1812 : T_il4 171 1812 1814 := w_il4 (by decide +kernel)
theorem s171_1814 : T_ic 171 1814 1815 1 := w_ic1 (n := 1) (by decide +kernel) rfl
theorem s171_1815 : T_iadd 171 1815 1816 := w_iadd (by decide +kernel)
theorem s171_1816 : T_sld 171 1816 1817 := w_sld (by decide +kernel) rfl
theorem s171_1817 : T_al0 171 1817 1818 := w_aln0 (by decide +kernel)
theorem s171_1818 : T_il4 171 1818 1820 := w_il4 (by decide +kernel)
theorem s171_1820 : T_ic 171 1820 1821 2 := w_ic1 (n := 2) (by decide +kernel) rfl
theorem s171_1821 : T_iadd 171 1821 1822 := w_iadd (by decide +kernel)
theorem s171_1822 : T_sld 171 1822 1823 := w_sld (by decide +kernel) rfl
theorem s171_1823 : T_al3 171 1823 1824 := w_aln3 (by decide +kernel)
theorem s171_1824 : T_ca4 171 1824 1827 167 := w_ca4 (x := 195) (i := .invokestatic 195) (by decide +kernel) (by decide +kernel) (Or.inr (Or.inl ⟨rfl, by decide +kernel⟩))
theorem s171_1827 : T_is5 171 1827 1829 := w_is5 (by decide +kernel)
theorem s171_1829 : T_al2 171 1829 1830 := w_aln2 (by decide +kernel)
theorem s171_1830 : T_al0 171 1830 1831 := w_aln0 (by decide +kernel)
theorem s171_1831 : T_il4 171 1831 1833 := w_il4 (by decide +kernel)
theorem s171_1833 : T_ic 171 1833 1834 1 := w_ic1 (n := 1) (by decide +kernel) rfl
theorem s171_1834 : T_iadd 171 1834 1835 := w_iadd (by decide +kernel)
theorem s171_1835 : T_sld 171 1835 1836 := w_sld (by decide +kernel) rfl
theorem s171_1836 : T_al0 171 1836 1837 := w_aln0 (by decide +kernel)
theorem s171_1837 : T_il4 171 1837 1839 := w_il4 (by decide +kernel)
theorem s171_1839 : T_ic 171 1839 1840 2 := w_ic1 (n := 2) (by decide +kernel) rfl
theorem s171_1840 : T_iadd 171 1840 1841 := w_iadd (by decide +kernel)
theorem s171_1841 : T_sld 171 1841 1842 := w_sld (by decide +kernel) rfl
theorem s171_1842 : T_ca3 171 1842 1845 138 := w_ca3 (x := 197) (i := .invokevirtual 197) (by decide +kernel) (by decide +kernel) (Or.inl ⟨rfl, by decide +kernel⟩)
theorem s171_1845 : T_is6 171 1845 1847 := w_is6 (by decide +kernel)
theorem s171_1847 : T_al2 171 1847 1848 := w_aln2 (by decide +kernel)
theorem s171_1848 : T_ca1 171 1848 1851 88 := w_ca1 (x := 116) (i := .invokevirtual 116) (by decide +kernel) (by decide +kernel) (Or.inl ⟨rfl, by decide +kernel⟩)
theorem s171_1851 : T_il5 171 1851 1853 := w_il5 (by decide +kernel)
theorem s171_1853 : T_ic_eq 171 1853 1856 1858 := w_ic_eq (off := 5) (by decide +kernel) (by decide +kernel)
theorem s171_1856 : T_ic 171 1856 1857 0 := w_ic1 (n := 0) (by decide +kernel) rfl
theorem s171_1857 : T_zr 171 1857 := w_zr (by decide +kernel) (by decide +kernel)
theorem s171_1858 : T_il5 171 1858 1860 := w_il5 (by decide +kernel)
theorem s171_1860 : T_if_ne 171 1860 1863 1875 := w_if_ne (off := 15) (by decide +kernel) (by decide +kernel)
theorem s171_1863 : T_al3 171 1863 1864 := w_aln3 (by decide +kernel)
theorem s171_1864 : T_ic 171 1864 1865 0 := w_ic1 (n := 0) (by decide +kernel) rfl
theorem s171_1865 : T_la 171 1865 1866 := w_la (by decide +kernel)
theorem s171_1866 : T_il6 171 1866 1868 := w_il6 (by decide +kernel)
theorem s171_1868 : T_i2l 171 1868 1869 := w_i2l (by decide +kernel)
theorem s171_1869 : T_lcmp 171 1869 1870 := w_lcmp (by decide +kernel)
theorem s171_1870 : T_if_eq 171 1870 1873 1875 := w_if_eq (off := 5) (by decide +kernel) (by decide +kernel)
theorem s171_1873 : T_ic 171 1873 1874 0 := w_ic1 (n := 0) (by decide +kernel) rfl
theorem s171_1874 : T_zr 171 1874 := w_zr (by decide +kernel) (by decide +kernel)
theorem s171_1875 : T_goto 171 1875 2058 := w_goto (off := 183) (by decide +kernel) (by decide +kernel)
theorem s171_1878 : T_al1 171 1878 1879 := w_aln1 (by decide +kernel)
theorem s171_1879 : T_al0 171 1879 1880 := w_aln0 (by decide +kernel)
theorem s171_1880 : T_il4 171 1880 1882 := w_il4 (by decide +kernel)
theorem s171_1882 : T_ic 171 1882 1883 1 := w_ic1 (n := 1) (by decide +kernel) rfl
theorem s171_1883 : T_iadd 171 1883 1884 := w_iadd (by decide +kernel)
theorem s171_1884 : T_sld 171 1884 1885 := w_sld (by decide +kernel) rfl
theorem s171_1885 : T_al0 171 1885 1886 := w_aln0 (by decide +kernel)
theorem s171_1886 : T_il4 171 1886 1888 := w_il4 (by decide +kernel)
theorem s171_1888 : T_ic 171 1888 1889 2 := w_ic1 (n := 2) (by decide +kernel) rfl
theorem s171_1889 : T_iadd 171 1889 1890 := w_iadd (by decide +kernel)
theorem s171_1890 : T_sld 171 1890 1891 := w_sld (by decide +kernel) rfl
theorem s171_1891 : T_al3 171 1891 1892 := w_aln3 (by decide +kernel)
theorem s171_1892 : T_ca4 171 1892 1895 168 := w_ca4 (x := 198) (i := .invokestatic 198) (by decide +kernel) (by decide +kernel) (Or.inr (Or.inl ⟨rfl, by decide +kernel⟩))
theorem s171_1895 : T_is5 171 1895 1897 := w_is5 (by decide +kernel)
theorem s171_1897 : T_al2 171 1897 1898 := w_aln2 (by decide +kernel)
theorem s171_1898 : T_al0 171 1898 1899 := w_aln0 (by decide +kernel)
theorem s171_1899 : T_il4 171 1899 1901 := w_il4 (by decide +kernel)
theorem s171_1901 : T_ic 171 1901 1902 1 := w_ic1 (n := 1) (by decide +kernel) rfl
theorem s171_1902 : T_iadd 171 1902 1903 := w_iadd (by decide +kernel)
theorem s171_1903 : T_sld 171 1903 1904 := w_sld (by decide +kernel) rfl
theorem s171_1904 : T_al0 171 1904 1905 := w_aln0 (by decide +kernel)
theorem s171_1905 : T_il4 171 1905 1907 := w_il4 (by decide +kernel)
theorem s171_1907 : T_ic 171 1907 1908 2 := w_ic1 (n := 2) (by decide +kernel) rfl
theorem s171_1908 : T_iadd 171 1908 1909 := w_iadd (by decide +kernel)
theorem s171_1909 : T_sld 171 1909 1910 := w_sld (by decide +kernel) rfl
theorem s171_1910 : T_ca3 171 1910 1913 139 := w_ca3 (x := 200) (i := .invokevirtual 200) (by decide +kernel) (by decide +kernel) (Or.inl ⟨rfl, by decide +kernel⟩)
theorem s171_1913 : T_is6 171 1913 1915 := w_is6 (by decide +kernel)
theorem s171_1915 : T_al2 171 1915 1916 := w_aln2 (by decide +kernel)
theorem s171_1916 : T_ca1 171 1916 1919 88 := w_ca1 (x := 116) (i := .invokevirtual 116) (by decide +kernel) (by decide +kernel) (Or.inl ⟨rfl, by decide +kernel⟩)
theorem s171_1919 : T_il5 171 1919 1921 := w_il5 (by decide +kernel)
theorem s171_1921 : T_ic_eq 171 1921 1924 1926 := w_ic_eq (off := 5) (by decide +kernel) (by decide +kernel)
theorem s171_1924 : T_ic 171 1924 1925 0 := w_ic1 (n := 0) (by decide +kernel) rfl
theorem s171_1925 : T_zr 171 1925 := w_zr (by decide +kernel) (by decide +kernel)
theorem s171_1926 : T_il5 171 1926 1928 := w_il5 (by decide +kernel)
theorem s171_1928 : T_if_ne 171 1928 1931 1943 := w_if_ne (off := 15) (by decide +kernel) (by decide +kernel)
theorem s171_1931 : T_al3 171 1931 1932 := w_aln3 (by decide +kernel)
theorem s171_1932 : T_ic 171 1932 1933 0 := w_ic1 (n := 0) (by decide +kernel) rfl
theorem s171_1933 : T_la 171 1933 1934 := w_la (by decide +kernel)
theorem s171_1934 : T_il6 171 1934 1936 := w_il6 (by decide +kernel)
theorem s171_1936 : T_i2l 171 1936 1937 := w_i2l (by decide +kernel)
theorem s171_1937 : T_lcmp 171 1937 1938 := w_lcmp (by decide +kernel)
theorem s171_1938 : T_if_eq 171 1938 1941 1943 := w_if_eq (off := 5) (by decide +kernel) (by decide +kernel)
theorem s171_1941 : T_ic 171 1941 1942 0 := w_ic1 (n := 0) (by decide +kernel) rfl
theorem s171_1942 : T_zr 171 1942 := w_zr (by decide +kernel) (by decide +kernel)
theorem s171_1943 : T_goto 171 1943 2058 := w_goto (off := 115) (by decide +kernel) (by decide +kernel)
theorem s171_1946 : T_al1 171 1946 1947 := w_aln1 (by decide +kernel)
theorem s171_1947 : T_al0 171 1947 1948 := w_aln0 (by decide +kernel)
theorem s171_1948 : T_il4 171 1948 1950 := w_il4 (by decide +kernel)
theorem s171_1950 : T_ic 171 1950 1951 1 := w_ic1 (n := 1) (by decide +kernel) rfl
theorem s171_1951 : T_iadd 171 1951 1952 := w_iadd (by decide +kernel)
theorem s171_1952 : T_sld 171 1952 1953 := w_sld (by decide +kernel) rfl
theorem s171_1953 : T_al3 171 1953 1954 := w_aln3 (by decide +kernel)
theorem s171_1954 : T_ca3 171 1954 1957 169 := w_ca3 (x := 201) (i := .invokestatic 201) (by decide +kernel) (by decide +kernel) (Or.inr (Or.inl ⟨rfl, by decide +kernel⟩))
theorem s171_1957 : T_is5 171 1957 1959 := w_is5 (by decide +kernel)
theorem s171_1959 : T_al2 171 1959 1960 := w_aln2 (by decide +kernel)
theorem s171_1960 : T_al0 171 1960 1961 := w_aln0 (by decide +kernel)
theorem s171_1961 : T_il4 171 1961 1963 := w_il4 (by decide +kernel)
theorem s171_1963 : T_ic 171 1963 1964 1 := w_ic1 (n := 1) (by decide +kernel) rfl
theorem s171_1964 : T_iadd 171 1964 1965 := w_iadd (by decide +kernel)
theorem s171_1965 : T_sld 171 1965 1966 := w_sld (by decide +kernel) rfl
theorem s171_1966 : T_ca2 171 1966 1969 140 := w_ca2 (x := 203) (i := .invokevirtual 203) (by decide +kernel) (by decide +kernel) (Or.inl ⟨rfl, by decide +kernel⟩)
theorem s171_1969 : T_is6 171 1969 1971 := w_is6 (by decide +kernel)
theorem s171_1971 : T_al2 171 1971 1972 := w_aln2 (by decide +kernel)
theorem s171_1972 : T_ca1 171 1972 1975 88 := w_ca1 (x := 116) (i := .invokevirtual 116) (by decide +kernel) (by decide +kernel) (Or.inl ⟨rfl, by decide +kernel⟩)
theorem s171_1975 : T_il5 171 1975 1977 := w_il5 (by decide +kernel)
theorem s171_1977 : T_ic_eq 171 1977 1980 1982 := w_ic_eq (off := 5) (by decide +kernel) (by decide +kernel)
theorem s171_1980 : T_ic 171 1980 1981 0 := w_ic1 (n := 0) (by decide +kernel) rfl
theorem s171_1981 : T_zr 171 1981 := w_zr (by decide +kernel) (by decide +kernel)
theorem s171_1982 : T_il5 171 1982 1984 := w_il5 (by decide +kernel)
theorem s171_1984 : T_if_ne 171 1984 1987 1999 := w_if_ne (off := 15) (by decide +kernel) (by decide +kernel)
theorem s171_1987 : T_al3 171 1987 1988 := w_aln3 (by decide +kernel)
theorem s171_1988 : T_ic 171 1988 1989 0 := w_ic1 (n := 0) (by decide +kernel) rfl
theorem s171_1989 : T_la 171 1989 1990 := w_la (by decide +kernel)
theorem s171_1990 : T_il6 171 1990 1992 := w_il6 (by decide +kernel)
theorem s171_1992 : T_i2l 171 1992 1993 := w_i2l (by decide +kernel)
theorem s171_1993 : T_lcmp 171 1993 1994 := w_lcmp (by decide +kernel)
theorem s171_1994 : T_if_eq 171 1994 1997 1999 := w_if_eq (off := 5) (by decide +kernel) (by decide +kernel)
theorem s171_1997 : T_ic 171 1997 1998 0 := w_ic1 (n := 0) (by decide +kernel) rfl
theorem s171_1998 : T_zr 171 1998 := w_zr (by decide +kernel) (by decide +kernel)
theorem s171_1999 : T_goto 171 1999 2058 := w_goto (off := 59) (by decide +kernel) (by decide +kernel)
theorem s171_2002 : T_al1 171 2002 2003 := w_aln1 (by decide +kernel)
theorem s171_2003 : T_al0 171 2003 2004 := w_aln0 (by decide +kernel)
theorem s171_2004 : T_il4 171 2004 2006 := w_il4 (by decide +kernel)
theorem s171_2006 : T_ic 171 2006 2007 1 := w_ic1 (n := 1) (by decide +kernel) rfl
theorem s171_2007 : T_iadd 171 2007 2008 := w_iadd (by decide +kernel)
theorem s171_2008 : T_sld 171 2008 2009 := w_sld (by decide +kernel) rfl
theorem s171_2009 : T_al3 171 2009 2010 := w_aln3 (by decide +kernel)
theorem s171_2010 : T_ca3 171 2010 2013 170 := w_ca3 (x := 204) (i := .invokestatic 204) (by decide +kernel) (by decide +kernel) (Or.inr (Or.inl ⟨rfl, by decide +kernel⟩))
theorem s171_2013 : T_is5 171 2013 2015 := w_is5 (by decide +kernel)
theorem s171_2015 : T_al2 171 2015 2016 := w_aln2 (by decide +kernel)
theorem s171_2016 : T_al0 171 2016 2017 := w_aln0 (by decide +kernel)
theorem s171_2017 : T_il4 171 2017 2019 := w_il4 (by decide +kernel)
theorem s171_2019 : T_ic 171 2019 2020 1 := w_ic1 (n := 1) (by decide +kernel) rfl
theorem s171_2020 : T_iadd 171 2020 2021 := w_iadd (by decide +kernel)
theorem s171_2021 : T_sld 171 2021 2022 := w_sld (by decide +kernel) rfl
theorem s171_2022 : T_ca2 171 2022 2025 141 := w_ca2 (x := 206) (i := .invokevirtual 206) (by decide +kernel) (by decide +kernel) (Or.inl ⟨rfl, by decide +kernel⟩)
theorem s171_2025 : T_is6 171 2025 2027 := w_is6 (by decide +kernel)
theorem s171_2027 : T_al2 171 2027 2028 := w_aln2 (by decide +kernel)
theorem s171_2028 : T_ca1 171 2028 2031 88 := w_ca1 (x := 116) (i := .invokevirtual 116) (by decide +kernel) (by decide +kernel) (Or.inl ⟨rfl, by decide +kernel⟩)
theorem s171_2031 : T_il5 171 2031 2033 := w_il5 (by decide +kernel)
theorem s171_2033 : T_ic_eq 171 2033 2036 2038 := w_ic_eq (off := 5) (by decide +kernel) (by decide +kernel)
theorem s171_2036 : T_ic 171 2036 2037 0 := w_ic1 (n := 0) (by decide +kernel) rfl
theorem s171_2037 : T_zr 171 2037 := w_zr (by decide +kernel) (by decide +kernel)
theorem s171_2038 : T_il5 171 2038 2040 := w_il5 (by decide +kernel)
theorem s171_2040 : T_if_ne 171 2040 2043 2055 := w_if_ne (off := 15) (by decide +kernel) (by decide +kernel)
theorem s171_2043 : T_al3 171 2043 2044 := w_aln3 (by decide +kernel)
theorem s171_2044 : T_ic 171 2044 2045 0 := w_ic1 (n := 0) (by decide +kernel) rfl
theorem s171_2045 : T_la 171 2045 2046 := w_la (by decide +kernel)
theorem s171_2046 : T_il6 171 2046 2048 := w_il6 (by decide +kernel)
theorem s171_2048 : T_i2l 171 2048 2049 := w_i2l (by decide +kernel)
theorem s171_2049 : T_lcmp 171 2049 2050 := w_lcmp (by decide +kernel)
theorem s171_2050 : T_if_eq 171 2050 2053 2055 := w_if_eq (off := 5) (by decide +kernel) (by decide +kernel)
theorem s171_2053 : T_ic 171 2053 2054 0 := w_ic1 (n := 0) (by decide +kernel) rfl
theorem s171_2054 : T_zr 171 2054 := w_zr (by decide +kernel) (by decide +kernel)
theorem s171_2055 : T_goto 171 2055 2058 := w_goto (off := 3) (by decide +kernel) (by decide +kernel)
theorem s171_2058 : T_inc4 171 2058 2061 5 := w_inc4 (c := 5) (by decide +kernel) (by decide +kernel)
theorem s171_2061 : T_goto 171 2061 23 := w_goto (off := (-2038)) (by decide +kernel) (by decide +kernel)
theorem s171_2064 : T_ic 171 2064 2065 1 := w_ic1 (n := 1) (by decide +kernel) rfl
theorem s171_2065 : T_zr 171 2065 := w_zr (by decide +kernel) (by decide +kernel)
