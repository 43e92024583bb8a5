/-! a turn of the law, method by method -/
def LawE (X : Jx) (K : Kx) (n b L : Nat) (xs : Nat → Int32) : Prop := OkX X b_Law_law R_Law K ∧ X.nL = 7 ∧ X.R = room_1 ∧ X.l.stackTraces = false ∧ KF K n ∧ va_X b L xs X.s X.s.heap ∧ b < K.base ∧ L ≤ 3075
def KT (X : Jx) (K : Kx) (n : Nat) (ld sk : Int32) (b i cm sm : Nat) : Prop := ∀ (A B D : MI) (P : MP) (N : List Msg), ST K n ld sk A B D P N → J X K K.full (bk4 A B A D) P cm sm 1247 [(0, .ref b), (1, .ref (K.ad 0 0)), (2, .ref (K.ad 6 0)), (3, .ref (K.aad 40)), (4, .int (nI i))] []
theorem hRl {X : Jx} {d : Nat × Nat} {n : Nat} (h : X.R = room_1) (h1 : d.1 + 1 ≤ 12) (h2 : n + 19 + d.2 ≤ 432) : d.1 + 1 ≤ X.R.frames ∧ n + 19 + d.2 ≤ X.R.locals := by
  rw [h]
  exact ⟨h1, h2⟩
theorem hfl {X : Jx} {c s mc ms : Nat} (h : X.R = room_1) (h1 : c + mc ≤ 601024) (h2 : s + ms ≤ 7293000) : c + mc ≤ X.R.cells ∧ s + ms ≤ X.R.slots := by
  rw [h]
  exact ⟨h1, h2⟩
theorem kf_out {K : Kx} {n : Nat} (kf : KF K n) : K.aad 40 = K.base + 657 + 2 * n ∧ K.pa 40 ∧ K.alen 40 = 1 := by
  rw [kf.2.2.1, kf.2.2.2.1, kf.2.2.2.2.2]
  exact ⟨rfl, Or.inr (Or.inr rfl), rfl⟩
theorem lgc (x : Int64) : lg_cmp x x = 0 := by
  unfold lg_cmp
  simp
theorem lgz0 {v : Int32} (h : v = 0) : lg_cmp (gz v) 0 = 0 := by
  rw [show gz v = 0 from if_pos h]; exact lgc 0
theorem lgz1 {v : Int32} (h : ¬ v = 0) : lg_cmp (gz v) 1 = 0 := by
  rw [show gz v = 1 from if_neg h]; exact lgc 1
theorem c16 {z : Int32} (h : ¬ z < 0 ∧ ¬ 16 ≤ z) : wn z 0 15 := by
  refine ⟨h.1, fun q => h.2 ?_⟩
  rw [Int32.lt_iff_toInt_lt] at q
  rw [Int32.le_iff_toInt_le]
  have e1 : (15 : Int32).toInt = 15 := rfl
  have e2 : (16 : Int32).toInt = 16 := rfl
  omega
theorem c_in {z : Int32} {n : Nat} (h : ¬ z < 0 ∧ ¬ nI n ≤ z) (hn : n < 2 ^ 31) : ∃ a, a < n ∧ z = nI a := by
  obtain ⟨j, hj, e, -⟩ := pk_mu h.1 h.2 hn
  exact ⟨j, hj, e⟩
theorem full_v (K : Kx) : ∀ z, K.full.2.2 z := fun _ => trivial
theorem d_Law_law_0 : decode b_Law_law 0 = .ok (.new 8, 3) := by decide +kernel
theorem d_Law_law_3 : decode b_Law_law 3 = .ok (.dup, 1) := by decide +kernel
theorem d_Law_law_4 : decode b_Law_law 4 = .ok (.aload_n 0, 1) := by decide +kernel
theorem d_Law_law_5 : decode b_Law_law 5 = .ok (.iconst 0, 1) := by decide +kernel
theorem d_Law_law_6 : decode b_Law_law 6 = .ok (.invokestatic 65, 3) := by decide +kernel
theorem d_Law_law_9 : decode b_Law_law 9 = .ok (.aload_n 0, 1) := by decide +kernel
theorem d_Law_law_10 : decode b_Law_law 10 = .ok (.iconst 1, 1) := by decide +kernel
theorem d_Law_law_11 : decode b_Law_law 11 = .ok (.invokestatic 65, 3) := by decide +kernel
theorem d_Law_law_14 : decode b_Law_law 14 = .ok (.aload_n 0, 1) := by decide +kernel
theorem d_Law_law_15 : decode b_Law_law 15 = .ok (.iconst 2, 1) := by decide +kernel
theorem d_Law_law_16 : decode b_Law_law 16 = .ok (.invokestatic 65, 3) := by decide +kernel
theorem d_Law_law_19 : decode b_Law_law 19 = .ok (.invokespecial 71, 3) := by decide +kernel
theorem d_Law_law_22 : decode b_Law_law 22 = .ok (.astore_n 1, 1) := by decide +kernel
theorem d_Law_law_23 : decode b_Law_law 23 = .ok (.new 74, 3) := by decide +kernel
theorem d_Law_law_26 : decode b_Law_law 26 = .ok (.dup, 1) := by decide +kernel
theorem d_Law_law_27 : decode b_Law_law 27 = .ok (.aload_n 0, 1) := by decide +kernel
theorem d_Law_law_28 : decode b_Law_law 28 = .ok (.iconst 0, 1) := by decide +kernel
theorem d_Law_law_29 : decode b_Law_law 29 = .ok (.invokestatic 65, 3) := by decide +kernel
theorem d_Law_law_32 : decode b_Law_law 32 = .ok (.aload_n 0, 1) := by decide +kernel
theorem d_Law_law_33 : decode b_Law_law 33 = .ok (.iconst 1, 1) := by decide +kernel
theorem d_Law_law_34 : decode b_Law_law 34 = .ok (.invokestatic 65, 3) := by decide +kernel
theorem d_Law_law_37 : decode b_Law_law 37 = .ok (.aload_n 0, 1) := by decide +kernel
theorem d_Law_law_38 : decode b_Law_law 38 = .ok (.iconst 2, 1) := by decide +kernel
theorem d_Law_law_39 : decode b_Law_law 39 = .ok (.invokestatic 65, 3) := by decide +kernel
theorem d_Law_law_42 : decode b_Law_law 42 = .ok (.invokespecial 76, 3) := by decide +kernel
theorem d_Law_law_45 : decode b_Law_law 45 = .ok (.astore_n 2, 1) := by decide +kernel
theorem d_Law_law_46 : decode b_Law_law 46 = .ok (.iconst 1, 1) := by decide +kernel
theorem d_Law_law_47 : decode b_Law_law 47 = .ok (.newarray .long, 2) := by decide +kernel
theorem d_Law_law_49 : decode b_Law_law 49 = .ok (.astore_n 3, 1) := by decide +kernel
theorem d_Law_law_50 : decode b_Law_law 50 = .ok (.iconst 3, 1) := by decide +kernel
theorem d_Law_law_51 : decode b_Law_law 51 = .ok (.istore 4, 2) := by decide +kernel
theorem d_Law_law_53 : decode b_Law_law 53 = .ok (.iload 4, 2) := by decide +kernel
theorem d_Law_law_55 : decode b_Law_law 55 = .ok (.aload_n 0, 1) := by decide +kernel
theorem d_Law_law_56 : decode b_Law_law 56 = .ok (.arraylength, 1) := by decide +kernel
theorem d_Law_law_57 : decode b_Law_law 57 = .ok (.bipush 6, 2) := by decide +kernel
theorem d_Law_law_59 : decode b_Law_law 59 = .ok (.isub, 1) := by decide +kernel
theorem d_Law_law_60 : decode b_Law_law 60 = .ok (.if_icmp .gt 1193, 3) := by decide +kernel
theorem d_Law_law_63 : decode b_Law_law 63 = .ok (.aload_n 0, 1) := by decide +kernel
theorem d_Law_law_64 : decode b_Law_law 64 = .ok (.iload 4, 2) := by decide +kernel
theorem d_Law_law_66 : decode b_Law_law 66 = .ok (.iaload, 1) := by decide +kernel
theorem d_Law_law_67 : decode b_Law_law 67 = .ok (.bipush 31, 2) := by decide +kernel
theorem d_Law_law_69 : decode b_Law_law 69 = .ok (.iand, 1) := by decide +kernel
theorem d_Law_law_70 : decode b_Law_law 70 = .ok (.tableswitch 1177 0 18 #[90, 146, 214, 277, 325, 388, 451, 555, 611, 667, 735, 798, 811, 867, 880, 948, 1016, 1096, 1164], 90) := by decide +kernel
theorem d_Law_law_160 : decode b_Law_law 160 = .ok (.aload_n 1, 1) := by decide +kernel
theorem d_Law_law_161 : decode b_Law_law 161 = .ok (.aload_n 0, 1) := by decide +kernel
theorem d_Law_law_162 : decode b_Law_law 162 = .ok (.iload 4, 2) := by decide +kernel
theorem d_Law_law_164 : decode b_Law_law 164 = .ok (.iconst 1, 1) := by decide +kernel
theorem d_Law_law_165 : decode b_Law_law 165 = .ok (.iadd, 1) := by decide +kernel
theorem d_Law_law_166 : decode b_Law_law 166 = .ok (.iaload, 1) := by decide +kernel
theorem d_Law_law_167 : decode b_Law_law 167 = .ok (.aload_n 3, 1) := by decide +kernel
theorem d_Law_law_168 : decode b_Law_law 168 = .ok (.invokestatic 77, 3) := by decide +kernel
theorem d_Law_law_171 : decode b_Law_law 171 = .ok (.istore 5, 2) := by decide +kernel
theorem d_Law_law_173 : decode b_Law_law 173 = .ok (.aload_n 2, 1) := by decide +kernel
theorem d_Law_law_174 : decode b_Law_law 174 = .ok (.aload_n 0, 1) := by decide +kernel
theorem d_Law_law_175 : decode b_Law_law 175 = .ok (.iload 4, 2) := by decide +kernel
theorem d_Law_law_177 : decode b_Law_law 177 = .ok (.iconst 1, 1) := by decide +kernel
theorem d_Law_law_178 : decode b_Law_law 178 = .ok (.iadd, 1) := by decide +kernel
theorem d_Law_law_179 : decode b_Law_law 179 = .ok (.iaload, 1) := by decide +kernel
theorem d_Law_law_180 : decode b_Law_law 180 = .ok (.invokevirtual 80, 3) := by decide +kernel
theorem d_Law_law_183 : decode b_Law_law 183 = .ok (.istore 6, 2) := by decide +kernel
theorem d_Law_law_185 : decode b_Law_law 185 = .ok (.aload_n 2, 1) := by decide +kernel
theorem d_Law_law_186 : decode b_Law_law 186 = .ok (.invokevirtual 81, 3) := by decide +kernel
theorem d_Law_law_189 : decode b_Law_law 189 = .ok (.iload 5, 2) := by decide +kernel
theorem d_Law_law_191 : decode b_Law_law 191 = .ok (.if_icmp .eq 5, 3) := by decide +kernel
theorem d_Law_law_194 : decode b_Law_law 194 = .ok (.iconst 0, 1) := by decide +kernel
theorem d_Law_law_195 : decode b_Law_law 195 = .ok (.ireturn, 1) := by decide +kernel
theorem d_Law_law_196 : decode b_Law_law 196 = .ok (.iload 5, 2) := by decide +kernel
theorem d_Law_law_198 : decode b_Law_law 198 = .ok (.ifCond .ne 15, 3) := by decide +kernel
theorem d_Law_law_201 : decode b_Law_law 201 = .ok (.aload_n 3, 1) := by decide +kernel
theorem d_Law_law_202 : decode b_Law_law 202 = .ok (.iconst 0, 1) := by decide +kernel
theorem d_Law_law_203 : decode b_Law_law 203 = .ok (.laload, 1) := by decide +kernel
theorem d_Law_law_204 : decode b_Law_law 204 = .ok (.iload 6, 2) := by decide +kernel
theorem d_Law_law_206 : decode b_Law_law 206 = .ok (.i2l, 1) := by decide +kernel
theorem d_Law_law_207 : decode b_Law_law 207 = .ok (.lcmp, 1) := by decide +kernel
theorem d_Law_law_208 : decode b_Law_law 208 = .ok (.ifCond .eq 5, 3) := by decide +kernel
theorem d_Law_law_211 : decode b_Law_law 211 = .ok (.iconst 0, 1) := by decide +kernel
theorem d_Law_law_212 : decode b_Law_law 212 = .ok (.ireturn, 1) := by decide +kernel
theorem d_Law_law_213 : decode b_Law_law 213 = .ok (.goto 1034, 3) := by decide +kernel
theorem d_Law_law_216 : decode b_Law_law 216 = .ok (.aload_n 1, 1) := by decide +kernel
theorem d_Law_law_217 : decode b_Law_law 217 = .ok (.aload_n 0, 1) := by decide +kernel
theorem d_Law_law_218 : decode b_Law_law 218 = .ok (.iload 4, 2) := by decide +kernel
theorem d_Law_law_220 : decode b_Law_law 220 = .ok (.iconst 1, 1) := by decide +kernel
theorem d_Law_law_221 : decode b_Law_law 221 = .ok (.iadd, 1) := by decide +kernel
theorem d_Law_law_222 : decode b_Law_law 222 = .ok (.iaload, 1) := by decide +kernel
theorem d_Law_law_223 : decode b_Law_law 223 = .ok (.aload_n 0, 1) := by decide +kernel
theorem d_Law_law_224 : decode b_Law_law 224 = .ok (.iload 4, 2) := by decide +kernel
theorem d_Law_law_226 : decode b_Law_law 226 = .ok (.iconst 2, 1) := by decide +kernel
theorem d_Law_law_227 : decode b_Law_law 227 = .ok (.iadd, 1) := by decide +kernel
theorem d_Law_law_228 : decode b_Law_law 228 = .ok (.iaload, 1) := by decide +kernel
theorem d_Law_law_229 : decode b_Law_law 229 = .ok (.aload_n 3, 1) := by decide +kernel
theorem d_Law_law_230 : decode b_Law_law 230 = .ok (.invokestatic 85, 3) := by decide +kernel
theorem d_Law_law_233 : decode b_Law_law 233 = .ok (.istore 5, 2) := by decide +kernel
theorem d_Law_law_235 : decode b_Law_law 235 = .ok (.aload_n 2, 1) := by decide +kernel
theorem d_Law_law_236 : decode b_Law_law 236 = .ok (.aload_n 0, 1) := by decide +kernel
theorem d_Law_law_237 : decode b_Law_law 237 = .ok (.iload 4, 2) := by decide +kernel
theorem d_Law_law_239 : decode b_Law_law 239 = .ok (.iconst 1, 1) := by decide +kernel
theorem d_Law_law_240 : decode b_Law_law 240 = .ok (.iadd, 1) := by decide +kernel
theorem d_Law_law_241 : decode b_Law_law 241 = .ok (.iaload, 1) := by decide +kernel
theorem d_Law_law_242 : decode b_Law_law 242 = .ok (.aload_n 0, 1) := by decide +kernel
theorem d_Law_law_243 : decode b_Law_law 243 = .ok (.iload 4, 2) := by decide +kernel
theorem d_Law_law_245 : decode b_Law_law 245 = .ok (.iconst 2, 1) := by decide +kernel
theorem d_Law_law_246 : decode b_Law_law 246 = .ok (.iadd, 1) := by decide +kernel
theorem d_Law_law_247 : decode b_Law_law 247 = .ok (.iaload, 1) := by decide +kernel
theorem d_Law_law_248 : decode b_Law_law 248 = .ok (.invokevirtual 88, 3) := by decide +kernel
theorem d_Law_law_251 : decode b_Law_law 251 = .ok (.istore 6, 2) := by decide +kernel
theorem d_Law_law_253 : decode b_Law_law 253 = .ok (.aload_n 2, 1) := by decide +kernel
theorem d_Law_law_254 : decode b_Law_law 254 = .ok (.invokevirtual 81, 3) := by decide +kernel
theorem d_Law_law_257 : decode b_Law_law 257 = .ok (.iload 5, 2) := by decide +kernel
theorem d_Law_law_259 : decode b_Law_law 259 = .ok (.if_icmp .eq 5, 3) := by decide +kernel
theorem d_Law_law_262 : decode b_Law_law 262 = .ok (.iconst 0, 1) := by decide +kernel
theorem d_Law_law_263 : decode b_Law_law 263 = .ok (.ireturn, 1) := by decide +kernel
theorem d_Law_law_264 : decode b_Law_law 264 = .ok (.iload 5, 2) := by decide +kernel
theorem d_Law_law_266 : decode b_Law_law 266 = .ok (.ifCond .ne 15, 3) := by decide +kernel
theorem d_Law_law_269 : decode b_Law_law 269 = .ok (.aload_n 3, 1) := by decide +kernel
theorem d_Law_law_270 : decode b_Law_law 270 = .ok (.iconst 0, 1) := by decide +kernel
theorem d_Law_law_271 : decode b_Law_law 271 = .ok (.laload, 1) := by decide +kernel
theorem d_Law_law_272 : decode b_Law_law 272 = .ok (.iload 6, 2) := by decide +kernel
theorem d_Law_law_274 : decode b_Law_law 274 = .ok (.i2l, 1) := by decide +kernel
theorem d_Law_law_275 : decode b_Law_law 275 = .ok (.lcmp, 1) := by decide +kernel
theorem d_Law_law_276 : decode b_Law_law 276 = .ok (.ifCond .eq 5, 3) := by decide +kernel
theorem d_Law_law_279 : decode b_Law_law 279 = .ok (.iconst 0, 1) := by decide +kernel
theorem d_Law_law_280 : decode b_Law_law 280 = .ok (.ireturn, 1) := by decide +kernel
theorem d_Law_law_281 : decode b_Law_law 281 = .ok (.goto 966, 3) := by decide +kernel
theorem d_Law_law_284 : decode b_Law_law 284 = .ok (.aload_n 1, 1) := by decide +kernel
theorem d_Law_law_285 : decode b_Law_law 285 = .ok (.aload_n 0, 1) := by decide +kernel
theorem d_Law_law_286 : decode b_Law_law 286 = .ok (.iload 4, 2) := by decide +kernel
theorem d_Law_law_288 : decode b_Law_law 288 = .ok (.iconst 1, 1) := by decide +kernel
theorem d_Law_law_289 : decode b_Law_law 289 = .ok (.iadd, 1) := by decide +kernel
theorem d_Law_law_290 : decode b_Law_law 290 = .ok (.iaload, 1) := by decide +kernel
theorem d_Law_law_291 : decode b_Law_law 291 = .ok (.aload_n 3, 1) := by decide +kernel
theorem d_Law_law_292 : decode b_Law_law 292 = .ok (.invokestatic 89, 3) := by decide +kernel
theorem d_Law_law_295 : decode b_Law_law 295 = .ok (.istore 5, 2) := by decide +kernel
theorem d_Law_law_297 : decode b_Law_law 297 = .ok (.aload_n 2, 1) := by decide +kernel
theorem d_Law_law_298 : decode b_Law_law 298 = .ok (.aload_n 0, 1) := by decide +kernel
theorem d_Law_law_299 : decode b_Law_law 299 = .ok (.iload 4, 2) := by decide +kernel
theorem d_Law_law_301 : decode b_Law_law 301 = .ok (.iconst 1, 1) := by decide +kernel
theorem d_Law_law_302 : decode b_Law_law 302 = .ok (.iadd, 1) := by decide +kernel
theorem d_Law_law_303 : decode b_Law_law 303 = .ok (.iaload, 1) := by decide +kernel
theorem d_Law_law_304 : decode b_Law_law 304 = .ok (.invokevirtual 91, 3) := by decide +kernel
theorem d_Law_law_307 : decode b_Law_law 307 = .ok (.istore 6, 2) := by decide +kernel
theorem d_Law_law_309 : decode b_Law_law 309 = .ok (.aload_n 2, 1) := by decide +kernel
theorem d_Law_law_310 : decode b_Law_law 310 = .ok (.invokevirtual 81, 3) := by decide +kernel
theorem d_Law_law_313 : decode b_Law_law 313 = .ok (.iload 5, 2) := by decide +kernel
theorem d_Law_law_315 : decode b_Law_law 315 = .ok (.if_icmp .eq 5, 3) := by decide +kernel
theorem d_Law_law_318 : decode b_Law_law 318 = .ok (.iconst 0, 1) := by decide +kernel
theorem d_Law_law_319 : decode b_Law_law 319 = .ok (.ireturn, 1) := by decide +kernel
theorem d_Law_law_320 : decode b_Law_law 320 = .ok (.iload 5, 2) := by decide +kernel
theorem d_Law_law_322 : decode b_Law_law 322 = .ok (.ifCond .ne 22, 3) := by decide +kernel
theorem d_Law_law_325 : decode b_Law_law 325 = .ok (.aload_n 3, 1) := by decide +kernel
theorem d_Law_law_326 : decode b_Law_law 326 = .ok (.iconst 0, 1) := by decide +kernel
theorem d_Law_law_327 : decode b_Law_law 327 = .ok (.laload, 1) := by decide +kernel
theorem d_Law_law_328 : decode b_Law_law 328 = .ok (.iload 6, 2) := by decide +kernel
theorem d_Law_law_330 : decode b_Law_law 330 = .ok (.ifCond .eq 7, 3) := by decide +kernel
theorem d_Law_law_333 : decode b_Law_law 333 = .ok (.lconst 1, 1) := by decide +kernel
theorem d_Law_law_334 : decode b_Law_law 334 = .ok (.goto 4, 3) := by decide +kernel
theorem d_Law_law_337 : decode b_Law_law 337 = .ok (.lconst 0, 1) := by decide +kernel
theorem d_Law_law_338 : decode b_Law_law 338 = .ok (.lcmp, 1) := by decide +kernel
theorem d_Law_law_339 : decode b_Law_law 339 = .ok (.ifCond .eq 5, 3) := by decide +kernel
theorem d_Law_law_342 : decode b_Law_law 342 = .ok (.iconst 0, 1) := by decide +kernel
theorem d_Law_law_343 : decode b_Law_law 343 = .ok (.ireturn, 1) := by decide +kernel
theorem d_Law_law_344 : decode b_Law_law 344 = .ok (.goto 903, 3) := by decide +kernel
theorem d_Law_law_347 : decode b_Law_law 347 = .ok (.aload_n 1, 1) := by decide +kernel
theorem d_Law_law_348 : decode b_Law_law 348 = .ok (.aload_n 0, 1) := by decide +kernel
theorem d_Law_law_349 : decode b_Law_law 349 = .ok (.iload 4, 2) := by decide +kernel
theorem d_Law_law_351 : decode b_Law_law 351 = .ok (.iconst 1, 1) := by decide +kernel
theorem d_Law_law_352 : decode b_Law_law 352 = .ok (.iadd, 1) := by decide +kernel
theorem d_Law_law_353 : decode b_Law_law 353 = .ok (.iaload, 1) := by decide +kernel
theorem d_Law_law_354 : decode b_Law_law 354 = .ok (.aload_n 0, 1) := by decide +kernel
theorem d_Law_law_355 : decode b_Law_law 355 = .ok (.iload 4, 2) := by decide +kernel
theorem d_Law_law_357 : decode b_Law_law 357 = .ok (.iconst 2, 1) := by decide +kernel
theorem d_Law_law_358 : decode b_Law_law 358 = .ok (.iadd, 1) := by decide +kernel
theorem d_Law_law_359 : decode b_Law_law 359 = .ok (.iaload, 1) := by decide +kernel
theorem d_Law_law_360 : decode b_Law_law 360 = .ok (.invokestatic 92, 3) := by decide +kernel
theorem d_Law_law_363 : decode b_Law_law 363 = .ok (.istore 5, 2) := by decide +kernel
theorem d_Law_law_365 : decode b_Law_law 365 = .ok (.aload_n 2, 1) := by decide +kernel
theorem d_Law_law_366 : decode b_Law_law 366 = .ok (.aload_n 0, 1) := by decide +kernel
theorem d_Law_law_367 : decode b_Law_law 367 = .ok (.iload 4, 2) := by decide +kernel
theorem d_Law_law_369 : decode b_Law_law 369 = .ok (.iconst 1, 1) := by decide +kernel
theorem d_Law_law_370 : decode b_Law_law 370 = .ok (.iadd, 1) := by decide +kernel
theorem d_Law_law_371 : decode b_Law_law 371 = .ok (.iaload, 1) := by decide +kernel
theorem d_Law_law_372 : decode b_Law_law 372 = .ok (.aload_n 0, 1) := by decide +kernel
theorem d_Law_law_373 : decode b_Law_law 373 = .ok (.iload 4, 2) := by decide +kernel
theorem d_Law_law_375 : decode b_Law_law 375 = .ok (.iconst 2, 1) := by decide +kernel
theorem d_Law_law_376 : decode b_Law_law 376 = .ok (.iadd, 1) := by decide +kernel
theorem d_Law_law_377 : decode b_Law_law 377 = .ok (.iaload, 1) := by decide +kernel
theorem d_Law_law_378 : decode b_Law_law 378 = .ok (.invokevirtual 95, 3) := by decide +kernel
theorem d_Law_law_381 : decode b_Law_law 381 = .ok (.aload_n 2, 1) := by decide +kernel
theorem d_Law_law_382 : decode b_Law_law 382 = .ok (.invokevirtual 81, 3) := by decide +kernel
theorem d_Law_law_385 : decode b_Law_law 385 = .ok (.iload 5, 2) := by decide +kernel
theorem d_Law_law_387 : decode b_Law_law 387 = .ok (.if_icmp .eq 5, 3) := by decide +kernel
theorem d_Law_law_390 : decode b_Law_law 390 = .ok (.iconst 0, 1) := by decide +kernel
theorem d_Law_law_391 : decode b_Law_law 391 = .ok (.ireturn, 1) := by decide +kernel
theorem d_Law_law_392 : decode b_Law_law 392 = .ok (.goto 855, 3) := by decide +kernel
theorem d_Law_law_395 : decode b_Law_law 395 = .ok (.aload_n 1, 1) := by decide +kernel
theorem d_Law_law_396 : decode b_Law_law 396 = .ok (.aload_n 0, 1) := by decide +kernel
theorem d_Law_law_397 : decode b_Law_law 397 = .ok (.iload 4, 2) := by decide +kernel
theorem d_Law_law_399 : decode b_Law_law 399 = .ok (.iconst 1, 1) := by decide +kernel
theorem d_Law_law_400 : decode b_Law_law 400 = .ok (.iadd, 1) := by decide +kernel
theorem d_Law_law_401 : decode b_Law_law 401 = .ok (.iaload, 1) := by decide +kernel
theorem d_Law_law_402 : decode b_Law_law 402 = .ok (.aload_n 3, 1) := by decide +kernel
theorem d_Law_law_403 : decode b_Law_law 403 = .ok (.invokestatic 96, 3) := by decide +kernel
theorem d_Law_law_406 : decode b_Law_law 406 = .ok (.istore 5, 2) := by decide +kernel
theorem d_Law_law_408 : decode b_Law_law 408 = .ok (.aload_n 2, 1) := by decide +kernel
theorem d_Law_law_409 : decode b_Law_law 409 = .ok (.aload_n 0, 1) := by decide +kernel
theorem d_Law_law_410 : decode b_Law_law 410 = .ok (.iload 4, 2) := by decide +kernel
theorem d_Law_law_412 : decode b_Law_law 412 = .ok (.iconst 1, 1) := by decide +kernel
theorem d_Law_law_413 : decode b_Law_law 413 = .ok (.iadd, 1) := by decide +kernel
theorem d_Law_law_414 : decode b_Law_law 414 = .ok (.iaload, 1) := by decide +kernel
theorem d_Law_law_415 : decode b_Law_law 415 = .ok (.invokevirtual 98, 3) := by decide +kernel
theorem d_Law_law_418 : decode b_Law_law 418 = .ok (.istore 6, 2) := by decide +kernel
theorem d_Law_law_420 : decode b_Law_law 420 = .ok (.aload_n 2, 1) := by decide +kernel
theorem d_Law_law_421 : decode b_Law_law 421 = .ok (.invokevirtual 81, 3) := by decide +kernel
theorem d_Law_law_424 : decode b_Law_law 424 = .ok (.iload 5, 2) := by decide +kernel
theorem d_Law_law_426 : decode b_Law_law 426 = .ok (.if_icmp .eq 5, 3) := by decide +kernel
theorem d_Law_law_429 : decode b_Law_law 429 = .ok (.iconst 0, 1) := by decide +kernel
theorem d_Law_law_430 : decode b_Law_law 430 = .ok (.ireturn, 1) := by decide +kernel
theorem d_Law_law_431 : decode b_Law_law 431 = .ok (.iload 5, 2) := by decide +kernel
theorem d_Law_law_433 : decode b_Law_law 433 = .ok (.ifCond .ne 22, 3) := by decide +kernel
theorem d_Law_law_436 : decode b_Law_law 436 = .ok (.aload_n 3, 1) := by decide +kernel
theorem d_Law_law_437 : decode b_Law_law 437 = .ok (.iconst 0, 1) := by decide +kernel
theorem d_Law_law_438 : decode b_Law_law 438 = .ok (.laload, 1) := by decide +kernel
theorem d_Law_law_439 : decode b_Law_law 439 = .ok (.iload 6, 2) := by decide +kernel
theorem d_Law_law_441 : decode b_Law_law 441 = .ok (.ifCond .eq 7, 3) := by decide +kernel
theorem d_Law_law_444 : decode b_Law_law 444 = .ok (.lconst 1, 1) := by decide +kernel
theorem d_Law_law_445 : decode b_Law_law 445 = .ok (.goto 4, 3) := by decide +kernel
theorem d_Law_law_448 : decode b_Law_law 448 = .ok (.lconst 0, 1) := by decide +kernel
theorem d_Law_law_449 : decode b_Law_law 449 = .ok (.lcmp, 1) := by decide +kernel
theorem d_Law_law_450 : decode b_Law_law 450 = .ok (.ifCond .eq 5, 3) := by decide +kernel
theorem d_Law_law_453 : decode b_Law_law 453 = .ok (.iconst 0, 1) := by decide +kernel
theorem d_Law_law_454 : decode b_Law_law 454 = .ok (.ireturn, 1) := by decide +kernel
theorem d_Law_law_455 : decode b_Law_law 455 = .ok (.goto 792, 3) := by decide +kernel
theorem d_Law_law_458 : decode b_Law_law 458 = .ok (.aload_n 1, 1) := by decide +kernel
theorem d_Law_law_459 : decode b_Law_law 459 = .ok (.aload_n 0, 1) := by decide +kernel
theorem d_Law_law_460 : decode b_Law_law 460 = .ok (.iload 4, 2) := by decide +kernel
theorem d_Law_law_462 : decode b_Law_law 462 = .ok (.iconst 1, 1) := by decide +kernel
theorem d_Law_law_463 : decode b_Law_law 463 = .ok (.iadd, 1) := by decide +kernel
theorem d_Law_law_464 : decode b_Law_law 464 = .ok (.iaload, 1) := by decide +kernel
theorem d_Law_law_465 : decode b_Law_law 465 = .ok (.aload_n 3, 1) := by decide +kernel
theorem d_Law_law_466 : decode b_Law_law 466 = .ok (.invokestatic 99, 3) := by decide +kernel
theorem d_Law_law_469 : decode b_Law_law 469 = .ok (.istore 5, 2) := by decide +kernel
theorem d_Law_law_471 : decode b_Law_law 471 = .ok (.aload_n 2, 1) := by decide +kernel
theorem d_Law_law_472 : decode b_Law_law 472 = .ok (.aload_n 0, 1) := by decide +kernel
theorem d_Law_law_473 : decode b_Law_law 473 = .ok (.iload 4, 2) := by decide +kernel
theorem d_Law_law_475 : decode b_Law_law 475 = .ok (.iconst 1, 1) := by decide +kernel
theorem d_Law_law_476 : decode b_Law_law 476 = .ok (.iadd, 1) := by decide +kernel
theorem d_Law_law_477 : decode b_Law_law 477 = .ok (.iaload, 1) := by decide +kernel
theorem d_Law_law_478 : decode b_Law_law 478 = .ok (.invokevirtual 101, 3) := by decide +kernel
theorem d_Law_law_481 : decode b_Law_law 481 = .ok (.istore 6, 2) := by decide +kernel
theorem d_Law_law_483 : decode b_Law_law 483 = .ok (.aload_n 2, 1) := by decide +kernel
theorem d_Law_law_484 : decode b_Law_law 484 = .ok (.invokevirtual 81, 3) := by decide +kernel
theorem d_Law_law_487 : decode b_Law_law 487 = .ok (.iload 5, 2) := by decide +kernel
theorem d_Law_law_489 : decode b_Law_law 489 = .ok (.if_icmp .eq 5, 3) := by decide +kernel
theorem d_Law_law_492 : decode b_Law_law 492 = .ok (.iconst 0, 1) := by decide +kernel
theorem d_Law_law_493 : decode b_Law_law 493 = .ok (.ireturn, 1) := by decide +kernel
theorem d_Law_law_494 : decode b_Law_law 494 = .ok (.iload 5, 2) := by decide +kernel
theorem d_Law_law_496 : decode b_Law_law 496 = .ok (.ifCond .ne 22, 3) := by decide +kernel
theorem d_Law_law_499 : decode b_Law_law 499 = .ok (.aload_n 3, 1) := by decide +kernel
theorem d_Law_law_500 : decode b_Law_law 500 = .ok (.iconst 0, 1) := by decide +kernel
theorem d_Law_law_501 : decode b_Law_law 501 = .ok (.laload, 1) := by decide +kernel
theorem d_Law_law_502 : decode b_Law_law 502 = .ok (.iload 6, 2) := by decide +kernel
theorem d_Law_law_504 : decode b_Law_law 504 = .ok (.ifCond .eq 7, 3) := by decide +kernel
theorem d_Law_law_507 : decode b_Law_law 507 = .ok (.lconst 1, 1) := by decide +kernel
theorem d_Law_law_508 : decode b_Law_law 508 = .ok (.goto 4, 3) := by decide +kernel
theorem d_Law_law_511 : decode b_Law_law 511 = .ok (.lconst 0, 1) := by decide +kernel
theorem d_Law_law_512 : decode b_Law_law 512 = .ok (.lcmp, 1) := by decide +kernel
theorem d_Law_law_513 : decode b_Law_law 513 = .ok (.ifCond .eq 5, 3) := by decide +kernel
theorem d_Law_law_516 : decode b_Law_law 516 = .ok (.iconst 0, 1) := by decide +kernel
theorem d_Law_law_517 : decode b_Law_law 517 = .ok (.ireturn, 1) := by decide +kernel
theorem d_Law_law_518 : decode b_Law_law 518 = .ok (.goto 729, 3) := by decide +kernel
theorem d_Law_law_521 : decode b_Law_law 521 = .ok (.aload_n 1, 1) := by decide +kernel
theorem d_Law_law_522 : decode b_Law_law 522 = .ok (.aload_n 0, 1) := by decide +kernel
theorem d_Law_law_523 : decode b_Law_law 523 = .ok (.iload 4, 2) := by decide +kernel
theorem d_Law_law_525 : decode b_Law_law 525 = .ok (.iconst 1, 1) := by decide +kernel
theorem d_Law_law_526 : decode b_Law_law 526 = .ok (.iadd, 1) := by decide +kernel
theorem d_Law_law_527 : decode b_Law_law 527 = .ok (.iaload, 1) := by decide +kernel
theorem d_Law_law_528 : decode b_Law_law 528 = .ok (.aload_n 0, 1) := by decide +kernel
theorem d_Law_law_529 : decode b_Law_law 529 = .ok (.iload 4, 2) := by decide +kernel
theorem d_Law_law_531 : decode b_Law_law 531 = .ok (.iconst 2, 1) := by decide +kernel
theorem d_Law_law_532 : decode b_Law_law 532 = .ok (.iadd, 1) := by decide +kernel
theorem d_Law_law_533 : decode b_Law_law 533 = .ok (.iaload, 1) := by decide +kernel
theorem d_Law_law_534 : decode b_Law_law 534 = .ok (.aload_n 0, 1) := by decide +kernel
theorem d_Law_law_535 : decode b_Law_law 535 = .ok (.iload 4, 2) := by decide +kernel
theorem d_Law_law_537 : decode b_Law_law 537 = .ok (.iconst 3, 1) := by decide +kernel
theorem d_Law_law_538 : decode b_Law_law 538 = .ok (.iadd, 1) := by decide +kernel
theorem d_Law_law_539 : decode b_Law_law 539 = .ok (.iaload, 1) := by decide +kernel
theorem d_Law_law_540 : decode b_Law_law 540 = .ok (.aload_n 0, 1) := by decide +kernel
theorem d_Law_law_541 : decode b_Law_law 541 = .ok (.iload 4, 2) := by decide +kernel
theorem d_Law_law_543 : decode b_Law_law 543 = .ok (.iconst 4, 1) := by decide +kernel
theorem d_Law_law_544 : decode b_Law_law 544 = .ok (.iadd, 1) := by decide +kernel
theorem d_Law_law_545 : decode b_Law_law 545 = .ok (.iaload, 1) := by decide +kernel
theorem d_Law_law_546 : decode b_Law_law 546 = .ok (.aload_n 0, 1) := by decide +kernel
theorem d_Law_law_547 : decode b_Law_law 547 = .ok (.iload 4, 2) := by decide +kernel
theorem d_Law_law_549 : decode b_Law_law 549 = .ok (.iconst 5, 1) := by decide +kernel
theorem d_Law_law_550 : decode b_Law_law 550 = .ok (.iadd, 1) := by decide +kernel
theorem d_Law_law_551 : decode b_Law_law 551 = .ok (.iaload, 1) := by decide +kernel
theorem d_Law_law_552 : decode b_Law_law 552 = .ok (.aload_n 3, 1) := by decide +kernel
theorem d_Law_law_553 : decode b_Law_law 553 = .ok (.invokestatic 102, 3) := by decide +kernel
theorem d_Law_law_556 : decode b_Law_law 556 = .ok (.istore 5, 2) := by decide +kernel
theorem d_Law_law_558 : decode b_Law_law 558 = .ok (.aload_n 2, 1) := by decide +kernel
theorem d_Law_law_559 : decode b_Law_law 559 = .ok (.aload_n 0, 1) := by decide +kernel
theorem d_Law_law_560 : decode b_Law_law 560 = .ok (.iload 4, 2) := by decide +kernel
theorem d_Law_law_562 : decode b_Law_law 562 = .ok (.iconst 1, 1) := by decide +kernel
theorem d_Law_law_563 : decode b_Law_law 563 = .ok (.iadd, 1) := by decide +kernel
theorem d_Law_law_564 : decode b_Law_law 564 = .ok (.iaload, 1) := by decide +kernel
theorem d_Law_law_565 : decode b_Law_law 565 = .ok (.aload_n 0, 1) := by decide +kernel
theorem d_Law_law_566 : decode b_Law_law 566 = .ok (.iload 4, 2) := by decide +kernel
theorem d_Law_law_568 : decode b_Law_law 568 = .ok (.iconst 2, 1) := by decide +kernel
theorem d_Law_law_569 : decode b_Law_law 569 = .ok (.iadd, 1) := by decide +kernel
theorem d_Law_law_570 : decode b_Law_law 570 = .ok (.iaload, 1) := by decide +kernel
theorem d_Law_law_571 : decode b_Law_law 571 = .ok (.aload_n 0, 1) := by decide +kernel
theorem d_Law_law_572 : decode b_Law_law 572 = .ok (.iload 4, 2) := by decide +kernel
theorem d_Law_law_574 : decode b_Law_law 574 = .ok (.iconst 3, 1) := by decide +kernel
theorem d_Law_law_575 : decode b_Law_law 575 = .ok (.iadd, 1) := by decide +kernel
theorem d_Law_law_576 : decode b_Law_law 576 = .ok (.iaload, 1) := by decide +kernel
theorem d_Law_law_577 : decode b_Law_law 577 = .ok (.aload_n 0, 1) := by decide +kernel
theorem d_Law_law_578 : decode b_Law_law 578 = .ok (.iload 4, 2) := by decide +kernel
theorem d_Law_law_580 : decode b_Law_law 580 = .ok (.iconst 4, 1) := by decide +kernel
theorem d_Law_law_581 : decode b_Law_law 581 = .ok (.iadd, 1) := by decide +kernel
theorem d_Law_law_582 : decode b_Law_law 582 = .ok (.iaload, 1) := by decide +kernel
theorem d_Law_law_583 : decode b_Law_law 583 = .ok (.aload_n 0, 1) := by decide +kernel
theorem d_Law_law_584 : decode b_Law_law 584 = .ok (.iload 4, 2) := by decide +kernel
theorem d_Law_law_586 : decode b_Law_law 586 = .ok (.iconst 5, 1) := by decide +kernel
theorem d_Law_law_587 : decode b_Law_law 587 = .ok (.iadd, 1) := by decide +kernel
theorem d_Law_law_588 : decode b_Law_law 588 = .ok (.iaload, 1) := by decide +kernel
theorem d_Law_law_589 : decode b_Law_law 589 = .ok (.invokevirtual 105, 3) := by decide +kernel
theorem d_Law_law_592 : decode b_Law_law 592 = .ok (.istore 6, 2) := by decide +kernel
theorem d_Law_law_594 : decode b_Law_law 594 = .ok (.aload_n 2, 1) := by decide +kernel
theorem d_Law_law_595 : decode b_Law_law 595 = .ok (.invokevirtual 81, 3) := by decide +kernel
theorem d_Law_law_598 : decode b_Law_law 598 = .ok (.iload 5, 2) := by decide +kernel
theorem d_Law_law_600 : decode b_Law_law 600 = .ok (.if_icmp .eq 5, 3) := by decide +kernel
theorem d_Law_law_603 : decode b_Law_law 603 = .ok (.iconst 0, 1) := by decide +kernel
theorem d_Law_law_604 : decode b_Law_law 604 = .ok (.ireturn, 1) := by decide +kernel
theorem d_Law_law_605 : decode b_Law_law 605 = .ok (.iload 5, 2) := by decide +kernel
theorem d_Law_law_607 : decode b_Law_law 607 = .ok (.ifCond .ne 15, 3) := by decide +kernel
theorem d_Law_law_610 : decode b_Law_law 610 = .ok (.aload_n 3, 1) := by decide +kernel
theorem d_Law_law_611 : decode b_Law_law 611 = .ok (.iconst 0, 1) := by decide +kernel
theorem d_Law_law_612 : decode b_Law_law 612 = .ok (.laload, 1) := by decide +kernel
theorem d_Law_law_613 : decode b_Law_law 613 = .ok (.iload 6, 2) := by decide +kernel
theorem d_Law_law_615 : decode b_Law_law 615 = .ok (.i2l, 1) := by decide +kernel
theorem d_Law_law_616 : decode b_Law_law 616 = .ok (.lcmp, 1) := by decide +kernel
theorem d_Law_law_617 : decode b_Law_law 617 = .ok (.ifCond .eq 5, 3) := by decide +kernel
theorem d_Law_law_620 : decode b_Law_law 620 = .ok (.iconst 0, 1) := by decide +kernel
theorem d_Law_law_621 : decode b_Law_law 621 = .ok (.ireturn, 1) := by decide +kernel
theorem d_Law_law_622 : decode b_Law_law 622 = .ok (.goto 625, 3) := by decide +kernel
theorem d_Law_law_625 : decode b_Law_law 625 = .ok (.aload_n 1, 1) := by decide +kernel
theorem d_Law_law_626 : decode b_Law_law 626 = .ok (.aload_n 0, 1) := by decide +kernel
theorem d_Law_law_627 : decode b_Law_law 627 = .ok (.iload 4, 2) := by decide +kernel
theorem d_Law_law_629 : decode b_Law_law 629 = .ok (.iconst 1, 1) := by decide +kernel
theorem d_Law_law_630 : decode b_Law_law 630 = .ok (.iadd, 1) := by decide +kernel
theorem d_Law_law_631 : decode b_Law_law 631 = .ok (.iaload, 1) := by decide +kernel
theorem d_Law_law_632 : decode b_Law_law 632 = .ok (.aload_n 3, 1) := by decide +kernel
theorem d_Law_law_633 : decode b_Law_law 633 = .ok (.invokestatic 106, 3) := by decide +kernel
theorem d_Law_law_636 : decode b_Law_law 636 = .ok (.istore 5, 2) := by decide +kernel
theorem d_Law_law_638 : decode b_Law_law 638 = .ok (.aload_n 2, 1) := by decide +kernel
theorem d_Law_law_639 : decode b_Law_law 639 = .ok (.aload_n 0, 1) := by decide +kernel
theorem d_Law_law_640 : decode b_Law_law 640 = .ok (.iload 4, 2) := by decide +kernel
theorem d_Law_law_642 : decode b_Law_law 642 = .ok (.iconst 1, 1) := by decide +kernel
theorem d_Law_law_643 : decode b_Law_law 643 = .ok (.iadd, 1) := by decide +kernel
theorem d_Law_law_644 : decode b_Law_law 644 = .ok (.iaload, 1) := by decide +kernel
theorem d_Law_law_645 : decode b_Law_law 645 = .ok (.invokevirtual 108, 3) := by decide +kernel
theorem d_Law_law_648 : decode b_Law_law 648 = .ok (.istore 6, 2) := by decide +kernel
theorem d_Law_law_650 : decode b_Law_law 650 = .ok (.aload_n 2, 1) := by decide +kernel
theorem d_Law_law_651 : decode b_Law_law 651 = .ok (.invokevirtual 81, 3) := by decide +kernel
theorem d_Law_law_654 : decode b_Law_law 654 = .ok (.iload 5, 2) := by decide +kernel
theorem d_Law_law_656 : decode b_Law_law 656 = .ok (.if_icmp .eq 5, 3) := by decide +kernel
theorem d_Law_law_659 : decode b_Law_law 659 = .ok (.iconst 0, 1) := by decide +kernel
theorem d_Law_law_660 : decode b_Law_law 660 = .ok (.ireturn, 1) := by decide +kernel
theorem d_Law_law_661 : decode b_Law_law 661 = .ok (.iload 5, 2) := by decide +kernel
theorem d_Law_law_663 : decode b_Law_law 663 = .ok (.ifCond .ne 15, 3) := by decide +kernel
theorem d_Law_law_666 : decode b_Law_law 666 = .ok (.aload_n 3, 1) := by decide +kernel
theorem d_Law_law_667 : decode b_Law_law 667 = .ok (.iconst 0, 1) := by decide +kernel
theorem d_Law_law_668 : decode b_Law_law 668 = .ok (.laload, 1) := by decide +kernel
theorem d_Law_law_669 : decode b_Law_law 669 = .ok (.iload 6, 2) := by decide +kernel
theorem d_Law_law_671 : decode b_Law_law 671 = .ok (.i2l, 1) := by decide +kernel
theorem d_Law_law_672 : decode b_Law_law 672 = .ok (.lcmp, 1) := by decide +kernel
theorem d_Law_law_673 : decode b_Law_law 673 = .ok (.ifCond .eq 5, 3) := by decide +kernel
theorem d_Law_law_676 : decode b_Law_law 676 = .ok (.iconst 0, 1) := by decide +kernel
theorem d_Law_law_677 : decode b_Law_law 677 = .ok (.ireturn, 1) := by decide +kernel
theorem d_Law_law_678 : decode b_Law_law 678 = .ok (.goto 569, 3) := by decide +kernel
theorem d_Law_law_681 : decode b_Law_law 681 = .ok (.aload_n 1, 1) := by decide +kernel
theorem d_Law_law_682 : decode b_Law_law 682 = .ok (.aload_n 0, 1) := by decide +kernel
theorem d_Law_law_683 : decode b_Law_law 683 = .ok (.iload 4, 2) := by decide +kernel
theorem d_Law_law_685 : decode b_Law_law 685 = .ok (.iconst 1, 1) := by decide +kernel
theorem d_Law_law_686 : decode b_Law_law 686 = .ok (.iadd, 1) := by decide +kernel
theorem d_Law_law_687 : decode b_Law_law 687 = .ok (.iaload, 1) := by decide +kernel
theorem d_Law_law_688 : decode b_Law_law 688 = .ok (.aload_n 3, 1) := by decide +kernel
theorem d_Law_law_689 : decode b_Law_law 689 = .ok (.invokestatic 109, 3) := by decide +kernel
theorem d_Law_law_692 : decode b_Law_law 692 = .ok (.istore 5, 2) := by decide +kernel
theorem d_Law_law_694 : decode b_Law_law 694 = .ok (.aload_n 2, 1) := by decide +kernel
theorem d_Law_law_695 : decode b_Law_law 695 = .ok (.aload_n 0, 1) := by decide +kernel
theorem d_Law_law_696 : decode b_Law_law 696 = .ok (.iload 4, 2) := by decide +kernel
theorem d_Law_law_698 : decode b_Law_law 698 = .ok (.iconst 1, 1) := by decide +kernel
theorem d_Law_law_699 : decode b_Law_law 699 = .ok (.iadd, 1) := by decide +kernel
theorem d_Law_law_700 : decode b_Law_law 700 = .ok (.iaload, 1) := by decide +kernel
theorem d_Law_law_701 : decode b_Law_law 701 = .ok (.invokevirtual 111, 3) := by decide +kernel
theorem d_Law_law_704 : decode b_Law_law 704 = .ok (.istore 6, 2) := by decide +kernel
theorem d_Law_law_706 : decode b_Law_law 706 = .ok (.aload_n 2, 1) := by decide +kernel
theorem d_Law_law_707 : decode b_Law_law 707 = .ok (.invokevirtual 81, 3) := by decide +kernel
theorem d_Law_law_710 : decode b_Law_law 710 = .ok (.iload 5, 2) := by decide +kernel
theorem d_Law_law_712 : decode b_Law_law 712 = .ok (.if_icmp .eq 5, 3) := by decide +kernel
theorem d_Law_law_715 : decode b_Law_law 715 = .ok (.iconst 0, 1) := by decide +kernel
theorem d_Law_law_716 : decode b_Law_law 716 = .ok (.ireturn, 1) := by decide +kernel
theorem d_Law_law_717 : decode b_Law_law 717 = .ok (.iload 5, 2) := by decide +kernel
theorem d_Law_law_719 : decode b_Law_law 719 = .ok (.ifCond .ne 15, 3) := by decide +kernel
theorem d_Law_law_722 : decode b_Law_law 722 = .ok (.aload_n 3, 1) := by decide +kernel
theorem d_Law_law_723 : decode b_Law_law 723 = .ok (.iconst 0, 1) := by decide +kernel
theorem d_Law_law_724 : decode b_Law_law 724 = .ok (.laload, 1) := by decide +kernel
theorem d_Law_law_725 : decode b_Law_law 725 = .ok (.iload 6, 2) := by decide +kernel
theorem d_Law_law_727 : decode b_Law_law 727 = .ok (.i2l, 1) := by decide +kernel
theorem d_Law_law_728 : decode b_Law_law 728 = .ok (.lcmp, 1) := by decide +kernel
theorem d_Law_law_729 : decode b_Law_law 729 = .ok (.ifCond .eq 5, 3) := by decide +kernel
theorem d_Law_law_732 : decode b_Law_law 732 = .ok (.iconst 0, 1) := by decide +kernel
theorem d_Law_law_733 : decode b_Law_law 733 = .ok (.ireturn, 1) := by decide +kernel
theorem d_Law_law_734 : decode b_Law_law 734 = .ok (.goto 513, 3) := by decide +kernel
theorem d_Law_law_737 : decode b_Law_law 737 = .ok (.aload_n 1, 1) := by decide +kernel
theorem d_Law_law_738 : decode b_Law_law 738 = .ok (.aload_n 0, 1) := by decide +kernel
theorem d_Law_law_739 : decode b_Law_law 739 = .ok (.iload 4, 2) := by decide +kernel
theorem d_Law_law_741 : decode b_Law_law 741 = .ok (.iconst 1, 1) := by decide +kernel
theorem d_Law_law_742 : decode b_Law_law 742 = .ok (.iadd, 1) := by decide +kernel
theorem d_Law_law_743 : decode b_Law_law 743 = .ok (.iaload, 1) := by decide +kernel
theorem d_Law_law_744 : decode b_Law_law 744 = .ok (.aload_n 0, 1) := by decide +kernel
theorem d_Law_law_745 : decode b_Law_law 745 = .ok (.iload 4, 2) := by decide +kernel
theorem d_Law_law_747 : decode b_Law_law 747 = .ok (.iconst 2, 1) := by decide +kernel
theorem d_Law_law_748 : decode b_Law_law 748 = .ok (.iadd, 1) := by decide +kernel
theorem d_Law_law_749 : decode b_Law_law 749 = .ok (.iaload, 1) := by decide +kernel
theorem d_Law_law_750 : decode b_Law_law 750 = .ok (.aload_n 3, 1) := by decide +kernel
theorem d_Law_law_751 : decode b_Law_law 751 = .ok (.invokestatic 112, 3) := by decide +kernel
theorem d_Law_law_754 : decode b_Law_law 754 = .ok (.istore 5, 2) := by decide +kernel
theorem d_Law_law_756 : decode b_Law_law 756 = .ok (.aload_n 2, 1) := by decide +kernel
theorem d_Law_law_757 : decode b_Law_law 757 = .ok (.aload_n 0, 1) := by decide +kernel
theorem d_Law_law_758 : decode b_Law_law 758 = .ok (.iload 4, 2) := by decide +kernel
theorem d_Law_law_760 : decode b_Law_law 760 = .ok (.iconst 1, 1) := by decide +kernel
theorem d_Law_law_761 : decode b_Law_law 761 = .ok (.iadd, 1) := by decide +kernel
theorem d_Law_law_762 : decode b_Law_law 762 = .ok (.iaload, 1) := by decide +kernel
theorem d_Law_law_763 : decode b_Law_law 763 = .ok (.aload_n 0, 1) := by decide +kernel
theorem d_Law_law_764 : decode b_Law_law 764 = .ok (.iload 4, 2) := by decide +kernel
theorem d_Law_law_766 : decode b_Law_law 766 = .ok (.iconst 2, 1) := by decide +kernel
theorem d_Law_law_767 : decode b_Law_law 767 = .ok (.iadd, 1) := by decide +kernel
theorem d_Law_law_768 : decode b_Law_law 768 = .ok (.iaload, 1) := by decide +kernel
theorem d_Law_law_769 : decode b_Law_law 769 = .ok (.invokevirtual 114, 3) := by decide +kernel
theorem d_Law_law_772 : decode b_Law_law 772 = .ok (.istore 6, 2) := by decide +kernel
theorem d_Law_law_774 : decode b_Law_law 774 = .ok (.aload_n 2, 1) := by decide +kernel
theorem d_Law_law_775 : decode b_Law_law 775 = .ok (.invokevirtual 81, 3) := by decide +kernel
theorem d_Law_law_778 : decode b_Law_law 778 = .ok (.iload 5, 2) := by decide +kernel
theorem d_Law_law_780 : decode b_Law_law 780 = .ok (.if_icmp .eq 5, 3) := by decide +kernel
theorem d_Law_law_783 : decode b_Law_law 783 = .ok (.iconst 0, 1) := by decide +kernel
theorem d_Law_law_784 : decode b_Law_law 784 = .ok (.ireturn, 1) := by decide +kernel
theorem d_Law_law_785 : decode b_Law_law 785 = .ok (.iload 5, 2) := by decide +kernel
theorem d_Law_law_787 : decode b_Law_law 787 = .ok (.ifCond .ne 15, 3) := by decide +kernel
theorem d_Law_law_790 : decode b_Law_law 790 = .ok (.aload_n 3, 1) := by decide +kernel
theorem d_Law_law_791 : decode b_Law_law 791 = .ok (.iconst 0, 1) := by decide +kernel
theorem d_Law_law_792 : decode b_Law_law 792 = .ok (.laload, 1) := by decide +kernel
theorem d_Law_law_793 : decode b_Law_law 793 = .ok (.iload 6, 2) := by decide +kernel
theorem d_Law_law_795 : decode b_Law_law 795 = .ok (.i2l, 1) := by decide +kernel
theorem d_Law_law_796 : decode b_Law_law 796 = .ok (.lcmp, 1) := by decide +kernel
theorem d_Law_law_797 : decode b_Law_law 797 = .ok (.ifCond .eq 5, 3) := by decide +kernel
theorem d_Law_law_800 : decode b_Law_law 800 = .ok (.iconst 0, 1) := by decide +kernel
theorem d_Law_law_801 : decode b_Law_law 801 = .ok (.ireturn, 1) := by decide +kernel
theorem d_Law_law_802 : decode b_Law_law 802 = .ok (.goto 445, 3) := by decide +kernel
theorem d_Law_law_805 : decode b_Law_law 805 = .ok (.aload_n 1, 1) := by decide +kernel
theorem d_Law_law_806 : decode b_Law_law 806 = .ok (.aload_n 0, 1) := by decide +kernel
theorem d_Law_law_807 : decode b_Law_law 807 = .ok (.iload 4, 2) := by decide +kernel
theorem d_Law_law_809 : decode b_Law_law 809 = .ok (.iconst 1, 1) := by decide +kernel
theorem d_Law_law_810 : decode b_Law_law 810 = .ok (.iadd, 1) := by decide +kernel
theorem d_Law_law_811 : decode b_Law_law 811 = .ok (.iaload, 1) := by decide +kernel
theorem d_Law_law_812 : decode b_Law_law 812 = .ok (.aload_n 3, 1) := by decide +kernel
theorem d_Law_law_813 : decode b_Law_law 813 = .ok (.invokestatic 115, 3) := by decide +kernel
theorem d_Law_law_816 : decode b_Law_law 816 = .ok (.istore 5, 2) := by decide +kernel
theorem d_Law_law_818 : decode b_Law_law 818 = .ok (.aload_n 2, 1) := by decide +kernel
theorem d_Law_law_819 : decode b_Law_law 819 = .ok (.aload_n 0, 1) := by decide +kernel
theorem d_Law_law_820 : decode b_Law_law 820 = .ok (.iload 4, 2) := by decide +kernel
theorem d_Law_law_822 : decode b_Law_law 822 = .ok (.iconst 1, 1) := by decide +kernel
theorem d_Law_law_823 : decode b_Law_law 823 = .ok (.iadd, 1) := by decide +kernel
theorem d_Law_law_824 : decode b_Law_law 824 = .ok (.iaload, 1) := by decide +kernel
theorem d_Law_law_825 : decode b_Law_law 825 = .ok (.invokevirtual 117, 3) := by decide +kernel
theorem d_Law_law_828 : decode b_Law_law 828 = .ok (.istore 6, 2) := by decide +kernel
theorem d_Law_law_830 : decode b_Law_law 830 = .ok (.aload_n 2, 1) := by decide +kernel
theorem d_Law_law_831 : decode b_Law_law 831 = .ok (.invokevirtual 81, 3) := by decide +kernel
theorem d_Law_law_834 : decode b_Law_law 834 = .ok (.iload 5, 2) := by decide +kernel
theorem d_Law_law_836 : decode b_Law_law 836 = .ok (.if_icmp .eq 5, 3) := by decide +kernel
theorem d_Law_law_839 : decode b_Law_law 839 = .ok (.iconst 0, 1) := by decide +kernel
theorem d_Law_law_840 : decode b_Law_law 840 = .ok (.ireturn, 1) := by decide +kernel
theorem d_Law_law_841 : decode b_Law_law 841 = .ok (.iload 5, 2) := by decide +kernel
theorem d_Law_law_843 : decode b_Law_law 843 = .ok (.ifCond .ne 22, 3) := by decide +kernel
theorem d_Law_law_846 : decode b_Law_law 846 = .ok (.aload_n 3, 1) := by decide +kernel
theorem d_Law_law_847 : decode b_Law_law 847 = .ok (.iconst 0, 1) := by decide +kernel
theorem d_Law_law_848 : decode b_Law_law 848 = .ok (.laload, 1) := by decide +kernel
theorem d_Law_law_849 : decode b_Law_law 849 = .ok (.iload 6, 2) := by decide +kernel
theorem d_Law_law_851 : decode b_Law_law 851 = .ok (.ifCond .eq 7, 3) := by decide +kernel
theorem d_Law_law_854 : decode b_Law_law 854 = .ok (.lconst 1, 1) := by decide +kernel
theorem d_Law_law_855 : decode b_Law_law 855 = .ok (.goto 4, 3) := by decide +kernel
theorem d_Law_law_858 : decode b_Law_law 858 = .ok (.lconst 0, 1) := by decide +kernel
theorem d_Law_law_859 : decode b_Law_law 859 = .ok (.lcmp, 1) := by decide +kernel
theorem d_Law_law_860 : decode b_Law_law 860 = .ok (.ifCond .eq 5, 3) := by decide +kernel
theorem d_Law_law_863 : decode b_Law_law 863 = .ok (.iconst 0, 1) := by decide +kernel
theorem d_Law_law_864 : decode b_Law_law 864 = .ok (.ireturn, 1) := by decide +kernel
theorem d_Law_law_865 : decode b_Law_law 865 = .ok (.goto 382, 3) := by decide +kernel
theorem d_Law_law_868 : decode b_Law_law 868 = .ok (.aload_n 1, 1) := by decide +kernel
theorem d_Law_law_869 : decode b_Law_law 869 = .ok (.invokevirtual 118, 3) := by decide +kernel
theorem d_Law_law_872 : decode b_Law_law 872 = .ok (.aload_n 2, 1) := by decide +kernel
theorem d_Law_law_873 : decode b_Law_law 873 = .ok (.invokevirtual 121, 3) := by decide +kernel
theorem d_Law_law_876 : decode b_Law_law 876 = .ok (.if_icmp .eq 371, 3) := by decide +kernel
theorem d_Law_law_879 : decode b_Law_law 879 = .ok (.iconst 0, 1) := by decide +kernel
theorem d_Law_law_880 : decode b_Law_law 880 = .ok (.ireturn, 1) := by decide +kernel
theorem d_Law_law_881 : decode b_Law_law 881 = .ok (.aload_n 1, 1) := by decide +kernel
theorem d_Law_law_882 : decode b_Law_law 882 = .ok (.aload_n 0, 1) := by decide +kernel
theorem d_Law_law_883 : decode b_Law_law 883 = .ok (.iload 4, 2) := by decide +kernel
theorem d_Law_law_885 : decode b_Law_law 885 = .ok (.iconst 1, 1) := by decide +kernel
theorem d_Law_law_886 : decode b_Law_law 886 = .ok (.iadd, 1) := by decide +kernel
theorem d_Law_law_887 : decode b_Law_law 887 = .ok (.iaload, 1) := by decide +kernel
theorem d_Law_law_888 : decode b_Law_law 888 = .ok (.aload_n 3, 1) := by decide +kernel
theorem d_Law_law_889 : decode b_Law_law 889 = .ok (.invokestatic 122, 3) := by decide +kernel
theorem d_Law_law_892 : decode b_Law_law 892 = .ok (.istore 5, 2) := by decide +kernel
theorem d_Law_law_894 : decode b_Law_law 894 = .ok (.aload_n 2, 1) := by decide +kernel
theorem d_Law_law_895 : decode b_Law_law 895 = .ok (.aload_n 0, 1) := by decide +kernel
theorem d_Law_law_896 : decode b_Law_law 896 = .ok (.iload 4, 2) := by decide +kernel
theorem d_Law_law_898 : decode b_Law_law 898 = .ok (.iconst 1, 1) := by decide +kernel
theorem d_Law_law_899 : decode b_Law_law 899 = .ok (.iadd, 1) := by decide +kernel
theorem d_Law_law_900 : decode b_Law_law 900 = .ok (.iaload, 1) := by decide +kernel
theorem d_Law_law_901 : decode b_Law_law 901 = .ok (.invokevirtual 124, 3) := by decide +kernel
theorem d_Law_law_904 : decode b_Law_law 904 = .ok (.istore 6, 2) := by decide +kernel
theorem d_Law_law_906 : decode b_Law_law 906 = .ok (.aload_n 2, 1) := by decide +kernel
theorem d_Law_law_907 : decode b_Law_law 907 = .ok (.invokevirtual 81, 3) := by decide +kernel
theorem d_Law_law_910 : decode b_Law_law 910 = .ok (.iload 5, 2) := by decide +kernel
theorem d_Law_law_912 : decode b_Law_law 912 = .ok (.if_icmp .eq 5, 3) := by decide +kernel
theorem d_Law_law_915 : decode b_Law_law 915 = .ok (.iconst 0, 1) := by decide +kernel
theorem d_Law_law_916 : decode b_Law_law 916 = .ok (.ireturn, 1) := by decide +kernel
theorem d_Law_law_917 : decode b_Law_law 917 = .ok (.iload 5, 2) := by decide +kernel
theorem d_Law_law_919 : decode b_Law_law 919 = .ok (.ifCond .ne 15, 3) := by decide +kernel
theorem d_Law_law_922 : decode b_Law_law 922 = .ok (.aload_n 3, 1) := by decide +kernel
theorem d_Law_law_923 : decode b_Law_law 923 = .ok (.iconst 0, 1) := by decide +kernel
theorem d_Law_law_924 : decode b_Law_law 924 = .ok (.laload, 1) := by decide +kernel
theorem d_Law_law_925 : decode b_Law_law 925 = .ok (.iload 6, 2) := by decide +kernel
theorem d_Law_law_927 : decode b_Law_law 927 = .ok (.i2l, 1) := by decide +kernel
theorem d_Law_law_928 : decode b_Law_law 928 = .ok (.lcmp, 1) := by decide +kernel
theorem d_Law_law_929 : decode b_Law_law 929 = .ok (.ifCond .eq 5, 3) := by decide +kernel
theorem d_Law_law_932 : decode b_Law_law 932 = .ok (.iconst 0, 1) := by decide +kernel
theorem d_Law_law_933 : decode b_Law_law 933 = .ok (.ireturn, 1) := by decide +kernel
theorem d_Law_law_934 : decode b_Law_law 934 = .ok (.goto 313, 3) := by decide +kernel
theorem d_Law_law_937 : decode b_Law_law 937 = .ok (.aload_n 1, 1) := by decide +kernel
theorem d_Law_law_938 : decode b_Law_law 938 = .ok (.invokevirtual 125, 3) := by decide +kernel
theorem d_Law_law_941 : decode b_Law_law 941 = .ok (.aload_n 2, 1) := by decide +kernel
theorem d_Law_law_942 : decode b_Law_law 942 = .ok (.invokevirtual 128, 3) := by decide +kernel
theorem d_Law_law_945 : decode b_Law_law 945 = .ok (.if_icmp .eq 302, 3) := by decide +kernel
theorem d_Law_law_948 : decode b_Law_law 948 = .ok (.iconst 0, 1) := by decide +kernel
theorem d_Law_law_949 : decode b_Law_law 949 = .ok (.ireturn, 1) := by decide +kernel
theorem d_Law_law_950 : decode b_Law_law 950 = .ok (.aload_n 1, 1) := by decide +kernel
theorem d_Law_law_951 : decode b_Law_law 951 = .ok (.aload_n 0, 1) := by decide +kernel
theorem d_Law_law_952 : decode b_Law_law 952 = .ok (.iload 4, 2) := by decide +kernel
theorem d_Law_law_954 : decode b_Law_law 954 = .ok (.iconst 1, 1) := by decide +kernel
theorem d_Law_law_955 : decode b_Law_law 955 = .ok (.iadd, 1) := by decide +kernel
theorem d_Law_law_956 : decode b_Law_law 956 = .ok (.iaload, 1) := by decide +kernel
theorem d_Law_law_957 : decode b_Law_law 957 = .ok (.aload_n 0, 1) := by decide +kernel
theorem d_Law_law_958 : decode b_Law_law 958 = .ok (.iload 4, 2) := by decide +kernel
theorem d_Law_law_960 : decode b_Law_law 960 = .ok (.iconst 2, 1) := by decide +kernel
theorem d_Law_law_961 : decode b_Law_law 961 = .ok (.iadd, 1) := by decide +kernel
theorem d_Law_law_962 : decode b_Law_law 962 = .ok (.iaload, 1) := by decide +kernel
theorem d_Law_law_963 : decode b_Law_law 963 = .ok (.aload_n 3, 1) := by decide +kernel
theorem d_Law_law_964 : decode b_Law_law 964 = .ok (.invokestatic 129, 3) := by decide +kernel
theorem d_Law_law_967 : decode b_Law_law 967 = .ok (.istore 5, 2) := by decide +kernel
theorem d_Law_law_969 : decode b_Law_law 969 = .ok (.aload_n 2, 1) := by decide +kernel
theorem d_Law_law_970 : decode b_Law_law 970 = .ok (.aload_n 0, 1) := by decide +kernel
theorem d_Law_law_971 : decode b_Law_law 971 = .ok (.iload 4, 2) := by decide +kernel
theorem d_Law_law_973 : decode b_Law_law 973 = .ok (.iconst 1, 1) := by decide +kernel
theorem d_Law_law_974 : decode b_Law_law 974 = .ok (.iadd, 1) := by decide +kernel
theorem d_Law_law_975 : decode b_Law_law 975 = .ok (.iaload, 1) := by decide +kernel
theorem d_Law_law_976 : decode b_Law_law 976 = .ok (.aload_n 0, 1) := by decide +kernel
theorem d_Law_law_977 : decode b_Law_law 977 = .ok (.iload 4, 2) := by decide +kernel
theorem d_Law_law_979 : decode b_Law_law 979 = .ok (.iconst 2, 1) := by decide +kernel
theorem d_Law_law_980 : decode b_Law_law 980 = .ok (.iadd, 1) := by decide +kernel
theorem d_Law_law_981 : decode b_Law_law 981 = .ok (.iaload, 1) := by decide +kernel
theorem d_Law_law_982 : decode b_Law_law 982 = .ok (.invokevirtual 131, 3) := by decide +kernel
theorem d_Law_law_985 : decode b_Law_law 985 = .ok (.istore 6, 2) := by decide +kernel
theorem d_Law_law_987 : decode b_Law_law 987 = .ok (.aload_n 2, 1) := by decide +kernel
theorem d_Law_law_988 : decode b_Law_law 988 = .ok (.invokevirtual 81, 3) := by decide +kernel
theorem d_Law_law_991 : decode b_Law_law 991 = .ok (.iload 5, 2) := by decide +kernel
theorem d_Law_law_993 : decode b_Law_law 993 = .ok (.if_icmp .eq 5, 3) := by decide +kernel
theorem d_Law_law_996 : decode b_Law_law 996 = .ok (.iconst 0, 1) := by decide +kernel
theorem d_Law_law_997 : decode b_Law_law 997 = .ok (.ireturn, 1) := by decide +kernel
theorem d_Law_law_998 : decode b_Law_law 998 = .ok (.iload 5, 2) := by decide +kernel
theorem d_Law_law_1000 : decode b_Law_law 1000 = .ok (.ifCond .ne 15, 3) := by decide +kernel
theorem d_Law_law_1003 : decode b_Law_law 1003 = .ok (.aload_n 3, 1) := by decide +kernel
theorem d_Law_law_1004 : decode b_Law_law 1004 = .ok (.iconst 0, 1) := by decide +kernel
theorem d_Law_law_1005 : decode b_Law_law 1005 = .ok (.laload, 1) := by decide +kernel
theorem d_Law_law_1006 : decode b_Law_law 1006 = .ok (.iload 6, 2) := by decide +kernel
theorem d_Law_law_1008 : decode b_Law_law 1008 = .ok (.i2l, 1) := by decide +kernel
theorem d_Law_law_1009 : decode b_Law_law 1009 = .ok (.lcmp, 1) := by decide +kernel
theorem d_Law_law_1010 : decode b_Law_law 1010 = .ok (.ifCond .eq 5, 3) := by decide +kernel
theorem d_Law_law_1013 : decode b_Law_law 1013 = .ok (.iconst 0, 1) := by decide +kernel
theorem d_Law_law_1014 : decode b_Law_law 1014 = .ok (.ireturn, 1) := by decide +kernel
theorem d_Law_law_1015 : decode b_Law_law 1015 = .ok (.goto 232, 3) := by decide +kernel
theorem d_Law_law_1018 : decode b_Law_law 1018 = .ok (.aload_n 1, 1) := by decide +kernel
theorem d_Law_law_1019 : decode b_Law_law 1019 = .ok (.aload_n 0, 1) := by decide +kernel
theorem d_Law_law_1020 : decode b_Law_law 1020 = .ok (.iload 4, 2) := by decide +kernel
theorem d_Law_law_1022 : decode b_Law_law 1022 = .ok (.iconst 1, 1) := by decide +kernel
theorem d_Law_law_1023 : decode b_Law_law 1023 = .ok (.iadd, 1) := by decide +kernel
theorem d_Law_law_1024 : decode b_Law_law 1024 = .ok (.iaload, 1) := by decide +kernel
theorem d_Law_law_1025 : decode b_Law_law 1025 = .ok (.aload_n 0, 1) := by decide +kernel
theorem d_Law_law_1026 : decode b_Law_law 1026 = .ok (.iload 4, 2) := by decide +kernel
theorem d_Law_law_1028 : decode b_Law_law 1028 = .ok (.iconst 2, 1) := by decide +kernel
theorem d_Law_law_1029 : decode b_Law_law 1029 = .ok (.iadd, 1) := by decide +kernel
theorem d_Law_law_1030 : decode b_Law_law 1030 = .ok (.iaload, 1) := by decide +kernel
theorem d_Law_law_1031 : decode b_Law_law 1031 = .ok (.aload_n 3, 1) := by decide +kernel
theorem d_Law_law_1032 : decode b_Law_law 1032 = .ok (.invokestatic 132, 3) := by decide +kernel
theorem d_Law_law_1035 : decode b_Law_law 1035 = .ok (.istore 5, 2) := by decide +kernel
theorem d_Law_law_1037 : decode b_Law_law 1037 = .ok (.aload_n 2, 1) := by decide +kernel
theorem d_Law_law_1038 : decode b_Law_law 1038 = .ok (.aload_n 0, 1) := by decide +kernel
theorem d_Law_law_1039 : decode b_Law_law 1039 = .ok (.iload 4, 2) := by decide +kernel
theorem d_Law_law_1041 : decode b_Law_law 1041 = .ok (.iconst 1, 1) := by decide +kernel
theorem d_Law_law_1042 : decode b_Law_law 1042 = .ok (.iadd, 1) := by decide +kernel
theorem d_Law_law_1043 : decode b_Law_law 1043 = .ok (.iaload, 1) := by decide +kernel
theorem d_Law_law_1044 : decode b_Law_law 1044 = .ok (.aload_n 0, 1) := by decide +kernel
theorem d_Law_law_1045 : decode b_Law_law 1045 = .ok (.iload 4, 2) := by decide +kernel
theorem d_Law_law_1047 : decode b_Law_law 1047 = .ok (.iconst 2, 1) := by decide +kernel
theorem d_Law_law_1048 : decode b_Law_law 1048 = .ok (.iadd, 1) := by decide +kernel
theorem d_Law_law_1049 : decode b_Law_law 1049 = .ok (.iaload, 1) := by decide +kernel
theorem d_Law_law_1050 : decode b_Law_law 1050 = .ok (.invokevirtual 134, 3) := by decide +kernel
theorem d_Law_law_1053 : decode b_Law_law 1053 = .ok (.istore 6, 2) := by decide +kernel
theorem d_Law_law_1055 : decode b_Law_law 1055 = .ok (.aload_n 2, 1) := by decide +kernel
theorem d_Law_law_1056 : decode b_Law_law 1056 = .ok (.invokevirtual 81, 3) := by decide +kernel
theorem d_Law_law_1059 : decode b_Law_law 1059 = .ok (.iload 5, 2) := by decide +kernel
theorem d_Law_law_1061 : decode b_Law_law 1061 = .ok (.if_icmp .eq 5, 3) := by decide +kernel
theorem d_Law_law_1064 : decode b_Law_law 1064 = .ok (.iconst 0, 1) := by decide +kernel
theorem d_Law_law_1065 : decode b_Law_law 1065 = .ok (.ireturn, 1) := by decide +kernel
theorem d_Law_law_1066 : decode b_Law_law 1066 = .ok (.iload 5, 2) := by decide +kernel
theorem d_Law_law_1068 : decode b_Law_law 1068 = .ok (.ifCond .ne 15, 3) := by decide +kernel
theorem d_Law_law_1071 : decode b_Law_law 1071 = .ok (.aload_n 3, 1) := by decide +kernel
theorem d_Law_law_1072 : decode b_Law_law 1072 = .ok (.iconst 0, 1) := by decide +kernel
theorem d_Law_law_1073 : decode b_Law_law 1073 = .ok (.laload, 1) := by decide +kernel
theorem d_Law_law_1074 : decode b_Law_law 1074 = .ok (.iload 6, 2) := by decide +kernel
theorem d_Law_law_1076 : decode b_Law_law 1076 = .ok (.i2l, 1) := by decide +kernel
theorem d_Law_law_1077 : decode b_Law_law 1077 = .ok (.lcmp, 1) := by decide +kernel
theorem d_Law_law_1078 : decode b_Law_law 1078 = .ok (.ifCond .eq 5, 3) := by decide +kernel
theorem d_Law_law_1081 : decode b_Law_law 1081 = .ok (.iconst 0, 1) := by decide +kernel
theorem d_Law_law_1082 : decode b_Law_law 1082 = .ok (.ireturn, 1) := by decide +kernel
theorem d_Law_law_1083 : decode b_Law_law 1083 = .ok (.goto 164, 3) := by decide +kernel
theorem d_Law_law_1086 : decode b_Law_law 1086 = .ok (.aload_n 1, 1) := by decide +kernel
theorem d_Law_law_1087 : decode b_Law_law 1087 = .ok (.aload_n 0, 1) := by decide +kernel
theorem d_Law_law_1088 : decode b_Law_law 1088 = .ok (.iload 4, 2) := by decide +kernel
theorem d_Law_law_1090 : decode b_Law_law 1090 = .ok (.iconst 1, 1) := by decide +kernel
theorem d_Law_law_1091 : decode b_Law_law 1091 = .ok (.iadd, 1) := by decide +kernel
theorem d_Law_law_1092 : decode b_Law_law 1092 = .ok (.iaload, 1) := by decide +kernel
theorem d_Law_law_1093 : decode b_Law_law 1093 = .ok (.aload_n 0, 1) := by decide +kernel
theorem d_Law_law_1094 : decode b_Law_law 1094 = .ok (.iload 4, 2) := by decide +kernel
theorem d_Law_law_1096 : decode b_Law_law 1096 = .ok (.iconst 2, 1) := by decide +kernel
theorem d_Law_law_1097 : decode b_Law_law 1097 = .ok (.iadd, 1) := by decide +kernel
theorem d_Law_law_1098 : decode b_Law_law 1098 = .ok (.iaload, 1) := by decide +kernel
theorem d_Law_law_1099 : decode b_Law_law 1099 = .ok (.aload_n 0, 1) := by decide +kernel
theorem d_Law_law_1100 : decode b_Law_law 1100 = .ok (.iload 4, 2) := by decide +kernel
theorem d_Law_law_1102 : decode b_Law_law 1102 = .ok (.iconst 3, 1) := by decide +kernel
theorem d_Law_law_1103 : decode b_Law_law 1103 = .ok (.iadd, 1) := by decide +kernel
theorem d_Law_law_1104 : decode b_Law_law 1104 = .ok (.iaload, 1) := by decide +kernel
theorem d_Law_law_1105 : decode b_Law_law 1105 = .ok (.aload_n 3, 1) := by decide +kernel
theorem d_Law_law_1106 : decode b_Law_law 1106 = .ok (.invokestatic 135, 3) := by decide +kernel
theorem d_Law_law_1109 : decode b_Law_law 1109 = .ok (.istore 5, 2) := by decide +kernel
theorem d_Law_law_1111 : decode b_Law_law 1111 = .ok (.aload_n 2, 1) := by decide +kernel
theorem d_Law_law_1112 : decode b_Law_law 1112 = .ok (.aload_n 0, 1) := by decide +kernel
theorem d_Law_law_1113 : decode b_Law_law 1113 = .ok (.iload 4, 2) := by decide +kernel
theorem d_Law_law_1115 : decode b_Law_law 1115 = .ok (.iconst 1, 1) := by decide +kernel
theorem d_Law_law_1116 : decode b_Law_law 1116 = .ok (.iadd, 1) := by decide +kernel
theorem d_Law_law_1117 : decode b_Law_law 1117 = .ok (.iaload, 1) := by decide +kernel
theorem d_Law_law_1118 : decode b_Law_law 1118 = .ok (.aload_n 0, 1) := by decide +kernel
theorem d_Law_law_1119 : decode b_Law_law 1119 = .ok (.iload 4, 2) := by decide +kernel
theorem d_Law_law_1121 : decode b_Law_law 1121 = .ok (.iconst 2, 1) := by decide +kernel
theorem d_Law_law_1122 : decode b_Law_law 1122 = .ok (.iadd, 1) := by decide +kernel
theorem d_Law_law_1123 : decode b_Law_law 1123 = .ok (.iaload, 1) := by decide +kernel
theorem d_Law_law_1124 : decode b_Law_law 1124 = .ok (.aload_n 0, 1) := by decide +kernel
theorem d_Law_law_1125 : decode b_Law_law 1125 = .ok (.iload 4, 2) := by decide +kernel
theorem d_Law_law_1127 : decode b_Law_law 1127 = .ok (.iconst 3, 1) := by decide +kernel
theorem d_Law_law_1128 : decode b_Law_law 1128 = .ok (.iadd, 1) := by decide +kernel
theorem d_Law_law_1129 : decode b_Law_law 1129 = .ok (.iaload, 1) := by decide +kernel
theorem d_Law_law_1130 : decode b_Law_law 1130 = .ok (.invokevirtual 138, 3) := by decide +kernel
theorem d_Law_law_1133 : decode b_Law_law 1133 = .ok (.istore 6, 2) := by decide +kernel
theorem d_Law_law_1135 : decode b_Law_law 1135 = .ok (.aload_n 2, 1) := by decide +kernel
theorem d_Law_law_1136 : decode b_Law_law 1136 = .ok (.invokevirtual 81, 3) := by decide +kernel
theorem d_Law_law_1139 : decode b_Law_law 1139 = .ok (.iload 5, 2) := by decide +kernel
theorem d_Law_law_1141 : decode b_Law_law 1141 = .ok (.if_icmp .eq 5, 3) := by decide +kernel
theorem d_Law_law_1144 : decode b_Law_law 1144 = .ok (.iconst 0, 1) := by decide +kernel
theorem d_Law_law_1145 : decode b_Law_law 1145 = .ok (.ireturn, 1) := by decide +kernel
theorem d_Law_law_1146 : decode b_Law_law 1146 = .ok (.iload 5, 2) := by decide +kernel
theorem d_Law_law_1148 : decode b_Law_law 1148 = .ok (.ifCond .ne 15, 3) := by decide +kernel
theorem d_Law_law_1151 : decode b_Law_law 1151 = .ok (.aload_n 3, 1) := by decide +kernel
theorem d_Law_law_1152 : decode b_Law_law 1152 = .ok (.iconst 0, 1) := by decide +kernel
theorem d_Law_law_1153 : decode b_Law_law 1153 = .ok (.laload, 1) := by decide +kernel
theorem d_Law_law_1154 : decode b_Law_law 1154 = .ok (.iload 6, 2) := by decide +kernel
theorem d_Law_law_1156 : decode b_Law_law 1156 = .ok (.i2l, 1) := by decide +kernel
theorem d_Law_law_1157 : decode b_Law_law 1157 = .ok (.lcmp, 1) := by decide +kernel
theorem d_Law_law_1158 : decode b_Law_law 1158 = .ok (.ifCond .eq 5, 3) := by decide +kernel
theorem d_Law_law_1161 : decode b_Law_law 1161 = .ok (.iconst 0, 1) := by decide +kernel
theorem d_Law_law_1162 : decode b_Law_law 1162 = .ok (.ireturn, 1) := by decide +kernel
theorem d_Law_law_1163 : decode b_Law_law 1163 = .ok (.goto 84, 3) := by decide +kernel
theorem d_Law_law_1166 : decode b_Law_law 1166 = .ok (.aload_n 1, 1) := by decide +kernel
theorem d_Law_law_1167 : decode b_Law_law 1167 = .ok (.aload_n 0, 1) := by decide +kernel
theorem d_Law_law_1168 : decode b_Law_law 1168 = .ok (.iload 4, 2) := by decide +kernel
theorem d_Law_law_1170 : decode b_Law_law 1170 = .ok (.iconst 1, 1) := by decide +kernel
theorem d_Law_law_1171 : decode b_Law_law 1171 = .ok (.iadd, 1) := by decide +kernel
theorem d_Law_law_1172 : decode b_Law_law 1172 = .ok (.iaload, 1) := by decide +kernel
theorem d_Law_law_1173 : decode b_Law_law 1173 = .ok (.aload_n 0, 1) := by decide +kernel
theorem d_Law_law_1174 : decode b_Law_law 1174 = .ok (.iload 4, 2) := by decide +kernel
theorem d_Law_law_1176 : decode b_Law_law 1176 = .ok (.iconst 2, 1) := by decide +kernel
theorem d_Law_law_1177 : decode b_Law_law 1177 = .ok (.iadd, 1) := by decide +kernel
theorem d_Law_law_1178 : decode b_Law_law 1178 = .ok (.iaload, 1) := by decide +kernel
theorem d_Law_law_1179 : decode b_Law_law 1179 = .ok (.aload_n 3, 1) := by decide +kernel
theorem d_Law_law_1180 : decode b_Law_law 1180 = .ok (.invokestatic 139, 3) := by decide +kernel
theorem d_Law_law_1183 : decode b_Law_law 1183 = .ok (.istore 5, 2) := by decide +kernel
theorem d_Law_law_1185 : decode b_Law_law 1185 = .ok (.aload_n 2, 1) := by decide +kernel
theorem d_Law_law_1186 : decode b_Law_law 1186 = .ok (.aload_n 0, 1) := by decide +kernel
theorem d_Law_law_1187 : decode b_Law_law 1187 = .ok (.iload 4, 2) := by decide +kernel
theorem d_Law_law_1189 : decode b_Law_law 1189 = .ok (.iconst 1, 1) := by decide +kernel
theorem d_Law_law_1190 : decode b_Law_law 1190 = .ok (.iadd, 1) := by decide +kernel
theorem d_Law_law_1191 : decode b_Law_law 1191 = .ok (.iaload, 1) := by decide +kernel
theorem d_Law_law_1192 : decode b_Law_law 1192 = .ok (.aload_n 0, 1) := by decide +kernel
theorem d_Law_law_1193 : decode b_Law_law 1193 = .ok (.iload 4, 2) := by decide +kernel
theorem d_Law_law_1195 : decode b_Law_law 1195 = .ok (.iconst 2, 1) := by decide +kernel
theorem d_Law_law_1196 : decode b_Law_law 1196 = .ok (.iadd, 1) := by decide +kernel
theorem d_Law_law_1197 : decode b_Law_law 1197 = .ok (.iaload, 1) := by decide +kernel
theorem d_Law_law_1198 : decode b_Law_law 1198 = .ok (.invokevirtual 141, 3) := by decide +kernel
theorem d_Law_law_1201 : decode b_Law_law 1201 = .ok (.istore 6, 2) := by decide +kernel
theorem d_Law_law_1203 : decode b_Law_law 1203 = .ok (.aload_n 2, 1) := by decide +kernel
theorem d_Law_law_1204 : decode b_Law_law 1204 = .ok (.invokevirtual 81, 3) := by decide +kernel
theorem d_Law_law_1207 : decode b_Law_law 1207 = .ok (.iload 5, 2) := by decide +kernel
theorem d_Law_law_1209 : decode b_Law_law 1209 = .ok (.if_icmp .eq 5, 3) := by decide +kernel
theorem d_Law_law_1212 : decode b_Law_law 1212 = .ok (.iconst 0, 1) := by decide +kernel
theorem d_Law_law_1213 : decode b_Law_law 1213 = .ok (.ireturn, 1) := by decide +kernel
theorem d_Law_law_1214 : decode b_Law_law 1214 = .ok (.iload 5, 2) := by decide +kernel
theorem d_Law_law_1216 : decode b_Law_law 1216 = .ok (.ifCond .ne 15, 3) := by decide +kernel
theorem d_Law_law_1219 : decode b_Law_law 1219 = .ok (.aload_n 3, 1) := by decide +kernel
theorem d_Law_law_1220 : decode b_Law_law 1220 = .ok (.iconst 0, 1) := by decide +kernel
theorem d_Law_law_1221 : decode b_Law_law 1221 = .ok (.laload, 1) := by decide +kernel
theorem d_Law_law_1222 : decode b_Law_law 1222 = .ok (.iload 6, 2) := by decide +kernel
theorem d_Law_law_1224 : decode b_Law_law 1224 = .ok (.i2l, 1) := by decide +kernel
theorem d_Law_law_1225 : decode b_Law_law 1225 = .ok (.lcmp, 1) := by decide +kernel
theorem d_Law_law_1226 : decode b_Law_law 1226 = .ok (.ifCond .eq 5, 3) := by decide +kernel
theorem d_Law_law_1229 : decode b_Law_law 1229 = .ok (.iconst 0, 1) := by decide +kernel
theorem d_Law_law_1230 : decode b_Law_law 1230 = .ok (.ireturn, 1) := by decide +kernel
theorem d_Law_law_1231 : decode b_Law_law 1231 = .ok (.goto 16, 3) := by decide +kernel
theorem d_Law_law_1234 : decode b_Law_law 1234 = .ok (.aload_n 1, 1) := by decide +kernel
theorem d_Law_law_1235 : decode b_Law_law 1235 = .ok (.invokevirtual 142, 3) := by decide +kernel
theorem d_Law_law_1238 : decode b_Law_law 1238 = .ok (.aload_n 2, 1) := by decide +kernel
theorem d_Law_law_1239 : decode b_Law_law 1239 = .ok (.invokevirtual 145, 3) := by decide +kernel
theorem d_Law_law_1242 : decode b_Law_law 1242 = .ok (.if_icmp .eq 5, 3) := by decide +kernel
theorem d_Law_law_1245 : decode b_Law_law 1245 = .ok (.iconst 0, 1) := by decide +kernel
theorem d_Law_law_1246 : decode b_Law_law 1246 = .ok (.ireturn, 1) := by decide +kernel
theorem d_Law_law_1247 : decode b_Law_law 1247 = .ok (.iinc 4 6, 3) := by decide +kernel
theorem d_Law_law_1250 : decode b_Law_law 1250 = .ok (.goto (-1197), 3) := by decide +kernel
theorem d_Law_law_1253 : decode b_Law_law 1253 = .ok (.iconst 1, 1) := by decide +kernel
theorem d_Law_law_1254 : decode b_Law_law 1254 = .ok (.ireturn, 1) := by decide +kernel
set_option maxRecDepth 100000 in
set_option maxHeartbeats 4000000 in
theorem t_seconds {X : Jx} {K : Kx} {n b L i kc ks : Nat} {ld sk : Int32} {xs : Nat → Int32} {A B D : MI} {P : MP} {N : List Msg} (E : LawE X K n b L xs) (hi : i + 5 < L) (st : ST K n ld sk A B D P N) (hkc : kc + 5 ≤ 601024) (hks : ks + 30 ≤ 7293000) (kt : KT X K n ld sk b i (kc + 5) (ks + 30)) : J X K K.full (bk4 A B A D) P kc ks 160 [(0, .ref b), (1, .ref (K.ad 0 0)), (2, .ref (K.ad 6 0)), (3, .ref (K.aad 40)), (4, .int (nI i))] [] := by
  obtain ⟨h, hN, hR, hlt, kf, hS, hbl, hL⟩ := E
  obtain ⟨cs, ⟨T, U, hnc⟩, ms, hm, inv⟩ := st
  have hv6 : K.full.1 6 0 := (kf_mod kf).1
  have hv0 : K.full.1 0 0 := (kf_lp kf).1.1
  have ha40 : K.full.2.1 40 := (kf_out kf).2.1
  have hl40 : K.alen 40 = 1 := (kf_out kf).2.2
  refine j_aload_n h d_Law_law_160 rfl ?_
  refine j_aload_n h d_Law_law_161 rfl ?_
  refine j_iload h d_Law_law_162 rfl ?_
  refine j_iconst (v := nI 1) h d_Law_law_164 (by decide +kernel) ?_
  refine j_iadd h d_Law_law_165 ?_
  refine j_sld (j := i + 1) h hS hbl d_Law_law_166 (nI_add i 1) (by omega) (by omega) ?_
  refine j_aload_n h d_Law_law_167 rfl ?_
  refine jh_callS h (c_Law_seconds X.l K K.full (bk4 A B A D) P _ _ _ (c_LP_seconds X.l hlt K K.full A B A D P (full_v K) n cs (xs (i + 1))) (fun V' r I' P' hq => by obtain ⟨_, e1, e2, -⟩ := hq; exact ⟨e1, _, e2⟩) ha40 hl40 hv0) d_Law_law_168 mh_Law_seconds rfl rfl (Nat.le_of_ble_eq_true rfl) (hRl hR (by decide) (by decide)) (hfl hR (by omega) (by omega)) ?_
  rintro V' r I' P' (⟨rfl, v, P1, hq, rfl, rfl⟩ | ⟨rfl, hx, rfl, rfl, rfl⟩)
  · obtain ⟨⟨hz, hz2⟩, -, e2, rfl, rfl⟩ := hq
    cases e2
    refine j_istore h d_Law_law_171 (Nat.lt_of_lt_of_eq (m := 7) (by decide) hN.symm) ?_
    refine j_aload_n h d_Law_law_173 rfl ?_
    refine j_aload_n h d_Law_law_174 rfl ?_
    refine j_iload h d_Law_law_175 rfl ?_
    refine j_iconst (v := nI 1) h d_Law_law_177 (by decide +kernel) ?_
    refine j_iadd h d_Law_law_178 ?_
    refine j_sld (j := i + 1) h hS hbl d_Law_law_179 (nI_add i 1) (by omega) (by omega) ?_
    refine j_callV h (c_Mod_seconds_ok X.l K K.full _ _ A D _ (MSt_pe ms (fun col h1 h2 => up_c _ _ (by omega))) N hm (xs (i + 1)) hz ((tm_ok inv.2.2.2 hz).mpr hz2)) d_Law_law_180 ml_Law_80 mv_Mod_seconds hv6 ⟨rfl, rfl⟩ rfl rfl (Nat.le_of_ble_eq_true rfl) (hRl hR (by decide) (by decide)) (hfl hR (by omega) (by omega)) ?_
    rintro _ _ _ _ ⟨rfl, rfl, rfl, D1, rfl, e70, hm1⟩
    refine j_istore h d_Law_law_183 (Nat.lt_of_lt_of_eq (m := 7) (by decide) hN.symm) ?_
    refine j_aload_n h d_Law_law_185 rfl ?_
    refine j_callV h (c_Mod_thrown X.l K K.full _ _ _ D1 _ (MSt_pe ms (fun col h1 h2 => up_c _ _ (by omega)))) d_Law_law_186 ml_Law_81 mv_Mod_thrown hv6 ⟨rfl, rfl⟩ rfl rfl (Nat.le_of_ble_eq_true rfl) (hRl hR (by decide) (by decide)) (hfl hR (by omega) (by omega)) ?_
    rintro _ _ _ _ ⟨rfl, rfl, rfl, rfl⟩
    refine j_int (v' := 0) e70 ?_
    refine j_iload h d_Law_law_189 rfl ?_
    refine j_ic_eq (tgt := 196) h d_Law_law_191 (by decide) (fun _ => ?_) (fun c => absurd rfl c)
    refine j_iload h d_Law_law_196 rfl ?_
    refine j_if_ne (tgt := 213) h d_Law_law_198 (by decide) (fun c => absurd rfl c) (fun _ => ?_)
    refine j_aload_n h d_Law_law_201 rfl ?_
    refine j_iconst (v := 0) h d_Law_law_202 (by decide) ?_
    refine j_lald (a := 40) (col := 99) (j := 0) (y := gi _) h d_Law_law_203 rfl ⟨rfl, by decide⟩ ha40 rfl (by rw [hl40]; decide) (by rw [hl40]; decide) (up_s _ _ _ _) ?_
    refine j_iload h d_Law_law_204 rfl ?_
    refine j_i2l h d_Law_law_206 ?_
    refine j_lcmp h d_Law_law_207 ?_
    refine j_if_eq (tgt := 213) h d_Law_law_208 (by decide) (fun _ => ?_) (fun c => absurd (lgc _) c)
    refine j_goto (tgt := 1247) h d_Law_law_213 (by decide) ?_
    refine j_lv (lv' := [(0, .ref b), (1, .ref (K.ad 0 0)), (2, .ref (K.ad 6 0)), (3, .ref (K.aad 40)), (4, .int (nI i))]) (lvs rfl (lvs rfl (lvs rfl (lvs rfl (lvs rfl lvs0))))) ?_
    refine j_widen (k := kc + 5) (n := ks + 30) (by omega) (by omega) ?_
    exact kt _ _ _ _ _ ⟨(CS_99 cs), ⟨_, _, (NC_99 hnc)⟩, (MSt_pe ms (fun col h1 h2 => up_c _ _ (by omega))), hm1, Inv_seconds inv hz ((tm_ok inv.2.2.2 hz).mpr hz2)⟩
  · refine j_istore h d_Law_law_171 (Nat.lt_of_lt_of_eq (m := 7) (by decide) hN.symm) ?_
    refine j_aload_n h d_Law_law_173 rfl ?_
    refine j_aload_n h d_Law_law_174 rfl ?_
    refine j_iload h d_Law_law_175 rfl ?_
    refine j_iconst (v := nI 1) h d_Law_law_177 (by decide +kernel) ?_
    refine j_iadd h d_Law_law_178 ?_
    refine j_sld (j := i + 1) h hS hbl d_Law_law_179 (nI_add i 1) (by omega) (by omega) ?_
    refine j_callV h (c_Mod_seconds_no X.l K K.full _ _ A D _ ms N hm (xs (i + 1)) inv.2.2.2 (fun q => hx ⟨q.1, (tm_ok inv.2.2.2 q.1).mp q.2⟩)) d_Law_law_180 ml_Law_80 mv_Mod_seconds hv6 ⟨rfl, rfl⟩ rfl rfl (Nat.le_of_ble_eq_true rfl) (hRl hR (by decide) (by decide)) (hfl hR (by omega) (by omega)) ?_
    rintro _ _ _ _ ⟨rfl, rfl, rfl, D1, rfl, e70, hm1⟩
    refine j_istore h d_Law_law_183 (Nat.lt_of_lt_of_eq (m := 7) (by decide) hN.symm) ?_
    refine j_aload_n h d_Law_law_185 rfl ?_
    refine j_callV h (c_Mod_thrown X.l K K.full _ _ _ D1 _ ms) d_Law_law_186 ml_Law_81 mv_Mod_thrown hv6 ⟨rfl, rfl⟩ rfl rfl (Nat.le_of_ble_eq_true rfl) (hRl hR (by decide) (by decide)) (hfl hR (by omega) (by omega)) ?_
    rintro _ _ _ _ ⟨rfl, rfl, rfl, rfl⟩
    refine j_int (v' := 1) e70 ?_
    refine j_iload h d_Law_law_189 rfl ?_
    refine j_ic_eq (tgt := 196) h d_Law_law_191 (by decide) (fun _ => ?_) (fun c => absurd rfl c)
    refine j_iload h d_Law_law_196 rfl ?_
    refine j_if_ne (tgt := 213) h d_Law_law_198 (by decide) (fun _ => ?_) (fun c => absurd c (by decide))
    refine j_goto (tgt := 1247) h d_Law_law_213 (by decide) ?_
    refine j_lv (lv' := [(0, .ref b), (1, .ref (K.ad 0 0)), (2, .ref (K.ad 6 0)), (3, .ref (K.aad 40)), (4, .int (nI i))]) (lvs rfl (lvs rfl (lvs rfl (lvs rfl (lvs rfl lvs0))))) ?_
    refine j_widen (k := kc + 5) (n := ks + 30) (by omega) (by omega) ?_
    exact kt _ _ _ _ _ ⟨cs, ⟨_, _, hnc⟩, ms, hm1, inv⟩
set_option maxRecDepth 100000 in
set_option maxHeartbeats 4000000 in
theorem t_skew {X : Jx} {K : Kx} {n b L i kc ks : Nat} {ld sk : Int32} {xs : Nat → Int32} {A B D : MI} {P : MP} {N : List Msg} (E : LawE X K n b L xs) (hi : i + 5 < L) (st : ST K n ld sk A B D P N) (hkc : kc + 5 ≤ 601024) (hks : ks + 30 ≤ 7293000) (kt : KT X K n ld sk b i (kc + 5) (ks + 30)) : J X K K.full (bk4 A B A D) P kc ks 216 [(0, .ref b), (1, .ref (K.ad 0 0)), (2, .ref (K.ad 6 0)), (3, .ref (K.aad 40)), (4, .int (nI i))] [] := by
  obtain ⟨h, hN, hR, hlt, kf, hS, hbl, hL⟩ := E
  obtain ⟨cs, ⟨T, U, hnc⟩, ms, hm, inv⟩ := st
  have hv6 : K.full.1 6 0 := (kf_mod kf).1
  have hv0 : K.full.1 0 0 := (kf_lp kf).1.1
  have ha40 : K.full.2.1 40 := (kf_out kf).2.1
  have hl40 : K.alen 40 = 1 := (kf_out kf).2.2
  refine j_aload_n h d_Law_law_216 rfl ?_
  refine j_aload_n h d_Law_law_217 rfl ?_
  refine j_iload h d_Law_law_218 rfl ?_
  refine j_iconst (v := nI 1) h d_Law_law_220 (by decide +kernel) ?_
  refine j_iadd h d_Law_law_221 ?_
  refine j_sld (j := i + 1) h hS hbl d_Law_law_222 (nI_add i 1) (by omega) (by omega) ?_
  refine j_aload_n h d_Law_law_223 rfl ?_
  refine j_iload h d_Law_law_224 rfl ?_
  refine j_iconst (v := nI 2) h d_Law_law_226 (by decide +kernel) ?_
  refine j_iadd h d_Law_law_227 ?_
  refine j_sld (j := i + 2) h hS hbl d_Law_law_228 (nI_add i 2) (by omega) (by omega) ?_
  refine j_aload_n h d_Law_law_229 rfl ?_
  refine jh_callS h (c_Law_skew X.l K K.full (bk4 A B A D) P _ _ _ _ (c_LP_skew X.l hlt K K.full A B A D P (full_v K) n cs (xs (i + 1)) (xs (i + 2))) (fun V' r I' P' hq => by obtain ⟨_, _, _, _, e1, e2, -⟩ := hq; exact ⟨e1, _, e2⟩) ha40 hl40 hv0) d_Law_law_230 mh_Law_skew rfl rfl (Nat.le_of_ble_eq_true rfl) (hRl hR (by decide) (by decide)) (hfl hR (by omega) (by omega)) ?_
  rintro V' r I' P' (⟨rfl, v, P1, hq, rfl, rfl⟩ | ⟨rfl, hx, rfl, rfl, rfl⟩)
  · obtain ⟨s, hs, h1, hw, -, e2, rfl, rfl⟩ := hq
    cases e2
    refine j_istore h d_Law_law_233 (Nat.lt_of_lt_of_eq (m := 7) (by decide) hN.symm) ?_
    refine j_aload_n h d_Law_law_235 rfl ?_
    refine j_aload_n h d_Law_law_236 rfl ?_
    refine j_iload h d_Law_law_237 rfl ?_
    refine j_iconst (v := nI 1) h d_Law_law_239 (by decide +kernel) ?_
    refine j_iadd h d_Law_law_240 ?_
    refine j_sld (j := i + 1) h hS hbl d_Law_law_241 (nI_add i 1) (by omega) (by omega) ?_
    refine j_int (v' := nI s) h1 ?_
    refine j_aload_n h d_Law_law_242 rfl ?_
    refine j_iload h d_Law_law_243 rfl ?_
    refine j_iconst (v := nI 2) h d_Law_law_245 (by decide +kernel) ?_
    refine j_iadd h d_Law_law_246 ?_
    refine j_sld (j := i + 2) h hS hbl d_Law_law_247 (nI_add i 2) (by omega) (by omega) ?_
    refine j_callV h (c_Mod_skew_ok X.l K K.full _ _ A D _ (MSt_pe ms (fun col h1 h2 => up_c _ _ (by omega))) N hm s hs (xs (i + 2)) hw) d_Law_law_248 ml_Law_88 mv_Mod_skew hv6 ⟨rfl, rfl⟩ rfl rfl (Nat.le_of_ble_eq_true rfl) (hRl hR (by decide) (by decide)) (hfl hR (by omega) (by omega)) ?_
    rintro _ _ _ _ ⟨rfl, rfl, rfl, D1, rfl, e70, hm1⟩
    refine j_istore h d_Law_law_251 (Nat.lt_of_lt_of_eq (m := 7) (by decide) hN.symm) ?_
    refine j_aload_n h d_Law_law_253 rfl ?_
    refine j_callV h (c_Mod_thrown X.l K K.full _ _ _ D1 _ (MSt_pe ms (fun col h1 h2 => up_c _ _ (by omega)))) d_Law_law_254 ml_Law_81 mv_Mod_thrown hv6 ⟨rfl, rfl⟩ rfl rfl (Nat.le_of_ble_eq_true rfl) (hRl hR (by decide) (by decide)) (hfl hR (by omega) (by omega)) ?_
    rintro _ _ _ _ ⟨rfl, rfl, rfl, rfl⟩
    refine j_int (v' := 0) e70 ?_
    refine j_iload h d_Law_law_257 rfl ?_
    refine j_ic_eq (tgt := 264) h d_Law_law_259 (by decide) (fun _ => ?_) (fun c => absurd rfl c)
    refine j_iload h d_Law_law_264 rfl ?_
    refine j_if_ne (tgt := 281) h d_Law_law_266 (by decide) (fun c => absurd rfl c) (fun _ => ?_)
    refine j_aload_n h d_Law_law_269 rfl ?_
    refine j_iconst (v := 0) h d_Law_law_270 (by decide) ?_
    refine j_lald (a := 40) (col := 99) (j := 0) (y := gi _) h d_Law_law_271 rfl ⟨rfl, by decide⟩ ha40 rfl (by rw [hl40]; decide) (by rw [hl40]; decide) (up_s _ _ _ _) ?_
    refine j_iload h d_Law_law_272 rfl ?_
    refine j_i2l h d_Law_law_274 ?_
    refine j_lcmp h d_Law_law_275 ?_
    refine j_if_eq (tgt := 281) h d_Law_law_276 (by decide) (fun _ => ?_) (fun c => absurd (lgc _) c)
    refine j_goto (tgt := 1247) h d_Law_law_281 (by decide) ?_
    refine j_lv (lv' := [(0, .ref b), (1, .ref (K.ad 0 0)), (2, .ref (K.ad 6 0)), (3, .ref (K.aad 40)), (4, .int (nI i))]) (lvs rfl (lvs rfl (lvs rfl (lvs rfl (lvs rfl lvs0))))) ?_
    refine j_widen (k := kc + 5) (n := ks + 30) (by omega) (by omega) ?_
    exact kt _ _ _ _ _ ⟨(CS_99 cs), ⟨_, _, (NC_99 hnc)⟩, (MSt_pe ms (fun col h1 h2 => up_c _ _ (by omega))), hm1, Inv_up inv (by decide)⟩
  · refine j_istore h d_Law_law_233 (Nat.lt_of_lt_of_eq (m := 7) (by decide) hN.symm) ?_
    refine j_aload_n h d_Law_law_235 rfl ?_
    refine j_aload_n h d_Law_law_236 rfl ?_
    refine j_iload h d_Law_law_237 rfl ?_
    refine j_iconst (v := nI 1) h d_Law_law_239 (by decide +kernel) ?_
    refine j_iadd h d_Law_law_240 ?_
    refine j_sld (j := i + 1) h hS hbl d_Law_law_241 (nI_add i 1) (by omega) (by omega) ?_
    refine j_aload_n h d_Law_law_242 rfl ?_
    refine j_iload h d_Law_law_243 rfl ?_
    refine j_iconst (v := nI 2) h d_Law_law_245 (by decide +kernel) ?_
    refine j_iadd h d_Law_law_246 ?_
    refine j_sld (j := i + 2) h hS hbl d_Law_law_247 (nI_add i 2) (by omega) (by omega) ?_
    refine j_callV h (c_Mod_skew_no X.l K K.full _ _ A D _ ms N hm (xs (i + 1)) (xs (i + 2)) (fun q => hx ⟨(is_srv _).mpr q.1, q.2⟩)) d_Law_law_248 ml_Law_88 mv_Mod_skew hv6 ⟨rfl, rfl⟩ rfl rfl (Nat.le_of_ble_eq_true rfl) (hRl hR (by decide) (by decide)) (hfl hR (by omega) (by omega)) ?_
    rintro _ _ _ _ ⟨rfl, rfl, rfl, D1, rfl, e70, hm1⟩
    refine j_istore h d_Law_law_251 (Nat.lt_of_lt_of_eq (m := 7) (by decide) hN.symm) ?_
    refine j_aload_n h d_Law_law_253 rfl ?_
    refine j_callV h (c_Mod_thrown X.l K K.full _ _ _ D1 _ ms) d_Law_law_254 ml_Law_81 mv_Mod_thrown hv6 ⟨rfl, rfl⟩ rfl rfl (Nat.le_of_ble_eq_true rfl) (hRl hR (by decide) (by decide)) (hfl hR (by omega) (by omega)) ?_
    rintro _ _ _ _ ⟨rfl, rfl, rfl, rfl⟩
    refine j_int (v' := 1) e70 ?_
    refine j_iload h d_Law_law_257 rfl ?_
    refine j_ic_eq (tgt := 264) h d_Law_law_259 (by decide) (fun _ => ?_) (fun c => absurd rfl c)
    refine j_iload h d_Law_law_264 rfl ?_
    refine j_if_ne (tgt := 281) h d_Law_law_266 (by decide) (fun _ => ?_) (fun c => absurd c (by decide))
    refine j_goto (tgt := 1247) h d_Law_law_281 (by decide) ?_
    refine j_lv (lv' := [(0, .ref b), (1, .ref (K.ad 0 0)), (2, .ref (K.ad 6 0)), (3, .ref (K.aad 40)), (4, .int (nI i))]) (lvs rfl (lvs rfl (lvs rfl (lvs rfl (lvs rfl lvs0))))) ?_
    refine j_widen (k := kc + 5) (n := ks + 30) (by omega) (by omega) ?_
    exact kt _ _ _ _ _ ⟨cs, ⟨_, _, hnc⟩, ms, hm1, inv⟩
set_option maxRecDepth 100000 in
set_option maxHeartbeats 4000000 in
theorem t_kill {X : Jx} {K : Kx} {n b L i kc ks : Nat} {ld sk : Int32} {xs : Nat → Int32} {A B D : MI} {P : MP} {N : List Msg} (E : LawE X K n b L xs) (hi : i + 5 < L) (st : ST K n ld sk A B D P N) (hkc : kc + 5 ≤ 601024) (hks : ks + 30 ≤ 7293000) (kt : KT X K n ld sk b i (kc + 5) (ks + 30)) : J X K K.full (bk4 A B A D) P kc ks 284 [(0, .ref b), (1, .ref (K.ad 0 0)), (2, .ref (K.ad 6 0)), (3, .ref (K.aad 40)), (4, .int (nI i))] [] := by
  obtain ⟨h, hN, hR, hlt, kf, hS, hbl, hL⟩ := E
  obtain ⟨cs, ⟨T, U, hnc⟩, ms, hm, inv⟩ := st
  have hv6 : K.full.1 6 0 := (kf_mod kf).1
  have hv0 : K.full.1 0 0 := (kf_lp kf).1.1
  have ha40 : K.full.2.1 40 := (kf_out kf).2.1
  have hl40 : K.alen 40 = 1 := (kf_out kf).2.2
  refine j_aload_n h d_Law_law_284 rfl ?_
  refine j_aload_n h d_Law_law_285 rfl ?_
  refine j_iload h d_Law_law_286 rfl ?_
  refine j_iconst (v := nI 1) h d_Law_law_288 (by decide +kernel) ?_
  refine j_iadd h d_Law_law_289 ?_
  refine j_sld (j := i + 1) h hS hbl d_Law_law_290 (nI_add i 1) (by omega) (by omega) ?_
  refine j_aload_n h d_Law_law_291 rfl ?_
  refine jh_callS h (c_Law_kill X.l K K.full (bk4 A B A D) P _ _ _ (c_LP_kill X.l hlt K K.full A B A D P (full_v K) n cs (xs (i + 1))) (fun V' r I' P' hq => by obtain ⟨_, _, _, e1, e2, -⟩ := hq; exact ⟨e1, _, e2⟩) ha40 hl40 hv0) d_Law_law_292 mh_Law_kill rfl rfl (Nat.le_of_ble_eq_true rfl) (hRl hR (by decide) (by decide)) (hfl hR (by omega) (by omega)) ?_
  rintro V' r I' P' (⟨rfl, v, P1, hq, rfl, rfl⟩ | ⟨rfl, hx, rfl, rfl, rfl⟩)
  · obtain ⟨s, hs, h1, -, e2, rfl, rfl⟩ := hq
    cases e2
    refine j_istore h d_Law_law_295 (Nat.lt_of_lt_of_eq (m := 7) (by decide) hN.symm) ?_
    refine j_aload_n h d_Law_law_297 rfl ?_
    refine j_aload_n h d_Law_law_298 rfl ?_
    refine j_iload h d_Law_law_299 rfl ?_
    refine j_iconst (v := nI 1) h d_Law_law_301 (by decide +kernel) ?_
    refine j_iadd h d_Law_law_302 ?_
    refine j_sld (j := i + 1) h hS hbl d_Law_law_303 (nI_add i 1) (by omega) (by omega) ?_
    refine j_int (v' := nI s) h1 ?_
    refine j_callV h (c_Mod_kill_ok X.l K K.full _ _ A D _ (MSt_pe ms (fun col h1 h2 => up_c _ _ (by omega))) N hm s hs) d_Law_law_304 ml_Law_91 mv_Mod_kill hv6 ⟨rfl, rfl⟩ rfl rfl (Nat.le_of_ble_eq_true rfl) (hRl hR (by decide) (by decide)) (hfl hR (by omega) (by omega)) ?_
    rintro _ _ _ _ ⟨rfl, rfl, rfl, D1, rfl, e70, hm1⟩
    refine j_istore h d_Law_law_307 (Nat.lt_of_lt_of_eq (m := 7) (by decide) hN.symm) ?_
    refine j_aload_n h d_Law_law_309 rfl ?_
    refine j_callV h (c_Mod_thrown X.l K K.full _ _ _ D1 _ (MSt_pe ms (fun col h1 h2 => up_c _ _ (by omega)))) d_Law_law_310 ml_Law_81 mv_Mod_thrown hv6 ⟨rfl, rfl⟩ rfl rfl (Nat.le_of_ble_eq_true rfl) (hRl hR (by decide) (by decide)) (hfl hR (by omega) (by omega)) ?_
    rintro _ _ _ _ ⟨rfl, rfl, rfl, rfl⟩
    refine j_int (v' := 0) e70 ?_
    refine j_iload h d_Law_law_313 rfl ?_
    refine j_ic_eq (tgt := 320) h d_Law_law_315 (by decide) (fun _ => ?_) (fun c => absurd rfl c)
    refine j_iload h d_Law_law_320 rfl ?_
    refine j_if_ne (tgt := 344) h d_Law_law_322 (by decide) (fun c => absurd rfl c) (fun _ => ?_)
    refine j_aload_n h d_Law_law_325 rfl ?_
    refine j_iconst (v := 0) h d_Law_law_326 (by decide) ?_
    refine j_lald (a := 40) (col := 99) (j := 0) (y := gz _) h d_Law_law_327 rfl ⟨rfl, by decide⟩ ha40 rfl (by rw [hl40]; decide) (by rw [hl40]; decide) (up_s _ _ _ _) ?_
    refine j_iload h d_Law_law_328 rfl ?_
    refine j_if_eq (tgt := 337) h d_Law_law_330 (by decide) (fun cz => ?_) (fun cz => ?_)
    · refine j_lconst (v := 0) h d_Law_law_337 (by decide) ?_
      refine j_lcmp h d_Law_law_338 ?_
      refine j_if_eq (tgt := 344) h d_Law_law_339 (by decide) (fun _ => ?_) (fun c => absurd (lgz0 cz) c)
      refine j_goto (tgt := 1247) h d_Law_law_344 (by decide) ?_
      refine j_lv (lv' := [(0, .ref b), (1, .ref (K.ad 0 0)), (2, .ref (K.ad 6 0)), (3, .ref (K.aad 40)), (4, .int (nI i))]) (lvs rfl (lvs rfl (lvs rfl (lvs rfl (lvs rfl lvs0))))) ?_
      refine j_widen (k := kc + 5) (n := ks + 30) (by omega) (by omega) ?_
      exact kt _ _ _ _ _ ⟨(CS_99 cs), ⟨_, _, (NC_99 hnc)⟩, (MSt_pe ms (fun col h1 h2 => up_c _ _ (by omega))), hm1, Inv_kill inv⟩
    · refine j_lconst (v := 1) h d_Law_law_333 (by decide) ?_
      refine j_goto (tgt := 338) h d_Law_law_334 (by decide) ?_
      refine j_lcmp h d_Law_law_338 ?_
      refine j_if_eq (tgt := 344) h d_Law_law_339 (by decide) (fun _ => ?_) (fun c => absurd (lgz1 cz) c)
      refine j_goto (tgt := 1247) h d_Law_law_344 (by decide) ?_
      refine j_lv (lv' := [(0, .ref b), (1, .ref (K.ad 0 0)), (2, .ref (K.ad 6 0)), (3, .ref (K.aad 40)), (4, .int (nI i))]) (lvs rfl (lvs rfl (lvs rfl (lvs rfl (lvs rfl lvs0))))) ?_
      refine j_widen (k := kc + 5) (n := ks + 30) (by omega) (by omega) ?_
      exact kt _ _ _ _ _ ⟨(CS_99 cs), ⟨_, _, (NC_99 hnc)⟩, (MSt_pe ms (fun col h1 h2 => up_c _ _ (by omega))), hm1, Inv_kill inv⟩
  · refine j_istore h d_Law_law_295 (Nat.lt_of_lt_of_eq (m := 7) (by decide) hN.symm) ?_
    refine j_aload_n h d_Law_law_297 rfl ?_
    refine j_aload_n h d_Law_law_298 rfl ?_
    refine j_iload h d_Law_law_299 rfl ?_
    refine j_iconst (v := nI 1) h d_Law_law_301 (by decide +kernel) ?_
    refine j_iadd h d_Law_law_302 ?_
    refine j_sld (j := i + 1) h hS hbl d_Law_law_303 (nI_add i 1) (by omega) (by omega) ?_
    refine j_callV h (c_Mod_kill_no X.l K K.full _ _ A D _ ms N hm (xs (i + 1)) (fun q => hx ((is_srv _).mpr q))) d_Law_law_304 ml_Law_91 mv_Mod_kill hv6 ⟨rfl, rfl⟩ rfl rfl (Nat.le_of_ble_eq_true rfl) (hRl hR (by decide) (by decide)) (hfl hR (by omega) (by omega)) ?_
    rintro _ _ _ _ ⟨rfl, rfl, rfl, D1, rfl, e70, hm1⟩
    refine j_istore h d_Law_law_307 (Nat.lt_of_lt_of_eq (m := 7) (by decide) hN.symm) ?_
    refine j_aload_n h d_Law_law_309 rfl ?_
    refine j_callV h (c_Mod_thrown X.l K K.full _ _ _ D1 _ ms) d_Law_law_310 ml_Law_81 mv_Mod_thrown hv6 ⟨rfl, rfl⟩ rfl rfl (Nat.le_of_ble_eq_true rfl) (hRl hR (by decide) (by decide)) (hfl hR (by omega) (by omega)) ?_
    rintro _ _ _ _ ⟨rfl, rfl, rfl, rfl⟩
    refine j_int (v' := 1) e70 ?_
    refine j_iload h d_Law_law_313 rfl ?_
    refine j_ic_eq (tgt := 320) h d_Law_law_315 (by decide) (fun _ => ?_) (fun c => absurd rfl c)
    refine j_iload h d_Law_law_320 rfl ?_
    refine j_if_ne (tgt := 344) h d_Law_law_322 (by decide) (fun _ => ?_) (fun c => absurd c (by decide))
    refine j_goto (tgt := 1247) h d_Law_law_344 (by decide) ?_
    refine j_lv (lv' := [(0, .ref b), (1, .ref (K.ad 0 0)), (2, .ref (K.ad 6 0)), (3, .ref (K.aad 40)), (4, .int (nI i))]) (lvs rfl (lvs rfl (lvs rfl (lvs rfl (lvs rfl lvs0))))) ?_
    refine j_widen (k := kc + 5) (n := ks + 30) (by omega) (by omega) ?_
    exact kt _ _ _ _ _ ⟨cs, ⟨_, _, hnc⟩, ms, hm1, inv⟩
set_option maxRecDepth 100000 in
set_option maxHeartbeats 4000000 in
theorem t_fuse {X : Jx} {K : Kx} {n b L i kc ks : Nat} {ld sk : Int32} {xs : Nat → Int32} {A B D : MI} {P : MP} {N : List Msg} (E : LawE X K n b L xs) (hi : i + 5 < L) (st : ST K n ld sk A B D P N) (hkc : kc + 5 ≤ 601024) (hks : ks + 30 ≤ 7293000) (kt : KT X K n ld sk b i (kc + 5) (ks + 30)) : J X K K.full (bk4 A B A D) P kc ks 347 [(0, .ref b), (1, .ref (K.ad 0 0)), (2, .ref (K.ad 6 0)), (3, .ref (K.aad 40)), (4, .int (nI i))] [] := by
  obtain ⟨h, hN, hR, hlt, kf, hS, hbl, hL⟩ := E
  obtain ⟨cs, ⟨T, U, hnc⟩, ms, hm, inv⟩ := st
  have hv6 : K.full.1 6 0 := (kf_mod kf).1
  have hv0 : K.full.1 0 0 := (kf_lp kf).1.1
  have ha40 : K.full.2.1 40 := (kf_out kf).2.1
  have hl40 : K.alen 40 = 1 := (kf_out kf).2.2
  refine j_aload_n h d_Law_law_347 rfl ?_
  refine j_aload_n h d_Law_law_348 rfl ?_
  refine j_iload h d_Law_law_349 rfl ?_
  refine j_iconst (v := nI 1) h d_Law_law_351 (by decide +kernel) ?_
  refine j_iadd h d_Law_law_352 ?_
  refine j_sld (j := i + 1) h hS hbl d_Law_law_353 (nI_add i 1) (by omega) (by omega) ?_
  refine j_aload_n h d_Law_law_354 rfl ?_
  refine j_iload h d_Law_law_355 rfl ?_
  refine j_iconst (v := nI 2) h d_Law_law_357 (by decide +kernel) ?_
  refine j_iadd h d_Law_law_358 ?_
  refine j_sld (j := i + 2) h hS hbl d_Law_law_359 (nI_add i 2) (by omega) (by omega) ?_
  refine jh_callS h (c_Law_fuse X.l K K.full (bk4 A B A D) P _ _ _ _ (c_LP_fuse X.l hlt K K.full A B A D P (full_v K) n cs (xs (i + 1)) (xs (i + 2))) (fun V' r I' P' hq => by obtain ⟨_, _, _, _, e1, e2, -⟩ := hq; exact ⟨e1, e2⟩) hv0) d_Law_law_360 mh_Law_fuse rfl rfl (Nat.le_of_ble_eq_true rfl) (hRl hR (by decide) (by decide)) (hfl hR (by omega) (by omega)) ?_
  rintro V' r I' P' (⟨rfl, hq, rfl⟩ | ⟨rfl, hx, rfl, rfl, rfl⟩)
  · obtain ⟨s, hs, h1, hw, -, -, rfl, rfl⟩ := hq
    refine j_istore h d_Law_law_363 (Nat.lt_of_lt_of_eq (m := 7) (by decide) hN.symm) ?_
    refine j_aload_n h d_Law_law_365 rfl ?_
    refine j_aload_n h d_Law_law_366 rfl ?_
    refine j_iload h d_Law_law_367 rfl ?_
    refine j_iconst (v := nI 1) h d_Law_law_369 (by decide +kernel) ?_
    refine j_iadd h d_Law_law_370 ?_
    refine j_sld (j := i + 1) h hS hbl d_Law_law_371 (nI_add i 1) (by omega) (by omega) ?_
    refine j_int (v' := nI s) h1 ?_
    refine j_aload_n h d_Law_law_372 rfl ?_
    refine j_iload h d_Law_law_373 rfl ?_
    refine j_iconst (v := nI 2) h d_Law_law_375 (by decide +kernel) ?_
    refine j_iadd h d_Law_law_376 ?_
    refine j_sld (j := i + 2) h hS hbl d_Law_law_377 (nI_add i 2) (by omega) (by omega) ?_
    refine j_callV h (c_Mod_fuse_ok X.l K K.full _ _ A D _ ms N hm s hs (xs (i + 2)) hw) d_Law_law_378 ml_Law_95 mv_Mod_fuse hv6 ⟨rfl, rfl⟩ rfl rfl (Nat.le_of_ble_eq_true rfl) (hRl hR (by decide) (by decide)) (hfl hR (by omega) (by omega)) ?_
    rintro _ _ _ _ ⟨rfl, rfl, rfl, D1, rfl, e70, hm1⟩
    refine j_aload_n h d_Law_law_381 rfl ?_
    refine j_callV h (c_Mod_thrown X.l K K.full _ _ _ D1 _ ms) d_Law_law_382 ml_Law_81 mv_Mod_thrown hv6 ⟨rfl, rfl⟩ rfl rfl (Nat.le_of_ble_eq_true rfl) (hRl hR (by decide) (by decide)) (hfl hR (by omega) (by omega)) ?_
    rintro _ _ _ _ ⟨rfl, rfl, rfl, rfl⟩
    refine j_int (v' := 0) e70 ?_
    refine j_iload h d_Law_law_385 rfl ?_
    refine j_ic_eq (tgt := 392) h d_Law_law_387 (by decide) (fun _ => ?_) (fun c => absurd rfl c)
    refine j_goto (tgt := 1247) h d_Law_law_392 (by decide) ?_
    refine j_lv (lv' := [(0, .ref b), (1, .ref (K.ad 0 0)), (2, .ref (K.ad 6 0)), (3, .ref (K.aad 40)), (4, .int (nI i))]) (lvs rfl (lvs rfl (lvs rfl (lvs rfl (lvs rfl lvs0))))) ?_
    refine j_widen (k := kc + 5) (n := ks + 30) (by omega) (by omega) ?_
    exact kt _ _ _ _ _ ⟨cs, ⟨_, _, hnc⟩, ms, hm1, Inv_up inv (by decide)⟩
  · refine j_istore h d_Law_law_363 (Nat.lt_of_lt_of_eq (m := 7) (by decide) hN.symm) ?_
    refine j_aload_n h d_Law_law_365 rfl ?_
    refine j_aload_n h d_Law_law_366 rfl ?_
    refine j_iload h d_Law_law_367 rfl ?_
    refine j_iconst (v := nI 1) h d_Law_law_369 (by decide +kernel) ?_
    refine j_iadd h d_Law_law_370 ?_
    refine j_sld (j := i + 1) h hS hbl d_Law_law_371 (nI_add i 1) (by omega) (by omega) ?_
    refine j_aload_n h d_Law_law_372 rfl ?_
    refine j_iload h d_Law_law_373 rfl ?_
    refine j_iconst (v := nI 2) h d_Law_law_375 (by decide +kernel) ?_
    refine j_iadd h d_Law_law_376 ?_
    refine j_sld (j := i + 2) h hS hbl d_Law_law_377 (nI_add i 2) (by omega) (by omega) ?_
    refine j_callV h (c_Mod_fuse_no X.l K K.full _ _ A D _ ms N hm (xs (i + 1)) (xs (i + 2)) (fun q => hx ⟨(is_srv _).mpr q.1, q.2⟩)) d_Law_law_378 ml_Law_95 mv_Mod_fuse hv6 ⟨rfl, rfl⟩ rfl rfl (Nat.le_of_ble_eq_true rfl) (hRl hR (by decide) (by decide)) (hfl hR (by omega) (by omega)) ?_
    rintro _ _ _ _ ⟨rfl, rfl, rfl, D1, rfl, e70, hm1⟩
    refine j_aload_n h d_Law_law_381 rfl ?_
    refine j_callV h (c_Mod_thrown X.l K K.full _ _ _ D1 _ ms) d_Law_law_382 ml_Law_81 mv_Mod_thrown hv6 ⟨rfl, rfl⟩ rfl rfl (Nat.le_of_ble_eq_true rfl) (hRl hR (by decide) (by decide)) (hfl hR (by omega) (by omega)) ?_
    rintro _ _ _ _ ⟨rfl, rfl, rfl, rfl⟩
    refine j_int (v' := 1) e70 ?_
    refine j_iload h d_Law_law_385 rfl ?_
    refine j_ic_eq (tgt := 392) h d_Law_law_387 (by decide) (fun _ => ?_) (fun c => absurd rfl c)
    refine j_goto (tgt := 1247) h d_Law_law_392 (by decide) ?_
    refine j_lv (lv' := [(0, .ref b), (1, .ref (K.ad 0 0)), (2, .ref (K.ad 6 0)), (3, .ref (K.aad 40)), (4, .int (nI i))]) (lvs rfl (lvs rfl (lvs rfl (lvs rfl (lvs rfl lvs0))))) ?_
    refine j_widen (k := kc + 5) (n := ks + 30) (by omega) (by omega) ?_
    exact kt _ _ _ _ _ ⟨cs, ⟨_, _, hnc⟩, ms, hm1, inv⟩
set_option maxRecDepth 100000 in
set_option maxHeartbeats 4000000 in
theorem t_start {X : Jx} {K : Kx} {n b L i kc ks : Nat} {ld sk : Int32} {xs : Nat → Int32} {A B D : MI} {P : MP} {N : List Msg} (E : LawE X K n b L xs) (hi : i + 5 < L) (st : ST K n ld sk A B D P N) (hkc : kc + 5 ≤ 601024) (hks : ks + 30 ≤ 7293000) (kt : KT X K n ld sk b i (kc + 5) (ks + 30)) : J X K K.full (bk4 A B A D) P kc ks 395 [(0, .ref b), (1, .ref (K.ad 0 0)), (2, .ref (K.ad 6 0)), (3, .ref (K.aad 40)), (4, .int (nI i))] [] := by
  obtain ⟨h, hN, hR, hlt, kf, hS, hbl, hL⟩ := E
  obtain ⟨cs, ⟨T, U, hnc⟩, ms, hm, inv⟩ := st
  have hv6 : K.full.1 6 0 := (kf_mod kf).1
  have hv0 : K.full.1 0 0 := (kf_lp kf).1.1
  have ha40 : K.full.2.1 40 := (kf_out kf).2.1
  have hl40 : K.alen 40 = 1 := (kf_out kf).2.2
  refine j_aload_n h d_Law_law_395 rfl ?_
  refine j_aload_n h d_Law_law_396 rfl ?_
  refine j_iload h d_Law_law_397 rfl ?_
  refine j_iconst (v := nI 1) h d_Law_law_399 (by decide +kernel) ?_
  refine j_iadd h d_Law_law_400 ?_
  refine j_sld (j := i + 1) h hS hbl d_Law_law_401 (nI_add i 1) (by omega) (by omega) ?_
  refine j_aload_n h d_Law_law_402 rfl ?_
  refine jh_callS h (c_Law_start X.l K K.full (bk4 A B A D) P _ _ _ (c_LP_start X.l hlt K K.full A B A D P (full_v K) n cs ld sk N T U hnc (xs (i + 1))) (fun V' r I' P' hq => by obtain ⟨_, _, _, e1, e2, -⟩ := hq; exact ⟨e1, _, e2⟩) ha40 hl40 hv0) d_Law_law_403 mh_Law_start rfl rfl (Nat.le_of_ble_eq_true rfl) (hRl hR (by decide) (by decide)) (hfl hR (by omega) (by omega)) ?_
  rintro V' r I' P' (⟨rfl, v, P1, hq, rfl, rfl⟩ | ⟨rfl, hx, rfl, rfl, rfl⟩)
  · obtain ⟨s, hs, h1, -, e2, rfl, B1, rfl, hnc1⟩ := hq
    cases e2
    refine j_istore h d_Law_law_406 (Nat.lt_of_lt_of_eq (m := 7) (by decide) hN.symm) ?_
    refine j_aload_n h d_Law_law_408 rfl ?_
    refine j_aload_n h d_Law_law_409 rfl ?_
    refine j_iload h d_Law_law_410 rfl ?_
    refine j_iconst (v := nI 1) h d_Law_law_412 (by decide +kernel) ?_
    refine j_iadd h d_Law_law_413 ?_
    refine j_sld (j := i + 1) h hS hbl d_Law_law_414 (nI_add i 1) (by omega) (by omega) ?_
    refine j_int (v' := nI s) h1 ?_
    refine j_callV h (c_Mod_start_ok X.l K K.full _ _ A D _ (MSt_pe ms (fun col h1 h2 => up_c _ _ (by omega))) N hm n ld sk inv.1 s hs) d_Law_law_415 ml_Law_98 mv_Mod_start hv6 ⟨rfl, rfl⟩ rfl rfl (Nat.le_of_ble_eq_true rfl) (hRl hR (by decide) (by decide)) (hfl hR (by omega) (by omega)) ?_
    rintro _ _ _ _ ⟨rfl, rfl, rfl, D1, rfl, e70, hm1⟩
    refine j_istore h d_Law_law_418 (Nat.lt_of_lt_of_eq (m := 7) (by decide) hN.symm) ?_
    refine j_aload_n h d_Law_law_420 rfl ?_
    refine j_callV h (c_Mod_thrown X.l K K.full _ _ _ D1 _ (MSt_pe ms (fun col h1 h2 => up_c _ _ (by omega)))) d_Law_law_421 ml_Law_81 mv_Mod_thrown hv6 ⟨rfl, rfl⟩ rfl rfl (Nat.le_of_ble_eq_true rfl) (hRl hR (by decide) (by decide)) (hfl hR (by omega) (by omega)) ?_
    rintro _ _ _ _ ⟨rfl, rfl, rfl, rfl⟩
    refine j_int (v' := 0) e70 ?_
    refine j_iload h d_Law_law_424 rfl ?_
    refine j_ic_eq (tgt := 431) h d_Law_law_426 (by decide) (fun _ => ?_) (fun c => absurd rfl c)
    refine j_iload h d_Law_law_431 rfl ?_
    refine j_if_ne (tgt := 455) h d_Law_law_433 (by decide) (fun c => absurd rfl c) (fun _ => ?_)
    refine j_aload_n h d_Law_law_436 rfl ?_
    refine j_iconst (v := 0) h d_Law_law_437 (by decide) ?_
    refine j_lald (a := 40) (col := 99) (j := 0) (y := gz _) h d_Law_law_438 rfl ⟨rfl, by decide⟩ ha40 rfl (by rw [hl40]; decide) (by rw [hl40]; decide) (up_s _ _ _ _) ?_
    refine j_iload h d_Law_law_439 rfl ?_
    refine j_if_eq (tgt := 448) h d_Law_law_441 (by decide) (fun cz => ?_) (fun cz => ?_)
    · refine j_lconst (v := 0) h d_Law_law_448 (by decide) ?_
      refine j_lcmp h d_Law_law_449 ?_
      refine j_if_eq (tgt := 455) h d_Law_law_450 (by decide) (fun _ => ?_) (fun c => absurd (lgz0 cz) c)
      refine j_goto (tgt := 1247) h d_Law_law_455 (by decide) ?_
      refine j_lv (lv' := [(0, .ref b), (1, .ref (K.ad 0 0)), (2, .ref (K.ad 6 0)), (3, .ref (K.aad 40)), (4, .int (nI i))]) (lvs rfl (lvs rfl (lvs rfl (lvs rfl (lvs rfl lvs0))))) ?_
      refine j_widen (k := kc + 5) (n := ks + 30) (by omega) (by omega) ?_
      exact kt _ _ _ _ _ ⟨(CS_99 cs), ⟨_, _, (NC_99 hnc1)⟩, (MSt_pe ms (fun col h1 h2 => up_c _ _ (by omega))), hm1, Inv_start inv hs⟩
    · refine j_lconst (v := 1) h d_Law_law_444 (by decide) ?_
      refine j_goto (tgt := 449) h d_Law_law_445 (by decide) ?_
      refine j_lcmp h d_Law_law_449 ?_
      refine j_if_eq (tgt := 455) h d_Law_law_450 (by decide) (fun _ => ?_) (fun c => absurd (lgz1 cz) c)
      refine j_goto (tgt := 1247) h d_Law_law_455 (by decide) ?_
      refine j_lv (lv' := [(0, .ref b), (1, .ref (K.ad 0 0)), (2, .ref (K.ad 6 0)), (3, .ref (K.aad 40)), (4, .int (nI i))]) (lvs rfl (lvs rfl (lvs rfl (lvs rfl (lvs rfl lvs0))))) ?_
      refine j_widen (k := kc + 5) (n := ks + 30) (by omega) (by omega) ?_
      exact kt _ _ _ _ _ ⟨(CS_99 cs), ⟨_, _, (NC_99 hnc1)⟩, (MSt_pe ms (fun col h1 h2 => up_c _ _ (by omega))), hm1, Inv_start inv hs⟩
  · refine j_istore h d_Law_law_406 (Nat.lt_of_lt_of_eq (m := 7) (by decide) hN.symm) ?_
    refine j_aload_n h d_Law_law_408 rfl ?_
    refine j_aload_n h d_Law_law_409 rfl ?_
    refine j_iload h d_Law_law_410 rfl ?_
    refine j_iconst (v := nI 1) h d_Law_law_412 (by decide +kernel) ?_
    refine j_iadd h d_Law_law_413 ?_
    refine j_sld (j := i + 1) h hS hbl d_Law_law_414 (nI_add i 1) (by omega) (by omega) ?_
    refine j_callV h (c_Mod_start_no X.l K K.full _ _ A D _ ms N hm (xs (i + 1)) (fun q => hx ((is_srv _).mpr q))) d_Law_law_415 ml_Law_98 mv_Mod_start hv6 ⟨rfl, rfl⟩ rfl rfl (Nat.le_of_ble_eq_true rfl) (hRl hR (by decide) (by decide)) (hfl hR (by omega) (by omega)) ?_
    rintro _ _ _ _ ⟨rfl, rfl, rfl, D1, rfl, e70, hm1⟩
    refine j_istore h d_Law_law_418 (Nat.lt_of_lt_of_eq (m := 7) (by decide) hN.symm) ?_
    refine j_aload_n h d_Law_law_420 rfl ?_
    refine j_callV h (c_Mod_thrown X.l K K.full _ _ _ D1 _ ms) d_Law_law_421 ml_Law_81 mv_Mod_thrown hv6 ⟨rfl, rfl⟩ rfl rfl (Nat.le_of_ble_eq_true rfl) (hRl hR (by decide) (by decide)) (hfl hR (by omega) (by omega)) ?_
    rintro _ _ _ _ ⟨rfl, rfl, rfl, rfl⟩
    refine j_int (v' := 1) e70 ?_
    refine j_iload h d_Law_law_424 rfl ?_
    refine j_ic_eq (tgt := 431) h d_Law_law_426 (by decide) (fun _ => ?_) (fun c => absurd rfl c)
    refine j_iload h d_Law_law_431 rfl ?_
    refine j_if_ne (tgt := 455) h d_Law_law_433 (by decide) (fun _ => ?_) (fun c => absurd c (by decide))
    refine j_goto (tgt := 1247) h d_Law_law_455 (by decide) ?_
    refine j_lv (lv' := [(0, .ref b), (1, .ref (K.ad 0 0)), (2, .ref (K.ad 6 0)), (3, .ref (K.aad 40)), (4, .int (nI i))]) (lvs rfl (lvs rfl (lvs rfl (lvs rfl (lvs rfl lvs0))))) ?_
    refine j_widen (k := kc + 5) (n := ks + 30) (by omega) (by omega) ?_
    exact kt _ _ _ _ _ ⟨cs, ⟨_, _, hnc⟩, ms, hm1, inv⟩
set_option maxRecDepth 100000 in
set_option maxHeartbeats 4000000 in
theorem t_partnerDown {X : Jx} {K : Kx} {n b L i kc ks : Nat} {ld sk : Int32} {xs : Nat → Int32} {A B D : MI} {P : MP} {N : List Msg} (E : LawE X K n b L xs) (hi : i + 5 < L) (st : ST K n ld sk A B D P N) (hkc : kc + 5 ≤ 601024) (hks : ks + 30 ≤ 7293000) (kt : KT X K n ld sk b i (kc + 5) (ks + 30)) : J X K K.full (bk4 A B A D) P kc ks 458 [(0, .ref b), (1, .ref (K.ad 0 0)), (2, .ref (K.ad 6 0)), (3, .ref (K.aad 40)), (4, .int (nI i))] [] := by
  obtain ⟨h, hN, hR, hlt, kf, hS, hbl, hL⟩ := E
  obtain ⟨cs, ⟨T, U, hnc⟩, ms, hm, inv⟩ := st
  have hv6 : K.full.1 6 0 := (kf_mod kf).1
  have hv0 : K.full.1 0 0 := (kf_lp kf).1.1
  have ha40 : K.full.2.1 40 := (kf_out kf).2.1
  have hl40 : K.alen 40 = 1 := (kf_out kf).2.2
  refine j_aload_n h d_Law_law_458 rfl ?_
  refine j_aload_n h d_Law_law_459 rfl ?_
  refine j_iload h d_Law_law_460 rfl ?_
  refine j_iconst (v := nI 1) h d_Law_law_462 (by decide +kernel) ?_
  refine j_iadd h d_Law_law_463 ?_
  refine j_sld (j := i + 1) h hS hbl d_Law_law_464 (nI_add i 1) (by omega) (by omega) ?_
  refine j_aload_n h d_Law_law_465 rfl ?_
  refine jh_callS h (c_Law_partnerDown X.l K K.full (bk4 A B A D) P _ _ _ (c_LP_partnerDown X.l hlt K K.full A B A D P (full_v K) n cs ld sk hnc.1 (xs (i + 1))) (fun V' r I' P' hq => by obtain ⟨_, _, _, e1, e2, -⟩ := hq; exact ⟨e1, _, e2⟩) ha40 hl40 hv0) d_Law_law_466 mh_Law_partnerDown rfl rfl (Nat.le_of_ble_eq_true rfl) (hRl hR (by decide) (by decide)) (hfl hR (by omega) (by omega)) ?_
  rintro V' r I' P' (⟨rfl, v, P1, hq, rfl, rfl⟩ | ⟨rfl, hx, rfl, rfl, rfl⟩)
  · obtain ⟨s, hs, h1, -, e2, rfl, rfl⟩ := hq
    cases e2
    refine j_istore h d_Law_law_469 (Nat.lt_of_lt_of_eq (m := 7) (by decide) hN.symm) ?_
    refine j_aload_n h d_Law_law_471 rfl ?_
    refine j_aload_n h d_Law_law_472 rfl ?_
    refine j_iload h d_Law_law_473 rfl ?_
    refine j_iconst (v := nI 1) h d_Law_law_475 (by decide +kernel) ?_
    refine j_iadd h d_Law_law_476 ?_
    refine j_sld (j := i + 1) h hS hbl d_Law_law_477 (nI_add i 1) (by omega) (by omega) ?_
    refine j_int (v' := nI s) h1 ?_
    refine j_callV h (c_Mod_partnerDown_ok X.l K K.full _ _ A D _ (MSt_pe ms (fun col h1 h2 => up_c _ _ (by omega))) N hm n ld sk inv.1 s hs) d_Law_law_478 ml_Law_101 mv_Mod_partnerDown hv6 ⟨rfl, rfl⟩ rfl rfl (Nat.le_of_ble_eq_true rfl) (hRl hR (by decide) (by decide)) (hfl hR (by omega) (by omega)) ?_
    rintro _ _ _ _ ⟨rfl, rfl, rfl, D1, rfl, e70, hm1⟩
    refine j_istore h d_Law_law_481 (Nat.lt_of_lt_of_eq (m := 7) (by decide) hN.symm) ?_
    refine j_aload_n h d_Law_law_483 rfl ?_
    refine j_callV h (c_Mod_thrown X.l K K.full _ _ _ D1 _ (MSt_pe ms (fun col h1 h2 => up_c _ _ (by omega)))) d_Law_law_484 ml_Law_81 mv_Mod_thrown hv6 ⟨rfl, rfl⟩ rfl rfl (Nat.le_of_ble_eq_true rfl) (hRl hR (by decide) (by decide)) (hfl hR (by omega) (by omega)) ?_
    rintro _ _ _ _ ⟨rfl, rfl, rfl, rfl⟩
    refine j_int (v' := 0) e70 ?_
    refine j_iload h d_Law_law_487 rfl ?_
    refine j_ic_eq (tgt := 494) h d_Law_law_489 (by decide) (fun _ => ?_) (fun c => absurd rfl c)
    refine j_iload h d_Law_law_494 rfl ?_
    refine j_if_ne (tgt := 518) h d_Law_law_496 (by decide) (fun c => absurd rfl c) (fun _ => ?_)
    refine j_aload_n h d_Law_law_499 rfl ?_
    refine j_iconst (v := 0) h d_Law_law_500 (by decide) ?_
    refine j_lald (a := 40) (col := 99) (j := 0) (y := gz _) h d_Law_law_501 rfl ⟨rfl, by decide⟩ ha40 rfl (by rw [hl40]; decide) (by rw [hl40]; decide) (up_s _ _ _ _) ?_
    refine j_iload h d_Law_law_502 rfl ?_
    refine j_if_eq (tgt := 511) h d_Law_law_504 (by decide) (fun cz => ?_) (fun cz => ?_)
    · refine j_lconst (v := 0) h d_Law_law_511 (by decide) ?_
      refine j_lcmp h d_Law_law_512 ?_
      refine j_if_eq (tgt := 518) h d_Law_law_513 (by decide) (fun _ => ?_) (fun c => absurd (lgz0 cz) c)
      refine j_goto (tgt := 1247) h d_Law_law_518 (by decide) ?_
      refine j_lv (lv' := [(0, .ref b), (1, .ref (K.ad 0 0)), (2, .ref (K.ad 6 0)), (3, .ref (K.aad 40)), (4, .int (nI i))]) (lvs rfl (lvs rfl (lvs rfl (lvs rfl (lvs rfl lvs0))))) ?_
      refine j_widen (k := kc + 5) (n := ks + 30) (by omega) (by omega) ?_
      exact kt _ _ _ _ _ ⟨(CS_99 cs), ⟨_, _, (NC_99 hnc)⟩, (MSt_pe ms (fun col h1 h2 => up_c _ _ (by omega))), hm1, Inv_partnerDown inv⟩
    · refine j_lconst (v := 1) h d_Law_law_507 (by decide) ?_
      refine j_goto (tgt := 512) h d_Law_law_508 (by decide) ?_
      refine j_lcmp h d_Law_law_512 ?_
      refine j_if_eq (tgt := 518) h d_Law_law_513 (by decide) (fun _ => ?_) (fun c => absurd (lgz1 cz) c)
      refine j_goto (tgt := 1247) h d_Law_law_518 (by decide) ?_
      refine j_lv (lv' := [(0, .ref b), (1, .ref (K.ad 0 0)), (2, .ref (K.ad 6 0)), (3, .ref (K.aad 40)), (4, .int (nI i))]) (lvs rfl (lvs rfl (lvs rfl (lvs rfl (lvs rfl lvs0))))) ?_
      refine j_widen (k := kc + 5) (n := ks + 30) (by omega) (by omega) ?_
      exact kt _ _ _ _ _ ⟨(CS_99 cs), ⟨_, _, (NC_99 hnc)⟩, (MSt_pe ms (fun col h1 h2 => up_c _ _ (by omega))), hm1, Inv_partnerDown inv⟩
  · refine j_istore h d_Law_law_469 (Nat.lt_of_lt_of_eq (m := 7) (by decide) hN.symm) ?_
    refine j_aload_n h d_Law_law_471 rfl ?_
    refine j_aload_n h d_Law_law_472 rfl ?_
    refine j_iload h d_Law_law_473 rfl ?_
    refine j_iconst (v := nI 1) h d_Law_law_475 (by decide +kernel) ?_
    refine j_iadd h d_Law_law_476 ?_
    refine j_sld (j := i + 1) h hS hbl d_Law_law_477 (nI_add i 1) (by omega) (by omega) ?_
    refine j_callV h (c_Mod_partnerDown_no X.l K K.full _ _ A D _ ms N hm (xs (i + 1)) (fun q => hx ((is_srv _).mpr q))) d_Law_law_478 ml_Law_101 mv_Mod_partnerDown hv6 ⟨rfl, rfl⟩ rfl rfl (Nat.le_of_ble_eq_true rfl) (hRl hR (by decide) (by decide)) (hfl hR (by omega) (by omega)) ?_
    rintro _ _ _ _ ⟨rfl, rfl, rfl, D1, rfl, e70, hm1⟩
    refine j_istore h d_Law_law_481 (Nat.lt_of_lt_of_eq (m := 7) (by decide) hN.symm) ?_
    refine j_aload_n h d_Law_law_483 rfl ?_
    refine j_callV h (c_Mod_thrown X.l K K.full _ _ _ D1 _ ms) d_Law_law_484 ml_Law_81 mv_Mod_thrown hv6 ⟨rfl, rfl⟩ rfl rfl (Nat.le_of_ble_eq_true rfl) (hRl hR (by decide) (by decide)) (hfl hR (by omega) (by omega)) ?_
    rintro _ _ _ _ ⟨rfl, rfl, rfl, rfl⟩
    refine j_int (v' := 1) e70 ?_
    refine j_iload h d_Law_law_487 rfl ?_
    refine j_ic_eq (tgt := 494) h d_Law_law_489 (by decide) (fun _ => ?_) (fun c => absurd rfl c)
    refine j_iload h d_Law_law_494 rfl ?_
    refine j_if_ne (tgt := 518) h d_Law_law_496 (by decide) (fun _ => ?_) (fun c => absurd c (by decide))
    refine j_goto (tgt := 1247) h d_Law_law_518 (by decide) ?_
    refine j_lv (lv' := [(0, .ref b), (1, .ref (K.ad 0 0)), (2, .ref (K.ad 6 0)), (3, .ref (K.aad 40)), (4, .int (nI i))]) (lvs rfl (lvs rfl (lvs rfl (lvs rfl (lvs rfl lvs0))))) ?_
    refine j_widen (k := kc + 5) (n := ks + 30) (by omega) (by omega) ?_
    exact kt _ _ _ _ _ ⟨cs, ⟨_, _, hnc⟩, ms, hm1, inv⟩
set_option maxRecDepth 100000 in
set_option maxHeartbeats 4000000 in
theorem t_ask {X : Jx} {K : Kx} {n b L i kc ks : Nat} {ld sk : Int32} {xs : Nat → Int32} {A B D : MI} {P : MP} {N : List Msg} (E : LawE X K n b L xs) (hi : i + 5 < L) (st : ST K n ld sk A B D P N) (hkc : kc + 5 ≤ 601024) (hks : ks + 30 ≤ 7293000) (kt : KT X K n ld sk b i (kc + 5) (ks + 30)) : J X K K.full (bk4 A B A D) P kc ks 521 [(0, .ref b), (1, .ref (K.ad 0 0)), (2, .ref (K.ad 6 0)), (3, .ref (K.aad 40)), (4, .int (nI i))] [] := by
  obtain ⟨h, hN, hR, hlt, kf, hS, hbl, hL⟩ := E
  obtain ⟨cs, ⟨T, U, hnc⟩, ms, hm, inv⟩ := st
  have hv6 : K.full.1 6 0 := (kf_mod kf).1
  have hv0 : K.full.1 0 0 := (kf_lp kf).1.1
  have ha40 : K.full.2.1 40 := (kf_out kf).2.1
  have hl40 : K.alen 40 = 1 := (kf_out kf).2.2
  refine j_aload_n h d_Law_law_521 rfl ?_
  refine j_aload_n h d_Law_law_522 rfl ?_
  refine j_iload h d_Law_law_523 rfl ?_
  refine j_iconst (v := nI 1) h d_Law_law_525 (by decide +kernel) ?_
  refine j_iadd h d_Law_law_526 ?_
  refine j_sld (j := i + 1) h hS hbl d_Law_law_527 (nI_add i 1) (by omega) (by omega) ?_
  refine j_aload_n h d_Law_law_528 rfl ?_
  refine j_iload h d_Law_law_529 rfl ?_
  refine j_iconst (v := nI 2) h d_Law_law_531 (by decide +kernel) ?_
  refine j_iadd h d_Law_law_532 ?_
  refine j_sld (j := i + 2) h hS hbl d_Law_law_533 (nI_add i 2) (by omega) (by omega) ?_
  refine j_aload_n h d_Law_law_534 rfl ?_
  refine j_iload h d_Law_law_535 rfl ?_
  refine j_iconst (v := nI 3) h d_Law_law_537 (by decide +kernel) ?_
  refine j_iadd h d_Law_law_538 ?_
  refine j_sld (j := i + 3) h hS hbl d_Law_law_539 (nI_add i 3) (by omega) (by omega) ?_
  refine j_aload_n h d_Law_law_540 rfl ?_
  refine j_iload h d_Law_law_541 rfl ?_
  refine j_iconst (v := nI 4) h d_Law_law_543 (by decide +kernel) ?_
  refine j_iadd h d_Law_law_544 ?_
  refine j_sld (j := i + 4) h hS hbl d_Law_law_545 (nI_add i 4) (by omega) (by omega) ?_
  refine j_aload_n h d_Law_law_546 rfl ?_
  refine j_iload h d_Law_law_547 rfl ?_
  refine j_iconst (v := nI 5) h d_Law_law_549 (by decide +kernel) ?_
  refine j_iadd h d_Law_law_550 ?_
  refine j_sld (j := i + 5) h hS hbl d_Law_law_551 (nI_add i 5) (by omega) (by omega) ?_
  refine j_aload_n h d_Law_law_552 rfl ?_
  refine jh_callS h (c_Law_ask X.l K K.full (bk4 A B A D) P _ _ _ _ _ _ _ (c_LP_ask X.l hlt K K.full A B A D P (full_v K) n cs ld sk N T U hnc inv.1.2.1 (xs (i + 1)) (xs (i + 2)) (xs (i + 3)) (xs (i + 4)) (xs (i + 5))) (fun V' r I' P' hq => by obtain ⟨_, _, _, _, _, _, _, _, _, _, _, e1, e2, -⟩ := hq; exact ⟨e1, _, e2⟩) ha40 hl40 hv0) d_Law_law_553 mh_Law_ask rfl rfl (Nat.le_of_ble_eq_true rfl) (hRl hR (by decide) (by decide)) (hfl hR (by omega) (by omega)) ?_
  rintro V' r I' P' (⟨rfl, v, P1, hq, rfl, rfl⟩ | ⟨rfl, hx, rfl, rfl, rfl⟩)
  · obtain ⟨c0, s, a, hc0, h1, hk, hs, h3, ha, h4, h5, -, e2, rfl, B1, rfl, hnc1⟩ := hq
    cases e2
    obtain ⟨k, hk3, h2⟩ := wn_nat (b := 2) (by decide) hk
    rw [h2] at hnc1 ⊢
    refine j_istore h d_Law_law_556 (Nat.lt_of_lt_of_eq (m := 7) (by decide) hN.symm) ?_
    refine j_aload_n h d_Law_law_558 rfl ?_
    refine j_aload_n h d_Law_law_559 rfl ?_
    refine j_iload h d_Law_law_560 rfl ?_
    refine j_iconst (v := nI 1) h d_Law_law_562 (by decide +kernel) ?_
    refine j_iadd h d_Law_law_563 ?_
    refine j_sld (j := i + 1) h hS hbl d_Law_law_564 (nI_add i 1) (by omega) (by omega) ?_
    refine j_int (v' := nI c0) h1 ?_
    refine j_aload_n h d_Law_law_565 rfl ?_
    refine j_iload h d_Law_law_566 rfl ?_
    refine j_iconst (v := nI 2) h d_Law_law_568 (by decide +kernel) ?_
    refine j_iadd h d_Law_law_569 ?_
    refine j_sld (j := i + 2) h hS hbl d_Law_law_570 (nI_add i 2) (by omega) (by omega) ?_
    refine j_int (v' := nI k) h2 ?_
    refine j_aload_n h d_Law_law_571 rfl ?_
    refine j_iload h d_Law_law_572 rfl ?_
    refine j_iconst (v := nI 3) h d_Law_law_574 (by decide +kernel) ?_
    refine j_iadd h d_Law_law_575 ?_
    refine j_sld (j := i + 3) h hS hbl d_Law_law_576 (nI_add i 3) (by omega) (by omega) ?_
    refine j_int (v' := nI s) h3 ?_
    refine j_aload_n h d_Law_law_577 rfl ?_
    refine j_iload h d_Law_law_578 rfl ?_
    refine j_iconst (v := nI 4) h d_Law_law_580 (by decide +kernel) ?_
    refine j_iadd h d_Law_law_581 ?_
    refine j_sld (j := i + 4) h hS hbl d_Law_law_582 (nI_add i 4) (by omega) (by omega) ?_
    refine j_int (v' := nI a) h4 ?_
    refine j_aload_n h d_Law_law_583 rfl ?_
    refine j_iload h d_Law_law_584 rfl ?_
    refine j_iconst (v := nI 5) h d_Law_law_586 (by decide +kernel) ?_
    refine j_iadd h d_Law_law_587 ?_
    refine j_sld (j := i + 5) h hS hbl d_Law_law_588 (nI_add i 5) (by omega) (by omega) ?_
    refine j_callV h (c_Mod_ask_ok X.l K K.full _ _ A D _ (MSt_pe ms (fun col h1 h2 => up_c _ _ (by omega))) N hm n ld sk inv.1 c0 hc0 k hk3 s hs a ha (xs (i + 5)) h5) d_Law_law_589 ml_Law_105 mv_Mod_ask hv6 ⟨rfl, rfl⟩ rfl rfl (Nat.le_of_ble_eq_true rfl) (hRl hR (by decide) (by decide)) (hfl hR (by omega) (by omega)) ?_
    rintro _ _ _ _ ⟨rfl, rfl, rfl, D1, rfl, e70, hm1⟩
    refine j_istore h d_Law_law_592 (Nat.lt_of_lt_of_eq (m := 7) (by decide) hN.symm) ?_
    refine j_aload_n h d_Law_law_594 rfl ?_
    refine j_callV h (c_Mod_thrown X.l K K.full _ _ _ D1 _ (MSt_pe ms (fun col h1 h2 => up_c _ _ (by omega)))) d_Law_law_595 ml_Law_81 mv_Mod_thrown hv6 ⟨rfl, rfl⟩ rfl rfl (Nat.le_of_ble_eq_true rfl) (hRl hR (by decide) (by decide)) (hfl hR (by omega) (by omega)) ?_
    rintro _ _ _ _ ⟨rfl, rfl, rfl, rfl⟩
    refine j_int (v' := 0) e70 ?_
    refine j_iload h d_Law_law_598 rfl ?_
    refine j_ic_eq (tgt := 605) h d_Law_law_600 (by decide) (fun _ => ?_) (fun c => absurd rfl c)
    refine j_iload h d_Law_law_605 rfl ?_
    refine j_if_ne (tgt := 622) h d_Law_law_607 (by decide) (fun c => absurd rfl c) (fun _ => ?_)
    refine j_aload_n h d_Law_law_610 rfl ?_
    refine j_iconst (v := 0) h d_Law_law_611 (by decide) ?_
    refine j_lald (a := 40) (col := 99) (j := 0) (y := gi _) h d_Law_law_612 rfl ⟨rfl, by decide⟩ ha40 rfl (by rw [hl40]; decide) (by rw [hl40]; decide) (up_s _ _ _ _) ?_
    refine j_iload h d_Law_law_613 rfl ?_
    refine j_i2l h d_Law_law_615 ?_
    refine j_lcmp h d_Law_law_616 ?_
    refine j_if_eq (tgt := 622) h d_Law_law_617 (by decide) (fun _ => ?_) (fun c => absurd (lgc _) c)
    refine j_goto (tgt := 1247) h d_Law_law_622 (by decide) ?_
    refine j_lv (lv' := [(0, .ref b), (1, .ref (K.ad 0 0)), (2, .ref (K.ad 6 0)), (3, .ref (K.aad 40)), (4, .int (nI i))]) (lvs rfl (lvs rfl (lvs rfl (lvs rfl (lvs rfl lvs0))))) ?_
    refine j_widen (k := kc + 5) (n := ks + 30) (by omega) (by omega) ?_
    exact kt _ _ _ _ _ ⟨(CS_99 cs), ⟨_, _, (NC_99 hnc1)⟩, (MSt_pe ms (fun col h1 h2 => up_c _ _ (by omega))), hm1, Inv_ask inv hc0 hs ha (by rw [← h2]; exact hk)⟩
  · refine j_istore h d_Law_law_556 (Nat.lt_of_lt_of_eq (m := 7) (by decide) hN.symm) ?_
    refine j_aload_n h d_Law_law_558 rfl ?_
    refine j_aload_n h d_Law_law_559 rfl ?_
    refine j_iload h d_Law_law_560 rfl ?_
    refine j_iconst (v := nI 1) h d_Law_law_562 (by decide +kernel) ?_
    refine j_iadd h d_Law_law_563 ?_
    refine j_sld (j := i + 1) h hS hbl d_Law_law_564 (nI_add i 1) (by omega) (by omega) ?_
    refine j_aload_n h d_Law_law_565 rfl ?_
    refine j_iload h d_Law_law_566 rfl ?_
    refine j_iconst (v := nI 2) h d_Law_law_568 (by decide +kernel) ?_
    refine j_iadd h d_Law_law_569 ?_
    refine j_sld (j := i + 2) h hS hbl d_Law_law_570 (nI_add i 2) (by omega) (by omega) ?_
    refine j_aload_n h d_Law_law_571 rfl ?_
    refine j_iload h d_Law_law_572 rfl ?_
    refine j_iconst (v := nI 3) h d_Law_law_574 (by decide +kernel) ?_
    refine j_iadd h d_Law_law_575 ?_
    refine j_sld (j := i + 3) h hS hbl d_Law_law_576 (nI_add i 3) (by omega) (by omega) ?_
    refine j_aload_n h d_Law_law_577 rfl ?_
    refine j_iload h d_Law_law_578 rfl ?_
    refine j_iconst (v := nI 4) h d_Law_law_580 (by decide +kernel) ?_
    refine j_iadd h d_Law_law_581 ?_
    refine j_sld (j := i + 4) h hS hbl d_Law_law_582 (nI_add i 4) (by omega) (by omega) ?_
    refine j_aload_n h d_Law_law_583 rfl ?_
    refine j_iload h d_Law_law_584 rfl ?_
    refine j_iconst (v := nI 5) h d_Law_law_586 (by decide +kernel) ?_
    refine j_iadd h d_Law_law_587 ?_
    refine j_sld (j := i + 5) h hS hbl d_Law_law_588 (nI_add i 5) (by omega) (by omega) ?_
    refine j_callV h (c_Mod_ask_no X.l K K.full _ _ A D _ ms N hm n ld sk inv.1 (xs (i + 1)) (xs (i + 2)) (xs (i + 3)) (xs (i + 4)) (xs (i + 5)) (fun q => hx ⟨c16 q.1, q.2.1, (is_srv _).mpr q.2.2.1, c_in q.2.2.2.1 (by have := inv.1.1; omega), q.2.2.2.2⟩)) d_Law_law_589 ml_Law_105 mv_Mod_ask hv6 ⟨rfl, rfl⟩ rfl rfl (Nat.le_of_ble_eq_true rfl) (hRl hR (by decide) (by decide)) (hfl hR (by omega) (by omega)) ?_
    rintro _ _ _ _ ⟨rfl, rfl, rfl, D1, rfl, e70, hm1⟩
    refine j_istore h d_Law_law_592 (Nat.lt_of_lt_of_eq (m := 7) (by decide) hN.symm) ?_
    refine j_aload_n h d_Law_law_594 rfl ?_
    refine j_callV h (c_Mod_thrown X.l K K.full _ _ _ D1 _ ms) d_Law_law_595 ml_Law_81 mv_Mod_thrown hv6 ⟨rfl, rfl⟩ rfl rfl (Nat.le_of_ble_eq_true rfl) (hRl hR (by decide) (by decide)) (hfl hR (by omega) (by omega)) ?_
    rintro _ _ _ _ ⟨rfl, rfl, rfl, rfl⟩
    refine j_int (v' := 1) e70 ?_
    refine j_iload h d_Law_law_598 rfl ?_
    refine j_ic_eq (tgt := 605) h d_Law_law_600 (by decide) (fun _ => ?_) (fun c => absurd rfl c)
    refine j_iload h d_Law_law_605 rfl ?_
    refine j_if_ne (tgt := 622) h d_Law_law_607 (by decide) (fun _ => ?_) (fun c => absurd c (by decide))
    refine j_goto (tgt := 1247) h d_Law_law_622 (by decide) ?_
    refine j_lv (lv' := [(0, .ref b), (1, .ref (K.ad 0 0)), (2, .ref (K.ad 6 0)), (3, .ref (K.aad 40)), (4, .int (nI i))]) (lvs rfl (lvs rfl (lvs rfl (lvs rfl (lvs rfl lvs0))))) ?_
    refine j_widen (k := kc + 5) (n := ks + 30) (by omega) (by omega) ?_
    exact kt _ _ _ _ _ ⟨cs, ⟨_, _, hnc⟩, ms, hm1, inv⟩
set_option maxRecDepth 100000 in
set_option maxHeartbeats 4000000 in
theorem t_send {X : Jx} {K : Kx} {n b L i kc ks : Nat} {ld sk : Int32} {xs : Nat → Int32} {A B D : MI} {P : MP} {N : List Msg} (E : LawE X K n b L xs) (hi : i + 5 < L) (st : ST K n ld sk A B D P N) (hkc : kc + 5 ≤ 601024) (hks : ks + 30 ≤ 7293000) (kt : KT X K n ld sk b i (kc + 5) (ks + 30)) : J X K K.full (bk4 A B A D) P kc ks 625 [(0, .ref b), (1, .ref (K.ad 0 0)), (2, .ref (K.ad 6 0)), (3, .ref (K.aad 40)), (4, .int (nI i))] [] := by
  obtain ⟨h, hN, hR, hlt, kf, hS, hbl, hL⟩ := E
  obtain ⟨cs, ⟨T, U, hnc⟩, ms, hm, inv⟩ := st
  have hv6 : K.full.1 6 0 := (kf_mod kf).1
  have hv0 : K.full.1 0 0 := (kf_lp kf).1.1
  have ha40 : K.full.2.1 40 := (kf_out kf).2.1
  have hl40 : K.alen 40 = 1 := (kf_out kf).2.2
  refine j_aload_n h d_Law_law_625 rfl ?_
  refine j_aload_n h d_Law_law_626 rfl ?_
  refine j_iload h d_Law_law_627 rfl ?_
  refine j_iconst (v := nI 1) h d_Law_law_629 (by decide +kernel) ?_
  refine j_iadd h d_Law_law_630 ?_
  refine j_sld (j := i + 1) h hS hbl d_Law_law_631 (nI_add i 1) (by omega) (by omega) ?_
  refine j_aload_n h d_Law_law_632 rfl ?_
  refine jh_callS h (c_Law_send X.l K K.full (bk4 A B A D) P _ _ _ (c_LP_send X.l hlt K K.full A B A D P (full_v K) n cs ld sk N T U hnc (fun i => (inv.2.1.1 i).1) (xs (i + 1))) (fun V' r I' P' hq => by obtain ⟨_, _, _, e1, e2, -⟩ := hq; exact ⟨e1, _, e2⟩) ha40 hl40 hv0) d_Law_law_633 mh_Law_send rfl rfl (Nat.le_of_ble_eq_true rfl) (hRl hR (by decide) (by decide)) (hfl hR (by omega) (by omega)) ?_
  rintro V' r I' P' (⟨rfl, v, P1, hq, rfl, rfl⟩ | ⟨rfl, hx, rfl, rfl, rfl⟩)
  · obtain ⟨s, hs, h1, -, e2, rfl, B1, rfl, hnc1⟩ := hq
    cases e2
    refine j_istore h d_Law_law_636 (Nat.lt_of_lt_of_eq (m := 7) (by decide) hN.symm) ?_
    refine j_aload_n h d_Law_law_638 rfl ?_
    refine j_aload_n h d_Law_law_639 rfl ?_
    refine j_iload h d_Law_law_640 rfl ?_
    refine j_iconst (v := nI 1) h d_Law_law_642 (by decide +kernel) ?_
    refine j_iadd h d_Law_law_643 ?_
    refine j_sld (j := i + 1) h hS hbl d_Law_law_644 (nI_add i 1) (by omega) (by omega) ?_
    refine j_int (v' := nI s) h1 ?_
    refine j_callV h (c_Mod_send_ok X.l K K.full _ _ A D _ (MSt_pe ms (fun col h1 h2 => up_c _ _ (by omega))) N hm n ld sk inv.1 s hs inv.2.1.1) d_Law_law_645 ml_Law_108 mv_Mod_send hv6 ⟨rfl, rfl⟩ rfl rfl (Nat.le_of_ble_eq_true rfl) (hRl hR (by decide) (by decide)) (hfl hR (by omega) (by omega)) ?_
    rintro _ _ _ _ ⟨rfl, rfl, rfl, D1, rfl, e70, hm1⟩
    refine j_istore h d_Law_law_648 (Nat.lt_of_lt_of_eq (m := 7) (by decide) hN.symm) ?_
    refine j_aload_n h d_Law_law_650 rfl ?_
    refine j_callV h (c_Mod_thrown X.l K K.full _ _ _ D1 _ (MSt_pe ms (fun col h1 h2 => up_c _ _ (by omega)))) d_Law_law_651 ml_Law_81 mv_Mod_thrown hv6 ⟨rfl, rfl⟩ rfl rfl (Nat.le_of_ble_eq_true rfl) (hRl hR (by decide) (by decide)) (hfl hR (by omega) (by omega)) ?_
    rintro _ _ _ _ ⟨rfl, rfl, rfl, rfl⟩
    refine j_int (v' := 0) e70 ?_
    refine j_iload h d_Law_law_654 rfl ?_
    refine j_ic_eq (tgt := 661) h d_Law_law_656 (by decide) (fun _ => ?_) (fun c => absurd rfl c)
    refine j_iload h d_Law_law_661 rfl ?_
    refine j_if_ne (tgt := 678) h d_Law_law_663 (by decide) (fun c => absurd rfl c) (fun _ => ?_)
    refine j_aload_n h d_Law_law_666 rfl ?_
    refine j_iconst (v := 0) h d_Law_law_667 (by decide) ?_
    refine j_lald (a := 40) (col := 99) (j := 0) (y := gi _) h d_Law_law_668 rfl ⟨rfl, by decide⟩ ha40 rfl (by rw [hl40]; decide) (by rw [hl40]; decide) (up_s _ _ _ _) ?_
    refine j_iload h d_Law_law_669 rfl ?_
    refine j_i2l h d_Law_law_671 ?_
    refine j_lcmp h d_Law_law_672 ?_
    refine j_if_eq (tgt := 678) h d_Law_law_673 (by decide) (fun _ => ?_) (fun c => absurd (lgc _) c)
    refine j_goto (tgt := 1247) h d_Law_law_678 (by decide) ?_
    refine j_lv (lv' := [(0, .ref b), (1, .ref (K.ad 0 0)), (2, .ref (K.ad 6 0)), (3, .ref (K.aad 40)), (4, .int (nI i))]) (lvs rfl (lvs rfl (lvs rfl (lvs rfl (lvs rfl lvs0))))) ?_
    refine j_widen (k := kc + 5) (n := ks + 30) (by omega) (by omega) ?_
    exact kt _ _ _ _ _ ⟨(CS_99 cs), ⟨_, _, (NC_99 hnc1)⟩, (MSt_pe ms (fun col h1 h2 => up_c _ _ (by omega))), hm1, Inv_send inv hs⟩
  · refine j_istore h d_Law_law_636 (Nat.lt_of_lt_of_eq (m := 7) (by decide) hN.symm) ?_
    refine j_aload_n h d_Law_law_638 rfl ?_
    refine j_aload_n h d_Law_law_639 rfl ?_
    refine j_iload h d_Law_law_640 rfl ?_
    refine j_iconst (v := nI 1) h d_Law_law_642 (by decide +kernel) ?_
    refine j_iadd h d_Law_law_643 ?_
    refine j_sld (j := i + 1) h hS hbl d_Law_law_644 (nI_add i 1) (by omega) (by omega) ?_
    refine j_callV h (c_Mod_send_no X.l K K.full _ _ A D _ ms N hm (xs (i + 1)) (fun q => hx ((is_srv _).mpr q))) d_Law_law_645 ml_Law_108 mv_Mod_send hv6 ⟨rfl, rfl⟩ rfl rfl (Nat.le_of_ble_eq_true rfl) (hRl hR (by decide) (by decide)) (hfl hR (by omega) (by omega)) ?_
    rintro _ _ _ _ ⟨rfl, rfl, rfl, D1, rfl, e70, hm1⟩
    refine j_istore h d_Law_law_648 (Nat.lt_of_lt_of_eq (m := 7) (by decide) hN.symm) ?_
    refine j_aload_n h d_Law_law_650 rfl ?_
    refine j_callV h (c_Mod_thrown X.l K K.full _ _ _ D1 _ ms) d_Law_law_651 ml_Law_81 mv_Mod_thrown hv6 ⟨rfl, rfl⟩ rfl rfl (Nat.le_of_ble_eq_true rfl) (hRl hR (by decide) (by decide)) (hfl hR (by omega) (by omega)) ?_
    rintro _ _ _ _ ⟨rfl, rfl, rfl, rfl⟩
    refine j_int (v' := 1) e70 ?_
    refine j_iload h d_Law_law_654 rfl ?_
    refine j_ic_eq (tgt := 661) h d_Law_law_656 (by decide) (fun _ => ?_) (fun c => absurd rfl c)
    refine j_iload h d_Law_law_661 rfl ?_
    refine j_if_ne (tgt := 678) h d_Law_law_663 (by decide) (fun _ => ?_) (fun c => absurd c (by decide))
    refine j_goto (tgt := 1247) h d_Law_law_678 (by decide) ?_
    refine j_lv (lv' := [(0, .ref b), (1, .ref (K.ad 0 0)), (2, .ref (K.ad 6 0)), (3, .ref (K.aad 40)), (4, .int (nI i))]) (lvs rfl (lvs rfl (lvs rfl (lvs rfl (lvs rfl lvs0))))) ?_
    refine j_widen (k := kc + 5) (n := ks + 30) (by omega) (by omega) ?_
    exact kt _ _ _ _ _ ⟨cs, ⟨_, _, hnc⟩, ms, hm1, inv⟩
set_option maxRecDepth 100000 in
set_option maxHeartbeats 4000000 in
theorem t_tidy {X : Jx} {K : Kx} {n b L i kc ks : Nat} {ld sk : Int32} {xs : Nat → Int32} {A B D : MI} {P : MP} {N : List Msg} (E : LawE X K n b L xs) (hi : i + 5 < L) (st : ST K n ld sk A B D P N) (hkc : kc + 5 ≤ 601024) (hks : ks + 30 ≤ 7293000) (kt : KT X K n ld sk b i (kc + 5) (ks + 30)) : J X K K.full (bk4 A B A D) P kc ks 681 [(0, .ref b), (1, .ref (K.ad 0 0)), (2, .ref (K.ad 6 0)), (3, .ref (K.aad 40)), (4, .int (nI i))] [] := by
  obtain ⟨h, hN, hR, hlt, kf, hS, hbl, hL⟩ := E
  obtain ⟨cs, ⟨T, U, hnc⟩, ms, hm, inv⟩ := st
  have hv6 : K.full.1 6 0 := (kf_mod kf).1
  have hv0 : K.full.1 0 0 := (kf_lp kf).1.1
  have ha40 : K.full.2.1 40 := (kf_out kf).2.1
  have hl40 : K.alen 40 = 1 := (kf_out kf).2.2
  refine j_aload_n h d_Law_law_681 rfl ?_
  refine j_aload_n h d_Law_law_682 rfl ?_
  refine j_iload h d_Law_law_683 rfl ?_
  refine j_iconst (v := nI 1) h d_Law_law_685 (by decide +kernel) ?_
  refine j_iadd h d_Law_law_686 ?_
  refine j_sld (j := i + 1) h hS hbl d_Law_law_687 (nI_add i 1) (by omega) (by omega) ?_
  refine j_aload_n h d_Law_law_688 rfl ?_
  refine jh_callS h (c_Law_tidy X.l K K.full (bk4 A B A D) P _ _ _ (c_LP_tidy X.l hlt K K.full A B A D P (full_v K) n cs ld sk hnc.1 (xs (i + 1))) (fun V' r I' P' hq => by obtain ⟨_, _, _, e1, e2, -⟩ := hq; exact ⟨e1, _, e2⟩) ha40 hl40 hv0) d_Law_law_689 mh_Law_tidy rfl rfl (Nat.le_of_ble_eq_true rfl) (hRl hR (by decide) (by decide)) (hfl hR (by omega) (by omega)) ?_
  rintro V' r I' P' (⟨rfl, v, P1, hq, rfl, rfl⟩ | ⟨rfl, hx, rfl, rfl, rfl⟩)
  · obtain ⟨s, hs, h1, -, e2, rfl, rfl⟩ := hq
    cases e2
    refine j_istore h d_Law_law_692 (Nat.lt_of_lt_of_eq (m := 7) (by decide) hN.symm) ?_
    refine j_aload_n h d_Law_law_694 rfl ?_
    refine j_aload_n h d_Law_law_695 rfl ?_
    refine j_iload h d_Law_law_696 rfl ?_
    refine j_iconst (v := nI 1) h d_Law_law_698 (by decide +kernel) ?_
    refine j_iadd h d_Law_law_699 ?_
    refine j_sld (j := i + 1) h hS hbl d_Law_law_700 (nI_add i 1) (by omega) (by omega) ?_
    refine j_int (v' := nI s) h1 ?_
    refine j_callV h (c_Mod_tidy_ok X.l K K.full _ _ A D _ (MSt_pe ms (fun col h1 h2 => up_c _ _ (by omega))) N hm n ld sk inv.1 s hs) d_Law_law_701 ml_Law_111 mv_Mod_tidy hv6 ⟨rfl, rfl⟩ rfl rfl (Nat.le_of_ble_eq_true rfl) (hRl hR (by decide) (by decide)) (hfl hR (by omega) (by omega)) ?_
    rintro _ _ _ _ ⟨rfl, rfl, rfl, D1, rfl, e70, hm1⟩
    refine j_istore h d_Law_law_704 (Nat.lt_of_lt_of_eq (m := 7) (by decide) hN.symm) ?_
    refine j_aload_n h d_Law_law_706 rfl ?_
    refine j_callV h (c_Mod_thrown X.l K K.full _ _ _ D1 _ (MSt_pe ms (fun col h1 h2 => up_c _ _ (by omega)))) d_Law_law_707 ml_Law_81 mv_Mod_thrown hv6 ⟨rfl, rfl⟩ rfl rfl (Nat.le_of_ble_eq_true rfl) (hRl hR (by decide) (by decide)) (hfl hR (by omega) (by omega)) ?_
    rintro _ _ _ _ ⟨rfl, rfl, rfl, rfl⟩
    refine j_int (v' := 0) e70 ?_
    refine j_iload h d_Law_law_710 rfl ?_
    refine j_ic_eq (tgt := 717) h d_Law_law_712 (by decide) (fun _ => ?_) (fun c => absurd rfl c)
    refine j_iload h d_Law_law_717 rfl ?_
    refine j_if_ne (tgt := 734) h d_Law_law_719 (by decide) (fun c => absurd rfl c) (fun _ => ?_)
    refine j_aload_n h d_Law_law_722 rfl ?_
    refine j_iconst (v := 0) h d_Law_law_723 (by decide) ?_
    refine j_lald (a := 40) (col := 99) (j := 0) (y := gi _) h d_Law_law_724 rfl ⟨rfl, by decide⟩ ha40 rfl (by rw [hl40]; decide) (by rw [hl40]; decide) (up_s _ _ _ _) ?_
    refine j_iload h d_Law_law_725 rfl ?_
    refine j_i2l h d_Law_law_727 ?_
    refine j_lcmp h d_Law_law_728 ?_
    refine j_if_eq (tgt := 734) h d_Law_law_729 (by decide) (fun _ => ?_) (fun c => absurd (lgc _) c)
    refine j_goto (tgt := 1247) h d_Law_law_734 (by decide) ?_
    refine j_lv (lv' := [(0, .ref b), (1, .ref (K.ad 0 0)), (2, .ref (K.ad 6 0)), (3, .ref (K.aad 40)), (4, .int (nI i))]) (lvs rfl (lvs rfl (lvs rfl (lvs rfl (lvs rfl lvs0))))) ?_
    refine j_widen (k := kc + 5) (n := ks + 30) (by omega) (by omega) ?_
    exact kt _ _ _ _ _ ⟨(CS_99 cs), ⟨_, _, (NC_99 hnc)⟩, (MSt_pe ms (fun col h1 h2 => up_c _ _ (by omega))), hm1, Inv_tidy inv⟩
  · refine j_istore h d_Law_law_692 (Nat.lt_of_lt_of_eq (m := 7) (by decide) hN.symm) ?_
    refine j_aload_n h d_Law_law_694 rfl ?_
    refine j_aload_n h d_Law_law_695 rfl ?_
    refine j_iload h d_Law_law_696 rfl ?_
    refine j_iconst (v := nI 1) h d_Law_law_698 (by decide +kernel) ?_
    refine j_iadd h d_Law_law_699 ?_
    refine j_sld (j := i + 1) h hS hbl d_Law_law_700 (nI_add i 1) (by omega) (by omega) ?_
    refine j_callV h (c_Mod_tidy_no X.l K K.full _ _ A D _ ms N hm (xs (i + 1)) (fun q => hx ((is_srv _).mpr q))) d_Law_law_701 ml_Law_111 mv_Mod_tidy hv6 ⟨rfl, rfl⟩ rfl rfl (Nat.le_of_ble_eq_true rfl) (hRl hR (by decide) (by decide)) (hfl hR (by omega) (by omega)) ?_
    rintro _ _ _ _ ⟨rfl, rfl, rfl, D1, rfl, e70, hm1⟩
    refine j_istore h d_Law_law_704 (Nat.lt_of_lt_of_eq (m := 7) (by decide) hN.symm) ?_
    refine j_aload_n h d_Law_law_706 rfl ?_
    refine j_callV h (c_Mod_thrown X.l K K.full _ _ _ D1 _ ms) d_Law_law_707 ml_Law_81 mv_Mod_thrown hv6 ⟨rfl, rfl⟩ rfl rfl (Nat.le_of_ble_eq_true rfl) (hRl hR (by decide) (by decide)) (hfl hR (by omega) (by omega)) ?_
    rintro _ _ _ _ ⟨rfl, rfl, rfl, rfl⟩
    refine j_int (v' := 1) e70 ?_
    refine j_iload h d_Law_law_710 rfl ?_
    refine j_ic_eq (tgt := 717) h d_Law_law_712 (by decide) (fun _ => ?_) (fun c => absurd rfl c)
    refine j_iload h d_Law_law_717 rfl ?_
    refine j_if_ne (tgt := 734) h d_Law_law_719 (by decide) (fun _ => ?_) (fun c => absurd c (by decide))
    refine j_goto (tgt := 1247) h d_Law_law_734 (by decide) ?_
    refine j_lv (lv' := [(0, .ref b), (1, .ref (K.ad 0 0)), (2, .ref (K.ad 6 0)), (3, .ref (K.aad 40)), (4, .int (nI i))]) (lvs rfl (lvs rfl (lvs rfl (lvs rfl (lvs rfl lvs0))))) ?_
    refine j_widen (k := kc + 5) (n := ks + 30) (by omega) (by omega) ?_
    exact kt _ _ _ _ _ ⟨cs, ⟨_, _, hnc⟩, ms, hm1, inv⟩
set_option maxRecDepth 100000 in
set_option maxHeartbeats 4000000 in
theorem t_give {X : Jx} {K : Kx} {n b L i kc ks : Nat} {ld sk : Int32} {xs : Nat → Int32} {A B D : MI} {P : MP} {N : List Msg} (E : LawE X K n b L xs) (hi : i + 5 < L) (st : ST K n ld sk A B D P N) (hkc : kc + 5 ≤ 601024) (hks : ks + 30 ≤ 7293000) (kt : KT X K n ld sk b i (kc + 5) (ks + 30)) : J X K K.full (bk4 A B A D) P kc ks 737 [(0, .ref b), (1, .ref (K.ad 0 0)), (2, .ref (K.ad 6 0)), (3, .ref (K.aad 40)), (4, .int (nI i))] [] := by
  obtain ⟨h, hN, hR, hlt, kf, hS, hbl, hL⟩ := E
  obtain ⟨cs, ⟨T, U, hnc⟩, ms, hm, inv⟩ := st
  have hv6 : K.full.1 6 0 := (kf_mod kf).1
  have hv0 : K.full.1 0 0 := (kf_lp kf).1.1
  have ha40 : K.full.2.1 40 := (kf_out kf).2.1
  have hl40 : K.alen 40 = 1 := (kf_out kf).2.2
  refine j_aload_n h d_Law_law_737 rfl ?_
  refine j_aload_n h d_Law_law_738 rfl ?_
  refine j_iload h d_Law_law_739 rfl ?_
  refine j_iconst (v := nI 1) h d_Law_law_741 (by decide +kernel) ?_
  refine j_iadd h d_Law_law_742 ?_
  refine j_sld (j := i + 1) h hS hbl d_Law_law_743 (nI_add i 1) (by omega) (by omega) ?_
  refine j_aload_n h d_Law_law_744 rfl ?_
  refine j_iload h d_Law_law_745 rfl ?_
  refine j_iconst (v := nI 2) h d_Law_law_747 (by decide +kernel) ?_
  refine j_iadd h d_Law_law_748 ?_
  refine j_sld (j := i + 2) h hS hbl d_Law_law_749 (nI_add i 2) (by omega) (by omega) ?_
  refine j_aload_n h d_Law_law_750 rfl ?_
  refine jh_callS h (c_Law_give X.l K K.full (bk4 A B A D) P _ _ _ _ (c_LP_give X.l hlt K K.full A B A D P (full_v K) n cs (xs (i + 1)) (xs (i + 2))) (fun V' r I' P' hq => by obtain ⟨_, _, _, _, e1, e2, -⟩ := hq; exact ⟨e1, _, e2⟩) ha40 hl40 hv0) d_Law_law_751 mh_Law_give rfl rfl (Nat.le_of_ble_eq_true rfl) (hRl hR (by decide) (by decide)) (hfl hR (by omega) (by omega)) ?_
  rintro V' r I' P' (⟨rfl, v, P1, hq, rfl, rfl⟩ | ⟨rfl, hx, rfl, rfl, rfl⟩)
  · obtain ⟨s, hs, h1, hw, -, e2, rfl, rfl⟩ := hq
    cases e2
    refine j_istore h d_Law_law_754 (Nat.lt_of_lt_of_eq (m := 7) (by decide) hN.symm) ?_
    refine j_aload_n h d_Law_law_756 rfl ?_
    refine j_aload_n h d_Law_law_757 rfl ?_
    refine j_iload h d_Law_law_758 rfl ?_
    refine j_iconst (v := nI 1) h d_Law_law_760 (by decide +kernel) ?_
    refine j_iadd h d_Law_law_761 ?_
    refine j_sld (j := i + 1) h hS hbl d_Law_law_762 (nI_add i 1) (by omega) (by omega) ?_
    refine j_int (v' := nI s) h1 ?_
    refine j_aload_n h d_Law_law_763 rfl ?_
    refine j_iload h d_Law_law_764 rfl ?_
    refine j_iconst (v := nI 2) h d_Law_law_766 (by decide +kernel) ?_
    refine j_iadd h d_Law_law_767 ?_
    refine j_sld (j := i + 2) h hS hbl d_Law_law_768 (nI_add i 2) (by omega) (by omega) ?_
    refine j_callV h (c_Mod_give_ok X.l K K.full _ _ A D _ (MSt_pe ms (fun col h1 h2 => up_c _ _ (by omega))) N hm n ld sk inv.1 s hs (xs (i + 2)) hw) d_Law_law_769 ml_Law_114 mv_Mod_give hv6 ⟨rfl, rfl⟩ rfl rfl (Nat.le_of_ble_eq_true rfl) (hRl hR (by decide) (by decide)) (hfl hR (by omega) (by omega)) ?_
    rintro _ _ _ _ ⟨rfl, rfl, rfl, D1, rfl, e70, hm1⟩
    refine j_istore h d_Law_law_772 (Nat.lt_of_lt_of_eq (m := 7) (by decide) hN.symm) ?_
    refine j_aload_n h d_Law_law_774 rfl ?_
    refine j_callV h (c_Mod_thrown X.l K K.full _ _ _ D1 _ (MSt_pe ms (fun col h1 h2 => up_c _ _ (by omega)))) d_Law_law_775 ml_Law_81 mv_Mod_thrown hv6 ⟨rfl, rfl⟩ rfl rfl (Nat.le_of_ble_eq_true rfl) (hRl hR (by decide) (by decide)) (hfl hR (by omega) (by omega)) ?_
    rintro _ _ _ _ ⟨rfl, rfl, rfl, rfl⟩
    refine j_int (v' := 0) e70 ?_
    refine j_iload h d_Law_law_778 rfl ?_
    refine j_ic_eq (tgt := 785) h d_Law_law_780 (by decide) (fun _ => ?_) (fun c => absurd rfl c)
    refine j_iload h d_Law_law_785 rfl ?_
    refine j_if_ne (tgt := 802) h d_Law_law_787 (by decide) (fun c => absurd rfl c) (fun _ => ?_)
    refine j_aload_n h d_Law_law_790 rfl ?_
    refine j_iconst (v := 0) h d_Law_law_791 (by decide) ?_
    refine j_lald (a := 40) (col := 99) (j := 0) (y := gi _) h d_Law_law_792 rfl ⟨rfl, by decide⟩ ha40 rfl (by rw [hl40]; decide) (by rw [hl40]; decide) (up_s _ _ _ _) ?_
    refine j_iload h d_Law_law_793 rfl ?_
    refine j_i2l h d_Law_law_795 ?_
    refine j_lcmp h d_Law_law_796 ?_
    refine j_if_eq (tgt := 802) h d_Law_law_797 (by decide) (fun _ => ?_) (fun c => absurd (lgc _) c)
    refine j_goto (tgt := 1247) h d_Law_law_802 (by decide) ?_
    refine j_lv (lv' := [(0, .ref b), (1, .ref (K.ad 0 0)), (2, .ref (K.ad 6 0)), (3, .ref (K.aad 40)), (4, .int (nI i))]) (lvs rfl (lvs rfl (lvs rfl (lvs rfl (lvs rfl lvs0))))) ?_
    refine j_widen (k := kc + 5) (n := ks + 30) (by omega) (by omega) ?_
    exact kt _ _ _ _ _ ⟨(CS_99 cs), ⟨_, _, (NC_99 hnc)⟩, (MSt_pe ms (fun col h1 h2 => up_c _ _ (by omega))), hm1, Inv_give inv⟩
  · refine j_istore h d_Law_law_754 (Nat.lt_of_lt_of_eq (m := 7) (by decide) hN.symm) ?_
    refine j_aload_n h d_Law_law_756 rfl ?_
    refine j_aload_n h d_Law_law_757 rfl ?_
    refine j_iload h d_Law_law_758 rfl ?_
    refine j_iconst (v := nI 1) h d_Law_law_760 (by decide +kernel) ?_
    refine j_iadd h d_Law_law_761 ?_
    refine j_sld (j := i + 1) h hS hbl d_Law_law_762 (nI_add i 1) (by omega) (by omega) ?_
    refine j_aload_n h d_Law_law_763 rfl ?_
    refine j_iload h d_Law_law_764 rfl ?_
    refine j_iconst (v := nI 2) h d_Law_law_766 (by decide +kernel) ?_
    refine j_iadd h d_Law_law_767 ?_
    refine j_sld (j := i + 2) h hS hbl d_Law_law_768 (nI_add i 2) (by omega) (by omega) ?_
    refine j_callV h (c_Mod_give_no X.l K K.full _ _ A D _ ms N hm (xs (i + 1)) (xs (i + 2)) (fun q => hx ⟨(is_srv _).mpr q.1, q.2⟩)) d_Law_law_769 ml_Law_114 mv_Mod_give hv6 ⟨rfl, rfl⟩ rfl rfl (Nat.le_of_ble_eq_true rfl) (hRl hR (by decide) (by decide)) (hfl hR (by omega) (by omega)) ?_
    rintro _ _ _ _ ⟨rfl, rfl, rfl, D1, rfl, e70, hm1⟩
    refine j_istore h d_Law_law_772 (Nat.lt_of_lt_of_eq (m := 7) (by decide) hN.symm) ?_
    refine j_aload_n h d_Law_law_774 rfl ?_
    refine j_callV h (c_Mod_thrown X.l K K.full _ _ _ D1 _ ms) d_Law_law_775 ml_Law_81 mv_Mod_thrown hv6 ⟨rfl, rfl⟩ rfl rfl (Nat.le_of_ble_eq_true rfl) (hRl hR (by decide) (by decide)) (hfl hR (by omega) (by omega)) ?_
    rintro _ _ _ _ ⟨rfl, rfl, rfl, rfl⟩
    refine j_int (v' := 1) e70 ?_
    refine j_iload h d_Law_law_778 rfl ?_
    refine j_ic_eq (tgt := 785) h d_Law_law_780 (by decide) (fun _ => ?_) (fun c => absurd rfl c)
    refine j_iload h d_Law_law_785 rfl ?_
    refine j_if_ne (tgt := 802) h d_Law_law_787 (by decide) (fun _ => ?_) (fun c => absurd c (by decide))
    refine j_goto (tgt := 1247) h d_Law_law_802 (by decide) ?_
    refine j_lv (lv' := [(0, .ref b), (1, .ref (K.ad 0 0)), (2, .ref (K.ad 6 0)), (3, .ref (K.aad 40)), (4, .int (nI i))]) (lvs rfl (lvs rfl (lvs rfl (lvs rfl (lvs rfl lvs0))))) ?_
    refine j_widen (k := kc + 5) (n := ks + 30) (by omega) (by omega) ?_
    exact kt _ _ _ _ _ ⟨cs, ⟨_, _, hnc⟩, ms, hm1, inv⟩
set_option maxRecDepth 100000 in
set_option maxHeartbeats 4000000 in
theorem t_carry {X : Jx} {K : Kx} {n b L i kc ks : Nat} {ld sk : Int32} {xs : Nat → Int32} {A B D : MI} {P : MP} {N : List Msg} (E : LawE X K n b L xs) (hi : i + 5 < L) (st : ST K n ld sk A B D P N) (hkc : kc + 5 ≤ 601024) (hks : ks + 30 ≤ 7293000) (kt : KT X K n ld sk b i (kc + 5) (ks + 30)) : J X K K.full (bk4 A B A D) P kc ks 805 [(0, .ref b), (1, .ref (K.ad 0 0)), (2, .ref (K.ad 6 0)), (3, .ref (K.aad 40)), (4, .int (nI i))] [] := by
  obtain ⟨h, hN, hR, hlt, kf, hS, hbl, hL⟩ := E
  obtain ⟨cs, ⟨T, U, hnc⟩, ms, hm, inv⟩ := st
  have hv6 : K.full.1 6 0 := (kf_mod kf).1
  have hv0 : K.full.1 0 0 := (kf_lp kf).1.1
  have ha40 : K.full.2.1 40 := (kf_out kf).2.1
  have hl40 : K.alen 40 = 1 := (kf_out kf).2.2
  refine j_aload_n h d_Law_law_805 rfl ?_
  refine j_aload_n h d_Law_law_806 rfl ?_
  refine j_iload h d_Law_law_807 rfl ?_
  refine j_iconst (v := nI 1) h d_Law_law_809 (by decide +kernel) ?_
  refine j_iadd h d_Law_law_810 ?_
  refine j_sld (j := i + 1) h hS hbl d_Law_law_811 (nI_add i 1) (by omega) (by omega) ?_
  refine j_aload_n h d_Law_law_812 rfl ?_
  refine jh_callS h (c_Law_carry X.l K K.full (bk4 A B A D) P _ _ _ (c_LP_carry X.l hlt K K.full A B A D P (full_v K) n cs ld sk N T U hnc (fun q q' h1 h2 e => by have e1 := (kf_msg kf h1).1; have e2 := (kf_msg kf h2).1; omega) (fun i => (inv.2.1.1 i).1) inv.2.2.1.1 (xs (i + 1))) (fun V' r I' P' hq => by obtain ⟨_, _, _, _, e1, e2, -⟩ := hq; exact ⟨e1, _, e2⟩) ha40 hl40 hv0) d_Law_law_813 mh_Law_carry rfl rfl (Nat.le_of_ble_eq_true rfl) (hRl hR (by decide) (by decide)) (hfl hR (by omega) (by omega)) ?_
  rintro V' r I' P' (⟨rfl, v, P1, hq, rfl, rfl⟩ | ⟨rfl, hx, rfl, rfl, rfl⟩)
  · obtain ⟨k, x, hk, h1, -, e2, rfl, B1, rfl, hnc1⟩ := hq
    cases e2
    refine j_istore h d_Law_law_816 (Nat.lt_of_lt_of_eq (m := 7) (by decide) hN.symm) ?_
    refine j_aload_n h d_Law_law_818 rfl ?_
    refine j_aload_n h d_Law_law_819 rfl ?_
    refine j_iload h d_Law_law_820 rfl ?_
    refine j_iconst (v := nI 1) h d_Law_law_822 (by decide +kernel) ?_
    refine j_iadd h d_Law_law_823 ?_
    refine j_sld (j := i + 1) h hS hbl d_Law_law_824 (nI_add i 1) (by omega) (by omega) ?_
    refine j_int (v' := nI k) h1 ?_
    refine j_callV h (c_Mod_carry_ok X.l K K.full _ _ A D _ (MSt_pe ms (fun col h1 h2 => up_c _ _ (by omega))) N hm n ld sk inv.1 k x hk inv.2.2.1.1 (inv.2.2.1.2 x (List.mem_of_getElem? hk)) (fun c hc => (inv.2.1.2.2 c hc).1) inv.2.1.1) d_Law_law_825 ml_Law_117 mv_Mod_carry hv6 ⟨rfl, rfl⟩ rfl rfl (Nat.le_of_ble_eq_true rfl) (hRl hR (by decide) (by decide)) (hfl hR (by omega) (by omega)) ?_
    rintro _ _ _ _ ⟨rfl, rfl, rfl, D1, rfl, e70, hm1⟩
    refine j_istore h d_Law_law_828 (Nat.lt_of_lt_of_eq (m := 7) (by decide) hN.symm) ?_
    refine j_aload_n h d_Law_law_830 rfl ?_
    refine j_callV h (c_Mod_thrown X.l K K.full _ _ _ D1 _ (MSt_pe ms (fun col h1 h2 => up_c _ _ (by omega)))) d_Law_law_831 ml_Law_81 mv_Mod_thrown hv6 ⟨rfl, rfl⟩ rfl rfl (Nat.le_of_ble_eq_true rfl) (hRl hR (by decide) (by decide)) (hfl hR (by omega) (by omega)) ?_
    rintro _ _ _ _ ⟨rfl, rfl, rfl, rfl⟩
    refine j_int (v' := 0) e70 ?_
    refine j_iload h d_Law_law_834 rfl ?_
    refine j_ic_eq (tgt := 841) h d_Law_law_836 (by decide) (fun _ => ?_) (fun c => absurd rfl c)
    refine j_iload h d_Law_law_841 rfl ?_
    refine j_if_ne (tgt := 865) h d_Law_law_843 (by decide) (fun c => absurd rfl c) (fun _ => ?_)
    refine j_aload_n h d_Law_law_846 rfl ?_
    refine j_iconst (v := 0) h d_Law_law_847 (by decide) ?_
    refine j_lald (a := 40) (col := 99) (j := 0) (y := gz _) h d_Law_law_848 rfl ⟨rfl, by decide⟩ ha40 rfl (by rw [hl40]; decide) (by rw [hl40]; decide) (up_s _ _ _ _) ?_
    refine j_iload h d_Law_law_849 rfl ?_
    refine j_if_eq (tgt := 858) h d_Law_law_851 (by decide) (fun cz => ?_) (fun cz => ?_)
    · refine j_lconst (v := 0) h d_Law_law_858 (by decide) ?_
      refine j_lcmp h d_Law_law_859 ?_
      refine j_if_eq (tgt := 865) h d_Law_law_860 (by decide) (fun _ => ?_) (fun c => absurd (lgz0 cz) c)
      refine j_goto (tgt := 1247) h d_Law_law_865 (by decide) ?_
      refine j_lv (lv' := [(0, .ref b), (1, .ref (K.ad 0 0)), (2, .ref (K.ad 6 0)), (3, .ref (K.aad 40)), (4, .int (nI i))]) (lvs rfl (lvs rfl (lvs rfl (lvs rfl (lvs rfl lvs0))))) ?_
      refine j_widen (k := kc + 5) (n := ks + 30) (by omega) (by omega) ?_
      exact kt _ _ _ _ _ ⟨(CS_99 cs), ⟨_, _, (NC_99 hnc1)⟩, (MSt_pe ms (fun col h1 h2 => up_c _ _ (by omega))), hm1, Inv_carry inv hk⟩
    · refine j_lconst (v := 1) h d_Law_law_854 (by decide) ?_
      refine j_goto (tgt := 859) h d_Law_law_855 (by decide) ?_
      refine j_lcmp h d_Law_law_859 ?_
      refine j_if_eq (tgt := 865) h d_Law_law_860 (by decide) (fun _ => ?_) (fun c => absurd (lgz1 cz) c)
      refine j_goto (tgt := 1247) h d_Law_law_865 (by decide) ?_
      refine j_lv (lv' := [(0, .ref b), (1, .ref (K.ad 0 0)), (2, .ref (K.ad 6 0)), (3, .ref (K.aad 40)), (4, .int (nI i))]) (lvs rfl (lvs rfl (lvs rfl (lvs rfl (lvs rfl lvs0))))) ?_
      refine j_widen (k := kc + 5) (n := ks + 30) (by omega) (by omega) ?_
      exact kt _ _ _ _ _ ⟨(CS_99 cs), ⟨_, _, (NC_99 hnc1)⟩, (MSt_pe ms (fun col h1 h2 => up_c _ _ (by omega))), hm1, Inv_carry inv hk⟩
  · refine j_istore h d_Law_law_816 (Nat.lt_of_lt_of_eq (m := 7) (by decide) hN.symm) ?_
    refine j_aload_n h d_Law_law_818 rfl ?_
    refine j_aload_n h d_Law_law_819 rfl ?_
    refine j_iload h d_Law_law_820 rfl ?_
    refine j_iconst (v := nI 1) h d_Law_law_822 (by decide +kernel) ?_
    refine j_iadd h d_Law_law_823 ?_
    refine j_sld (j := i + 1) h hS hbl d_Law_law_824 (nI_add i 1) (by omega) (by omega) ?_
    refine j_callV h (c_Mod_carry_no X.l K K.full _ _ A D _ ms N hm (xs (i + 1)) (fun q => hx (c_in q (by have := hm.1; omega)))) d_Law_law_825 ml_Law_117 mv_Mod_carry hv6 ⟨rfl, rfl⟩ rfl rfl (Nat.le_of_ble_eq_true rfl) (hRl hR (by decide) (by decide)) (hfl hR (by omega) (by omega)) ?_
    rintro _ _ _ _ ⟨rfl, rfl, rfl, D1, rfl, e70, hm1⟩
    refine j_istore h d_Law_law_828 (Nat.lt_of_lt_of_eq (m := 7) (by decide) hN.symm) ?_
    refine j_aload_n h d_Law_law_830 rfl ?_
    refine j_callV h (c_Mod_thrown X.l K K.full _ _ _ D1 _ ms) d_Law_law_831 ml_Law_81 mv_Mod_thrown hv6 ⟨rfl, rfl⟩ rfl rfl (Nat.le_of_ble_eq_true rfl) (hRl hR (by decide) (by decide)) (hfl hR (by omega) (by omega)) ?_
    rintro _ _ _ _ ⟨rfl, rfl, rfl, rfl⟩
    refine j_int (v' := 1) e70 ?_
    refine j_iload h d_Law_law_834 rfl ?_
    refine j_ic_eq (tgt := 841) h d_Law_law_836 (by decide) (fun _ => ?_) (fun c => absurd rfl c)
    refine j_iload h d_Law_law_841 rfl ?_
    refine j_if_ne (tgt := 865) h d_Law_law_843 (by decide) (fun _ => ?_) (fun c => absurd c (by decide))
    refine j_goto (tgt := 1247) h d_Law_law_865 (by decide) ?_
    refine j_lv (lv' := [(0, .ref b), (1, .ref (K.ad 0 0)), (2, .ref (K.ad 6 0)), (3, .ref (K.aad 40)), (4, .int (nI i))]) (lvs rfl (lvs rfl (lvs rfl (lvs rfl (lvs rfl lvs0))))) ?_
    refine j_widen (k := kc + 5) (n := ks + 30) (by omega) (by omega) ?_
    exact kt _ _ _ _ _ ⟨cs, ⟨_, _, hnc⟩, ms, hm1, inv⟩
set_option maxRecDepth 100000 in
set_option maxHeartbeats 4000000 in
theorem t_drop {X : Jx} {K : Kx} {n b L i kc ks : Nat} {ld sk : Int32} {xs : Nat → Int32} {A B D : MI} {P : MP} {N : List Msg} (E : LawE X K n b L xs) (hi : i + 5 < L) (st : ST K n ld sk A B D P N) (hkc : kc + 5 ≤ 601024) (hks : ks + 30 ≤ 7293000) (kt : KT X K n ld sk b i (kc + 5) (ks + 30)) : J X K K.full (bk4 A B A D) P kc ks 881 [(0, .ref b), (1, .ref (K.ad 0 0)), (2, .ref (K.ad 6 0)), (3, .ref (K.aad 40)), (4, .int (nI i))] [] := by
  obtain ⟨h, hN, hR, hlt, kf, hS, hbl, hL⟩ := E
  obtain ⟨cs, ⟨T, U, hnc⟩, ms, hm, inv⟩ := st
  have hv6 : K.full.1 6 0 := (kf_mod kf).1
  have hv0 : K.full.1 0 0 := (kf_lp kf).1.1
  have ha40 : K.full.2.1 40 := (kf_out kf).2.1
  have hl40 : K.alen 40 = 1 := (kf_out kf).2.2
  refine j_aload_n h d_Law_law_881 rfl ?_
  refine j_aload_n h d_Law_law_882 rfl ?_
  refine j_iload h d_Law_law_883 rfl ?_
  refine j_iconst (v := nI 1) h d_Law_law_885 (by decide +kernel) ?_
  refine j_iadd h d_Law_law_886 ?_
  refine j_sld (j := i + 1) h hS hbl d_Law_law_887 (nI_add i 1) (by omega) (by omega) ?_
  refine j_aload_n h d_Law_law_888 rfl ?_
  refine jh_callS h (c_Law_drop X.l K K.full (bk4 A B A D) P _ _ _ (c_LP_drop X.l hlt K K.full A B A D P (full_v K) n cs ld sk N T U hnc (xs (i + 1))) (fun V' r I' P' hq => by obtain ⟨_, _, _, e1, e2, -⟩ := hq; exact ⟨e1, _, e2⟩) ha40 hl40 hv0) d_Law_law_889 mh_Law_drop rfl rfl (Nat.le_of_ble_eq_true rfl) (hRl hR (by decide) (by decide)) (hfl hR (by omega) (by omega)) ?_
  rintro V' r I' P' (⟨rfl, v, P1, hq, rfl, rfl⟩ | ⟨rfl, hx, rfl, rfl, rfl⟩)
  · obtain ⟨k, hk, h1, -, e2, pe, B1, rfl, hnc1⟩ := hq
    cases e2
    refine j_istore h d_Law_law_892 (Nat.lt_of_lt_of_eq (m := 7) (by decide) hN.symm) ?_
    refine j_aload_n h d_Law_law_894 rfl ?_
    refine j_aload_n h d_Law_law_895 rfl ?_
    refine j_iload h d_Law_law_896 rfl ?_
    refine j_iconst (v := nI 1) h d_Law_law_898 (by decide +kernel) ?_
    refine j_iadd h d_Law_law_899 ?_
    refine j_sld (j := i + 1) h hS hbl d_Law_law_900 (nI_add i 1) (by omega) (by omega) ?_
    refine j_int (v' := nI k) h1 ?_
    refine j_callV h (c_Mod_drop_ok X.l K K.full _ _ A D _ (MSt_pe (MSt_pe ms (fun col h1 h2 => pe col 0 (by omega) (by omega) (by omega) (by omega))) (fun col h1 h2 => up_c _ _ (by omega))) N hm k hk) d_Law_law_901 ml_Law_124 mv_Mod_drop hv6 ⟨rfl, rfl⟩ rfl rfl (Nat.le_of_ble_eq_true rfl) (hRl hR (by decide) (by decide)) (hfl hR (by omega) (by omega)) ?_
    rintro _ _ _ _ ⟨rfl, rfl, rfl, D1, rfl, e70, hm1⟩
    refine j_istore h d_Law_law_904 (Nat.lt_of_lt_of_eq (m := 7) (by decide) hN.symm) ?_
    refine j_aload_n h d_Law_law_906 rfl ?_
    refine j_callV h (c_Mod_thrown X.l K K.full _ _ _ D1 _ (MSt_pe (MSt_pe ms (fun col h1 h2 => pe col 0 (by omega) (by omega) (by omega) (by omega))) (fun col h1 h2 => up_c _ _ (by omega)))) d_Law_law_907 ml_Law_81 mv_Mod_thrown hv6 ⟨rfl, rfl⟩ rfl rfl (Nat.le_of_ble_eq_true rfl) (hRl hR (by decide) (by decide)) (hfl hR (by omega) (by omega)) ?_
    rintro _ _ _ _ ⟨rfl, rfl, rfl, rfl⟩
    refine j_int (v' := 0) e70 ?_
    refine j_iload h d_Law_law_910 rfl ?_
    refine j_ic_eq (tgt := 917) h d_Law_law_912 (by decide) (fun _ => ?_) (fun c => absurd rfl c)
    refine j_iload h d_Law_law_917 rfl ?_
    refine j_if_ne (tgt := 934) h d_Law_law_919 (by decide) (fun c => absurd rfl c) (fun _ => ?_)
    refine j_aload_n h d_Law_law_922 rfl ?_
    refine j_iconst (v := 0) h d_Law_law_923 (by decide) ?_
    refine j_lald (a := 40) (col := 99) (j := 0) (y := gi _) h d_Law_law_924 rfl ⟨rfl, by decide⟩ ha40 rfl (by rw [hl40]; decide) (by rw [hl40]; decide) (up_s _ _ _ _) ?_
    refine j_iload h d_Law_law_925 rfl ?_
    refine j_i2l h d_Law_law_927 ?_
    refine j_lcmp h d_Law_law_928 ?_
    refine j_if_eq (tgt := 934) h d_Law_law_929 (by decide) (fun _ => ?_) (fun c => absurd (lgc _) c)
    refine j_goto (tgt := 1247) h d_Law_law_934 (by decide) ?_
    refine j_lv (lv' := [(0, .ref b), (1, .ref (K.ad 0 0)), (2, .ref (K.ad 6 0)), (3, .ref (K.aad 40)), (4, .int (nI i))]) (lvs rfl (lvs rfl (lvs rfl (lvs rfl (lvs rfl lvs0))))) ?_
    refine j_widen (k := kc + 5) (n := ks + 30) (by omega) (by omega) ?_
    exact kt _ _ _ _ _ ⟨(CS_99 (CS_pe pe cs)), ⟨_, _, (NC_99 hnc1)⟩, (MSt_pe (MSt_pe ms (fun col h1 h2 => pe col 0 (by omega) (by omega) (by omega) (by omega))) (fun col h1 h2 => up_c _ _ (by omega))), hm1, Inv_drop inv⟩
  · refine j_istore h d_Law_law_892 (Nat.lt_of_lt_of_eq (m := 7) (by decide) hN.symm) ?_
    refine j_aload_n h d_Law_law_894 rfl ?_
    refine j_aload_n h d_Law_law_895 rfl ?_
    refine j_iload h d_Law_law_896 rfl ?_
    refine j_iconst (v := nI 1) h d_Law_law_898 (by decide +kernel) ?_
    refine j_iadd h d_Law_law_899 ?_
    refine j_sld (j := i + 1) h hS hbl d_Law_law_900 (nI_add i 1) (by omega) (by omega) ?_
    refine j_callV h (c_Mod_drop_no X.l K K.full _ _ A D _ ms N hm (xs (i + 1)) (fun q => hx (c_in q (by have := hm.1; omega)))) d_Law_law_901 ml_Law_124 mv_Mod_drop hv6 ⟨rfl, rfl⟩ rfl rfl (Nat.le_of_ble_eq_true rfl) (hRl hR (by decide) (by decide)) (hfl hR (by omega) (by omega)) ?_
    rintro _ _ _ _ ⟨rfl, rfl, rfl, D1, rfl, e70, hm1⟩
    refine j_istore h d_Law_law_904 (Nat.lt_of_lt_of_eq (m := 7) (by decide) hN.symm) ?_
    refine j_aload_n h d_Law_law_906 rfl ?_
    refine j_callV h (c_Mod_thrown X.l K K.full _ _ _ D1 _ ms) d_Law_law_907 ml_Law_81 mv_Mod_thrown hv6 ⟨rfl, rfl⟩ rfl rfl (Nat.le_of_ble_eq_true rfl) (hRl hR (by decide) (by decide)) (hfl hR (by omega) (by omega)) ?_
    rintro _ _ _ _ ⟨rfl, rfl, rfl, rfl⟩
    refine j_int (v' := 1) e70 ?_
    refine j_iload h d_Law_law_910 rfl ?_
    refine j_ic_eq (tgt := 917) h d_Law_law_912 (by decide) (fun _ => ?_) (fun c => absurd rfl c)
    refine j_iload h d_Law_law_917 rfl ?_
    refine j_if_ne (tgt := 934) h d_Law_law_919 (by decide) (fun _ => ?_) (fun c => absurd c (by decide))
    refine j_goto (tgt := 1247) h d_Law_law_934 (by decide) ?_
    refine j_lv (lv' := [(0, .ref b), (1, .ref (K.ad 0 0)), (2, .ref (K.ad 6 0)), (3, .ref (K.aad 40)), (4, .int (nI i))]) (lvs rfl (lvs rfl (lvs rfl (lvs rfl (lvs rfl lvs0))))) ?_
    refine j_widen (k := kc + 5) (n := ks + 30) (by omega) (by omega) ?_
    exact kt _ _ _ _ _ ⟨cs, ⟨_, _, hnc⟩, ms, hm1, inv⟩
set_option maxRecDepth 100000 in
set_option maxHeartbeats 4000000 in
theorem t_message {X : Jx} {K : Kx} {n b L i kc ks : Nat} {ld sk : Int32} {xs : Nat → Int32} {A B D : MI} {P : MP} {N : List Msg} (E : LawE X K n b L xs) (hi : i + 5 < L) (st : ST K n ld sk A B D P N) (hkc : kc + 5 ≤ 601024) (hks : ks + 30 ≤ 7293000) (kt : KT X K n ld sk b i (kc + 5) (ks + 30)) : J X K K.full (bk4 A B A D) P kc ks 950 [(0, .ref b), (1, .ref (K.ad 0 0)), (2, .ref (K.ad 6 0)), (3, .ref (K.aad 40)), (4, .int (nI i))] [] := by
  obtain ⟨h, hN, hR, hlt, kf, hS, hbl, hL⟩ := E
  obtain ⟨cs, ⟨T, U, hnc⟩, ms, hm, inv⟩ := st
  have hv6 : K.full.1 6 0 := (kf_mod kf).1
  have hv0 : K.full.1 0 0 := (kf_lp kf).1.1
  have ha40 : K.full.2.1 40 := (kf_out kf).2.1
  have hl40 : K.alen 40 = 1 := (kf_out kf).2.2
  refine j_aload_n h d_Law_law_950 rfl ?_
  refine j_aload_n h d_Law_law_951 rfl ?_
  refine j_iload h d_Law_law_952 rfl ?_
  refine j_iconst (v := nI 1) h d_Law_law_954 (by decide +kernel) ?_
  refine j_iadd h d_Law_law_955 ?_
  refine j_sld (j := i + 1) h hS hbl d_Law_law_956 (nI_add i 1) (by omega) (by omega) ?_
  refine j_aload_n h d_Law_law_957 rfl ?_
  refine j_iload h d_Law_law_958 rfl ?_
  refine j_iconst (v := nI 2) h d_Law_law_960 (by decide +kernel) ?_
  refine j_iadd h d_Law_law_961 ?_
  refine j_sld (j := i + 2) h hS hbl d_Law_law_962 (nI_add i 2) (by omega) (by omega) ?_
  refine j_aload_n h d_Law_law_963 rfl ?_
  refine jh_callS h (c_Law_message X.l K K.full (bk4 A B A D) P _ _ _ _ (c_LP_message X.l hlt K K.full A B A D P (full_v K) n cs ld sk N T U hnc (xs (i + 1)) (xs (i + 2))) (fun V' r I' P' hq => by obtain ⟨_, _, _, _, _, _, _, e1, e2, -⟩ := hq; exact ⟨e1, _, e2⟩) ha40 hl40 hv0) d_Law_law_964 mh_Law_message rfl rfl (Nat.le_of_ble_eq_true rfl) (hRl hR (by decide) (by decide)) (hfl hR (by omega) (by omega)) ?_
  rintro V' r I' P' (⟨rfl, v, P1, hq, rfl, rfl⟩ | ⟨rfl, hx, rfl, rfl, rfl⟩)
  · obtain ⟨k, x, w, hk, h1, hw, h2, -, e2, rfl, rfl⟩ := hq
    cases e2
    refine j_istore h d_Law_law_967 (Nat.lt_of_lt_of_eq (m := 7) (by decide) hN.symm) ?_
    refine j_aload_n h d_Law_law_969 rfl ?_
    refine j_aload_n h d_Law_law_970 rfl ?_
    refine j_iload h d_Law_law_971 rfl ?_
    refine j_iconst (v := nI 1) h d_Law_law_973 (by decide +kernel) ?_
    refine j_iadd h d_Law_law_974 ?_
    refine j_sld (j := i + 1) h hS hbl d_Law_law_975 (nI_add i 1) (by omega) (by omega) ?_
    refine j_int (v' := nI k) h1 ?_
    refine j_aload_n h d_Law_law_976 rfl ?_
    refine j_iload h d_Law_law_977 rfl ?_
    refine j_iconst (v := nI 2) h d_Law_law_979 (by decide +kernel) ?_
    refine j_iadd h d_Law_law_980 ?_
    refine j_sld (j := i + 2) h hS hbl d_Law_law_981 (nI_add i 2) (by omega) (by omega) ?_
    refine j_int (v' := nI w) h2 ?_
    refine j_callV h (c_Mod_message_ok X.l K K.full _ _ A D _ (MSt_pe ms (fun col h1 h2 => up_c _ _ (by omega))) N hm k x hk w hw) d_Law_law_982 ml_Law_131 mv_Mod_message hv6 ⟨rfl, rfl⟩ rfl rfl (Nat.le_of_ble_eq_true rfl) (hRl hR (by decide) (by decide)) (hfl hR (by omega) (by omega)) ?_
    rintro _ _ _ _ ⟨rfl, rfl, rfl, D1, rfl, e70, hm1⟩
    refine j_istore h d_Law_law_985 (Nat.lt_of_lt_of_eq (m := 7) (by decide) hN.symm) ?_
    refine j_aload_n h d_Law_law_987 rfl ?_
    refine j_callV h (c_Mod_thrown X.l K K.full _ _ _ D1 _ (MSt_pe ms (fun col h1 h2 => up_c _ _ (by omega)))) d_Law_law_988 ml_Law_81 mv_Mod_thrown hv6 ⟨rfl, rfl⟩ rfl rfl (Nat.le_of_ble_eq_true rfl) (hRl hR (by decide) (by decide)) (hfl hR (by omega) (by omega)) ?_
    rintro _ _ _ _ ⟨rfl, rfl, rfl, rfl⟩
    refine j_int (v' := 0) e70 ?_
    refine j_iload h d_Law_law_991 rfl ?_
    refine j_ic_eq (tgt := 998) h d_Law_law_993 (by decide) (fun _ => ?_) (fun c => absurd rfl c)
    refine j_iload h d_Law_law_998 rfl ?_
    refine j_if_ne (tgt := 1015) h d_Law_law_1000 (by decide) (fun c => absurd rfl c) (fun _ => ?_)
    refine j_aload_n h d_Law_law_1003 rfl ?_
    refine j_iconst (v := 0) h d_Law_law_1004 (by decide) ?_
    refine j_lald (a := 40) (col := 99) (j := 0) (y := gi _) h d_Law_law_1005 rfl ⟨rfl, by decide⟩ ha40 rfl (by rw [hl40]; decide) (by rw [hl40]; decide) (up_s _ _ _ _) ?_
    refine j_iload h d_Law_law_1006 rfl ?_
    refine j_i2l h d_Law_law_1008 ?_
    refine j_lcmp h d_Law_law_1009 ?_
    refine j_if_eq (tgt := 1015) h d_Law_law_1010 (by decide) (fun _ => ?_) (fun c => absurd (lgc _) c)
    refine j_goto (tgt := 1247) h d_Law_law_1015 (by decide) ?_
    refine j_lv (lv' := [(0, .ref b), (1, .ref (K.ad 0 0)), (2, .ref (K.ad 6 0)), (3, .ref (K.aad 40)), (4, .int (nI i))]) (lvs rfl (lvs rfl (lvs rfl (lvs rfl (lvs rfl lvs0))))) ?_
    refine j_widen (k := kc + 5) (n := ks + 30) (by omega) (by omega) ?_
    exact kt _ _ _ _ _ ⟨(CS_99 cs), ⟨_, _, (NC_99 hnc)⟩, (MSt_pe ms (fun col h1 h2 => up_c _ _ (by omega))), hm1, inv⟩
  · refine j_istore h d_Law_law_967 (Nat.lt_of_lt_of_eq (m := 7) (by decide) hN.symm) ?_
    refine j_aload_n h d_Law_law_969 rfl ?_
    refine j_aload_n h d_Law_law_970 rfl ?_
    refine j_iload h d_Law_law_971 rfl ?_
    refine j_iconst (v := nI 1) h d_Law_law_973 (by decide +kernel) ?_
    refine j_iadd h d_Law_law_974 ?_
    refine j_sld (j := i + 1) h hS hbl d_Law_law_975 (nI_add i 1) (by omega) (by omega) ?_
    refine j_aload_n h d_Law_law_976 rfl ?_
    refine j_iload h d_Law_law_977 rfl ?_
    refine j_iconst (v := nI 2) h d_Law_law_979 (by decide +kernel) ?_
    refine j_iadd h d_Law_law_980 ?_
    refine j_sld (j := i + 2) h hS hbl d_Law_law_981 (nI_add i 2) (by omega) (by omega) ?_
    refine j_callV h (c_Mod_message_no X.l K K.full _ _ A D _ ms N hm (xs (i + 1)) (xs (i + 2)) (fun q => hx ⟨c_in q.1 (by have := hm.1; omega), q.2⟩)) d_Law_law_982 ml_Law_131 mv_Mod_message hv6 ⟨rfl, rfl⟩ rfl rfl (Nat.le_of_ble_eq_true rfl) (hRl hR (by decide) (by decide)) (hfl hR (by omega) (by omega)) ?_
    rintro _ _ _ _ ⟨rfl, rfl, rfl, D1, rfl, e70, hm1⟩
    refine j_istore h d_Law_law_985 (Nat.lt_of_lt_of_eq (m := 7) (by decide) hN.symm) ?_
    refine j_aload_n h d_Law_law_987 rfl ?_
    refine j_callV h (c_Mod_thrown X.l K K.full _ _ _ D1 _ ms) d_Law_law_988 ml_Law_81 mv_Mod_thrown hv6 ⟨rfl, rfl⟩ rfl rfl (Nat.le_of_ble_eq_true rfl) (hRl hR (by decide) (by decide)) (hfl hR (by omega) (by omega)) ?_
    rintro _ _ _ _ ⟨rfl, rfl, rfl, rfl⟩
    refine j_int (v' := 1) e70 ?_
    refine j_iload h d_Law_law_991 rfl ?_
    refine j_ic_eq (tgt := 998) h d_Law_law_993 (by decide) (fun _ => ?_) (fun c => absurd rfl c)
    refine j_iload h d_Law_law_998 rfl ?_
    refine j_if_ne (tgt := 1015) h d_Law_law_1000 (by decide) (fun _ => ?_) (fun c => absurd c (by decide))
    refine j_goto (tgt := 1247) h d_Law_law_1015 (by decide) ?_
    refine j_lv (lv' := [(0, .ref b), (1, .ref (K.ad 0 0)), (2, .ref (K.ad 6 0)), (3, .ref (K.aad 40)), (4, .int (nI i))]) (lvs rfl (lvs rfl (lvs rfl (lvs rfl (lvs rfl lvs0))))) ?_
    refine j_widen (k := kc + 5) (n := ks + 30) (by omega) (by omega) ?_
    exact kt _ _ _ _ _ ⟨cs, ⟨_, _, hnc⟩, ms, hm1, inv⟩
set_option maxRecDepth 100000 in
set_option maxHeartbeats 4000000 in
theorem t_client {X : Jx} {K : Kx} {n b L i kc ks : Nat} {ld sk : Int32} {xs : Nat → Int32} {A B D : MI} {P : MP} {N : List Msg} (E : LawE X K n b L xs) (hi : i + 5 < L) (st : ST K n ld sk A B D P N) (hkc : kc + 5 ≤ 601024) (hks : ks + 30 ≤ 7293000) (kt : KT X K n ld sk b i (kc + 5) (ks + 30)) : J X K K.full (bk4 A B A D) P kc ks 1018 [(0, .ref b), (1, .ref (K.ad 0 0)), (2, .ref (K.ad 6 0)), (3, .ref (K.aad 40)), (4, .int (nI i))] [] := by
  obtain ⟨h, hN, hR, hlt, kf, hS, hbl, hL⟩ := E
  obtain ⟨cs, ⟨T, U, hnc⟩, ms, hm, inv⟩ := st
  have hv6 : K.full.1 6 0 := (kf_mod kf).1
  have hv0 : K.full.1 0 0 := (kf_lp kf).1.1
  have ha40 : K.full.2.1 40 := (kf_out kf).2.1
  have hl40 : K.alen 40 = 1 := (kf_out kf).2.2
  refine j_aload_n h d_Law_law_1018 rfl ?_
  refine j_aload_n h d_Law_law_1019 rfl ?_
  refine j_iload h d_Law_law_1020 rfl ?_
  refine j_iconst (v := nI 1) h d_Law_law_1022 (by decide +kernel) ?_
  refine j_iadd h d_Law_law_1023 ?_
  refine j_sld (j := i + 1) h hS hbl d_Law_law_1024 (nI_add i 1) (by omega) (by omega) ?_
  refine j_aload_n h d_Law_law_1025 rfl ?_
  refine j_iload h d_Law_law_1026 rfl ?_
  refine j_iconst (v := nI 2) h d_Law_law_1028 (by decide +kernel) ?_
  refine j_iadd h d_Law_law_1029 ?_
  refine j_sld (j := i + 2) h hS hbl d_Law_law_1030 (nI_add i 2) (by omega) (by omega) ?_
  refine j_aload_n h d_Law_law_1031 rfl ?_
  refine jh_callS h (c_Law_client X.l K K.full (bk4 A B A D) P _ _ _ _ (c_LP_client X.l hlt K K.full A B A D P (full_v K) n cs (xs (i + 1)) (xs (i + 2))) (fun V' r I' P' hq => by obtain ⟨_, _, _, _, _, _, e1, e2, -⟩ := hq; exact ⟨e1, _, e2⟩) ha40 hl40 hv0) d_Law_law_1032 mh_Law_client rfl rfl (Nat.le_of_ble_eq_true rfl) (hRl hR (by decide) (by decide)) (hfl hR (by omega) (by omega)) ?_
  rintro V' r I' P' (⟨rfl, v, P1, hq, rfl, rfl⟩ | ⟨rfl, hx, rfl, rfl, rfl⟩)
  · obtain ⟨c0, w, hc0, h1, hw, h2, -, e2, rfl, rfl⟩ := hq
    cases e2
    refine j_istore h d_Law_law_1035 (Nat.lt_of_lt_of_eq (m := 7) (by decide) hN.symm) ?_
    refine j_aload_n h d_Law_law_1037 rfl ?_
    refine j_aload_n h d_Law_law_1038 rfl ?_
    refine j_iload h d_Law_law_1039 rfl ?_
    refine j_iconst (v := nI 1) h d_Law_law_1041 (by decide +kernel) ?_
    refine j_iadd h d_Law_law_1042 ?_
    refine j_sld (j := i + 1) h hS hbl d_Law_law_1043 (nI_add i 1) (by omega) (by omega) ?_
    refine j_int (v' := nI c0) h1 ?_
    refine j_aload_n h d_Law_law_1044 rfl ?_
    refine j_iload h d_Law_law_1045 rfl ?_
    refine j_iconst (v := nI 2) h d_Law_law_1047 (by decide +kernel) ?_
    refine j_iadd h d_Law_law_1048 ?_
    refine j_sld (j := i + 2) h hS hbl d_Law_law_1049 (nI_add i 2) (by omega) (by omega) ?_
    refine j_int (v' := nI w) h2 ?_
    refine j_callV h (c_Mod_client_ok X.l K K.full _ _ A D _ (MSt_pe ms (fun col h1 h2 => up_c _ _ (by omega))) N hm c0 hc0 w hw (inv.2.1.2.2 c0 hc0).1 (inv.2.1.2.2 c0 hc0).2) d_Law_law_1050 ml_Law_134 mv_Mod_client hv6 ⟨rfl, rfl⟩ rfl rfl (Nat.le_of_ble_eq_true rfl) (hRl hR (by decide) (by decide)) (hfl hR (by omega) (by omega)) ?_
    rintro _ _ _ _ ⟨rfl, rfl, rfl, D1, rfl, e70, hm1⟩
    refine j_istore h d_Law_law_1053 (Nat.lt_of_lt_of_eq (m := 7) (by decide) hN.symm) ?_
    refine j_aload_n h d_Law_law_1055 rfl ?_
    refine j_callV h (c_Mod_thrown X.l K K.full _ _ _ D1 _ (MSt_pe ms (fun col h1 h2 => up_c _ _ (by omega)))) d_Law_law_1056 ml_Law_81 mv_Mod_thrown hv6 ⟨rfl, rfl⟩ rfl rfl (Nat.le_of_ble_eq_true rfl) (hRl hR (by decide) (by decide)) (hfl hR (by omega) (by omega)) ?_
    rintro _ _ _ _ ⟨rfl, rfl, rfl, rfl⟩
    refine j_int (v' := 0) e70 ?_
    refine j_iload h d_Law_law_1059 rfl ?_
    refine j_ic_eq (tgt := 1066) h d_Law_law_1061 (by decide) (fun _ => ?_) (fun c => absurd rfl c)
    refine j_iload h d_Law_law_1066 rfl ?_
    refine j_if_ne (tgt := 1083) h d_Law_law_1068 (by decide) (fun c => absurd rfl c) (fun _ => ?_)
    refine j_aload_n h d_Law_law_1071 rfl ?_
    refine j_iconst (v := 0) h d_Law_law_1072 (by decide) ?_
    refine j_lald (a := 40) (col := 99) (j := 0) (y := gi _) h d_Law_law_1073 rfl ⟨rfl, by decide⟩ ha40 rfl (by rw [hl40]; decide) (by rw [hl40]; decide) (up_s _ _ _ _) ?_
    refine j_iload h d_Law_law_1074 rfl ?_
    refine j_i2l h d_Law_law_1076 ?_
    refine j_lcmp h d_Law_law_1077 ?_
    refine j_if_eq (tgt := 1083) h d_Law_law_1078 (by decide) (fun _ => ?_) (fun c => absurd (lgc _) c)
    refine j_goto (tgt := 1247) h d_Law_law_1083 (by decide) ?_
    refine j_lv (lv' := [(0, .ref b), (1, .ref (K.ad 0 0)), (2, .ref (K.ad 6 0)), (3, .ref (K.aad 40)), (4, .int (nI i))]) (lvs rfl (lvs rfl (lvs rfl (lvs rfl (lvs rfl lvs0))))) ?_
    refine j_widen (k := kc + 5) (n := ks + 30) (by omega) (by omega) ?_
    exact kt _ _ _ _ _ ⟨(CS_99 cs), ⟨_, _, (NC_99 hnc)⟩, (MSt_pe ms (fun col h1 h2 => up_c _ _ (by omega))), hm1, inv⟩
  · refine j_istore h d_Law_law_1035 (Nat.lt_of_lt_of_eq (m := 7) (by decide) hN.symm) ?_
    refine j_aload_n h d_Law_law_1037 rfl ?_
    refine j_aload_n h d_Law_law_1038 rfl ?_
    refine j_iload h d_Law_law_1039 rfl ?_
    refine j_iconst (v := nI 1) h d_Law_law_1041 (by decide +kernel) ?_
    refine j_iadd h d_Law_law_1042 ?_
    refine j_sld (j := i + 1) h hS hbl d_Law_law_1043 (nI_add i 1) (by omega) (by omega) ?_
    refine j_aload_n h d_Law_law_1044 rfl ?_
    refine j_iload h d_Law_law_1045 rfl ?_
    refine j_iconst (v := nI 2) h d_Law_law_1047 (by decide +kernel) ?_
    refine j_iadd h d_Law_law_1048 ?_
    refine j_sld (j := i + 2) h hS hbl d_Law_law_1049 (nI_add i 2) (by omega) (by omega) ?_
    refine j_callV h (c_Mod_client_no X.l K K.full _ _ A D _ ms N hm (xs (i + 1)) (xs (i + 2)) (fun q => hx ⟨c16 q.1, q.2⟩)) d_Law_law_1050 ml_Law_134 mv_Mod_client hv6 ⟨rfl, rfl⟩ rfl rfl (Nat.le_of_ble_eq_true rfl) (hRl hR (by decide) (by decide)) (hfl hR (by omega) (by omega)) ?_
    rintro _ _ _ _ ⟨rfl, rfl, rfl, D1, rfl, e70, hm1⟩
    refine j_istore h d_Law_law_1053 (Nat.lt_of_lt_of_eq (m := 7) (by decide) hN.symm) ?_
    refine j_aload_n h d_Law_law_1055 rfl ?_
    refine j_callV h (c_Mod_thrown X.l K K.full _ _ _ D1 _ ms) d_Law_law_1056 ml_Law_81 mv_Mod_thrown hv6 ⟨rfl, rfl⟩ rfl rfl (Nat.le_of_ble_eq_true rfl) (hRl hR (by decide) (by decide)) (hfl hR (by omega) (by omega)) ?_
    rintro _ _ _ _ ⟨rfl, rfl, rfl, rfl⟩
    refine j_int (v' := 1) e70 ?_
    refine j_iload h d_Law_law_1059 rfl ?_
    refine j_ic_eq (tgt := 1066) h d_Law_law_1061 (by decide) (fun _ => ?_) (fun c => absurd rfl c)
    refine j_iload h d_Law_law_1066 rfl ?_
    refine j_if_ne (tgt := 1083) h d_Law_law_1068 (by decide) (fun _ => ?_) (fun c => absurd c (by decide))
    refine j_goto (tgt := 1247) h d_Law_law_1083 (by decide) ?_
    refine j_lv (lv' := [(0, .ref b), (1, .ref (K.ad 0 0)), (2, .ref (K.ad 6 0)), (3, .ref (K.aad 40)), (4, .int (nI i))]) (lvs rfl (lvs rfl (lvs rfl (lvs rfl (lvs rfl lvs0))))) ?_
    refine j_widen (k := kc + 5) (n := ks + 30) (by omega) (by omega) ?_
    exact kt _ _ _ _ _ ⟨cs, ⟨_, _, hnc⟩, ms, hm1, inv⟩
set_option maxRecDepth 100000 in
set_option maxHeartbeats 4000000 in
theorem t_record {X : Jx} {K : Kx} {n b L i kc ks : Nat} {ld sk : Int32} {xs : Nat → Int32} {A B D : MI} {P : MP} {N : List Msg} (E : LawE X K n b L xs) (hi : i + 5 < L) (st : ST K n ld sk A B D P N) (hkc : kc + 5 ≤ 601024) (hks : ks + 30 ≤ 7293000) (kt : KT X K n ld sk b i (kc + 5) (ks + 30)) : J X K K.full (bk4 A B A D) P kc ks 1086 [(0, .ref b), (1, .ref (K.ad 0 0)), (2, .ref (K.ad 6 0)), (3, .ref (K.aad 40)), (4, .int (nI i))] [] := by
  obtain ⟨h, hN, hR, hlt, kf, hS, hbl, hL⟩ := E
  obtain ⟨cs, ⟨T, U, hnc⟩, ms, hm, inv⟩ := st
  have hv6 : K.full.1 6 0 := (kf_mod kf).1
  have hv0 : K.full.1 0 0 := (kf_lp kf).1.1
  have ha40 : K.full.2.1 40 := (kf_out kf).2.1
  have hl40 : K.alen 40 = 1 := (kf_out kf).2.2
  refine j_aload_n h d_Law_law_1086 rfl ?_
  refine j_aload_n h d_Law_law_1087 rfl ?_
  refine j_iload h d_Law_law_1088 rfl ?_
  refine j_iconst (v := nI 1) h d_Law_law_1090 (by decide +kernel) ?_
  refine j_iadd h d_Law_law_1091 ?_
  refine j_sld (j := i + 1) h hS hbl d_Law_law_1092 (nI_add i 1) (by omega) (by omega) ?_
  refine j_aload_n h d_Law_law_1093 rfl ?_
  refine j_iload h d_Law_law_1094 rfl ?_
  refine j_iconst (v := nI 2) h d_Law_law_1096 (by decide +kernel) ?_
  refine j_iadd h d_Law_law_1097 ?_
  refine j_sld (j := i + 2) h hS hbl d_Law_law_1098 (nI_add i 2) (by omega) (by omega) ?_
  refine j_aload_n h d_Law_law_1099 rfl ?_
  refine j_iload h d_Law_law_1100 rfl ?_
  refine j_iconst (v := nI 3) h d_Law_law_1102 (by decide +kernel) ?_
  refine j_iadd h d_Law_law_1103 ?_
  refine j_sld (j := i + 3) h hS hbl d_Law_law_1104 (nI_add i 3) (by omega) (by omega) ?_
  refine j_aload_n h d_Law_law_1105 rfl ?_
  refine jh_callS h (c_Law_record X.l K K.full (bk4 A B A D) P _ _ _ _ _ (c_LP_record X.l hlt K K.full A B A D P (full_v K) n cs inv.1.2.1 (xs (i + 1)) (xs (i + 2)) (xs (i + 3))) (fun V' r I' P' hq => by obtain ⟨_, _, _, _, _, _, _, _, _, e1, e2, -⟩ := hq; exact ⟨e1, _, e2⟩) ha40 hl40 hv0) d_Law_law_1106 mh_Law_record rfl rfl (Nat.le_of_ble_eq_true rfl) (hRl hR (by decide) (by decide)) (hfl hR (by omega) (by omega)) ?_
  rintro V' r I' P' (⟨rfl, v, P1, hq, rfl, rfl⟩ | ⟨rfl, hx, rfl, rfl, rfl⟩)
  · obtain ⟨s, a, w, hs, h1, ha, h2, hw, h3, -, e2, rfl, rfl⟩ := hq
    cases e2
    refine j_istore h d_Law_law_1109 (Nat.lt_of_lt_of_eq (m := 7) (by decide) hN.symm) ?_
    refine j_aload_n h d_Law_law_1111 rfl ?_
    refine j_aload_n h d_Law_law_1112 rfl ?_
    refine j_iload h d_Law_law_1113 rfl ?_
    refine j_iconst (v := nI 1) h d_Law_law_1115 (by decide +kernel) ?_
    refine j_iadd h d_Law_law_1116 ?_
    refine j_sld (j := i + 1) h hS hbl d_Law_law_1117 (nI_add i 1) (by omega) (by omega) ?_
    refine j_int (v' := nI s) h1 ?_
    refine j_aload_n h d_Law_law_1118 rfl ?_
    refine j_iload h d_Law_law_1119 rfl ?_
    refine j_iconst (v := nI 2) h d_Law_law_1121 (by decide +kernel) ?_
    refine j_iadd h d_Law_law_1122 ?_
    refine j_sld (j := i + 2) h hS hbl d_Law_law_1123 (nI_add i 2) (by omega) (by omega) ?_
    refine j_int (v' := nI a) h2 ?_
    refine j_aload_n h d_Law_law_1124 rfl ?_
    refine j_iload h d_Law_law_1125 rfl ?_
    refine j_iconst (v := nI 3) h d_Law_law_1127 (by decide +kernel) ?_
    refine j_iadd h d_Law_law_1128 ?_
    refine j_sld (j := i + 3) h hS hbl d_Law_law_1129 (nI_add i 3) (by omega) (by omega) ?_
    refine j_int (v' := nI w) h3 ?_
    refine j_callV h (c_Mod_record_ok X.l K K.full _ _ A D _ (MSt_pe ms (fun col h1 h2 => up_c _ _ (by omega))) N hm n ld sk inv.1 s hs a ha w hw) d_Law_law_1130 ml_Law_138 mv_Mod_record hv6 ⟨rfl, rfl⟩ rfl rfl (Nat.le_of_ble_eq_true rfl) (hRl hR (by decide) (by decide)) (hfl hR (by omega) (by omega)) ?_
    rintro _ _ _ _ ⟨rfl, rfl, rfl, D1, rfl, e70, hm1⟩
    refine j_istore h d_Law_law_1133 (Nat.lt_of_lt_of_eq (m := 7) (by decide) hN.symm) ?_
    refine j_aload_n h d_Law_law_1135 rfl ?_
    refine j_callV h (c_Mod_thrown X.l K K.full _ _ _ D1 _ (MSt_pe ms (fun col h1 h2 => up_c _ _ (by omega)))) d_Law_law_1136 ml_Law_81 mv_Mod_thrown hv6 ⟨rfl, rfl⟩ rfl rfl (Nat.le_of_ble_eq_true rfl) (hRl hR (by decide) (by decide)) (hfl hR (by omega) (by omega)) ?_
    rintro _ _ _ _ ⟨rfl, rfl, rfl, rfl⟩
    refine j_int (v' := 0) e70 ?_
    refine j_iload h d_Law_law_1139 rfl ?_
    refine j_ic_eq (tgt := 1146) h d_Law_law_1141 (by decide) (fun _ => ?_) (fun c => absurd rfl c)
    refine j_iload h d_Law_law_1146 rfl ?_
    refine j_if_ne (tgt := 1163) h d_Law_law_1148 (by decide) (fun c => absurd rfl c) (fun _ => ?_)
    refine j_aload_n h d_Law_law_1151 rfl ?_
    refine j_iconst (v := 0) h d_Law_law_1152 (by decide) ?_
    refine j_lald (a := 40) (col := 99) (j := 0) (y := gi _) h d_Law_law_1153 rfl ⟨rfl, by decide⟩ ha40 rfl (by rw [hl40]; decide) (by rw [hl40]; decide) (up_s _ _ _ _) ?_
    refine j_iload h d_Law_law_1154 rfl ?_
    refine j_i2l h d_Law_law_1156 ?_
    refine j_lcmp h d_Law_law_1157 ?_
    refine j_if_eq (tgt := 1163) h d_Law_law_1158 (by decide) (fun _ => ?_) (fun c => absurd (lgc _) c)
    refine j_goto (tgt := 1247) h d_Law_law_1163 (by decide) ?_
    refine j_lv (lv' := [(0, .ref b), (1, .ref (K.ad 0 0)), (2, .ref (K.ad 6 0)), (3, .ref (K.aad 40)), (4, .int (nI i))]) (lvs rfl (lvs rfl (lvs rfl (lvs rfl (lvs rfl lvs0))))) ?_
    refine j_widen (k := kc + 5) (n := ks + 30) (by omega) (by omega) ?_
    exact kt _ _ _ _ _ ⟨(CS_99 cs), ⟨_, _, (NC_99 hnc)⟩, (MSt_pe ms (fun col h1 h2 => up_c _ _ (by omega))), hm1, inv⟩
  · refine j_istore h d_Law_law_1109 (Nat.lt_of_lt_of_eq (m := 7) (by decide) hN.symm) ?_
    refine j_aload_n h d_Law_law_1111 rfl ?_
    refine j_aload_n h d_Law_law_1112 rfl ?_
    refine j_iload h d_Law_law_1113 rfl ?_
    refine j_iconst (v := nI 1) h d_Law_law_1115 (by decide +kernel) ?_
    refine j_iadd h d_Law_law_1116 ?_
    refine j_sld (j := i + 1) h hS hbl d_Law_law_1117 (nI_add i 1) (by omega) (by omega) ?_
    refine j_aload_n h d_Law_law_1118 rfl ?_
    refine j_iload h d_Law_law_1119 rfl ?_
    refine j_iconst (v := nI 2) h d_Law_law_1121 (by decide +kernel) ?_
    refine j_iadd h d_Law_law_1122 ?_
    refine j_sld (j := i + 2) h hS hbl d_Law_law_1123 (nI_add i 2) (by omega) (by omega) ?_
    refine j_aload_n h d_Law_law_1124 rfl ?_
    refine j_iload h d_Law_law_1125 rfl ?_
    refine j_iconst (v := nI 3) h d_Law_law_1127 (by decide +kernel) ?_
    refine j_iadd h d_Law_law_1128 ?_
    refine j_sld (j := i + 3) h hS hbl d_Law_law_1129 (nI_add i 3) (by omega) (by omega) ?_
    refine j_callV h (c_Mod_record_no X.l K K.full _ _ A D _ ms N hm n ld sk inv.1 (xs (i + 1)) (xs (i + 2)) (xs (i + 3)) (fun q => hx ⟨(is_srv _).mpr q.1, c_in q.2.1 (by have := inv.1.1; omega), q.2.2⟩)) d_Law_law_1130 ml_Law_138 mv_Mod_record hv6 ⟨rfl, rfl⟩ rfl rfl (Nat.le_of_ble_eq_true rfl) (hRl hR (by decide) (by decide)) (hfl hR (by omega) (by omega)) ?_
    rintro _ _ _ _ ⟨rfl, rfl, rfl, D1, rfl, e70, hm1⟩
    refine j_istore h d_Law_law_1133 (Nat.lt_of_lt_of_eq (m := 7) (by decide) hN.symm) ?_
    refine j_aload_n h d_Law_law_1135 rfl ?_
    refine j_callV h (c_Mod_thrown X.l K K.full _ _ _ D1 _ ms) d_Law_law_1136 ml_Law_81 mv_Mod_thrown hv6 ⟨rfl, rfl⟩ rfl rfl (Nat.le_of_ble_eq_true rfl) (hRl hR (by decide) (by decide)) (hfl hR (by omega) (by omega)) ?_
    rintro _ _ _ _ ⟨rfl, rfl, rfl, rfl⟩
    refine j_int (v' := 1) e70 ?_
    refine j_iload h d_Law_law_1139 rfl ?_
    refine j_ic_eq (tgt := 1146) h d_Law_law_1141 (by decide) (fun _ => ?_) (fun c => absurd rfl c)
    refine j_iload h d_Law_law_1146 rfl ?_
    refine j_if_ne (tgt := 1163) h d_Law_law_1148 (by decide) (fun _ => ?_) (fun c => absurd c (by decide))
    refine j_goto (tgt := 1247) h d_Law_law_1163 (by decide) ?_
    refine j_lv (lv' := [(0, .ref b), (1, .ref (K.ad 0 0)), (2, .ref (K.ad 6 0)), (3, .ref (K.aad 40)), (4, .int (nI i))]) (lvs rfl (lvs rfl (lvs rfl (lvs rfl (lvs rfl lvs0))))) ?_
    refine j_widen (k := kc + 5) (n := ks + 30) (by omega) (by omega) ?_
    exact kt _ _ _ _ _ ⟨cs, ⟨_, _, hnc⟩, ms, hm1, inv⟩
set_option maxRecDepth 100000 in
set_option maxHeartbeats 4000000 in
theorem t_server {X : Jx} {K : Kx} {n b L i kc ks : Nat} {ld sk : Int32} {xs : Nat → Int32} {A B D : MI} {P : MP} {N : List Msg} (E : LawE X K n b L xs) (hi : i + 5 < L) (st : ST K n ld sk A B D P N) (hkc : kc + 5 ≤ 601024) (hks : ks + 30 ≤ 7293000) (kt : KT X K n ld sk b i (kc + 5) (ks + 30)) : J X K K.full (bk4 A B A D) P kc ks 1166 [(0, .ref b), (1, .ref (K.ad 0 0)), (2, .ref (K.ad 6 0)), (3, .ref (K.aad 40)), (4, .int (nI i))] [] := by
  obtain ⟨h, hN, hR, hlt, kf, hS, hbl, hL⟩ := E
  obtain ⟨cs, ⟨T, U, hnc⟩, ms, hm, inv⟩ := st
  have hv6 : K.full.1 6 0 := (kf_mod kf).1
  have hv0 : K.full.1 0 0 := (kf_lp kf).1.1
  have ha40 : K.full.2.1 40 := (kf_out kf).2.1
  have hl40 : K.alen 40 = 1 := (kf_out kf).2.2
  refine j_aload_n h d_Law_law_1166 rfl ?_
  refine j_aload_n h d_Law_law_1167 rfl ?_
  refine j_iload h d_Law_law_1168 rfl ?_
  refine j_iconst (v := nI 1) h d_Law_law_1170 (by decide +kernel) ?_
  refine j_iadd h d_Law_law_1171 ?_
  refine j_sld (j := i + 1) h hS hbl d_Law_law_1172 (nI_add i 1) (by omega) (by omega) ?_
  refine j_aload_n h d_Law_law_1173 rfl ?_
  refine j_iload h d_Law_law_1174 rfl ?_
  refine j_iconst (v := nI 2) h d_Law_law_1176 (by decide +kernel) ?_
  refine j_iadd h d_Law_law_1177 ?_
  refine j_sld (j := i + 2) h hS hbl d_Law_law_1178 (nI_add i 2) (by omega) (by omega) ?_
  refine j_aload_n h d_Law_law_1179 rfl ?_
  refine jh_callS h (c_Law_server X.l K K.full (bk4 A B A D) P _ _ _ _ (c_LP_server X.l hlt K K.full A B A D P (full_v K) n cs (xs (i + 1)) (xs (i + 2))) (fun V' r I' P' hq => by obtain ⟨_, _, _, _, _, _, e1, e2, -⟩ := hq; exact ⟨e1, _, e2⟩) ha40 hl40 hv0) d_Law_law_1180 mh_Law_server rfl rfl (Nat.le_of_ble_eq_true rfl) (hRl hR (by decide) (by decide)) (hfl hR (by omega) (by omega)) ?_
  rintro V' r I' P' (⟨rfl, v, P1, hq, rfl, rfl⟩ | ⟨rfl, hx, rfl, rfl, rfl⟩)
  · obtain ⟨s, w, hs, h1, hw, h2, -, e2, rfl, rfl⟩ := hq
    cases e2
    refine j_istore h d_Law_law_1183 (Nat.lt_of_lt_of_eq (m := 7) (by decide) hN.symm) ?_
    refine j_aload_n h d_Law_law_1185 rfl ?_
    refine j_aload_n h d_Law_law_1186 rfl ?_
    refine j_iload h d_Law_law_1187 rfl ?_
    refine j_iconst (v := nI 1) h d_Law_law_1189 (by decide +kernel) ?_
    refine j_iadd h d_Law_law_1190 ?_
    refine j_sld (j := i + 1) h hS hbl d_Law_law_1191 (nI_add i 1) (by omega) (by omega) ?_
    refine j_int (v' := nI s) h1 ?_
    refine j_aload_n h d_Law_law_1192 rfl ?_
    refine j_iload h d_Law_law_1193 rfl ?_
    refine j_iconst (v := nI 2) h d_Law_law_1195 (by decide +kernel) ?_
    refine j_iadd h d_Law_law_1196 ?_
    refine j_sld (j := i + 2) h hS hbl d_Law_law_1197 (nI_add i 2) (by omega) (by omega) ?_
    refine j_int (v' := nI w) h2 ?_
    refine j_callV h (c_Mod_server_ok X.l K K.full _ _ A D _ (MSt_pe ms (fun col h1 h2 => up_c _ _ (by omega))) N hm n ld sk inv.1 s hs w hw) d_Law_law_1198 ml_Law_141 mv_Mod_server hv6 ⟨rfl, rfl⟩ rfl rfl (Nat.le_of_ble_eq_true rfl) (hRl hR (by decide) (by decide)) (hfl hR (by omega) (by omega)) ?_
    rintro _ _ _ _ ⟨rfl, rfl, rfl, D1, rfl, e70, hm1⟩
    refine j_istore h d_Law_law_1201 (Nat.lt_of_lt_of_eq (m := 7) (by decide) hN.symm) ?_
    refine j_aload_n h d_Law_law_1203 rfl ?_
    refine j_callV h (c_Mod_thrown X.l K K.full _ _ _ D1 _ (MSt_pe ms (fun col h1 h2 => up_c _ _ (by omega)))) d_Law_law_1204 ml_Law_81 mv_Mod_thrown hv6 ⟨rfl, rfl⟩ rfl rfl (Nat.le_of_ble_eq_true rfl) (hRl hR (by decide) (by decide)) (hfl hR (by omega) (by omega)) ?_
    rintro _ _ _ _ ⟨rfl, rfl, rfl, rfl⟩
    refine j_int (v' := 0) e70 ?_
    refine j_iload h d_Law_law_1207 rfl ?_
    refine j_ic_eq (tgt := 1214) h d_Law_law_1209 (by decide) (fun _ => ?_) (fun c => absurd rfl c)
    refine j_iload h d_Law_law_1214 rfl ?_
    refine j_if_ne (tgt := 1231) h d_Law_law_1216 (by decide) (fun c => absurd rfl c) (fun _ => ?_)
    refine j_aload_n h d_Law_law_1219 rfl ?_
    refine j_iconst (v := 0) h d_Law_law_1220 (by decide) ?_
    refine j_lald (a := 40) (col := 99) (j := 0) (y := gi _) h d_Law_law_1221 rfl ⟨rfl, by decide⟩ ha40 rfl (by rw [hl40]; decide) (by rw [hl40]; decide) (up_s _ _ _ _) ?_
    refine j_iload h d_Law_law_1222 rfl ?_
    refine j_i2l h d_Law_law_1224 ?_
    refine j_lcmp h d_Law_law_1225 ?_
    refine j_if_eq (tgt := 1231) h d_Law_law_1226 (by decide) (fun _ => ?_) (fun c => absurd (lgc _) c)
    refine j_goto (tgt := 1247) h d_Law_law_1231 (by decide) ?_
    refine j_lv (lv' := [(0, .ref b), (1, .ref (K.ad 0 0)), (2, .ref (K.ad 6 0)), (3, .ref (K.aad 40)), (4, .int (nI i))]) (lvs rfl (lvs rfl (lvs rfl (lvs rfl (lvs rfl lvs0))))) ?_
    refine j_widen (k := kc + 5) (n := ks + 30) (by omega) (by omega) ?_
    exact kt _ _ _ _ _ ⟨(CS_99 cs), ⟨_, _, (NC_99 hnc)⟩, (MSt_pe ms (fun col h1 h2 => up_c _ _ (by omega))), hm1, inv⟩
  · refine j_istore h d_Law_law_1183 (Nat.lt_of_lt_of_eq (m := 7) (by decide) hN.symm) ?_
    refine j_aload_n h d_Law_law_1185 rfl ?_
    refine j_aload_n h d_Law_law_1186 rfl ?_
    refine j_iload h d_Law_law_1187 rfl ?_
    refine j_iconst (v := nI 1) h d_Law_law_1189 (by decide +kernel) ?_
    refine j_iadd h d_Law_law_1190 ?_
    refine j_sld (j := i + 1) h hS hbl d_Law_law_1191 (nI_add i 1) (by omega) (by omega) ?_
    refine j_aload_n h d_Law_law_1192 rfl ?_
    refine j_iload h d_Law_law_1193 rfl ?_
    refine j_iconst (v := nI 2) h d_Law_law_1195 (by decide +kernel) ?_
    refine j_iadd h d_Law_law_1196 ?_
    refine j_sld (j := i + 2) h hS hbl d_Law_law_1197 (nI_add i 2) (by omega) (by omega) ?_
    refine j_callV h (c_Mod_server_no X.l K K.full _ _ A D _ ms N hm (xs (i + 1)) (xs (i + 2)) (fun q => hx ⟨(is_srv _).mpr q.1, q.2⟩)) d_Law_law_1198 ml_Law_141 mv_Mod_server hv6 ⟨rfl, rfl⟩ rfl rfl (Nat.le_of_ble_eq_true rfl) (hRl hR (by decide) (by decide)) (hfl hR (by omega) (by omega)) ?_
    rintro _ _ _ _ ⟨rfl, rfl, rfl, D1, rfl, e70, hm1⟩
    refine j_istore h d_Law_law_1201 (Nat.lt_of_lt_of_eq (m := 7) (by decide) hN.symm) ?_
    refine j_aload_n h d_Law_law_1203 rfl ?_
    refine j_callV h (c_Mod_thrown X.l K K.full _ _ _ D1 _ ms) d_Law_law_1204 ml_Law_81 mv_Mod_thrown hv6 ⟨rfl, rfl⟩ rfl rfl (Nat.le_of_ble_eq_true rfl) (hRl hR (by decide) (by decide)) (hfl hR (by omega) (by omega)) ?_
    rintro _ _ _ _ ⟨rfl, rfl, rfl, rfl⟩
    refine j_int (v' := 1) e70 ?_
    refine j_iload h d_Law_law_1207 rfl ?_
    refine j_ic_eq (tgt := 1214) h d_Law_law_1209 (by decide) (fun _ => ?_) (fun c => absurd rfl c)
    refine j_iload h d_Law_law_1214 rfl ?_
    refine j_if_ne (tgt := 1231) h d_Law_law_1216 (by decide) (fun _ => ?_) (fun c => absurd c (by decide))
    refine j_goto (tgt := 1247) h d_Law_law_1231 (by decide) ?_
    refine j_lv (lv' := [(0, .ref b), (1, .ref (K.ad 0 0)), (2, .ref (K.ad 6 0)), (3, .ref (K.aad 40)), (4, .int (nI i))]) (lvs rfl (lvs rfl (lvs rfl (lvs rfl (lvs rfl lvs0))))) ?_
    refine j_widen (k := kc + 5) (n := ks + 30) (by omega) (by omega) ?_
    exact kt _ _ _ _ _ ⟨cs, ⟨_, _, hnc⟩, ms, hm1, inv⟩
