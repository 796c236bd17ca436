theorem dX12_next_0 : decode cX12_next 0 = .ok (.aload_n 0, 1) := by decide +kernel
theorem dX12_next_1 : decode cX12_next 1 = .ok (.getfield 150, 3) := by decide +kernel
theorem dX12_next_4 : decode cX12_next 4 = .ok (.aload_n 0, 1) := by decide +kernel
theorem dX12_next_5 : decode cX12_next 5 = .ok (.getfield 145, 3) := by decide +kernel
theorem dX12_next_8 : decode cX12_next 8 = .ok (.if_icmp .ge 44, 3) := by decide +kernel
theorem dX12_next_11 : decode cX12_next 11 = .ok (.aload_n 0, 1) := by decide +kernel
theorem dX12_next_12 : decode cX12_next 12 = .ok (.getfield 37, 3) := by decide +kernel
theorem dX12_next_15 : decode cX12_next 15 = .ok (.aload_n 0, 1) := by decide +kernel
theorem dX12_next_16 : decode cX12_next 16 = .ok (.getfield 150, 3) := by decide +kernel
theorem dX12_next_19 : decode cX12_next 19 = .ok (.iaload, 1) := by decide +kernel
theorem dX12_next_20 : decode cX12_next 20 = .ok (.bipush 32, 2) := by decide +kernel
theorem dX12_next_22 : decode cX12_next 22 = .ok (.if_icmp .eq 17, 3) := by decide +kernel
theorem dX12_next_25 : decode cX12_next 25 = .ok (.aload_n 0, 1) := by decide +kernel
theorem dX12_next_26 : decode cX12_next 26 = .ok (.getfield 37, 3) := by decide +kernel
theorem dX12_next_29 : decode cX12_next 29 = .ok (.aload_n 0, 1) := by decide +kernel
theorem dX12_next_30 : decode cX12_next 30 = .ok (.getfield 150, 3) := by decide +kernel
theorem dX12_next_33 : decode cX12_next 33 = .ok (.iaload, 1) := by decide +kernel
theorem dX12_next_34 : decode cX12_next 34 = .ok (.bipush 10, 2) := by decide +kernel
theorem dX12_next_36 : decode cX12_next 36 = .ok (.if_icmp .ne 16, 3) := by decide +kernel
theorem dX12_next_39 : decode cX12_next 39 = .ok (.aload_n 0, 1) := by decide +kernel
theorem dX12_next_40 : decode cX12_next 40 = .ok (.dup, 1) := by decide +kernel
theorem dX12_next_41 : decode cX12_next 41 = .ok (.getfield 150, 3) := by decide +kernel
theorem dX12_next_44 : decode cX12_next 44 = .ok (.iconst 1, 1) := by decide +kernel
theorem dX12_next_45 : decode cX12_next 45 = .ok (.iadd, 1) := by decide +kernel
theorem dX12_next_46 : decode cX12_next 46 = .ok (.putfield 150, 3) := by decide +kernel
theorem dX12_next_49 : decode cX12_next 49 = .ok (.goto (-49), 3) := by decide +kernel
theorem dX12_next_52 : decode cX12_next 52 = .ok (.aload_n 0, 1) := by decide +kernel
theorem dX12_next_53 : decode cX12_next 53 = .ok (.aload_n 0, 1) := by decide +kernel
theorem dX12_next_54 : decode cX12_next 54 = .ok (.getfield 150, 3) := by decide +kernel
theorem dX12_next_57 : decode cX12_next 57 = .ok (.putfield 153, 3) := by decide +kernel
theorem dX12_next_60 : decode cX12_next 60 = .ok (.aload_n 0, 1) := by decide +kernel
theorem dX12_next_61 : decode cX12_next 61 = .ok (.iconst 0, 1) := by decide +kernel
theorem dX12_next_62 : decode cX12_next 62 = .ok (.putfield 156, 3) := by decide +kernel
theorem dX12_next_65 : decode cX12_next 65 = .ok (.aload_n 0, 1) := by decide +kernel
theorem dX12_next_66 : decode cX12_next 66 = .ok (.iconst 0, 1) := by decide +kernel
theorem dX12_next_67 : decode cX12_next 67 = .ok (.putfield 159, 3) := by decide +kernel
theorem dX12_next_70 : decode cX12_next 70 = .ok (.aload_n 0, 1) := by decide +kernel
theorem dX12_next_71 : decode cX12_next 71 = .ok (.getfield 150, 3) := by decide +kernel
theorem dX12_next_74 : decode cX12_next 74 = .ok (.aload_n 0, 1) := by decide +kernel
theorem dX12_next_75 : decode cX12_next 75 = .ok (.getfield 145, 3) := by decide +kernel
theorem dX12_next_78 : decode cX12_next 78 = .ok (.if_icmp .ne 4, 3) := by decide +kernel
theorem dX12_next_81 : decode cX12_next 81 = .ok (.return_, 1) := by decide +kernel
theorem dX12_next_82 : decode cX12_next 82 = .ok (.aload_n 0, 1) := by decide +kernel
theorem dX12_next_83 : decode cX12_next 83 = .ok (.getfield 37, 3) := by decide +kernel
theorem dX12_next_86 : decode cX12_next 86 = .ok (.aload_n 0, 1) := by decide +kernel
theorem dX12_next_87 : decode cX12_next 87 = .ok (.getfield 150, 3) := by decide +kernel
theorem dX12_next_90 : decode cX12_next 90 = .ok (.iaload, 1) := by decide +kernel
theorem dX12_next_91 : decode cX12_next 91 = .ok (.istore_n 1, 1) := by decide +kernel
theorem dX12_next_92 : decode cX12_next 92 = .ok (.iload_n 1, 1) := by decide +kernel
theorem dX12_next_93 : decode cX12_next 93 = .ok (.bipush 97, 2) := by decide +kernel
theorem dX12_next_95 : decode cX12_next 95 = .ok (.bipush 122, 2) := by decide +kernel
theorem dX12_next_97 : decode cX12_next 97 = .ok (.invokestatic 127, 3) := by decide +kernel
theorem dX12_next_100 : decode cX12_next 100 = .ok (.ifCond .eq 101, 3) := by decide +kernel
theorem dX12_next_103 : decode cX12_next 103 = .ok (.aload_n 0, 1) := by decide +kernel
theorem dX12_next_104 : decode cX12_next 104 = .ok (.invokevirtual 162, 3) := by decide +kernel
theorem dX12_next_107 : decode cX12_next 107 = .ok (.lstore_n 2, 1) := by decide +kernel
theorem dX12_next_108 : decode cX12_next 108 = .ok (.iconst 0, 1) := by decide +kernel
theorem dX12_next_109 : decode cX12_next 109 = .ok (.istore 4, 2) := by decide +kernel
theorem dX12_next_111 : decode cX12_next 111 = .ok (.iload 4, 2) := by decide +kernel
theorem dX12_next_113 : decode cX12_next 113 = .ok (.bipush 11, 2) := by decide +kernel
theorem dX12_next_115 : decode cX12_next 115 = .ok (.if_icmp .ge 21, 3) := by decide +kernel
theorem dX12_next_118 : decode cX12_next 118 = .ok (.aload_n 0, 1) := by decide +kernel
theorem dX12_next_119 : decode cX12_next 119 = .ok (.getfield 93, 3) := by decide +kernel
theorem dX12_next_122 : decode cX12_next 122 = .ok (.iload 4, 2) := by decide +kernel
theorem dX12_next_124 : decode cX12_next 124 = .ok (.laload, 1) := by decide +kernel
theorem dX12_next_125 : decode cX12_next 125 = .ok (.lload_n 2, 1) := by decide +kernel
theorem dX12_next_126 : decode cX12_next 126 = .ok (.lcmp, 1) := by decide +kernel
theorem dX12_next_127 : decode cX12_next 127 = .ok (.ifCond .eq 9, 3) := by decide +kernel
theorem dX12_next_130 : decode cX12_next 130 = .ok (.iinc 4 1, 3) := by decide +kernel
theorem dX12_next_133 : decode cX12_next 133 = .ok (.goto (-22), 3) := by decide +kernel
theorem dX12_next_136 : decode cX12_next 136 = .ok (.aload_n 0, 1) := by decide +kernel
theorem dX12_next_137 : decode cX12_next 137 = .ok (.iload 4, 2) := by decide +kernel
theorem dX12_next_139 : decode cX12_next 139 = .ok (.iconst 2, 1) := by decide +kernel
theorem dX12_next_140 : decode cX12_next 140 = .ok (.if_icmp .ge 7, 3) := by decide +kernel
theorem dX12_next_143 : decode cX12_next 143 = .ok (.iconst 3, 1) := by decide +kernel
theorem dX12_next_144 : decode cX12_next 144 = .ok (.goto 32, 3) := by decide +kernel
theorem dX12_next_147 : decode cX12_next 147 = .ok (.iload 4, 2) := by decide +kernel
theorem dX12_next_149 : decode cX12_next 149 = .ok (.bipush 8, 2) := by decide +kernel
theorem dX12_next_151 : decode cX12_next 151 = .ok (.if_icmp .ge 7, 3) := by decide +kernel
theorem dX12_next_154 : decode cX12_next 154 = .ok (.iconst 2, 1) := by decide +kernel
theorem dX12_next_155 : decode cX12_next 155 = .ok (.goto 21, 3) := by decide +kernel
theorem dX12_next_158 : decode cX12_next 158 = .ok (.iload 4, 2) := by decide +kernel
theorem dX12_next_160 : decode cX12_next 160 = .ok (.bipush 11, 2) := by decide +kernel
theorem dX12_next_162 : decode cX12_next 162 = .ok (.if_icmp .ne 7, 3) := by decide +kernel
theorem dX12_next_165 : decode cX12_next 165 = .ok (.iconst (-1), 1) := by decide +kernel
theorem dX12_next_166 : decode cX12_next 166 = .ok (.goto 10, 3) := by decide +kernel
theorem dX12_next_169 : decode cX12_next 169 = .ok (.iconst 4, 1) := by decide +kernel
theorem dX12_next_170 : decode cX12_next 170 = .ok (.iload 4, 2) := by decide +kernel
theorem dX12_next_172 : decode cX12_next 172 = .ok (.iadd, 1) := by decide +kernel
theorem dX12_next_173 : decode cX12_next 173 = .ok (.bipush 8, 2) := by decide +kernel
theorem dX12_next_175 : decode cX12_next 175 = .ok (.isub, 1) := by decide +kernel
theorem dX12_next_176 : decode cX12_next 176 = .ok (.putfield 156, 3) := by decide +kernel
theorem dX12_next_179 : decode cX12_next 179 = .ok (.aload_n 0, 1) := by decide +kernel
theorem dX12_next_180 : decode cX12_next 180 = .ok (.iload 4, 2) := by decide +kernel
theorem dX12_next_182 : decode cX12_next 182 = .ok (.iconst 2, 1) := by decide +kernel
theorem dX12_next_183 : decode cX12_next 183 = .ok (.if_icmp .ge 8, 3) := by decide +kernel
theorem dX12_next_186 : decode cX12_next 186 = .ok (.iload 4, 2) := by decide +kernel
theorem dX12_next_188 : decode cX12_next 188 = .ok (.goto 7, 3) := by decide +kernel
theorem dX12_next_191 : decode cX12_next 191 = .ok (.iload 4, 2) := by decide +kernel
theorem dX12_next_193 : decode cX12_next 193 = .ok (.iconst 2, 1) := by decide +kernel

theorem dX12_next_194 : decode cX12_next 194 = .ok (.isub, 1) := by decide +kernel
theorem dX12_next_195 : decode cX12_next 195 = .ok (.putfield 159, 3) := by decide +kernel
theorem dX12_next_198 : decode cX12_next 198 = .ok (.goto 189, 3) := by decide +kernel
theorem dX12_next_201 : decode cX12_next 201 = .ok (.iload_n 1, 1) := by decide +kernel
theorem dX12_next_202 : decode cX12_next 202 = .ok (.bipush 48, 2) := by decide +kernel
theorem dX12_next_204 : decode cX12_next 204 = .ok (.bipush 57, 2) := by decide +kernel
theorem dX12_next_206 : decode cX12_next 206 = .ok (.invokestatic 127, 3) := by decide +kernel
theorem dX12_next_209 : decode cX12_next 209 = .ok (.ifCond .eq 101, 3) := by decide +kernel
theorem dX12_next_212 : decode cX12_next 212 = .ok (.iconst 0, 1) := by decide +kernel
theorem dX12_next_213 : decode cX12_next 213 = .ok (.istore_n 2, 1) := by decide +kernel
theorem dX12_next_214 : decode cX12_next 214 = .ok (.aload_n 0, 1) := by decide +kernel
theorem dX12_next_215 : decode cX12_next 215 = .ok (.getfield 150, 3) := by decide +kernel
theorem dX12_next_218 : decode cX12_next 218 = .ok (.aload_n 0, 1) := by decide +kernel
theorem dX12_next_219 : decode cX12_next 219 = .ok (.getfield 145, 3) := by decide +kernel
theorem dX12_next_222 : decode cX12_next 222 = .ok (.if_icmp .ge 71, 3) := by decide +kernel
theorem dX12_next_225 : decode cX12_next 225 = .ok (.aload_n 0, 1) := by decide +kernel
theorem dX12_next_226 : decode cX12_next 226 = .ok (.getfield 37, 3) := by decide +kernel
theorem dX12_next_229 : decode cX12_next 229 = .ok (.aload_n 0, 1) := by decide +kernel
theorem dX12_next_230 : decode cX12_next 230 = .ok (.getfield 150, 3) := by decide +kernel
theorem dX12_next_233 : decode cX12_next 233 = .ok (.iaload, 1) := by decide +kernel
theorem dX12_next_234 : decode cX12_next 234 = .ok (.bipush 48, 2) := by decide +kernel
theorem dX12_next_236 : decode cX12_next 236 = .ok (.bipush 57, 2) := by decide +kernel
theorem dX12_next_238 : decode cX12_next 238 = .ok (.invokestatic 127, 3) := by decide +kernel
theorem dX12_next_241 : decode cX12_next 241 = .ok (.ifCond .eq 52, 3) := by decide +kernel
theorem dX12_next_244 : decode cX12_next 244 = .ok (.aload_n 0, 1) := by decide +kernel
theorem dX12_next_245 : decode cX12_next 245 = .ok (.iload_n 2, 1) := by decide +kernel
theorem dX12_next_246 : decode cX12_next 246 = .ok (.iconst 4, 1) := by decide +kernel
theorem dX12_next_247 : decode cX12_next 247 = .ok (.if_icmp .ge 26, 3) := by decide +kernel
theorem dX12_next_250 : decode cX12_next 250 = .ok (.bipush 10, 2) := by decide +kernel
theorem dX12_next_252 : decode cX12_next 252 = .ok (.aload_n 0, 1) := by decide +kernel
theorem dX12_next_253 : decode cX12_next 253 = .ok (.getfield 159, 3) := by decide +kernel
theorem dX12_next_256 : decode cX12_next 256 = .ok (.imul, 1) := by decide +kernel
theorem dX12_next_257 : decode cX12_next 257 = .ok (.aload_n 0, 1) := by decide +kernel
theorem dX12_next_258 : decode cX12_next 258 = .ok (.getfield 37, 3) := by decide +kernel
theorem dX12_next_261 : decode cX12_next 261 = .ok (.aload_n 0, 1) := by decide +kernel
theorem dX12_next_262 : decode cX12_next 262 = .ok (.getfield 150, 3) := by decide +kernel
theorem dX12_next_265 : decode cX12_next 265 = .ok (.iaload, 1) := by decide +kernel
theorem dX12_next_266 : decode cX12_next 266 = .ok (.iadd, 1) := by decide +kernel
theorem dX12_next_267 : decode cX12_next 267 = .ok (.bipush 48, 2) := by decide +kernel
theorem dX12_next_269 : decode cX12_next 269 = .ok (.isub, 1) := by decide +kernel
theorem dX12_next_270 : decode cX12_next 270 = .ok (.goto 4, 3) := by decide +kernel
theorem dX12_next_273 : decode cX12_next 273 = .ok (.iconst 0, 1) := by decide +kernel
theorem dX12_next_274 : decode cX12_next 274 = .ok (.putfield 159, 3) := by decide +kernel
theorem dX12_next_277 : decode cX12_next 277 = .ok (.iinc 2 1, 3) := by decide +kernel
theorem dX12_next_280 : decode cX12_next 280 = .ok (.aload_n 0, 1) := by decide +kernel
theorem dX12_next_281 : decode cX12_next 281 = .ok (.dup, 1) := by decide +kernel
theorem dX12_next_282 : decode cX12_next 282 = .ok (.getfield 150, 3) := by decide +kernel
theorem dX12_next_285 : decode cX12_next 285 = .ok (.iconst 1, 1) := by decide +kernel
theorem dX12_next_286 : decode cX12_next 286 = .ok (.iadd, 1) := by decide +kernel
theorem dX12_next_287 : decode cX12_next 287 = .ok (.putfield 150, 3) := by decide +kernel
theorem dX12_next_290 : decode cX12_next 290 = .ok (.goto (-76), 3) := by decide +kernel
theorem dX12_next_293 : decode cX12_next 293 = .ok (.aload_n 0, 1) := by decide +kernel
theorem dX12_next_294 : decode cX12_next 294 = .ok (.iload_n 2, 1) := by decide +kernel
theorem dX12_next_295 : decode cX12_next 295 = .ok (.iconst 4, 1) := by decide +kernel
theorem dX12_next_296 : decode cX12_next 296 = .ok (.if_icmp .le 7, 3) := by decide +kernel
theorem dX12_next_299 : decode cX12_next 299 = .ok (.iconst (-1), 1) := by decide +kernel
theorem dX12_next_300 : decode cX12_next 300 = .ok (.goto 4, 3) := by decide +kernel
theorem dX12_next_303 : decode cX12_next 303 = .ok (.iconst 1, 1) := by decide +kernel
theorem dX12_next_304 : decode cX12_next 304 = .ok (.putfield 156, 3) := by decide +kernel
theorem dX12_next_307 : decode cX12_next 307 = .ok (.goto 80, 3) := by decide +kernel
theorem dX12_next_310 : decode cX12_next 310 = .ok (.iload_n 1, 1) := by decide +kernel
theorem dX12_next_311 : decode cX12_next 311 = .ok (.bipush 40, 2) := by decide +kernel
theorem dX12_next_313 : decode cX12_next 313 = .ok (.if_icmp .eq 45, 3) := by decide +kernel
theorem dX12_next_316 : decode cX12_next 316 = .ok (.iload_n 1, 1) := by decide +kernel
theorem dX12_next_317 : decode cX12_next 317 = .ok (.bipush 41, 2) := by decide +kernel
theorem dX12_next_319 : decode cX12_next 319 = .ok (.if_icmp .eq 39, 3) := by decide +kernel
theorem dX12_next_322 : decode cX12_next 322 = .ok (.iload_n 1, 1) := by decide +kernel
theorem dX12_next_323 : decode cX12_next 323 = .ok (.bipush 59, 2) := by decide +kernel
theorem dX12_next_325 : decode cX12_next 325 = .ok (.if_icmp .eq 33, 3) := by decide +kernel
theorem dX12_next_328 : decode cX12_next 328 = .ok (.iload_n 1, 1) := by decide +kernel
theorem dX12_next_329 : decode cX12_next 329 = .ok (.bipush 43, 2) := by decide +kernel
theorem dX12_next_331 : decode cX12_next 331 = .ok (.if_icmp .eq 27, 3) := by decide +kernel
theorem dX12_next_334 : decode cX12_next 334 = .ok (.iload_n 1, 1) := by decide +kernel
theorem dX12_next_335 : decode cX12_next 335 = .ok (.bipush 45, 2) := by decide +kernel
theorem dX12_next_337 : decode cX12_next 337 = .ok (.if_icmp .eq 21, 3) := by decide +kernel
theorem dX12_next_340 : decode cX12_next 340 = .ok (.iload_n 1, 1) := by decide +kernel
theorem dX12_next_341 : decode cX12_next 341 = .ok (.bipush 42, 2) := by decide +kernel
theorem dX12_next_343 : decode cX12_next 343 = .ok (.if_icmp .eq 15, 3) := by decide +kernel
theorem dX12_next_346 : decode cX12_next 346 = .ok (.iload_n 1, 1) := by decide +kernel
theorem dX12_next_347 : decode cX12_next 347 = .ok (.bipush 60, 2) := by decide +kernel
theorem dX12_next_349 : decode cX12_next 349 = .ok (.if_icmp .eq 9, 3) := by decide +kernel
theorem dX12_next_352 : decode cX12_next 352 = .ok (.iload_n 1, 1) := by decide +kernel
theorem dX12_next_353 : decode cX12_next 353 = .ok (.bipush 61, 2) := by decide +kernel
theorem dX12_next_355 : decode cX12_next 355 = .ok (.if_icmp .ne 7, 3) := by decide +kernel
theorem dX12_next_358 : decode cX12_next 358 = .ok (.iconst 1, 1) := by decide +kernel
theorem dX12_next_359 : decode cX12_next 359 = .ok (.goto 4, 3) := by decide +kernel
theorem dX12_next_362 : decode cX12_next 362 = .ok (.iconst 0, 1) := by decide +kernel
theorem dX12_next_363 : decode cX12_next 363 = .ok (.istore_n 2, 1) := by decide +kernel
theorem dX12_next_364 : decode cX12_next 364 = .ok (.aload_n 0, 1) := by decide +kernel
theorem dX12_next_365 : decode cX12_next 365 = .ok (.iload_n 2, 1) := by decide +kernel
theorem dX12_next_366 : decode cX12_next 366 = .ok (.ifCond .eq 7, 3) := by decide +kernel
theorem dX12_next_369 : decode cX12_next 369 = .ok (.iload_n 1, 1) := by decide +kernel
theorem dX12_next_370 : decode cX12_next 370 = .ok (.goto 4, 3) := by decide +kernel
theorem dX12_next_373 : decode cX12_next 373 = .ok (.iconst (-1), 1) := by decide +kernel
theorem dX12_next_374 : decode cX12_next 374 = .ok (.putfield 156, 3) := by decide +kernel
theorem dX12_next_377 : decode cX12_next 377 = .ok (.aload_n 0, 1) := by decide +kernel
theorem dX12_next_378 : decode cX12_next 378 = .ok (.dup, 1) := by decide +kernel
theorem dX12_next_379 : decode cX12_next 379 = .ok (.getfield 150, 3) := by decide +kernel
theorem dX12_next_382 : decode cX12_next 382 = .ok (.iconst 1, 1) := by decide +kernel
theorem dX12_next_383 : decode cX12_next 383 = .ok (.iadd, 1) := by decide +kernel

theorem dX12_next_384 : decode cX12_next 384 = .ok (.putfield 150, 3) := by decide +kernel
theorem dX12_next_387 : decode cX12_next 387 = .ok (.return_, 1) := by decide +kernel

def lX12_next_0 (u2 : Int) (K52 : ZS → Option (Int × ZS)) : Nat → ZS → Option (Int × ZS)
  | 0, _ => none
  | n1 + 1, s1 => (zg s1 12 u2 29).bind (fun v3 => (zg s1 12 u2 13).bind (fun v4 => if v4 ≤ v3 then (K52 s1) else ((zg s1 12 u2 12).bind (fun v6 => (zg s1 12 u2 29).bind (fun v7 => (zal s1 100 v6 v7).bind (fun v8 => zjn (fun (K39 : ZS → Option (Int × ZS)) => if v8 = 32 then (K39 s1) else ((zg s1 12 u2 12).bind (fun v10 => (zg s1 12 u2 29).bind (fun v11 => (zal s1 100 v10 v11).bind (fun v12 => if v12 = 10 then (K39 s1) else (K52 s1)))))) (fun (s14 : ZS) => (zg s14 12 u2 29).bind (fun v15 => (zp s14 12 u2 29 (wrap (v15 + 1))).bind (fun s16 => lX12_next_0 u2 K52 n1 s16)))))))))

def lX12_next_214 (u55 : Int) (K293 : ZS → Int → Option (Int × ZS)) : Nat → ZS → Int → Option (Int × ZS)
  | 0, _, _ => none
  | n1 + 1, s54, x56 => (zg s54 12 u55 29).bind (fun v57 => (zg s54 12 u55 13).bind (fun v58 => if v58 ≤ v57 then (K293 s54 x56) else ((zg s54 12 u55 12).bind (fun v60 => (zg s54 12 u55 29).bind (fun v61 => (zal s54 100 v60 v61).bind (fun v62 => zb (fX12_in s54 v62 48 57) (fun v63 s64 => if v63 = 0 then (K293 s64 x56) else (zjn (fun (K274 : ZS → Int → Option (Int × ZS)) => if 4 ≤ x56 then (K274 s64 0) else ((zg s64 12 u55 32).bind (fun v68 => (zg s64 12 u55 12).bind (fun v69 => (zg s64 12 u55 29).bind (fun v70 => (zal s64 100 v69 v70).bind (fun v71 => K274 s64 (wrap ((wrap ((wrap (10 * v68)) + v71)) - 48)))))))) (fun (s72 : ZS) (w73 : Int) => (zp s72 12 u55 32 w73).bind (fun s74 => (zg s74 12 u55 29).bind (fun v75 => (zp s74 12 u55 29 (wrap (v75 + 1))).bind (fun s76 => lX12_next_214 u55 K293 n1 s76 (wrap (x56 + 1))))))))))))))

def lX12_next_111 (u89 u90 : Int) (K136 : ZS → Int → Option (Int × ZS)) : Nat → ZS → Int → Option (Int × ZS)
  | 0, _, _ => none
  | n1 + 1, s88, x91 => if 11 ≤ x91 then (K136 s88 x91) else ((zg s88 12 u89 33).bind (fun v93 => (zal s88 101 v93 x91).bind (fun v94 => if (lCmp v94 u90) = 0 then (K136 s88 x91) else (lX12_next_111 u89 u90 K136 n1 s88 (wrap (x91 + 1))))))

def fX12_next (s0 : ZS) (a0 : Int) : Option (Int × ZS) := lX12_next_0 a0 (fun (s18 : ZS) => (zg s18 12 a0 29).bind (fun v19 => (zp s18 12 a0 30 v19).bind (fun s20 => (zp s20 12 a0 31 0).bind (fun s21 => (zp s21 12 a0 32 0).bind (fun s22 => (zg s22 12 a0 29).bind (fun v23 => (zg s22 12 a0 13).bind (fun v24 => if v23 = v24 then (some (0, s22)) else ((zg s22 12 a0 12).bind (fun v26 => (zg s22 12 a0 29).bind (fun v27 => (zal s22 100 v26 v27).bind (fun v28 => zb (fX12_in s22 v28 97 122) (fun v29 s30 => if v29 = 0 then (zb (fX12_in s30 v28 48 57) (fun v33 s34 => if v33 = 0 then (zjn (fun (K363 : ZS → Int → Option (Int × ZS)) => zjn (fun (K358 : ZS → Option (Int × ZS)) => if v28 = 40 then (K358 s34) else (if v28 = 41 then (K358 s34) else (if v28 = 59 then (K358 s34) else (if v28 = 43 then (K358 s34) else (if v28 = 45 then (K358 s34) else (if v28 = 42 then (K358 s34) else (if v28 = 60 then (K358 s34) else (if v28 = 61 then (K358 s34) else (K363 s34 0))))))))) (fun (s45 : ZS) => K363 s45 1)) (fun (s46 : ZS) (w47 : Int) => zjn (fun (K374 : ZS → Int → Option (Int × ZS)) => if w47 = 0 then (K374 s46 (-1)) else (K374 s46 v28)) (fun (s49 : ZS) (w50 : Int) => (zp s49 12 a0 31 w50).bind (fun s51 => (zg s51 12 a0 29).bind (fun v52 => (zp s51 12 a0 29 (wrap (v52 + 1))).bind (fun s53 => some (0, s53))))))) else (lX12_next_214 a0 (fun (s79 : ZS) (x80 : Int) => zjn (fun (K304 : ZS → Int → Option (Int × ZS)) => if x80 ≤ 4 then (K304 s79 1) else (K304 s79 (-1))) (fun (s82 : ZS) (w83 : Int) => (zp s82 12 a0 31 w83).bind (fun s84 => some (0, s84)))) 1000 s34 0))) else (zb (zv s30 12 a0 (fX12_letters s30 a0)) (fun v85 s86 => lX12_next_111 a0 v85 (fun (s98 : ZS) (x99 : Int) => zjn (fun (K176 : ZS → Int → Option (Int × ZS)) => if 2 ≤ x99 then (if 8 ≤ x99 then (if x99 = 11 then (K176 s98 (-1)) else (K176 s98 (wrap ((wrap (4 + x99)) - 8)))) else (K176 s98 2)) else (K176 s98 3)) (fun (s103 : ZS) (w104 : Int) => (zp s103 12 a0 31 w104).bind (fun s105 => zjn (fun (K195 : ZS → Int → Option (Int × ZS)) => if 2 ≤ x99 then (K195 s105 (wrap (x99 - 2))) else (K195 s105 x99)) (fun (s107 : ZS) (w108 : Int) => (zp s107 12 a0 32 w108).bind (fun s109 => some (0, s109)))))) 1000 s86 0)))))))))))))) 1000 s0
set_option maxHeartbeats 4000000 in
set_option maxRecDepth 100000 in
theorem mX12_next (E : ZE) (hE : zOkE E) (l : Launch) (s0 : ZS) (a0 : Int) : Ct E l yX12_next cX12_next 5 none 6 [(2, a0)] 0 s0 (fX12_next s0 a0) := by
  refine Ct.of (by decide) hE (Nat.le_of_ble_eq_true rfl) ?_
  intro X G hX hR hN hXE hXl hxn hk _
  subst hXE
  subst hXl
  have hX : G → ZOk X cX12_next RX12 6 := hX
  clear hN
  show Zj X G 0 [(0, (2, a0))] [] s0 _
  unfold fX12_next
  have hl0 : ∀ (u2 : Int), ∀ (K52 : ZS → Option (Int × ZS)), (∀ (s17 : ZS), Zj X G 52 [(0, (2, u2))] [] s17 (K52 s17)) → ∀ (n1 : Nat) (s1 : ZS), Zj X G 0 [(0, (2, u2))] [] s1 (lX12_next_0 u2 K52 n1 s1) := by
    intro u2 K52 hK52 n1
    induction n1 with
    | zero => intro _; exact z_none
    | succ n1 ih1 =>
      intro s1
      rw [lX12_next_0]
      refine z_aload_n (pc := 0) hX 0 dX12_next_0 rfl rfl ?_
      refine z_get (pc := 1) hX zc12 29 (by decide) wd1046 rfl rfl dX12_next_1 (fun v3 => ?_)
      refine z_aload_n (pc := 4) hX 0 dX12_next_4 rfl rfl ?_
      refine z_get (pc := 5) hX zc12 13 (by decide) wd1030 rfl rfl dX12_next_5 (fun v4 => ?_)
      refine z_icmp_ge (pc := 8) hX 52 dX12_next_8 (by decide) (fun h5 => ?_) (fun h5 => ?_)
      · exact hK52 _
      · refine z_aload_n (pc := 11) hX 0 dX12_next_11 rfl rfl ?_
        refine z_get (pc := 12) hX zc12 12 (by decide) wd1029 rfl rfl dX12_next_12 (fun v6 => ?_)
        refine z_aload_n (pc := 15) hX 0 dX12_next_15 rfl rfl ?_
        refine z_get (pc := 16) hX zc12 29 (by decide) wd1046 rfl rfl dX12_next_16 (fun v7 => ?_)
        refine z_iald (pc := 19) hX dX12_next_19 (fun v8 => ?_)
        refine z_bipush (pc := 20) hX dX12_next_20 ?_
        refine z_jn (fun K39 eK39 => ?_)
        have hK39 : ∀ (s14 : ZS), Zj X G 39 [(0, (2, u2))] [] s14 (K39 s14) := by
          intro s14
          rw [eK39]
          refine z_aload_n (pc := 39) hX 0 dX12_next_39 rfl rfl ?_
          refine z_dup (pc := 40) hX zn2 dX12_next_40 ?_
          refine z_get (pc := 41) hX zc12 29 (by decide) wd1046 rfl rfl dX12_next_41 (fun v15 => ?_)
          refine z_iconst (pc := 44) hX dX12_next_44 ?_
          refine z_iadd (pc := 45) hX dX12_next_45 ?_
          refine z_putA (pc := 46) hX zc12 29 (by decide) wd1046 (Or.inl rfl) rfl rfl (fun _ => rfl) (fun _ => rfl) dX12_next_46 (fun s16 => ?_)
          refine z_goto (pc := 49) hX 0 dX12_next_49 (by decide) ?_
          exact ih1 _
        clear eK39
        refine z_icmp_eq (pc := 22) hX 39 dX12_next_22 (by decide) (fun h9 => ?_) (fun h9 => ?_)
        · exact hK39 _
        · refine z_aload_n (pc := 25) hX 0 dX12_next_25 rfl rfl ?_
          refine z_get (pc := 26) hX zc12 12 (by decide) wd1029 rfl rfl dX12_next_26 (fun v10 => ?_)
          refine z_aload_n (pc := 29) hX 0 dX12_next_29 rfl rfl ?_
          refine z_get (pc := 30) hX zc12 29 (by decide) wd1046 rfl rfl dX12_next_30 (fun v11 => ?_)
          refine z_iald (pc := 33) hX dX12_next_33 (fun v12 => ?_)
          refine z_bipush (pc := 34) hX dX12_next_34 ?_
          refine z_icmp_ne (pc := 36) hX 52 dX12_next_36 (by decide) (fun h13 => ?_) (fun h13 => ?_)
          · exact hK52 _
          · exact hK39 _
  refine hl0 _ _ (fun s18 => ?_) 1000 _
  refine z_aload_n (pc := 52) hX 0 dX12_next_52 rfl rfl ?_
  refine z_aload_n (pc := 53) hX 0 dX12_next_53 rfl rfl ?_
  refine z_get (pc := 54) hX zc12 29 (by decide) wd1046 rfl rfl dX12_next_54 (fun v19 => ?_)
  refine z_putA (pc := 57) hX zc12 30 (by decide) wd1047 (Or.inl rfl) rfl rfl (fun _ => rfl) (fun _ => rfl) dX12_next_57 (fun s20 => ?_)
  refine z_aload_n (pc := 60) hX 0 dX12_next_60 rfl rfl ?_
  refine z_iconst (pc := 61) hX dX12_next_61 ?_
  refine z_putA (pc := 62) hX zc12 31 (by decide) wd1048 (Or.inl rfl) rfl rfl (fun _ => rfl) (fun _ => rfl) dX12_next_62 (fun s21 => ?_)
  refine z_aload_n (pc := 65) hX 0 dX12_next_65 rfl rfl ?_
  refine z_iconst (pc := 66) hX dX12_next_66 ?_
  refine z_putA (pc := 67) hX zc12 32 (by decide) wd1049 (Or.inl rfl) rfl rfl (fun _ => rfl) (fun _ => rfl) dX12_next_67 (fun s22 => ?_)
  refine z_aload_n (pc := 70) hX 0 dX12_next_70 rfl rfl ?_
  refine z_get (pc := 71) hX zc12 29 (by decide) wd1046 rfl rfl dX12_next_71 (fun v23 => ?_)
  refine z_aload_n (pc := 74) hX 0 dX12_next_74 rfl rfl ?_
  refine z_get (pc := 75) hX zc12 13 (by decide) wd1030 rfl rfl dX12_next_75 (fun v24 => ?_)
  refine z_icmp_ne (pc := 78) hX 82 dX12_next_78 (by decide) (fun h25 => ?_) (fun h25 => ?_)
  · refine z_aload_n (pc := 82) hX 0 dX12_next_82 rfl rfl ?_
    refine z_get (pc := 83) hX zc12 12 (by decide) wd1029 rfl rfl dX12_next_83 (fun v26 => ?_)
    refine z_aload_n (pc := 86) hX 0 dX12_next_86 rfl rfl ?_
    refine z_get (pc := 87) hX zc12 29 (by decide) wd1046 rfl rfl dX12_next_87 (fun v27 => ?_)
    refine z_iald (pc := 90) hX dX12_next_90 (fun v28 => ?_)
    refine z_istore_n (lv' := [(1, (0, v28)), (0, (2, a0))]) (pc := 91) hX dX12_next_91 rfl (zlt hxn rfl) rfl ?_
    refine z_iload_n (pc := 92) hX 0 dX12_next_92 rfl rfl ?_
    refine z_bipush (pc := 93) hX dX12_next_93 ?_
    refine z_bipush (pc := 95) hX dX12_next_95 ?_
    refine z_callS (n := 3) (st := []) (pc := 97) hX (mX12_in _ hE _ _ _ _ _) ⟨wd1173, wd67, wd1175, ⟨by decide, by decide, by decide⟩, by decide⟩ wd1174 rfl rfl (by decide) (Nat.le_of_ble_eq_true rfl) dX12_next_97 (fun v29 s30 r31 => ?_)
    show Zj X G 100 [(1, (0, v28)), (0, (2, a0))] [(0, v29)] _ _
    refine z_if_eq (pc := 100) hX 201 dX12_next_100 (by decide) (fun h32 => ?_) (fun h32 => ?_)
    · refine z_iload_n (pc := 201) hX 0 dX12_next_201 rfl rfl ?_
      refine z_bipush (pc := 202) hX dX12_next_202 ?_
      refine z_bipush (pc := 204) hX dX12_next_204 ?_
      refine z_callS (n := 3) (st := []) (pc := 206) hX (mX12_in _ hE _ _ _ _ _) ⟨wd1173, wd67, wd1175, ⟨by decide, by decide, by decide⟩, by decide⟩ wd1174 rfl rfl (by decide) (Nat.le_of_ble_eq_true rfl) dX12_next_206 (fun v33 s34 r35 => ?_)
      show Zj X G 209 [(1, (0, v28)), (0, (2, a0))] [(0, v33)] _ _
      refine z_if_eq (pc := 209) hX 310 dX12_next_209 (by decide) (fun h36 => ?_) (fun h36 => ?_)
      · refine z_iload_n (pc := 310) hX 0 dX12_next_310 rfl rfl ?_
        refine z_bipush (pc := 311) hX dX12_next_311 ?_
        refine z_jn (fun K363 eK363 => ?_)
        have hK363 : ∀ (s46 : ZS) (w47 : Int), Zj X G 363 [(0, (2, a0)), (1, (0, v28))] [(0, w47)] s46 (K363 s46 w47) := by
          intro s46 w47
          rw [eK363]
          refine z_istore_n (lv' := [(2, (0, w47)), (0, (2, a0)), (1, (0, v28))]) (pc := 363) hX dX12_next_363 rfl (zlt hxn rfl) rfl ?_
          refine z_aload_n (pc := 364) hX 1 dX12_next_364 rfl rfl ?_
          refine z_iload_n (pc := 365) hX 0 dX12_next_365 rfl rfl ?_
          refine z_jn (fun K374 eK374 => ?_)
          have hK374 : ∀ (s49 : ZS) (w50 : Int), Zj X G 374 [(0, (2, a0))] [(0, w50), (2, a0)] s49 (K374 s49 w50) := by
            intro s49 w50
            rw [eK374]
            refine z_putA (pc := 374) hX zc12 31 (by decide) wd1048 (Or.inl rfl) rfl rfl (fun _ => rfl) (fun _ => rfl) dX12_next_374 (fun s51 => ?_)
            refine z_aload_n (pc := 377) hX 0 dX12_next_377 rfl rfl ?_
            refine z_dup (pc := 378) hX zn2 dX12_next_378 ?_
            refine z_get (pc := 379) hX zc12 29 (by decide) wd1046 rfl rfl dX12_next_379 (fun v52 => ?_)
            refine z_iconst (pc := 382) hX dX12_next_382 ?_
            refine z_iadd (pc := 383) hX dX12_next_383 ?_
            refine z_putA (pc := 384) hX zc12 29 (by decide) wd1046 (Or.inl rfl) rfl rfl (fun _ => rfl) (fun _ => rfl) dX12_next_384 (fun s53 => ?_)
            exact z_vret (pc := 387) hX hR hk dX12_next_387
          clear eK374
          refine z_if_eq (pc := 366) hX 373 dX12_next_366 (by decide) (fun h48 => ?_) (fun h48 => ?_)
          · refine z_iconst (pc := 373) hX dX12_next_373 ?_
            refine z_pick (lv' := [(0, (2, a0))]) [1] rfl ?_
            exact hK374 _ _
          · refine z_iload_n (pc := 369) hX 2 dX12_next_369 rfl rfl ?_
            refine z_goto (pc := 370) hX 374 dX12_next_370 (by decide) ?_
            refine z_pick (lv' := [(0, (2, a0))]) [1] rfl ?_
            exact hK374 _ _
        clear eK363
        refine z_jn (fun K358 eK358 => ?_)
        have hK358 : ∀ (s45 : ZS), Zj X G 358 [(0, (2, a0)), (1, (0, v28))] [] s45 (K358 s45) := by
          intro s45
          rw [eK358]
          refine z_iconst (pc := 358) hX dX12_next_358 ?_
          refine z_goto (pc := 359) hX 363 dX12_next_359 (by decide) ?_
          exact hK363 _ _
        clear eK358
        refine z_icmp_eq (pc := 313) hX 358 dX12_next_313 (by decide) (fun h37 => ?_) (fun h37 => ?_)
        · refine z_pick (lv' := [(0, (2, a0)), (1, (0, v28))]) [1, 0] rfl ?_
          exact hK358 _
        · refine z_iload_n (pc := 316) hX 0 dX12_next_316 rfl rfl ?_
          refine z_bipush (pc := 317) hX dX12_next_317 ?_
          refine z_icmp_eq (pc := 319) hX 358 dX12_next_319 (by decide) (fun h38 => ?_) (fun h38 => ?_)
          · refine z_pick (lv' := [(0, (2, a0)), (1, (0, v28))]) [1, 0] rfl ?_
            exact hK358 _
          · refine z_iload_n (pc := 322) hX 0 dX12_next_322 rfl rfl ?_
            refine z_bipush (pc := 323) hX dX12_next_323 ?_
            refine z_icmp_eq (pc := 325) hX 358 dX12_next_325 (by decide) (fun h39 => ?_) (fun h39 => ?_)
            · refine z_pick (lv' := [(0, (2, a0)), (1, (0, v28))]) [1, 0] rfl ?_
              exact hK358 _
            · refine z_iload_n (pc := 328) hX 0 dX12_next_328 rfl rfl ?_
              refine z_bipush (pc := 329) hX dX12_next_329 ?_
              refine z_icmp_eq (pc := 331) hX 358 dX12_next_331 (by decide) (fun h40 => ?_) (fun h40 => ?_)
              · refine z_pick (lv' := [(0, (2, a0)), (1, (0, v28))]) [1, 0] rfl ?_
                exact hK358 _
              · refine z_iload_n (pc := 334) hX 0 dX12_next_334 rfl rfl ?_
                refine z_bipush (pc := 335) hX dX12_next_335 ?_
                refine z_icmp_eq (pc := 337) hX 358 dX12_next_337 (by decide) (fun h41 => ?_) (fun h41 => ?_)
                · refine z_pick (lv' := [(0, (2, a0)), (1, (0, v28))]) [1, 0] rfl ?_
                  exact hK358 _
                · refine z_iload_n (pc := 340) hX 0 dX12_next_340 rfl rfl ?_
                  refine z_bipush (pc := 341) hX dX12_next_341 ?_
                  refine z_icmp_eq (pc := 343) hX 358 dX12_next_343 (by decide) (fun h42 => ?_) (fun h42 => ?_)
                  · refine z_pick (lv' := [(0, (2, a0)), (1, (0, v28))]) [1, 0] rfl ?_
                    exact hK358 _
                  · refine z_iload_n (pc := 346) hX 0 dX12_next_346 rfl rfl ?_
                    refine z_bipush (pc := 347) hX dX12_next_347 ?_
                    refine z_icmp_eq (pc := 349) hX 358 dX12_next_349 (by decide) (fun h43 => ?_) (fun h43 => ?_)
                    · refine z_pick (lv' := [(0, (2, a0)), (1, (0, v28))]) [1, 0] rfl ?_
                      exact hK358 _
                    · refine z_iload_n (pc := 352) hX 0 dX12_next_352 rfl rfl ?_
                      refine z_bipush (pc := 353) hX dX12_next_353 ?_
                      refine z_icmp_ne (pc := 355) hX 362 dX12_next_355 (by decide) (fun h44 => ?_) (fun h44 => ?_)
                      · refine z_iconst (pc := 362) hX dX12_next_362 ?_
                        refine z_pick (lv' := [(0, (2, a0)), (1, (0, v28))]) [1, 0] rfl ?_
                        exact hK363 _ _
                      · refine z_pick (lv' := [(0, (2, a0)), (1, (0, v28))]) [1, 0] rfl ?_
                        exact hK358 _
      · refine z_iconst (pc := 212) hX dX12_next_212 ?_
        refine z_istore_n (lv' := [(2, (0, 0)), (1, (0, v28)), (0, (2, a0))]) (pc := 213) hX dX12_next_213 rfl (zlt hxn rfl) rfl ?_
        have hl214 : ∀ (u55 : Int), ∀ (K293 : ZS → Int → Option (Int × ZS)), (∀ (s77 : ZS) (x78 : Int), Zj X G 293 [(0, (2, u55)), (2, (0, x78))] [] s77 (K293 s77 x78)) → ∀ (n1 : Nat) (s54 : ZS) (x56 : Int), Zj X G 214 [(0, (2, u55)), (2, (0, x56))] [] s54 (lX12_next_214 u55 K293 n1 s54 x56) := by
          intro u55 K293 hK293 n1
          induction n1 with
          | zero => intro _ _; exact z_none
          | succ n1 ih1 =>
            intro s54 x56
            rw [lX12_next_214]
            refine z_aload_n (pc := 214) hX 0 dX12_next_214 rfl rfl ?_
            refine z_get (pc := 215) hX zc12 29 (by decide) wd1046 rfl rfl dX12_next_215 (fun v57 => ?_)
            refine z_aload_n (pc := 218) hX 0 dX12_next_218 rfl rfl ?_
            refine z_get (pc := 219) hX zc12 13 (by decide) wd1030 rfl rfl dX12_next_219 (fun v58 => ?_)
            refine z_icmp_ge (pc := 222) hX 293 dX12_next_222 (by decide) (fun h59 => ?_) (fun h59 => ?_)
            · exact hK293 _ _
            · refine z_aload_n (pc := 225) hX 0 dX12_next_225 rfl rfl ?_
              refine z_get (pc := 226) hX zc12 12 (by decide) wd1029 rfl rfl dX12_next_226 (fun v60 => ?_)
              refine z_aload_n (pc := 229) hX 0 dX12_next_229 rfl rfl ?_
              refine z_get (pc := 230) hX zc12 29 (by decide) wd1046 rfl rfl dX12_next_230 (fun v61 => ?_)
              refine z_iald (pc := 233) hX dX12_next_233 (fun v62 => ?_)
              refine z_bipush (pc := 234) hX dX12_next_234 ?_
              refine z_bipush (pc := 236) hX dX12_next_236 ?_
              refine z_callS (n := 3) (st := []) (pc := 238) hX (mX12_in _ hE _ _ _ _ _) ⟨wd1173, wd67, wd1175, ⟨by decide, by decide, by decide⟩, by decide⟩ wd1174 rfl rfl (by decide) (Nat.le_of_ble_eq_true rfl) dX12_next_238 (fun v63 s64 r65 => ?_)
              show Zj X G 241 [(0, (2, u55)), (2, (0, x56))] [(0, v63)] _ _
              refine z_if_eq (pc := 241) hX 293 dX12_next_241 (by decide) (fun h66 => ?_) (fun h66 => ?_)
              · exact hK293 _ _
              · refine z_aload_n (pc := 244) hX 0 dX12_next_244 rfl rfl ?_
                refine z_iload_n (pc := 245) hX 1 dX12_next_245 rfl rfl ?_
                refine z_iconst (pc := 246) hX dX12_next_246 ?_
                refine z_jn (fun K274 eK274 => ?_)
                have hK274 : ∀ (s72 : ZS) (w73 : Int), Zj X G 274 [(0, (2, u55)), (2, (0, x56))] [(0, w73), (2, u55)] s72 (K274 s72 w73) := by
                  intro s72 w73
                  rw [eK274]
                  refine z_putA (pc := 274) hX zc12 32 (by decide) wd1049 (Or.inl rfl) rfl rfl (fun _ => rfl) (fun _ => rfl) dX12_next_274 (fun s74 => ?_)
                  refine z_iinc (lv' := [(2, (0, (wrap (x56 + 1)))), (0, (2, u55))]) (pc := 277) hX 1 dX12_next_277 rfl (zlt hxn rfl) rfl ?_
                  refine z_aload_n (pc := 280) hX 1 dX12_next_280 rfl rfl ?_
                  refine z_dup (pc := 281) hX zn2 dX12_next_281 ?_
                  refine z_get (pc := 282) hX zc12 29 (by decide) wd1046 rfl rfl dX12_next_282 (fun v75 => ?_)
                  refine z_iconst (pc := 285) hX dX12_next_285 ?_
                  refine z_iadd (pc := 286) hX dX12_next_286 ?_
                  refine z_putA (pc := 287) hX zc12 29 (by decide) wd1046 (Or.inl rfl) rfl rfl (fun _ => rfl) (fun _ => rfl) dX12_next_287 (fun s76 => ?_)
                  refine z_goto (pc := 290) hX 214 dX12_next_290 (by decide) ?_
                  refine z_pick (lv' := [(0, (2, u55)), (2, (0, (wrap (x56 + 1))))]) [1, 0] rfl ?_
                  exact ih1 _ _
                clear eK274
                refine z_icmp_ge (pc := 247) hX 273 dX12_next_247 (by decide) (fun h67 => ?_) (fun h67 => ?_)
                · refine z_iconst (pc := 273) hX dX12_next_273 ?_
                  exact hK274 _ _
                · refine z_bipush (pc := 250) hX dX12_next_250 ?_
                  refine z_aload_n (pc := 252) hX 0 dX12_next_252 rfl rfl ?_
                  refine z_get (pc := 253) hX zc12 32 (by decide) wd1049 rfl rfl dX12_next_253 (fun v68 => ?_)
                  refine z_imul (pc := 256) hX dX12_next_256 ?_
                  refine z_aload_n (pc := 257) hX 0 dX12_next_257 rfl rfl ?_
                  refine z_get (pc := 258) hX zc12 12 (by decide) wd1029 rfl rfl dX12_next_258 (fun v69 => ?_)
                  refine z_aload_n (pc := 261) hX 0 dX12_next_261 rfl rfl ?_
                  refine z_get (pc := 262) hX zc12 29 (by decide) wd1046 rfl rfl dX12_next_262 (fun v70 => ?_)
                  refine z_iald (pc := 265) hX dX12_next_265 (fun v71 => ?_)
                  refine z_iadd (pc := 266) hX dX12_next_266 ?_
                  refine z_bipush (pc := 267) hX dX12_next_267 ?_
                  refine z_isub (pc := 269) hX dX12_next_269 ?_
                  refine z_goto (pc := 270) hX 274 dX12_next_270 (by decide) ?_
                  exact hK274 _ _
        refine z_pick (lv' := [(0, (2, a0)), (2, (0, 0))]) [2, 0] rfl ?_
        refine hl214 _ _ (fun s79 x80 => ?_) 1000 _ _
        refine z_aload_n (pc := 293) hX 0 dX12_next_293 rfl rfl ?_
        refine z_iload_n (pc := 294) hX 1 dX12_next_294 rfl rfl ?_
        refine z_iconst (pc := 295) hX dX12_next_295 ?_
        refine z_jn (fun K304 eK304 => ?_)
        have hK304 : ∀ (s82 : ZS) (w83 : Int), Zj X G 304 [] [(0, w83), (2, a0)] s82 (K304 s82 w83) := by
          intro s82 w83
          rw [eK304]
          refine z_putA (pc := 304) hX zc12 31 (by decide) wd1048 (Or.inl rfl) rfl rfl (fun _ => rfl) (fun _ => rfl) dX12_next_304 (fun s84 => ?_)
          refine z_goto (pc := 307) hX 387 dX12_next_307 (by decide) ?_
          exact z_vret (pc := 387) hX hR hk dX12_next_387
        clear eK304
        refine z_icmp_le (pc := 296) hX 303 dX12_next_296 (by decide) (fun h81 => ?_) (fun h81 => ?_)
        · refine z_iconst (pc := 303) hX dX12_next_303 ?_
          refine z_pick (lv' := []) [] rfl ?_
          exact hK304 _ _
        · refine z_iconst (pc := 299) hX dX12_next_299 ?_
          refine z_goto (pc := 300) hX 304 dX12_next_300 (by decide) ?_
          refine z_pick (lv' := []) [] rfl ?_
          exact hK304 _ _
    · refine z_aload_n (pc := 103) hX 1 dX12_next_103 rfl rfl ?_
      refine z_callV (n := 0) (st := []) (pc := 104) hX zc12 rfl (fun _ => (mX12_letters _ hE _ _ _)) ⟨wd1217, wd67, wd1220, ⟨by decide, by decide, by decide⟩, by decide⟩ rfl wd1219 wd34 rfl rfl (by decide) (Nat.le_of_ble_eq_true rfl) dX12_next_104 (fun v85 s86 r87 => ?_)
      show Zj X G 107 [(1, (0, v28)), (0, (2, a0))] [(1, v85)] _ _
      refine z_lstore_n (lv' := [(2, (1, v85)), (1, (0, v28)), (0, (2, a0))]) (pc := 107) hX dX12_next_107 rfl (zlt2 hxn rfl) rfl ?_
      refine z_iconst (pc := 108) hX dX12_next_108 ?_
      refine z_istore (lv' := [(4, (0, 0)), (2, (1, v85)), (1, (0, v28)), (0, (2, a0))]) (pc := 109) hX dX12_next_109 (zlt hxn rfl) rfl ?_
      have hl111 : ∀ (u89 u90 : Int), ∀ (K136 : ZS → Int → Option (Int × ZS)), (∀ (s96 : ZS) (x97 : Int), Zj X G 136 [(0, (2, u89)), (4, (0, x97))] [] s96 (K136 s96 x97)) → ∀ (n1 : Nat) (s88 : ZS) (x91 : Int), Zj X G 111 [(0, (2, u89)), (2, (1, u90)), (4, (0, x91))] [] s88 (lX12_next_111 u89 u90 K136 n1 s88 x91) := by
        intro u89 u90 K136 hK136 n1
        induction n1 with
        | zero => intro _ _; exact z_none
        | succ n1 ih1 =>
          intro s88 x91
          rw [lX12_next_111]
          refine z_iload (pc := 111) hX 2 dX12_next_111 rfl ?_
          refine z_bipush (pc := 113) hX dX12_next_113 ?_
          refine z_icmp_ge (pc := 115) hX 136 dX12_next_115 (by decide) (fun h92 => ?_) (fun h92 => ?_)
          · refine z_pick (lv' := [(0, (2, u89)), (4, (0, x91))]) [0, 2] rfl ?_
            exact hK136 _ _
          · refine z_aload_n (pc := 118) hX 0 dX12_next_118 rfl rfl ?_
            refine z_get (pc := 119) hX zc12 33 (by decide) wd1050 rfl rfl dX12_next_119 (fun v93 => ?_)
            refine z_iload (pc := 122) hX 2 dX12_next_122 rfl ?_
            refine z_lald (pc := 124) hX dX12_next_124 (fun v94 => ?_)
            refine z_lload_n (pc := 125) hX 1 dX12_next_125 rfl rfl ?_
            refine z_lcmp (pc := 126) hX dX12_next_126 ?_
            refine z_if_eq (pc := 127) hX 136 dX12_next_127 (by decide) (fun h95 => ?_) (fun h95 => ?_)
            · refine z_pick (lv' := [(0, (2, u89)), (4, (0, x91))]) [0, 2] rfl ?_
              exact hK136 _ _
            · refine z_iinc (lv' := [(4, (0, (wrap (x91 + 1)))), (0, (2, u89)), (2, (1, u90))]) (pc := 130) hX 2 dX12_next_130 rfl (zlt hxn rfl) rfl ?_
              refine z_goto (pc := 133) hX 111 dX12_next_133 (by decide) ?_
              refine z_pick (lv' := [(0, (2, u89)), (2, (1, u90)), (4, (0, (wrap (x91 + 1))))]) [1, 2, 0] rfl ?_
              exact ih1 _ _
      refine z_pick (lv' := [(0, (2, a0)), (2, (1, v85)), (4, (0, 0))]) [3, 1, 0] rfl ?_
      refine hl111 _ _ _ (fun s98 x99 => ?_) 1000 _ _
      refine z_aload_n (pc := 136) hX 0 dX12_next_136 rfl rfl ?_
      refine z_iload (pc := 137) hX 1 dX12_next_137 rfl ?_
      refine z_iconst (pc := 139) hX dX12_next_139 ?_
      refine z_jn (fun K176 eK176 => ?_)
      have hK176 : ∀ (s103 : ZS) (w104 : Int), Zj X G 176 [(0, (2, a0)), (4, (0, x99))] [(0, w104), (2, a0)] s103 (K176 s103 w104) := by
        intro s103 w104
        rw [eK176]
        refine z_putA (pc := 176) hX zc12 31 (by decide) wd1048 (Or.inl rfl) rfl rfl (fun _ => rfl) (fun _ => rfl) dX12_next_176 (fun s105 => ?_)
        refine z_aload_n (pc := 179) hX 0 dX12_next_179 rfl rfl ?_
        refine z_iload (pc := 180) hX 1 dX12_next_180 rfl ?_
        refine z_iconst (pc := 182) hX dX12_next_182 ?_
        refine z_jn (fun K195 eK195 => ?_)
        have hK195 : ∀ (s107 : ZS) (w108 : Int), Zj X G 195 [] [(0, w108), (2, a0)] s107 (K195 s107 w108) := by
          intro s107 w108
          rw [eK195]
          refine z_putA (pc := 195) hX zc12 32 (by decide) wd1049 (Or.inl rfl) rfl rfl (fun _ => rfl) (fun _ => rfl) dX12_next_195 (fun s109 => ?_)
          refine z_goto (pc := 198) hX 387 dX12_next_198 (by decide) ?_
          exact z_vret (pc := 387) hX hR hk dX12_next_387
        clear eK195
        refine z_icmp_ge (pc := 183) hX 191 dX12_next_183 (by decide) (fun h106 => ?_) (fun h106 => ?_)
        · refine z_iload (pc := 191) hX 1 dX12_next_191 rfl ?_
          refine z_iconst (pc := 193) hX dX12_next_193 ?_
          refine z_isub (pc := 194) hX dX12_next_194 ?_
          refine z_pick (lv' := []) [] rfl ?_
          exact hK195 _ _
        · refine z_iload (pc := 186) hX 1 dX12_next_186 rfl ?_
          refine z_goto (pc := 188) hX 195 dX12_next_188 (by decide) ?_
          refine z_pick (lv' := []) [] rfl ?_
          exact hK195 _ _
      clear eK176
      refine z_icmp_ge (pc := 140) hX 147 dX12_next_140 (by decide) (fun h100 => ?_) (fun h100 => ?_)
      · refine z_iload (pc := 147) hX 1 dX12_next_147 rfl ?_
        refine z_bipush (pc := 149) hX dX12_next_149 ?_
        refine z_icmp_ge (pc := 151) hX 158 dX12_next_151 (by decide) (fun h101 => ?_) (fun h101 => ?_)
        · refine z_iload (pc := 158) hX 1 dX12_next_158 rfl ?_
          refine z_bipush (pc := 160) hX dX12_next_160 ?_
          refine z_icmp_ne (pc := 162) hX 169 dX12_next_162 (by decide) (fun h102 => ?_) (fun h102 => ?_)
          · refine z_iconst (pc := 169) hX dX12_next_169 ?_
            refine z_iload (pc := 170) hX 1 dX12_next_170 rfl ?_
            refine z_iadd (pc := 172) hX dX12_next_172 ?_
            refine z_bipush (pc := 173) hX dX12_next_173 ?_
            refine z_isub (pc := 175) hX dX12_next_175 ?_
            exact hK176 _ _
          · refine z_iconst (pc := 165) hX dX12_next_165 ?_
            refine z_goto (pc := 166) hX 176 dX12_next_166 (by decide) ?_
            exact hK176 _ _
        · refine z_iconst (pc := 154) hX dX12_next_154 ?_
          refine z_goto (pc := 155) hX 176 dX12_next_155 (by decide) ?_
          exact hK176 _ _
      · refine z_iconst (pc := 143) hX dX12_next_143 ?_
        refine z_goto (pc := 144) hX 176 dX12_next_144 (by decide) ?_
        exact hK176 _ _
  · exact z_vret (pc := 81) hX hR hk dX12_next_81

theorem dX12_puts_0 : decode cX12_puts 0 = .ok (.aload_n 0, 1) := by decide +kernel
theorem dX12_puts_1 : decode cX12_puts 1 = .ok (.getfield 40, 3) := by decide +kernel
theorem dX12_puts_4 : decode cX12_puts 4 = .ok (.sipush 200, 3) := by decide +kernel
theorem dX12_puts_7 : decode cX12_puts 7 = .ok (.aload_n 0, 1) := by decide +kernel
theorem dX12_puts_8 : decode cX12_puts 8 = .ok (.getfield 46, 3) := by decide +kernel
theorem dX12_puts_11 : decode cX12_puts 11 = .ok (.imul, 1) := by decide +kernel
theorem dX12_puts_12 : decode cX12_puts 12 = .ok (.aload_n 0, 1) := by decide +kernel
theorem dX12_puts_13 : decode cX12_puts 13 = .ok (.getfield 166, 3) := by decide +kernel
theorem dX12_puts_16 : decode cX12_puts 16 = .ok (.iadd, 1) := by decide +kernel
theorem dX12_puts_17 : decode cX12_puts 17 = .ok (.iload_n 1, 1) := by decide +kernel
theorem dX12_puts_18 : decode cX12_puts 18 = .ok (.iastore, 1) := by decide +kernel
theorem dX12_puts_19 : decode cX12_puts 19 = .ok (.aload_n 0, 1) := by decide +kernel
theorem dX12_puts_20 : decode cX12_puts 20 = .ok (.dup, 1) := by decide +kernel
theorem dX12_puts_21 : decode cX12_puts 21 = .ok (.getfield 166, 3) := by decide +kernel
theorem dX12_puts_24 : decode cX12_puts 24 = .ok (.iconst 1, 1) := by decide +kernel
theorem dX12_puts_25 : decode cX12_puts 25 = .ok (.iadd, 1) := by decide +kernel
theorem dX12_puts_26 : decode cX12_puts 26 = .ok (.putfield 166, 3) := by decide +kernel
theorem dX12_puts_29 : decode cX12_puts 29 = .ok (.return_, 1) := by decide +kernel
def fX12_puts (s0 : ZS) (a0 : Int) (a1 : Int) : Option (Int × ZS) := (zg s0 12 a0 14).bind (fun v1 => (zg s0 12 a0 16).bind (fun v2 => (zg s0 12 a0 37).bind (fun v3 => (zas s0 100 v1 (wrap ((wrap (200 * v2)) + v3)) a1).bind (fun s4 => (zg s4 12 a0 37).bind (fun v5 => (zp s4 12 a0 37 (wrap (v5 + 1))).bind (fun s6 => some (0, s6)))))))
set_option maxHeartbeats 4000000 in
set_option maxRecDepth 100000 in
theorem mX12_puts (E : ZE) (hE : zOkE E) (l : Launch) (s0 : ZS) (a0 : Int) (a1 : Int) : Ct E l yX12_puts cX12_puts 2 none 2 [(2, a0), (0, a1)] 0 s0 (fX12_puts s0 a0 a1) := by
  refine Ct.of (by decide) hE (Nat.le_of_ble_eq_true rfl) ?_
  intro X G hX hR hN hXE hXl hxn hk _
  subst hXE
  subst hXl
  have hX : G → ZOk X cX12_puts RX12 2 := hX
  clear hN
  show Zj X G 0 [(0, (2, a0)), (1, (0, a1))] [] s0 _
  unfold fX12_puts
  refine z_aload_n (pc := 0) hX 0 dX12_puts_0 rfl rfl ?_
  refine z_get (pc := 1) hX zc12 14 (by decide) wd1031 rfl rfl dX12_puts_1 (fun v1 => ?_)
  refine z_sipush (pc := 4) hX dX12_puts_4 ?_
  refine z_aload_n (pc := 7) hX 0 dX12_puts_7 rfl rfl ?_
  refine z_get (pc := 8) hX zc12 16 (by decide) wd1033 rfl rfl dX12_puts_8 (fun v2 => ?_)
  refine z_imul (pc := 11) hX dX12_puts_11 ?_
  refine z_aload_n (pc := 12) hX 0 dX12_puts_12 rfl rfl ?_
  refine z_get (pc := 13) hX zc12 37 (by decide) wd1054 rfl rfl dX12_puts_13 (fun v3 => ?_)
  refine z_iadd (pc := 16) hX dX12_puts_16 ?_
  refine z_iload_n (pc := 17) hX 1 dX12_puts_17 rfl rfl ?_
  refine z_iastA (pc := 18) hX dX12_puts_18 (fun s4 => ?_)
  refine z_aload_n (pc := 19) hX 0 dX12_puts_19 rfl rfl ?_
  refine z_dup (pc := 20) hX zn2 dX12_puts_20 ?_
  refine z_get (pc := 21) hX zc12 37 (by decide) wd1054 rfl rfl dX12_puts_21 (fun v5 => ?_)
  refine z_iconst (pc := 24) hX dX12_puts_24 ?_
  refine z_iadd (pc := 25) hX dX12_puts_25 ?_
  refine z_putA (pc := 26) hX zc12 37 (by decide) wd1054 (Or.inl rfl) rfl rfl (fun _ => rfl) (fun _ => rfl) dX12_puts_26 (fun s6 => ?_)
  exact z_vret (pc := 29) hX hR hk dX12_puts_29
