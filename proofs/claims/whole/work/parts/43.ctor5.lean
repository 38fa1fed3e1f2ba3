theorem eX_1 : eX 1 = 5090 := by have := eE_div 1; rw [eE_G] at this; omega
theorem eY_1 : eY 1 = 9579 := by have := eE_mod 1; rw [eE_G] at this; omega
theorem m_asc (S C D : Int) : S * C % 10009 * D % 10009 = S * (D * C % 10009) % 10009 := by
  rw [Int.mul_emod (S * C % 10009) D, Int.emod_emod, ← Int.mul_emod, Int.mul_emod S (D * C % 10009), Int.emod_emod, ← Int.mul_emod, Int.mul_assoc, Int.mul_comm C D]
theorem yfs_M0 (z : Nat) : yfs z (fun _ => 0) [some 1, some 2, none, some 3, none, some 4, some 5, some 6, some 7, some 8, some 9, some 10, some 11, none, some 12, some 13, some 14, some 15, some 16, some 17, some 18, some 19, none, none, none, some 20, some 21, some 22, some 23, some 24, some 25, some 26, some 27] = [.ref (z + 1), .ref (z + 2), .int (J 0), .ref (z + 3), .int (J 0), .ref (z + 4), .ref (z + 5), .ref (z + 6), .ref (z + 7), .ref (z + 8), .ref (z + 9), .ref (z + 10), .ref (z + 11), .int (J 0), .ref (z + 12), .ref (z + 13), .ref (z + 14), .ref (z + 15), .ref (z + 16), .ref (z + 17), .ref (z + 18), .ref (z + 19), .int (J 0), .int (J 0), .int (J 0), .ref (z + 20), .ref (z + 21), .ref (z + 22), .ref (z + 23), .ref (z + 24), .ref (z + 25), .ref (z + 26), .ref (z + 27)] := by
  unfold yfs
  simp only [List.mapIdx_cons, List.mapIdx_nil, yF]
theorem eX_0 : eX 0 = 0 := by have := eE_div 0; rw [eE_0] at this; omega
theorem eY_0 : eY 0 = 1 := by have := eE_mod 0; rw [eE_0] at this; omega
theorem d_M_init_0 : decode b_M_init 0 = .ok (.aload_n 0, 1) := by decide +kernel
theorem d_M_init_1 : decode b_M_init 1 = .ok (.invokespecial 1, 3) := by decide +kernel
theorem d_M_init_4 : decode b_M_init 4 = .ok (.aload_n 0, 1) := by decide +kernel
theorem d_M_init_5 : decode b_M_init 5 = .ok (.sipush 2473, 3) := by decide +kernel
theorem d_M_init_8 : decode b_M_init 8 = .ok (.newarray .int, 2) := by decide +kernel
theorem d_M_init_10 : decode b_M_init 10 = .ok (.putfield 7, 3) := by decide +kernel
theorem d_M_init_13 : decode b_M_init 13 = .ok (.aload_n 0, 1) := by decide +kernel
theorem d_M_init_14 : decode b_M_init 14 = .ok (.sipush 2473, 3) := by decide +kernel
theorem d_M_init_17 : decode b_M_init 17 = .ok (.newarray .int, 2) := by decide +kernel
theorem d_M_init_19 : decode b_M_init 19 = .ok (.putfield 13, 3) := by decide +kernel
theorem d_M_init_22 : decode b_M_init 22 = .ok (.aload_n 0, 1) := by decide +kernel
theorem d_M_init_23 : decode b_M_init 23 = .ok (.iconst 4, 1) := by decide +kernel
theorem d_M_init_24 : decode b_M_init 24 = .ok (.newarray .int, 2) := by decide +kernel
theorem d_M_init_26 : decode b_M_init 26 = .ok (.putfield 16, 3) := by decide +kernel
theorem d_M_init_29 : decode b_M_init 29 = .ok (.aload_n 0, 1) := by decide +kernel
theorem d_M_init_30 : decode b_M_init 30 = .ok (.iconst 2, 1) := by decide +kernel
theorem d_M_init_31 : decode b_M_init 31 = .ok (.newarray .int, 2) := by decide +kernel
theorem d_M_init_33 : decode b_M_init 33 = .ok (.putfield 19, 3) := by decide +kernel
theorem d_M_init_36 : decode b_M_init 36 = .ok (.aload_n 0, 1) := by decide +kernel
theorem d_M_init_37 : decode b_M_init 37 = .ok (.iconst 2, 1) := by decide +kernel
theorem d_M_init_38 : decode b_M_init 38 = .ok (.newarray .int, 2) := by decide +kernel
theorem d_M_init_40 : decode b_M_init 40 = .ok (.putfield 22, 3) := by decide +kernel
theorem d_M_init_43 : decode b_M_init 43 = .ok (.aload_n 0, 1) := by decide +kernel
theorem d_M_init_44 : decode b_M_init 44 = .ok (.iconst 2, 1) := by decide +kernel
theorem d_M_init_45 : decode b_M_init 45 = .ok (.newarray .int, 2) := by decide +kernel
theorem d_M_init_47 : decode b_M_init 47 = .ok (.putfield 25, 3) := by decide +kernel
theorem d_M_init_50 : decode b_M_init 50 = .ok (.aload_n 0, 1) := by decide +kernel
theorem d_M_init_51 : decode b_M_init 51 = .ok (.iconst 2, 1) := by decide +kernel
theorem d_M_init_52 : decode b_M_init 52 = .ok (.newarray .int, 2) := by decide +kernel
theorem d_M_init_54 : decode b_M_init 54 = .ok (.putfield 28, 3) := by decide +kernel
theorem d_M_init_57 : decode b_M_init 57 = .ok (.aload_n 0, 1) := by decide +kernel
theorem d_M_init_58 : decode b_M_init 58 = .ok (.iconst 2, 1) := by decide +kernel
theorem d_M_init_59 : decode b_M_init 59 = .ok (.newarray .int, 2) := by decide +kernel
theorem d_M_init_61 : decode b_M_init 61 = .ok (.putfield 31, 3) := by decide +kernel
theorem d_M_init_64 : decode b_M_init 64 = .ok (.aload_n 0, 1) := by decide +kernel
theorem d_M_init_65 : decode b_M_init 65 = .ok (.iconst 2, 1) := by decide +kernel
theorem d_M_init_66 : decode b_M_init 66 = .ok (.newarray .int, 2) := by decide +kernel
theorem d_M_init_68 : decode b_M_init 68 = .ok (.putfield 34, 3) := by decide +kernel
theorem d_M_init_71 : decode b_M_init 71 = .ok (.aload_n 0, 1) := by decide +kernel
theorem d_M_init_72 : decode b_M_init 72 = .ok (.iconst 2, 1) := by decide +kernel
theorem d_M_init_73 : decode b_M_init 73 = .ok (.newarray .int, 2) := by decide +kernel
theorem d_M_init_75 : decode b_M_init 75 = .ok (.putfield 37, 3) := by decide +kernel
theorem d_M_init_78 : decode b_M_init 78 = .ok (.aload_n 0, 1) := by decide +kernel
theorem d_M_init_79 : decode b_M_init 79 = .ok (.bipush 8, 2) := by decide +kernel
theorem d_M_init_81 : decode b_M_init 81 = .ok (.newarray .int, 2) := by decide +kernel
theorem d_M_init_83 : decode b_M_init 83 = .ok (.putfield 40, 3) := by decide +kernel
theorem d_M_init_86 : decode b_M_init 86 = .ok (.aload_n 0, 1) := by decide +kernel
theorem d_M_init_87 : decode b_M_init 87 = .ok (.iconst 2, 1) := by decide +kernel
theorem d_M_init_88 : decode b_M_init 88 = .ok (.newarray .int, 2) := by decide +kernel
theorem d_M_init_90 : decode b_M_init 90 = .ok (.putfield 43, 3) := by decide +kernel
theorem d_M_init_93 : decode b_M_init 93 = .ok (.aload_n 0, 1) := by decide +kernel
theorem d_M_init_94 : decode b_M_init 94 = .ok (.iconst 2, 1) := by decide +kernel
theorem d_M_init_95 : decode b_M_init 95 = .ok (.newarray .int, 2) := by decide +kernel
theorem d_M_init_97 : decode b_M_init 97 = .ok (.putfield 46, 3) := by decide +kernel
theorem d_M_init_100 : decode b_M_init 100 = .ok (.aload_n 0, 1) := by decide +kernel
theorem d_M_init_101 : decode b_M_init 101 = .ok (.iconst 2, 1) := by decide +kernel
theorem d_M_init_102 : decode b_M_init 102 = .ok (.newarray .int, 2) := by decide +kernel
theorem d_M_init_104 : decode b_M_init 104 = .ok (.putfield 49, 3) := by decide +kernel
theorem d_M_init_107 : decode b_M_init 107 = .ok (.aload_n 0, 1) := by decide +kernel
theorem d_M_init_108 : decode b_M_init 108 = .ok (.iconst 2, 1) := by decide +kernel
theorem d_M_init_109 : decode b_M_init 109 = .ok (.newarray .int, 2) := by decide +kernel
theorem d_M_init_111 : decode b_M_init 111 = .ok (.putfield 52, 3) := by decide +kernel
theorem d_M_init_114 : decode b_M_init 114 = .ok (.aload_n 0, 1) := by decide +kernel
theorem d_M_init_115 : decode b_M_init 115 = .ok (.iconst 2, 1) := by decide +kernel
theorem d_M_init_116 : decode b_M_init 116 = .ok (.newarray .int, 2) := by decide +kernel
theorem d_M_init_118 : decode b_M_init 118 = .ok (.putfield 55, 3) := by decide +kernel
theorem d_M_init_121 : decode b_M_init 121 = .ok (.aload_n 0, 1) := by decide +kernel
theorem d_M_init_122 : decode b_M_init 122 = .ok (.iconst 2, 1) := by decide +kernel
theorem d_M_init_123 : decode b_M_init 123 = .ok (.newarray .int, 2) := by decide +kernel
theorem d_M_init_125 : decode b_M_init 125 = .ok (.putfield 58, 3) := by decide +kernel
theorem d_M_init_128 : decode b_M_init 128 = .ok (.aload_n 0, 1) := by decide +kernel
theorem d_M_init_129 : decode b_M_init 129 = .ok (.iconst 2, 1) := by decide +kernel
theorem d_M_init_130 : decode b_M_init 130 = .ok (.newarray .int, 2) := by decide +kernel
theorem d_M_init_132 : decode b_M_init 132 = .ok (.putfield 61, 3) := by decide +kernel
theorem d_M_init_135 : decode b_M_init 135 = .ok (.aload_n 0, 1) := by decide +kernel
theorem d_M_init_136 : decode b_M_init 136 = .ok (.iconst 2, 1) := by decide +kernel
theorem d_M_init_137 : decode b_M_init 137 = .ok (.newarray .int, 2) := by decide +kernel
theorem d_M_init_139 : decode b_M_init 139 = .ok (.putfield 64, 3) := by decide +kernel
theorem d_M_init_142 : decode b_M_init 142 = .ok (.aload_n 0, 1) := by decide +kernel
theorem d_M_init_143 : decode b_M_init 143 = .ok (.bipush 12, 2) := by decide +kernel
theorem d_M_init_145 : decode b_M_init 145 = .ok (.newarray .int, 2) := by decide +kernel
theorem d_M_init_147 : decode b_M_init 147 = .ok (.putfield 67, 3) := by decide +kernel
theorem d_M_init_150 : decode b_M_init 150 = .ok (.aload_n 0, 1) := by decide +kernel
theorem d_M_init_151 : decode b_M_init 151 = .ok (.bipush 12, 2) := by decide +kernel
theorem d_M_init_153 : decode b_M_init 153 = .ok (.newarray .int, 2) := by decide +kernel
theorem d_M_init_155 : decode b_M_init 155 = .ok (.putfield 70, 3) := by decide +kernel
theorem d_M_init_158 : decode b_M_init 158 = .ok (.aload_n 0, 1) := by decide +kernel
theorem d_M_init_159 : decode b_M_init 159 = .ok (.bipush 24, 2) := by decide +kernel
theorem d_M_init_161 : decode b_M_init 161 = .ok (.newarray .int, 2) := by decide +kernel
theorem d_M_init_163 : decode b_M_init 163 = .ok (.putfield 73, 3) := by decide +kernel
theorem d_M_init_166 : decode b_M_init 166 = .ok (.aload_n 0, 1) := by decide +kernel
theorem d_M_init_167 : decode b_M_init 167 = .ok (.bipush 16, 2) := by decide +kernel
theorem d_M_init_169 : decode b_M_init 169 = .ok (.newarray .int, 2) := by decide +kernel
theorem d_M_init_171 : decode b_M_init 171 = .ok (.putfield 76, 3) := by decide +kernel
theorem d_M_init_174 : decode b_M_init 174 = .ok (.aload_n 0, 1) := by decide +kernel
theorem d_M_init_175 : decode b_M_init 175 = .ok (.bipush 16, 2) := by decide +kernel
theorem d_M_init_177 : decode b_M_init 177 = .ok (.newarray .int, 2) := by decide +kernel
theorem d_M_init_179 : decode b_M_init 179 = .ok (.putfield 79, 3) := by decide +kernel
theorem d_M_init_182 : decode b_M_init 182 = .ok (.aload_n 0, 1) := by decide +kernel
theorem d_M_init_183 : decode b_M_init 183 = .ok (.bipush 16, 2) := by decide +kernel
theorem d_M_init_185 : decode b_M_init 185 = .ok (.newarray .int, 2) := by decide +kernel
theorem d_M_init_187 : decode b_M_init 187 = .ok (.putfield 82, 3) := by decide +kernel
theorem d_M_init_190 : decode b_M_init 190 = .ok (.aload_n 0, 1) := by decide +kernel
theorem d_M_init_191 : decode b_M_init 191 = .ok (.bipush 16, 2) := by decide +kernel
theorem d_M_init_193 : decode b_M_init 193 = .ok (.newarray .int, 2) := by decide +kernel
theorem d_M_init_195 : decode b_M_init 195 = .ok (.putfield 85, 3) := by decide +kernel
theorem d_M_init_198 : decode b_M_init 198 = .ok (.aload_n 0, 1) := by decide +kernel
theorem d_M_init_199 : decode b_M_init 199 = .ok (.bipush 16, 2) := by decide +kernel
theorem d_M_init_201 : decode b_M_init 201 = .ok (.newarray .int, 2) := by decide +kernel
theorem d_M_init_203 : decode b_M_init 203 = .ok (.putfield 88, 3) := by decide +kernel
theorem d_M_init_206 : decode b_M_init 206 = .ok (.aload_n 0, 1) := by decide +kernel
theorem d_M_init_207 : decode b_M_init 207 = .ok (.getfield 13, 3) := by decide +kernel
theorem d_M_init_210 : decode b_M_init 210 = .ok (.iconst 0, 1) := by decide +kernel
theorem d_M_init_211 : decode b_M_init 211 = .ok (.iconst 1, 1) := by decide +kernel
theorem d_M_init_212 : decode b_M_init 212 = .ok (.iastore, 1) := by decide +kernel
theorem d_M_init_213 : decode b_M_init 213 = .ok (.iconst 1, 1) := by decide +kernel
theorem d_M_init_214 : decode b_M_init 214 = .ok (.istore_n 1, 1) := by decide +kernel
theorem d_M_init_215 : decode b_M_init 215 = .ok (.iload_n 1, 1) := by decide +kernel
theorem d_M_init_216 : decode b_M_init 216 = .ok (.sipush 2473, 3) := by decide +kernel
theorem d_M_init_219 : decode b_M_init 219 = .ok (.if_icmp .ge 154, 3) := by decide +kernel
theorem d_M_init_222 : decode b_M_init 222 = .ok (.aload_n 0, 1) := by decide +kernel
theorem d_M_init_223 : decode b_M_init 223 = .ok (.getfield 7, 3) := by decide +kernel
theorem d_M_init_226 : decode b_M_init 226 = .ok (.iload_n 1, 1) := by decide +kernel
theorem d_M_init_227 : decode b_M_init 227 = .ok (.iconst 1, 1) := by decide +kernel
theorem d_M_init_228 : decode b_M_init 228 = .ok (.isub, 1) := by decide +kernel
theorem d_M_init_229 : decode b_M_init 229 = .ok (.iaload, 1) := by decide +kernel
theorem d_M_init_230 : decode b_M_init 230 = .ok (.istore_n 2, 1) := by decide +kernel
theorem d_M_init_231 : decode b_M_init 231 = .ok (.aload_n 0, 1) := by decide +kernel
theorem d_M_init_232 : decode b_M_init 232 = .ok (.getfield 13, 3) := by decide +kernel
theorem d_M_init_235 : decode b_M_init 235 = .ok (.iload_n 1, 1) := by decide +kernel
theorem d_M_init_236 : decode b_M_init 236 = .ok (.iconst 1, 1) := by decide +kernel
theorem d_M_init_237 : decode b_M_init 237 = .ok (.isub, 1) := by decide +kernel
theorem d_M_init_238 : decode b_M_init 238 = .ok (.iaload, 1) := by decide +kernel
theorem d_M_init_239 : decode b_M_init 239 = .ok (.istore_n 3, 1) := by decide +kernel
theorem d_M_init_240 : decode b_M_init 240 = .ok (.bipush 56, 2) := by decide +kernel
theorem d_M_init_242 : decode b_M_init 242 = .ok (.iload_n 2, 1) := by decide +kernel
theorem d_M_init_243 : decode b_M_init 243 = .ok (.sipush 5090, 3) := by decide +kernel
theorem d_M_init_246 : decode b_M_init 246 = .ok (.invokestatic 91, 3) := by decide +kernel
theorem d_M_init_249 : decode b_M_init 249 = .ok (.invokestatic 91, 3) := by decide +kernel
theorem d_M_init_252 : decode b_M_init 252 = .ok (.iload_n 3, 1) := by decide +kernel
theorem d_M_init_253 : decode b_M_init 253 = .ok (.sipush 9579, 3) := by decide +kernel
theorem d_M_init_256 : decode b_M_init 256 = .ok (.invokestatic 91, 3) := by decide +kernel
theorem d_M_init_259 : decode b_M_init 259 = .ok (.invokestatic 91, 3) := by decide +kernel
theorem d_M_init_262 : decode b_M_init 262 = .ok (.istore 4, 2) := by decide +kernel
theorem d_M_init_264 : decode b_M_init 264 = .ok (.iconst 1, 1) := by decide +kernel
theorem d_M_init_265 : decode b_M_init 265 = .ok (.iload 4, 2) := by decide +kernel
theorem d_M_init_267 : decode b_M_init 267 = .ok (.iadd, 1) := by decide +kernel
theorem d_M_init_268 : decode b_M_init 268 = .ok (.invokestatic 95, 3) := by decide +kernel
theorem d_M_init_271 : decode b_M_init 271 = .ok (.iconst 1, 1) := by decide +kernel
theorem d_M_init_272 : decode b_M_init 272 = .ok (.iload 4, 2) := by decide +kernel
theorem d_M_init_274 : decode b_M_init 274 = .ok (.isub, 1) := by decide +kernel
theorem d_M_init_275 : decode b_M_init 275 = .ok (.invokestatic 95, 3) := by decide +kernel
theorem d_M_init_278 : decode b_M_init 278 = .ok (.invokestatic 91, 3) := by decide +kernel
theorem d_M_init_281 : decode b_M_init 281 = .ok (.sipush 10007, 3) := by decide +kernel
theorem d_M_init_284 : decode b_M_init 284 = .ok (.invokestatic 99, 3) := by decide +kernel
theorem d_M_init_287 : decode b_M_init 287 = .ok (.istore 5, 2) := by decide +kernel
theorem d_M_init_289 : decode b_M_init 289 = .ok (.aload_n 0, 1) := by decide +kernel
theorem d_M_init_290 : decode b_M_init 290 = .ok (.getfield 7, 3) := by decide +kernel
theorem d_M_init_293 : decode b_M_init 293 = .ok (.iload_n 1, 1) := by decide +kernel
theorem d_M_init_294 : decode b_M_init 294 = .ok (.iload_n 2, 1) := by decide +kernel
theorem d_M_init_295 : decode b_M_init 295 = .ok (.sipush 9579, 3) := by decide +kernel
theorem d_M_init_298 : decode b_M_init 298 = .ok (.invokestatic 91, 3) := by decide +kernel
theorem d_M_init_301 : decode b_M_init 301 = .ok (.iload_n 3, 1) := by decide +kernel
theorem d_M_init_302 : decode b_M_init 302 = .ok (.sipush 5090, 3) := by decide +kernel
theorem d_M_init_305 : decode b_M_init 305 = .ok (.invokestatic 91, 3) := by decide +kernel
theorem d_M_init_308 : decode b_M_init 308 = .ok (.iadd, 1) := by decide +kernel
theorem d_M_init_309 : decode b_M_init 309 = .ok (.invokestatic 95, 3) := by decide +kernel
theorem d_M_init_312 : decode b_M_init 312 = .ok (.iconst 1, 1) := by decide +kernel
theorem d_M_init_313 : decode b_M_init 313 = .ok (.iload 4, 2) := by decide +kernel
theorem d_M_init_315 : decode b_M_init 315 = .ok (.isub, 1) := by decide +kernel
theorem d_M_init_316 : decode b_M_init 316 = .ok (.invokestatic 95, 3) := by decide +kernel
theorem d_M_init_319 : decode b_M_init 319 = .ok (.invokestatic 91, 3) := by decide +kernel
theorem d_M_init_322 : decode b_M_init 322 = .ok (.iload 5, 2) := by decide +kernel
theorem d_M_init_324 : decode b_M_init 324 = .ok (.invokestatic 91, 3) := by decide +kernel
theorem d_M_init_327 : decode b_M_init 327 = .ok (.iastore, 1) := by decide +kernel
theorem d_M_init_328 : decode b_M_init 328 = .ok (.aload_n 0, 1) := by decide +kernel
theorem d_M_init_329 : decode b_M_init 329 = .ok (.getfield 13, 3) := by decide +kernel
theorem d_M_init_332 : decode b_M_init 332 = .ok (.iload_n 1, 1) := by decide +kernel
theorem d_M_init_333 : decode b_M_init 333 = .ok (.iload_n 3, 1) := by decide +kernel
theorem d_M_init_334 : decode b_M_init 334 = .ok (.sipush 9579, 3) := by decide +kernel
theorem d_M_init_337 : decode b_M_init 337 = .ok (.invokestatic 91, 3) := by decide +kernel
theorem d_M_init_340 : decode b_M_init 340 = .ok (.iload_n 2, 1) := by decide +kernel
theorem d_M_init_341 : decode b_M_init 341 = .ok (.sipush 5090, 3) := by decide +kernel
theorem d_M_init_344 : decode b_M_init 344 = .ok (.invokestatic 91, 3) := by decide +kernel
theorem d_M_init_347 : decode b_M_init 347 = .ok (.iadd, 1) := by decide +kernel
theorem d_M_init_348 : decode b_M_init 348 = .ok (.invokestatic 95, 3) := by decide +kernel
theorem d_M_init_351 : decode b_M_init 351 = .ok (.iconst 1, 1) := by decide +kernel
theorem d_M_init_352 : decode b_M_init 352 = .ok (.iload 4, 2) := by decide +kernel
theorem d_M_init_354 : decode b_M_init 354 = .ok (.iadd, 1) := by decide +kernel
theorem d_M_init_355 : decode b_M_init 355 = .ok (.invokestatic 95, 3) := by decide +kernel
theorem d_M_init_358 : decode b_M_init 358 = .ok (.invokestatic 91, 3) := by decide +kernel
theorem d_M_init_361 : decode b_M_init 361 = .ok (.iload 5, 2) := by decide +kernel
theorem d_M_init_363 : decode b_M_init 363 = .ok (.invokestatic 91, 3) := by decide +kernel
theorem d_M_init_366 : decode b_M_init 366 = .ok (.iastore, 1) := by decide +kernel
theorem d_M_init_367 : decode b_M_init 367 = .ok (.iinc 1 1, 3) := by decide +kernel
theorem d_M_init_370 : decode b_M_init 370 = .ok (.goto (-155), 3) := by decide +kernel
theorem d_M_init_373 : decode b_M_init 373 = .ok (.return_, 1) := by decide +kernel

set_option maxHeartbeats 4000000 in
set_option maxRecDepth 100000 in
theorem c_M_init (l : Launch) (G : yG) (z : Nat) : Met l y_M_init (Cond.code y_M_init b_M_init 6 (Option.none : Option Jvm.ClassFile.FieldType) :: yT) ({ frames := 2, cells := 27, slots := 5116, locals := 44 } : Room) (yPn G z 0 10 [.null, .null, .int (J 0), .null, .int (J 0), .null, .null, .null, .null, .null, .null, .null, .null, .int (J 0), .null, .null, .null, .null, .null, .null, .null, .null, .int (J 0), .int (J 0), .int (J 0), .null, .null, .null, .null, .null, .null, .null, .null] (fun _ => True) [.ref (z + 0)]) (yQn G yLM 0 28 z (fun τ => mTb τ ∧ ∀ d, d ≠ 1 → d ≠ 2 → τ d = fun _ => 0)) 27 5116 (fun b9 => z + 0 ≤ b9) := by
  refine y_met (by decide +kernel) (Nat.le_of_ble_eq_true rfl) ?_
  intro p e s m below meth c ls hx hb hr hml hlocks hown hname hts hv hl
  have hA : ∀ w ∈ yT, w.before _ s = true := fun w h => hts w (List.mem_cons_of_mem _ h)
  obtain ⟨hat, hsz, hB, hK2⟩ := hv
  have hK := hK2.1
  have hl : lv_has ls 6 [(0, .ref (z + 0))] := hl
  have hX : xX ycl G (fun _ => .inr (10, [.null, .null, .int (J 0), .null, .int (J 0), .null, .null, .null, .null, .null, .null, .null, .null, .int (J 0), .null, .null, .null, .null, .null, .null, .null, .null, .int (J 0), .int (J 0), .int (J 0), .null, .null, .null, .null, .null, .null, .null, .null])) 0 1 z s.heap := xX_of (fun c hc => by have e : c = 0 := (by omega); subst e; exact hat)
  have hS : va_S (fun b9 => z + 0 ≤ b9) s.heap s.heap [] := va_S.rf
  have hAr : ∀ b9, 0 ≤ b9 → (fun b9 => z + 0 ≤ b9) (z + b9) := fun b9 h => Nat.add_le_add_left h z
  refine lv_aload_n hx hb d_M_init_0 rfl (lv_at hl 0 rfl) ?_
  refine W.objInit hx hb hown (hA _ k_ml_M_1) (hA _ k_im_Object_init) (hA _ k_co_Object_init) rfl (by rw [hml]; exact hl.1) rfl d_M_init_1 (Nat.le_of_ble_eq_true rfl) (Nat.le_of_ble_eq_true rfl) ?_
  refine W.eq (g2 := F0 m 4 ls []) rfl ?_
  refine lv_aload_n hx hb d_M_init_4 rfl (lv_at hl 0 rfl) ?_
  refine lv_sipush (v := J (2473)) hx hb d_M_init_5 (by decide) ?_
  refine x_sz hX (by omega) (by omega) (fun hZ => ?_)
  refine x_newa (a0 := (2473, .inl (fun _ => J 0))) hx hb (hA _ k_ac_int) (hK.1.2 0 _ rfl).2 hX hS hZ (fun cA => by rw [J0]; rfl) (by decide +kernel) (N' := 2473) (by decide +kernel) (by decide) (by show _ ≤ 27; omega) (by show _ ≤ 5116; omega) d_M_init_8 (fun H hX hS => ?_)
  have hX : xX ycl G (eu _ 1 _) 0 2 z H := hX
  refine W.eq (g2 := F0 m 10 ls [.ref (z + 1), .ref (z + 0)]) rfl ?_
  refine x_put (ty := (.array .int)) hx hb hA in_M t_M tk_M nm_M hown hK.1 hX hAr hS 0 (by omega) ((eu_ne (by decide)).trans rfl) rfl 0 (by decide) (hA _ k_fl_M_7) rfl (by decide +kernel) rfl rfl (Nat.le_of_ble_eq_true rfl) d_M_init_10 (fun H locs hX hS => ?_)
  have hX : xX ycl G (eu _ 0 (.inr (10, [.ref (z + 1), .null, .int (J 0), .null, .int (J 0), .null, .null, .null, .null, .null, .null, .null, .null, .int (J 0), .null, .null, .null, .null, .null, .null, .null, .null, .int (J 0), .int (J 0), .int (J 0), .null, .null, .null, .null, .null, .null, .null, .null]))) 0 2 z H := hX
  refine lv_aload_n hx hb d_M_init_13 rfl (lv_at hl 0 rfl) ?_
  refine lv_sipush (v := J (2473)) hx hb d_M_init_14 (by decide) ?_
  refine x_sz hX (by omega) (by omega) (fun hZ => ?_)
  refine x_newa (a0 := (2473, .inl (fun _ => J 0))) hx hb (hA _ k_ac_int) (hK.1.2 0 _ rfl).2 hX hS hZ (fun cA => by rw [J0]; rfl) (by decide +kernel) (N' := 2473) (by decide +kernel) (by decide) (by show _ ≤ 27; omega) (by show _ ≤ 5116; omega) d_M_init_17 (fun H hX hS => ?_)
  have hX : xX ycl G (eu _ 2 _) 0 3 z H := hX
  refine W.eq (g2 := F0 m 19 ls [.ref (z + 2), .ref (z + 0)]) rfl ?_
  refine x_put (ty := (.array .int)) hx hb hA in_M t_M tk_M nm_M hown hK.1 hX hAr hS 0 (by omega) ((eu_ne (by decide)).trans eu_at) rfl 1 (by decide) (hA _ k_fl_M_13) rfl (by decide +kernel) rfl rfl (Nat.le_of_ble_eq_true rfl) d_M_init_19 (fun H locs hX hS => ?_)
  have hX : xX ycl G (eu _ 0 (.inr (10, [.ref (z + 1), .ref (z + 2), .int (J 0), .null, .int (J 0), .null, .null, .null, .null, .null, .null, .null, .null, .int (J 0), .null, .null, .null, .null, .null, .null, .null, .null, .int (J 0), .int (J 0), .int (J 0), .null, .null, .null, .null, .null, .null, .null, .null]))) 0 3 z H := hX
  refine lv_aload_n hx hb d_M_init_22 rfl (lv_at hl 0 rfl) ?_
  refine lv_iconst (v := J (4)) hx hb d_M_init_23 rfl ?_
  refine x_sz hX (by omega) (by omega) (fun hZ => ?_)
  refine x_newa (a0 := (4, .inl (fun _ => J 0))) hx hb (hA _ k_ac_int) (hK.1.2 0 _ rfl).2 hX hS hZ (fun cA => by rw [J0]; rfl) (by decide +kernel) (N' := 4) (by decide +kernel) (by decide) (by show _ ≤ 27; omega) (by show _ ≤ 5116; omega) d_M_init_24 (fun H hX hS => ?_)
  have hX : xX ycl G (eu _ 3 _) 0 4 z H := hX
  refine W.eq (g2 := F0 m 26 ls [.ref (z + 3), .ref (z + 0)]) rfl ?_
  refine x_put (ty := (.array .int)) hx hb hA in_M t_M tk_M nm_M hown hK.1 hX hAr hS 0 (by omega) ((eu_ne (by decide)).trans eu_at) rfl 3 (by decide) (hA _ k_fl_M_16) rfl (by decide +kernel) rfl rfl (Nat.le_of_ble_eq_true rfl) d_M_init_26 (fun H locs hX hS => ?_)
  have hX : xX ycl G (eu _ 0 (.inr (10, [.ref (z + 1), .ref (z + 2), .int (J 0), .ref (z + 3), .int (J 0), .null, .null, .null, .null, .null, .null, .null, .null, .int (J 0), .null, .null, .null, .null, .null, .null, .null, .null, .int (J 0), .int (J 0), .int (J 0), .null, .null, .null, .null, .null, .null, .null, .null]))) 0 4 z H := hX
  refine lv_aload_n hx hb d_M_init_29 rfl (lv_at hl 0 rfl) ?_
  refine lv_iconst (v := J (2)) hx hb d_M_init_30 rfl ?_
  refine x_sz hX (by omega) (by omega) (fun hZ => ?_)
  refine x_newa (a0 := (2, .inl (fun _ => J 0))) hx hb (hA _ k_ac_int) (hK.1.2 0 _ rfl).2 hX hS hZ (fun cA => by rw [J0]; rfl) (by decide +kernel) (N' := 2) (by decide +kernel) (by decide) (by show _ ≤ 27; omega) (by show _ ≤ 5116; omega) d_M_init_31 (fun H hX hS => ?_)
  have hX : xX ycl G (eu _ 4 _) 0 5 z H := hX
  refine W.eq (g2 := F0 m 33 ls [.ref (z + 4), .ref (z + 0)]) rfl ?_
  refine x_put (ty := (.array .int)) hx hb hA in_M t_M tk_M nm_M hown hK.1 hX hAr hS 0 (by omega) ((eu_ne (by decide)).trans eu_at) rfl 5 (by decide) (hA _ k_fl_M_19) rfl (by decide +kernel) rfl rfl (Nat.le_of_ble_eq_true rfl) d_M_init_33 (fun H locs hX hS => ?_)
  have hX : xX ycl G (eu _ 0 (.inr (10, [.ref (z + 1), .ref (z + 2), .int (J 0), .ref (z + 3), .int (J 0), .ref (z + 4), .null, .null, .null, .null, .null, .null, .null, .int (J 0), .null, .null, .null, .null, .null, .null, .null, .null, .int (J 0), .int (J 0), .int (J 0), .null, .null, .null, .null, .null, .null, .null, .null]))) 0 5 z H := hX
  refine lv_aload_n hx hb d_M_init_36 rfl (lv_at hl 0 rfl) ?_
  refine lv_iconst (v := J (2)) hx hb d_M_init_37 rfl ?_
  refine x_sz hX (by omega) (by omega) (fun hZ => ?_)
  refine x_newa (a0 := (2, .inl (fun _ => J 0))) hx hb (hA _ k_ac_int) (hK.1.2 0 _ rfl).2 hX hS hZ (fun cA => by rw [J0]; rfl) (by decide +kernel) (N' := 2) (by decide +kernel) (by decide) (by show _ ≤ 27; omega) (by show _ ≤ 5116; omega) d_M_init_38 (fun H hX hS => ?_)
  have hX : xX ycl G (eu _ 5 _) 0 6 z H := hX
  refine W.eq (g2 := F0 m 40 ls [.ref (z + 5), .ref (z + 0)]) rfl ?_
  refine x_put (ty := (.array .int)) hx hb hA in_M t_M tk_M nm_M hown hK.1 hX hAr hS 0 (by omega) ((eu_ne (by decide)).trans eu_at) rfl 6 (by decide) (hA _ k_fl_M_22) rfl (by decide +kernel) rfl rfl (Nat.le_of_ble_eq_true rfl) d_M_init_40 (fun H locs hX hS => ?_)
  have hX : xX ycl G (eu _ 0 (.inr (10, [.ref (z + 1), .ref (z + 2), .int (J 0), .ref (z + 3), .int (J 0), .ref (z + 4), .ref (z + 5), .null, .null, .null, .null, .null, .null, .int (J 0), .null, .null, .null, .null, .null, .null, .null, .null, .int (J 0), .int (J 0), .int (J 0), .null, .null, .null, .null, .null, .null, .null, .null]))) 0 6 z H := hX
  refine lv_aload_n hx hb d_M_init_43 rfl (lv_at hl 0 rfl) ?_
  refine lv_iconst (v := J (2)) hx hb d_M_init_44 rfl ?_
  refine x_sz hX (by omega) (by omega) (fun hZ => ?_)
  refine x_newa (a0 := (2, .inl (fun _ => J 0))) hx hb (hA _ k_ac_int) (hK.1.2 0 _ rfl).2 hX hS hZ (fun cA => by rw [J0]; rfl) (by decide +kernel) (N' := 2) (by decide +kernel) (by decide) (by show _ ≤ 27; omega) (by show _ ≤ 5116; omega) d_M_init_45 (fun H hX hS => ?_)
  have hX : xX ycl G (eu _ 6 _) 0 7 z H := hX
  refine W.eq (g2 := F0 m 47 ls [.ref (z + 6), .ref (z + 0)]) rfl ?_
  refine x_put (ty := (.array .int)) hx hb hA in_M t_M tk_M nm_M hown hK.1 hX hAr hS 0 (by omega) ((eu_ne (by decide)).trans eu_at) rfl 7 (by decide) (hA _ k_fl_M_25) rfl (by decide +kernel) rfl rfl (Nat.le_of_ble_eq_true rfl) d_M_init_47 (fun H locs hX hS => ?_)
  have hX : xX ycl G (eu _ 0 (.inr (10, [.ref (z + 1), .ref (z + 2), .int (J 0), .ref (z + 3), .int (J 0), .ref (z + 4), .ref (z + 5), .ref (z + 6), .null, .null, .null, .null, .null, .int (J 0), .null, .null, .null, .null, .null, .null, .null, .null, .int (J 0), .int (J 0), .int (J 0), .null, .null, .null, .null, .null, .null, .null, .null]))) 0 7 z H := hX
  refine lv_aload_n hx hb d_M_init_50 rfl (lv_at hl 0 rfl) ?_
  refine lv_iconst (v := J (2)) hx hb d_M_init_51 rfl ?_
  refine x_sz hX (by omega) (by omega) (fun hZ => ?_)
  refine x_newa (a0 := (2, .inl (fun _ => J 0))) hx hb (hA _ k_ac_int) (hK.1.2 0 _ rfl).2 hX hS hZ (fun cA => by rw [J0]; rfl) (by decide +kernel) (N' := 2) (by decide +kernel) (by decide) (by show _ ≤ 27; omega) (by show _ ≤ 5116; omega) d_M_init_52 (fun H hX hS => ?_)
  have hX : xX ycl G (eu _ 7 _) 0 8 z H := hX
  refine W.eq (g2 := F0 m 54 ls [.ref (z + 7), .ref (z + 0)]) rfl ?_
  refine x_put (ty := (.array .int)) hx hb hA in_M t_M tk_M nm_M hown hK.1 hX hAr hS 0 (by omega) ((eu_ne (by decide)).trans eu_at) rfl 8 (by decide) (hA _ k_fl_M_28) rfl (by decide +kernel) rfl rfl (Nat.le_of_ble_eq_true rfl) d_M_init_54 (fun H locs hX hS => ?_)
  have hX : xX ycl G (eu _ 0 (.inr (10, [.ref (z + 1), .ref (z + 2), .int (J 0), .ref (z + 3), .int (J 0), .ref (z + 4), .ref (z + 5), .ref (z + 6), .ref (z + 7), .null, .null, .null, .null, .int (J 0), .null, .null, .null, .null, .null, .null, .null, .null, .int (J 0), .int (J 0), .int (J 0), .null, .null, .null, .null, .null, .null, .null, .null]))) 0 8 z H := hX
  refine lv_aload_n hx hb d_M_init_57 rfl (lv_at hl 0 rfl) ?_
  refine lv_iconst (v := J (2)) hx hb d_M_init_58 rfl ?_
  refine x_sz hX (by omega) (by omega) (fun hZ => ?_)
  refine x_newa (a0 := (2, .inl (fun _ => J 0))) hx hb (hA _ k_ac_int) (hK.1.2 0 _ rfl).2 hX hS hZ (fun cA => by rw [J0]; rfl) (by decide +kernel) (N' := 2) (by decide +kernel) (by decide) (by show _ ≤ 27; omega) (by show _ ≤ 5116; omega) d_M_init_59 (fun H hX hS => ?_)
  have hX : xX ycl G (eu _ 8 _) 0 9 z H := hX
  refine W.eq (g2 := F0 m 61 ls [.ref (z + 8), .ref (z + 0)]) rfl ?_
  refine x_put (ty := (.array .int)) hx hb hA in_M t_M tk_M nm_M hown hK.1 hX hAr hS 0 (by omega) ((eu_ne (by decide)).trans eu_at) rfl 9 (by decide) (hA _ k_fl_M_31) rfl (by decide +kernel) rfl rfl (Nat.le_of_ble_eq_true rfl) d_M_init_61 (fun H locs hX hS => ?_)
  have hX : xX ycl G (eu _ 0 (.inr (10, [.ref (z + 1), .ref (z + 2), .int (J 0), .ref (z + 3), .int (J 0), .ref (z + 4), .ref (z + 5), .ref (z + 6), .ref (z + 7), .ref (z + 8), .null, .null, .null, .int (J 0), .null, .null, .null, .null, .null, .null, .null, .null, .int (J 0), .int (J 0), .int (J 0), .null, .null, .null, .null, .null, .null, .null, .null]))) 0 9 z H := hX
  refine lv_aload_n hx hb d_M_init_64 rfl (lv_at hl 0 rfl) ?_
  refine lv_iconst (v := J (2)) hx hb d_M_init_65 rfl ?_
  refine x_sz hX (by omega) (by omega) (fun hZ => ?_)
  refine x_newa (a0 := (2, .inl (fun _ => J 0))) hx hb (hA _ k_ac_int) (hK.1.2 0 _ rfl).2 hX hS hZ (fun cA => by rw [J0]; rfl) (by decide +kernel) (N' := 2) (by decide +kernel) (by decide) (by show _ ≤ 27; omega) (by show _ ≤ 5116; omega) d_M_init_66 (fun H hX hS => ?_)
  have hX : xX ycl G (eu _ 9 _) 0 10 z H := hX
  refine W.eq (g2 := F0 m 68 ls [.ref (z + 9), .ref (z + 0)]) rfl ?_
  refine x_put (ty := (.array .int)) hx hb hA in_M t_M tk_M nm_M hown hK.1 hX hAr hS 0 (by omega) ((eu_ne (by decide)).trans eu_at) rfl 10 (by decide) (hA _ k_fl_M_34) rfl (by decide +kernel) rfl rfl (Nat.le_of_ble_eq_true rfl) d_M_init_68 (fun H locs hX hS => ?_)
  have hX : xX ycl G (eu _ 0 (.inr (10, [.ref (z + 1), .ref (z + 2), .int (J 0), .ref (z + 3), .int (J 0), .ref (z + 4), .ref (z + 5), .ref (z + 6), .ref (z + 7), .ref (z + 8), .ref (z + 9), .null, .null, .int (J 0), .null, .null, .null, .null, .null, .null, .null, .null, .int (J 0), .int (J 0), .int (J 0), .null, .null, .null, .null, .null, .null, .null, .null]))) 0 10 z H := hX
  refine lv_aload_n hx hb d_M_init_71 rfl (lv_at hl 0 rfl) ?_
  refine lv_iconst (v := J (2)) hx hb d_M_init_72 rfl ?_
  refine x_sz hX (by omega) (by omega) (fun hZ => ?_)
  refine x_newa (a0 := (2, .inl (fun _ => J 0))) hx hb (hA _ k_ac_int) (hK.1.2 0 _ rfl).2 hX hS hZ (fun cA => by rw [J0]; rfl) (by decide +kernel) (N' := 2) (by decide +kernel) (by decide) (by show _ ≤ 27; omega) (by show _ ≤ 5116; omega) d_M_init_73 (fun H hX hS => ?_)
  have hX : xX ycl G (eu _ 10 _) 0 11 z H := hX
  refine W.eq (g2 := F0 m 75 ls [.ref (z + 10), .ref (z + 0)]) rfl ?_
  refine x_put (ty := (.array .int)) hx hb hA in_M t_M tk_M nm_M hown hK.1 hX hAr hS 0 (by omega) ((eu_ne (by decide)).trans eu_at) rfl 11 (by decide) (hA _ k_fl_M_37) rfl (by decide +kernel) rfl rfl (Nat.le_of_ble_eq_true rfl) d_M_init_75 (fun H locs hX hS => ?_)
  have hX : xX ycl G (eu _ 0 (.inr (10, [.ref (z + 1), .ref (z + 2), .int (J 0), .ref (z + 3), .int (J 0), .ref (z + 4), .ref (z + 5), .ref (z + 6), .ref (z + 7), .ref (z + 8), .ref (z + 9), .ref (z + 10), .null, .int (J 0), .null, .null, .null, .null, .null, .null, .null, .null, .int (J 0), .int (J 0), .int (J 0), .null, .null, .null, .null, .null, .null, .null, .null]))) 0 11 z H := hX
  refine lv_aload_n hx hb d_M_init_78 rfl (lv_at hl 0 rfl) ?_
  refine lv_bipush (v := J (8)) hx hb d_M_init_79 (by decide) ?_
  refine x_sz hX (by omega) (by omega) (fun hZ => ?_)
  refine x_newa (a0 := (8, .inl (fun _ => J 0))) hx hb (hA _ k_ac_int) (hK.1.2 0 _ rfl).2 hX hS hZ (fun cA => by rw [J0]; rfl) (by decide +kernel) (N' := 8) (by decide +kernel) (by decide) (by show _ ≤ 27; omega) (by show _ ≤ 5116; omega) d_M_init_81 (fun H hX hS => ?_)
  have hX : xX ycl G (eu _ 11 _) 0 12 z H := hX
  refine W.eq (g2 := F0 m 83 ls [.ref (z + 11), .ref (z + 0)]) rfl ?_
  refine x_put (ty := (.array .int)) hx hb hA in_M t_M tk_M nm_M hown hK.1 hX hAr hS 0 (by omega) ((eu_ne (by decide)).trans eu_at) rfl 12 (by decide) (hA _ k_fl_M_40) rfl (by decide +kernel) rfl rfl (Nat.le_of_ble_eq_true rfl) d_M_init_83 (fun H locs hX hS => ?_)
  have hX : xX ycl G (eu _ 0 (.inr (10, [.ref (z + 1), .ref (z + 2), .int (J 0), .ref (z + 3), .int (J 0), .ref (z + 4), .ref (z + 5), .ref (z + 6), .ref (z + 7), .ref (z + 8), .ref (z + 9), .ref (z + 10), .ref (z + 11), .int (J 0), .null, .null, .null, .null, .null, .null, .null, .null, .int (J 0), .int (J 0), .int (J 0), .null, .null, .null, .null, .null, .null, .null, .null]))) 0 12 z H := hX
  refine lv_aload_n hx hb d_M_init_86 rfl (lv_at hl 0 rfl) ?_
  refine lv_iconst (v := J (2)) hx hb d_M_init_87 rfl ?_
  refine x_sz hX (by omega) (by omega) (fun hZ => ?_)
  refine x_newa (a0 := (2, .inl (fun _ => J 0))) hx hb (hA _ k_ac_int) (hK.1.2 0 _ rfl).2 hX hS hZ (fun cA => by rw [J0]; rfl) (by decide +kernel) (N' := 2) (by decide +kernel) (by decide) (by show _ ≤ 27; omega) (by show _ ≤ 5116; omega) d_M_init_88 (fun H hX hS => ?_)
  have hX : xX ycl G (eu _ 12 _) 0 13 z H := hX
  refine W.eq (g2 := F0 m 90 ls [.ref (z + 12), .ref (z + 0)]) rfl ?_
  refine x_put (ty := (.array .int)) hx hb hA in_M t_M tk_M nm_M hown hK.1 hX hAr hS 0 (by omega) ((eu_ne (by decide)).trans eu_at) rfl 14 (by decide) (hA _ k_fl_M_43) rfl (by decide +kernel) rfl rfl (Nat.le_of_ble_eq_true rfl) d_M_init_90 (fun H locs hX hS => ?_)
  have hX : xX ycl G (eu _ 0 (.inr (10, [.ref (z + 1), .ref (z + 2), .int (J 0), .ref (z + 3), .int (J 0), .ref (z + 4), .ref (z + 5), .ref (z + 6), .ref (z + 7), .ref (z + 8), .ref (z + 9), .ref (z + 10), .ref (z + 11), .int (J 0), .ref (z + 12), .null, .null, .null, .null, .null, .null, .null, .int (J 0), .int (J 0), .int (J 0), .null, .null, .null, .null, .null, .null, .null, .null]))) 0 13 z H := hX
  refine lv_aload_n hx hb d_M_init_93 rfl (lv_at hl 0 rfl) ?_
  refine lv_iconst (v := J (2)) hx hb d_M_init_94 rfl ?_
  refine x_sz hX (by omega) (by omega) (fun hZ => ?_)
  refine x_newa (a0 := (2, .inl (fun _ => J 0))) hx hb (hA _ k_ac_int) (hK.1.2 0 _ rfl).2 hX hS hZ (fun cA => by rw [J0]; rfl) (by decide +kernel) (N' := 2) (by decide +kernel) (by decide) (by show _ ≤ 27; omega) (by show _ ≤ 5116; omega) d_M_init_95 (fun H hX hS => ?_)
  have hX : xX ycl G (eu _ 13 _) 0 14 z H := hX
  refine W.eq (g2 := F0 m 97 ls [.ref (z + 13), .ref (z + 0)]) rfl ?_
  refine x_put (ty := (.array .int)) hx hb hA in_M t_M tk_M nm_M hown hK.1 hX hAr hS 0 (by omega) ((eu_ne (by decide)).trans eu_at) rfl 15 (by decide) (hA _ k_fl_M_46) rfl (by decide +kernel) rfl rfl (Nat.le_of_ble_eq_true rfl) d_M_init_97 (fun H locs hX hS => ?_)
  have hX : xX ycl G (eu _ 0 (.inr (10, [.ref (z + 1), .ref (z + 2), .int (J 0), .ref (z + 3), .int (J 0), .ref (z + 4), .ref (z + 5), .ref (z + 6), .ref (z + 7), .ref (z + 8), .ref (z + 9), .ref (z + 10), .ref (z + 11), .int (J 0), .ref (z + 12), .ref (z + 13), .null, .null, .null, .null, .null, .null, .int (J 0), .int (J 0), .int (J 0), .null, .null, .null, .null, .null, .null, .null, .null]))) 0 14 z H := hX
  refine lv_aload_n hx hb d_M_init_100 rfl (lv_at hl 0 rfl) ?_
  refine lv_iconst (v := J (2)) hx hb d_M_init_101 rfl ?_
  refine x_sz hX (by omega) (by omega) (fun hZ => ?_)
  refine x_newa (a0 := (2, .inl (fun _ => J 0))) hx hb (hA _ k_ac_int) (hK.1.2 0 _ rfl).2 hX hS hZ (fun cA => by rw [J0]; rfl) (by decide +kernel) (N' := 2) (by decide +kernel) (by decide) (by show _ ≤ 27; omega) (by show _ ≤ 5116; omega) d_M_init_102 (fun H hX hS => ?_)
  have hX : xX ycl G (eu _ 14 _) 0 15 z H := hX
  refine W.eq (g2 := F0 m 104 ls [.ref (z + 14), .ref (z + 0)]) rfl ?_
  refine x_put (ty := (.array .int)) hx hb hA in_M t_M tk_M nm_M hown hK.1 hX hAr hS 0 (by omega) ((eu_ne (by decide)).trans eu_at) rfl 16 (by decide) (hA _ k_fl_M_49) rfl (by decide +kernel) rfl rfl (Nat.le_of_ble_eq_true rfl) d_M_init_104 (fun H locs hX hS => ?_)
  have hX : xX ycl G (eu _ 0 (.inr (10, [.ref (z + 1), .ref (z + 2), .int (J 0), .ref (z + 3), .int (J 0), .ref (z + 4), .ref (z + 5), .ref (z + 6), .ref (z + 7), .ref (z + 8), .ref (z + 9), .ref (z + 10), .ref (z + 11), .int (J 0), .ref (z + 12), .ref (z + 13), .ref (z + 14), .null, .null, .null, .null, .null, .int (J 0), .int (J 0), .int (J 0), .null, .null, .null, .null, .null, .null, .null, .null]))) 0 15 z H := hX
  refine lv_aload_n hx hb d_M_init_107 rfl (lv_at hl 0 rfl) ?_
  refine lv_iconst (v := J (2)) hx hb d_M_init_108 rfl ?_
  refine x_sz hX (by omega) (by omega) (fun hZ => ?_)
  refine x_newa (a0 := (2, .inl (fun _ => J 0))) hx hb (hA _ k_ac_int) (hK.1.2 0 _ rfl).2 hX hS hZ (fun cA => by rw [J0]; rfl) (by decide +kernel) (N' := 2) (by decide +kernel) (by decide) (by show _ ≤ 27; omega) (by show _ ≤ 5116; omega) d_M_init_109 (fun H hX hS => ?_)
  have hX : xX ycl G (eu _ 15 _) 0 16 z H := hX
  refine W.eq (g2 := F0 m 111 ls [.ref (z + 15), .ref (z + 0)]) rfl ?_
  refine x_put (ty := (.array .int)) hx hb hA in_M t_M tk_M nm_M hown hK.1 hX hAr hS 0 (by omega) ((eu_ne (by decide)).trans eu_at) rfl 17 (by decide) (hA _ k_fl_M_52) rfl (by decide +kernel) rfl rfl (Nat.le_of_ble_eq_true rfl) d_M_init_111 (fun H locs hX hS => ?_)
  have hX : xX ycl G (eu _ 0 (.inr (10, [.ref (z + 1), .ref (z + 2), .int (J 0), .ref (z + 3), .int (J 0), .ref (z + 4), .ref (z + 5), .ref (z + 6), .ref (z + 7), .ref (z + 8), .ref (z + 9), .ref (z + 10), .ref (z + 11), .int (J 0), .ref (z + 12), .ref (z + 13), .ref (z + 14), .ref (z + 15), .null, .null, .null, .null, .int (J 0), .int (J 0), .int (J 0), .null, .null, .null, .null, .null, .null, .null, .null]))) 0 16 z H := hX
  refine lv_aload_n hx hb d_M_init_114 rfl (lv_at hl 0 rfl) ?_
  refine lv_iconst (v := J (2)) hx hb d_M_init_115 rfl ?_
  refine x_sz hX (by omega) (by omega) (fun hZ => ?_)
  refine x_newa (a0 := (2, .inl (fun _ => J 0))) hx hb (hA _ k_ac_int) (hK.1.2 0 _ rfl).2 hX hS hZ (fun cA => by rw [J0]; rfl) (by decide +kernel) (N' := 2) (by decide +kernel) (by decide) (by show _ ≤ 27; omega) (by show _ ≤ 5116; omega) d_M_init_116 (fun H hX hS => ?_)
  have hX : xX ycl G (eu _ 16 _) 0 17 z H := hX
  refine W.eq (g2 := F0 m 118 ls [.ref (z + 16), .ref (z + 0)]) rfl ?_
  refine x_put (ty := (.array .int)) hx hb hA in_M t_M tk_M nm_M hown hK.1 hX hAr hS 0 (by omega) ((eu_ne (by decide)).trans eu_at) rfl 18 (by decide) (hA _ k_fl_M_55) rfl (by decide +kernel) rfl rfl (Nat.le_of_ble_eq_true rfl) d_M_init_118 (fun H locs hX hS => ?_)
  have hX : xX ycl G (eu _ 0 (.inr (10, [.ref (z + 1), .ref (z + 2), .int (J 0), .ref (z + 3), .int (J 0), .ref (z + 4), .ref (z + 5), .ref (z + 6), .ref (z + 7), .ref (z + 8), .ref (z + 9), .ref (z + 10), .ref (z + 11), .int (J 0), .ref (z + 12), .ref (z + 13), .ref (z + 14), .ref (z + 15), .ref (z + 16), .null, .null, .null, .int (J 0), .int (J 0), .int (J 0), .null, .null, .null, .null, .null, .null, .null, .null]))) 0 17 z H := hX
  refine lv_aload_n hx hb d_M_init_121 rfl (lv_at hl 0 rfl) ?_
  refine lv_iconst (v := J (2)) hx hb d_M_init_122 rfl ?_
  refine x_sz hX (by omega) (by omega) (fun hZ => ?_)
  refine x_newa (a0 := (2, .inl (fun _ => J 0))) hx hb (hA _ k_ac_int) (hK.1.2 0 _ rfl).2 hX hS hZ (fun cA => by rw [J0]; rfl) (by decide +kernel) (N' := 2) (by decide +kernel) (by decide) (by show _ ≤ 27; omega) (by show _ ≤ 5116; omega) d_M_init_123 (fun H hX hS => ?_)
  have hX : xX ycl G (eu _ 17 _) 0 18 z H := hX
  refine W.eq (g2 := F0 m 125 ls [.ref (z + 17), .ref (z + 0)]) rfl ?_
  refine x_put (ty := (.array .int)) hx hb hA in_M t_M tk_M nm_M hown hK.1 hX hAr hS 0 (by omega) ((eu_ne (by decide)).trans eu_at) rfl 19 (by decide) (hA _ k_fl_M_58) rfl (by decide +kernel) rfl rfl (Nat.le_of_ble_eq_true rfl) d_M_init_125 (fun H locs hX hS => ?_)
  have hX : xX ycl G (eu _ 0 (.inr (10, [.ref (z + 1), .ref (z + 2), .int (J 0), .ref (z + 3), .int (J 0), .ref (z + 4), .ref (z + 5), .ref (z + 6), .ref (z + 7), .ref (z + 8), .ref (z + 9), .ref (z + 10), .ref (z + 11), .int (J 0), .ref (z + 12), .ref (z + 13), .ref (z + 14), .ref (z + 15), .ref (z + 16), .ref (z + 17), .null, .null, .int (J 0), .int (J 0), .int (J 0), .null, .null, .null, .null, .null, .null, .null, .null]))) 0 18 z H := hX
  refine lv_aload_n hx hb d_M_init_128 rfl (lv_at hl 0 rfl) ?_
  refine lv_iconst (v := J (2)) hx hb d_M_init_129 rfl ?_
  refine x_sz hX (by omega) (by omega) (fun hZ => ?_)
  refine x_newa (a0 := (2, .inl (fun _ => J 0))) hx hb (hA _ k_ac_int) (hK.1.2 0 _ rfl).2 hX hS hZ (fun cA => by rw [J0]; rfl) (by decide +kernel) (N' := 2) (by decide +kernel) (by decide) (by show _ ≤ 27; omega) (by show _ ≤ 5116; omega) d_M_init_130 (fun H hX hS => ?_)
  have hX : xX ycl G (eu _ 18 _) 0 19 z H := hX
  refine W.eq (g2 := F0 m 132 ls [.ref (z + 18), .ref (z + 0)]) rfl ?_
  refine x_put (ty := (.array .int)) hx hb hA in_M t_M tk_M nm_M hown hK.1 hX hAr hS 0 (by omega) ((eu_ne (by decide)).trans eu_at) rfl 20 (by decide) (hA _ k_fl_M_61) rfl (by decide +kernel) rfl rfl (Nat.le_of_ble_eq_true rfl) d_M_init_132 (fun H locs hX hS => ?_)
  have hX : xX ycl G (eu _ 0 (.inr (10, [.ref (z + 1), .ref (z + 2), .int (J 0), .ref (z + 3), .int (J 0), .ref (z + 4), .ref (z + 5), .ref (z + 6), .ref (z + 7), .ref (z + 8), .ref (z + 9), .ref (z + 10), .ref (z + 11), .int (J 0), .ref (z + 12), .ref (z + 13), .ref (z + 14), .ref (z + 15), .ref (z + 16), .ref (z + 17), .ref (z + 18), .null, .int (J 0), .int (J 0), .int (J 0), .null, .null, .null, .null, .null, .null, .null, .null]))) 0 19 z H := hX
  refine lv_aload_n hx hb d_M_init_135 rfl (lv_at hl 0 rfl) ?_
  refine lv_iconst (v := J (2)) hx hb d_M_init_136 rfl ?_
  refine x_sz hX (by omega) (by omega) (fun hZ => ?_)
  refine x_newa (a0 := (2, .inl (fun _ => J 0))) hx hb (hA _ k_ac_int) (hK.1.2 0 _ rfl).2 hX hS hZ (fun cA => by rw [J0]; rfl) (by decide +kernel) (N' := 2) (by decide +kernel) (by decide) (by show _ ≤ 27; omega) (by show _ ≤ 5116; omega) d_M_init_137 (fun H hX hS => ?_)
  have hX : xX ycl G (eu _ 19 _) 0 20 z H := hX
  refine W.eq (g2 := F0 m 139 ls [.ref (z + 19), .ref (z + 0)]) rfl ?_
  refine x_put (ty := (.array .int)) hx hb hA in_M t_M tk_M nm_M hown hK.1 hX hAr hS 0 (by omega) ((eu_ne (by decide)).trans eu_at) rfl 21 (by decide) (hA _ k_fl_M_64) rfl (by decide +kernel) rfl rfl (Nat.le_of_ble_eq_true rfl) d_M_init_139 (fun H locs hX hS => ?_)
  have hX : xX ycl G (eu _ 0 (.inr (10, [.ref (z + 1), .ref (z + 2), .int (J 0), .ref (z + 3), .int (J 0), .ref (z + 4), .ref (z + 5), .ref (z + 6), .ref (z + 7), .ref (z + 8), .ref (z + 9), .ref (z + 10), .ref (z + 11), .int (J 0), .ref (z + 12), .ref (z + 13), .ref (z + 14), .ref (z + 15), .ref (z + 16), .ref (z + 17), .ref (z + 18), .ref (z + 19), .int (J 0), .int (J 0), .int (J 0), .null, .null, .null, .null, .null, .null, .null, .null]))) 0 20 z H := hX
  refine lv_aload_n hx hb d_M_init_142 rfl (lv_at hl 0 rfl) ?_
  refine lv_bipush (v := J (12)) hx hb d_M_init_143 (by decide) ?_
  refine x_sz hX (by omega) (by omega) (fun hZ => ?_)
  refine x_newa (a0 := (12, .inl (fun _ => J 0))) hx hb (hA _ k_ac_int) (hK.1.2 0 _ rfl).2 hX hS hZ (fun cA => by rw [J0]; rfl) (by decide +kernel) (N' := 12) (by decide +kernel) (by decide) (by show _ ≤ 27; omega) (by show _ ≤ 5116; omega) d_M_init_145 (fun H hX hS => ?_)
  have hX : xX ycl G (eu _ 20 _) 0 21 z H := hX
  refine W.eq (g2 := F0 m 147 ls [.ref (z + 20), .ref (z + 0)]) rfl ?_
  refine x_put (ty := (.array .int)) hx hb hA in_M t_M tk_M nm_M hown hK.1 hX hAr hS 0 (by omega) ((eu_ne (by decide)).trans eu_at) rfl 25 (by decide) (hA _ k_fl_M_67) rfl (by decide +kernel) rfl rfl (Nat.le_of_ble_eq_true rfl) d_M_init_147 (fun H locs hX hS => ?_)
  have hX : xX ycl G (eu _ 0 (.inr (10, [.ref (z + 1), .ref (z + 2), .int (J 0), .ref (z + 3), .int (J 0), .ref (z + 4), .ref (z + 5), .ref (z + 6), .ref (z + 7), .ref (z + 8), .ref (z + 9), .ref (z + 10), .ref (z + 11), .int (J 0), .ref (z + 12), .ref (z + 13), .ref (z + 14), .ref (z + 15), .ref (z + 16), .ref (z + 17), .ref (z + 18), .ref (z + 19), .int (J 0), .int (J 0), .int (J 0), .ref (z + 20), .null, .null, .null, .null, .null, .null, .null]))) 0 21 z H := hX
  refine lv_aload_n hx hb d_M_init_150 rfl (lv_at hl 0 rfl) ?_
  refine lv_bipush (v := J (12)) hx hb d_M_init_151 (by decide) ?_
  refine x_sz hX (by omega) (by omega) (fun hZ => ?_)
  refine x_newa (a0 := (12, .inl (fun _ => J 0))) hx hb (hA _ k_ac_int) (hK.1.2 0 _ rfl).2 hX hS hZ (fun cA => by rw [J0]; rfl) (by decide +kernel) (N' := 12) (by decide +kernel) (by decide) (by show _ ≤ 27; omega) (by show _ ≤ 5116; omega) d_M_init_153 (fun H hX hS => ?_)
  have hX : xX ycl G (eu _ 21 _) 0 22 z H := hX
  refine W.eq (g2 := F0 m 155 ls [.ref (z + 21), .ref (z + 0)]) rfl ?_
  refine x_put (ty := (.array .int)) hx hb hA in_M t_M tk_M nm_M hown hK.1 hX hAr hS 0 (by omega) ((eu_ne (by decide)).trans eu_at) rfl 26 (by decide) (hA _ k_fl_M_70) rfl (by decide +kernel) rfl rfl (Nat.le_of_ble_eq_true rfl) d_M_init_155 (fun H locs hX hS => ?_)
  have hX : xX ycl G (eu _ 0 (.inr (10, [.ref (z + 1), .ref (z + 2), .int (J 0), .ref (z + 3), .int (J 0), .ref (z + 4), .ref (z + 5), .ref (z + 6), .ref (z + 7), .ref (z + 8), .ref (z + 9), .ref (z + 10), .ref (z + 11), .int (J 0), .ref (z + 12), .ref (z + 13), .ref (z + 14), .ref (z + 15), .ref (z + 16), .ref (z + 17), .ref (z + 18), .ref (z + 19), .int (J 0), .int (J 0), .int (J 0), .ref (z + 20), .ref (z + 21), .null, .null, .null, .null, .null, .null]))) 0 22 z H := hX
  refine lv_aload_n hx hb d_M_init_158 rfl (lv_at hl 0 rfl) ?_
  refine lv_bipush (v := J (24)) hx hb d_M_init_159 (by decide) ?_
  refine x_sz hX (by omega) (by omega) (fun hZ => ?_)
  refine x_newa (a0 := (24, .inl (fun _ => J 0))) hx hb (hA _ k_ac_int) (hK.1.2 0 _ rfl).2 hX hS hZ (fun cA => by rw [J0]; rfl) (by decide +kernel) (N' := 24) (by decide +kernel) (by decide) (by show _ ≤ 27; omega) (by show _ ≤ 5116; omega) d_M_init_161 (fun H hX hS => ?_)
  have hX : xX ycl G (eu _ 22 _) 0 23 z H := hX
  refine W.eq (g2 := F0 m 163 ls [.ref (z + 22), .ref (z + 0)]) rfl ?_
  refine x_put (ty := (.array .int)) hx hb hA in_M t_M tk_M nm_M hown hK.1 hX hAr hS 0 (by omega) ((eu_ne (by decide)).trans eu_at) rfl 27 (by decide) (hA _ k_fl_M_73) rfl (by decide +kernel) rfl rfl (Nat.le_of_ble_eq_true rfl) d_M_init_163 (fun H locs hX hS => ?_)
  have hX : xX ycl G (eu _ 0 (.inr (10, [.ref (z + 1), .ref (z + 2), .int (J 0), .ref (z + 3), .int (J 0), .ref (z + 4), .ref (z + 5), .ref (z + 6), .ref (z + 7), .ref (z + 8), .ref (z + 9), .ref (z + 10), .ref (z + 11), .int (J 0), .ref (z + 12), .ref (z + 13), .ref (z + 14), .ref (z + 15), .ref (z + 16), .ref (z + 17), .ref (z + 18), .ref (z + 19), .int (J 0), .int (J 0), .int (J 0), .ref (z + 20), .ref (z + 21), .ref (z + 22), .null, .null, .null, .null, .null]))) 0 23 z H := hX
  refine lv_aload_n hx hb d_M_init_166 rfl (lv_at hl 0 rfl) ?_
  refine lv_bipush (v := J (16)) hx hb d_M_init_167 (by decide) ?_
  refine x_sz hX (by omega) (by omega) (fun hZ => ?_)
  refine x_newa (a0 := (16, .inl (fun _ => J 0))) hx hb (hA _ k_ac_int) (hK.1.2 0 _ rfl).2 hX hS hZ (fun cA => by rw [J0]; rfl) (by decide +kernel) (N' := 16) (by decide +kernel) (by decide) (by show _ ≤ 27; omega) (by show _ ≤ 5116; omega) d_M_init_169 (fun H hX hS => ?_)
  have hX : xX ycl G (eu _ 23 _) 0 24 z H := hX
  refine W.eq (g2 := F0 m 171 ls [.ref (z + 23), .ref (z + 0)]) rfl ?_
  refine x_put (ty := (.array .int)) hx hb hA in_M t_M tk_M nm_M hown hK.1 hX hAr hS 0 (by omega) ((eu_ne (by decide)).trans eu_at) rfl 28 (by decide) (hA _ k_fl_M_76) rfl (by decide +kernel) rfl rfl (Nat.le_of_ble_eq_true rfl) d_M_init_171 (fun H locs hX hS => ?_)
  have hX : xX ycl G (eu _ 0 (.inr (10, [.ref (z + 1), .ref (z + 2), .int (J 0), .ref (z + 3), .int (J 0), .ref (z + 4), .ref (z + 5), .ref (z + 6), .ref (z + 7), .ref (z + 8), .ref (z + 9), .ref (z + 10), .ref (z + 11), .int (J 0), .ref (z + 12), .ref (z + 13), .ref (z + 14), .ref (z + 15), .ref (z + 16), .ref (z + 17), .ref (z + 18), .ref (z + 19), .int (J 0), .int (J 0), .int (J 0), .ref (z + 20), .ref (z + 21), .ref (z + 22), .ref (z + 23), .null, .null, .null, .null]))) 0 24 z H := hX
  refine lv_aload_n hx hb d_M_init_174 rfl (lv_at hl 0 rfl) ?_
  refine lv_bipush (v := J (16)) hx hb d_M_init_175 (by decide) ?_
  refine x_sz hX (by omega) (by omega) (fun hZ => ?_)
  refine x_newa (a0 := (16, .inl (fun _ => J 0))) hx hb (hA _ k_ac_int) (hK.1.2 0 _ rfl).2 hX hS hZ (fun cA => by rw [J0]; rfl) (by decide +kernel) (N' := 16) (by decide +kernel) (by decide) (by show _ ≤ 27; omega) (by show _ ≤ 5116; omega) d_M_init_177 (fun H hX hS => ?_)
  have hX : xX ycl G (eu _ 24 _) 0 25 z H := hX
  refine W.eq (g2 := F0 m 179 ls [.ref (z + 24), .ref (z + 0)]) rfl ?_
  refine x_put (ty := (.array .int)) hx hb hA in_M t_M tk_M nm_M hown hK.1 hX hAr hS 0 (by omega) ((eu_ne (by decide)).trans eu_at) rfl 29 (by decide) (hA _ k_fl_M_79) rfl (by decide +kernel) rfl rfl (Nat.le_of_ble_eq_true rfl) d_M_init_179 (fun H locs hX hS => ?_)
  have hX : xX ycl G (eu _ 0 (.inr (10, [.ref (z + 1), .ref (z + 2), .int (J 0), .ref (z + 3), .int (J 0), .ref (z + 4), .ref (z + 5), .ref (z + 6), .ref (z + 7), .ref (z + 8), .ref (z + 9), .ref (z + 10), .ref (z + 11), .int (J 0), .ref (z + 12), .ref (z + 13), .ref (z + 14), .ref (z + 15), .ref (z + 16), .ref (z + 17), .ref (z + 18), .ref (z + 19), .int (J 0), .int (J 0), .int (J 0), .ref (z + 20), .ref (z + 21), .ref (z + 22), .ref (z + 23), .ref (z + 24), .null, .null, .null]))) 0 25 z H := hX
  refine lv_aload_n hx hb d_M_init_182 rfl (lv_at hl 0 rfl) ?_
  refine lv_bipush (v := J (16)) hx hb d_M_init_183 (by decide) ?_
  refine x_sz hX (by omega) (by omega) (fun hZ => ?_)
  refine x_newa (a0 := (16, .inl (fun _ => J 0))) hx hb (hA _ k_ac_int) (hK.1.2 0 _ rfl).2 hX hS hZ (fun cA => by rw [J0]; rfl) (by decide +kernel) (N' := 16) (by decide +kernel) (by decide) (by show _ ≤ 27; omega) (by show _ ≤ 5116; omega) d_M_init_185 (fun H hX hS => ?_)
  have hX : xX ycl G (eu _ 25 _) 0 26 z H := hX
  refine W.eq (g2 := F0 m 187 ls [.ref (z + 25), .ref (z + 0)]) rfl ?_
  refine x_put (ty := (.array .int)) hx hb hA in_M t_M tk_M nm_M hown hK.1 hX hAr hS 0 (by omega) ((eu_ne (by decide)).trans eu_at) rfl 30 (by decide) (hA _ k_fl_M_82) rfl (by decide +kernel) rfl rfl (Nat.le_of_ble_eq_true rfl) d_M_init_187 (fun H locs hX hS => ?_)
  have hX : xX ycl G (eu _ 0 (.inr (10, [.ref (z + 1), .ref (z + 2), .int (J 0), .ref (z + 3), .int (J 0), .ref (z + 4), .ref (z + 5), .ref (z + 6), .ref (z + 7), .ref (z + 8), .ref (z + 9), .ref (z + 10), .ref (z + 11), .int (J 0), .ref (z + 12), .ref (z + 13), .ref (z + 14), .ref (z + 15), .ref (z + 16), .ref (z + 17), .ref (z + 18), .ref (z + 19), .int (J 0), .int (J 0), .int (J 0), .ref (z + 20), .ref (z + 21), .ref (z + 22), .ref (z + 23), .ref (z + 24), .ref (z + 25), .null, .null]))) 0 26 z H := hX
  refine lv_aload_n hx hb d_M_init_190 rfl (lv_at hl 0 rfl) ?_
  refine lv_bipush (v := J (16)) hx hb d_M_init_191 (by decide) ?_
  refine x_sz hX (by omega) (by omega) (fun hZ => ?_)
  refine x_newa (a0 := (16, .inl (fun _ => J 0))) hx hb (hA _ k_ac_int) (hK.1.2 0 _ rfl).2 hX hS hZ (fun cA => by rw [J0]; rfl) (by decide +kernel) (N' := 16) (by decide +kernel) (by decide) (by show _ ≤ 27; omega) (by show _ ≤ 5116; omega) d_M_init_193 (fun H hX hS => ?_)
  have hX : xX ycl G (eu _ 26 _) 0 27 z H := hX
  refine W.eq (g2 := F0 m 195 ls [.ref (z + 26), .ref (z + 0)]) rfl ?_
  refine x_put (ty := (.array .int)) hx hb hA in_M t_M tk_M nm_M hown hK.1 hX hAr hS 0 (by omega) ((eu_ne (by decide)).trans eu_at) rfl 31 (by decide) (hA _ k_fl_M_85) rfl (by decide +kernel) rfl rfl (Nat.le_of_ble_eq_true rfl) d_M_init_195 (fun H locs hX hS => ?_)
  have hX : xX ycl G (eu _ 0 (.inr (10, [.ref (z + 1), .ref (z + 2), .int (J 0), .ref (z + 3), .int (J 0), .ref (z + 4), .ref (z + 5), .ref (z + 6), .ref (z + 7), .ref (z + 8), .ref (z + 9), .ref (z + 10), .ref (z + 11), .int (J 0), .ref (z + 12), .ref (z + 13), .ref (z + 14), .ref (z + 15), .ref (z + 16), .ref (z + 17), .ref (z + 18), .ref (z + 19), .int (J 0), .int (J 0), .int (J 0), .ref (z + 20), .ref (z + 21), .ref (z + 22), .ref (z + 23), .ref (z + 24), .ref (z + 25), .ref (z + 26), .null]))) 0 27 z H := hX
  refine lv_aload_n hx hb d_M_init_198 rfl (lv_at hl 0 rfl) ?_
  refine lv_bipush (v := J (16)) hx hb d_M_init_199 (by decide) ?_
  refine x_sz hX (by omega) (by omega) (fun hZ => ?_)
  refine x_newa (a0 := (16, .inl (fun _ => J 0))) hx hb (hA _ k_ac_int) (hK.1.2 0 _ rfl).2 hX hS hZ (fun cA => by rw [J0]; rfl) (by decide +kernel) (N' := 16) (by decide +kernel) (by decide) (by show _ ≤ 27; omega) (by show _ ≤ 5116; omega) d_M_init_201 (fun H hX hS => ?_)
  have hX : xX ycl G (eu _ 27 _) 0 28 z H := hX
  refine W.eq (g2 := F0 m 203 ls [.ref (z + 27), .ref (z + 0)]) rfl ?_
  refine x_put (ty := (.array .int)) hx hb hA in_M t_M tk_M nm_M hown hK.1 hX hAr hS 0 (by omega) ((eu_ne (by decide)).trans eu_at) rfl 32 (by decide) (hA _ k_fl_M_88) rfl (by decide +kernel) rfl rfl (Nat.le_of_ble_eq_true rfl) d_M_init_203 (fun H locs hX hS => ?_)
  have hX : xX ycl G (eu _ 0 (.inr (10, [.ref (z + 1), .ref (z + 2), .int (J 0), .ref (z + 3), .int (J 0), .ref (z + 4), .ref (z + 5), .ref (z + 6), .ref (z + 7), .ref (z + 8), .ref (z + 9), .ref (z + 10), .ref (z + 11), .int (J 0), .ref (z + 12), .ref (z + 13), .ref (z + 14), .ref (z + 15), .ref (z + 16), .ref (z + 17), .ref (z + 18), .ref (z + 19), .int (J 0), .int (J 0), .int (J 0), .ref (z + 20), .ref (z + 21), .ref (z + 22), .ref (z + 23), .ref (z + 24), .ref (z + 25), .ref (z + 26), .ref (z + 27)]))) 0 28 z H := hX
  have hW : yW ycl G yLM 0 28 z (fun _ _ => 0) H := xX_y hX (by omega) (by omega) (fun c hc => by
    by_cases h0 : c = 0
    · subst h0; exact eu_at.trans (by rw [yC_inl laym_0]; exact congrArg (fun q => (.inr (10, q) : va_E)) (yfs_M0 z).symm)
    by_cases h1 : c = 1
    · subst h1; exact ((eu_ne (by decide)).trans ((eu_ne (by decide)).trans ((eu_ne (by decide)).trans ((eu_ne (by decide)).trans ((eu_ne (by decide)).trans ((eu_ne (by decide)).trans ((eu_ne (by decide)).trans ((eu_ne (by decide)).trans ((eu_ne (by decide)).trans ((eu_ne (by decide)).trans ((eu_ne (by decide)).trans ((eu_ne (by decide)).trans ((eu_ne (by decide)).trans ((eu_ne (by decide)).trans ((eu_ne (by decide)).trans ((eu_ne (by decide)).trans ((eu_ne (by decide)).trans ((eu_ne (by decide)).trans ((eu_ne (by decide)).trans ((eu_ne (by decide)).trans ((eu_ne (by decide)).trans ((eu_ne (by decide)).trans ((eu_ne (by decide)).trans ((eu_ne (by decide)).trans ((eu_ne (by decide)).trans ((eu_ne (by decide)).trans ((eu_ne (by decide)).trans ((eu_ne (by decide)).trans ((eu_ne (by decide)).trans ((eu_ne (by decide)).trans ((eu_ne (by decide)).trans ((eu_ne (by decide)).trans ((eu_ne (by decide)).trans ((eu_ne (by decide)).trans ((eu_ne (by decide)).trans ((eu_ne (by decide)).trans ((eu_ne (by decide)).trans ((eu_ne (by decide)).trans ((eu_ne (by decide)).trans ((eu_ne (by decide)).trans ((eu_ne (by decide)).trans ((eu_ne (by decide)).trans ((eu_ne (by decide)).trans ((eu_ne (by decide)).trans ((eu_ne (by decide)).trans ((eu_ne (by decide)).trans ((eu_ne (by decide)).trans ((eu_ne (by decide)).trans ((eu_ne (by decide)).trans ((eu_ne (by decide)).trans ((eu_ne (by decide)).trans ((eu_ne (by decide)).trans ((eu_ne (by decide)).trans eu_at))))))))))))))))))))))))))))))))))))))))))))))))))))).trans (by unfold yC; rw [laym_1]; try rfl)
    by_cases h2 : c = 2
    · subst h2; exact ((eu_ne (by decide)).trans ((eu_ne (by decide)).trans ((eu_ne (by decide)).trans ((eu_ne (by decide)).trans ((eu_ne (by decide)).trans ((eu_ne (by decide)).trans ((eu_ne (by decide)).trans ((eu_ne (by decide)).trans ((eu_ne (by decide)).trans ((eu_ne (by decide)).trans ((eu_ne (by decide)).trans ((eu_ne (by decide)).trans ((eu_ne (by decide)).trans ((eu_ne (by decide)).trans ((eu_ne (by decide)).trans ((eu_ne (by decide)).trans ((eu_ne (by decide)).trans ((eu_ne (by decide)).trans ((eu_ne (by decide)).trans ((eu_ne (by decide)).trans ((eu_ne (by decide)).trans ((eu_ne (by decide)).trans ((eu_ne (by decide)).trans ((eu_ne (by decide)).trans ((eu_ne (by decide)).trans ((eu_ne (by decide)).trans ((eu_ne (by decide)).trans ((eu_ne (by decide)).trans ((eu_ne (by decide)).trans ((eu_ne (by decide)).trans ((eu_ne (by decide)).trans ((eu_ne (by decide)).trans ((eu_ne (by decide)).trans ((eu_ne (by decide)).trans ((eu_ne (by decide)).trans ((eu_ne (by decide)).trans ((eu_ne (by decide)).trans ((eu_ne (by decide)).trans ((eu_ne (by decide)).trans ((eu_ne (by decide)).trans ((eu_ne (by decide)).trans ((eu_ne (by decide)).trans ((eu_ne (by decide)).trans ((eu_ne (by decide)).trans ((eu_ne (by decide)).trans ((eu_ne (by decide)).trans ((eu_ne (by decide)).trans ((eu_ne (by decide)).trans ((eu_ne (by decide)).trans ((eu_ne (by decide)).trans ((eu_ne (by decide)).trans eu_at))))))))))))))))))))))))))))))))))))))))))))))))))).trans (by unfold yC; rw [laym_2]; try rfl)
    by_cases h3 : c = 3
    · subst h3; exact ((eu_ne (by decide)).trans ((eu_ne (by decide)).trans ((eu_ne (by decide)).trans ((eu_ne (by decide)).trans ((eu_ne (by decide)).trans ((eu_ne (by decide)).trans ((eu_ne (by decide)).trans ((eu_ne (by decide)).trans ((eu_ne (by decide)).trans ((eu_ne (by decide)).trans ((eu_ne (by decide)).trans ((eu_ne (by decide)).trans ((eu_ne (by decide)).trans ((eu_ne (by decide)).trans ((eu_ne (by decide)).trans ((eu_ne (by decide)).trans ((eu_ne (by decide)).trans ((eu_ne (by decide)).trans ((eu_ne (by decide)).trans ((eu_ne (by decide)).trans ((eu_ne (by decide)).trans ((eu_ne (by decide)).trans ((eu_ne (by decide)).trans ((eu_ne (by decide)).trans ((eu_ne (by decide)).trans ((eu_ne (by decide)).trans ((eu_ne (by decide)).trans ((eu_ne (by decide)).trans ((eu_ne (by decide)).trans ((eu_ne (by decide)).trans ((eu_ne (by decide)).trans ((eu_ne (by decide)).trans ((eu_ne (by decide)).trans ((eu_ne (by decide)).trans ((eu_ne (by decide)).trans ((eu_ne (by decide)).trans ((eu_ne (by decide)).trans ((eu_ne (by decide)).trans ((eu_ne (by decide)).trans ((eu_ne (by decide)).trans ((eu_ne (by decide)).trans ((eu_ne (by decide)).trans ((eu_ne (by decide)).trans ((eu_ne (by decide)).trans ((eu_ne (by decide)).trans ((eu_ne (by decide)).trans ((eu_ne (by decide)).trans ((eu_ne (by decide)).trans ((eu_ne (by decide)).trans eu_at))))))))))))))))))))))))))))))))))))))))))))))))).trans (by unfold yC; rw [laym_3]; try rfl)
    by_cases h4 : c = 4
    · subst h4; exact ((eu_ne (by decide)).trans ((eu_ne (by decide)).trans ((eu_ne (by decide)).trans ((eu_ne (by decide)).trans ((eu_ne (by decide)).trans ((eu_ne (by decide)).trans ((eu_ne (by decide)).trans ((eu_ne (by decide)).trans ((eu_ne (by decide)).trans ((eu_ne (by decide)).trans ((eu_ne (by decide)).trans ((eu_ne (by decide)).trans ((eu_ne (by decide)).trans ((eu_ne (by decide)).trans ((eu_ne (by decide)).trans ((eu_ne (by decide)).trans ((eu_ne (by decide)).trans ((eu_ne (by decide)).trans ((eu_ne (by decide)).trans ((eu_ne (by decide)).trans ((eu_ne (by decide)).trans ((eu_ne (by decide)).trans ((eu_ne (by decide)).trans ((eu_ne (by decide)).trans ((eu_ne (by decide)).trans ((eu_ne (by decide)).trans ((eu_ne (by decide)).trans ((eu_ne (by decide)).trans ((eu_ne (by decide)).trans ((eu_ne (by decide)).trans ((eu_ne (by decide)).trans ((eu_ne (by decide)).trans ((eu_ne (by decide)).trans ((eu_ne (by decide)).trans ((eu_ne (by decide)).trans ((eu_ne (by decide)).trans ((eu_ne (by decide)).trans ((eu_ne (by decide)).trans ((eu_ne (by decide)).trans ((eu_ne (by decide)).trans ((eu_ne (by decide)).trans ((eu_ne (by decide)).trans ((eu_ne (by decide)).trans ((eu_ne (by decide)).trans ((eu_ne (by decide)).trans ((eu_ne (by decide)).trans ((eu_ne (by decide)).trans eu_at))))))))))))))))))))))))))))))))))))))))))))))).trans (by unfold yC; rw [laym_4]; try rfl)
    by_cases h5 : c = 5
    · subst h5; exact ((eu_ne (by decide)).trans ((eu_ne (by decide)).trans ((eu_ne (by decide)).trans ((eu_ne (by decide)).trans ((eu_ne (by decide)).trans ((eu_ne (by decide)).trans ((eu_ne (by decide)).trans ((eu_ne (by decide)).trans ((eu_ne (by decide)).trans ((eu_ne (by decide)).trans ((eu_ne (by decide)).trans ((eu_ne (by decide)).trans ((eu_ne (by decide)).trans ((eu_ne (by decide)).trans ((eu_ne (by decide)).trans ((eu_ne (by decide)).trans ((eu_ne (by decide)).trans ((eu_ne (by decide)).trans ((eu_ne (by decide)).trans ((eu_ne (by decide)).trans ((eu_ne (by decide)).trans ((eu_ne (by decide)).trans ((eu_ne (by decide)).trans ((eu_ne (by decide)).trans ((eu_ne (by decide)).trans ((eu_ne (by decide)).trans ((eu_ne (by decide)).trans ((eu_ne (by decide)).trans ((eu_ne (by decide)).trans ((eu_ne (by decide)).trans ((eu_ne (by decide)).trans ((eu_ne (by decide)).trans ((eu_ne (by decide)).trans ((eu_ne (by decide)).trans ((eu_ne (by decide)).trans ((eu_ne (by decide)).trans ((eu_ne (by decide)).trans ((eu_ne (by decide)).trans ((eu_ne (by decide)).trans ((eu_ne (by decide)).trans ((eu_ne (by decide)).trans ((eu_ne (by decide)).trans ((eu_ne (by decide)).trans ((eu_ne (by decide)).trans ((eu_ne (by decide)).trans eu_at))))))))))))))))))))))))))))))))))))))))))))).trans (by unfold yC; rw [laym_5]; try rfl)
    by_cases h6 : c = 6
    · subst h6; exact ((eu_ne (by decide)).trans ((eu_ne (by decide)).trans ((eu_ne (by decide)).trans ((eu_ne (by decide)).trans ((eu_ne (by decide)).trans ((eu_ne (by decide)).trans ((eu_ne (by decide)).trans ((eu_ne (by decide)).trans ((eu_ne (by decide)).trans ((eu_ne (by decide)).trans ((eu_ne (by decide)).trans ((eu_ne (by decide)).trans ((eu_ne (by decide)).trans ((eu_ne (by decide)).trans ((eu_ne (by decide)).trans ((eu_ne (by decide)).trans ((eu_ne (by decide)).trans ((eu_ne (by decide)).trans ((eu_ne (by decide)).trans ((eu_ne (by decide)).trans ((eu_ne (by decide)).trans ((eu_ne (by decide)).trans ((eu_ne (by decide)).trans ((eu_ne (by decide)).trans ((eu_ne (by decide)).trans ((eu_ne (by decide)).trans ((eu_ne (by decide)).trans ((eu_ne (by decide)).trans ((eu_ne (by decide)).trans ((eu_ne (by decide)).trans ((eu_ne (by decide)).trans ((eu_ne (by decide)).trans ((eu_ne (by decide)).trans ((eu_ne (by decide)).trans ((eu_ne (by decide)).trans ((eu_ne (by decide)).trans ((eu_ne (by decide)).trans ((eu_ne (by decide)).trans ((eu_ne (by decide)).trans ((eu_ne (by decide)).trans ((eu_ne (by decide)).trans ((eu_ne (by decide)).trans ((eu_ne (by decide)).trans eu_at))))))))))))))))))))))))))))))))))))))))))).trans (by unfold yC; rw [laym_6]; try rfl)
    by_cases h7 : c = 7
    · subst h7; exact ((eu_ne (by decide)).trans ((eu_ne (by decide)).trans ((eu_ne (by decide)).trans ((eu_ne (by decide)).trans ((eu_ne (by decide)).trans ((eu_ne (by decide)).trans ((eu_ne (by decide)).trans ((eu_ne (by decide)).trans ((eu_ne (by decide)).trans ((eu_ne (by decide)).trans ((eu_ne (by decide)).trans ((eu_ne (by decide)).trans ((eu_ne (by decide)).trans ((eu_ne (by decide)).trans ((eu_ne (by decide)).trans ((eu_ne (by decide)).trans ((eu_ne (by decide)).trans ((eu_ne (by decide)).trans ((eu_ne (by decide)).trans ((eu_ne (by decide)).trans ((eu_ne (by decide)).trans ((eu_ne (by decide)).trans ((eu_ne (by decide)).trans ((eu_ne (by decide)).trans ((eu_ne (by decide)).trans ((eu_ne (by decide)).trans ((eu_ne (by decide)).trans ((eu_ne (by decide)).trans ((eu_ne (by decide)).trans ((eu_ne (by decide)).trans ((eu_ne (by decide)).trans ((eu_ne (by decide)).trans ((eu_ne (by decide)).trans ((eu_ne (by decide)).trans ((eu_ne (by decide)).trans ((eu_ne (by decide)).trans ((eu_ne (by decide)).trans ((eu_ne (by decide)).trans ((eu_ne (by decide)).trans ((eu_ne (by decide)).trans ((eu_ne (by decide)).trans eu_at))))))))))))))))))))))))))))))))))))))))).trans (by unfold yC; rw [laym_7]; try rfl)
    by_cases h8 : c = 8
    · subst h8; exact ((eu_ne (by decide)).trans ((eu_ne (by decide)).trans ((eu_ne (by decide)).trans ((eu_ne (by decide)).trans ((eu_ne (by decide)).trans ((eu_ne (by decide)).trans ((eu_ne (by decide)).trans ((eu_ne (by decide)).trans ((eu_ne (by decide)).trans ((eu_ne (by decide)).trans ((eu_ne (by decide)).trans ((eu_ne (by decide)).trans ((eu_ne (by decide)).trans ((eu_ne (by decide)).trans ((eu_ne (by decide)).trans ((eu_ne (by decide)).trans ((eu_ne (by decide)).trans ((eu_ne (by decide)).trans ((eu_ne (by decide)).trans ((eu_ne (by decide)).trans ((eu_ne (by decide)).trans ((eu_ne (by decide)).trans ((eu_ne (by decide)).trans ((eu_ne (by decide)).trans ((eu_ne (by decide)).trans ((eu_ne (by decide)).trans ((eu_ne (by decide)).trans ((eu_ne (by decide)).trans ((eu_ne (by decide)).trans ((eu_ne (by decide)).trans ((eu_ne (by decide)).trans ((eu_ne (by decide)).trans ((eu_ne (by decide)).trans ((eu_ne (by decide)).trans ((eu_ne (by decide)).trans ((eu_ne (by decide)).trans ((eu_ne (by decide)).trans ((eu_ne (by decide)).trans ((eu_ne (by decide)).trans eu_at))))))))))))))))))))))))))))))))))))))).trans (by unfold yC; rw [laym_8]; try rfl)
    by_cases h9 : c = 9
    · subst h9; exact ((eu_ne (by decide)).trans ((eu_ne (by decide)).trans ((eu_ne (by decide)).trans ((eu_ne (by decide)).trans ((eu_ne (by decide)).trans ((eu_ne (by decide)).trans ((eu_ne (by decide)).trans ((eu_ne (by decide)).trans ((eu_ne (by decide)).trans ((eu_ne (by decide)).trans ((eu_ne (by decide)).trans ((eu_ne (by decide)).trans ((eu_ne (by decide)).trans ((eu_ne (by decide)).trans ((eu_ne (by decide)).trans ((eu_ne (by decide)).trans ((eu_ne (by decide)).trans ((eu_ne (by decide)).trans ((eu_ne (by decide)).trans ((eu_ne (by decide)).trans ((eu_ne (by decide)).trans ((eu_ne (by decide)).trans ((eu_ne (by decide)).trans ((eu_ne (by decide)).trans ((eu_ne (by decide)).trans ((eu_ne (by decide)).trans ((eu_ne (by decide)).trans ((eu_ne (by decide)).trans ((eu_ne (by decide)).trans ((eu_ne (by decide)).trans ((eu_ne (by decide)).trans ((eu_ne (by decide)).trans ((eu_ne (by decide)).trans ((eu_ne (by decide)).trans ((eu_ne (by decide)).trans ((eu_ne (by decide)).trans ((eu_ne (by decide)).trans eu_at))))))))))))))))))))))))))))))))))))).trans (by unfold yC; rw [laym_9]; try rfl)
    by_cases h10 : c = 10
    · subst h10; exact ((eu_ne (by decide)).trans ((eu_ne (by decide)).trans ((eu_ne (by decide)).trans ((eu_ne (by decide)).trans ((eu_ne (by decide)).trans ((eu_ne (by decide)).trans ((eu_ne (by decide)).trans ((eu_ne (by decide)).trans ((eu_ne (by decide)).trans ((eu_ne (by decide)).trans ((eu_ne (by decide)).trans ((eu_ne (by decide)).trans ((eu_ne (by decide)).trans ((eu_ne (by decide)).trans ((eu_ne (by decide)).trans ((eu_ne (by decide)).trans ((eu_ne (by decide)).trans ((eu_ne (by decide)).trans ((eu_ne (by decide)).trans ((eu_ne (by decide)).trans ((eu_ne (by decide)).trans ((eu_ne (by decide)).trans ((eu_ne (by decide)).trans ((eu_ne (by decide)).trans ((eu_ne (by decide)).trans ((eu_ne (by decide)).trans ((eu_ne (by decide)).trans ((eu_ne (by decide)).trans ((eu_ne (by decide)).trans ((eu_ne (by decide)).trans ((eu_ne (by decide)).trans ((eu_ne (by decide)).trans ((eu_ne (by decide)).trans ((eu_ne (by decide)).trans ((eu_ne (by decide)).trans eu_at))))))))))))))))))))))))))))))))))).trans (by unfold yC; rw [laym_10]; try rfl)
    by_cases h11 : c = 11
    · subst h11; exact ((eu_ne (by decide)).trans ((eu_ne (by decide)).trans ((eu_ne (by decide)).trans ((eu_ne (by decide)).trans ((eu_ne (by decide)).trans ((eu_ne (by decide)).trans ((eu_ne (by decide)).trans ((eu_ne (by decide)).trans ((eu_ne (by decide)).trans ((eu_ne (by decide)).trans ((eu_ne (by decide)).trans ((eu_ne (by decide)).trans ((eu_ne (by decide)).trans ((eu_ne (by decide)).trans ((eu_ne (by decide)).trans ((eu_ne (by decide)).trans ((eu_ne (by decide)).trans ((eu_ne (by decide)).trans ((eu_ne (by decide)).trans ((eu_ne (by decide)).trans ((eu_ne (by decide)).trans ((eu_ne (by decide)).trans ((eu_ne (by decide)).trans ((eu_ne (by decide)).trans ((eu_ne (by decide)).trans ((eu_ne (by decide)).trans ((eu_ne (by decide)).trans ((eu_ne (by decide)).trans ((eu_ne (by decide)).trans ((eu_ne (by decide)).trans ((eu_ne (by decide)).trans ((eu_ne (by decide)).trans ((eu_ne (by decide)).trans eu_at))))))))))))))))))))))))))))))))).trans (by unfold yC; rw [laym_11]; try rfl)
    by_cases h12 : c = 12
    · subst h12; exact ((eu_ne (by decide)).trans ((eu_ne (by decide)).trans ((eu_ne (by decide)).trans ((eu_ne (by decide)).trans ((eu_ne (by decide)).trans ((eu_ne (by decide)).trans ((eu_ne (by decide)).trans ((eu_ne (by decide)).trans ((eu_ne (by decide)).trans ((eu_ne (by decide)).trans ((eu_ne (by decide)).trans ((eu_ne (by decide)).trans ((eu_ne (by decide)).trans ((eu_ne (by decide)).trans ((eu_ne (by decide)).trans ((eu_ne (by decide)).trans ((eu_ne (by decide)).trans ((eu_ne (by decide)).trans ((eu_ne (by decide)).trans ((eu_ne (by decide)).trans ((eu_ne (by decide)).trans ((eu_ne (by decide)).trans ((eu_ne (by decide)).trans ((eu_ne (by decide)).trans ((eu_ne (by decide)).trans ((eu_ne (by decide)).trans ((eu_ne (by decide)).trans ((eu_ne (by decide)).trans ((eu_ne (by decide)).trans ((eu_ne (by decide)).trans ((eu_ne (by decide)).trans eu_at))))))))))))))))))))))))))))))).trans (by unfold yC; rw [laym_12]; try rfl)
    by_cases h13 : c = 13
    · subst h13; exact ((eu_ne (by decide)).trans ((eu_ne (by decide)).trans ((eu_ne (by decide)).trans ((eu_ne (by decide)).trans ((eu_ne (by decide)).trans ((eu_ne (by decide)).trans ((eu_ne (by decide)).trans ((eu_ne (by decide)).trans ((eu_ne (by decide)).trans ((eu_ne (by decide)).trans ((eu_ne (by decide)).trans ((eu_ne (by decide)).trans ((eu_ne (by decide)).trans ((eu_ne (by decide)).trans ((eu_ne (by decide)).trans ((eu_ne (by decide)).trans ((eu_ne (by decide)).trans ((eu_ne (by decide)).trans ((eu_ne (by decide)).trans ((eu_ne (by decide)).trans ((eu_ne (by decide)).trans ((eu_ne (by decide)).trans ((eu_ne (by decide)).trans ((eu_ne (by decide)).trans ((eu_ne (by decide)).trans ((eu_ne (by decide)).trans ((eu_ne (by decide)).trans ((eu_ne (by decide)).trans ((eu_ne (by decide)).trans eu_at))))))))))))))))))))))))))))).trans (by unfold yC; rw [laym_13]; try rfl)
    by_cases h14 : c = 14
    · subst h14; exact ((eu_ne (by decide)).trans ((eu_ne (by decide)).trans ((eu_ne (by decide)).trans ((eu_ne (by decide)).trans ((eu_ne (by decide)).trans ((eu_ne (by decide)).trans ((eu_ne (by decide)).trans ((eu_ne (by decide)).trans ((eu_ne (by decide)).trans ((eu_ne (by decide)).trans ((eu_ne (by decide)).trans ((eu_ne (by decide)).trans ((eu_ne (by decide)).trans ((eu_ne (by decide)).trans ((eu_ne (by decide)).trans ((eu_ne (by decide)).trans ((eu_ne (by decide)).trans ((eu_ne (by decide)).trans ((eu_ne (by decide)).trans ((eu_ne (by decide)).trans ((eu_ne (by decide)).trans ((eu_ne (by decide)).trans ((eu_ne (by decide)).trans ((eu_ne (by decide)).trans ((eu_ne (by decide)).trans ((eu_ne (by decide)).trans ((eu_ne (by decide)).trans eu_at))))))))))))))))))))))))))).trans (by unfold yC; rw [laym_14]; try rfl)
    by_cases h15 : c = 15
    · subst h15; exact ((eu_ne (by decide)).trans ((eu_ne (by decide)).trans ((eu_ne (by decide)).trans ((eu_ne (by decide)).trans ((eu_ne (by decide)).trans ((eu_ne (by decide)).trans ((eu_ne (by decide)).trans ((eu_ne (by decide)).trans ((eu_ne (by decide)).trans ((eu_ne (by decide)).trans ((eu_ne (by decide)).trans ((eu_ne (by decide)).trans ((eu_ne (by decide)).trans ((eu_ne (by decide)).trans ((eu_ne (by decide)).trans ((eu_ne (by decide)).trans ((eu_ne (by decide)).trans ((eu_ne (by decide)).trans ((eu_ne (by decide)).trans ((eu_ne (by decide)).trans ((eu_ne (by decide)).trans ((eu_ne (by decide)).trans ((eu_ne (by decide)).trans ((eu_ne (by decide)).trans ((eu_ne (by decide)).trans eu_at))))))))))))))))))))))))).trans (by unfold yC; rw [laym_15]; try rfl)
    by_cases h16 : c = 16
    · subst h16; exact ((eu_ne (by decide)).trans ((eu_ne (by decide)).trans ((eu_ne (by decide)).trans ((eu_ne (by decide)).trans ((eu_ne (by decide)).trans ((eu_ne (by decide)).trans ((eu_ne (by decide)).trans ((eu_ne (by decide)).trans ((eu_ne (by decide)).trans ((eu_ne (by decide)).trans ((eu_ne (by decide)).trans ((eu_ne (by decide)).trans ((eu_ne (by decide)).trans ((eu_ne (by decide)).trans ((eu_ne (by decide)).trans ((eu_ne (by decide)).trans ((eu_ne (by decide)).trans ((eu_ne (by decide)).trans ((eu_ne (by decide)).trans ((eu_ne (by decide)).trans ((eu_ne (by decide)).trans ((eu_ne (by decide)).trans ((eu_ne (by decide)).trans eu_at))))))))))))))))))))))).trans (by unfold yC; rw [laym_16]; try rfl)
    by_cases h17 : c = 17
    · subst h17; exact ((eu_ne (by decide)).trans ((eu_ne (by decide)).trans ((eu_ne (by decide)).trans ((eu_ne (by decide)).trans ((eu_ne (by decide)).trans ((eu_ne (by decide)).trans ((eu_ne (by decide)).trans ((eu_ne (by decide)).trans ((eu_ne (by decide)).trans ((eu_ne (by decide)).trans ((eu_ne (by decide)).trans ((eu_ne (by decide)).trans ((eu_ne (by decide)).trans ((eu_ne (by decide)).trans ((eu_ne (by decide)).trans ((eu_ne (by decide)).trans ((eu_ne (by decide)).trans ((eu_ne (by decide)).trans ((eu_ne (by decide)).trans ((eu_ne (by decide)).trans ((eu_ne (by decide)).trans eu_at))))))))))))))))))))).trans (by unfold yC; rw [laym_17]; try rfl)
    by_cases h18 : c = 18
    · subst h18; exact ((eu_ne (by decide)).trans ((eu_ne (by decide)).trans ((eu_ne (by decide)).trans ((eu_ne (by decide)).trans ((eu_ne (by decide)).trans ((eu_ne (by decide)).trans ((eu_ne (by decide)).trans ((eu_ne (by decide)).trans ((eu_ne (by decide)).trans ((eu_ne (by decide)).trans ((eu_ne (by decide)).trans ((eu_ne (by decide)).trans ((eu_ne (by decide)).trans ((eu_ne (by decide)).trans ((eu_ne (by decide)).trans ((eu_ne (by decide)).trans ((eu_ne (by decide)).trans ((eu_ne (by decide)).trans ((eu_ne (by decide)).trans eu_at))))))))))))))))))).trans (by unfold yC; rw [laym_18]; try rfl)
    by_cases h19 : c = 19
    · subst h19; exact ((eu_ne (by decide)).trans ((eu_ne (by decide)).trans ((eu_ne (by decide)).trans ((eu_ne (by decide)).trans ((eu_ne (by decide)).trans ((eu_ne (by decide)).trans ((eu_ne (by decide)).trans ((eu_ne (by decide)).trans ((eu_ne (by decide)).trans ((eu_ne (by decide)).trans ((eu_ne (by decide)).trans ((eu_ne (by decide)).trans ((eu_ne (by decide)).trans ((eu_ne (by decide)).trans ((eu_ne (by decide)).trans ((eu_ne (by decide)).trans ((eu_ne (by decide)).trans eu_at))))))))))))))))).trans (by unfold yC; rw [laym_19]; try rfl)
    by_cases h20 : c = 20
    · subst h20; exact ((eu_ne (by decide)).trans ((eu_ne (by decide)).trans ((eu_ne (by decide)).trans ((eu_ne (by decide)).trans ((eu_ne (by decide)).trans ((eu_ne (by decide)).trans ((eu_ne (by decide)).trans ((eu_ne (by decide)).trans ((eu_ne (by decide)).trans ((eu_ne (by decide)).trans ((eu_ne (by decide)).trans ((eu_ne (by decide)).trans ((eu_ne (by decide)).trans ((eu_ne (by decide)).trans ((eu_ne (by decide)).trans eu_at))))))))))))))).trans (by unfold yC; rw [laym_20]; try rfl)
    by_cases h21 : c = 21
    · subst h21; exact ((eu_ne (by decide)).trans ((eu_ne (by decide)).trans ((eu_ne (by decide)).trans ((eu_ne (by decide)).trans ((eu_ne (by decide)).trans ((eu_ne (by decide)).trans ((eu_ne (by decide)).trans ((eu_ne (by decide)).trans ((eu_ne (by decide)).trans ((eu_ne (by decide)).trans ((eu_ne (by decide)).trans ((eu_ne (by decide)).trans ((eu_ne (by decide)).trans eu_at))))))))))))).trans (by unfold yC; rw [laym_21]; try rfl)
    by_cases h22 : c = 22
    · subst h22; exact ((eu_ne (by decide)).trans ((eu_ne (by decide)).trans ((eu_ne (by decide)).trans ((eu_ne (by decide)).trans ((eu_ne (by decide)).trans ((eu_ne (by decide)).trans ((eu_ne (by decide)).trans ((eu_ne (by decide)).trans ((eu_ne (by decide)).trans ((eu_ne (by decide)).trans ((eu_ne (by decide)).trans eu_at))))))))))).trans (by unfold yC; rw [laym_22]; try rfl)
    by_cases h23 : c = 23
    · subst h23; exact ((eu_ne (by decide)).trans ((eu_ne (by decide)).trans ((eu_ne (by decide)).trans ((eu_ne (by decide)).trans ((eu_ne (by decide)).trans ((eu_ne (by decide)).trans ((eu_ne (by decide)).trans ((eu_ne (by decide)).trans ((eu_ne (by decide)).trans eu_at))))))))).trans (by unfold yC; rw [laym_23]; try rfl)
    by_cases h24 : c = 24
    · subst h24; exact ((eu_ne (by decide)).trans ((eu_ne (by decide)).trans ((eu_ne (by decide)).trans ((eu_ne (by decide)).trans ((eu_ne (by decide)).trans ((eu_ne (by decide)).trans ((eu_ne (by decide)).trans eu_at))))))).trans (by unfold yC; rw [laym_24]; try rfl)
    by_cases h25 : c = 25
    · subst h25; exact ((eu_ne (by decide)).trans ((eu_ne (by decide)).trans ((eu_ne (by decide)).trans ((eu_ne (by decide)).trans ((eu_ne (by decide)).trans eu_at))))).trans (by unfold yC; rw [laym_25]; try rfl)
    by_cases h26 : c = 26
    · subst h26; exact ((eu_ne (by decide)).trans ((eu_ne (by decide)).trans ((eu_ne (by decide)).trans eu_at))).trans (by unfold yC; rw [laym_26]; try rfl)
    by_cases h27 : c = 27
    · subst h27; exact ((eu_ne (by decide)).trans eu_at).trans (by unfold yC; rw [laym_27]; try rfl)
    omega)
  have hAr : ∀ e9, 0 ≤ e9 ∧ e9 < 0 + 28 → (fun b9 => z + 0 ≤ b9) (z + e9) := fun e9 h => hAr e9 h.1
  refine lv_aload_n hx hb d_M_init_206 rfl (lv_at hl 0 rfl) ?_
  refine y_getr hx hb hA in_M hown hK.1 hW 0 (by omega) laym_0 rfl 1 (by decide) (hA _ k_fl_M_13) rfl d_M_init_207 ?_
  refine lv_iconst (v := J (0)) hx hb d_M_init_210 rfl ?_
  refine lv_iconst (v := J (1)) hx hb d_M_init_211 rfl ?_
  refine y_iast hx hb hK.1 hW 2 (by omega) laym_2 rfl (by decide) hS hAr 0 rfl (by omega) d_M_init_212 (fun H locs hW hS => ?_)
  refine lv_iconst (v := J (1)) hx hb d_M_init_213 rfl ?_
  refine lv_istore_n (lv' := [(1, .int (J (1))), (0, .ref (z + 0))]) hx hb d_M_init_214 rfl hl (by decide) rfl (fun ls hl => ?_)
  have loop215 : ∀ (q9 v : Nat), v + q9 = 2472 → ∀ (τ : yM), (∀ t, t < v + 1 → τ 1 t = eX (t : Int) ∧ τ 2 t = eY (t : Int)) → (∀ d, d ≠ 1 → d ≠ 2 → τ d = fun _ => 0) → ∀ (ls : Array Slot) (H : Heap) (locs : List Loc), yW ycl G yLM 0 28 z τ H → va_S (fun b9 => z + 0 ≤ b9) s.heap H locs → lv_has ls 6 [(1, .int (J (((v + 1 : Nat) : Int)))), (0, .ref (z + 0))] → W p l e ({ frames := 2, cells := 27, slots := 5116, locals := 44 } : Room) s m ([.ref (z + 0)] : List Value).toArray below meth c H locs (27) (5116) (MQ below (yQn G yLM 0 28 z (fun τ => mTb τ ∧ ∀ d, d ≠ 1 → d ≠ 2 → τ d = fun _ => 0)) ([.ref (z + 0)] : List Value).toArray s 27 5116 (fun b9 => z + 0 ≤ b9)) (F0 m 215 ls []) := by
    intro q9
    induction q9 with
    | zero =>
      intro v hvk τ hI hO ls H locs hW hS hl
      have hv9 : v = 2472 := by omega
      subst hv9
      refine lv_iload_n hx hb d_M_init_215 rfl (lv_at hl 0 rfl) ?_
      refine lv_sipush (v := J (2473)) hx hb d_M_init_216 (by decide) ?_
      refine y_icmp_ge (tgt := 373) hx hb d_M_init_219 (by decide) ⟨by omega, by omega⟩ ⟨by omega, by omega⟩ (fun hc1 => ?_) (fun hc1 => absurd hc1 (by omega))
      exact x_ret hx hb hr hlocks hS hW ⟨fun j hj => hI j hj, hO⟩ d_M_init_373
    | succ q9 ih =>
      intro v hvk τ hI hO ls H locs hW hS hl
      have hX := eX_rng (v : Int)
      have hY := eY_rng (v : Int)
      refine lv_iload_n hx hb d_M_init_215 rfl (lv_at hl 0 rfl) ?_
      refine lv_sipush (v := J (2473)) hx hb d_M_init_216 (by decide) ?_
      refine y_icmp_ge (tgt := 373) hx hb d_M_init_219 (by decide) ⟨by omega, by omega⟩ ⟨by omega, by omega⟩ (fun hc2 => absurd hc2 (by omega)) (fun hc2 => ?_)
      refine lv_aload_n hx hb d_M_init_222 rfl (lv_at hl 1 rfl) ?_
      refine y_getr hx hb hA in_M hown hK.1 hW 0 (by omega) laym_0 rfl 0 (by decide) (hA _ k_fl_M_7) rfl d_M_init_223 ?_
      refine lv_iload_n hx hb d_M_init_226 rfl (lv_at hl 0 rfl) ?_
      refine lv_iconst (v := J (1)) hx hb d_M_init_227 rfl ?_
      refine y_isub hx hb d_M_init_228 ?_
      refine y_iald hx hb hK.1 hW 1 (by omega) laym_1 rfl (by decide) v (by omega) (by omega) d_M_init_229 ?_
      rw [(hI v (by omega)).1]
      refine lv_istore_n (lv' := [(2, .int (J (eX (v : Int)))), (1, .int (J (((v + 1 : Nat) : Int)))), (0, .ref (z + 0))]) hx hb d_M_init_230 rfl hl (by decide) rfl (fun ls hl => ?_)
      refine lv_aload_n hx hb d_M_init_231 rfl (lv_at hl 2 rfl) ?_
      refine y_getr hx hb hA in_M hown hK.1 hW 0 (by omega) laym_0 rfl 1 (by decide) (hA _ k_fl_M_13) rfl d_M_init_232 ?_
      refine lv_iload_n hx hb d_M_init_235 rfl (lv_at hl 1 rfl) ?_
      refine lv_iconst (v := J (1)) hx hb d_M_init_236 rfl ?_
      refine y_isub hx hb d_M_init_237 ?_
      refine y_iald hx hb hK.1 hW 2 (by omega) laym_2 rfl (by decide) v (by omega) (by omega) d_M_init_238 ?_
      rw [(hI v (by omega)).2]
      refine lv_istore_n (lv' := [(3, .int (J (eY (v : Int)))), (2, .int (J (eX (v : Int)))), (1, .int (J (((v + 1 : Nat) : Int)))), (0, .ref (z + 0))]) hx hb d_M_init_239 rfl hl (by decide) rfl (fun ls hl => ?_)
      refine lv_bipush (v := J (56)) hx hb d_M_init_240 (by decide) ?_
      refine lv_iload_n hx hb d_M_init_242 rfl (lv_at hl 1 rfl) ?_
      refine lv_sipush (v := J (5090)) hx hb d_M_init_243 (by decide) ?_
      have hm3 := j_mb (x := eX (v : Int)) (y := 5090) ⟨by omega, by omega⟩ ⟨by omega, by omega⟩
      refine y_ci (y_runS (As := [.int (J (eX (v : Int))), .int (J (5090))]) (rest := [.int (J (56))]) ⟨hx, hb, hml, hown, hts⟩ (c_M_times l G (eX (v : Int)) (5090) (by omega) (by omega)) 2 k_co_M_times k_ml_M_91 k_st_M_times k_in_M rfl rfl (by decide +kernel) ⟨Nat.le_of_ble_eq_true rfl, Nat.le_of_ble_eq_true rfl⟩ (yPs0 (yK_bl G) (yK_mv G) hK) rfl hl.1 rfl (Nat.le_of_ble_eq_true rfl) d_M_init_246 ⟨Nat.le_of_ble_eq_true rfl, Nat.le_of_ble_eq_true rfl⟩) hS hW (fun H locs hW hS => ?_)
      have hm4 := j_mb (x := 56) (y := (eX (v : Int)) * 5090 % 10009) ⟨by omega, by omega⟩ ⟨by omega, by omega⟩
      refine y_ci (y_runS (As := [.int (J (56)), .int (J ((eX (v : Int)) * 5090 % 10009))]) (rest := []) ⟨hx, hb, hml, hown, hts⟩ (c_M_times l G (56) ((eX (v : Int)) * 5090 % 10009) (by omega) (by omega)) 2 k_co_M_times k_ml_M_91 k_st_M_times k_in_M rfl rfl (by decide +kernel) ⟨Nat.le_of_ble_eq_true rfl, Nat.le_of_ble_eq_true rfl⟩ (yPs0 (yK_bl G) (yK_mv G) hK) rfl hl.1 rfl (Nat.le_of_ble_eq_true rfl) d_M_init_249 ⟨Nat.le_of_ble_eq_true rfl, Nat.le_of_ble_eq_true rfl⟩) hS hW (fun H locs hW hS => ?_)
      refine lv_iload_n hx hb d_M_init_252 rfl (lv_at hl 0 rfl) ?_
      refine lv_sipush (v := J (9579)) hx hb d_M_init_253 (by decide) ?_
      have hm5 := j_mb (x := eY (v : Int)) (y := 9579) ⟨by omega, by omega⟩ ⟨by omega, by omega⟩
      refine y_ci (y_runS (As := [.int (J (eY (v : Int))), .int (J (9579))]) (rest := [.int (J (56 * ((eX (v : Int)) * 5090 % 10009) % 10009))]) ⟨hx, hb, hml, hown, hts⟩ (c_M_times l G (eY (v : Int)) (9579) (by omega) (by omega)) 2 k_co_M_times k_ml_M_91 k_st_M_times k_in_M rfl rfl (by decide +kernel) ⟨Nat.le_of_ble_eq_true rfl, Nat.le_of_ble_eq_true rfl⟩ (yPs0 (yK_bl G) (yK_mv G) hK) rfl hl.1 rfl (Nat.le_of_ble_eq_true rfl) d_M_init_256 ⟨Nat.le_of_ble_eq_true rfl, Nat.le_of_ble_eq_true rfl⟩) hS hW (fun H locs hW hS => ?_)
      have hm6 := j_mb (x := 56 * ((eX (v : Int)) * 5090 % 10009) % 10009) (y := (eY (v : Int)) * 9579 % 10009) ⟨by omega, by omega⟩ ⟨by omega, by omega⟩
      refine y_ci (y_runS (As := [.int (J (56 * ((eX (v : Int)) * 5090 % 10009) % 10009)), .int (J ((eY (v : Int)) * 9579 % 10009))]) (rest := []) ⟨hx, hb, hml, hown, hts⟩ (c_M_times l G (56 * ((eX (v : Int)) * 5090 % 10009) % 10009) ((eY (v : Int)) * 9579 % 10009) (by omega) (by omega)) 2 k_co_M_times k_ml_M_91 k_st_M_times k_in_M rfl rfl (by decide +kernel) ⟨Nat.le_of_ble_eq_true rfl, Nat.le_of_ble_eq_true rfl⟩ (yPs0 (yK_bl G) (yK_mv G) hK) rfl hl.1 rfl (Nat.le_of_ble_eq_true rfl) d_M_init_259 ⟨Nat.le_of_ble_eq_true rfl, Nat.le_of_ble_eq_true rfl⟩) hS hW (fun H locs hW hS => ?_)
      obtain ⟨k9, e_k9⟩ : ∃ q : Int, q = (56 * ((eX (v : Int)) * 5090 % 10009) % 10009) * ((eY (v : Int)) * 9579 % 10009) % 10009 := ⟨_, rfl⟩
      rw [← e_k9]
      have hk : k9 = ejk (eX (v : Int)) (eY (v : Int)) (eX 1) (eY 1) := by rw [e_k9, eX_1, eY_1]; rfl
      have hw2 : (1 - k9) % 10009 = (1 + 10009 - k9) % 10009 := by omega
      refine lv_istore (lv' := [(4, .int (J (k9))), (3, .int (J (eY (v : Int)))), (2, .int (J (eX (v : Int)))), (1, .int (J (((v + 1 : Nat) : Int)))), (0, .ref (z + 0))]) hx hb d_M_init_262 hl (by decide) rfl (fun ls hl => ?_)
      refine lv_iconst (v := J (1)) hx hb d_M_init_264 rfl ?_
      refine lv_iload hx hb d_M_init_265 (lv_at hl 0 rfl) ?_
      refine y_iadd hx hb d_M_init_267 ?_
      refine y_ci (y_runS (As := [.int (J (1 + k9))]) (rest := []) ⟨hx, hb, hml, hown, hts⟩ (c_M_whole l G (1 + k9) ⟨by omega, by omega⟩) 1 k_co_M_whole k_ml_M_95 k_st_M_whole k_in_M rfl rfl (by decide +kernel) ⟨Nat.le_of_ble_eq_true rfl, Nat.le_of_ble_eq_true rfl⟩ (yPs0 (yK_bl G) (yK_mv G) hK) rfl hl.1 rfl (Nat.le_of_ble_eq_true rfl) d_M_init_268 ⟨Nat.le_of_ble_eq_true rfl, Nat.le_of_ble_eq_true rfl⟩) hS hW (fun H locs hW hS => ?_)
      refine lv_iconst (v := J (1)) hx hb d_M_init_271 rfl ?_
      refine lv_iload hx hb d_M_init_272 (lv_at hl 0 rfl) ?_
      refine y_isub hx hb d_M_init_274 ?_
      refine y_ci (y_runS (As := [.int (J (1 - k9))]) (rest := [.int (J ((1 + k9) % 10009))]) ⟨hx, hb, hml, hown, hts⟩ (c_M_whole l G (1 - k9) ⟨by omega, by omega⟩) 1 k_co_M_whole k_ml_M_95 k_st_M_whole k_in_M rfl rfl (by decide +kernel) ⟨Nat.le_of_ble_eq_true rfl, Nat.le_of_ble_eq_true rfl⟩ (yPs0 (yK_bl G) (yK_mv G) hK) rfl hl.1 rfl (Nat.le_of_ble_eq_true rfl) d_M_init_275 ⟨Nat.le_of_ble_eq_true rfl, Nat.le_of_ble_eq_true rfl⟩) hS hW (fun H locs hW hS => ?_)
      have hm7 := j_mb (x := (1 + k9) % 10009) (y := (1 - k9) % 10009) ⟨by omega, by omega⟩ ⟨by omega, by omega⟩
      refine y_ci (y_runS (As := [.int (J ((1 + k9) % 10009)), .int (J ((1 - k9) % 10009))]) (rest := []) ⟨hx, hb, hml, hown, hts⟩ (c_M_times l G ((1 + k9) % 10009) ((1 - k9) % 10009) (by omega) (by omega)) 2 k_co_M_times k_ml_M_91 k_st_M_times k_in_M rfl rfl (by decide +kernel) ⟨Nat.le_of_ble_eq_true rfl, Nat.le_of_ble_eq_true rfl⟩ (yPs0 (yK_bl G) (yK_mv G) hK) rfl hl.1 rfl (Nat.le_of_ble_eq_true rfl) d_M_init_278 ⟨Nat.le_of_ble_eq_true rfl, Nat.le_of_ble_eq_true rfl⟩) hS hW (fun H locs hW hS => ?_)
      refine lv_sipush (v := J (10007)) hx hb d_M_init_281 (by decide) ?_
      obtain ⟨an, e_an⟩ : ∃ q : Nat, ((1 + k9) % 10009) * ((1 - k9) % 10009) % 10009 = (q : Int) := ⟨(((1 + k9) % 10009) * ((1 - k9) % 10009) % 10009).toNat, by omega⟩
      refine W.eq (g2 := F0 m 284 ls [.int (J (10007)), .int (J ((an : Int)))]) (by rw [e_an]) ?_
      refine y_ci (y_runS (As := [.int (J ((an : Int))), .int (J (10007))]) (rest := []) ⟨hx, hb, hml, hown, hts⟩ (c_M_power l G an (by omega)) 2 k_co_M_power k_ml_M_99 k_st_M_power k_in_M rfl rfl (by decide +kernel) ⟨Nat.le_of_ble_eq_true rfl, Nat.le_of_ble_eq_true rfl⟩ (yPs0 (yK_bl G) (yK_mv G) hK) rfl hl.1 rfl (Nat.le_of_ble_eq_true rfl) d_M_init_284 ⟨Nat.le_of_ble_eq_true rfl, Nat.le_of_ble_eq_true rfl⟩) hS hW (fun H locs hW hS => ?_)
      obtain ⟨bo, e_bo⟩ : ∃ q : Int, q = ((cv_miv an : Nat) : Int) := ⟨_, rfl⟩
      rw [← e_bo]
      have hbo : bo = eiv ((1 + k9) % 10009 * ((1 - k9) % 10009) % 10009) := by unfold eiv; rw [e_an, Int.toNat_natCast]; exact e_bo
      have hbr := eiv_rng (n := (1 + k9) % 10009 * ((1 - k9) % 10009) % 10009) (by omega) (by omega)
      rw [← hbo] at hbr
      refine lv_istore (lv' := [(5, .int (J (bo))), (4, .int (J (k9))), (3, .int (J (eY (v : Int)))), (2, .int (J (eX (v : Int)))), (1, .int (J (((v + 1 : Nat) : Int)))), (0, .ref (z + 0))]) hx hb d_M_init_287 hl (by decide) rfl (fun ls hl => ?_)
      refine lv_aload_n hx hb d_M_init_289 rfl (lv_at hl 5 rfl) ?_
      refine y_getr hx hb hA in_M hown hK.1 hW 0 (by omega) laym_0 rfl 0 (by decide) (hA _ k_fl_M_7) rfl d_M_init_290 ?_
      refine lv_iload_n hx hb d_M_init_293 rfl (lv_at hl 4 rfl) ?_
      refine lv_iload_n hx hb d_M_init_294 rfl (lv_at hl 3 rfl) ?_
      refine lv_sipush (v := J (9579)) hx hb d_M_init_295 (by decide) ?_
      have hm8 := j_mb (x := eX (v : Int)) (y := 9579) ⟨by omega, by omega⟩ ⟨by omega, by omega⟩
      refine y_ci (y_runS (As := [.int (J (eX (v : Int))), .int (J (9579))]) (rest := [.int (J (((v + 1 : Nat) : Int))), .ref (z + 1)]) ⟨hx, hb, hml, hown, hts⟩ (c_M_times l G (eX (v : Int)) (9579) (by omega) (by omega)) 2 k_co_M_times k_ml_M_91 k_st_M_times k_in_M rfl rfl (by decide +kernel) ⟨Nat.le_of_ble_eq_true rfl, Nat.le_of_ble_eq_true rfl⟩ (yPs0 (yK_bl G) (yK_mv G) hK) rfl hl.1 rfl (Nat.le_of_ble_eq_true rfl) d_M_init_298 ⟨Nat.le_of_ble_eq_true rfl, Nat.le_of_ble_eq_true rfl⟩) hS hW (fun H locs hW hS => ?_)
      refine lv_iload_n hx hb d_M_init_301 rfl (lv_at hl 2 rfl) ?_
      refine lv_sipush (v := J (5090)) hx hb d_M_init_302 (by decide) ?_
      have hm9 := j_mb (x := eY (v : Int)) (y := 5090) ⟨by omega, by omega⟩ ⟨by omega, by omega⟩
      refine y_ci (y_runS (As := [.int (J (eY (v : Int))), .int (J (5090))]) (rest := [.int (J ((eX (v : Int)) * 9579 % 10009)), .int (J (((v + 1 : Nat) : Int))), .ref (z + 1)]) ⟨hx, hb, hml, hown, hts⟩ (c_M_times l G (eY (v : Int)) (5090) (by omega) (by omega)) 2 k_co_M_times k_ml_M_91 k_st_M_times k_in_M rfl rfl (by decide +kernel) ⟨Nat.le_of_ble_eq_true rfl, Nat.le_of_ble_eq_true rfl⟩ (yPs0 (yK_bl G) (yK_mv G) hK) rfl hl.1 rfl (Nat.le_of_ble_eq_true rfl) d_M_init_305 ⟨Nat.le_of_ble_eq_true rfl, Nat.le_of_ble_eq_true rfl⟩) hS hW (fun H locs hW hS => ?_)
      refine y_iadd hx hb d_M_init_308 ?_
      refine y_ci (y_runS (As := [.int (J (((eX (v : Int)) * 9579 % 10009) + ((eY (v : Int)) * 5090 % 10009)))]) (rest := [.int (J (((v + 1 : Nat) : Int))), .ref (z + 1)]) ⟨hx, hb, hml, hown, hts⟩ (c_M_whole l G (((eX (v : Int)) * 9579 % 10009) + ((eY (v : Int)) * 5090 % 10009)) ⟨by omega, by omega⟩) 1 k_co_M_whole k_ml_M_95 k_st_M_whole k_in_M rfl rfl (by decide +kernel) ⟨Nat.le_of_ble_eq_true rfl, Nat.le_of_ble_eq_true rfl⟩ (yPs0 (yK_bl G) (yK_mv G) hK) rfl hl.1 rfl (Nat.le_of_ble_eq_true rfl) d_M_init_309 ⟨Nat.le_of_ble_eq_true rfl, Nat.le_of_ble_eq_true rfl⟩) hS hW (fun H locs hW hS => ?_)
      refine lv_iconst (v := J (1)) hx hb d_M_init_312 rfl ?_
      refine lv_iload hx hb d_M_init_313 (lv_at hl 1 rfl) ?_
      refine y_isub hx hb d_M_init_315 ?_
      refine y_ci (y_runS (As := [.int (J (1 - k9))]) (rest := [.int (J ((((eX (v : Int)) * 9579 % 10009) + ((eY (v : Int)) * 5090 % 10009)) % 10009)), .int (J (((v + 1 : Nat) : Int))), .ref (z + 1)]) ⟨hx, hb, hml, hown, hts⟩ (c_M_whole l G (1 - k9) ⟨by omega, by omega⟩) 1 k_co_M_whole k_ml_M_95 k_st_M_whole k_in_M rfl rfl (by decide +kernel) ⟨Nat.le_of_ble_eq_true rfl, Nat.le_of_ble_eq_true rfl⟩ (yPs0 (yK_bl G) (yK_mv G) hK) rfl hl.1 rfl (Nat.le_of_ble_eq_true rfl) d_M_init_316 ⟨Nat.le_of_ble_eq_true rfl, Nat.le_of_ble_eq_true rfl⟩) hS hW (fun H locs hW hS => ?_)
      have hm10 := j_mb (x := (((eX (v : Int)) * 9579 % 10009) + ((eY (v : Int)) * 5090 % 10009)) % 10009) (y := (1 - k9) % 10009) ⟨by omega, by omega⟩ ⟨by omega, by omega⟩
      refine y_ci (y_runS (As := [.int (J ((((eX (v : Int)) * 9579 % 10009) + ((eY (v : Int)) * 5090 % 10009)) % 10009)), .int (J ((1 - k9) % 10009))]) (rest := [.int (J (((v + 1 : Nat) : Int))), .ref (z + 1)]) ⟨hx, hb, hml, hown, hts⟩ (c_M_times l G ((((eX (v : Int)) * 9579 % 10009) + ((eY (v : Int)) * 5090 % 10009)) % 10009) ((1 - k9) % 10009) (by omega) (by omega)) 2 k_co_M_times k_ml_M_91 k_st_M_times k_in_M rfl rfl (by decide +kernel) ⟨Nat.le_of_ble_eq_true rfl, Nat.le_of_ble_eq_true rfl⟩ (yPs0 (yK_bl G) (yK_mv G) hK) rfl hl.1 rfl (Nat.le_of_ble_eq_true rfl) d_M_init_319 ⟨Nat.le_of_ble_eq_true rfl, Nat.le_of_ble_eq_true rfl⟩) hS hW (fun H locs hW hS => ?_)
      refine lv_iload hx hb d_M_init_322 (lv_at hl 0 rfl) ?_
      have hm11 := j_mb (x := ((((eX (v : Int)) * 9579 % 10009) + ((eY (v : Int)) * 5090 % 10009)) % 10009) * ((1 - k9) % 10009) % 10009) (y := bo) ⟨by omega, by omega⟩ ⟨by omega, by omega⟩
      refine y_ci (y_runS (As := [.int (J (((((eX (v : Int)) * 9579 % 10009) + ((eY (v : Int)) * 5090 % 10009)) % 10009) * ((1 - k9) % 10009) % 10009)), .int (J (bo))]) (rest := [.int (J (((v + 1 : Nat) : Int))), .ref (z + 1)]) ⟨hx, hb, hml, hown, hts⟩ (c_M_times l G (((((eX (v : Int)) * 9579 % 10009) + ((eY (v : Int)) * 5090 % 10009)) % 10009) * ((1 - k9) % 10009) % 10009) (bo) (by omega) (by omega)) 2 k_co_M_times k_ml_M_91 k_st_M_times k_in_M rfl rfl (by decide +kernel) ⟨Nat.le_of_ble_eq_true rfl, Nat.le_of_ble_eq_true rfl⟩ (yPs0 (yK_bl G) (yK_mv G) hK) rfl hl.1 rfl (Nat.le_of_ble_eq_true rfl) d_M_init_324 ⟨Nat.le_of_ble_eq_true rfl, Nat.le_of_ble_eq_true rfl⟩) hS hW (fun H locs hW hS => ?_)
      refine y_iast hx hb hK.1 hW 1 (by omega) laym_1 rfl (by decide) hS hAr (v + 1) rfl (by omega) d_M_init_327 (fun H locs hW hS => ?_)
      refine lv_aload_n hx hb d_M_init_328 rfl (lv_at hl 5 rfl) ?_
      refine y_getr hx hb hA in_M hown hK.1 hW 0 (by omega) laym_0 rfl 1 (by decide) (hA _ k_fl_M_13) rfl d_M_init_329 ?_
      refine lv_iload_n hx hb d_M_init_332 rfl (lv_at hl 4 rfl) ?_
      refine lv_iload_n hx hb d_M_init_333 rfl (lv_at hl 2 rfl) ?_
      refine lv_sipush (v := J (9579)) hx hb d_M_init_334 (by decide) ?_
      have hm12 := j_mb (x := eY (v : Int)) (y := 9579) ⟨by omega, by omega⟩ ⟨by omega, by omega⟩
      refine y_ci (y_runS (As := [.int (J (eY (v : Int))), .int (J (9579))]) (rest := [.int (J (((v + 1 : Nat) : Int))), .ref (z + 2)]) ⟨hx, hb, hml, hown, hts⟩ (c_M_times l G (eY (v : Int)) (9579) (by omega) (by omega)) 2 k_co_M_times k_ml_M_91 k_st_M_times k_in_M rfl rfl (by decide +kernel) ⟨Nat.le_of_ble_eq_true rfl, Nat.le_of_ble_eq_true rfl⟩ (yPs0 (yK_bl G) (yK_mv G) hK) rfl hl.1 rfl (Nat.le_of_ble_eq_true rfl) d_M_init_337 ⟨Nat.le_of_ble_eq_true rfl, Nat.le_of_ble_eq_true rfl⟩) hS hW (fun H locs hW hS => ?_)
      refine lv_iload_n hx hb d_M_init_340 rfl (lv_at hl 3 rfl) ?_
      refine lv_sipush (v := J (5090)) hx hb d_M_init_341 (by decide) ?_
      have hm13 := j_mb (x := eX (v : Int)) (y := 5090) ⟨by omega, by omega⟩ ⟨by omega, by omega⟩
      refine y_ci (y_runS (As := [.int (J (eX (v : Int))), .int (J (5090))]) (rest := [.int (J ((eY (v : Int)) * 9579 % 10009)), .int (J (((v + 1 : Nat) : Int))), .ref (z + 2)]) ⟨hx, hb, hml, hown, hts⟩ (c_M_times l G (eX (v : Int)) (5090) (by omega) (by omega)) 2 k_co_M_times k_ml_M_91 k_st_M_times k_in_M rfl rfl (by decide +kernel) ⟨Nat.le_of_ble_eq_true rfl, Nat.le_of_ble_eq_true rfl⟩ (yPs0 (yK_bl G) (yK_mv G) hK) rfl hl.1 rfl (Nat.le_of_ble_eq_true rfl) d_M_init_344 ⟨Nat.le_of_ble_eq_true rfl, Nat.le_of_ble_eq_true rfl⟩) hS hW (fun H locs hW hS => ?_)
      refine y_iadd hx hb d_M_init_347 ?_
      refine y_ci (y_runS (As := [.int (J (((eY (v : Int)) * 9579 % 10009) + ((eX (v : Int)) * 5090 % 10009)))]) (rest := [.int (J (((v + 1 : Nat) : Int))), .ref (z + 2)]) ⟨hx, hb, hml, hown, hts⟩ (c_M_whole l G (((eY (v : Int)) * 9579 % 10009) + ((eX (v : Int)) * 5090 % 10009)) ⟨by omega, by omega⟩) 1 k_co_M_whole k_ml_M_95 k_st_M_whole k_in_M rfl rfl (by decide +kernel) ⟨Nat.le_of_ble_eq_true rfl, Nat.le_of_ble_eq_true rfl⟩ (yPs0 (yK_bl G) (yK_mv G) hK) rfl hl.1 rfl (Nat.le_of_ble_eq_true rfl) d_M_init_348 ⟨Nat.le_of_ble_eq_true rfl, Nat.le_of_ble_eq_true rfl⟩) hS hW (fun H locs hW hS => ?_)
      refine lv_iconst (v := J (1)) hx hb d_M_init_351 rfl ?_
      refine lv_iload hx hb d_M_init_352 (lv_at hl 1 rfl) ?_
      refine y_iadd hx hb d_M_init_354 ?_
      refine y_ci (y_runS (As := [.int (J (1 + k9))]) (rest := [.int (J ((((eY (v : Int)) * 9579 % 10009) + ((eX (v : Int)) * 5090 % 10009)) % 10009)), .int (J (((v + 1 : Nat) : Int))), .ref (z + 2)]) ⟨hx, hb, hml, hown, hts⟩ (c_M_whole l G (1 + k9) ⟨by omega, by omega⟩) 1 k_co_M_whole k_ml_M_95 k_st_M_whole k_in_M rfl rfl (by decide +kernel) ⟨Nat.le_of_ble_eq_true rfl, Nat.le_of_ble_eq_true rfl⟩ (yPs0 (yK_bl G) (yK_mv G) hK) rfl hl.1 rfl (Nat.le_of_ble_eq_true rfl) d_M_init_355 ⟨Nat.le_of_ble_eq_true rfl, Nat.le_of_ble_eq_true rfl⟩) hS hW (fun H locs hW hS => ?_)
      have hm14 := j_mb (x := (((eY (v : Int)) * 9579 % 10009) + ((eX (v : Int)) * 5090 % 10009)) % 10009) (y := (1 + k9) % 10009) ⟨by omega, by omega⟩ ⟨by omega, by omega⟩
      refine y_ci (y_runS (As := [.int (J ((((eY (v : Int)) * 9579 % 10009) + ((eX (v : Int)) * 5090 % 10009)) % 10009)), .int (J ((1 + k9) % 10009))]) (rest := [.int (J (((v + 1 : Nat) : Int))), .ref (z + 2)]) ⟨hx, hb, hml, hown, hts⟩ (c_M_times l G ((((eY (v : Int)) * 9579 % 10009) + ((eX (v : Int)) * 5090 % 10009)) % 10009) ((1 + k9) % 10009) (by omega) (by omega)) 2 k_co_M_times k_ml_M_91 k_st_M_times k_in_M rfl rfl (by decide +kernel) ⟨Nat.le_of_ble_eq_true rfl, Nat.le_of_ble_eq_true rfl⟩ (yPs0 (yK_bl G) (yK_mv G) hK) rfl hl.1 rfl (Nat.le_of_ble_eq_true rfl) d_M_init_358 ⟨Nat.le_of_ble_eq_true rfl, Nat.le_of_ble_eq_true rfl⟩) hS hW (fun H locs hW hS => ?_)
      refine lv_iload hx hb d_M_init_361 (lv_at hl 0 rfl) ?_
      have hm15 := j_mb (x := ((((eY (v : Int)) * 9579 % 10009) + ((eX (v : Int)) * 5090 % 10009)) % 10009) * ((1 + k9) % 10009) % 10009) (y := bo) ⟨by omega, by omega⟩ ⟨by omega, by omega⟩
      refine y_ci (y_runS (As := [.int (J (((((eY (v : Int)) * 9579 % 10009) + ((eX (v : Int)) * 5090 % 10009)) % 10009) * ((1 + k9) % 10009) % 10009)), .int (J (bo))]) (rest := [.int (J (((v + 1 : Nat) : Int))), .ref (z + 2)]) ⟨hx, hb, hml, hown, hts⟩ (c_M_times l G (((((eY (v : Int)) * 9579 % 10009) + ((eX (v : Int)) * 5090 % 10009)) % 10009) * ((1 + k9) % 10009) % 10009) (bo) (by omega) (by omega)) 2 k_co_M_times k_ml_M_91 k_st_M_times k_in_M rfl rfl (by decide +kernel) ⟨Nat.le_of_ble_eq_true rfl, Nat.le_of_ble_eq_true rfl⟩ (yPs0 (yK_bl G) (yK_mv G) hK) rfl hl.1 rfl (Nat.le_of_ble_eq_true rfl) d_M_init_363 ⟨Nat.le_of_ble_eq_true rfl, Nat.le_of_ble_eq_true rfl⟩) hS hW (fun H locs hW hS => ?_)
      refine y_iast hx hb hK.1 hW 2 (by omega) laym_2 rfl (by decide) hS hAr (v + 1) rfl (by omega) d_M_init_366 (fun H locs hW hS => ?_)
      refine lv_iinc (k := 4) (v := J (((v + 1 + 1 : Nat) : Int))) (lv' := [(1, .int (J (((v + 1 + 1 : Nat) : Int)))), (5, .int (J (bo))), (4, .int (J (k9))), (3, .int (J (eY (v : Int)))), (2, .int (J (eX (v : Int)))), (0, .ref (z + 0))]) hx hb d_M_init_367 hl rfl (by rw [Int.natCast_add (v + 1) 1]; exact J_add _ _) (by decide) rfl (fun ls hl => ?_)
      refine lv_goto (tgt := 215) hx hb d_M_init_370 (by decide) ?_
      have hs1 := eX_sum (v : Int) 1
      have hs2 := eY_sum (v : Int) 1
      rw [← hk, ← hw2, ← hbo, eX_1, eY_1] at hs1 hs2
      have q1 : (((((eX (v : Int)) * 9579 % 10009) + ((eY (v : Int)) * 5090 % 10009)) % 10009) * ((1 - k9) % 10009) % 10009) * bo % 10009 = eX (((v + 1 : Nat)) : Int) := by rw [m_asc, ← Int.add_emod]; exact hs1
      have q2 : (((((eY (v : Int)) * 9579 % 10009) + ((eX (v : Int)) * 5090 % 10009)) % 10009) * ((1 + k9) % 10009) % 10009) * bo % 10009 = eY (((v + 1 : Nat)) : Int) := by rw [m_asc, ← Int.add_emod]; exact hs2
      refine ih (v + 1) (by omega) _ (fun t ht => ?_) (fun d h1 h2 => by rw [y2_ne h2, y2_ne h1]; exact hO d h1 h2) ls H locs hW hS ?_
      · by_cases e : t = v + 1
        · subst e; rw [y2_cl (by decide), y2_at, y2_at]; exact ⟨q1, q2⟩
        · rw [y2_cl (by decide), y2_ot e, y2_ot e, y2_cl (by decide)]; exact hI t (by omega)
      · exact lv_sub hl [0, 5] rfl
  exact loop215 2472 0 rfl _ (fun t ht => by have e : t = 0 := (by omega); subst e; exact ⟨(y2_cl (by decide)).trans eX_0.symm, y2_at.trans eY_0.symm⟩) (fun d h1 h2 => by rw [y2_ne h2]) ls _ _ hW hS hl
