theorem b2t {p : Prop} [Decidable p] (h : p) : b2 (decide p) = 1 := by simp [b2, h]
theorem b2f {p : Prop} [Decidable p] (h : ¬ p) : b2 (decide p) = 0 := by simp [b2, h]
def evL (hr : Nat) (Q : pP) : Int32 × Int32 := ev (hx hr) Q [] 0 0
def p10 (w : Int32) : Int32 := if w ≤ 10 then w else 10
def hold (S : Nat → Int32) (Q : pP) : Prop := (S 7 = -1 ∧ Q = []) ∨ ∃ c, S 7 = nI c ∧ pAt S c Q
def mlook (g : zG) (h : Hp) (m : Nat) (F : Nat → Int32) (A : Nat → Nat → Int32) (e : Int32 × Int32) : Hp → Prop := fun h' => ∃ f3 f4, h' = hM g h m (upd (upd F 11 e.1) 12 (p10 e.2)) (mup (mup A 3 f3) 4 f4)
def LL (m : Nat) (a1 a2 a3 t i : Int32) : List (Option Value) := [some (.ref m), some (.int a1), some (.int a2), some (.int a3), some (.int t), some (.int i), none, none, none, none]
theorem dX12_looks_0 : decode cX12_looks 0 = .ok (.aload_n 0, 1) := by decide +kernel
theorem dX12_looks_1 : decode cX12_looks 1 = .ok (.getfield 18, 3) := by decide +kernel
theorem dX12_looks_4 : decode cX12_looks 4 = .ok (.iconst 0, 1) := by decide +kernel
theorem dX12_looks_5 : decode cX12_looks 5 = .ok (.iload_n 1, 1) := by decide +kernel
theorem dX12_looks_6 : decode cX12_looks 6 = .ok (.bipush 12, 2) := by decide +kernel
theorem dX12_looks_8 : decode cX12_looks 8 = .ok (.irem, 1) := by decide +kernel
theorem dX12_looks_9 : decode cX12_looks 9 = .ok (.iastore, 1) := by decide +kernel
theorem dX12_looks_10 : decode cX12_looks 10 = .ok (.aload_n 0, 1) := by decide +kernel
theorem dX12_looks_11 : decode cX12_looks 11 = .ok (.getfield 18, 3) := by decide +kernel
theorem dX12_looks_14 : decode cX12_looks 14 = .ok (.iconst 1, 1) := by decide +kernel
theorem dX12_looks_15 : decode cX12_looks 15 = .ok (.iload_n 1, 1) := by decide +kernel
theorem dX12_looks_16 : decode cX12_looks 16 = .ok (.bipush 12, 2) := by decide +kernel
theorem dX12_looks_18 : decode cX12_looks 18 = .ok (.idiv, 1) := by decide +kernel
theorem dX12_looks_19 : decode cX12_looks 19 = .ok (.bipush 14, 2) := by decide +kernel
theorem dX12_looks_21 : decode cX12_looks 21 = .ok (.irem, 1) := by decide +kernel
theorem dX12_looks_22 : decode cX12_looks 22 = .ok (.iastore, 1) := by decide +kernel
theorem dX12_looks_23 : decode cX12_looks 23 = .ok (.aload_n 0, 1) := by decide +kernel
theorem dX12_looks_24 : decode cX12_looks 24 = .ok (.getfield 18, 3) := by decide +kernel
theorem dX12_looks_27 : decode cX12_looks 27 = .ok (.iconst 2, 1) := by decide +kernel
theorem dX12_looks_28 : decode cX12_looks 28 = .ok (.iload_n 1, 1) := by decide +kernel
theorem dX12_looks_29 : decode cX12_looks 29 = .ok (.iconst 5, 1) := by decide +kernel
theorem dX12_looks_30 : decode cX12_looks 30 = .ok (.irem, 1) := by decide +kernel
theorem dX12_looks_31 : decode cX12_looks 31 = .ok (.iastore, 1) := by decide +kernel
theorem dX12_looks_32 : decode cX12_looks 32 = .ok (.aload_n 0, 1) := by decide +kernel
theorem dX12_looks_33 : decode cX12_looks 33 = .ok (.iconst 0, 1) := by decide +kernel
theorem dX12_looks_34 : decode cX12_looks 34 = .ok (.putfield 121, 3) := by decide +kernel
theorem dX12_looks_37 : decode cX12_looks 37 = .ok (.aload_n 0, 1) := by decide +kernel
theorem dX12_looks_38 : decode cX12_looks 38 = .ok (.iconst 0, 1) := by decide +kernel
theorem dX12_looks_39 : decode cX12_looks 39 = .ok (.putfield 124, 3) := by decide +kernel
theorem dX12_looks_42 : decode cX12_looks 42 = .ok (.aload_n 0, 1) := by decide +kernel
theorem dX12_looks_43 : decode cX12_looks 43 = .ok (.getfield 9, 3) := by decide +kernel
theorem dX12_looks_46 : decode cX12_looks 46 = .ok (.bipush 7, 2) := by decide +kernel
theorem dX12_looks_48 : decode cX12_looks 48 = .ok (.iaload, 1) := by decide +kernel
theorem dX12_looks_49 : decode cX12_looks 49 = .ok (.iconst (-1), 1) := by decide +kernel
theorem dX12_looks_50 : decode cX12_looks 50 = .ok (.if_icmp .ne 7, 3) := by decide +kernel
theorem dX12_looks_53 : decode cX12_looks 53 = .ok (.iconst 0, 1) := by decide +kernel
theorem dX12_looks_54 : decode cX12_looks 54 = .ok (.goto 19, 3) := by decide +kernel
theorem dX12_looks_57 : decode cX12_looks 57 = .ok (.aload_n 0, 1) := by decide +kernel
theorem dX12_looks_58 : decode cX12_looks 58 = .ok (.getfield 9, 3) := by decide +kernel
theorem dX12_looks_61 : decode cX12_looks 61 = .ok (.sipush 194, 3) := by decide +kernel
theorem dX12_looks_64 : decode cX12_looks 64 = .ok (.aload_n 0, 1) := by decide +kernel
theorem dX12_looks_65 : decode cX12_looks 65 = .ok (.getfield 9, 3) := by decide +kernel
theorem dX12_looks_68 : decode cX12_looks 68 = .ok (.bipush 7, 2) := by decide +kernel
theorem dX12_looks_70 : decode cX12_looks 70 = .ok (.iaload, 1) := by decide +kernel
theorem dX12_looks_71 : decode cX12_looks 71 = .ok (.iadd, 1) := by decide +kernel
theorem dX12_looks_72 : decode cX12_looks 72 = .ok (.iaload, 1) := by decide +kernel
theorem dX12_looks_73 : decode cX12_looks 73 = .ok (.istore_n 2, 1) := by decide +kernel
theorem dX12_looks_74 : decode cX12_looks 74 = .ok (.sipush 199, 3) := by decide +kernel
theorem dX12_looks_77 : decode cX12_looks 77 = .ok (.sipush 140, 3) := by decide +kernel
theorem dX12_looks_80 : decode cX12_looks 80 = .ok (.aload_n 0, 1) := by decide +kernel
theorem dX12_looks_81 : decode cX12_looks 81 = .ok (.getfield 9, 3) := by decide +kernel
theorem dX12_looks_84 : decode cX12_looks 84 = .ok (.bipush 7, 2) := by decide +kernel
theorem dX12_looks_86 : decode cX12_looks 86 = .ok (.iaload, 1) := by decide +kernel
theorem dX12_looks_87 : decode cX12_looks 87 = .ok (.imul, 1) := by decide +kernel
theorem dX12_looks_88 : decode cX12_looks 88 = .ok (.iadd, 1) := by decide +kernel
theorem dX12_looks_89 : decode cX12_looks 89 = .ok (.istore_n 3, 1) := by decide +kernel
theorem dX12_looks_90 : decode cX12_looks 90 = .ok (.iconst 0, 1) := by decide +kernel
theorem dX12_looks_91 : decode cX12_looks 91 = .ok (.istore 4, 2) := by decide +kernel
theorem dX12_looks_93 : decode cX12_looks 93 = .ok (.iload_n 3, 1) := by decide +kernel
theorem dX12_looks_94 : decode cX12_looks 94 = .ok (.istore 5, 2) := by decide +kernel
theorem dX12_looks_96 : decode cX12_looks 96 = .ok (.iload 5, 2) := by decide +kernel
theorem dX12_looks_98 : decode cX12_looks 98 = .ok (.iload_n 3, 1) := by decide +kernel
theorem dX12_looks_99 : decode cX12_looks 99 = .ok (.iload_n 2, 1) := by decide +kernel
theorem dX12_looks_100 : decode cX12_looks 100 = .ok (.iadd, 1) := by decide +kernel
theorem dX12_looks_101 : decode cX12_looks 101 = .ok (.if_icmp .ge 329, 3) := by decide +kernel
theorem dX12_looks_104 : decode cX12_looks 104 = .ok (.aload_n 0, 1) := by decide +kernel
theorem dX12_looks_105 : decode cX12_looks 105 = .ok (.getfield 9, 3) := by decide +kernel
theorem dX12_looks_108 : decode cX12_looks 108 = .ok (.iload 5, 2) := by decide +kernel
theorem dX12_looks_110 : decode cX12_looks 110 = .ok (.iaload, 1) := by decide +kernel
theorem dX12_looks_111 : decode cX12_looks 111 = .ok (.istore 6, 2) := by decide +kernel
theorem dX12_looks_113 : decode cX12_looks 113 = .ok (.iload 6, 2) := by decide +kernel
theorem dX12_looks_115 : decode cX12_looks 115 = .ok (.ifCond .lt 97, 3) := by decide +kernel
theorem dX12_looks_118 : decode cX12_looks 118 = .ok (.aload_n 0, 1) := by decide +kernel
theorem dX12_looks_119 : decode cX12_looks 119 = .ok (.getfield 18, 3) := by decide +kernel
theorem dX12_looks_122 : decode cX12_looks 122 = .ok (.iload 6, 2) := by decide +kernel
theorem dX12_looks_124 : decode cX12_looks 124 = .ok (.bipush 8, 2) := by decide +kernel
theorem dX12_looks_126 : decode cX12_looks 126 = .ok (.irem, 1) := by decide +kernel
theorem dX12_looks_127 : decode cX12_looks 127 = .ok (.iaload, 1) := by decide +kernel
theorem dX12_looks_128 : decode cX12_looks 128 = .ok (.istore 7, 2) := by decide +kernel
theorem dX12_looks_130 : decode cX12_looks 130 = .ok (.iload 6, 2) := by decide +kernel
theorem dX12_looks_132 : decode cX12_looks 132 = .ok (.bipush 8, 2) := by decide +kernel
theorem dX12_looks_134 : decode cX12_looks 134 = .ok (.idiv, 1) := by decide +kernel
theorem dX12_looks_135 : decode cX12_looks 135 = .ok (.iconst 4, 1) := by decide +kernel
theorem dX12_looks_136 : decode cX12_looks 136 = .ok (.irem, 1) := by decide +kernel
theorem dX12_looks_137 : decode cX12_looks 137 = .ok (.istore 8, 2) := by decide +kernel
theorem dX12_looks_139 : decode cX12_looks 139 = .ok (.iload 6, 2) := by decide +kernel
theorem dX12_looks_141 : decode cX12_looks 141 = .ok (.bipush 32, 2) := by decide +kernel
theorem dX12_looks_143 : decode cX12_looks 143 = .ok (.idiv, 1) := by decide +kernel
theorem dX12_looks_144 : decode cX12_looks 144 = .ok (.istore 9, 2) := by decide +kernel
theorem dX12_looks_146 : decode cX12_looks 146 = .ok (.aload_n 0, 1) := by decide +kernel
theorem dX12_looks_147 : decode cX12_looks 147 = .ok (.getfield 21, 3) := by decide +kernel
theorem dX12_looks_150 : decode cX12_looks 150 = .ok (.iload 4, 2) := by decide +kernel
theorem dX12_looks_152 : decode cX12_looks 152 = .ok (.iload 8, 2) := by decide +kernel
theorem dX12_looks_154 : decode cX12_looks 154 = .ok (.ifCond .ne 18, 3) := by decide +kernel
theorem dX12_looks_157 : decode cX12_looks 157 = .ok (.iload 7, 2) := by decide +kernel
theorem dX12_looks_159 : decode cX12_looks 159 = .ok (.iload 9, 2) := by decide +kernel
theorem dX12_looks_161 : decode cX12_looks 161 = .ok (.if_icmp .ge 7, 3) := by decide +kernel
theorem dX12_looks_164 : decode cX12_looks 164 = .ok (.iconst 1, 1) := by decide +kernel
theorem dX12_looks_165 : decode cX12_looks 165 = .ok (.goto 40, 3) := by decide +kernel
theorem dX12_looks_168 : decode cX12_looks 168 = .ok (.iconst 0, 1) := by decide +kernel
theorem dX12_looks_169 : decode cX12_looks 169 = .ok (.goto 36, 3) := by decide +kernel
theorem dX12_looks_172 : decode cX12_looks 172 = .ok (.iload 8, 2) := by decide +kernel
theorem dX12_looks_174 : decode cX12_looks 174 = .ok (.iconst 1, 1) := by decide +kernel
theorem dX12_looks_175 : decode cX12_looks 175 = .ok (.if_icmp .ne 18, 3) := by decide +kernel
theorem dX12_looks_178 : decode cX12_looks 178 = .ok (.iload 7, 2) := by decide +kernel
theorem dX12_looks_180 : decode cX12_looks 180 = .ok (.iload 9, 2) := by decide +kernel
theorem dX12_looks_182 : decode cX12_looks 182 = .ok (.if_icmp .ne 7, 3) := by decide +kernel
theorem dX12_looks_185 : decode cX12_looks 185 = .ok (.iconst 1, 1) := by decide +kernel
theorem dX12_looks_186 : decode cX12_looks 186 = .ok (.goto 19, 3) := by decide +kernel
theorem dX12_looks_189 : decode cX12_looks 189 = .ok (.iconst 0, 1) := by decide +kernel
theorem dX12_looks_190 : decode cX12_looks 190 = .ok (.goto 15, 3) := by decide +kernel
theorem dX12_looks_193 : decode cX12_looks 193 = .ok (.iload 7, 2) := by decide +kernel
theorem dX12_looks_195 : decode cX12_looks 195 = .ok (.iload 9, 2) := by decide +kernel
theorem dX12_looks_197 : decode cX12_looks 197 = .ok (.if_icmp .le 7, 3) := by decide +kernel
theorem dX12_looks_200 : decode cX12_looks 200 = .ok (.iconst 1, 1) := by decide +kernel
theorem dX12_looks_201 : decode cX12_looks 201 = .ok (.goto 4, 3) := by decide +kernel
theorem dX12_looks_204 : decode cX12_looks 204 = .ok (.iconst 0, 1) := by decide +kernel
theorem dX12_looks_205 : decode cX12_looks 205 = .ok (.bastore, 1) := by decide +kernel
theorem dX12_looks_206 : decode cX12_looks 206 = .ok (.iinc 4 1, 3) := by decide +kernel
theorem dX12_looks_209 : decode cX12_looks 209 = .ok (.goto 215, 3) := by decide +kernel
theorem dX12_looks_212 : decode cX12_looks 212 = .ok (.iload 6, 2) := by decide +kernel
theorem dX12_looks_214 : decode cX12_looks 214 = .ok (.iconst (-1), 1) := by decide +kernel
theorem dX12_looks_215 : decode cX12_looks 215 = .ok (.if_icmp .ne 32, 3) := by decide +kernel
theorem dX12_looks_218 : decode cX12_looks 218 = .ok (.aload_n 0, 1) := by decide +kernel
theorem dX12_looks_219 : decode cX12_looks 219 = .ok (.getfield 21, 3) := by decide +kernel
theorem dX12_looks_222 : decode cX12_looks 222 = .ok (.iload 4, 2) := by decide +kernel
theorem dX12_looks_224 : decode cX12_looks 224 = .ok (.iconst 1, 1) := by decide +kernel
theorem dX12_looks_225 : decode cX12_looks 225 = .ok (.isub, 1) := by decide +kernel
theorem dX12_looks_226 : decode cX12_looks 226 = .ok (.aload_n 0, 1) := by decide +kernel
theorem dX12_looks_227 : decode cX12_looks 227 = .ok (.getfield 21, 3) := by decide +kernel
theorem dX12_looks_230 : decode cX12_looks 230 = .ok (.iload 4, 2) := by decide +kernel
theorem dX12_looks_232 : decode cX12_looks 232 = .ok (.iconst 1, 1) := by decide +kernel
theorem dX12_looks_233 : decode cX12_looks 233 = .ok (.isub, 1) := by decide +kernel
theorem dX12_looks_234 : decode cX12_looks 234 = .ok (.baload, 1) := by decide +kernel
theorem dX12_looks_235 : decode cX12_looks 235 = .ok (.ifCond .ne 7, 3) := by decide +kernel
theorem dX12_looks_238 : decode cX12_looks 238 = .ok (.iconst 1, 1) := by decide +kernel
theorem dX12_looks_239 : decode cX12_looks 239 = .ok (.goto 4, 3) := by decide +kernel
theorem dX12_looks_242 : decode cX12_looks 242 = .ok (.iconst 0, 1) := by decide +kernel
theorem dX12_looks_243 : decode cX12_looks 243 = .ok (.bastore, 1) := by decide +kernel
theorem dX12_looks_244 : decode cX12_looks 244 = .ok (.goto 180, 3) := by decide +kernel
theorem dX12_looks_247 : decode cX12_looks 247 = .ok (.iload 6, 2) := by decide +kernel
theorem dX12_looks_249 : decode cX12_looks 249 = .ok (.bipush (-10), 2) := by decide +kernel
theorem dX12_looks_251 : decode cX12_looks 251 = .ok (.if_icmp .le 82, 3) := by decide +kernel
theorem dX12_looks_254 : decode cX12_looks 254 = .ok (.iinc 4 (-1), 3) := by decide +kernel
theorem dX12_looks_257 : decode cX12_looks 257 = .ok (.aload_n 0, 1) := by decide +kernel
theorem dX12_looks_258 : decode cX12_looks 258 = .ok (.getfield 21, 3) := by decide +kernel
theorem dX12_looks_261 : decode cX12_looks 261 = .ok (.iload 4, 2) := by decide +kernel
theorem dX12_looks_263 : decode cX12_looks 263 = .ok (.iconst 1, 1) := by decide +kernel
theorem dX12_looks_264 : decode cX12_looks 264 = .ok (.isub, 1) := by decide +kernel
theorem dX12_looks_265 : decode cX12_looks 265 = .ok (.iload 6, 2) := by decide +kernel
theorem dX12_looks_267 : decode cX12_looks 267 = .ok (.bipush (-2), 2) := by decide +kernel
theorem dX12_looks_269 : decode cX12_looks 269 = .ok (.if_icmp .ne 33, 3) := by decide +kernel
theorem dX12_looks_272 : decode cX12_looks 272 = .ok (.aload_n 0, 1) := by decide +kernel
theorem dX12_looks_273 : decode cX12_looks 273 = .ok (.getfield 21, 3) := by decide +kernel
theorem dX12_looks_276 : decode cX12_looks 276 = .ok (.iload 4, 2) := by decide +kernel
theorem dX12_looks_278 : decode cX12_looks 278 = .ok (.iconst 1, 1) := by decide +kernel
theorem dX12_looks_279 : decode cX12_looks 279 = .ok (.isub, 1) := by decide +kernel
theorem dX12_looks_280 : decode cX12_looks 280 = .ok (.baload, 1) := by decide +kernel
theorem dX12_looks_281 : decode cX12_looks 281 = .ok (.ifCond .eq 17, 3) := by decide +kernel
theorem dX12_looks_284 : decode cX12_looks 284 = .ok (.aload_n 0, 1) := by decide +kernel
theorem dX12_looks_285 : decode cX12_looks 285 = .ok (.getfield 21, 3) := by decide +kernel
theorem dX12_looks_288 : decode cX12_looks 288 = .ok (.iload 4, 2) := by decide +kernel
theorem dX12_looks_290 : decode cX12_looks 290 = .ok (.baload, 1) := by decide +kernel
theorem dX12_looks_291 : decode cX12_looks 291 = .ok (.ifCond .eq 7, 3) := by decide +kernel
theorem dX12_looks_294 : decode cX12_looks 294 = .ok (.iconst 1, 1) := by decide +kernel
theorem dX12_looks_295 : decode cX12_looks 295 = .ok (.goto 34, 3) := by decide +kernel
theorem dX12_looks_298 : decode cX12_looks 298 = .ok (.iconst 0, 1) := by decide +kernel
theorem dX12_looks_299 : decode cX12_looks 299 = .ok (.goto 30, 3) := by decide +kernel
theorem dX12_looks_302 : decode cX12_looks 302 = .ok (.aload_n 0, 1) := by decide +kernel
theorem dX12_looks_303 : decode cX12_looks 303 = .ok (.getfield 21, 3) := by decide +kernel
theorem dX12_looks_306 : decode cX12_looks 306 = .ok (.iload 4, 2) := by decide +kernel
theorem dX12_looks_308 : decode cX12_looks 308 = .ok (.iconst 1, 1) := by decide +kernel
theorem dX12_looks_309 : decode cX12_looks 309 = .ok (.isub, 1) := by decide +kernel
theorem dX12_looks_310 : decode cX12_looks 310 = .ok (.baload, 1) := by decide +kernel
theorem dX12_looks_311 : decode cX12_looks 311 = .ok (.ifCond .ne 13, 3) := by decide +kernel
theorem dX12_looks_314 : decode cX12_looks 314 = .ok (.aload_n 0, 1) := by decide +kernel
theorem dX12_looks_315 : decode cX12_looks 315 = .ok (.getfield 21, 3) := by decide +kernel
theorem dX12_looks_318 : decode cX12_looks 318 = .ok (.iload 4, 2) := by decide +kernel
theorem dX12_looks_320 : decode cX12_looks 320 = .ok (.baload, 1) := by decide +kernel
theorem dX12_looks_321 : decode cX12_looks 321 = .ok (.ifCond .eq 7, 3) := by decide +kernel
theorem dX12_looks_324 : decode cX12_looks 324 = .ok (.iconst 1, 1) := by decide +kernel
theorem dX12_looks_325 : decode cX12_looks 325 = .ok (.goto 4, 3) := by decide +kernel
theorem dX12_looks_328 : decode cX12_looks 328 = .ok (.iconst 0, 1) := by decide +kernel
theorem dX12_looks_329 : decode cX12_looks 329 = .ok (.bastore, 1) := by decide +kernel
theorem dX12_looks_330 : decode cX12_looks 330 = .ok (.goto 94, 3) := by decide +kernel
theorem dX12_looks_333 : decode cX12_looks 333 = .ok (.iconst 0, 1) := by decide +kernel
theorem dX12_looks_334 : decode cX12_looks 334 = .ok (.istore 4, 2) := by decide +kernel
theorem dX12_looks_336 : decode cX12_looks 336 = .ok (.aload_n 0, 1) := by decide +kernel
theorem dX12_looks_337 : decode cX12_looks 337 = .ok (.getfield 21, 3) := by decide +kernel
theorem dX12_looks_340 : decode cX12_looks 340 = .ok (.iconst 0, 1) := by decide +kernel
theorem dX12_looks_341 : decode cX12_looks 341 = .ok (.baload, 1) := by decide +kernel
theorem dX12_looks_342 : decode cX12_looks 342 = .ok (.istore 7, 2) := by decide +kernel
theorem dX12_looks_344 : decode cX12_looks 344 = .ok (.aload_n 0, 1) := by decide +kernel
theorem dX12_looks_345 : decode cX12_looks 345 = .ok (.dup, 1) := by decide +kernel
theorem dX12_looks_346 : decode cX12_looks 346 = .ok (.getfield 121, 3) := by decide +kernel
theorem dX12_looks_349 : decode cX12_looks 349 = .ok (.iload 7, 2) := by decide +kernel
theorem dX12_looks_351 : decode cX12_looks 351 = .ok (.ifCond .eq 11, 3) := by decide +kernel
theorem dX12_looks_354 : decode cX12_looks 354 = .ok (.iload 6, 2) := by decide +kernel
theorem dX12_looks_356 : decode cX12_looks 356 = .ok (.sipush (-400), 3) := by decide +kernel
theorem dX12_looks_359 : decode cX12_looks 359 = .ok (.if_icmp .gt 7, 3) := by decide +kernel
theorem dX12_looks_362 : decode cX12_looks 362 = .ok (.iconst 0, 1) := by decide +kernel
theorem dX12_looks_363 : decode cX12_looks 363 = .ok (.goto 25, 3) := by decide +kernel
theorem dX12_looks_366 : decode cX12_looks 366 = .ok (.iload 6, 2) := by decide +kernel
theorem dX12_looks_368 : decode cX12_looks 368 = .ok (.sipush (-200), 3) := by decide +kernel
theorem dX12_looks_371 : decode cX12_looks 371 = .ok (.if_icmp .le 11, 3) := by decide +kernel
theorem dX12_looks_374 : decode cX12_looks 374 = .ok (.bipush (-10), 2) := by decide +kernel
theorem dX12_looks_376 : decode cX12_looks 376 = .ok (.iload 6, 2) := by decide +kernel
theorem dX12_looks_378 : decode cX12_looks 378 = .ok (.isub, 1) := by decide +kernel
theorem dX12_looks_379 : decode cX12_looks 379 = .ok (.goto 9, 3) := by decide +kernel
theorem dX12_looks_382 : decode cX12_looks 382 = .ok (.iload 6, 2) := by decide +kernel
theorem dX12_looks_384 : decode cX12_looks 384 = .ok (.sipush (-200), 3) := by decide +kernel
theorem dX12_looks_387 : decode cX12_looks 387 = .ok (.isub, 1) := by decide +kernel
theorem dX12_looks_388 : decode cX12_looks 388 = .ok (.iadd, 1) := by decide +kernel
theorem dX12_looks_389 : decode cX12_looks 389 = .ok (.putfield 121, 3) := by decide +kernel
theorem dX12_looks_392 : decode cX12_looks 392 = .ok (.aload_n 0, 1) := by decide +kernel
theorem dX12_looks_393 : decode cX12_looks 393 = .ok (.dup, 1) := by decide +kernel
theorem dX12_looks_394 : decode cX12_looks 394 = .ok (.getfield 124, 3) := by decide +kernel
theorem dX12_looks_397 : decode cX12_looks 397 = .ok (.iload 7, 2) := by decide +kernel
theorem dX12_looks_399 : decode cX12_looks 399 = .ok (.ifCond .eq 20, 3) := by decide +kernel
theorem dX12_looks_402 : decode cX12_looks 402 = .ok (.iload 6, 2) := by decide +kernel
theorem dX12_looks_404 : decode cX12_looks 404 = .ok (.sipush (-400), 3) := by decide +kernel
theorem dX12_looks_407 : decode cX12_looks 407 = .ok (.if_icmp .gt 12, 3) := by decide +kernel
theorem dX12_looks_410 : decode cX12_looks 410 = .ok (.sipush (-400), 3) := by decide +kernel
theorem dX12_looks_413 : decode cX12_looks 413 = .ok (.iload 6, 2) := by decide +kernel
theorem dX12_looks_415 : decode cX12_looks 415 = .ok (.isub, 1) := by decide +kernel
theorem dX12_looks_416 : decode cX12_looks 416 = .ok (.goto 4, 3) := by decide +kernel
theorem dX12_looks_419 : decode cX12_looks 419 = .ok (.iconst 0, 1) := by decide +kernel
theorem dX12_looks_420 : decode cX12_looks 420 = .ok (.iadd, 1) := by decide +kernel
theorem dX12_looks_421 : decode cX12_looks 421 = .ok (.putfield 124, 3) := by decide +kernel
theorem dX12_looks_424 : decode cX12_looks 424 = .ok (.iinc 5 1, 3) := by decide +kernel
theorem dX12_looks_427 : decode cX12_looks 427 = .ok (.goto (-331), 3) := by decide +kernel
theorem dX12_looks_430 : decode cX12_looks 430 = .ok (.aload_n 0, 1) := by decide +kernel
theorem dX12_looks_431 : decode cX12_looks 431 = .ok (.aload_n 0, 1) := by decide +kernel
theorem dX12_looks_432 : decode cX12_looks 432 = .ok (.getfield 124, 3) := by decide +kernel
theorem dX12_looks_435 : decode cX12_looks 435 = .ok (.bipush 10, 2) := by decide +kernel
theorem dX12_looks_437 : decode cX12_looks 437 = .ok (.if_icmp .le 8, 3) := by decide +kernel
theorem dX12_looks_440 : decode cX12_looks 440 = .ok (.bipush 10, 2) := by decide +kernel
theorem dX12_looks_442 : decode cX12_looks 442 = .ok (.goto 7, 3) := by decide +kernel
theorem dX12_looks_445 : decode cX12_looks 445 = .ok (.aload_n 0, 1) := by decide +kernel
theorem dX12_looks_446 : decode cX12_looks 446 = .ok (.getfield 124, 3) := by decide +kernel
theorem dX12_looks_449 : decode cX12_looks 449 = .ok (.putfield 124, 3) := by decide +kernel
theorem dX12_looks_452 : decode cX12_looks 452 = .ok (.return_, 1) := by decide +kernel
set_option maxRecDepth 100000 in
set_option maxHeartbeats 4000000 in
theorem looks_test {X : zX} {Ko : Option Value → Hp → Prop} {h : Hp} {m : Nat} {F : Nat → Int32} {A : Nat → Nat → Int32} {a1 a2 a3 i5 : Int32} (B : zB X cX12_looks 10 yX12_looks.cls yX12_looks.name none) {s n t : Nat} {x : Nat → Nat} (hx3 : ∀ k, k < 3 → A 3 k = nI (x k)) (hxb : ∀ k, k < 3 → x k < 2 ^ 30) (hs9 : s < 9) (hn : n ≤ 99) (ht : t < 64) (k : AW X 0 0 96 (LL m a1 a2 a3 (nI (t + 1)) (i5 + 1)) [] (hM (zXg X) h m (F) (mup A 4 (upd (A 4) t (b2 (tst x s n))))) Ko) : AW X 0 0 111 (LL m a1 a2 a3 (nI t) i5) [.int (cd s n)] (hM (zXg X) h m F A) Ko := by
  unfold LL
  have ec : cd s n = nI (s / 3 + 8 * (s % 3) + 32 * n) := by unfold cd; rw [if_pos hs9]
  rw [ec]
  generalize hc0 : s / 3 + 8 * (s % 3) + 32 * n = c0
  have hcl : c0 < 5000 := by omega
  have e8 : nI c0 - nI c0 / 8 * 8 = nI (s / 3) := by
    rw [show nI c0 - nI c0 / 8 * 8 = nI (c0 % 8) from pk_rem (d := 8) (by omega) (by decide) (by decide)]
    congr 1; omega
  have e84 : nI c0 / 8 - nI c0 / 8 / 4 * 4 = nI (s % 3) := by
    rw [show nI c0 / 8 = nI (c0 / 8) from pk_div (d := 8) (by omega) (by decide) (by decide), show nI (c0 / 8) - nI (c0 / 8) / 4 * 4 = nI (c0 / 8 % 4) from pk_rem (d := 4) (by omega) (by decide) (by decide)]
    have k1 : c0 / 8 = s % 3 + 4 * n := by omega
    rw [k1]; congr 1; omega
  have e32 : nI c0 / 32 = nI n := by
    rw [show nI c0 / 32 = nI (c0 / 32) from pk_div (d := 32) (by omega) (by decide) (by decide)]
    congr 1; omega
  have hxb : x (s / 3) < 2 ^ 30 := hxb _ (by omega)
  have q0 : nI (s % 3) = 0 ↔ s % 3 = 0 := nI_eq (b := 0) (by omega) (by decide)
  have q1 : nI (s % 3) = 1 ↔ s % 3 = 1 := nI_eq (b := 1) (by omega) (by decide)
  have q2 : nI n ≤ nI (x (s / 3)) ↔ n ≤ x (s / 3) := nI_leI (by omega) (by omega)
  have q3 : nI (x (s / 3)) = nI n ↔ x (s / 3) = n := nI_eq (by omega) (by omega)
  have q4 : nI (x (s / 3)) ≤ nI n ↔ x (s / 3) ≤ n := nI_leI (by omega) (by omega)
  have t205 : AW X 0 0 205 [some (.ref m), some (.int a1), some (.int a2), some (.int a3), some (.int (nI t)), some (.int i5), some (.int (nI c0)), some (.int (nI (x (s / 3)))), some (.int (nI (s % 3))), some (.int (nI n))] [.int (b2 (tst x s n)), .int (nI t), .ref (m + 4)] (hM (zXg X) h m F A) Ko := by
    refine m_zst B (t) (b2_01 _) (rfl) (by omega) dX12_looks_205 ?_
    refine aw_iinc4 B 1 (by decide) dX12_looks_206 ?_
    refine aw_goto B 424 dX12_looks_209 ?_
    refine aw_iinc5 B 1 (by decide) dX12_looks_424 ?_
    refine aw_goto B 96 dX12_looks_427 ?_
    rw [nI_1]
    refine AW.weak ?_ k
    exact ⟨Or.inr rfl, Or.inr rfl, Or.inr rfl, Or.inr rfl, Or.inr rfl, Or.inr rfl, Or.inl rfl, Or.inl rfl, Or.inl rfl, Or.inl rfl, trivial⟩
  refine aw_istore6 B dX12_looks_111 ?_
  refine aw_iload B dX12_looks_113 rfl ?_
  refine aw_if_lt B 212 dX12_looks_115 (fun c115 => absurd c115 (by rw [Int32.not_lt]; exact nI_pos' (by omega))) (fun c115 => ?_)
  refine aw_aload_n B 0 rfl dX12_looks_118 rfl ?_
  refine m_get B f_X12_18 dX12_looks_119 (mg_9 _ _) ?_
  refine aw_iload B dX12_looks_122 rfl ?_
  refine aw_bipush B 8 (by decide) dX12_looks_124 ?_
  refine aw_irem B (by decide) dX12_looks_126 ?_
  rw [e8]
  refine m_ld B (s / 3) (rfl) (by show _ < 3; omega) dX12_looks_127 (by decide) ?_
  rw [hx3 (s / 3) (by omega)]
  refine aw_istore7 B dX12_looks_128 ?_
  refine aw_iload B dX12_looks_130 rfl ?_
  refine aw_bipush B 8 (by decide) dX12_looks_132 ?_
  refine aw_idiv B (by decide) dX12_looks_134 ?_
  refine aw_iconst B 4 (by decide) dX12_looks_135 ?_
  refine aw_irem B (by decide) dX12_looks_136 ?_
  rw [e84]
  refine aw_istore8 B dX12_looks_137 ?_
  refine aw_iload B dX12_looks_139 rfl ?_
  refine aw_bipush B 32 (by decide) dX12_looks_141 ?_
  refine aw_idiv B (by decide) dX12_looks_143 ?_
  rw [e32]
  refine aw_istore9 B dX12_looks_144 ?_
  refine aw_aload_n B 0 rfl dX12_looks_146 rfl ?_
  refine m_get B f_X12_21 dX12_looks_147 (mg_10 _ _) ?_
  refine aw_iload B dX12_looks_150 rfl ?_
  refine aw_iload B dX12_looks_152 rfl ?_
  refine aw_if_ne B 172 dX12_looks_154 (fun c154 => ?_) (fun c154 => ?_)
  · refine aw_iload B dX12_looks_172 rfl ?_
    refine aw_iconst B 1 (by decide) dX12_looks_174 ?_
    refine aw_icmp_ne B 193 dX12_looks_175 (fun c175 => ?_) (fun c175 => ?_)
    · refine aw_iload B dX12_looks_193 rfl ?_
      refine aw_iload B dX12_looks_195 rfl ?_
      refine aw_icmp_le B 204 dX12_looks_197 (fun c197 => ?_) (fun c197 => ?_)
      · refine aw_iconst B 0 (by decide) dX12_looks_204 ?_
        have hb : b2 (tst x s n) = 0 := by unfold tst; rw [if_neg (fun z => c154 (q0.mpr z)), if_neg (fun z => c175 (q1.mpr z)), b2f (Nat.not_lt.mpr (q4.mp c197))]
        rw [hb] at t205
        exact t205
      · refine aw_iconst B 1 (by decide) dX12_looks_200 ?_
        refine aw_goto B 205 dX12_looks_201 ?_
        have hb : b2 (tst x s n) = 1 := by unfold tst; rw [if_neg (fun z => c154 (q0.mpr z)), if_neg (fun z => c175 (q1.mpr z)), b2t (Nat.not_le.mp (fun z => c197 (q4.mpr z)))]
        rw [hb] at t205
        exact t205
    · refine aw_iload B dX12_looks_178 rfl ?_
      refine aw_iload B dX12_looks_180 rfl ?_
      refine aw_icmp_ne B 189 dX12_looks_182 (fun c182 => ?_) (fun c182 => ?_)
      · refine aw_iconst B 0 (by decide) dX12_looks_189 ?_
        refine aw_goto B 205 dX12_looks_190 ?_
        have hb : b2 (tst x s n) = 0 := by unfold tst; rw [if_neg (fun z => c154 (q0.mpr z)), if_pos (q1.mp c175), b2f (fun z => c182 (q3.mpr z))]
        rw [hb] at t205
        exact t205
      · refine aw_iconst B 1 (by decide) dX12_looks_185 ?_
        refine aw_goto B 205 dX12_looks_186 ?_
        have hb : b2 (tst x s n) = 1 := by unfold tst; rw [if_neg (fun z => c154 (q0.mpr z)), if_pos (q1.mp c175), b2t (q3.mp c182)]
        rw [hb] at t205
        exact t205
  · refine aw_iload B dX12_looks_157 rfl ?_
    refine aw_iload B dX12_looks_159 rfl ?_
    refine aw_icmp_ge B 168 dX12_looks_161 (fun c161 => ?_) (fun c161 => ?_)
    · refine aw_iconst B 0 (by decide) dX12_looks_168 ?_
      refine aw_goto B 205 dX12_looks_169 ?_
      have hb : b2 (tst x s n) = 0 := by unfold tst; rw [if_pos (q0.mp c154), b2f (Nat.not_lt.mpr (q2.mp c161))]
      rw [hb] at t205
      exact t205
    · refine aw_iconst B 1 (by decide) dX12_looks_164 ?_
      refine aw_goto B 205 dX12_looks_165 ?_
      have hb : b2 (tst x s n) = 1 := by unfold tst; rw [if_pos (q0.mp c154), b2t (Nat.not_le.mp (fun z => c161 (q2.mpr z)))]
      rw [hb] at t205
      exact t205
set_option maxRecDepth 100000 in
set_option maxHeartbeats 4000000 in
theorem looks_not {X : zX} {Ko : Option Value → Hp → Prop} {h : Hp} {m : Nat} {F : Nat → Int32} {A : Nat → Nat → Int32} {a1 a2 a3 i5 : Int32} (B : zB X cX12_looks 10 yX12_looks.cls yX12_looks.name none) {t : Nat} {b : Bool} (e4 : A 4 t = b2 b) (ht : t < 64) (k : AW X 0 0 96 (LL m a1 a2 a3 (nI (t + 1)) (i5 + 1)) [] (hM (zXg X) h m (F) (mup A 4 (upd (A 4) t (b2 (!b))))) Ko) : AW X 0 0 111 (LL m a1 a2 a3 (nI (t + 1)) i5) [.int (-1)] (hM (zXg X) h m F A) Ko := by
  unfold LL
  refine aw_istore6 B dX12_looks_111 ?_
  refine aw_iload B dX12_looks_113 rfl ?_
  refine aw_if_lt B 212 dX12_looks_115 (fun c115 => ?_) (fun c115 => absurd (by decide) c115)
  refine aw_iload B dX12_looks_212 rfl ?_
  refine aw_iconst B (-1) (by decide) dX12_looks_214 ?_
  refine aw_icmp_ne B 247 dX12_looks_215 (fun c215 => absurd rfl c215) (fun c215 => ?_)
  refine aw_aload_n B 0 rfl dX12_looks_218 rfl ?_
  refine m_get B f_X12_21 dX12_looks_219 (mg_10 _ _) ?_
  refine aw_iload B dX12_looks_222 rfl ?_
  refine aw_iconst B 1 (by decide) dX12_looks_224 ?_
  refine aw_isub B dX12_looks_225 ?_
  refine aw_aload_n B 0 rfl dX12_looks_226 rfl ?_
  refine m_get B f_X12_21 dX12_looks_227 (mg_10 _ _) ?_
  refine aw_iload B dX12_looks_230 rfl ?_
  refine aw_iconst B 1 (by decide) dX12_looks_232 ?_
  refine aw_isub B dX12_looks_233 ?_
  refine m_zld B (t) (nI_pred _) (by omega) dX12_looks_234 ?_
  rw [e4]
  refine aw_if_ne B 242 dX12_looks_235 (fun c235 => ?_) (fun c235 => ?_)
  · refine aw_iconst B 0 (by decide) dX12_looks_242 ?_
    refine m_zst B (t) (by decide) (nI_pred _) (by omega) dX12_looks_243 ?_
    refine aw_goto B 424 dX12_looks_244 ?_
    refine aw_iinc5 B 1 (by decide) dX12_looks_424 ?_
    refine aw_goto B 96 dX12_looks_427 ?_
    have hb : b2 (!b) = 0 := by cases b <;> simp_all [b2]
    rw [hb] at k
    refine AW.weak ?_ k
    exact ⟨Or.inr rfl, Or.inr rfl, Or.inr rfl, Or.inr rfl, Or.inr rfl, Or.inr rfl, Or.inl rfl, Or.inl rfl, Or.inl rfl, Or.inl rfl, trivial⟩
  · refine aw_iconst B 1 (by decide) dX12_looks_238 ?_
    refine aw_goto B 243 dX12_looks_239 ?_
    refine m_zst B (t) (by decide) (nI_pred _) (by omega) dX12_looks_243 ?_
    refine aw_goto B 424 dX12_looks_244 ?_
    refine aw_iinc5 B 1 (by decide) dX12_looks_424 ?_
    refine aw_goto B 96 dX12_looks_427 ?_
    have hb : b2 (!b) = 1 := by cases b <;> simp_all [b2]
    rw [hb] at k
    refine AW.weak ?_ k
    exact ⟨Or.inr rfl, Or.inr rfl, Or.inr rfl, Or.inr rfl, Or.inr rfl, Or.inr rfl, Or.inl rfl, Or.inl rfl, Or.inl rfl, Or.inl rfl, trivial⟩
set_option maxRecDepth 100000 in
set_option maxHeartbeats 4000000 in
theorem looks_and {X : zX} {Ko : Option Value → Hp → Prop} {h : Hp} {m : Nat} {F : Nat → Int32} {A : Nat → Nat → Int32} {a1 a2 a3 i5 : Int32} (B : zB X cX12_looks 10 yX12_looks.cls yX12_looks.name none) {t : Nat} {b b' : Bool} (e4 : A 4 t = b2 b') (e5 : A 4 (t + 1) = b2 b) (ht : t < 60) (k : AW X 0 0 96 (LL m a1 a2 a3 (nI (t + 1)) (i5 + 1)) [] (hM (zXg X) h m (F) (mup A 4 (upd (A 4) t (b2 (b' && b))))) Ko) : AW X 0 0 111 (LL m a1 a2 a3 (nI (t + 2)) i5) [.int (-2)] (hM (zXg X) h m F A) Ko := by
  unfold LL
  have em1 : nI (t + 2) + -1 = nI (t + 1) := pk_m1 _
  have em2 : nI (t + 1) - 1 = nI t := nI_pred _
  refine aw_istore6 B dX12_looks_111 ?_
  refine aw_iload B dX12_looks_113 rfl ?_
  refine aw_if_lt B 212 dX12_looks_115 (fun c115 => ?_) (fun c115 => absurd (by decide) c115)
  refine aw_iload B dX12_looks_212 rfl ?_
  refine aw_iconst B (-1) (by decide) dX12_looks_214 ?_
  refine aw_icmp_ne B 247 dX12_looks_215 (fun c215 => ?_) (fun c215 => absurd c215 (by decide))
  refine aw_iload B dX12_looks_247 rfl ?_
  refine aw_bipush B (-10) (by decide) dX12_looks_249 ?_
  refine aw_icmp_le B 333 dX12_looks_251 (fun c251 => absurd c251 (by decide)) (fun c251 => ?_)
  refine aw_iinc4 B (-1) (by decide) dX12_looks_254 ?_
  rw [em1]
  refine aw_aload_n B 0 rfl dX12_looks_257 rfl ?_
  refine m_get B f_X12_21 dX12_looks_258 (mg_10 _ _) ?_
  refine aw_iload B dX12_looks_261 rfl ?_
  refine aw_iconst B 1 (by decide) dX12_looks_263 ?_
  refine aw_isub B dX12_looks_264 ?_
  refine aw_iload B dX12_looks_265 rfl ?_
  refine aw_bipush B (-2) (by decide) dX12_looks_267 ?_
  refine aw_icmp_ne B 302 dX12_looks_269 (fun c269 => absurd rfl c269) (fun c269 => ?_)
  refine aw_aload_n B 0 rfl dX12_looks_272 rfl ?_
  refine m_get B f_X12_21 dX12_looks_273 (mg_10 _ _) ?_
  refine aw_iload B dX12_looks_276 rfl ?_
  refine aw_iconst B 1 (by decide) dX12_looks_278 ?_
  refine aw_isub B dX12_looks_279 ?_
  refine m_zld B (t) (em2) (by omega) dX12_looks_280 ?_
  rw [e4]
  refine aw_if_eq B 298 dX12_looks_281 (fun c281 => ?_) (fun c281 => ?_)
  · refine aw_iconst B 0 (by decide) dX12_looks_298 ?_
    refine aw_goto B 329 dX12_looks_299 ?_
    refine m_zst B (t) (by decide) (em2) (by omega) dX12_looks_329 ?_
    refine aw_goto B 424 dX12_looks_330 ?_
    refine aw_iinc5 B 1 (by decide) dX12_looks_424 ?_
    refine aw_goto B 96 dX12_looks_427 ?_
    have hb : b2 (b' && b) = 0 := by cases b <;> cases b' <;> simp_all [b2]
    rw [hb] at k
    refine AW.weak ?_ k
    exact ⟨Or.inr rfl, Or.inr rfl, Or.inr rfl, Or.inr rfl, Or.inr rfl, Or.inr rfl, Or.inl rfl, Or.inl rfl, Or.inl rfl, Or.inl rfl, trivial⟩
  · refine aw_aload_n B 0 rfl dX12_looks_284 rfl ?_
    refine m_get B f_X12_21 dX12_looks_285 (mg_10 _ _) ?_
    refine aw_iload B dX12_looks_288 rfl ?_
    refine m_zld B (t + 1) (rfl) (by omega) dX12_looks_290 ?_
    rw [e5]
    refine aw_if_eq B 298 dX12_looks_291 (fun c291 => ?_) (fun c291 => ?_)
    · refine aw_iconst B 0 (by decide) dX12_looks_298 ?_
      refine aw_goto B 329 dX12_looks_299 ?_
      refine m_zst B (t) (by decide) (em2) (by omega) dX12_looks_329 ?_
      refine aw_goto B 424 dX12_looks_330 ?_
      refine aw_iinc5 B 1 (by decide) dX12_looks_424 ?_
      refine aw_goto B 96 dX12_looks_427 ?_
      have hb : b2 (b' && b) = 0 := by cases b <;> cases b' <;> simp_all [b2]
      rw [hb] at k
      refine AW.weak ?_ k
      exact ⟨Or.inr rfl, Or.inr rfl, Or.inr rfl, Or.inr rfl, Or.inr rfl, Or.inr rfl, Or.inl rfl, Or.inl rfl, Or.inl rfl, Or.inl rfl, trivial⟩
    · refine aw_iconst B 1 (by decide) dX12_looks_294 ?_
      refine aw_goto B 329 dX12_looks_295 ?_
      refine m_zst B (t) (by decide) (em2) (by omega) dX12_looks_329 ?_
      refine aw_goto B 424 dX12_looks_330 ?_
      refine aw_iinc5 B 1 (by decide) dX12_looks_424 ?_
      refine aw_goto B 96 dX12_looks_427 ?_
      have hb : b2 (b' && b) = 1 := by cases b <;> cases b' <;> simp_all [b2]
      rw [hb] at k
      refine AW.weak ?_ k
      exact ⟨Or.inr rfl, Or.inr rfl, Or.inr rfl, Or.inr rfl, Or.inr rfl, Or.inr rfl, Or.inl rfl, Or.inl rfl, Or.inl rfl, Or.inl rfl, trivial⟩
set_option maxRecDepth 100000 in
set_option maxHeartbeats 4000000 in
theorem looks_or {X : zX} {Ko : Option Value → Hp → Prop} {h : Hp} {m : Nat} {F : Nat → Int32} {A : Nat → Nat → Int32} {a1 a2 a3 i5 : Int32} (B : zB X cX12_looks 10 yX12_looks.cls yX12_looks.name none) {t : Nat} {b b' : Bool} (e4 : A 4 t = b2 b') (e5 : A 4 (t + 1) = b2 b) (ht : t < 60) (k : AW X 0 0 96 (LL m a1 a2 a3 (nI (t + 1)) (i5 + 1)) [] (hM (zXg X) h m (F) (mup A 4 (upd (A 4) t (b2 (b' || b))))) Ko) : AW X 0 0 111 (LL m a1 a2 a3 (nI (t + 2)) i5) [.int (-3)] (hM (zXg X) h m F A) Ko := by
  unfold LL
  have em1 : nI (t + 2) + -1 = nI (t + 1) := pk_m1 _
  have em2 : nI (t + 1) - 1 = nI t := nI_pred _
  refine aw_istore6 B dX12_looks_111 ?_
  refine aw_iload B dX12_looks_113 rfl ?_
  refine aw_if_lt B 212 dX12_looks_115 (fun c115 => ?_) (fun c115 => absurd (by decide) c115)
  refine aw_iload B dX12_looks_212 rfl ?_
  refine aw_iconst B (-1) (by decide) dX12_looks_214 ?_
  refine aw_icmp_ne B 247 dX12_looks_215 (fun c215 => ?_) (fun c215 => absurd c215 (by decide))
  refine aw_iload B dX12_looks_247 rfl ?_
  refine aw_bipush B (-10) (by decide) dX12_looks_249 ?_
  refine aw_icmp_le B 333 dX12_looks_251 (fun c251 => absurd c251 (by decide)) (fun c251 => ?_)
  refine aw_iinc4 B (-1) (by decide) dX12_looks_254 ?_
  rw [em1]
  refine aw_aload_n B 0 rfl dX12_looks_257 rfl ?_
  refine m_get B f_X12_21 dX12_looks_258 (mg_10 _ _) ?_
  refine aw_iload B dX12_looks_261 rfl ?_
  refine aw_iconst B 1 (by decide) dX12_looks_263 ?_
  refine aw_isub B dX12_looks_264 ?_
  refine aw_iload B dX12_looks_265 rfl ?_
  refine aw_bipush B (-2) (by decide) dX12_looks_267 ?_
  refine aw_icmp_ne B 302 dX12_looks_269 (fun c269 => ?_) (fun c269 => absurd c269 (by decide))
  refine aw_aload_n B 0 rfl dX12_looks_302 rfl ?_
  refine m_get B f_X12_21 dX12_looks_303 (mg_10 _ _) ?_
  refine aw_iload B dX12_looks_306 rfl ?_
  refine aw_iconst B 1 (by decide) dX12_looks_308 ?_
  refine aw_isub B dX12_looks_309 ?_
  refine m_zld B (t) (em2) (by omega) dX12_looks_310 ?_
  rw [e4]
  refine aw_if_ne B 324 dX12_looks_311 (fun c311 => ?_) (fun c311 => ?_)
  · refine aw_iconst B 1 (by decide) dX12_looks_324 ?_
    refine aw_goto B 329 dX12_looks_325 ?_
    refine m_zst B (t) (by decide) (em2) (by omega) dX12_looks_329 ?_
    refine aw_goto B 424 dX12_looks_330 ?_
    refine aw_iinc5 B 1 (by decide) dX12_looks_424 ?_
    refine aw_goto B 96 dX12_looks_427 ?_
    have hb : b2 (b' || b) = 1 := by cases b <;> cases b' <;> simp_all [b2]
    rw [hb] at k
    refine AW.weak ?_ k
    exact ⟨Or.inr rfl, Or.inr rfl, Or.inr rfl, Or.inr rfl, Or.inr rfl, Or.inr rfl, Or.inl rfl, Or.inl rfl, Or.inl rfl, Or.inl rfl, trivial⟩
  · refine aw_aload_n B 0 rfl dX12_looks_314 rfl ?_
    refine m_get B f_X12_21 dX12_looks_315 (mg_10 _ _) ?_
    refine aw_iload B dX12_looks_318 rfl ?_
    refine m_zld B (t + 1) (rfl) (by omega) dX12_looks_320 ?_
    rw [e5]
    refine aw_if_eq B 328 dX12_looks_321 (fun c321 => ?_) (fun c321 => ?_)
    · refine aw_iconst B 0 (by decide) dX12_looks_328 ?_
      refine m_zst B (t) (by decide) (em2) (by omega) dX12_looks_329 ?_
      refine aw_goto B 424 dX12_looks_330 ?_
      refine aw_iinc5 B 1 (by decide) dX12_looks_424 ?_
      refine aw_goto B 96 dX12_looks_427 ?_
      have hb : b2 (b' || b) = 0 := by cases b <;> cases b' <;> simp_all [b2]
      rw [hb] at k
      refine AW.weak ?_ k
      exact ⟨Or.inr rfl, Or.inr rfl, Or.inr rfl, Or.inr rfl, Or.inr rfl, Or.inr rfl, Or.inl rfl, Or.inl rfl, Or.inl rfl, Or.inl rfl, trivial⟩
    · refine aw_iconst B 1 (by decide) dX12_looks_324 ?_
      refine aw_goto B 329 dX12_looks_325 ?_
      refine m_zst B (t) (by decide) (em2) (by omega) dX12_looks_329 ?_
      refine aw_goto B 424 dX12_looks_330 ?_
      refine aw_iinc5 B 1 (by decide) dX12_looks_424 ?_
      refine aw_goto B 96 dX12_looks_427 ?_
      have hb : b2 (b' || b) = 1 := by cases b <;> cases b' <;> simp_all [b2]
      rw [hb] at k
      refine AW.weak ?_ k
      exact ⟨Or.inr rfl, Or.inr rfl, Or.inr rfl, Or.inr rfl, Or.inr rfl, Or.inr rfl, Or.inl rfl, Or.inl rfl, Or.inl rfl, Or.inl rfl, trivial⟩
