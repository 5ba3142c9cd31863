theorem dX10_push_0 : decode cX10_push 0 = .ok (.aload_n 0, 1) := by decide +kernel
theorem dX10_push_1 : decode cX10_push 1 = .ok (.iconst 0, 1) := by decide +kernel
theorem dX10_push_2 : decode cX10_push 2 = .ok (.putfield 153, 3) := by decide +kernel
theorem dX10_push_5 : decode cX10_push 5 = .ok (.iload_n 1, 1) := by decide +kernel
theorem dX10_push_6 : decode cX10_push 6 = .ok (.iconst 3, 1) := by decide +kernel
theorem dX10_push_7 : decode cX10_push 7 = .ok (.invokestatic 156, 3) := by decide +kernel
theorem dX10_push_10 : decode cX10_push 10 = .ok (.ifCond .ne 5, 3) := by decide +kernel
theorem dX10_push_13 : decode cX10_push 13 = .ok (.iconst (-1), 1) := by decide +kernel
theorem dX10_push_14 : decode cX10_push 14 = .ok (.ireturn, 1) := by decide +kernel
theorem dX10_push_15 : decode cX10_push 15 = .ok (.aload_n 0, 1) := by decide +kernel
theorem dX10_push_16 : decode cX10_push 16 = .ok (.getfield 28, 3) := by decide +kernel
theorem dX10_push_19 : decode cX10_push 19 = .ok (.iload_n 1, 1) := by decide +kernel
theorem dX10_push_20 : decode cX10_push 20 = .ok (.iaload, 1) := by decide +kernel
theorem dX10_push_21 : decode cX10_push 21 = .ok (.iconst 1, 1) := by decide +kernel
theorem dX10_push_22 : decode cX10_push 22 = .ok (.if_icmp .ne 27, 3) := by decide +kernel
theorem dX10_push_25 : decode cX10_push 25 = .ok (.aload_n 0, 1) := by decide +kernel
theorem dX10_push_26 : decode cX10_push 26 = .ok (.getfield 37, 3) := by decide +kernel
theorem dX10_push_29 : decode cX10_push 29 = .ok (.iload_n 1, 1) := by decide +kernel
theorem dX10_push_30 : decode cX10_push 30 = .ok (.iaload, 1) := by decide +kernel
theorem dX10_push_31 : decode cX10_push 31 = .ok (.aload_n 0, 1) := by decide +kernel
theorem dX10_push_32 : decode cX10_push 32 = .ok (.getfield 31, 3) := by decide +kernel
theorem dX10_push_35 : decode cX10_push 35 = .ok (.iload_n 1, 1) := by decide +kernel
theorem dX10_push_36 : decode cX10_push 36 = .ok (.iaload, 1) := by decide +kernel
theorem dX10_push_37 : decode cX10_push 37 = .ok (.if_icmp .eq 12, 3) := by decide +kernel
theorem dX10_push_40 : decode cX10_push 40 = .ok (.aload_n 0, 1) := by decide +kernel
theorem dX10_push_41 : decode cX10_push 41 = .ok (.getfield 52, 3) := by decide +kernel
theorem dX10_push_44 : decode cX10_push 44 = .ok (.iload_n 1, 1) := by decide +kernel
theorem dX10_push_45 : decode cX10_push 45 = .ok (.baload, 1) := by decide +kernel
theorem dX10_push_46 : decode cX10_push 46 = .ok (.ifCond .eq 5, 3) := by decide +kernel
theorem dX10_push_49 : decode cX10_push 49 = .ok (.iconst (-1), 1) := by decide +kernel
theorem dX10_push_50 : decode cX10_push 50 = .ok (.ireturn, 1) := by decide +kernel
theorem dX10_push_51 : decode cX10_push 51 = .ok (.aload_n 0, 1) := by decide +kernel
theorem dX10_push_52 : decode cX10_push 52 = .ok (.getfield 37, 3) := by decide +kernel
theorem dX10_push_55 : decode cX10_push 55 = .ok (.iload_n 1, 1) := by decide +kernel
theorem dX10_push_56 : decode cX10_push 56 = .ok (.iaload, 1) := by decide +kernel
theorem dX10_push_57 : decode cX10_push 57 = .ok (.istore_n 2, 1) := by decide +kernel
theorem dX10_push_58 : decode cX10_push 58 = .ok (.aload_n 0, 1) := by decide +kernel
theorem dX10_push_59 : decode cX10_push 59 = .ok (.iload_n 1, 1) := by decide +kernel
theorem dX10_push_60 : decode cX10_push 60 = .ok (.iload_n 2, 1) := by decide +kernel
theorem dX10_push_61 : decode cX10_push 61 = .ok (.invokevirtual 196, 3) := by decide +kernel
theorem dX10_push_64 : decode cX10_push 64 = .ok (.istore_n 3, 1) := by decide +kernel
theorem dX10_push_65 : decode cX10_push 65 = .ok (.aload_n 0, 1) := by decide +kernel
theorem dX10_push_66 : decode cX10_push 66 = .ok (.getfield 86, 3) := by decide +kernel
theorem dX10_push_69 : decode cX10_push 69 = .ok (.iload_n 3, 1) := by decide +kernel
theorem dX10_push_70 : decode cX10_push 70 = .ok (.iaload, 1) := by decide +kernel
theorem dX10_push_71 : decode cX10_push 71 = .ok (.iload_n 2, 1) := by decide +kernel
theorem dX10_push_72 : decode cX10_push 72 = .ok (.invokestatic 174, 3) := by decide +kernel
theorem dX10_push_75 : decode cX10_push 75 = .ok (.istore 4, 2) := by decide +kernel
theorem dX10_push_77 : decode cX10_push 77 = .ok (.aload_n 0, 1) := by decide +kernel
theorem dX10_push_78 : decode cX10_push 78 = .ok (.getfield 65, 3) := by decide +kernel
theorem dX10_push_81 : decode cX10_push 81 = .ok (.iload_n 3, 1) := by decide +kernel
theorem dX10_push_82 : decode cX10_push 82 = .ok (.iaload, 1) := by decide +kernel
theorem dX10_push_83 : decode cX10_push 83 = .ok (.iconst 2, 1) := by decide +kernel
theorem dX10_push_84 : decode cX10_push 84 = .ok (.if_icmp .ne 14, 3) := by decide +kernel
theorem dX10_push_87 : decode cX10_push 87 = .ok (.aload_n 0, 1) := by decide +kernel
theorem dX10_push_88 : decode cX10_push 88 = .ok (.iload_n 3, 1) := by decide +kernel
theorem dX10_push_89 : decode cX10_push 89 = .ok (.invokevirtual 178, 3) := by decide +kernel
theorem dX10_push_92 : decode cX10_push 92 = .ok (.iload 4, 2) := by decide +kernel
theorem dX10_push_94 : decode cX10_push 94 = .ok (.isub, 1) := by decide +kernel
theorem dX10_push_95 : decode cX10_push 95 = .ok (.goto 4, 3) := by decide +kernel
theorem dX10_push_98 : decode cX10_push 98 = .ok (.iconst 1, 1) := by decide +kernel
theorem dX10_push_99 : decode cX10_push 99 = .ok (.istore 5, 2) := by decide +kernel
theorem dX10_push_101 : decode cX10_push 101 = .ok (.aload_n 0, 1) := by decide +kernel
theorem dX10_push_102 : decode cX10_push 102 = .ok (.getfield 34, 3) := by decide +kernel
theorem dX10_push_105 : decode cX10_push 105 = .ok (.iload_n 1, 1) := by decide +kernel
theorem dX10_push_106 : decode cX10_push 106 = .ok (.iaload, 1) := by decide +kernel
theorem dX10_push_107 : decode cX10_push 107 = .ok (.iload_n 2, 1) := by decide +kernel
theorem dX10_push_108 : decode cX10_push 108 = .ok (.iload 5, 2) := by decide +kernel
theorem dX10_push_110 : decode cX10_push 110 = .ok (.iadd, 1) := by decide +kernel
theorem dX10_push_111 : decode cX10_push 111 = .ok (.iconst 1, 1) := by decide +kernel
theorem dX10_push_112 : decode cX10_push 112 = .ok (.isub, 1) := by decide +kernel
theorem dX10_push_113 : decode cX10_push 113 = .ok (.bipush 64, 2) := by decide +kernel
theorem dX10_push_115 : decode cX10_push 115 = .ok (.irem, 1) := by decide +kernel
theorem dX10_push_116 : decode cX10_push 116 = .ok (.invokestatic 174, 3) := by decide +kernel
theorem dX10_push_119 : decode cX10_push 119 = .ok (.bipush 8, 2) := by decide +kernel
theorem dX10_push_121 : decode cX10_push 121 = .ok (.if_icmp .lt 5, 3) := by decide +kernel
theorem dX10_push_124 : decode cX10_push 124 = .ok (.iconst (-1), 1) := by decide +kernel
theorem dX10_push_125 : decode cX10_push 125 = .ok (.ireturn, 1) := by decide +kernel
theorem dX10_push_126 : decode cX10_push 126 = .ok (.iload_n 2, 1) := by decide +kernel
theorem dX10_push_127 : decode cX10_push 127 = .ok (.aload_n 0, 1) := by decide +kernel
theorem dX10_push_128 : decode cX10_push 128 = .ok (.getfield 34, 3) := by decide +kernel
theorem dX10_push_131 : decode cX10_push 131 = .ok (.iload_n 1, 1) := by decide +kernel
theorem dX10_push_132 : decode cX10_push 132 = .ok (.iaload, 1) := by decide +kernel
theorem dX10_push_133 : decode cX10_push 133 = .ok (.if_icmp .ne 10, 3) := by decide +kernel
theorem dX10_push_136 : decode cX10_push 136 = .ok (.aload_n 0, 1) := by decide +kernel
theorem dX10_push_137 : decode cX10_push 137 = .ok (.getfield 43, 3) := by decide +kernel
theorem dX10_push_140 : decode cX10_push 140 = .ok (.iload_n 1, 1) := by decide +kernel
theorem dX10_push_141 : decode cX10_push 141 = .ok (.iconst 0, 1) := by decide +kernel
theorem dX10_push_142 : decode cX10_push 142 = .ok (.iastore, 1) := by decide +kernel
theorem dX10_push_143 : decode cX10_push 143 = .ok (.aload_n 0, 1) := by decide +kernel
theorem dX10_push_144 : decode cX10_push 144 = .ok (.getfield 71, 3) := by decide +kernel
theorem dX10_push_147 : decode cX10_push 147 = .ok (.iload_n 3, 1) := by decide +kernel
theorem dX10_push_148 : decode cX10_push 148 = .ok (.iaload, 1) := by decide +kernel
theorem dX10_push_149 : decode cX10_push 149 = .ok (.iconst 4, 1) := by decide +kernel
theorem dX10_push_150 : decode cX10_push 150 = .ok (.iload 4, 2) := by decide +kernel
theorem dX10_push_152 : decode cX10_push 152 = .ok (.imul, 1) := by decide +kernel
theorem dX10_push_153 : decode cX10_push 153 = .ok (.isub, 1) := by decide +kernel
theorem dX10_push_154 : decode cX10_push 154 = .ok (.istore 6, 2) := by decide +kernel
theorem dX10_push_156 : decode cX10_push 156 = .ok (.iload 4, 2) := by decide +kernel
theorem dX10_push_158 : decode cX10_push 158 = .ok (.ifCond .ne 7, 3) := by decide +kernel
theorem dX10_push_161 : decode cX10_push 161 = .ok (.iconst 1, 1) := by decide +kernel
theorem dX10_push_162 : decode cX10_push 162 = .ok (.goto 4, 3) := by decide +kernel
theorem dX10_push_165 : decode cX10_push 165 = .ok (.iconst 0, 1) := by decide +kernel
theorem dX10_push_166 : decode cX10_push 166 = .ok (.iload 4, 2) := by decide +kernel
theorem dX10_push_168 : decode cX10_push 168 = .ok (.aload_n 0, 1) := by decide +kernel
theorem dX10_push_169 : decode cX10_push 169 = .ok (.iload_n 3, 1) := by decide +kernel
theorem dX10_push_170 : decode cX10_push 170 = .ok (.invokevirtual 178, 3) := by decide +kernel
theorem dX10_push_173 : decode cX10_push 173 = .ok (.iconst 1, 1) := by decide +kernel
theorem dX10_push_174 : decode cX10_push 174 = .ok (.isub, 1) := by decide +kernel
theorem dX10_push_175 : decode cX10_push 175 = .ok (.if_icmp .ne 7, 3) := by decide +kernel
theorem dX10_push_178 : decode cX10_push 178 = .ok (.iconst 2, 1) := by decide +kernel
theorem dX10_push_179 : decode cX10_push 179 = .ok (.goto 4, 3) := by decide +kernel
theorem dX10_push_182 : decode cX10_push 182 = .ok (.iconst 0, 1) := by decide +kernel
theorem dX10_push_183 : decode cX10_push 183 = .ok (.iadd, 1) := by decide +kernel
theorem dX10_push_184 : decode cX10_push 184 = .ok (.istore 7, 2) := by decide +kernel
theorem dX10_push_186 : decode cX10_push 186 = .ok (.aload_n 0, 1) := by decide +kernel
theorem dX10_push_187 : decode cX10_push 187 = .ok (.iload_n 1, 1) := by decide +kernel
theorem dX10_push_188 : decode cX10_push 188 = .ok (.aload_n 0, 1) := by decide +kernel
theorem dX10_push_189 : decode cX10_push 189 = .ok (.getfield 65, 3) := by decide +kernel
theorem dX10_push_192 : decode cX10_push 192 = .ok (.iload_n 3, 1) := by decide +kernel
theorem dX10_push_193 : decode cX10_push 193 = .ok (.iaload, 1) := by decide +kernel
theorem dX10_push_194 : decode cX10_push 194 = .ok (.iload_n 2, 1) := by decide +kernel
theorem dX10_push_195 : decode cX10_push 195 = .ok (.aload_n 0, 1) := by decide +kernel
theorem dX10_push_196 : decode cX10_push 196 = .ok (.getfield 65, 3) := by decide +kernel
theorem dX10_push_199 : decode cX10_push 199 = .ok (.iload_n 3, 1) := by decide +kernel
theorem dX10_push_200 : decode cX10_push 200 = .ok (.iaload, 1) := by decide +kernel
theorem dX10_push_201 : decode cX10_push 201 = .ok (.ifCond .ne 8, 3) := by decide +kernel
theorem dX10_push_204 : decode cX10_push 204 = .ok (.iload 7, 2) := by decide +kernel
theorem dX10_push_206 : decode cX10_push 206 = .ok (.goto 9, 3) := by decide +kernel
theorem dX10_push_209 : decode cX10_push 209 = .ok (.aload_n 0, 1) := by decide +kernel
theorem dX10_push_210 : decode cX10_push 210 = .ok (.getfield 74, 3) := by decide +kernel
theorem dX10_push_213 : decode cX10_push 213 = .ok (.iload_n 3, 1) := by decide +kernel
theorem dX10_push_214 : decode cX10_push 214 = .ok (.iaload, 1) := by decide +kernel
theorem dX10_push_215 : decode cX10_push 215 = .ok (.aload_n 0, 1) := by decide +kernel
theorem dX10_push_216 : decode cX10_push 216 = .ok (.getfield 65, 3) := by decide +kernel
theorem dX10_push_219 : decode cX10_push 219 = .ok (.iload_n 3, 1) := by decide +kernel
theorem dX10_push_220 : decode cX10_push 220 = .ok (.iaload, 1) := by decide +kernel
theorem dX10_push_221 : decode cX10_push 221 = .ok (.ifCond .ne 7, 3) := by decide +kernel
theorem dX10_push_224 : decode cX10_push 224 = .ok (.iconst (-1), 1) := by decide +kernel
theorem dX10_push_225 : decode cX10_push 225 = .ok (.goto 14, 3) := by decide +kernel
theorem dX10_push_228 : decode cX10_push 228 = .ok (.aload_n 0, 1) := by decide +kernel
theorem dX10_push_229 : decode cX10_push 229 = .ok (.getfield 77, 3) := by decide +kernel
theorem dX10_push_232 : decode cX10_push 232 = .ok (.iload_n 3, 1) := by decide +kernel
theorem dX10_push_233 : decode cX10_push 233 = .ok (.iaload, 1) := by decide +kernel
theorem dX10_push_234 : decode cX10_push 234 = .ok (.iconst 4, 1) := by decide +kernel
theorem dX10_push_235 : decode cX10_push 235 = .ok (.iload 4, 2) := by decide +kernel
theorem dX10_push_237 : decode cX10_push 237 = .ok (.imul, 1) := by decide +kernel
theorem dX10_push_238 : decode cX10_push 238 = .ok (.iadd, 1) := by decide +kernel
theorem dX10_push_239 : decode cX10_push 239 = .ok (.aload_n 0, 1) := by decide +kernel
theorem dX10_push_240 : decode cX10_push 240 = .ok (.getfield 80, 3) := by decide +kernel
theorem dX10_push_243 : decode cX10_push 243 = .ok (.iload_n 3, 1) := by decide +kernel
theorem dX10_push_244 : decode cX10_push 244 = .ok (.iaload, 1) := by decide +kernel
theorem dX10_push_245 : decode cX10_push 245 = .ok (.invokevirtual 199, 3) := by decide +kernel
theorem dX10_push_248 : decode cX10_push 248 = .ok (.istore 8, 2) := by decide +kernel
theorem dX10_push_250 : decode cX10_push 250 = .ok (.aload_n 0, 1) := by decide +kernel
theorem dX10_push_251 : decode cX10_push 251 = .ok (.getfield 65, 3) := by decide +kernel
theorem dX10_push_254 : decode cX10_push 254 = .ok (.iload_n 3, 1) := by decide +kernel
theorem dX10_push_255 : decode cX10_push 255 = .ok (.iaload, 1) := by decide +kernel
theorem dX10_push_256 : decode cX10_push 256 = .ok (.iconst 2, 1) := by decide +kernel
theorem dX10_push_257 : decode cX10_push 257 = .ok (.if_icmp .ge 33, 3) := by decide +kernel
theorem dX10_push_260 : decode cX10_push 260 = .ok (.aload_n 0, 1) := by decide +kernel
theorem dX10_push_261 : decode cX10_push 261 = .ok (.iload 8, 2) := by decide +kernel
theorem dX10_push_263 : decode cX10_push 263 = .ok (.iload_n 1, 1) := by decide +kernel
theorem dX10_push_264 : decode cX10_push 264 = .ok (.aload_n 0, 1) := by decide +kernel
theorem dX10_push_265 : decode cX10_push 265 = .ok (.getfield 68, 3) := by decide +kernel
theorem dX10_push_268 : decode cX10_push 268 = .ok (.iload_n 3, 1) := by decide +kernel
theorem dX10_push_269 : decode cX10_push 269 = .ok (.iaload, 1) := by decide +kernel
theorem dX10_push_270 : decode cX10_push 270 = .ok (.iconst 4, 1) := by decide +kernel
theorem dX10_push_271 : decode cX10_push 271 = .ok (.iload 4, 2) := by decide +kernel
theorem dX10_push_273 : decode cX10_push 273 = .ok (.imul, 1) := by decide +kernel
theorem dX10_push_274 : decode cX10_push 274 = .ok (.iadd, 1) := by decide +kernel
theorem dX10_push_275 : decode cX10_push 275 = .ok (.iload 6, 2) := by decide +kernel
theorem dX10_push_277 : decode cX10_push 277 = .ok (.iconst 4, 1) := by decide +kernel
theorem dX10_push_278 : decode cX10_push 278 = .ok (.if_icmp .ge 8, 3) := by decide +kernel
theorem dX10_push_281 : decode cX10_push 281 = .ok (.iload 6, 2) := by decide +kernel
theorem dX10_push_283 : decode cX10_push 283 = .ok (.goto 4, 3) := by decide +kernel
theorem dX10_push_286 : decode cX10_push 286 = .ok (.iconst 4, 1) := by decide +kernel
theorem dX10_push_287 : decode cX10_push 287 = .ok (.invokevirtual 203, 3) := by decide +kernel
theorem dX10_push_290 : decode cX10_push 290 = .ok (.aload_n 0, 1) := by decide +kernel
theorem dX10_push_291 : decode cX10_push 291 = .ok (.getfield 65, 3) := by decide +kernel
theorem dX10_push_294 : decode cX10_push 294 = .ok (.iload_n 3, 1) := by decide +kernel
theorem dX10_push_295 : decode cX10_push 295 = .ok (.iaload, 1) := by decide +kernel
theorem dX10_push_296 : decode cX10_push 296 = .ok (.iconst 2, 1) := by decide +kernel
theorem dX10_push_297 : decode cX10_push 297 = .ok (.if_icmp .ne 17, 3) := by decide +kernel
theorem dX10_push_300 : decode cX10_push 300 = .ok (.iload 8, 2) := by decide +kernel
theorem dX10_push_302 : decode cX10_push 302 = .ok (.ifCond .lt 12, 3) := by decide +kernel
theorem dX10_push_305 : decode cX10_push 305 = .ok (.aload_n 0, 1) := by decide +kernel
theorem dX10_push_306 : decode cX10_push 306 = .ok (.getfield 128, 3) := by decide +kernel
theorem dX10_push_309 : decode cX10_push 309 = .ok (.iload 8, 2) := by decide +kernel
theorem dX10_push_311 : decode cX10_push 311 = .ok (.iload 6, 2) := by decide +kernel
theorem dX10_push_313 : decode cX10_push 313 = .ok (.iastore, 1) := by decide +kernel
theorem dX10_push_314 : decode cX10_push 314 = .ok (.aload_n 0, 1) := by decide +kernel
theorem dX10_push_315 : decode cX10_push 315 = .ok (.getfield 37, 3) := by decide +kernel
theorem dX10_push_318 : decode cX10_push 318 = .ok (.iload_n 1, 1) := by decide +kernel
theorem dX10_push_319 : decode cX10_push 319 = .ok (.iload_n 2, 1) := by decide +kernel
theorem dX10_push_320 : decode cX10_push 320 = .ok (.iload 5, 2) := by decide +kernel
theorem dX10_push_322 : decode cX10_push 322 = .ok (.iadd, 1) := by decide +kernel
theorem dX10_push_323 : decode cX10_push 323 = .ok (.bipush 64, 2) := by decide +kernel
theorem dX10_push_325 : decode cX10_push 325 = .ok (.irem, 1) := by decide +kernel
theorem dX10_push_326 : decode cX10_push 326 = .ok (.iastore, 1) := by decide +kernel
theorem dX10_push_327 : decode cX10_push 327 = .ok (.iload_n 2, 1) := by decide +kernel
theorem dX10_push_328 : decode cX10_push 328 = .ok (.ireturn, 1) := by decide +kernel
set_option maxHeartbeats 8000000 in
set_option maxRecDepth 100000 in
theorem u_X10_push (l : Launch) (E : EE) (z0 : Nat) (G : Nat → Nat) (hGz : ∀ q, G q ≠ 0 → z0 ≤ q) (h0 : Nat) (rf : Nat → Nat) (hR : MG G h0 rf) (t0 t1 t2 : Int32) (A : AA) (cd pk : Int32) (p0 : Int32) (hI4 : I4 (A 10) (A 20) (A 29) (A 24) (A 11) (A 12) (A 13)) (hI6 : I6 (A 22) (A 23) (A 24) (A 25) (A 26)) (hI7 : I7 (A 41) (A 42) (A 44) (A 45) (A 46)) (hy0 : 0 ≤ pk.toInt ∧ pk.toInt ≤ 24) : Met l yX10_push [Cond.code yX10_push cX10_push 9 (some .int)] ({ frames := 2, cells := 0, slots := 0, locals := 47 } : Room) (va_Pc [.ref h0, .int p0] (fun U => MH E h0 rf t0 t1 t2 A cd pk U.heap ∧ KS E z0 U)) (va_Qi (fun (r : Int32) (u : (Nat → Int32) × (Nat → Int32) × (Nat → Int32) × (Nat → Int32) × (Nat → Int32) × (Nat → Int32) × (Nat → Int32) × (Nat → Int32) × (Nat → Int32) × (Nat → Int32) × Int32 × Int32) => (I4 (A 10) (A 20) (A 29) (A 24) (A 11) (A 12) (u.2.2.2.2.2.2.2.2.1)) ∧ (I7 (u.1) (u.2.1) (u.2.2.2.1) (u.2.2.2.2.1) (u.2.2.2.2.2.1)) ∧ (0 ≤ (u.2.2.2.2.2.2.2.2.2.2.1).toInt ∧ (u.2.2.2.2.2.2.2.2.2.2.1).toInt ≤ 24) ∧ (D_X10_push A cd pk p0 (uA (uA (uA (uA (uA (uA (uA (uA (uA (uA A 41 (u.1)) 42 (u.2.1)) 43 (u.2.2.1)) 44 (u.2.2.2.1)) 45 (u.2.2.2.2.1)) 46 (u.2.2.2.2.2.1)) 47 (u.2.2.2.2.2.2.1)) 48 (u.2.2.2.2.2.2.2.1)) 13 (u.2.2.2.2.2.2.2.2.1)) 15 (u.2.2.2.2.2.2.2.2.2.1)) (u.2.2.2.2.2.2.2.2.2.2.2) (u.2.2.2.2.2.2.2.2.2.2.1) r)) (fun u t => MH E h0 rf t0 t1 t2 (uA (uA (uA (uA (uA (uA (uA (uA (uA (uA A 41 (u.1)) 42 (u.2.1)) 43 (u.2.2.1)) 44 (u.2.2.2.1)) 45 (u.2.2.2.2.1)) 46 (u.2.2.2.2.2.1)) 47 (u.2.2.2.2.2.2.1)) 48 (u.2.2.2.2.2.2.2.1)) 13 (u.2.2.2.2.2.2.2.2.1)) 15 (u.2.2.2.2.2.2.2.2.2.1)) (u.2.2.2.2.2.2.2.2.2.2.2) (u.2.2.2.2.2.2.2.2.2.2.1) t.heap) (fun q : Nat => G q ≠ 0)) 0 0 (fun q : Nat => G q ≠ 0) := by
  refine Met.ofW (cc := cX10_push) (maxL := 9) (ret := (some .int)) (by decide) rfl ?_
  intro p e s m args below meth c s₁ B hml hv
  obtain ⟨rfl, hM, hK⟩ := hv
  have hx := B.exec
  have hb := B.bytes
  have hr := B.returns
  have hts : ∀ w ∈ TS, w.before ([.ref h0, .int p0] : List Value).toArray s = true := fun w hw => hK.2.1 w hw _
  have hown : s.vm.findClass RX10 = some m.cls := findClass_of_methodNamed B.named
  have hlocks := B.notSynchronized
  have hS : va_S (fun q : Nat => G q ≠ 0) s.heap s.heap [] := va_S.rf
  have hAz : ∀ q, (fun q : Nat => G q ≠ 0) q → z0 ≤ q := hGz
  have hl := lv_entry ([.ref h0, .int p0]) (n := 9) (Nat.le_of_ble_eq_true rfl)
  rw [lg_entry_eq]
  generalize (lg_sl ([.ref h0, .int p0]) ++ List.replicate (9 - (lg_sl ([.ref h0, .int p0])).length) Slot.unset).toArray = ls at hl ⊢
  have hl : lv_has ls 9 [(0, .ref h0), (1, .int p0)] := hl
  refine lv_aload_n hx hb dX10_push_0 rfl (lv_at hl 0 rfl) ?_
  refine lv_iconst (v := 0) hx hb dX10_push_1 (by decide) ?_
  refine rr_put (D := DG E) (ci := 10) (v := .int 0) (ty := .int) (C := RX10) (T := TX10) (N := 49) hx hb hts iw_X10 tyX10 tyX10_ok nmX10 hown hK.1 hM.1 hS (by show G h0 ≠ 0; rw [hR.1]; decide) rfl 3 (by decide) (hts _ fl_X10_153) (fun _ h9 => h9) rfl (by decide +kernel) rfl rfl (Nat.le_of_ble_eq_true rfl) dX10_push_2 (fun H locs hn ho hz hS => ?_)
  have hM : MH E h0 rf t0 t1 t2 A 0 pk H := hM.sc hR hn ho
  refine lv_iload_n hx hb dX10_push_5 rfl (lv_at hl 1 rfl) ?_
  refine lv_iconst (v := 3) hx hb dX10_push_6 (by decide) ?_
  refine W.callR (W.runS (As := [.int p0, .int 3]) (rest := []) ⟨hx, hb, hml, hown, hts⟩ (c_X10_within l p0 3) (cwS 2 hts (gdS ml_X10_156 st_X10_within in_X10 co_X10_within rfl) rfl rfl rfl (by decide +kernel) ⟨Nat.le_of_ble_eq_true rfl, Nat.le_of_ble_eq_true rfl⟩) preEq rfl rfl hl.1 rfl (lv_room (Nat.le_of_ble_eq_true rfl)) dX10_push_7 ⟨Nat.le_of_ble_eq_true rfl, Nat.le_of_ble_eq_true rfl⟩) ?_
  refine W.eq (g2 := F0 m 10 ls [.int (bI (0 ≤ p0.toInt ∧ p0.toInt ≤ (3 : Int32).toInt))]) (by rfl) ?_
  refine lv_if_ne (tgt := 15) hx hb dX10_push_10 (by decide) (fun c_1 => ?_) (fun c_1 => ?_)
  · have c_1 := bI_n c_1
    have c_1r := c_1
    try simp only [lt_I, le_I, eq_I, i_0, i_1, i_2, i_3, i_4, i_5, i_6, i_7, i_8, i_10, i_12, i_16, i_20, i_23, i_24, i_31, i_32, i_63, i_64, i_m1, i_9, i_11, i_13, i_25, i_60, i_75, i_79, i_80, i_96, i_100] at c_1
    refine lv_aload_n hx hb dX10_push_15 rfl (lv_at hl 0 rfl) ?_
    refine va_get (D := DG E) (ci := 10) (v := .ref (rf 10)) (C := RX10) (T := TX10) (N := 49) hx hb hts iw_X10 hown hK.1 (va_one hM.1) 0 rfl rfl 10 (by decide) (hts _ fl_X10_28) (fun _ h9 => h9) rfl dX10_push_16 ?_
    refine lv_iload_n hx hb dX10_push_19 rfl (lv_at hl 1 rfl) ?_
    have hi_2 : vp_in p0 4 := vp_in_iff.mpr (by omega)
    have ha_3 : va_at (DG E) vwCl (rf 10, .inl (E.2.2 0, 4, .inl (A 10))) _ := hM.2 10 (by decide) (by decide) (by decide)
    obtain ⟨n_4, hn_4, en_4⟩ := s_nat (x := p0) (by omega)
    refine va_iald (D := DG E) hx hb hK.1 (va_one ha_3) 0 0 rfl rfl hi_2 dX10_push_20 ?_
    refine W.eq (g2 := F0 m 21 ls [.int ((A 10) n_4)]) (by rw [en_4]) ?_
    refine lv_iconst (v := 1) hx hb dX10_push_21 (by decide) ?_
    refine lv_icmp_ne (tgt := 49) hx hb dX10_push_22 (by decide) (fun c_5 => ?_) (fun c_5 => ?_)
    · simp only [lt_I, le_I, eq_I, i_0, i_1, i_2, i_3, i_4, i_5, i_6, i_7, i_8, i_10, i_12, i_16, i_20, i_23, i_24, i_31, i_32, i_63, i_64, i_m1, i_9, i_11, i_13, i_25, i_60, i_75, i_79, i_80, i_96, i_100] at c_5
      refine lv_iconst (v := (-1)) hx hb dX10_push_49 (by decide) ?_
      exact W.iret (v := (-1)) hx hb hr (fun t ht hW => ⟨⟨(-1), ((A 41), (A 42), (A 43), (A 44), (A 45), (A 46), (A 47), (A 48), (A 13), (A 15), pk, 0), rfl, ⟨hI4, hI7, (by show 0 ≤ pk.toInt ∧ pk.toInt ≤ 24; have := i_m1; omega), (Or.inl ⟨c_1r, n_4, hn_4, (Or.inl ⟨c_5, rfl, rfl, rfl, rfl⟩)⟩)⟩, (by show MH E h0 rf t0 t1 t2 (uA (uA (uA (uA (uA (uA (uA (uA (uA (uA A 41 (A 41)) 42 (A 42)) 43 (A 43)) 44 (A 44)) 45 (A 45)) 46 (A 46)) 47 (A 47)) 48 (A 48)) 13 (A 13)) 15 (A 15)) 0 pk t.heap; rw [ht]; exact hM.cg9 rfl rfl rfl rfl rfl rfl rfl rfl rfl rfl rfl rfl rfl rfl rfl rfl rfl rfl rfl rfl rfl rfl rfl rfl rfl rfl rfl rfl rfl rfl rfl rfl rfl rfl rfl rfl rfl rfl rfl rfl rfl rfl rfl rfl)⟩, hS.F ht⟩) hS.2.2 dX10_push_50
    · simp only [lt_I, le_I, eq_I, i_0, i_1, i_2, i_3, i_4, i_5, i_6, i_7, i_8, i_10, i_12, i_16, i_20, i_23, i_24, i_31, i_32, i_63, i_64, i_m1, i_9, i_11, i_13, i_25, i_60, i_75, i_79, i_80, i_96, i_100] at c_5
      refine lv_aload_n hx hb dX10_push_25 rfl (lv_at hl 0 rfl) ?_
      refine va_get (D := DG E) (ci := 10) (v := .ref (rf 13)) (C := RX10) (T := TX10) (N := 49) hx hb hts iw_X10 hown hK.1 (va_one hM.1) 0 rfl rfl 13 (by decide) (hts _ fl_X10_37) (fun _ h9 => h9) rfl dX10_push_26 ?_
      refine lv_iload_n hx hb dX10_push_29 rfl (lv_at hl 1 rfl) ?_
      have ha_6 : va_at (DG E) vwCl (rf 13, .inl (E.2.2 0, 4, .inl (A 13))) _ := hM.2 13 (by decide) (by decide) (by decide)
      refine va_iald (D := DG E) hx hb hK.1 (va_one ha_6) 0 0 rfl rfl hi_2 dX10_push_30 ?_
      refine W.eq (g2 := F0 m 31 ls [.int ((A 13) n_4)]) (by rw [en_4]) ?_
      refine lv_aload_n hx hb dX10_push_31 rfl (lv_at hl 0 rfl) ?_
      refine va_get (D := DG E) (ci := 10) (v := .ref (rf 11)) (C := RX10) (T := TX10) (N := 49) hx hb hts iw_X10 hown hK.1 (va_one hM.1) 0 rfl rfl 11 (by decide) (hts _ fl_X10_31) (fun _ h9 => h9) rfl dX10_push_32 ?_
      refine lv_iload_n hx hb dX10_push_35 rfl (lv_at hl 1 rfl) ?_
      have ha_7 : va_at (DG E) vwCl (rf 11, .inl (E.2.2 0, 4, .inl (A 11))) _ := hM.2 11 (by decide) (by decide) (by decide)
      refine va_iald (D := DG E) hx hb hK.1 (va_one ha_7) 0 0 rfl rfl hi_2 dX10_push_36 ?_
      refine W.eq (g2 := F0 m 37 ls [.int ((A 11) n_4), .int ((A 13) n_4)]) (by rw [en_4]) ?_
      refine lv_icmp_eq (tgt := 49) hx hb dX10_push_37 (by decide) (fun c_8 => ?_) (fun c_8 => ?_)
      · simp only [lt_I, le_I, eq_I, i_0, i_1, i_2, i_3, i_4, i_5, i_6, i_7, i_8, i_10, i_12, i_16, i_20, i_23, i_24, i_31, i_32, i_63, i_64, i_m1, i_9, i_11, i_13, i_25, i_60, i_75, i_79, i_80, i_96, i_100] at c_8
        refine lv_iconst (v := (-1)) hx hb dX10_push_49 (by decide) ?_
        exact W.iret (v := (-1)) hx hb hr (fun t ht hW => ⟨⟨(-1), ((A 41), (A 42), (A 43), (A 44), (A 45), (A 46), (A 47), (A 48), (A 13), (A 15), pk, 0), rfl, ⟨hI4, hI7, (by show 0 ≤ pk.toInt ∧ pk.toInt ≤ 24; have := i_m1; omega), (Or.inl ⟨c_1r, n_4, hn_4, (Or.inr ⟨c_5, (Or.inl ⟨c_8, rfl, rfl, rfl, rfl⟩)⟩)⟩)⟩, (by show MH E h0 rf t0 t1 t2 (uA (uA (uA (uA (uA (uA (uA (uA (uA (uA A 41 (A 41)) 42 (A 42)) 43 (A 43)) 44 (A 44)) 45 (A 45)) 46 (A 46)) 47 (A 47)) 48 (A 48)) 13 (A 13)) 15 (A 15)) 0 pk t.heap; rw [ht]; exact hM.cg9 rfl rfl rfl rfl rfl rfl rfl rfl rfl rfl rfl rfl rfl rfl rfl rfl rfl rfl rfl rfl rfl rfl rfl rfl rfl rfl rfl rfl rfl rfl rfl rfl rfl rfl rfl rfl rfl rfl rfl rfl rfl rfl rfl rfl)⟩, hS.F ht⟩) hS.2.2 dX10_push_50
      · simp only [lt_I, le_I, eq_I, i_0, i_1, i_2, i_3, i_4, i_5, i_6, i_7, i_8, i_10, i_12, i_16, i_20, i_23, i_24, i_31, i_32, i_63, i_64, i_m1, i_9, i_11, i_13, i_25, i_60, i_75, i_79, i_80, i_96, i_100] at c_8
        refine lv_aload_n hx hb dX10_push_40 rfl (lv_at hl 0 rfl) ?_
        refine va_get (D := DG E) (ci := 10) (v := .ref (rf 18)) (C := RX10) (T := TX10) (N := 49) hx hb hts iw_X10 hown hK.1 (va_one hM.1) 0 rfl rfl 18 (by decide) (hts _ fl_X10_52) (fun _ h9 => h9) rfl dX10_push_41 ?_
        refine lv_iload_n hx hb dX10_push_44 rfl (lv_at hl 1 rfl) ?_
        have ha_9 : va_at (DG E) vwCl (rf 18, .inl (E.2.2 1, 4, .inl (A 18))) _ := hM.2 18 (by decide) (by decide) (by decide)
        refine va_zald (D := DG E) hx hb hK.1 (va_one ha_9) 0 1 rfl rfl hi_2 dX10_push_45 ?_
        refine W.eq (g2 := F0 m 46 ls [.int ((A 18) n_4)]) (by rw [en_4]) ?_
        refine lv_if_eq (tgt := 51) hx hb dX10_push_46 (by decide) (fun c_10 => ?_) (fun c_10 => ?_)
        · simp only [lt_I, le_I, eq_I, i_0, i_1, i_2, i_3, i_4, i_5, i_6, i_7, i_8, i_10, i_12, i_16, i_20, i_23, i_24, i_31, i_32, i_63, i_64, i_m1, i_9, i_11, i_13, i_25, i_60, i_75, i_79, i_80, i_96, i_100] at c_10
          have hst0 : ((A 10) n_4).toInt = 1 := by omega
          have hP0 := (hI4 n_4 (by omega)).1 hst0
          have rg0 := hP0.rng
          refine lv_aload_n hx hb dX10_push_51 rfl (lv_at hl 0 rfl) ?_
          refine va_get (D := DG E) (ci := 10) (v := .ref (rf 13)) (C := RX10) (T := TX10) (N := 49) hx hb hts iw_X10 hown hK.1 (va_one hM.1) 0 rfl rfl 13 (by decide) (hts _ fl_X10_37) (fun _ h9 => h9) rfl dX10_push_52 ?_
          refine lv_iload_n hx hb dX10_push_55 rfl (lv_at hl 1 rfl) ?_
          have ha_11 : va_at (DG E) vwCl (rf 13, .inl (E.2.2 0, 4, .inl (A 13))) _ := hM.2 13 (by decide) (by decide) (by decide)
          refine va_iald (D := DG E) hx hb hK.1 (va_one ha_11) 0 0 rfl rfl hi_2 dX10_push_56 ?_
          refine W.eq (g2 := F0 m 57 ls [.int ((A 13) n_4)]) (by rw [en_4]) ?_
          refine lv_istore_n (lv' := [(2, .int ((A 13) n_4)), (0, .ref h0), (1, .int p0)]) hx hb dX10_push_57 rfl hl (by decide) rfl (fun ls hl => ?_)
          refine lv_aload_n hx hb dX10_push_58 rfl (lv_at hl 1 rfl) ?_
          refine lv_iload_n hx hb dX10_push_59 rfl (lv_at hl 2 rfl) ?_
          refine lv_iload_n hx hb dX10_push_60 rfl (lv_at hl 0 rfl) ?_
          refine va_calli (rnV (fun H => MH E h0 rf t0 t1 t2 A 0 pk H) (As := [.int p0, .int ((A 13) n_4)]) (rest := []) ⟨hx, hb, hml, hown, hts⟩ (u_X10_requestOf l E z0 G hGz h0 rf hR t0 t1 t2 A 0 pk p0 ((A 13) n_4) hI6 (show 0 ≤ p0.toInt ∧ p0.toInt ≤ 3 from by first | decide | omega)) (cwV 2 hts (gdV ml_X10_196 im_X10_requestOf se_X10_X10_requestOf in_X10 co_X10_requestOf rfl) rfl rfl rfl (by decide +kernel) ⟨Nat.le_of_ble_eq_true rfl, Nat.le_of_ble_eq_true rfl⟩) hM (fun U hU hW => hK.go hW hS hAz hU) (va_recv hK.1 (va_one hM.1) (ci := 10) (q0 := 0) rfl rfl) rfl rfl hl.1 rfl (lv_room (Nat.le_of_ble_eq_true rfl)) dX10_push_61 ⟨Nat.le_of_ble_eq_true rfl, Nat.le_of_ble_eq_true rfl⟩) hS (fun q _ h => h.elim) (fun q h => h.elim) (fun r_12 ur_12 t H locs ht hvm hwr_12 hB hz hk hS => ?_)
          have hM := hM.kept (fun q hq => hk q hq (fun h => h))
          have hpr_12_0 : 0 ≤ r_12.toInt ∧ r_12.toInt ≤ 15 := hwr_12.1
          have hpr_12_1 : ∀ n : Nat, (n : Int) = p0.toInt → RO (A 29) (A 24) n ((A 13) n_4) r_12.toInt := hwr_12.2
          have iahpr_12_1 := hpr_12_1 n_4 (by omega)
          obtain ⟨i0, hi4, er0, hk0, hk1, hz0, hz1, hPn⟩ := hP0.push (by omega) iahpr_12_1
          have hN0 := pj_N ⟨hz0, hz1⟩
          have hNB : NB (A 24) (4 * n_4 + i0) = (((A 24) (4 * n_4 + i0)).toInt + 3) / 4 := rfl
          obtain ⟨n_13, hn_13, en_13⟩ := s_nat (x := r_12) (by omega)
          have e9 : n_13 = 4 * n_4 + i0 := by omega
          subst e9
          refine lv_istore_n (lv' := [(3, .int r_12), (2, .int ((A 13) n_4)), (0, .ref h0), (1, .int p0)]) hx hb dX10_push_64 rfl hl (by decide) rfl (fun ls hl => ?_)
          refine lv_aload_n hx hb dX10_push_65 rfl (lv_at hl 2 rfl) ?_
          refine va_get (D := DG E) (ci := 10) (v := .ref (rf 29)) (C := RX10) (T := TX10) (N := 49) hx hb hts iw_X10 hown hK.1 (va_one hM.1) 0 rfl rfl 29 (by decide) (hts _ fl_X10_86) (fun _ h9 => h9) rfl dX10_push_66 ?_
          refine lv_iload_n hx hb dX10_push_69 rfl (lv_at hl 0 rfl) ?_
          have hi_14 : vp_in r_12 16 := vp_in_iff.mpr (by omega)
          have ha_15 : va_at (DG E) vwCl (rf 29, .inl (E.2.2 0, 16, .inl (A 29))) _ := hM.2 29 (by decide) (by decide) (by decide)
          refine va_iald (D := DG E) hx hb hK.1 (va_one ha_15) 0 0 rfl rfl hi_14 dX10_push_70 ?_
          refine W.eq (g2 := F0 m 71 ls [.int ((A 29) (4 * n_4 + i0))]) (by rw [en_13]) ?_
          refine lv_iload_n hx hb dX10_push_71 rfl (lv_at hl 1 rfl) ?_
          refine W.callR (W.runS (As := [.int ((A 29) (4 * n_4 + i0)), .int ((A 13) n_4)]) (rest := []) ⟨hx, hb, hml, hown, hts⟩ (c_X10_far l (((A 29) (4 * n_4 + i0))) (((A 13) n_4))) (cwS 2 hts (gdS ml_X10_174 st_X10_far in_X10 co_X10_far rfl) rfl rfl rfl (by decide +kernel) ⟨Nat.le_of_ble_eq_true rfl, Nat.le_of_ble_eq_true rfl⟩) preEq rfl rfl hl.1 rfl (lv_room (Nat.le_of_ble_eq_true rfl)) dX10_push_72 ⟨Nat.le_of_ble_eq_true rfl, Nat.le_of_ble_eq_true rfl⟩) ?_
          refine W.eq (g2 := F0 m 75 ls [.int (((((A 13) n_4) - ((A 29) (4 * n_4 + i0))) + 64) - ((((A 13) n_4) - ((A 29) (4 * n_4 + i0))) + 64) / 64 * 64)]) (by rfl) ?_
          refine lv_topi (fun x_16 ex_16 => ?_)
          have kx_16 : x_16.toInt = (farI ((A 29) (4 * n_4 + i0)) ((A 13) n_4)).toInt := by rw [ex_16]; rfl
          refine lv_istore (lv' := [(4, .int x_16), (3, .int r_12), (2, .int ((A 13) n_4)), (0, .ref h0), (1, .int p0)]) hx hb dX10_push_75 hl (by decide) rfl (fun ls hl => ?_)
          refine lv_aload_n hx hb dX10_push_77 rfl (lv_at hl 3 rfl) ?_
          refine va_get (D := DG E) (ci := 10) (v := .ref (rf 22)) (C := RX10) (T := TX10) (N := 49) hx hb hts iw_X10 hown hK.1 (va_one hM.1) 0 rfl rfl 22 (by decide) (hts _ fl_X10_65) (fun _ h9 => h9) rfl dX10_push_78 ?_
          refine lv_iload_n hx hb dX10_push_81 rfl (lv_at hl 1 rfl) ?_
          have ha_17 : va_at (DG E) vwCl (rf 22, .inl (E.2.2 0, 16, .inl (A 22))) _ := hM.2 22 (by decide) (by decide) (by decide)
          refine va_iald (D := DG E) hx hb hK.1 (va_one ha_17) 0 0 rfl rfl hi_14 dX10_push_82 ?_
          refine W.eq (g2 := F0 m 83 ls [.int ((A 22) (4 * n_4 + i0))]) (by rw [en_13]) ?_
          have hk_18 : (4 * n_4 + i0) < 16 := by omega
          have q_19 : 0 ≤ ((A 22) (4 * n_4 + i0)).toInt := (hI6 (4 * n_4 + i0) hk_18).1
          have q_20 : ((A 22) (4 * n_4 + i0)).toInt ≤ 3 := (hI6 (4 * n_4 + i0) hk_18).2.1
          have q_21 : (((A 22) (4 * n_4 + i0)).toInt = 0 ∨ (0 ≤ ((A 25) (4 * n_4 + i0)).toInt ∧ ((A 25) (4 * n_4 + i0)).toInt ≤ 5)) := (hI6 (4 * n_4 + i0) hk_18).2.2.2.2.2.2.1
          refine lv_iconst (v := 2) hx hb dX10_push_83 (by decide) ?_
          refine lv_icmp_ne (tgt := 98) hx hb dX10_push_84 (by decide) (fun c_22 => ?_) (fun c_22 => ?_)
          · simp only [lt_I, le_I, eq_I, i_0, i_1, i_2, i_3, i_4, i_5, i_6, i_7, i_8, i_10, i_12, i_16, i_20, i_23, i_24, i_31, i_32, i_63, i_64, i_m1, i_9, i_11, i_13, i_25, i_60, i_75, i_79, i_80, i_96, i_100] at c_22
            refine lv_iconst (v := 1) hx hb dX10_push_98 (by decide) ?_
            refine lv_istore (lv' := [(5, .int 1), (4, .int x_16), (3, .int r_12), (2, .int ((A 13) n_4)), (0, .ref h0), (1, .int p0)]) hx hb dX10_push_99 hl (by decide) rfl (fun ls hl => ?_)
            refine lv_aload_n hx hb dX10_push_101 rfl (lv_at hl 4 rfl) ?_
            refine va_get (D := DG E) (ci := 10) (v := .ref (rf 12)) (C := RX10) (T := TX10) (N := 49) hx hb hts iw_X10 hown hK.1 (va_one hM.1) 0 rfl rfl 12 (by decide) (hts _ fl_X10_34) (fun _ h9 => h9) rfl dX10_push_102 ?_
            refine lv_iload_n hx hb dX10_push_105 rfl (lv_at hl 5 rfl) ?_
            have ha_23 : va_at (DG E) vwCl (rf 12, .inl (E.2.2 0, 4, .inl (A 12))) _ := hM.2 12 (by decide) (by decide) (by decide)
            refine va_iald (D := DG E) hx hb hK.1 (va_one ha_23) 0 0 rfl rfl hi_2 dX10_push_106 ?_
            refine W.eq (g2 := F0 m 107 ls [.int ((A 12) n_4)]) (by rw [en_4]) ?_
            refine lv_iload_n hx hb dX10_push_107 rfl (lv_at hl 3 rfl) ?_
            refine lv_iload hx hb dX10_push_108 (lv_at hl 0 rfl) ?_
            refine lv_iadd hx hb dX10_push_110 ?_
            refine lv_topi (fun x_24 ex_24 => ?_)
            have fx_24 : x_24.toInt = ((A 13) n_4).toInt + 1 := by have h9 := s_add (x := ((A 13) n_4)) (y := 1) (by rw [i_1]; omega) (by rw [i_1]; omega); rw [i_1] at h9; rw [ex_24]; exact h9
            refine lv_iconst (v := 1) hx hb dX10_push_111 (by decide) ?_
            refine lv_isub hx hb dX10_push_112 ?_
            refine lv_topi (fun x_25 ex_25 => ?_)
            have fx_25 : x_25.toInt = x_24.toInt - 1 := by have h9 := s_sub (x := x_24) (y := 1) (by rw [i_1]; omega) (by rw [i_1]; omega); rw [i_1] at h9; rw [ex_25]; exact h9
            refine lv_bipush (v := 64) hx hb dX10_push_113 (by decide) ?_
            refine lv_irem hx hb dX10_push_115 (by decide) ?_
            refine lv_topi (fun x_26 ex_26 => ?_)
            have fx_26 : x_26.toInt = x_25.toInt % 64 := by have h9 := s_rem (x := x_25) 64 (by decide) (by decide) (by omega); rw [ex_26]; exact h9
            refine W.callR (W.runS (As := [.int ((A 12) n_4), .int x_26]) (rest := []) ⟨hx, hb, hml, hown, hts⟩ (c_X10_far l (((A 12) n_4)) x_26) (cwS 2 hts (gdS ml_X10_174 st_X10_far in_X10 co_X10_far rfl) rfl rfl rfl (by decide +kernel) ⟨Nat.le_of_ble_eq_true rfl, Nat.le_of_ble_eq_true rfl⟩) preEq rfl rfl hl.1 rfl (lv_room (Nat.le_of_ble_eq_true rfl)) dX10_push_116 ⟨Nat.le_of_ble_eq_true rfl, Nat.le_of_ble_eq_true rfl⟩) ?_
            refine W.eq (g2 := F0 m 119 ls [.int (((x_26 - ((A 12) n_4)) + 64) - ((x_26 - ((A 12) n_4)) + 64) / 64 * 64)]) (by rfl) ?_
            refine lv_topi (fun x_27 ex_27 => ?_)
            have fx_27 : x_27.toInt = (x_26.toInt - ((A 12) n_4).toInt + 64) % 64 := by rw [ex_27]; exact far_t (by omega) (by omega)
            have kx_27 : x_27.toInt = (farI ((A 12) n_4) x_26).toInt := by rw [ex_27]; rfl
            refine lv_bipush (v := 8) hx hb dX10_push_119 (by decide) ?_
            refine lv_icmp_lt (tgt := 126) hx hb dX10_push_121 (by decide) (fun c_28 => ?_) (fun c_28 => ?_)
            · simp only [lt_I, le_I, eq_I, i_0, i_1, i_2, i_3, i_4, i_5, i_6, i_7, i_8, i_10, i_12, i_16, i_20, i_23, i_24, i_31, i_32, i_63, i_64, i_m1, i_9, i_11, i_13, i_25, i_60, i_75, i_79, i_80, i_96, i_100] at c_28
              refine W.jh (σ := (Nat → Int32)) (P := fun u_29 H locs => MH E h0 rf t0 t1 t2 (uA A 15 u_29) 0 pk H ∧ va_S (fun q : Nat => G q ≠ 0) s.heap H locs ∧ (True) ∧ HID (((¬ ((A 13) n_4).toInt = ((A 12) n_4).toInt) ∧ u_29 = (A 15)) ∨ ((((A 13) n_4).toInt = ((A 12) n_4).toInt) ∧ ∃ g_32 : Nat → Int32, (g_32 = upd (A 15) n_4 0) ∧ u_29 = g_32))) (f := F0 m 143 ls []) (fun u_29 H locs hI => ?_) (fun key_29 => ?_)
              · obtain ⟨hM, hS, hF_29, hJ_29⟩ := hI
                refine lv_aload_n hx hb dX10_push_143 rfl (lv_at hl 4 rfl) ?_
                refine va_get (D := DG E) (ci := 10) (v := .ref (rf 24)) (C := RX10) (T := TX10) (N := 49) hx hb hts iw_X10 hown hK.1 (va_one hM.1) 0 rfl rfl 24 (by decide) (hts _ fl_X10_71) (fun _ h9 => h9) rfl dX10_push_144 ?_
                refine lv_iload_n hx hb dX10_push_147 rfl (lv_at hl 2 rfl) ?_
                have ha_33 : va_at (DG E) vwCl (rf 24, .inl (E.2.2 0, 16, .inl (A 24))) _ := hM.2 24 (by decide) (by decide) (by decide)
                refine va_iald (D := DG E) hx hb hK.1 (va_one ha_33) 0 0 rfl rfl hi_14 dX10_push_148 ?_
                refine W.eq (g2 := F0 m 149 ls [.int ((A 24) (4 * n_4 + i0))]) (by rw [en_13]) ?_
                have q_34 : 0 ≤ ((A 24) (4 * n_4 + i0)).toInt := (hI6 (4 * n_4 + i0) hk_18).2.2.2.1
                have q_35 : ((A 24) (4 * n_4 + i0)).toInt ≤ 12 := (hI6 (4 * n_4 + i0) hk_18).2.2.2.2.1
                have q_36 : ((A 23) (4 * n_4 + i0)).toInt + ((A 24) (4 * n_4 + i0)).toInt ≤ 32 := (hI6 (4 * n_4 + i0) hk_18).2.2.2.2.2.1
                refine lv_iconst (v := 4) hx hb dX10_push_149 (by decide) ?_
                refine lv_iload hx hb dX10_push_150 (lv_at hl 1 rfl) ?_
                refine lv_imul hx hb dX10_push_152 ?_
                refine lv_topi (fun x_37 ex_37 => ?_)
                have fx_37 : x_37.toInt = 4 * x_16.toInt := by rw [ex_37]; exact s_mulK i_4 (by omega) (by omega)
                refine lv_isub hx hb dX10_push_153 ?_
                refine lv_topi (fun x_38 ex_38 => ?_)
                have fx_38 : x_38.toInt = ((A 24) (4 * n_4 + i0)).toInt - x_37.toInt := by have h9 := s_sub (x := ((A 24) (4 * n_4 + i0))) (y := x_37) (by omega) (by omega); rw [ex_38]; exact h9
                refine lv_istore (lv' := [(6, .int x_38), (5, .int 1), (4, .int x_16), (3, .int r_12), (2, .int ((A 13) n_4)), (0, .ref h0), (1, .int p0)]) hx hb dX10_push_154 hl (by decide) rfl (fun ls hl => ?_)
                refine W.jv (P := fun v_39 : Int32 => (0 ≤ v_39.toInt ∧ v_39.toInt ≤ 1) ∧ HID (((¬ x_16.toInt = 0) ∧ v_39 = 0) ∨ ((x_16.toInt = 0) ∧ v_39 = 1))) (f := fun v_39 => F0 m 166 ls ([.int v_39])) (fun v_39 hv_39 => ?_) (fun key_39 => ?_)
                · have hv_39_0 : 0 ≤ v_39.toInt ∧ v_39.toInt ≤ 1 := hv_39.1
                  refine lv_iload hx hb dX10_push_166 (lv_at hl 2 rfl) ?_
                  refine lv_aload_n hx hb dX10_push_168 rfl (lv_at hl 5 rfl) ?_
                  refine lv_iload_n hx hb dX10_push_169 rfl (lv_at hl 3 rfl) ?_
                  refine va_calli (rnV (fun H => MH E h0 rf t0 t1 t2 (uA A 15 u_29) 0 pk H) (As := [.int r_12]) (rest := [.int x_16, .int v_39]) ⟨hx, hb, hml, hown, hts⟩ (u_X10_numbersOf l E z0 G hGz h0 rf hR t0 t1 t2 (uA A 15 u_29) 0 pk r_12 hI6 (show 0 ≤ r_12.toInt ∧ r_12.toInt ≤ 15 from by first | decide | omega)) (cwV 1 hts (gdV ml_X10_178 im_X10_numbersOf se_X10_X10_numbersOf in_X10 co_X10_numbersOf rfl) rfl rfl rfl (by decide +kernel) ⟨Nat.le_of_ble_eq_true rfl, Nat.le_of_ble_eq_true rfl⟩) hM (fun U hU hW => hK.go hW hS hAz hU) (va_recv hK.1 (va_one hM.1) (ci := 10) (q0 := 0) rfl rfl) rfl rfl hl.1 rfl (lv_room (Nat.le_of_ble_eq_true rfl)) dX10_push_170 ⟨Nat.le_of_ble_eq_true rfl, Nat.le_of_ble_eq_true rfl⟩) hS (fun q _ h => h.elim) (fun q h => h.elim) (fun r_41 ur_41 t H locs ht hvm hwr_41 hB hz hk hS => ?_)
                  have hM := hM.kept (fun q hq => hk q hq (fun h => h))
                  have hDr_41 : D_X10_numbersOf (uA A 15 u_29) (0 : Int32) pk r_12 r_41 := hwr_41.2.2
                  have hpr_41_0 : 0 ≤ r_41.toInt ∧ r_41.toInt ≤ 3 := hwr_41.1
                  have hpr_41_1 : ∀ n : Nat, (n : Int) = r_12.toInt → r_41.toInt = NB (A 24) n := hwr_41.2.1
                  have iahpr_41_1 := hpr_41_1 (4 * n_4 + i0) (by omega)
                  refine W.jv (P := fun v_42 : Int32 => (0 ≤ v_42.toInt ∧ v_42.toInt ≤ 2) ∧ HID ((∃ x_43 : Int32, (x_43 = r_41 - 1) ∧ (x_43.toInt = r_41.toInt - 1) ∧ (¬ x_16.toInt = x_43.toInt) ∧ v_42 = 0) ∨ (∃ x_43 : Int32, (x_43 = r_41 - 1) ∧ (x_43.toInt = r_41.toInt - 1) ∧ (x_16.toInt = x_43.toInt) ∧ v_42 = 2))) (f := fun v_42 => F0 m 183 ls ([.int v_42, .int v_39])) (fun v_42 hv_42 => ?_) (fun key_42 => ?_)
                  · have hv_42_0 : 0 ≤ v_42.toInt ∧ v_42.toInt ≤ 2 := hv_42.1
                    refine lv_iadd hx hb dX10_push_183 ?_
                    refine lv_topi (fun x_45 ex_45 => ?_)
                    have fx_45 : x_45.toInt = v_39.toInt + v_42.toInt := by have h9 := s_add (x := v_39) (y := v_42) (by omega) (by omega); rw [ex_45]; exact h9
                    refine lv_istore (lv' := [(7, .int x_45), (6, .int x_38), (5, .int 1), (4, .int x_16), (3, .int r_12), (2, .int ((A 13) n_4)), (0, .ref h0), (1, .int p0)]) hx hb dX10_push_184 hl (by decide) rfl (fun ls hl => ?_)
                    refine lv_aload_n hx hb dX10_push_186 rfl (lv_at hl 6 rfl) ?_
                    refine lv_iload_n hx hb dX10_push_187 rfl (lv_at hl 7 rfl) ?_
                    refine lv_aload_n hx hb dX10_push_188 rfl (lv_at hl 6 rfl) ?_
                    refine va_get (D := DG E) (ci := 10) (v := .ref (rf 22)) (C := RX10) (T := TX10) (N := 49) hx hb hts iw_X10 hown hK.1 (va_one hM.1) 0 rfl rfl 22 (by decide) (hts _ fl_X10_65) (fun _ h9 => h9) rfl dX10_push_189 ?_
                    refine lv_iload_n hx hb dX10_push_192 rfl (lv_at hl 4 rfl) ?_
                    have ha_46 : va_at (DG E) vwCl (rf 22, .inl (E.2.2 0, 16, .inl (A 22))) _ := hM.2 22 (by decide) (by decide) (by decide)
                    refine va_iald (D := DG E) hx hb hK.1 (va_one ha_46) 0 0 rfl rfl hi_14 dX10_push_193 ?_
                    refine W.eq (g2 := F0 m 194 ls [.int ((A 22) (4 * n_4 + i0)), .int p0, .ref h0]) (by rw [en_13]) ?_
                    refine lv_iload_n hx hb dX10_push_194 rfl (lv_at hl 5 rfl) ?_
                    refine lv_aload_n hx hb dX10_push_195 rfl (lv_at hl 6 rfl) ?_
                    refine va_get (D := DG E) (ci := 10) (v := .ref (rf 22)) (C := RX10) (T := TX10) (N := 49) hx hb hts iw_X10 hown hK.1 (va_one hM.1) 0 rfl rfl 22 (by decide) (hts _ fl_X10_65) (fun _ h9 => h9) rfl dX10_push_196 ?_
                    refine lv_iload_n hx hb dX10_push_199 rfl (lv_at hl 4 rfl) ?_
                    have ha_47 : va_at (DG E) vwCl (rf 22, .inl (E.2.2 0, 16, .inl (A 22))) _ := hM.2 22 (by decide) (by decide) (by decide)
                    refine va_iald (D := DG E) hx hb hK.1 (va_one ha_47) 0 0 rfl rfl hi_14 dX10_push_200 ?_
                    refine W.eq (g2 := F0 m 201 ls [.int ((A 22) (4 * n_4 + i0)), .int ((A 13) n_4), .int ((A 22) (4 * n_4 + i0)), .int p0, .ref h0]) (by rw [en_13]) ?_
                    refine lv_if_ne (tgt := 209) hx hb dX10_push_201 (by decide) (fun c_48 => ?_) (fun c_48 => ?_)
                    · simp only [lt_I, le_I, eq_I, i_0, i_1, i_2, i_3, i_4, i_5, i_6, i_7, i_8, i_10, i_12, i_16, i_20, i_23, i_24, i_31, i_32, i_63, i_64, i_m1, i_9, i_11, i_13, i_25, i_60, i_75, i_79, i_80, i_96, i_100] at c_48
                      refine lv_aload_n hx hb dX10_push_209 rfl (lv_at hl 6 rfl) ?_
                      refine va_get (D := DG E) (ci := 10) (v := .ref (rf 25)) (C := RX10) (T := TX10) (N := 49) hx hb hts iw_X10 hown hK.1 (va_one hM.1) 0 rfl rfl 25 (by decide) (hts _ fl_X10_74) (fun _ h9 => h9) rfl dX10_push_210 ?_
                      refine lv_iload_n hx hb dX10_push_213 rfl (lv_at hl 4 rfl) ?_
                      have ha_49 : va_at (DG E) vwCl (rf 25, .inl (E.2.2 0, 16, .inl (A 25))) _ := hM.2 25 (by decide) (by decide) (by decide)
                      refine va_iald (D := DG E) hx hb hK.1 (va_one ha_49) 0 0 rfl rfl hi_14 dX10_push_214 ?_
                      refine W.eq (g2 := F0 m 215 ls [.int ((A 25) (4 * n_4 + i0)), .int ((A 13) n_4), .int ((A 22) (4 * n_4 + i0)), .int p0, .ref h0]) (by rw [en_13]) ?_
                      refine lv_aload_n hx hb dX10_push_215 rfl (lv_at hl 6 rfl) ?_
                      refine va_get (D := DG E) (ci := 10) (v := .ref (rf 22)) (C := RX10) (T := TX10) (N := 49) hx hb hts iw_X10 hown hK.1 (va_one hM.1) 0 rfl rfl 22 (by decide) (hts _ fl_X10_65) (fun _ h9 => h9) rfl dX10_push_216 ?_
                      refine lv_iload_n hx hb dX10_push_219 rfl (lv_at hl 4 rfl) ?_
                      have ha_50 : va_at (DG E) vwCl (rf 22, .inl (E.2.2 0, 16, .inl (A 22))) _ := hM.2 22 (by decide) (by decide) (by decide)
                      refine va_iald (D := DG E) hx hb hK.1 (va_one ha_50) 0 0 rfl rfl hi_14 dX10_push_220 ?_
                      refine W.eq (g2 := F0 m 221 ls [.int ((A 22) (4 * n_4 + i0)), .int ((A 25) (4 * n_4 + i0)), .int ((A 13) n_4), .int ((A 22) (4 * n_4 + i0)), .int p0, .ref h0]) (by rw [en_13]) ?_
                      refine lv_if_ne (tgt := 228) hx hb dX10_push_221 (by decide) (fun c_51 => ?_) (fun c_51 => by exfalso; simp only [lt_I, le_I, eq_I, i_0, i_1, i_2, i_3, i_4, i_5, i_6, i_7, i_8, i_10, i_12, i_16, i_20, i_23, i_24, i_31, i_32, i_63, i_64, i_m1, i_9, i_11, i_13, i_25, i_60, i_75, i_79, i_80, i_96, i_100] at c_51; omega)
                      simp only [lt_I, le_I, eq_I, i_0, i_1, i_2, i_3, i_4, i_5, i_6, i_7, i_8, i_10, i_12, i_16, i_20, i_23, i_24, i_31, i_32, i_63, i_64, i_m1, i_9, i_11, i_13, i_25, i_60, i_75, i_79, i_80, i_96, i_100] at c_51
                      refine lv_aload_n hx hb dX10_push_228 rfl (lv_at hl 6 rfl) ?_
                      refine va_get (D := DG E) (ci := 10) (v := .ref (rf 26)) (C := RX10) (T := TX10) (N := 49) hx hb hts iw_X10 hown hK.1 (va_one hM.1) 0 rfl rfl 26 (by decide) (hts _ fl_X10_77) (fun _ h9 => h9) rfl dX10_push_229 ?_
                      refine lv_iload_n hx hb dX10_push_232 rfl (lv_at hl 4 rfl) ?_
                      have ha_52 : va_at (DG E) vwCl (rf 26, .inl (E.2.2 0, 16, .inl (A 26))) _ := hM.2 26 (by decide) (by decide) (by decide)
                      refine va_iald (D := DG E) hx hb hK.1 (va_one ha_52) 0 0 rfl rfl hi_14 dX10_push_233 ?_
                      refine W.eq (g2 := F0 m 234 ls [.int ((A 26) (4 * n_4 + i0)), .int ((A 25) (4 * n_4 + i0)), .int ((A 13) n_4), .int ((A 22) (4 * n_4 + i0)), .int p0, .ref h0]) (by rw [en_13]) ?_
                      have q_53 : -1 ≤ ((A 26) (4 * n_4 + i0)).toInt := (hI6 (4 * n_4 + i0) hk_18).2.2.2.2.2.2.2.1
                      have q_54 : ((A 26) (4 * n_4 + i0)).toInt ≤ 31 := (hI6 (4 * n_4 + i0) hk_18).2.2.2.2.2.2.2.2
                      refine lv_iconst (v := 4) hx hb dX10_push_234 (by decide) ?_
                      refine lv_iload hx hb dX10_push_235 (lv_at hl 3 rfl) ?_
                      refine lv_imul hx hb dX10_push_237 ?_
                      refine W.eq (g2 := F0 m 238 ls [.int x_37, .int ((A 26) (4 * n_4 + i0)), .int ((A 25) (4 * n_4 + i0)), .int ((A 13) n_4), .int ((A 22) (4 * n_4 + i0)), .int p0, .ref h0]) (by rw [ex_37]) ?_
                      refine lv_iadd hx hb dX10_push_238 ?_
                      refine lv_topi (fun x_55 ex_55 => ?_)
                      have fx_55 : x_55.toInt = ((A 26) (4 * n_4 + i0)).toInt + x_37.toInt := by have h9 := s_add (x := ((A 26) (4 * n_4 + i0))) (y := x_37) (by omega) (by omega); rw [ex_55]; exact h9
                      refine lv_aload_n hx hb dX10_push_239 rfl (lv_at hl 6 rfl) ?_
                      refine va_get (D := DG E) (ci := 10) (v := .ref (rf 27)) (C := RX10) (T := TX10) (N := 49) hx hb hts iw_X10 hown hK.1 (va_one hM.1) 0 rfl rfl 27 (by decide) (hts _ fl_X10_80) (fun _ h9 => h9) rfl dX10_push_240 ?_
                      refine lv_iload_n hx hb dX10_push_243 rfl (lv_at hl 4 rfl) ?_
                      have ha_56 : va_at (DG E) vwCl (rf 27, .inl (E.2.2 0, 16, .inl (A 27))) _ := hM.2 27 (by decide) (by decide) (by decide)
                      refine va_iald (D := DG E) hx hb hK.1 (va_one ha_56) 0 0 rfl rfl hi_14 dX10_push_244 ?_
                      refine W.eq (g2 := F0 m 245 ls [.int ((A 27) (4 * n_4 + i0)), .int x_55, .int ((A 25) (4 * n_4 + i0)), .int ((A 13) n_4), .int ((A 22) (4 * n_4 + i0)), .int p0, .ref h0]) (by rw [en_13]) ?_
                      refine va_calli (rnV (fun H => MH E h0 rf t0 t1 t2 (uA A 15 u_29) 0 pk H) (As := [.int p0, .int ((A 22) (4 * n_4 + i0)), .int ((A 13) n_4), .int ((A 25) (4 * n_4 + i0)), .int x_55, .int ((A 27) (4 * n_4 + i0))]) (rest := []) ⟨hx, hb, hml, hown, hts⟩ (u_X10_emit l E z0 G hGz h0 rf hR t0 t1 t2 (uA A 15 u_29) 0 pk p0 ((A 22) (4 * n_4 + i0)) ((A 13) n_4) ((A 25) (4 * n_4 + i0)) x_55 ((A 27) (4 * n_4 + i0)) hI7 (show 0 ≤ p0.toInt ∧ p0.toInt ≤ 3 from by first | decide | omega) (show 0 ≤ pk.toInt ∧ pk.toInt ≤ 24 from by first | decide | omega) (show -1 ≤ x_55.toInt ∧ x_55.toInt ≤ 60 from by first | decide | omega) (show 0 ≤ ((A 22) (4 * n_4 + i0)).toInt from by first | decide | omega) (show ((A 22) (4 * n_4 + i0)).toInt < 1 ∨ 3 < ((A 22) (4 * n_4 + i0)).toInt ∨ (0 ≤ ((A 25) (4 * n_4 + i0)).toInt ∧ ((A 25) (4 * n_4 + i0)).toInt ≤ 5) from by first | decide | omega)) (cwV 6 hts (gdV ml_X10_199 im_X10_emit se_X10_X10_emit in_X10 co_X10_emit rfl) rfl rfl rfl (by decide +kernel) ⟨Nat.le_of_ble_eq_true rfl, Nat.le_of_ble_eq_true rfl⟩) hM (fun U hU hW => hK.go hW hS hAz hU) (va_recv hK.1 (va_one hM.1) (ci := 10) (q0 := 0) rfl rfl) rfl rfl hl.1 rfl (lv_room (Nat.le_of_ble_eq_true rfl)) dX10_push_245 ⟨Nat.le_of_ble_eq_true rfl, Nat.le_of_ble_eq_true rfl⟩) hS (fun q _ h => h) (fun q h => h) (fun r_57 ur_57 t H locs ht hvm hwr_57 hB hz hk hS => ?_)
                      have hM : MH E h0 rf t0 t1 t2 (uA (uA (uA (uA (uA (uA (uA (uA A 15 u_29) 41 (ur_57.1)) 42 (ur_57.2.1)) 43 (ur_57.2.2.1)) 44 (ur_57.2.2.2.1)) 45 (ur_57.2.2.2.2.1)) 46 (ur_57.2.2.2.2.2.1)) 47 (ur_57.2.2.2.2.2.2.1)) 0 ur_57.2.2.2.2.2.2.2 H := by rw [ht] at hB; exact hB
                      have hDr_57 : D_X10_emit (uA A 15 u_29) (0 : Int32) pk p0 ((A 22) (4 * n_4 + i0)) ((A 13) n_4) ((A 25) (4 * n_4 + i0)) x_55 ((A 27) (4 * n_4 + i0)) (uA (uA (uA (uA (uA (uA (uA (uA A 15 u_29) 41 (ur_57.1)) 42 (ur_57.2.1)) 43 (ur_57.2.2.1)) 44 (ur_57.2.2.2.1)) 45 (ur_57.2.2.2.2.1)) 46 (ur_57.2.2.2.2.2.1)) 47 (ur_57.2.2.2.2.2.2.1)) (0 : Int32) (ur_57.2.2.2.2.2.2.2) r_57 := hwr_57.2.2.2.2.2
                      have hpr_57_0 : I7 (ur_57.1) (ur_57.2.1) (ur_57.2.2.2.1) (ur_57.2.2.2.2.1) (ur_57.2.2.2.2.2.1) := hwr_57.1
                      have hpr_57_1 : 0 ≤ ur_57.2.2.2.2.2.2.2.toInt ∧ ur_57.2.2.2.2.2.2.2.toInt ≤ 24 := hwr_57.2.1
                      have hpr_57_2 : -1 ≤ r_57.toInt ∧ r_57.toInt ≤ 23 := hwr_57.2.2.1
                      have hpr_57_3 : ∀ n : Nat, (n : Int) = r_57.toInt → (ur_57.2.1) n = ((A 22) (4 * n_4 + i0)) := hwr_57.2.2.2.1
                      have hpr_57_4 : ((ur_57.2.2.2.1) 24).toInt = ((A 44) 24).toInt ∧ ((ur_57.2.2.2.2.2.1) 24).toInt = ((A 46) 24).toInt := hwr_57.2.2.2.2.1
                      refine lv_istore (lv' := [(8, .int r_57), (7, .int x_45), (6, .int x_38), (5, .int 1), (4, .int x_16), (3, .int r_12), (2, .int ((A 13) n_4)), (0, .ref h0), (1, .int p0)]) hx hb dX10_push_248 hl (by decide) rfl (fun ls hl => ?_)
                      refine lv_aload_n hx hb dX10_push_250 rfl (lv_at hl 7 rfl) ?_
                      refine va_get (D := DG E) (ci := 10) (v := .ref (rf 22)) (C := RX10) (T := TX10) (N := 49) hx hb hts iw_X10 hown hK.1 (va_one hM.1) 0 rfl rfl 22 (by decide) (hts _ fl_X10_65) (fun _ h9 => h9) rfl dX10_push_251 ?_
                      refine lv_iload_n hx hb dX10_push_254 rfl (lv_at hl 5 rfl) ?_
                      have ha_58 : va_at (DG E) vwCl (rf 22, .inl (E.2.2 0, 16, .inl (A 22))) _ := hM.2 22 (by decide) (by decide) (by decide)
                      refine va_iald (D := DG E) hx hb hK.1 (va_one ha_58) 0 0 rfl rfl hi_14 dX10_push_255 ?_
                      refine W.eq (g2 := F0 m 256 ls [.int ((A 22) (4 * n_4 + i0))]) (by rw [en_13]) ?_
                      refine lv_iconst (v := 2) hx hb dX10_push_256 (by decide) ?_
                      refine lv_icmp_ge (tgt := 290) hx hb dX10_push_257 (by decide) (fun c_59 => ?_) (fun c_59 => ?_)
                      · simp only [lt_I, le_I, eq_I, i_0, i_1, i_2, i_3, i_4, i_5, i_6, i_7, i_8, i_10, i_12, i_16, i_20, i_23, i_24, i_31, i_32, i_63, i_64, i_m1, i_9, i_11, i_13, i_25, i_60, i_75, i_79, i_80, i_96, i_100] at c_59
                        refine lv_aload_n hx hb dX10_push_290 rfl (lv_at hl 7 rfl) ?_
                        refine va_get (D := DG E) (ci := 10) (v := .ref (rf 22)) (C := RX10) (T := TX10) (N := 49) hx hb hts iw_X10 hown hK.1 (va_one hM.1) 0 rfl rfl 22 (by decide) (hts _ fl_X10_65) (fun _ h9 => h9) rfl dX10_push_291 ?_
                        refine lv_iload_n hx hb dX10_push_294 rfl (lv_at hl 5 rfl) ?_
                        have ha_60 : va_at (DG E) vwCl (rf 22, .inl (E.2.2 0, 16, .inl (A 22))) _ := hM.2 22 (by decide) (by decide) (by decide)
                        refine va_iald (D := DG E) hx hb hK.1 (va_one ha_60) 0 0 rfl rfl hi_14 dX10_push_295 ?_
                        refine W.eq (g2 := F0 m 296 ls [.int ((A 22) (4 * n_4 + i0))]) (by rw [en_13]) ?_
                        refine lv_iconst (v := 2) hx hb dX10_push_296 (by decide) ?_
                        refine lv_icmp_ne (tgt := 314) hx hb dX10_push_297 (by decide) (fun c_61 => ?_) (fun c_61 => ?_)
                        · simp only [lt_I, le_I, eq_I, i_0, i_1, i_2, i_3, i_4, i_5, i_6, i_7, i_8, i_10, i_12, i_16, i_20, i_23, i_24, i_31, i_32, i_63, i_64, i_m1, i_9, i_11, i_13, i_25, i_60, i_75, i_79, i_80, i_96, i_100] at c_61
                          refine lv_aload_n hx hb dX10_push_314 rfl (lv_at hl 7 rfl) ?_
                          refine va_get (D := DG E) (ci := 10) (v := .ref (rf 13)) (C := RX10) (T := TX10) (N := 49) hx hb hts iw_X10 hown hK.1 (va_one hM.1) 0 rfl rfl 13 (by decide) (hts _ fl_X10_37) (fun _ h9 => h9) rfl dX10_push_315 ?_
                          refine lv_iload_n hx hb dX10_push_318 rfl (lv_at hl 8 rfl) ?_
                          refine lv_iload_n hx hb dX10_push_319 rfl (lv_at hl 6 rfl) ?_
                          refine lv_iload hx hb dX10_push_320 (lv_at hl 3 rfl) ?_
                          refine lv_iadd hx hb dX10_push_322 ?_
                          refine W.eq (g2 := F0 m 323 ls [.int x_24, .int p0, .ref (rf 13)]) (by rw [ex_24]) ?_
                          refine lv_bipush (v := 64) hx hb dX10_push_323 (by decide) ?_
                          refine lv_irem hx hb dX10_push_325 (by decide) ?_
                          refine lv_topi (fun x_62 ex_62 => ?_)
                          have fx_62 : x_62.toInt = x_24.toInt % 64 := by have h9 := s_rem (x := x_24) 64 (by decide) (by decide) (by omega); rw [ex_62]; exact h9
                          have ha_63 : va_at (DG E) vwCl (rf 13, .inl (E.2.2 0, 4, .inl (A 13))) _ := hM.2 13 (by decide) (by decide) (by decide)
                          refine rr_iast (D := DG E) hx hb hK.1 0 ha_63 hS (by show G (rf 13) ≠ 0; rw [hR.2 13 (by decide) (by decide) (by decide)]; decide) rfl hi_2 dX10_push_326 (fun H locs hn ho hz hS => ?_)
                          rw [en_4] at hn
                          obtain ⟨g_63, eg_63⟩ : ∃ z : Nat → Int32, z = upd (A 13) n_4 x_62 := ⟨_, rfl⟩
                          have sg_63 : g_63 n_4 = x_62 := by rw [eg_63]; exact upd_s
                          have ng_63 : ∀ k, k ≠ n_4 → g_63 k = (A 13) k := fun k hk => by rw [eg_63]; exact upd_n hk
                          have hn : va_at (DG E) vwCl (rf 13, .inl (E.2.2 0, 4, .inl g_63)) H := by rw [eg_63]; exact hn
                          have hM : MH E h0 rf t0 t1 t2 (uA (uA (uA (uA (uA (uA (uA (uA (uA A 15 u_29) 41 (ur_57.1)) 42 (ur_57.2.1)) 43 (ur_57.2.2.1)) 44 (ur_57.2.2.2.1)) 45 (ur_57.2.2.2.2.1)) 46 (ur_57.2.2.2.2.2.1)) 47 (ur_57.2.2.2.2.2.2.1)) 13 g_63) 0 ur_57.2.2.2.2.2.2.2 H := hM.w hR 13 (by decide) (by decide) (by decide) hn ho
                          refine lv_iload_n hx hb dX10_push_327 rfl (lv_at hl 6 rfl) ?_
                          have hI4_64 : I4 (A 10) (A 20) (A 29) (A 24) (A 11) (A 12) g_63 := by
                            intro k hk
                            by_cases e : k = n_4
                            · rw [e]
                              exact ⟨fun _ => hPn _ (by rw [sg_63]; omega), Or.inl hst0⟩
                            · exact (hI4 k hk).cg rfl rfl (fun _ _ => rfl) (fun _ _ => rfl) rfl rfl (ng_63 k e)
                          exact W.iret (v := ((A 13) n_4)) hx hb hr (fun t ht hW => ⟨⟨((A 13) n_4), ((ur_57.1), (ur_57.2.1), (ur_57.2.2.1), (ur_57.2.2.2.1), (ur_57.2.2.2.2.1), (ur_57.2.2.2.2.2.1), (ur_57.2.2.2.2.2.2.1), (A 48), g_63, u_29, ur_57.2.2.2.2.2.2.2, 0), rfl, ⟨hI4_64, hpr_57_0, (by show 0 ≤ ur_57.2.2.2.2.2.2.2.toInt ∧ ur_57.2.2.2.2.2.2.2.toInt ≤ 24; omega), (Or.inl ⟨c_1r, n_4, hn_4, (Or.inr ⟨c_5, (Or.inr ⟨c_8, (Or.inl ⟨c_10, r_12, hpr_12_0, hpr_12_1, i0, hi4, hn_13, x_16, ex_16, (Or.inl ⟨c_22, x_24, ex_24, fx_24, x_25, ex_25, fx_25, x_26, ex_26, fx_26, x_27, ex_27, fx_27, (Or.inl ⟨c_28, u_29, hJ_29, x_37, ex_37, fx_37, x_38, ex_38, fx_38, v_39, hv_39.2, r_41, hDr_41, hpr_41_0, hpr_41_1, v_42, hv_42.2, x_45, ex_45, fx_45, (Or.inl ⟨c_48, x_55, ex_55, fx_55, ur_57, r_57, hDr_57, hpr_57_0, hpr_57_1, hpr_57_2, hpr_57_3, hpr_57_4, (Or.inl ⟨c_59, (Or.inl ⟨c_61, x_62, ex_62, fx_62, g_63, eg_63, rfl, rfl, rfl, rfl⟩)⟩)⟩)⟩)⟩)⟩)⟩)⟩)⟩)⟩, (by show MH E h0 rf t0 t1 t2 (uA (uA (uA (uA (uA (uA (uA (uA (uA (uA A 41 (ur_57.1)) 42 (ur_57.2.1)) 43 (ur_57.2.2.1)) 44 (ur_57.2.2.2.1)) 45 (ur_57.2.2.2.2.1)) 46 (ur_57.2.2.2.2.2.1)) 47 (ur_57.2.2.2.2.2.2.1)) 48 (A 48)) 13 g_63) 15 u_29) 0 ur_57.2.2.2.2.2.2.2 t.heap; rw [ht]; exact hM.cg9 rfl rfl rfl rfl rfl rfl rfl rfl rfl rfl rfl rfl rfl rfl rfl rfl rfl rfl rfl rfl rfl rfl rfl rfl rfl rfl rfl rfl rfl rfl rfl rfl rfl rfl rfl rfl rfl rfl rfl rfl rfl rfl rfl rfl)⟩, hS.F ht⟩) hS.2.2 dX10_push_328
                        · simp only [lt_I, le_I, eq_I, i_0, i_1, i_2, i_3, i_4, i_5, i_6, i_7, i_8, i_10, i_12, i_16, i_20, i_23, i_24, i_31, i_32, i_63, i_64, i_m1, i_9, i_11, i_13, i_25, i_60, i_75, i_79, i_80, i_96, i_100] at c_61
                          refine lv_iload hx hb dX10_push_300 (lv_at hl 0 rfl) ?_
                          refine lv_if_lt (tgt := 314) hx hb dX10_push_302 (by decide) (fun c_65 => ?_) (fun c_65 => ?_)
                          · simp only [lt_I, le_I, eq_I, i_0, i_1, i_2, i_3, i_4, i_5, i_6, i_7, i_8, i_10, i_12, i_16, i_20, i_23, i_24, i_31, i_32, i_63, i_64, i_m1, i_9, i_11, i_13, i_25, i_60, i_75, i_79, i_80, i_96, i_100] at c_65
                            refine lv_aload_n hx hb dX10_push_314 rfl (lv_at hl 7 rfl) ?_
                            refine va_get (D := DG E) (ci := 10) (v := .ref (rf 13)) (C := RX10) (T := TX10) (N := 49) hx hb hts iw_X10 hown hK.1 (va_one hM.1) 0 rfl rfl 13 (by decide) (hts _ fl_X10_37) (fun _ h9 => h9) rfl dX10_push_315 ?_
                            refine lv_iload_n hx hb dX10_push_318 rfl (lv_at hl 8 rfl) ?_
                            refine lv_iload_n hx hb dX10_push_319 rfl (lv_at hl 6 rfl) ?_
                            refine lv_iload hx hb dX10_push_320 (lv_at hl 3 rfl) ?_
                            refine lv_iadd hx hb dX10_push_322 ?_
                            refine W.eq (g2 := F0 m 323 ls [.int x_24, .int p0, .ref (rf 13)]) (by rw [ex_24]) ?_
                            refine lv_bipush (v := 64) hx hb dX10_push_323 (by decide) ?_
                            refine lv_irem hx hb dX10_push_325 (by decide) ?_
                            refine lv_topi (fun x_66 ex_66 => ?_)
                            have fx_66 : x_66.toInt = x_24.toInt % 64 := by have h9 := s_rem (x := x_24) 64 (by decide) (by decide) (by omega); rw [ex_66]; exact h9
                            have ha_67 : va_at (DG E) vwCl (rf 13, .inl (E.2.2 0, 4, .inl (A 13))) _ := hM.2 13 (by decide) (by decide) (by decide)
                            refine rr_iast (D := DG E) hx hb hK.1 0 ha_67 hS (by show G (rf 13) ≠ 0; rw [hR.2 13 (by decide) (by decide) (by decide)]; decide) rfl hi_2 dX10_push_326 (fun H locs hn ho hz hS => ?_)
                            rw [en_4] at hn
                            obtain ⟨g_67, eg_67⟩ : ∃ z : Nat → Int32, z = upd (A 13) n_4 x_66 := ⟨_, rfl⟩
                            have sg_67 : g_67 n_4 = x_66 := by rw [eg_67]; exact upd_s
                            have ng_67 : ∀ k, k ≠ n_4 → g_67 k = (A 13) k := fun k hk => by rw [eg_67]; exact upd_n hk
                            have hn : va_at (DG E) vwCl (rf 13, .inl (E.2.2 0, 4, .inl g_67)) H := by rw [eg_67]; exact hn
                            have hM : MH E h0 rf t0 t1 t2 (uA (uA (uA (uA (uA (uA (uA (uA (uA A 15 u_29) 41 (ur_57.1)) 42 (ur_57.2.1)) 43 (ur_57.2.2.1)) 44 (ur_57.2.2.2.1)) 45 (ur_57.2.2.2.2.1)) 46 (ur_57.2.2.2.2.2.1)) 47 (ur_57.2.2.2.2.2.2.1)) 13 g_67) 0 ur_57.2.2.2.2.2.2.2 H := hM.w hR 13 (by decide) (by decide) (by decide) hn ho
                            refine lv_iload_n hx hb dX10_push_327 rfl (lv_at hl 6 rfl) ?_
                            have hI4_68 : I4 (A 10) (A 20) (A 29) (A 24) (A 11) (A 12) g_67 := by
                              intro k hk
                              by_cases e : k = n_4
                              · rw [e]
                                exact ⟨fun _ => hPn _ (by rw [sg_67]; omega), Or.inl hst0⟩
                              · exact (hI4 k hk).cg rfl rfl (fun _ _ => rfl) (fun _ _ => rfl) rfl rfl (ng_67 k e)
                            exact W.iret (v := ((A 13) n_4)) hx hb hr (fun t ht hW => ⟨⟨((A 13) n_4), ((ur_57.1), (ur_57.2.1), (ur_57.2.2.1), (ur_57.2.2.2.1), (ur_57.2.2.2.2.1), (ur_57.2.2.2.2.2.1), (ur_57.2.2.2.2.2.2.1), (A 48), g_67, u_29, ur_57.2.2.2.2.2.2.2, 0), rfl, ⟨hI4_68, hpr_57_0, (by show 0 ≤ ur_57.2.2.2.2.2.2.2.toInt ∧ ur_57.2.2.2.2.2.2.2.toInt ≤ 24; omega), (Or.inl ⟨c_1r, n_4, hn_4, (Or.inr ⟨c_5, (Or.inr ⟨c_8, (Or.inl ⟨c_10, r_12, hpr_12_0, hpr_12_1, i0, hi4, hn_13, x_16, ex_16, (Or.inl ⟨c_22, x_24, ex_24, fx_24, x_25, ex_25, fx_25, x_26, ex_26, fx_26, x_27, ex_27, fx_27, (Or.inl ⟨c_28, u_29, hJ_29, x_37, ex_37, fx_37, x_38, ex_38, fx_38, v_39, hv_39.2, r_41, hDr_41, hpr_41_0, hpr_41_1, v_42, hv_42.2, x_45, ex_45, fx_45, (Or.inl ⟨c_48, x_55, ex_55, fx_55, ur_57, r_57, hDr_57, hpr_57_0, hpr_57_1, hpr_57_2, hpr_57_3, hpr_57_4, (Or.inl ⟨c_59, (Or.inr ⟨c_61, (Or.inl ⟨c_65, x_66, ex_66, fx_66, g_67, eg_67, rfl, rfl, rfl, rfl⟩)⟩)⟩)⟩)⟩)⟩)⟩)⟩)⟩)⟩)⟩, (by show MH E h0 rf t0 t1 t2 (uA (uA (uA (uA (uA (uA (uA (uA (uA (uA A 41 (ur_57.1)) 42 (ur_57.2.1)) 43 (ur_57.2.2.1)) 44 (ur_57.2.2.2.1)) 45 (ur_57.2.2.2.2.1)) 46 (ur_57.2.2.2.2.2.1)) 47 (ur_57.2.2.2.2.2.2.1)) 48 (A 48)) 13 g_67) 15 u_29) 0 ur_57.2.2.2.2.2.2.2 t.heap; rw [ht]; exact hM.cg9 rfl rfl rfl rfl rfl rfl rfl rfl rfl rfl rfl rfl rfl rfl rfl rfl rfl rfl rfl rfl rfl rfl rfl rfl rfl rfl rfl rfl rfl rfl rfl rfl rfl rfl rfl rfl rfl rfl rfl rfl rfl rfl rfl rfl)⟩, hS.F ht⟩) hS.2.2 dX10_push_328
                          · simp only [lt_I, le_I, eq_I, i_0, i_1, i_2, i_3, i_4, i_5, i_6, i_7, i_8, i_10, i_12, i_16, i_20, i_23, i_24, i_31, i_32, i_63, i_64, i_m1, i_9, i_11, i_13, i_25, i_60, i_75, i_79, i_80, i_96, i_100] at c_65
                            obtain ⟨n_69, hn_69, en_69⟩ := s_nat (x := r_57) (by omega)
                            have hkd : ((ur_57.2.1) n_69).toInt = ((A 22) (4 * n_4 + i0)).toInt := by rw [hpr_57_3 n_69 (by omega)]
                            refine lv_aload_n hx hb dX10_push_305 rfl (lv_at hl 7 rfl) ?_
                            refine va_get (D := DG E) (ci := 10) (v := .ref (rf 44)) (C := RX10) (T := TX10) (N := 49) hx hb hts iw_X10 hown hK.1 (va_one hM.1) 0 rfl rfl 44 (by decide) (hts _ fl_X10_128) (fun _ h9 => h9) rfl dX10_push_306 ?_
                            refine lv_iload hx hb dX10_push_309 (lv_at hl 0 rfl) ?_
                            refine lv_iload hx hb dX10_push_311 (lv_at hl 2 rfl) ?_
                            have hi_70 : vp_in r_57 25 := vp_in_iff.mpr (by omega)
                            have ha_71 : va_at (DG E) vwCl (rf 44, .inl (E.2.2 0, 25, .inl (ur_57.2.2.2.1))) _ := hM.2 44 (by decide) (by decide) (by decide)
                            refine rr_iast (D := DG E) hx hb hK.1 0 ha_71 hS (by show G (rf 44) ≠ 0; rw [hR.2 44 (by decide) (by decide) (by decide)]; decide) rfl hi_70 dX10_push_313 (fun H locs hn ho hz hS => ?_)
                            rw [en_69] at hn
                            obtain ⟨g_71, eg_71⟩ : ∃ z : Nat → Int32, z = upd (ur_57.2.2.2.1) n_69 x_38 := ⟨_, rfl⟩
                            have sg_71 : g_71 n_69 = x_38 := by rw [eg_71]; exact upd_s
                            have ng_71 : ∀ k, k ≠ n_69 → g_71 k = (ur_57.2.2.2.1) k := fun k hk => by rw [eg_71]; exact upd_n hk
                            have hn : va_at (DG E) vwCl (rf 44, .inl (E.2.2 0, 25, .inl g_71)) H := by rw [eg_71]; exact hn
                            have hM : MH E h0 rf t0 t1 t2 (uA (uA (uA (uA (uA (uA (uA (uA (uA A 15 u_29) 41 (ur_57.1)) 42 (ur_57.2.1)) 43 (ur_57.2.2.1)) 44 (ur_57.2.2.2.1)) 45 (ur_57.2.2.2.2.1)) 46 (ur_57.2.2.2.2.2.1)) 47 (ur_57.2.2.2.2.2.2.1)) 44 g_71) 0 ur_57.2.2.2.2.2.2.2 H := hM.w hR 44 (by decide) (by decide) (by decide) hn ho
                            refine lv_aload_n hx hb dX10_push_314 rfl (lv_at hl 7 rfl) ?_
                            refine va_get (D := DG E) (ci := 10) (v := .ref (rf 13)) (C := RX10) (T := TX10) (N := 49) hx hb hts iw_X10 hown hK.1 (va_one hM.1) 0 rfl rfl 13 (by decide) (hts _ fl_X10_37) (fun _ h9 => h9) rfl dX10_push_315 ?_
                            refine lv_iload_n hx hb dX10_push_318 rfl (lv_at hl 8 rfl) ?_
                            refine lv_iload_n hx hb dX10_push_319 rfl (lv_at hl 6 rfl) ?_
                            refine lv_iload hx hb dX10_push_320 (lv_at hl 3 rfl) ?_
                            refine lv_iadd hx hb dX10_push_322 ?_
                            refine W.eq (g2 := F0 m 323 ls [.int x_24, .int p0, .ref (rf 13)]) (by rw [ex_24]) ?_
                            refine lv_bipush (v := 64) hx hb dX10_push_323 (by decide) ?_
                            refine lv_irem hx hb dX10_push_325 (by decide) ?_
                            refine lv_topi (fun x_72 ex_72 => ?_)
                            have fx_72 : x_72.toInt = x_24.toInt % 64 := by have h9 := s_rem (x := x_24) 64 (by decide) (by decide) (by omega); rw [ex_72]; exact h9
                            have ha_73 : va_at (DG E) vwCl (rf 13, .inl (E.2.2 0, 4, .inl (A 13))) _ := hM.2 13 (by decide) (by decide) (by decide)
                            refine rr_iast (D := DG E) hx hb hK.1 0 ha_73 hS (by show G (rf 13) ≠ 0; rw [hR.2 13 (by decide) (by decide) (by decide)]; decide) rfl hi_2 dX10_push_326 (fun H locs hn ho hz hS => ?_)
                            rw [en_4] at hn
                            obtain ⟨g_73, eg_73⟩ : ∃ z : Nat → Int32, z = upd (A 13) n_4 x_72 := ⟨_, rfl⟩
                            have sg_73 : g_73 n_4 = x_72 := by rw [eg_73]; exact upd_s
                            have ng_73 : ∀ k, k ≠ n_4 → g_73 k = (A 13) k := fun k hk => by rw [eg_73]; exact upd_n hk
                            have hn : va_at (DG E) vwCl (rf 13, .inl (E.2.2 0, 4, .inl g_73)) H := by rw [eg_73]; exact hn
                            have hM : MH E h0 rf t0 t1 t2 (uA (uA (uA (uA (uA (uA (uA (uA (uA (uA A 15 u_29) 41 (ur_57.1)) 42 (ur_57.2.1)) 43 (ur_57.2.2.1)) 44 (ur_57.2.2.2.1)) 45 (ur_57.2.2.2.2.1)) 46 (ur_57.2.2.2.2.2.1)) 47 (ur_57.2.2.2.2.2.2.1)) 44 g_71) 13 g_73) 0 ur_57.2.2.2.2.2.2.2 H := hM.w hR 13 (by decide) (by decide) (by decide) hn ho
                            refine lv_iload_n hx hb dX10_push_327 rfl (lv_at hl 6 rfl) ?_
                            have hI4_74 : I4 (A 10) (A 20) (A 29) (A 24) (A 11) (A 12) g_73 := by
                              intro k hk
                              by_cases e : k = n_4
                              · rw [e]
                                exact ⟨fun _ => hPn _ (by rw [sg_73]; omega), Or.inl hst0⟩
                              · exact (hI4 k hk).cg rfl rfl (fun _ _ => rfl) (fun _ _ => rfl) rfl rfl (ng_73 k e)
                            have hI7_75 : I7 (ur_57.1) (ur_57.2.1) g_71 (ur_57.2.2.2.2.1) (ur_57.2.2.2.2.2.1) := by
                              intro n9 hn9
                              have h9 : 0 ≤ ((ur_57.1) n9).toInt ∧ ((ur_57.1) n9).toInt ≤ 3 ∧ 0 ≤ ((ur_57.2.2.2.1) n9).toInt ∧ ((ur_57.2.2.2.1) n9).toInt ≤ 12 ∧ (((ur_57.2.1) n9).toInt ≠ 0 ∧ ((ur_57.2.1) n9).toInt ≠ 1 ∧ ((ur_57.2.1) n9).toInt ≠ 4 ∨ ((ur_57.2.2.2.1) n9).toInt ≤ 4) ∧ (((ur_57.2.1) n9).toInt < 1 ∨ 3 < ((ur_57.2.1) n9).toInt ∨ (0 ≤ ((ur_57.2.2.2.2.1) n9).toInt ∧ ((ur_57.2.2.2.2.1) n9).toInt ≤ 5)) ∧ -1 ≤ ((ur_57.2.2.2.2.2.1) n9).toInt ∧ ((ur_57.2.2.2.2.2.1) n9).toInt ≤ 60 ∧ 0 ≤ ((ur_57.2.1) n9).toInt := hpr_57_0 n9 hn9
                              show 0 ≤ ((ur_57.1) n9).toInt ∧ ((ur_57.1) n9).toInt ≤ 3 ∧ 0 ≤ (g_71 n9).toInt ∧ (g_71 n9).toInt ≤ 12 ∧ (((ur_57.2.1) n9).toInt ≠ 0 ∧ ((ur_57.2.1) n9).toInt ≠ 1 ∧ ((ur_57.2.1) n9).toInt ≠ 4 ∨ (g_71 n9).toInt ≤ 4) ∧ (((ur_57.2.1) n9).toInt < 1 ∨ 3 < ((ur_57.2.1) n9).toInt ∨ (0 ≤ ((ur_57.2.2.2.2.1) n9).toInt ∧ ((ur_57.2.2.2.2.1) n9).toInt ≤ 5)) ∧ -1 ≤ ((ur_57.2.2.2.2.2.1) n9).toInt ∧ ((ur_57.2.2.2.2.2.1) n9).toInt ≤ 60 ∧ 0 ≤ ((ur_57.2.1) n9).toInt
                              by_cases ezn_69 : n9 = n_69
                              · rw [ezn_69] at h9 ⊢
                                rw [sg_71]
                                exact ⟨by first | exact h9.1 | omega, by first | exact h9.2.1 | omega, by first | exact h9.2.2.1 | omega, by first | exact h9.2.2.2.1 | omega, by first | exact h9.2.2.2.2.1 | omega, by first | exact h9.2.2.2.2.2.1 | omega, by first | exact h9.2.2.2.2.2.2.1 | omega, by first | exact h9.2.2.2.2.2.2.2.1 | omega, by first | exact h9.2.2.2.2.2.2.2.2 | omega⟩
                              · rw [ng_71 n9 ezn_69]
                                exact h9
                            exact W.iret (v := ((A 13) n_4)) hx hb hr (fun t ht hW => ⟨⟨((A 13) n_4), ((ur_57.1), (ur_57.2.1), (ur_57.2.2.1), g_71, (ur_57.2.2.2.2.1), (ur_57.2.2.2.2.2.1), (ur_57.2.2.2.2.2.2.1), (A 48), g_73, u_29, ur_57.2.2.2.2.2.2.2, 0), rfl, ⟨hI4_74, hI7_75, (by show 0 ≤ ur_57.2.2.2.2.2.2.2.toInt ∧ ur_57.2.2.2.2.2.2.2.toInt ≤ 24; omega), (Or.inl ⟨c_1r, n_4, hn_4, (Or.inr ⟨c_5, (Or.inr ⟨c_8, (Or.inl ⟨c_10, r_12, hpr_12_0, hpr_12_1, i0, hi4, hn_13, x_16, ex_16, (Or.inl ⟨c_22, x_24, ex_24, fx_24, x_25, ex_25, fx_25, x_26, ex_26, fx_26, x_27, ex_27, fx_27, (Or.inl ⟨c_28, u_29, hJ_29, x_37, ex_37, fx_37, x_38, ex_38, fx_38, v_39, hv_39.2, r_41, hDr_41, hpr_41_0, hpr_41_1, v_42, hv_42.2, x_45, ex_45, fx_45, (Or.inl ⟨c_48, x_55, ex_55, fx_55, ur_57, r_57, hDr_57, hpr_57_0, hpr_57_1, hpr_57_2, hpr_57_3, hpr_57_4, (Or.inl ⟨c_59, (Or.inr ⟨c_61, (Or.inr ⟨c_65, n_69, hn_69, g_71, eg_71, x_72, ex_72, fx_72, g_73, eg_73, rfl, rfl, rfl, rfl⟩)⟩)⟩)⟩)⟩)⟩)⟩)⟩)⟩)⟩)⟩, (by show MH E h0 rf t0 t1 t2 (uA (uA (uA (uA (uA (uA (uA (uA (uA (uA A 41 (ur_57.1)) 42 (ur_57.2.1)) 43 (ur_57.2.2.1)) 44 g_71) 45 (ur_57.2.2.2.2.1)) 46 (ur_57.2.2.2.2.2.1)) 47 (ur_57.2.2.2.2.2.2.1)) 48 (A 48)) 13 g_73) 15 u_29) 0 ur_57.2.2.2.2.2.2.2 t.heap; rw [ht]; exact hM.cg9 rfl rfl rfl rfl rfl rfl rfl rfl rfl rfl rfl rfl rfl rfl rfl rfl rfl rfl rfl rfl rfl rfl rfl rfl rfl rfl rfl rfl rfl rfl rfl rfl rfl rfl rfl rfl rfl rfl rfl rfl rfl rfl rfl rfl)⟩, hS.F ht⟩) hS.2.2 dX10_push_328
                      · simp only [lt_I, le_I, eq_I, i_0, i_1, i_2, i_3, i_4, i_5, i_6, i_7, i_8, i_10, i_12, i_16, i_20, i_23, i_24, i_31, i_32, i_63, i_64, i_m1, i_9, i_11, i_13, i_25, i_60, i_75, i_79, i_80, i_96, i_100] at c_59
                        refine lv_aload_n hx hb dX10_push_260 rfl (lv_at hl 7 rfl) ?_
                        refine lv_iload hx hb dX10_push_261 (lv_at hl 0 rfl) ?_
                        refine lv_iload_n hx hb dX10_push_263 rfl (lv_at hl 8 rfl) ?_
                        refine lv_aload_n hx hb dX10_push_264 rfl (lv_at hl 7 rfl) ?_
                        refine va_get (D := DG E) (ci := 10) (v := .ref (rf 23)) (C := RX10) (T := TX10) (N := 49) hx hb hts iw_X10 hown hK.1 (va_one hM.1) 0 rfl rfl 23 (by decide) (hts _ fl_X10_68) (fun _ h9 => h9) rfl dX10_push_265 ?_
                        refine lv_iload_n hx hb dX10_push_268 rfl (lv_at hl 5 rfl) ?_
                        have ha_76 : va_at (DG E) vwCl (rf 23, .inl (E.2.2 0, 16, .inl (A 23))) _ := hM.2 23 (by decide) (by decide) (by decide)
                        refine va_iald (D := DG E) hx hb hK.1 (va_one ha_76) 0 0 rfl rfl hi_14 dX10_push_269 ?_
                        refine W.eq (g2 := F0 m 270 ls [.int ((A 23) (4 * n_4 + i0)), .int p0, .int r_57, .ref h0]) (by rw [en_13]) ?_
                        have q_77 : 0 ≤ ((A 23) (4 * n_4 + i0)).toInt := (hI6 (4 * n_4 + i0) hk_18).2.2.1
                        refine lv_iconst (v := 4) hx hb dX10_push_270 (by decide) ?_
                        refine lv_iload hx hb dX10_push_271 (lv_at hl 4 rfl) ?_
                        refine lv_imul hx hb dX10_push_273 ?_
                        refine W.eq (g2 := F0 m 274 ls [.int x_37, .int ((A 23) (4 * n_4 + i0)), .int p0, .int r_57, .ref h0]) (by rw [ex_37]) ?_
                        refine lv_iadd hx hb dX10_push_274 ?_
                        refine lv_topi (fun x_78 ex_78 => ?_)
                        have fx_78 : x_78.toInt = ((A 23) (4 * n_4 + i0)).toInt + x_37.toInt := by have h9 := s_add (x := ((A 23) (4 * n_4 + i0))) (y := x_37) (by omega) (by omega); rw [ex_78]; exact h9
                        refine lv_iload hx hb dX10_push_275 (lv_at hl 2 rfl) ?_
                        refine lv_iconst (v := 4) hx hb dX10_push_277 (by decide) ?_
                        refine lv_icmp_ge (tgt := 286) hx hb dX10_push_278 (by decide) (fun c_79 => ?_) (fun c_79 => ?_)
                        · simp only [lt_I, le_I, eq_I, i_0, i_1, i_2, i_3, i_4, i_5, i_6, i_7, i_8, i_10, i_12, i_16, i_20, i_23, i_24, i_31, i_32, i_63, i_64, i_m1, i_9, i_11, i_13, i_25, i_60, i_75, i_79, i_80, i_96, i_100] at c_79
                          refine lv_iconst (v := 4) hx hb dX10_push_286 (by decide) ?_
                          refine va_callv (rnV (fun H => MH E h0 rf t0 t1 t2 (uA (uA (uA (uA (uA (uA (uA (uA A 15 u_29) 41 (ur_57.1)) 42 (ur_57.2.1)) 43 (ur_57.2.2.1)) 44 (ur_57.2.2.2.1)) 45 (ur_57.2.2.2.2.1)) 46 (ur_57.2.2.2.2.2.1)) 47 (ur_57.2.2.2.2.2.2.1)) 0 ur_57.2.2.2.2.2.2.2 H) (As := [.int r_57, .int p0, .int x_78, .int 4]) (rest := []) ⟨hx, hb, hml, hown, hts⟩ (u_X10_load l E z0 G hGz h0 rf hR t0 t1 t2 (uA (uA (uA (uA (uA (uA (uA (uA A 15 u_29) 41 (ur_57.1)) 42 (ur_57.2.1)) 43 (ur_57.2.2.1)) 44 (ur_57.2.2.2.1)) 45 (ur_57.2.2.2.2.1)) 46 (ur_57.2.2.2.2.2.1)) 47 (ur_57.2.2.2.2.2.2.1)) 0 ur_57.2.2.2.2.2.2.2 r_57 p0 x_78 4 hpr_57_0 (show -1 ≤ r_57.toInt ∧ r_57.toInt ≤ 23 from by have := i_4; first | decide | omega) (show 0 ≤ p0.toInt ∧ p0.toInt ≤ 3 from by have := i_4; first | decide | omega) (show 0 ≤ x_78.toInt ∧ x_78.toInt ≤ 32 from by have := i_4; first | decide | omega) (show 0 ≤ (4 : Int32).toInt ∧ (4 : Int32).toInt ≤ 4 from by have := i_4; first | decide | omega) (show x_78.toInt + (4 : Int32).toInt ≤ 32 from by have := i_4; first | decide | omega)) (cwV 4 hts (gdV ml_X10_203 im_X10_load se_X10_X10_load in_X10 co_X10_load rfl) rfl rfl rfl (by decide +kernel) ⟨Nat.le_of_ble_eq_true rfl, Nat.le_of_ble_eq_true rfl⟩) hM (fun U hU hW => hK.go hW hS hAz hU) (va_recv hK.1 (va_one hM.1) (ci := 10) (q0 := 0) rfl rfl) rfl rfl hl.1 rfl (lv_room (Nat.le_of_ble_eq_true rfl)) dX10_push_287 ⟨Nat.le_of_ble_eq_true rfl, Nat.le_of_ble_eq_true rfl⟩) hS (fun q _ h => h) (fun q h => h) (fun ur_80 t H locs ht hvm hwr_80 hB hz hk hS => ?_)
                          have hM : MH E h0 rf t0 t1 t2 (uA (uA (uA (uA (uA (uA (uA (uA (uA (uA A 15 u_29) 41 (ur_57.1)) 42 (ur_57.2.1)) 43 (ur_57.2.2.1)) 44 (ur_57.2.2.2.1)) 45 (ur_57.2.2.2.2.1)) 46 (ur_57.2.2.2.2.2.1)) 47 (ur_57.2.2.2.2.2.2.1)) 44 (ur_80.1)) 48 (ur_80.2)) 0 ur_57.2.2.2.2.2.2.2 H := by rw [ht] at hB; exact hB
                          have hDr_80 : D_X10_load (uA (uA (uA (uA (uA (uA (uA (uA A 15 u_29) 41 (ur_57.1)) 42 (ur_57.2.1)) 43 (ur_57.2.2.1)) 44 (ur_57.2.2.2.1)) 45 (ur_57.2.2.2.2.1)) 46 (ur_57.2.2.2.2.2.1)) 47 (ur_57.2.2.2.2.2.2.1)) (0 : Int32) (ur_57.2.2.2.2.2.2.2) r_57 p0 x_78 (4 : Int32) (uA (uA (uA (uA (uA (uA (uA (uA (uA (uA A 15 u_29) 41 (ur_57.1)) 42 (ur_57.2.1)) 43 (ur_57.2.2.1)) 44 (ur_57.2.2.2.1)) 45 (ur_57.2.2.2.2.1)) 46 (ur_57.2.2.2.2.2.1)) 47 (ur_57.2.2.2.2.2.2.1)) 44 (ur_80.1)) 48 (ur_80.2)) (0 : Int32) (ur_57.2.2.2.2.2.2.2) := hwr_80.2.2
                          have hpr_80_0 : I7 (ur_57.1) (ur_57.2.1) (ur_80.1) (ur_57.2.2.2.2.1) (ur_57.2.2.2.2.2.1) := hwr_80.1
                          have hpr_80_1 : ((ur_80.1) 24).toInt = ((ur_57.2.2.2.1) 24).toInt ∧ ((ur_57.2.2.2.2.2.1) 24).toInt = ((ur_57.2.2.2.2.2.1) 24).toInt := hwr_80.2.1
                          have := i_4
                          refine lv_aload_n hx hb dX10_push_290 rfl (lv_at hl 7 rfl) ?_
                          refine va_get (D := DG E) (ci := 10) (v := .ref (rf 22)) (C := RX10) (T := TX10) (N := 49) hx hb hts iw_X10 hown hK.1 (va_one hM.1) 0 rfl rfl 22 (by decide) (hts _ fl_X10_65) (fun _ h9 => h9) rfl dX10_push_291 ?_
                          refine lv_iload_n hx hb dX10_push_294 rfl (lv_at hl 5 rfl) ?_
                          have ha_81 : va_at (DG E) vwCl (rf 22, .inl (E.2.2 0, 16, .inl (A 22))) _ := hM.2 22 (by decide) (by decide) (by decide)
                          refine va_iald (D := DG E) hx hb hK.1 (va_one ha_81) 0 0 rfl rfl hi_14 dX10_push_295 ?_
                          refine W.eq (g2 := F0 m 296 ls [.int ((A 22) (4 * n_4 + i0))]) (by rw [en_13]) ?_
                          refine lv_iconst (v := 2) hx hb dX10_push_296 (by decide) ?_
                          refine lv_icmp_ne (tgt := 314) hx hb dX10_push_297 (by decide) (fun c_82 => ?_) (fun c_82 => by exfalso; simp only [lt_I, le_I, eq_I, i_0, i_1, i_2, i_3, i_4, i_5, i_6, i_7, i_8, i_10, i_12, i_16, i_20, i_23, i_24, i_31, i_32, i_63, i_64, i_m1, i_9, i_11, i_13, i_25, i_60, i_75, i_79, i_80, i_96, i_100] at c_82; omega)
                          simp only [lt_I, le_I, eq_I, i_0, i_1, i_2, i_3, i_4, i_5, i_6, i_7, i_8, i_10, i_12, i_16, i_20, i_23, i_24, i_31, i_32, i_63, i_64, i_m1, i_9, i_11, i_13, i_25, i_60, i_75, i_79, i_80, i_96, i_100] at c_82
                          refine lv_aload_n hx hb dX10_push_314 rfl (lv_at hl 7 rfl) ?_
                          refine va_get (D := DG E) (ci := 10) (v := .ref (rf 13)) (C := RX10) (T := TX10) (N := 49) hx hb hts iw_X10 hown hK.1 (va_one hM.1) 0 rfl rfl 13 (by decide) (hts _ fl_X10_37) (fun _ h9 => h9) rfl dX10_push_315 ?_
                          refine lv_iload_n hx hb dX10_push_318 rfl (lv_at hl 8 rfl) ?_
                          refine lv_iload_n hx hb dX10_push_319 rfl (lv_at hl 6 rfl) ?_
                          refine lv_iload hx hb dX10_push_320 (lv_at hl 3 rfl) ?_
                          refine lv_iadd hx hb dX10_push_322 ?_
                          refine W.eq (g2 := F0 m 323 ls [.int x_24, .int p0, .ref (rf 13)]) (by rw [ex_24]) ?_
                          refine lv_bipush (v := 64) hx hb dX10_push_323 (by decide) ?_
                          refine lv_irem hx hb dX10_push_325 (by decide) ?_
                          refine lv_topi (fun x_83 ex_83 => ?_)
                          have fx_83 : x_83.toInt = x_24.toInt % 64 := by have h9 := s_rem (x := x_24) 64 (by decide) (by decide) (by omega); rw [ex_83]; exact h9
                          have ha_84 : va_at (DG E) vwCl (rf 13, .inl (E.2.2 0, 4, .inl (A 13))) _ := hM.2 13 (by decide) (by decide) (by decide)
                          refine rr_iast (D := DG E) hx hb hK.1 0 ha_84 hS (by show G (rf 13) ≠ 0; rw [hR.2 13 (by decide) (by decide) (by decide)]; decide) rfl hi_2 dX10_push_326 (fun H locs hn ho hz hS => ?_)
                          rw [en_4] at hn
                          obtain ⟨g_84, eg_84⟩ : ∃ z : Nat → Int32, z = upd (A 13) n_4 x_83 := ⟨_, rfl⟩
                          have sg_84 : g_84 n_4 = x_83 := by rw [eg_84]; exact upd_s
                          have ng_84 : ∀ k, k ≠ n_4 → g_84 k = (A 13) k := fun k hk => by rw [eg_84]; exact upd_n hk
                          have hn : va_at (DG E) vwCl (rf 13, .inl (E.2.2 0, 4, .inl g_84)) H := by rw [eg_84]; exact hn
                          have hM : MH E h0 rf t0 t1 t2 (uA (uA (uA (uA (uA (uA (uA (uA (uA (uA (uA A 15 u_29) 41 (ur_57.1)) 42 (ur_57.2.1)) 43 (ur_57.2.2.1)) 44 (ur_57.2.2.2.1)) 45 (ur_57.2.2.2.2.1)) 46 (ur_57.2.2.2.2.2.1)) 47 (ur_57.2.2.2.2.2.2.1)) 44 (ur_80.1)) 48 (ur_80.2)) 13 g_84) 0 ur_57.2.2.2.2.2.2.2 H := hM.w hR 13 (by decide) (by decide) (by decide) hn ho
                          refine lv_iload_n hx hb dX10_push_327 rfl (lv_at hl 6 rfl) ?_
                          have hI4_85 : I4 (A 10) (A 20) (A 29) (A 24) (A 11) (A 12) g_84 := by
                            intro k hk
                            by_cases e : k = n_4
                            · rw [e]
                              exact ⟨fun _ => hPn _ (by rw [sg_84]; omega), Or.inl hst0⟩
                            · exact (hI4 k hk).cg rfl rfl (fun _ _ => rfl) (fun _ _ => rfl) rfl rfl (ng_84 k e)
                          exact W.iret (v := ((A 13) n_4)) hx hb hr (fun t ht hW => ⟨⟨((A 13) n_4), ((ur_57.1), (ur_57.2.1), (ur_57.2.2.1), (ur_80.1), (ur_57.2.2.2.2.1), (ur_57.2.2.2.2.2.1), (ur_57.2.2.2.2.2.2.1), (ur_80.2), g_84, u_29, ur_57.2.2.2.2.2.2.2, 0), rfl, ⟨hI4_85, hpr_80_0, (by show 0 ≤ ur_57.2.2.2.2.2.2.2.toInt ∧ ur_57.2.2.2.2.2.2.2.toInt ≤ 24; omega), (Or.inl ⟨c_1r, n_4, hn_4, (Or.inr ⟨c_5, (Or.inr ⟨c_8, (Or.inl ⟨c_10, r_12, hpr_12_0, hpr_12_1, i0, hi4, hn_13, x_16, ex_16, (Or.inl ⟨c_22, x_24, ex_24, fx_24, x_25, ex_25, fx_25, x_26, ex_26, fx_26, x_27, ex_27, fx_27, (Or.inl ⟨c_28, u_29, hJ_29, x_37, ex_37, fx_37, x_38, ex_38, fx_38, v_39, hv_39.2, r_41, hDr_41, hpr_41_0, hpr_41_1, v_42, hv_42.2, x_45, ex_45, fx_45, (Or.inl ⟨c_48, x_55, ex_55, fx_55, ur_57, r_57, hDr_57, hpr_57_0, hpr_57_1, hpr_57_2, hpr_57_3, hpr_57_4, (Or.inr ⟨c_59, x_78, ex_78, fx_78, (Or.inl ⟨c_79, ur_80, hDr_80, hpr_80_0, hpr_80_1, x_83, ex_83, fx_83, g_84, eg_84, rfl, rfl, rfl, rfl⟩)⟩)⟩)⟩)⟩)⟩)⟩)⟩)⟩)⟩, (by show MH E h0 rf t0 t1 t2 (uA (uA (uA (uA (uA (uA (uA (uA (uA (uA A 41 (ur_57.1)) 42 (ur_57.2.1)) 43 (ur_57.2.2.1)) 44 (ur_80.1)) 45 (ur_57.2.2.2.2.1)) 46 (ur_57.2.2.2.2.2.1)) 47 (ur_57.2.2.2.2.2.2.1)) 48 (ur_80.2)) 13 g_84) 15 u_29) 0 ur_57.2.2.2.2.2.2.2 t.heap; rw [ht]; exact hM.cg9 rfl rfl rfl rfl rfl rfl rfl rfl rfl rfl rfl rfl rfl rfl rfl rfl rfl rfl rfl rfl rfl rfl rfl rfl rfl rfl rfl rfl rfl rfl rfl rfl rfl rfl rfl rfl rfl rfl rfl rfl rfl rfl rfl rfl)⟩, hS.F ht⟩) hS.2.2 dX10_push_328
                        · simp only [lt_I, le_I, eq_I, i_0, i_1, i_2, i_3, i_4, i_5, i_6, i_7, i_8, i_10, i_12, i_16, i_20, i_23, i_24, i_31, i_32, i_63, i_64, i_m1, i_9, i_11, i_13, i_25, i_60, i_75, i_79, i_80, i_96, i_100] at c_79
                          refine lv_iload hx hb dX10_push_281 (lv_at hl 2 rfl) ?_
                          refine lv_goto (tgt := 287) hx hb dX10_push_283 (by decide) ?_
                          refine va_callv (rnV (fun H => MH E h0 rf t0 t1 t2 (uA (uA (uA (uA (uA (uA (uA (uA A 15 u_29) 41 (ur_57.1)) 42 (ur_57.2.1)) 43 (ur_57.2.2.1)) 44 (ur_57.2.2.2.1)) 45 (ur_57.2.2.2.2.1)) 46 (ur_57.2.2.2.2.2.1)) 47 (ur_57.2.2.2.2.2.2.1)) 0 ur_57.2.2.2.2.2.2.2 H) (As := [.int r_57, .int p0, .int x_78, .int x_38]) (rest := []) ⟨hx, hb, hml, hown, hts⟩ (u_X10_load l E z0 G hGz h0 rf hR t0 t1 t2 (uA (uA (uA (uA (uA (uA (uA (uA A 15 u_29) 41 (ur_57.1)) 42 (ur_57.2.1)) 43 (ur_57.2.2.1)) 44 (ur_57.2.2.2.1)) 45 (ur_57.2.2.2.2.1)) 46 (ur_57.2.2.2.2.2.1)) 47 (ur_57.2.2.2.2.2.2.1)) 0 ur_57.2.2.2.2.2.2.2 r_57 p0 x_78 x_38 hpr_57_0 (show -1 ≤ r_57.toInt ∧ r_57.toInt ≤ 23 from by first | decide | omega) (show 0 ≤ p0.toInt ∧ p0.toInt ≤ 3 from by first | decide | omega) (show 0 ≤ x_78.toInt ∧ x_78.toInt ≤ 32 from by first | decide | omega) (show 0 ≤ x_38.toInt ∧ x_38.toInt ≤ 4 from by first | decide | omega) (show x_78.toInt + x_38.toInt ≤ 32 from by first | decide | omega)) (cwV 4 hts (gdV ml_X10_203 im_X10_load se_X10_X10_load in_X10 co_X10_load rfl) rfl rfl rfl (by decide +kernel) ⟨Nat.le_of_ble_eq_true rfl, Nat.le_of_ble_eq_true rfl⟩) hM (fun U hU hW => hK.go hW hS hAz hU) (va_recv hK.1 (va_one hM.1) (ci := 10) (q0 := 0) rfl rfl) rfl rfl hl.1 rfl (lv_room (Nat.le_of_ble_eq_true rfl)) dX10_push_287 ⟨Nat.le_of_ble_eq_true rfl, Nat.le_of_ble_eq_true rfl⟩) hS (fun q _ h => h) (fun q h => h) (fun ur_86 t H locs ht hvm hwr_86 hB hz hk hS => ?_)
                          have hM : MH E h0 rf t0 t1 t2 (uA (uA (uA (uA (uA (uA (uA (uA (uA (uA A 15 u_29) 41 (ur_57.1)) 42 (ur_57.2.1)) 43 (ur_57.2.2.1)) 44 (ur_57.2.2.2.1)) 45 (ur_57.2.2.2.2.1)) 46 (ur_57.2.2.2.2.2.1)) 47 (ur_57.2.2.2.2.2.2.1)) 44 (ur_86.1)) 48 (ur_86.2)) 0 ur_57.2.2.2.2.2.2.2 H := by rw [ht] at hB; exact hB
                          have hDr_86 : D_X10_load (uA (uA (uA (uA (uA (uA (uA (uA A 15 u_29) 41 (ur_57.1)) 42 (ur_57.2.1)) 43 (ur_57.2.2.1)) 44 (ur_57.2.2.2.1)) 45 (ur_57.2.2.2.2.1)) 46 (ur_57.2.2.2.2.2.1)) 47 (ur_57.2.2.2.2.2.2.1)) (0 : Int32) (ur_57.2.2.2.2.2.2.2) r_57 p0 x_78 x_38 (uA (uA (uA (uA (uA (uA (uA (uA (uA (uA A 15 u_29) 41 (ur_57.1)) 42 (ur_57.2.1)) 43 (ur_57.2.2.1)) 44 (ur_57.2.2.2.1)) 45 (ur_57.2.2.2.2.1)) 46 (ur_57.2.2.2.2.2.1)) 47 (ur_57.2.2.2.2.2.2.1)) 44 (ur_86.1)) 48 (ur_86.2)) (0 : Int32) (ur_57.2.2.2.2.2.2.2) := hwr_86.2.2
                          have hpr_86_0 : I7 (ur_57.1) (ur_57.2.1) (ur_86.1) (ur_57.2.2.2.2.1) (ur_57.2.2.2.2.2.1) := hwr_86.1
                          have hpr_86_1 : ((ur_86.1) 24).toInt = ((ur_57.2.2.2.1) 24).toInt ∧ ((ur_57.2.2.2.2.2.1) 24).toInt = ((ur_57.2.2.2.2.2.1) 24).toInt := hwr_86.2.1
                          refine lv_aload_n hx hb dX10_push_290 rfl (lv_at hl 7 rfl) ?_
                          refine va_get (D := DG E) (ci := 10) (v := .ref (rf 22)) (C := RX10) (T := TX10) (N := 49) hx hb hts iw_X10 hown hK.1 (va_one hM.1) 0 rfl rfl 22 (by decide) (hts _ fl_X10_65) (fun _ h9 => h9) rfl dX10_push_291 ?_
                          refine lv_iload_n hx hb dX10_push_294 rfl (lv_at hl 5 rfl) ?_
                          have ha_87 : va_at (DG E) vwCl (rf 22, .inl (E.2.2 0, 16, .inl (A 22))) _ := hM.2 22 (by decide) (by decide) (by decide)
                          refine va_iald (D := DG E) hx hb hK.1 (va_one ha_87) 0 0 rfl rfl hi_14 dX10_push_295 ?_
                          refine W.eq (g2 := F0 m 296 ls [.int ((A 22) (4 * n_4 + i0))]) (by rw [en_13]) ?_
                          refine lv_iconst (v := 2) hx hb dX10_push_296 (by decide) ?_
                          refine lv_icmp_ne (tgt := 314) hx hb dX10_push_297 (by decide) (fun c_88 => ?_) (fun c_88 => by exfalso; simp only [lt_I, le_I, eq_I, i_0, i_1, i_2, i_3, i_4, i_5, i_6, i_7, i_8, i_10, i_12, i_16, i_20, i_23, i_24, i_31, i_32, i_63, i_64, i_m1, i_9, i_11, i_13, i_25, i_60, i_75, i_79, i_80, i_96, i_100] at c_88; omega)
                          simp only [lt_I, le_I, eq_I, i_0, i_1, i_2, i_3, i_4, i_5, i_6, i_7, i_8, i_10, i_12, i_16, i_20, i_23, i_24, i_31, i_32, i_63, i_64, i_m1, i_9, i_11, i_13, i_25, i_60, i_75, i_79, i_80, i_96, i_100] at c_88
                          refine lv_aload_n hx hb dX10_push_314 rfl (lv_at hl 7 rfl) ?_
                          refine va_get (D := DG E) (ci := 10) (v := .ref (rf 13)) (C := RX10) (T := TX10) (N := 49) hx hb hts iw_X10 hown hK.1 (va_one hM.1) 0 rfl rfl 13 (by decide) (hts _ fl_X10_37) (fun _ h9 => h9) rfl dX10_push_315 ?_
                          refine lv_iload_n hx hb dX10_push_318 rfl (lv_at hl 8 rfl) ?_
                          refine lv_iload_n hx hb dX10_push_319 rfl (lv_at hl 6 rfl) ?_
                          refine lv_iload hx hb dX10_push_320 (lv_at hl 3 rfl) ?_
                          refine lv_iadd hx hb dX10_push_322 ?_
                          refine W.eq (g2 := F0 m 323 ls [.int x_24, .int p0, .ref (rf 13)]) (by rw [ex_24]) ?_
                          refine lv_bipush (v := 64) hx hb dX10_push_323 (by decide) ?_
                          refine lv_irem hx hb dX10_push_325 (by decide) ?_
                          refine lv_topi (fun x_89 ex_89 => ?_)
                          have fx_89 : x_89.toInt = x_24.toInt % 64 := by have h9 := s_rem (x := x_24) 64 (by decide) (by decide) (by omega); rw [ex_89]; exact h9
                          have ha_90 : va_at (DG E) vwCl (rf 13, .inl (E.2.2 0, 4, .inl (A 13))) _ := hM.2 13 (by decide) (by decide) (by decide)
                          refine rr_iast (D := DG E) hx hb hK.1 0 ha_90 hS (by show G (rf 13) ≠ 0; rw [hR.2 13 (by decide) (by decide) (by decide)]; decide) rfl hi_2 dX10_push_326 (fun H locs hn ho hz hS => ?_)
                          rw [en_4] at hn
                          obtain ⟨g_90, eg_90⟩ : ∃ z : Nat → Int32, z = upd (A 13) n_4 x_89 := ⟨_, rfl⟩
                          have sg_90 : g_90 n_4 = x_89 := by rw [eg_90]; exact upd_s
                          have ng_90 : ∀ k, k ≠ n_4 → g_90 k = (A 13) k := fun k hk => by rw [eg_90]; exact upd_n hk
                          have hn : va_at (DG E) vwCl (rf 13, .inl (E.2.2 0, 4, .inl g_90)) H := by rw [eg_90]; exact hn
                          have hM : MH E h0 rf t0 t1 t2 (uA (uA (uA (uA (uA (uA (uA (uA (uA (uA (uA A 15 u_29) 41 (ur_57.1)) 42 (ur_57.2.1)) 43 (ur_57.2.2.1)) 44 (ur_57.2.2.2.1)) 45 (ur_57.2.2.2.2.1)) 46 (ur_57.2.2.2.2.2.1)) 47 (ur_57.2.2.2.2.2.2.1)) 44 (ur_86.1)) 48 (ur_86.2)) 13 g_90) 0 ur_57.2.2.2.2.2.2.2 H := hM.w hR 13 (by decide) (by decide) (by decide) hn ho
                          refine lv_iload_n hx hb dX10_push_327 rfl (lv_at hl 6 rfl) ?_
                          have hI4_91 : I4 (A 10) (A 20) (A 29) (A 24) (A 11) (A 12) g_90 := by
                            intro k hk
                            by_cases e : k = n_4
                            · rw [e]
                              exact ⟨fun _ => hPn _ (by rw [sg_90]; omega), Or.inl hst0⟩
                            · exact (hI4 k hk).cg rfl rfl (fun _ _ => rfl) (fun _ _ => rfl) rfl rfl (ng_90 k e)
                          exact W.iret (v := ((A 13) n_4)) hx hb hr (fun t ht hW => ⟨⟨((A 13) n_4), ((ur_57.1), (ur_57.2.1), (ur_57.2.2.1), (ur_86.1), (ur_57.2.2.2.2.1), (ur_57.2.2.2.2.2.1), (ur_57.2.2.2.2.2.2.1), (ur_86.2), g_90, u_29, ur_57.2.2.2.2.2.2.2, 0), rfl, ⟨hI4_91, hpr_86_0, (by show 0 ≤ ur_57.2.2.2.2.2.2.2.toInt ∧ ur_57.2.2.2.2.2.2.2.toInt ≤ 24; omega), (Or.inl ⟨c_1r, n_4, hn_4, (Or.inr ⟨c_5, (Or.inr ⟨c_8, (Or.inl ⟨c_10, r_12, hpr_12_0, hpr_12_1, i0, hi4, hn_13, x_16, ex_16, (Or.inl ⟨c_22, x_24, ex_24, fx_24, x_25, ex_25, fx_25, x_26, ex_26, fx_26, x_27, ex_27, fx_27, (Or.inl ⟨c_28, u_29, hJ_29, x_37, ex_37, fx_37, x_38, ex_38, fx_38, v_39, hv_39.2, r_41, hDr_41, hpr_41_0, hpr_41_1, v_42, hv_42.2, x_45, ex_45, fx_45, (Or.inl ⟨c_48, x_55, ex_55, fx_55, ur_57, r_57, hDr_57, hpr_57_0, hpr_57_1, hpr_57_2, hpr_57_3, hpr_57_4, (Or.inr ⟨c_59, x_78, ex_78, fx_78, (Or.inr ⟨c_79, ur_86, hDr_86, hpr_86_0, hpr_86_1, x_89, ex_89, fx_89, g_90, eg_90, rfl, rfl, rfl, rfl⟩)⟩)⟩)⟩)⟩)⟩)⟩)⟩)⟩)⟩, (by show MH E h0 rf t0 t1 t2 (uA (uA (uA (uA (uA (uA (uA (uA (uA (uA A 41 (ur_57.1)) 42 (ur_57.2.1)) 43 (ur_57.2.2.1)) 44 (ur_86.1)) 45 (ur_57.2.2.2.2.1)) 46 (ur_57.2.2.2.2.2.1)) 47 (ur_57.2.2.2.2.2.2.1)) 48 (ur_86.2)) 13 g_90) 15 u_29) 0 ur_57.2.2.2.2.2.2.2 t.heap; rw [ht]; exact hM.cg9 rfl rfl rfl rfl rfl rfl rfl rfl rfl rfl rfl rfl rfl rfl rfl rfl rfl rfl rfl rfl rfl rfl rfl rfl rfl rfl rfl rfl rfl rfl rfl rfl rfl rfl rfl rfl rfl rfl rfl rfl rfl rfl rfl rfl)⟩, hS.F ht⟩) hS.2.2 dX10_push_328
                    · simp only [lt_I, le_I, eq_I, i_0, i_1, i_2, i_3, i_4, i_5, i_6, i_7, i_8, i_10, i_12, i_16, i_20, i_23, i_24, i_31, i_32, i_63, i_64, i_m1, i_9, i_11, i_13, i_25, i_60, i_75, i_79, i_80, i_96, i_100] at c_48
                      refine lv_iload hx hb dX10_push_204 (lv_at hl 0 rfl) ?_
                      refine lv_goto (tgt := 215) hx hb dX10_push_206 (by decide) ?_
                      refine lv_aload_n hx hb dX10_push_215 rfl (lv_at hl 6 rfl) ?_
                      refine va_get (D := DG E) (ci := 10) (v := .ref (rf 22)) (C := RX10) (T := TX10) (N := 49) hx hb hts iw_X10 hown hK.1 (va_one hM.1) 0 rfl rfl 22 (by decide) (hts _ fl_X10_65) (fun _ h9 => h9) rfl dX10_push_216 ?_
                      refine lv_iload_n hx hb dX10_push_219 rfl (lv_at hl 4 rfl) ?_
                      have ha_92 : va_at (DG E) vwCl (rf 22, .inl (E.2.2 0, 16, .inl (A 22))) _ := hM.2 22 (by decide) (by decide) (by decide)
                      refine va_iald (D := DG E) hx hb hK.1 (va_one ha_92) 0 0 rfl rfl hi_14 dX10_push_220 ?_
                      refine W.eq (g2 := F0 m 221 ls [.int ((A 22) (4 * n_4 + i0)), .int x_45, .int ((A 13) n_4), .int ((A 22) (4 * n_4 + i0)), .int p0, .ref h0]) (by rw [en_13]) ?_
                      refine lv_if_ne (tgt := 228) hx hb dX10_push_221 (by decide) (fun c_93 => ?_) (fun c_93 => ?_)
                      · simp only [lt_I, le_I, eq_I, i_0, i_1, i_2, i_3, i_4, i_5, i_6, i_7, i_8, i_10, i_12, i_16, i_20, i_23, i_24, i_31, i_32, i_63, i_64, i_m1, i_9, i_11, i_13, i_25, i_60, i_75, i_79, i_80, i_96, i_100] at c_93
                        refine lv_aload_n hx hb dX10_push_228 rfl (lv_at hl 6 rfl) ?_
                        refine va_get (D := DG E) (ci := 10) (v := .ref (rf 26)) (C := RX10) (T := TX10) (N := 49) hx hb hts iw_X10 hown hK.1 (va_one hM.1) 0 rfl rfl 26 (by decide) (hts _ fl_X10_77) (fun _ h9 => h9) rfl dX10_push_229 ?_
                        refine lv_iload_n hx hb dX10_push_232 rfl (lv_at hl 4 rfl) ?_
                        have ha_94 : va_at (DG E) vwCl (rf 26, .inl (E.2.2 0, 16, .inl (A 26))) _ := hM.2 26 (by decide) (by decide) (by decide)
                        refine va_iald (D := DG E) hx hb hK.1 (va_one ha_94) 0 0 rfl rfl hi_14 dX10_push_233 ?_
                        refine W.eq (g2 := F0 m 234 ls [.int ((A 26) (4 * n_4 + i0)), .int x_45, .int ((A 13) n_4), .int ((A 22) (4 * n_4 + i0)), .int p0, .ref h0]) (by rw [en_13]) ?_
                        have q_95 : -1 ≤ ((A 26) (4 * n_4 + i0)).toInt := (hI6 (4 * n_4 + i0) hk_18).2.2.2.2.2.2.2.1
                        have q_96 : ((A 26) (4 * n_4 + i0)).toInt ≤ 31 := (hI6 (4 * n_4 + i0) hk_18).2.2.2.2.2.2.2.2
                        refine lv_iconst (v := 4) hx hb dX10_push_234 (by decide) ?_
                        refine lv_iload hx hb dX10_push_235 (lv_at hl 3 rfl) ?_
                        refine lv_imul hx hb dX10_push_237 ?_
                        refine W.eq (g2 := F0 m 238 ls [.int x_37, .int ((A 26) (4 * n_4 + i0)), .int x_45, .int ((A 13) n_4), .int ((A 22) (4 * n_4 + i0)), .int p0, .ref h0]) (by rw [ex_37]) ?_
                        refine lv_iadd hx hb dX10_push_238 ?_
                        refine lv_topi (fun x_97 ex_97 => ?_)
                        have fx_97 : x_97.toInt = ((A 26) (4 * n_4 + i0)).toInt + x_37.toInt := by have h9 := s_add (x := ((A 26) (4 * n_4 + i0))) (y := x_37) (by omega) (by omega); rw [ex_97]; exact h9
                        refine lv_aload_n hx hb dX10_push_239 rfl (lv_at hl 6 rfl) ?_
                        refine va_get (D := DG E) (ci := 10) (v := .ref (rf 27)) (C := RX10) (T := TX10) (N := 49) hx hb hts iw_X10 hown hK.1 (va_one hM.1) 0 rfl rfl 27 (by decide) (hts _ fl_X10_80) (fun _ h9 => h9) rfl dX10_push_240 ?_
                        refine lv_iload_n hx hb dX10_push_243 rfl (lv_at hl 4 rfl) ?_
                        have ha_98 : va_at (DG E) vwCl (rf 27, .inl (E.2.2 0, 16, .inl (A 27))) _ := hM.2 27 (by decide) (by decide) (by decide)
                        refine va_iald (D := DG E) hx hb hK.1 (va_one ha_98) 0 0 rfl rfl hi_14 dX10_push_244 ?_
                        refine W.eq (g2 := F0 m 245 ls [.int ((A 27) (4 * n_4 + i0)), .int x_97, .int x_45, .int ((A 13) n_4), .int ((A 22) (4 * n_4 + i0)), .int p0, .ref h0]) (by rw [en_13]) ?_
                        refine va_calli (rnV (fun H => MH E h0 rf t0 t1 t2 (uA A 15 u_29) 0 pk H) (As := [.int p0, .int ((A 22) (4 * n_4 + i0)), .int ((A 13) n_4), .int x_45, .int x_97, .int ((A 27) (4 * n_4 + i0))]) (rest := []) ⟨hx, hb, hml, hown, hts⟩ (u_X10_emit l E z0 G hGz h0 rf hR t0 t1 t2 (uA A 15 u_29) 0 pk p0 ((A 22) (4 * n_4 + i0)) ((A 13) n_4) x_45 x_97 ((A 27) (4 * n_4 + i0)) hI7 (show 0 ≤ p0.toInt ∧ p0.toInt ≤ 3 from by first | decide | omega) (show 0 ≤ pk.toInt ∧ pk.toInt ≤ 24 from by first | decide | omega) (show -1 ≤ x_97.toInt ∧ x_97.toInt ≤ 60 from by first | decide | omega) (show 0 ≤ ((A 22) (4 * n_4 + i0)).toInt from by first | decide | omega) (show ((A 22) (4 * n_4 + i0)).toInt < 1 ∨ 3 < ((A 22) (4 * n_4 + i0)).toInt ∨ (0 ≤ x_45.toInt ∧ x_45.toInt ≤ 5) from by first | decide | omega)) (cwV 6 hts (gdV ml_X10_199 im_X10_emit se_X10_X10_emit in_X10 co_X10_emit rfl) rfl rfl rfl (by decide +kernel) ⟨Nat.le_of_ble_eq_true rfl, Nat.le_of_ble_eq_true rfl⟩) hM (fun U hU hW => hK.go hW hS hAz hU) (va_recv hK.1 (va_one hM.1) (ci := 10) (q0 := 0) rfl rfl) rfl rfl hl.1 rfl (lv_room (Nat.le_of_ble_eq_true rfl)) dX10_push_245 ⟨Nat.le_of_ble_eq_true rfl, Nat.le_of_ble_eq_true rfl⟩) hS (fun q _ h => h) (fun q h => h) (fun r_99 ur_99 t H locs ht hvm hwr_99 hB hz hk hS => ?_)
                        have hM : MH E h0 rf t0 t1 t2 (uA (uA (uA (uA (uA (uA (uA (uA A 15 u_29) 41 (ur_99.1)) 42 (ur_99.2.1)) 43 (ur_99.2.2.1)) 44 (ur_99.2.2.2.1)) 45 (ur_99.2.2.2.2.1)) 46 (ur_99.2.2.2.2.2.1)) 47 (ur_99.2.2.2.2.2.2.1)) 0 ur_99.2.2.2.2.2.2.2 H := by rw [ht] at hB; exact hB
                        have hDr_99 : D_X10_emit (uA A 15 u_29) (0 : Int32) pk p0 ((A 22) (4 * n_4 + i0)) ((A 13) n_4) x_45 x_97 ((A 27) (4 * n_4 + i0)) (uA (uA (uA (uA (uA (uA (uA (uA A 15 u_29) 41 (ur_99.1)) 42 (ur_99.2.1)) 43 (ur_99.2.2.1)) 44 (ur_99.2.2.2.1)) 45 (ur_99.2.2.2.2.1)) 46 (ur_99.2.2.2.2.2.1)) 47 (ur_99.2.2.2.2.2.2.1)) (0 : Int32) (ur_99.2.2.2.2.2.2.2) r_99 := hwr_99.2.2.2.2.2
                        have hpr_99_0 : I7 (ur_99.1) (ur_99.2.1) (ur_99.2.2.2.1) (ur_99.2.2.2.2.1) (ur_99.2.2.2.2.2.1) := hwr_99.1
                        have hpr_99_1 : 0 ≤ ur_99.2.2.2.2.2.2.2.toInt ∧ ur_99.2.2.2.2.2.2.2.toInt ≤ 24 := hwr_99.2.1
                        have hpr_99_2 : -1 ≤ r_99.toInt ∧ r_99.toInt ≤ 23 := hwr_99.2.2.1
                        have hpr_99_3 : ∀ n : Nat, (n : Int) = r_99.toInt → (ur_99.2.1) n = ((A 22) (4 * n_4 + i0)) := hwr_99.2.2.2.1
                        have hpr_99_4 : ((ur_99.2.2.2.1) 24).toInt = ((A 44) 24).toInt ∧ ((ur_99.2.2.2.2.2.1) 24).toInt = ((A 46) 24).toInt := hwr_99.2.2.2.2.1
                        refine lv_istore (lv' := [(8, .int r_99), (7, .int x_45), (6, .int x_38), (5, .int 1), (4, .int x_16), (3, .int r_12), (2, .int ((A 13) n_4)), (0, .ref h0), (1, .int p0)]) hx hb dX10_push_248 hl (by decide) rfl (fun ls hl => ?_)
                        refine lv_aload_n hx hb dX10_push_250 rfl (lv_at hl 7 rfl) ?_
                        refine va_get (D := DG E) (ci := 10) (v := .ref (rf 22)) (C := RX10) (T := TX10) (N := 49) hx hb hts iw_X10 hown hK.1 (va_one hM.1) 0 rfl rfl 22 (by decide) (hts _ fl_X10_65) (fun _ h9 => h9) rfl dX10_push_251 ?_
                        refine lv_iload_n hx hb dX10_push_254 rfl (lv_at hl 5 rfl) ?_
                        have ha_100 : va_at (DG E) vwCl (rf 22, .inl (E.2.2 0, 16, .inl (A 22))) _ := hM.2 22 (by decide) (by decide) (by decide)
                        refine va_iald (D := DG E) hx hb hK.1 (va_one ha_100) 0 0 rfl rfl hi_14 dX10_push_255 ?_
                        refine W.eq (g2 := F0 m 256 ls [.int ((A 22) (4 * n_4 + i0))]) (by rw [en_13]) ?_
                        refine lv_iconst (v := 2) hx hb dX10_push_256 (by decide) ?_
                        refine lv_icmp_ge (tgt := 290) hx hb dX10_push_257 (by decide) (fun c_101 => by exfalso; simp only [lt_I, le_I, eq_I, i_0, i_1, i_2, i_3, i_4, i_5, i_6, i_7, i_8, i_10, i_12, i_16, i_20, i_23, i_24, i_31, i_32, i_63, i_64, i_m1, i_9, i_11, i_13, i_25, i_60, i_75, i_79, i_80, i_96, i_100] at c_101; omega) (fun c_101 => ?_)
                        simp only [lt_I, le_I, eq_I, i_0, i_1, i_2, i_3, i_4, i_5, i_6, i_7, i_8, i_10, i_12, i_16, i_20, i_23, i_24, i_31, i_32, i_63, i_64, i_m1, i_9, i_11, i_13, i_25, i_60, i_75, i_79, i_80, i_96, i_100] at c_101
                        refine lv_aload_n hx hb dX10_push_260 rfl (lv_at hl 7 rfl) ?_
                        refine lv_iload hx hb dX10_push_261 (lv_at hl 0 rfl) ?_
                        refine lv_iload_n hx hb dX10_push_263 rfl (lv_at hl 8 rfl) ?_
                        refine lv_aload_n hx hb dX10_push_264 rfl (lv_at hl 7 rfl) ?_
                        refine va_get (D := DG E) (ci := 10) (v := .ref (rf 23)) (C := RX10) (T := TX10) (N := 49) hx hb hts iw_X10 hown hK.1 (va_one hM.1) 0 rfl rfl 23 (by decide) (hts _ fl_X10_68) (fun _ h9 => h9) rfl dX10_push_265 ?_
                        refine lv_iload_n hx hb dX10_push_268 rfl (lv_at hl 5 rfl) ?_
                        have ha_102 : va_at (DG E) vwCl (rf 23, .inl (E.2.2 0, 16, .inl (A 23))) _ := hM.2 23 (by decide) (by decide) (by decide)
                        refine va_iald (D := DG E) hx hb hK.1 (va_one ha_102) 0 0 rfl rfl hi_14 dX10_push_269 ?_
                        refine W.eq (g2 := F0 m 270 ls [.int ((A 23) (4 * n_4 + i0)), .int p0, .int r_99, .ref h0]) (by rw [en_13]) ?_
                        have q_103 : 0 ≤ ((A 23) (4 * n_4 + i0)).toInt := (hI6 (4 * n_4 + i0) hk_18).2.2.1
                        refine lv_iconst (v := 4) hx hb dX10_push_270 (by decide) ?_
                        refine lv_iload hx hb dX10_push_271 (lv_at hl 4 rfl) ?_
                        refine lv_imul hx hb dX10_push_273 ?_
                        refine W.eq (g2 := F0 m 274 ls [.int x_37, .int ((A 23) (4 * n_4 + i0)), .int p0, .int r_99, .ref h0]) (by rw [ex_37]) ?_
                        refine lv_iadd hx hb dX10_push_274 ?_
                        refine lv_topi (fun x_104 ex_104 => ?_)
                        have fx_104 : x_104.toInt = ((A 23) (4 * n_4 + i0)).toInt + x_37.toInt := by have h9 := s_add (x := ((A 23) (4 * n_4 + i0))) (y := x_37) (by omega) (by omega); rw [ex_104]; exact h9
                        refine lv_iload hx hb dX10_push_275 (lv_at hl 2 rfl) ?_
                        refine lv_iconst (v := 4) hx hb dX10_push_277 (by decide) ?_
                        refine lv_icmp_ge (tgt := 286) hx hb dX10_push_278 (by decide) (fun c_105 => ?_) (fun c_105 => ?_)
                        · simp only [lt_I, le_I, eq_I, i_0, i_1, i_2, i_3, i_4, i_5, i_6, i_7, i_8, i_10, i_12, i_16, i_20, i_23, i_24, i_31, i_32, i_63, i_64, i_m1, i_9, i_11, i_13, i_25, i_60, i_75, i_79, i_80, i_96, i_100] at c_105
                          refine lv_iconst (v := 4) hx hb dX10_push_286 (by decide) ?_
                          refine va_callv (rnV (fun H => MH E h0 rf t0 t1 t2 (uA (uA (uA (uA (uA (uA (uA (uA A 15 u_29) 41 (ur_99.1)) 42 (ur_99.2.1)) 43 (ur_99.2.2.1)) 44 (ur_99.2.2.2.1)) 45 (ur_99.2.2.2.2.1)) 46 (ur_99.2.2.2.2.2.1)) 47 (ur_99.2.2.2.2.2.2.1)) 0 ur_99.2.2.2.2.2.2.2 H) (As := [.int r_99, .int p0, .int x_104, .int 4]) (rest := []) ⟨hx, hb, hml, hown, hts⟩ (u_X10_load l E z0 G hGz h0 rf hR t0 t1 t2 (uA (uA (uA (uA (uA (uA (uA (uA A 15 u_29) 41 (ur_99.1)) 42 (ur_99.2.1)) 43 (ur_99.2.2.1)) 44 (ur_99.2.2.2.1)) 45 (ur_99.2.2.2.2.1)) 46 (ur_99.2.2.2.2.2.1)) 47 (ur_99.2.2.2.2.2.2.1)) 0 ur_99.2.2.2.2.2.2.2 r_99 p0 x_104 4 hpr_99_0 (show -1 ≤ r_99.toInt ∧ r_99.toInt ≤ 23 from by have := i_4; first | decide | omega) (show 0 ≤ p0.toInt ∧ p0.toInt ≤ 3 from by have := i_4; first | decide | omega) (show 0 ≤ x_104.toInt ∧ x_104.toInt ≤ 32 from by have := i_4; first | decide | omega) (show 0 ≤ (4 : Int32).toInt ∧ (4 : Int32).toInt ≤ 4 from by have := i_4; first | decide | omega) (show x_104.toInt + (4 : Int32).toInt ≤ 32 from by have := i_4; first | decide | omega)) (cwV 4 hts (gdV ml_X10_203 im_X10_load se_X10_X10_load in_X10 co_X10_load rfl) rfl rfl rfl (by decide +kernel) ⟨Nat.le_of_ble_eq_true rfl, Nat.le_of_ble_eq_true rfl⟩) hM (fun U hU hW => hK.go hW hS hAz hU) (va_recv hK.1 (va_one hM.1) (ci := 10) (q0 := 0) rfl rfl) rfl rfl hl.1 rfl (lv_room (Nat.le_of_ble_eq_true rfl)) dX10_push_287 ⟨Nat.le_of_ble_eq_true rfl, Nat.le_of_ble_eq_true rfl⟩) hS (fun q _ h => h) (fun q h => h) (fun ur_106 t H locs ht hvm hwr_106 hB hz hk hS => ?_)
                          have hM : MH E h0 rf t0 t1 t2 (uA (uA (uA (uA (uA (uA (uA (uA (uA (uA A 15 u_29) 41 (ur_99.1)) 42 (ur_99.2.1)) 43 (ur_99.2.2.1)) 44 (ur_99.2.2.2.1)) 45 (ur_99.2.2.2.2.1)) 46 (ur_99.2.2.2.2.2.1)) 47 (ur_99.2.2.2.2.2.2.1)) 44 (ur_106.1)) 48 (ur_106.2)) 0 ur_99.2.2.2.2.2.2.2 H := by rw [ht] at hB; exact hB
                          have hDr_106 : D_X10_load (uA (uA (uA (uA (uA (uA (uA (uA A 15 u_29) 41 (ur_99.1)) 42 (ur_99.2.1)) 43 (ur_99.2.2.1)) 44 (ur_99.2.2.2.1)) 45 (ur_99.2.2.2.2.1)) 46 (ur_99.2.2.2.2.2.1)) 47 (ur_99.2.2.2.2.2.2.1)) (0 : Int32) (ur_99.2.2.2.2.2.2.2) r_99 p0 x_104 (4 : Int32) (uA (uA (uA (uA (uA (uA (uA (uA (uA (uA A 15 u_29) 41 (ur_99.1)) 42 (ur_99.2.1)) 43 (ur_99.2.2.1)) 44 (ur_99.2.2.2.1)) 45 (ur_99.2.2.2.2.1)) 46 (ur_99.2.2.2.2.2.1)) 47 (ur_99.2.2.2.2.2.2.1)) 44 (ur_106.1)) 48 (ur_106.2)) (0 : Int32) (ur_99.2.2.2.2.2.2.2) := hwr_106.2.2
                          have hpr_106_0 : I7 (ur_99.1) (ur_99.2.1) (ur_106.1) (ur_99.2.2.2.2.1) (ur_99.2.2.2.2.2.1) := hwr_106.1
                          have hpr_106_1 : ((ur_106.1) 24).toInt = ((ur_99.2.2.2.1) 24).toInt ∧ ((ur_99.2.2.2.2.2.1) 24).toInt = ((ur_99.2.2.2.2.2.1) 24).toInt := hwr_106.2.1
                          have := i_4
                          refine lv_aload_n hx hb dX10_push_290 rfl (lv_at hl 7 rfl) ?_
                          refine va_get (D := DG E) (ci := 10) (v := .ref (rf 22)) (C := RX10) (T := TX10) (N := 49) hx hb hts iw_X10 hown hK.1 (va_one hM.1) 0 rfl rfl 22 (by decide) (hts _ fl_X10_65) (fun _ h9 => h9) rfl dX10_push_291 ?_
                          refine lv_iload_n hx hb dX10_push_294 rfl (lv_at hl 5 rfl) ?_
                          have ha_107 : va_at (DG E) vwCl (rf 22, .inl (E.2.2 0, 16, .inl (A 22))) _ := hM.2 22 (by decide) (by decide) (by decide)
                          refine va_iald (D := DG E) hx hb hK.1 (va_one ha_107) 0 0 rfl rfl hi_14 dX10_push_295 ?_
                          refine W.eq (g2 := F0 m 296 ls [.int ((A 22) (4 * n_4 + i0))]) (by rw [en_13]) ?_
                          refine lv_iconst (v := 2) hx hb dX10_push_296 (by decide) ?_
                          refine lv_icmp_ne (tgt := 314) hx hb dX10_push_297 (by decide) (fun c_108 => ?_) (fun c_108 => by exfalso; simp only [lt_I, le_I, eq_I, i_0, i_1, i_2, i_3, i_4, i_5, i_6, i_7, i_8, i_10, i_12, i_16, i_20, i_23, i_24, i_31, i_32, i_63, i_64, i_m1, i_9, i_11, i_13, i_25, i_60, i_75, i_79, i_80, i_96, i_100] at c_108; omega)
                          simp only [lt_I, le_I, eq_I, i_0, i_1, i_2, i_3, i_4, i_5, i_6, i_7, i_8, i_10, i_12, i_16, i_20, i_23, i_24, i_31, i_32, i_63, i_64, i_m1, i_9, i_11, i_13, i_25, i_60, i_75, i_79, i_80, i_96, i_100] at c_108
                          refine lv_aload_n hx hb dX10_push_314 rfl (lv_at hl 7 rfl) ?_
                          refine va_get (D := DG E) (ci := 10) (v := .ref (rf 13)) (C := RX10) (T := TX10) (N := 49) hx hb hts iw_X10 hown hK.1 (va_one hM.1) 0 rfl rfl 13 (by decide) (hts _ fl_X10_37) (fun _ h9 => h9) rfl dX10_push_315 ?_
                          refine lv_iload_n hx hb dX10_push_318 rfl (lv_at hl 8 rfl) ?_
                          refine lv_iload_n hx hb dX10_push_319 rfl (lv_at hl 6 rfl) ?_
                          refine lv_iload hx hb dX10_push_320 (lv_at hl 3 rfl) ?_
                          refine lv_iadd hx hb dX10_push_322 ?_
                          refine W.eq (g2 := F0 m 323 ls [.int x_24, .int p0, .ref (rf 13)]) (by rw [ex_24]) ?_
                          refine lv_bipush (v := 64) hx hb dX10_push_323 (by decide) ?_
                          refine lv_irem hx hb dX10_push_325 (by decide) ?_
                          refine lv_topi (fun x_109 ex_109 => ?_)
                          have fx_109 : x_109.toInt = x_24.toInt % 64 := by have h9 := s_rem (x := x_24) 64 (by decide) (by decide) (by omega); rw [ex_109]; exact h9
                          have ha_110 : va_at (DG E) vwCl (rf 13, .inl (E.2.2 0, 4, .inl (A 13))) _ := hM.2 13 (by decide) (by decide) (by decide)
                          refine rr_iast (D := DG E) hx hb hK.1 0 ha_110 hS (by show G (rf 13) ≠ 0; rw [hR.2 13 (by decide) (by decide) (by decide)]; decide) rfl hi_2 dX10_push_326 (fun H locs hn ho hz hS => ?_)
                          rw [en_4] at hn
                          obtain ⟨g_110, eg_110⟩ : ∃ z : Nat → Int32, z = upd (A 13) n_4 x_109 := ⟨_, rfl⟩
                          have sg_110 : g_110 n_4 = x_109 := by rw [eg_110]; exact upd_s
                          have ng_110 : ∀ k, k ≠ n_4 → g_110 k = (A 13) k := fun k hk => by rw [eg_110]; exact upd_n hk
                          have hn : va_at (DG E) vwCl (rf 13, .inl (E.2.2 0, 4, .inl g_110)) H := by rw [eg_110]; exact hn
                          have hM : MH E h0 rf t0 t1 t2 (uA (uA (uA (uA (uA (uA (uA (uA (uA (uA (uA A 15 u_29) 41 (ur_99.1)) 42 (ur_99.2.1)) 43 (ur_99.2.2.1)) 44 (ur_99.2.2.2.1)) 45 (ur_99.2.2.2.2.1)) 46 (ur_99.2.2.2.2.2.1)) 47 (ur_99.2.2.2.2.2.2.1)) 44 (ur_106.1)) 48 (ur_106.2)) 13 g_110) 0 ur_99.2.2.2.2.2.2.2 H := hM.w hR 13 (by decide) (by decide) (by decide) hn ho
                          refine lv_iload_n hx hb dX10_push_327 rfl (lv_at hl 6 rfl) ?_
                          have hI4_111 : I4 (A 10) (A 20) (A 29) (A 24) (A 11) (A 12) g_110 := by
                            intro k hk
                            by_cases e : k = n_4
                            · rw [e]
                              exact ⟨fun _ => hPn _ (by rw [sg_110]; omega), Or.inl hst0⟩
                            · exact (hI4 k hk).cg rfl rfl (fun _ _ => rfl) (fun _ _ => rfl) rfl rfl (ng_110 k e)
                          exact W.iret (v := ((A 13) n_4)) hx hb hr (fun t ht hW => ⟨⟨((A 13) n_4), ((ur_99.1), (ur_99.2.1), (ur_99.2.2.1), (ur_106.1), (ur_99.2.2.2.2.1), (ur_99.2.2.2.2.2.1), (ur_99.2.2.2.2.2.2.1), (ur_106.2), g_110, u_29, ur_99.2.2.2.2.2.2.2, 0), rfl, ⟨hI4_111, hpr_106_0, (by show 0 ≤ ur_99.2.2.2.2.2.2.2.toInt ∧ ur_99.2.2.2.2.2.2.2.toInt ≤ 24; omega), (Or.inl ⟨c_1r, n_4, hn_4, (Or.inr ⟨c_5, (Or.inr ⟨c_8, (Or.inl ⟨c_10, r_12, hpr_12_0, hpr_12_1, i0, hi4, hn_13, x_16, ex_16, (Or.inl ⟨c_22, x_24, ex_24, fx_24, x_25, ex_25, fx_25, x_26, ex_26, fx_26, x_27, ex_27, fx_27, (Or.inl ⟨c_28, u_29, hJ_29, x_37, ex_37, fx_37, x_38, ex_38, fx_38, v_39, hv_39.2, r_41, hDr_41, hpr_41_0, hpr_41_1, v_42, hv_42.2, x_45, ex_45, fx_45, (Or.inr ⟨c_48, (Or.inl ⟨c_93, x_97, ex_97, fx_97, ur_99, r_99, hDr_99, hpr_99_0, hpr_99_1, hpr_99_2, hpr_99_3, hpr_99_4, x_104, ex_104, fx_104, (Or.inl ⟨c_105, ur_106, hDr_106, hpr_106_0, hpr_106_1, x_109, ex_109, fx_109, g_110, eg_110, rfl, rfl, rfl, rfl⟩)⟩)⟩)⟩)⟩)⟩)⟩)⟩)⟩)⟩, (by show MH E h0 rf t0 t1 t2 (uA (uA (uA (uA (uA (uA (uA (uA (uA (uA A 41 (ur_99.1)) 42 (ur_99.2.1)) 43 (ur_99.2.2.1)) 44 (ur_106.1)) 45 (ur_99.2.2.2.2.1)) 46 (ur_99.2.2.2.2.2.1)) 47 (ur_99.2.2.2.2.2.2.1)) 48 (ur_106.2)) 13 g_110) 15 u_29) 0 ur_99.2.2.2.2.2.2.2 t.heap; rw [ht]; exact hM.cg9 rfl rfl rfl rfl rfl rfl rfl rfl rfl rfl rfl rfl rfl rfl rfl rfl rfl rfl rfl rfl rfl rfl rfl rfl rfl rfl rfl rfl rfl rfl rfl rfl rfl rfl rfl rfl rfl rfl rfl rfl rfl rfl rfl rfl)⟩, hS.F ht⟩) hS.2.2 dX10_push_328
                        · simp only [lt_I, le_I, eq_I, i_0, i_1, i_2, i_3, i_4, i_5, i_6, i_7, i_8, i_10, i_12, i_16, i_20, i_23, i_24, i_31, i_32, i_63, i_64, i_m1, i_9, i_11, i_13, i_25, i_60, i_75, i_79, i_80, i_96, i_100] at c_105
                          refine lv_iload hx hb dX10_push_281 (lv_at hl 2 rfl) ?_
                          refine lv_goto (tgt := 287) hx hb dX10_push_283 (by decide) ?_
                          refine va_callv (rnV (fun H => MH E h0 rf t0 t1 t2 (uA (uA (uA (uA (uA (uA (uA (uA A 15 u_29) 41 (ur_99.1)) 42 (ur_99.2.1)) 43 (ur_99.2.2.1)) 44 (ur_99.2.2.2.1)) 45 (ur_99.2.2.2.2.1)) 46 (ur_99.2.2.2.2.2.1)) 47 (ur_99.2.2.2.2.2.2.1)) 0 ur_99.2.2.2.2.2.2.2 H) (As := [.int r_99, .int p0, .int x_104, .int x_38]) (rest := []) ⟨hx, hb, hml, hown, hts⟩ (u_X10_load l E z0 G hGz h0 rf hR t0 t1 t2 (uA (uA (uA (uA (uA (uA (uA (uA A 15 u_29) 41 (ur_99.1)) 42 (ur_99.2.1)) 43 (ur_99.2.2.1)) 44 (ur_99.2.2.2.1)) 45 (ur_99.2.2.2.2.1)) 46 (ur_99.2.2.2.2.2.1)) 47 (ur_99.2.2.2.2.2.2.1)) 0 ur_99.2.2.2.2.2.2.2 r_99 p0 x_104 x_38 hpr_99_0 (show -1 ≤ r_99.toInt ∧ r_99.toInt ≤ 23 from by first | decide | omega) (show 0 ≤ p0.toInt ∧ p0.toInt ≤ 3 from by first | decide | omega) (show 0 ≤ x_104.toInt ∧ x_104.toInt ≤ 32 from by first | decide | omega) (show 0 ≤ x_38.toInt ∧ x_38.toInt ≤ 4 from by first | decide | omega) (show x_104.toInt + x_38.toInt ≤ 32 from by first | decide | omega)) (cwV 4 hts (gdV ml_X10_203 im_X10_load se_X10_X10_load in_X10 co_X10_load rfl) rfl rfl rfl (by decide +kernel) ⟨Nat.le_of_ble_eq_true rfl, Nat.le_of_ble_eq_true rfl⟩) hM (fun U hU hW => hK.go hW hS hAz hU) (va_recv hK.1 (va_one hM.1) (ci := 10) (q0 := 0) rfl rfl) rfl rfl hl.1 rfl (lv_room (Nat.le_of_ble_eq_true rfl)) dX10_push_287 ⟨Nat.le_of_ble_eq_true rfl, Nat.le_of_ble_eq_true rfl⟩) hS (fun q _ h => h) (fun q h => h) (fun ur_112 t H locs ht hvm hwr_112 hB hz hk hS => ?_)
                          have hM : MH E h0 rf t0 t1 t2 (uA (uA (uA (uA (uA (uA (uA (uA (uA (uA A 15 u_29) 41 (ur_99.1)) 42 (ur_99.2.1)) 43 (ur_99.2.2.1)) 44 (ur_99.2.2.2.1)) 45 (ur_99.2.2.2.2.1)) 46 (ur_99.2.2.2.2.2.1)) 47 (ur_99.2.2.2.2.2.2.1)) 44 (ur_112.1)) 48 (ur_112.2)) 0 ur_99.2.2.2.2.2.2.2 H := by rw [ht] at hB; exact hB
                          have hDr_112 : D_X10_load (uA (uA (uA (uA (uA (uA (uA (uA A 15 u_29) 41 (ur_99.1)) 42 (ur_99.2.1)) 43 (ur_99.2.2.1)) 44 (ur_99.2.2.2.1)) 45 (ur_99.2.2.2.2.1)) 46 (ur_99.2.2.2.2.2.1)) 47 (ur_99.2.2.2.2.2.2.1)) (0 : Int32) (ur_99.2.2.2.2.2.2.2) r_99 p0 x_104 x_38 (uA (uA (uA (uA (uA (uA (uA (uA (uA (uA A 15 u_29) 41 (ur_99.1)) 42 (ur_99.2.1)) 43 (ur_99.2.2.1)) 44 (ur_99.2.2.2.1)) 45 (ur_99.2.2.2.2.1)) 46 (ur_99.2.2.2.2.2.1)) 47 (ur_99.2.2.2.2.2.2.1)) 44 (ur_112.1)) 48 (ur_112.2)) (0 : Int32) (ur_99.2.2.2.2.2.2.2) := hwr_112.2.2
                          have hpr_112_0 : I7 (ur_99.1) (ur_99.2.1) (ur_112.1) (ur_99.2.2.2.2.1) (ur_99.2.2.2.2.2.1) := hwr_112.1
                          have hpr_112_1 : ((ur_112.1) 24).toInt = ((ur_99.2.2.2.1) 24).toInt ∧ ((ur_99.2.2.2.2.2.1) 24).toInt = ((ur_99.2.2.2.2.2.1) 24).toInt := hwr_112.2.1
                          refine lv_aload_n hx hb dX10_push_290 rfl (lv_at hl 7 rfl) ?_
                          refine va_get (D := DG E) (ci := 10) (v := .ref (rf 22)) (C := RX10) (T := TX10) (N := 49) hx hb hts iw_X10 hown hK.1 (va_one hM.1) 0 rfl rfl 22 (by decide) (hts _ fl_X10_65) (fun _ h9 => h9) rfl dX10_push_291 ?_
                          refine lv_iload_n hx hb dX10_push_294 rfl (lv_at hl 5 rfl) ?_
                          have ha_113 : va_at (DG E) vwCl (rf 22, .inl (E.2.2 0, 16, .inl (A 22))) _ := hM.2 22 (by decide) (by decide) (by decide)
                          refine va_iald (D := DG E) hx hb hK.1 (va_one ha_113) 0 0 rfl rfl hi_14 dX10_push_295 ?_
                          refine W.eq (g2 := F0 m 296 ls [.int ((A 22) (4 * n_4 + i0))]) (by rw [en_13]) ?_
                          refine lv_iconst (v := 2) hx hb dX10_push_296 (by decide) ?_
                          refine lv_icmp_ne (tgt := 314) hx hb dX10_push_297 (by decide) (fun c_114 => ?_) (fun c_114 => by exfalso; simp only [lt_I, le_I, eq_I, i_0, i_1, i_2, i_3, i_4, i_5, i_6, i_7, i_8, i_10, i_12, i_16, i_20, i_23, i_24, i_31, i_32, i_63, i_64, i_m1, i_9, i_11, i_13, i_25, i_60, i_75, i_79, i_80, i_96, i_100] at c_114; omega)
                          simp only [lt_I, le_I, eq_I, i_0, i_1, i_2, i_3, i_4, i_5, i_6, i_7, i_8, i_10, i_12, i_16, i_20, i_23, i_24, i_31, i_32, i_63, i_64, i_m1, i_9, i_11, i_13, i_25, i_60, i_75, i_79, i_80, i_96, i_100] at c_114
                          refine lv_aload_n hx hb dX10_push_314 rfl (lv_at hl 7 rfl) ?_
                          refine va_get (D := DG E) (ci := 10) (v := .ref (rf 13)) (C := RX10) (T := TX10) (N := 49) hx hb hts iw_X10 hown hK.1 (va_one hM.1) 0 rfl rfl 13 (by decide) (hts _ fl_X10_37) (fun _ h9 => h9) rfl dX10_push_315 ?_
                          refine lv_iload_n hx hb dX10_push_318 rfl (lv_at hl 8 rfl) ?_
                          refine lv_iload_n hx hb dX10_push_319 rfl (lv_at hl 6 rfl) ?_
                          refine lv_iload hx hb dX10_push_320 (lv_at hl 3 rfl) ?_
                          refine lv_iadd hx hb dX10_push_322 ?_
                          refine W.eq (g2 := F0 m 323 ls [.int x_24, .int p0, .ref (rf 13)]) (by rw [ex_24]) ?_
                          refine lv_bipush (v := 64) hx hb dX10_push_323 (by decide) ?_
                          refine lv_irem hx hb dX10_push_325 (by decide) ?_
                          refine lv_topi (fun x_115 ex_115 => ?_)
                          have fx_115 : x_115.toInt = x_24.toInt % 64 := by have h9 := s_rem (x := x_24) 64 (by decide) (by decide) (by omega); rw [ex_115]; exact h9
                          have ha_116 : va_at (DG E) vwCl (rf 13, .inl (E.2.2 0, 4, .inl (A 13))) _ := hM.2 13 (by decide) (by decide) (by decide)
                          refine rr_iast (D := DG E) hx hb hK.1 0 ha_116 hS (by show G (rf 13) ≠ 0; rw [hR.2 13 (by decide) (by decide) (by decide)]; decide) rfl hi_2 dX10_push_326 (fun H locs hn ho hz hS => ?_)
                          rw [en_4] at hn
                          obtain ⟨g_116, eg_116⟩ : ∃ z : Nat → Int32, z = upd (A 13) n_4 x_115 := ⟨_, rfl⟩
                          have sg_116 : g_116 n_4 = x_115 := by rw [eg_116]; exact upd_s
                          have ng_116 : ∀ k, k ≠ n_4 → g_116 k = (A 13) k := fun k hk => by rw [eg_116]; exact upd_n hk
                          have hn : va_at (DG E) vwCl (rf 13, .inl (E.2.2 0, 4, .inl g_116)) H := by rw [eg_116]; exact hn
                          have hM : MH E h0 rf t0 t1 t2 (uA (uA (uA (uA (uA (uA (uA (uA (uA (uA (uA A 15 u_29) 41 (ur_99.1)) 42 (ur_99.2.1)) 43 (ur_99.2.2.1)) 44 (ur_99.2.2.2.1)) 45 (ur_99.2.2.2.2.1)) 46 (ur_99.2.2.2.2.2.1)) 47 (ur_99.2.2.2.2.2.2.1)) 44 (ur_112.1)) 48 (ur_112.2)) 13 g_116) 0 ur_99.2.2.2.2.2.2.2 H := hM.w hR 13 (by decide) (by decide) (by decide) hn ho
                          refine lv_iload_n hx hb dX10_push_327 rfl (lv_at hl 6 rfl) ?_
                          have hI4_117 : I4 (A 10) (A 20) (A 29) (A 24) (A 11) (A 12) g_116 := by
                            intro k hk
                            by_cases e : k = n_4
                            · rw [e]
                              exact ⟨fun _ => hPn _ (by rw [sg_116]; omega), Or.inl hst0⟩
                            · exact (hI4 k hk).cg rfl rfl (fun _ _ => rfl) (fun _ _ => rfl) rfl rfl (ng_116 k e)
                          exact W.iret (v := ((A 13) n_4)) hx hb hr (fun t ht hW => ⟨⟨((A 13) n_4), ((ur_99.1), (ur_99.2.1), (ur_99.2.2.1), (ur_112.1), (ur_99.2.2.2.2.1), (ur_99.2.2.2.2.2.1), (ur_99.2.2.2.2.2.2.1), (ur_112.2), g_116, u_29, ur_99.2.2.2.2.2.2.2, 0), rfl, ⟨hI4_117, hpr_112_0, (by show 0 ≤ ur_99.2.2.2.2.2.2.2.toInt ∧ ur_99.2.2.2.2.2.2.2.toInt ≤ 24; omega), (Or.inl ⟨c_1r, n_4, hn_4, (Or.inr ⟨c_5, (Or.inr ⟨c_8, (Or.inl ⟨c_10, r_12, hpr_12_0, hpr_12_1, i0, hi4, hn_13, x_16, ex_16, (Or.inl ⟨c_22, x_24, ex_24, fx_24, x_25, ex_25, fx_25, x_26, ex_26, fx_26, x_27, ex_27, fx_27, (Or.inl ⟨c_28, u_29, hJ_29, x_37, ex_37, fx_37, x_38, ex_38, fx_38, v_39, hv_39.2, r_41, hDr_41, hpr_41_0, hpr_41_1, v_42, hv_42.2, x_45, ex_45, fx_45, (Or.inr ⟨c_48, (Or.inl ⟨c_93, x_97, ex_97, fx_97, ur_99, r_99, hDr_99, hpr_99_0, hpr_99_1, hpr_99_2, hpr_99_3, hpr_99_4, x_104, ex_104, fx_104, (Or.inr ⟨c_105, ur_112, hDr_112, hpr_112_0, hpr_112_1, x_115, ex_115, fx_115, g_116, eg_116, rfl, rfl, rfl, rfl⟩)⟩)⟩)⟩)⟩)⟩)⟩)⟩)⟩)⟩, (by show MH E h0 rf t0 t1 t2 (uA (uA (uA (uA (uA (uA (uA (uA (uA (uA A 41 (ur_99.1)) 42 (ur_99.2.1)) 43 (ur_99.2.2.1)) 44 (ur_112.1)) 45 (ur_99.2.2.2.2.1)) 46 (ur_99.2.2.2.2.2.1)) 47 (ur_99.2.2.2.2.2.2.1)) 48 (ur_112.2)) 13 g_116) 15 u_29) 0 ur_99.2.2.2.2.2.2.2 t.heap; rw [ht]; exact hM.cg9 rfl rfl rfl rfl rfl rfl rfl rfl rfl rfl rfl rfl rfl rfl rfl rfl rfl rfl rfl rfl rfl rfl rfl rfl rfl rfl rfl rfl rfl rfl rfl rfl rfl rfl rfl rfl rfl rfl rfl rfl rfl rfl rfl rfl)⟩, hS.F ht⟩) hS.2.2 dX10_push_328
                      · simp only [lt_I, le_I, eq_I, i_0, i_1, i_2, i_3, i_4, i_5, i_6, i_7, i_8, i_10, i_12, i_16, i_20, i_23, i_24, i_31, i_32, i_63, i_64, i_m1, i_9, i_11, i_13, i_25, i_60, i_75, i_79, i_80, i_96, i_100] at c_93
                        refine lv_iconst (v := (-1)) hx hb dX10_push_224 (by decide) ?_
                        refine lv_goto (tgt := 239) hx hb dX10_push_225 (by decide) ?_
                        refine lv_aload_n hx hb dX10_push_239 rfl (lv_at hl 6 rfl) ?_
                        refine va_get (D := DG E) (ci := 10) (v := .ref (rf 27)) (C := RX10) (T := TX10) (N := 49) hx hb hts iw_X10 hown hK.1 (va_one hM.1) 0 rfl rfl 27 (by decide) (hts _ fl_X10_80) (fun _ h9 => h9) rfl dX10_push_240 ?_
                        refine lv_iload_n hx hb dX10_push_243 rfl (lv_at hl 4 rfl) ?_
                        have ha_118 : va_at (DG E) vwCl (rf 27, .inl (E.2.2 0, 16, .inl (A 27))) _ := hM.2 27 (by decide) (by decide) (by decide)
                        refine va_iald (D := DG E) hx hb hK.1 (va_one ha_118) 0 0 rfl rfl hi_14 dX10_push_244 ?_
                        refine W.eq (g2 := F0 m 245 ls [.int ((A 27) (4 * n_4 + i0)), .int (-1), .int x_45, .int ((A 13) n_4), .int ((A 22) (4 * n_4 + i0)), .int p0, .ref h0]) (by rw [en_13]) ?_
                        refine va_calli (rnV (fun H => MH E h0 rf t0 t1 t2 (uA A 15 u_29) 0 pk H) (As := [.int p0, .int ((A 22) (4 * n_4 + i0)), .int ((A 13) n_4), .int x_45, .int (-1), .int ((A 27) (4 * n_4 + i0))]) (rest := []) ⟨hx, hb, hml, hown, hts⟩ (u_X10_emit l E z0 G hGz h0 rf hR t0 t1 t2 (uA A 15 u_29) 0 pk p0 ((A 22) (4 * n_4 + i0)) ((A 13) n_4) x_45 (-1) ((A 27) (4 * n_4 + i0)) hI7 (show 0 ≤ p0.toInt ∧ p0.toInt ≤ 3 from by have := i_m1; first | decide | omega) (show 0 ≤ pk.toInt ∧ pk.toInt ≤ 24 from by have := i_m1; first | decide | omega) (show -1 ≤ (-1 : Int32).toInt ∧ (-1 : Int32).toInt ≤ 60 from by have := i_m1; first | decide | omega) (show 0 ≤ ((A 22) (4 * n_4 + i0)).toInt from by have := i_m1; first | decide | omega) (show ((A 22) (4 * n_4 + i0)).toInt < 1 ∨ 3 < ((A 22) (4 * n_4 + i0)).toInt ∨ (0 ≤ x_45.toInt ∧ x_45.toInt ≤ 5) from by have := i_m1; first | decide | omega)) (cwV 6 hts (gdV ml_X10_199 im_X10_emit se_X10_X10_emit in_X10 co_X10_emit rfl) rfl rfl rfl (by decide +kernel) ⟨Nat.le_of_ble_eq_true rfl, Nat.le_of_ble_eq_true rfl⟩) hM (fun U hU hW => hK.go hW hS hAz hU) (va_recv hK.1 (va_one hM.1) (ci := 10) (q0 := 0) rfl rfl) rfl rfl hl.1 rfl (lv_room (Nat.le_of_ble_eq_true rfl)) dX10_push_245 ⟨Nat.le_of_ble_eq_true rfl, Nat.le_of_ble_eq_true rfl⟩) hS (fun q _ h => h) (fun q h => h) (fun r_119 ur_119 t H locs ht hvm hwr_119 hB hz hk hS => ?_)
                        have hM : MH E h0 rf t0 t1 t2 (uA (uA (uA (uA (uA (uA (uA (uA A 15 u_29) 41 (ur_119.1)) 42 (ur_119.2.1)) 43 (ur_119.2.2.1)) 44 (ur_119.2.2.2.1)) 45 (ur_119.2.2.2.2.1)) 46 (ur_119.2.2.2.2.2.1)) 47 (ur_119.2.2.2.2.2.2.1)) 0 ur_119.2.2.2.2.2.2.2 H := by rw [ht] at hB; exact hB
                        have hDr_119 : D_X10_emit (uA A 15 u_29) (0 : Int32) pk p0 ((A 22) (4 * n_4 + i0)) ((A 13) n_4) x_45 (-1 : Int32) ((A 27) (4 * n_4 + i0)) (uA (uA (uA (uA (uA (uA (uA (uA A 15 u_29) 41 (ur_119.1)) 42 (ur_119.2.1)) 43 (ur_119.2.2.1)) 44 (ur_119.2.2.2.1)) 45 (ur_119.2.2.2.2.1)) 46 (ur_119.2.2.2.2.2.1)) 47 (ur_119.2.2.2.2.2.2.1)) (0 : Int32) (ur_119.2.2.2.2.2.2.2) r_119 := hwr_119.2.2.2.2.2
                        have hpr_119_0 : I7 (ur_119.1) (ur_119.2.1) (ur_119.2.2.2.1) (ur_119.2.2.2.2.1) (ur_119.2.2.2.2.2.1) := hwr_119.1
                        have hpr_119_1 : 0 ≤ ur_119.2.2.2.2.2.2.2.toInt ∧ ur_119.2.2.2.2.2.2.2.toInt ≤ 24 := hwr_119.2.1
                        have hpr_119_2 : -1 ≤ r_119.toInt ∧ r_119.toInt ≤ 23 := hwr_119.2.2.1
                        have hpr_119_3 : ∀ n : Nat, (n : Int) = r_119.toInt → (ur_119.2.1) n = ((A 22) (4 * n_4 + i0)) := hwr_119.2.2.2.1
                        have hpr_119_4 : ((ur_119.2.2.2.1) 24).toInt = ((A 44) 24).toInt ∧ ((ur_119.2.2.2.2.2.1) 24).toInt = ((A 46) 24).toInt := hwr_119.2.2.2.2.1
                        have := i_m1
                        refine lv_istore (lv' := [(8, .int r_119), (7, .int x_45), (6, .int x_38), (5, .int 1), (4, .int x_16), (3, .int r_12), (2, .int ((A 13) n_4)), (0, .ref h0), (1, .int p0)]) hx hb dX10_push_248 hl (by decide) rfl (fun ls hl => ?_)
                        refine lv_aload_n hx hb dX10_push_250 rfl (lv_at hl 7 rfl) ?_
                        refine va_get (D := DG E) (ci := 10) (v := .ref (rf 22)) (C := RX10) (T := TX10) (N := 49) hx hb hts iw_X10 hown hK.1 (va_one hM.1) 0 rfl rfl 22 (by decide) (hts _ fl_X10_65) (fun _ h9 => h9) rfl dX10_push_251 ?_
                        refine lv_iload_n hx hb dX10_push_254 rfl (lv_at hl 5 rfl) ?_
                        have ha_120 : va_at (DG E) vwCl (rf 22, .inl (E.2.2 0, 16, .inl (A 22))) _ := hM.2 22 (by decide) (by decide) (by decide)
                        refine va_iald (D := DG E) hx hb hK.1 (va_one ha_120) 0 0 rfl rfl hi_14 dX10_push_255 ?_
                        refine W.eq (g2 := F0 m 256 ls [.int ((A 22) (4 * n_4 + i0))]) (by rw [en_13]) ?_
                        refine lv_iconst (v := 2) hx hb dX10_push_256 (by decide) ?_
                        refine lv_icmp_ge (tgt := 290) hx hb dX10_push_257 (by decide) (fun c_121 => by exfalso; simp only [lt_I, le_I, eq_I, i_0, i_1, i_2, i_3, i_4, i_5, i_6, i_7, i_8, i_10, i_12, i_16, i_20, i_23, i_24, i_31, i_32, i_63, i_64, i_m1, i_9, i_11, i_13, i_25, i_60, i_75, i_79, i_80, i_96, i_100] at c_121; omega) (fun c_121 => ?_)
                        simp only [lt_I, le_I, eq_I, i_0, i_1, i_2, i_3, i_4, i_5, i_6, i_7, i_8, i_10, i_12, i_16, i_20, i_23, i_24, i_31, i_32, i_63, i_64, i_m1, i_9, i_11, i_13, i_25, i_60, i_75, i_79, i_80, i_96, i_100] at c_121
                        refine lv_aload_n hx hb dX10_push_260 rfl (lv_at hl 7 rfl) ?_
                        refine lv_iload hx hb dX10_push_261 (lv_at hl 0 rfl) ?_
                        refine lv_iload_n hx hb dX10_push_263 rfl (lv_at hl 8 rfl) ?_
                        refine lv_aload_n hx hb dX10_push_264 rfl (lv_at hl 7 rfl) ?_
                        refine va_get (D := DG E) (ci := 10) (v := .ref (rf 23)) (C := RX10) (T := TX10) (N := 49) hx hb hts iw_X10 hown hK.1 (va_one hM.1) 0 rfl rfl 23 (by decide) (hts _ fl_X10_68) (fun _ h9 => h9) rfl dX10_push_265 ?_
                        refine lv_iload_n hx hb dX10_push_268 rfl (lv_at hl 5 rfl) ?_
                        have ha_122 : va_at (DG E) vwCl (rf 23, .inl (E.2.2 0, 16, .inl (A 23))) _ := hM.2 23 (by decide) (by decide) (by decide)
                        refine va_iald (D := DG E) hx hb hK.1 (va_one ha_122) 0 0 rfl rfl hi_14 dX10_push_269 ?_
                        refine W.eq (g2 := F0 m 270 ls [.int ((A 23) (4 * n_4 + i0)), .int p0, .int r_119, .ref h0]) (by rw [en_13]) ?_
                        have q_123 : 0 ≤ ((A 23) (4 * n_4 + i0)).toInt := (hI6 (4 * n_4 + i0) hk_18).2.2.1
                        refine lv_iconst (v := 4) hx hb dX10_push_270 (by decide) ?_
                        refine lv_iload hx hb dX10_push_271 (lv_at hl 4 rfl) ?_
                        refine lv_imul hx hb dX10_push_273 ?_
                        refine W.eq (g2 := F0 m 274 ls [.int x_37, .int ((A 23) (4 * n_4 + i0)), .int p0, .int r_119, .ref h0]) (by rw [ex_37]) ?_
                        refine lv_iadd hx hb dX10_push_274 ?_
                        refine lv_topi (fun x_124 ex_124 => ?_)
                        have fx_124 : x_124.toInt = ((A 23) (4 * n_4 + i0)).toInt + x_37.toInt := by have h9 := s_add (x := ((A 23) (4 * n_4 + i0))) (y := x_37) (by omega) (by omega); rw [ex_124]; exact h9
                        refine lv_iload hx hb dX10_push_275 (lv_at hl 2 rfl) ?_
                        refine lv_iconst (v := 4) hx hb dX10_push_277 (by decide) ?_
                        refine lv_icmp_ge (tgt := 286) hx hb dX10_push_278 (by decide) (fun c_125 => ?_) (fun c_125 => ?_)
                        · simp only [lt_I, le_I, eq_I, i_0, i_1, i_2, i_3, i_4, i_5, i_6, i_7, i_8, i_10, i_12, i_16, i_20, i_23, i_24, i_31, i_32, i_63, i_64, i_m1, i_9, i_11, i_13, i_25, i_60, i_75, i_79, i_80, i_96, i_100] at c_125
                          refine lv_iconst (v := 4) hx hb dX10_push_286 (by decide) ?_
                          refine va_callv (rnV (fun H => MH E h0 rf t0 t1 t2 (uA (uA (uA (uA (uA (uA (uA (uA A 15 u_29) 41 (ur_119.1)) 42 (ur_119.2.1)) 43 (ur_119.2.2.1)) 44 (ur_119.2.2.2.1)) 45 (ur_119.2.2.2.2.1)) 46 (ur_119.2.2.2.2.2.1)) 47 (ur_119.2.2.2.2.2.2.1)) 0 ur_119.2.2.2.2.2.2.2 H) (As := [.int r_119, .int p0, .int x_124, .int 4]) (rest := []) ⟨hx, hb, hml, hown, hts⟩ (u_X10_load l E z0 G hGz h0 rf hR t0 t1 t2 (uA (uA (uA (uA (uA (uA (uA (uA A 15 u_29) 41 (ur_119.1)) 42 (ur_119.2.1)) 43 (ur_119.2.2.1)) 44 (ur_119.2.2.2.1)) 45 (ur_119.2.2.2.2.1)) 46 (ur_119.2.2.2.2.2.1)) 47 (ur_119.2.2.2.2.2.2.1)) 0 ur_119.2.2.2.2.2.2.2 r_119 p0 x_124 4 hpr_119_0 (show -1 ≤ r_119.toInt ∧ r_119.toInt ≤ 23 from by have := i_4; first | decide | omega) (show 0 ≤ p0.toInt ∧ p0.toInt ≤ 3 from by have := i_4; first | decide | omega) (show 0 ≤ x_124.toInt ∧ x_124.toInt ≤ 32 from by have := i_4; first | decide | omega) (show 0 ≤ (4 : Int32).toInt ∧ (4 : Int32).toInt ≤ 4 from by have := i_4; first | decide | omega) (show x_124.toInt + (4 : Int32).toInt ≤ 32 from by have := i_4; first | decide | omega)) (cwV 4 hts (gdV ml_X10_203 im_X10_load se_X10_X10_load in_X10 co_X10_load rfl) rfl rfl rfl (by decide +kernel) ⟨Nat.le_of_ble_eq_true rfl, Nat.le_of_ble_eq_true rfl⟩) hM (fun U hU hW => hK.go hW hS hAz hU) (va_recv hK.1 (va_one hM.1) (ci := 10) (q0 := 0) rfl rfl) rfl rfl hl.1 rfl (lv_room (Nat.le_of_ble_eq_true rfl)) dX10_push_287 ⟨Nat.le_of_ble_eq_true rfl, Nat.le_of_ble_eq_true rfl⟩) hS (fun q _ h => h) (fun q h => h) (fun ur_126 t H locs ht hvm hwr_126 hB hz hk hS => ?_)
                          have hM : MH E h0 rf t0 t1 t2 (uA (uA (uA (uA (uA (uA (uA (uA (uA (uA A 15 u_29) 41 (ur_119.1)) 42 (ur_119.2.1)) 43 (ur_119.2.2.1)) 44 (ur_119.2.2.2.1)) 45 (ur_119.2.2.2.2.1)) 46 (ur_119.2.2.2.2.2.1)) 47 (ur_119.2.2.2.2.2.2.1)) 44 (ur_126.1)) 48 (ur_126.2)) 0 ur_119.2.2.2.2.2.2.2 H := by rw [ht] at hB; exact hB
                          have hDr_126 : D_X10_load (uA (uA (uA (uA (uA (uA (uA (uA A 15 u_29) 41 (ur_119.1)) 42 (ur_119.2.1)) 43 (ur_119.2.2.1)) 44 (ur_119.2.2.2.1)) 45 (ur_119.2.2.2.2.1)) 46 (ur_119.2.2.2.2.2.1)) 47 (ur_119.2.2.2.2.2.2.1)) (0 : Int32) (ur_119.2.2.2.2.2.2.2) r_119 p0 x_124 (4 : Int32) (uA (uA (uA (uA (uA (uA (uA (uA (uA (uA A 15 u_29) 41 (ur_119.1)) 42 (ur_119.2.1)) 43 (ur_119.2.2.1)) 44 (ur_119.2.2.2.1)) 45 (ur_119.2.2.2.2.1)) 46 (ur_119.2.2.2.2.2.1)) 47 (ur_119.2.2.2.2.2.2.1)) 44 (ur_126.1)) 48 (ur_126.2)) (0 : Int32) (ur_119.2.2.2.2.2.2.2) := hwr_126.2.2
                          have hpr_126_0 : I7 (ur_119.1) (ur_119.2.1) (ur_126.1) (ur_119.2.2.2.2.1) (ur_119.2.2.2.2.2.1) := hwr_126.1
                          have hpr_126_1 : ((ur_126.1) 24).toInt = ((ur_119.2.2.2.1) 24).toInt ∧ ((ur_119.2.2.2.2.2.1) 24).toInt = ((ur_119.2.2.2.2.2.1) 24).toInt := hwr_126.2.1
                          have := i_4
                          refine lv_aload_n hx hb dX10_push_290 rfl (lv_at hl 7 rfl) ?_
                          refine va_get (D := DG E) (ci := 10) (v := .ref (rf 22)) (C := RX10) (T := TX10) (N := 49) hx hb hts iw_X10 hown hK.1 (va_one hM.1) 0 rfl rfl 22 (by decide) (hts _ fl_X10_65) (fun _ h9 => h9) rfl dX10_push_291 ?_
                          refine lv_iload_n hx hb dX10_push_294 rfl (lv_at hl 5 rfl) ?_
                          have ha_127 : va_at (DG E) vwCl (rf 22, .inl (E.2.2 0, 16, .inl (A 22))) _ := hM.2 22 (by decide) (by decide) (by decide)
                          refine va_iald (D := DG E) hx hb hK.1 (va_one ha_127) 0 0 rfl rfl hi_14 dX10_push_295 ?_
                          refine W.eq (g2 := F0 m 296 ls [.int ((A 22) (4 * n_4 + i0))]) (by rw [en_13]) ?_
                          refine lv_iconst (v := 2) hx hb dX10_push_296 (by decide) ?_
                          refine lv_icmp_ne (tgt := 314) hx hb dX10_push_297 (by decide) (fun c_128 => ?_) (fun c_128 => by exfalso; simp only [lt_I, le_I, eq_I, i_0, i_1, i_2, i_3, i_4, i_5, i_6, i_7, i_8, i_10, i_12, i_16, i_20, i_23, i_24, i_31, i_32, i_63, i_64, i_m1, i_9, i_11, i_13, i_25, i_60, i_75, i_79, i_80, i_96, i_100] at c_128; omega)
                          simp only [lt_I, le_I, eq_I, i_0, i_1, i_2, i_3, i_4, i_5, i_6, i_7, i_8, i_10, i_12, i_16, i_20, i_23, i_24, i_31, i_32, i_63, i_64, i_m1, i_9, i_11, i_13, i_25, i_60, i_75, i_79, i_80, i_96, i_100] at c_128
                          refine lv_aload_n hx hb dX10_push_314 rfl (lv_at hl 7 rfl) ?_
                          refine va_get (D := DG E) (ci := 10) (v := .ref (rf 13)) (C := RX10) (T := TX10) (N := 49) hx hb hts iw_X10 hown hK.1 (va_one hM.1) 0 rfl rfl 13 (by decide) (hts _ fl_X10_37) (fun _ h9 => h9) rfl dX10_push_315 ?_
                          refine lv_iload_n hx hb dX10_push_318 rfl (lv_at hl 8 rfl) ?_
                          refine lv_iload_n hx hb dX10_push_319 rfl (lv_at hl 6 rfl) ?_
                          refine lv_iload hx hb dX10_push_320 (lv_at hl 3 rfl) ?_
                          refine lv_iadd hx hb dX10_push_322 ?_
                          refine W.eq (g2 := F0 m 323 ls [.int x_24, .int p0, .ref (rf 13)]) (by rw [ex_24]) ?_
                          refine lv_bipush (v := 64) hx hb dX10_push_323 (by decide) ?_
                          refine lv_irem hx hb dX10_push_325 (by decide) ?_
                          refine lv_topi (fun x_129 ex_129 => ?_)
                          have fx_129 : x_129.toInt = x_24.toInt % 64 := by have h9 := s_rem (x := x_24) 64 (by decide) (by decide) (by omega); rw [ex_129]; exact h9
                          have ha_130 : va_at (DG E) vwCl (rf 13, .inl (E.2.2 0, 4, .inl (A 13))) _ := hM.2 13 (by decide) (by decide) (by decide)
                          refine rr_iast (D := DG E) hx hb hK.1 0 ha_130 hS (by show G (rf 13) ≠ 0; rw [hR.2 13 (by decide) (by decide) (by decide)]; decide) rfl hi_2 dX10_push_326 (fun H locs hn ho hz hS => ?_)
                          rw [en_4] at hn
                          obtain ⟨g_130, eg_130⟩ : ∃ z : Nat → Int32, z = upd (A 13) n_4 x_129 := ⟨_, rfl⟩
                          have sg_130 : g_130 n_4 = x_129 := by rw [eg_130]; exact upd_s
                          have ng_130 : ∀ k, k ≠ n_4 → g_130 k = (A 13) k := fun k hk => by rw [eg_130]; exact upd_n hk
                          have hn : va_at (DG E) vwCl (rf 13, .inl (E.2.2 0, 4, .inl g_130)) H := by rw [eg_130]; exact hn
                          have hM : MH E h0 rf t0 t1 t2 (uA (uA (uA (uA (uA (uA (uA (uA (uA (uA (uA A 15 u_29) 41 (ur_119.1)) 42 (ur_119.2.1)) 43 (ur_119.2.2.1)) 44 (ur_119.2.2.2.1)) 45 (ur_119.2.2.2.2.1)) 46 (ur_119.2.2.2.2.2.1)) 47 (ur_119.2.2.2.2.2.2.1)) 44 (ur_126.1)) 48 (ur_126.2)) 13 g_130) 0 ur_119.2.2.2.2.2.2.2 H := hM.w hR 13 (by decide) (by decide) (by decide) hn ho
                          refine lv_iload_n hx hb dX10_push_327 rfl (lv_at hl 6 rfl) ?_
                          have hI4_131 : I4 (A 10) (A 20) (A 29) (A 24) (A 11) (A 12) g_130 := by
                            intro k hk
                            by_cases e : k = n_4
                            · rw [e]
                              exact ⟨fun _ => hPn _ (by rw [sg_130]; omega), Or.inl hst0⟩
                            · exact (hI4 k hk).cg rfl rfl (fun _ _ => rfl) (fun _ _ => rfl) rfl rfl (ng_130 k e)
                          exact W.iret (v := ((A 13) n_4)) hx hb hr (fun t ht hW => ⟨⟨((A 13) n_4), ((ur_119.1), (ur_119.2.1), (ur_119.2.2.1), (ur_126.1), (ur_119.2.2.2.2.1), (ur_119.2.2.2.2.2.1), (ur_119.2.2.2.2.2.2.1), (ur_126.2), g_130, u_29, ur_119.2.2.2.2.2.2.2, 0), rfl, ⟨hI4_131, hpr_126_0, (by show 0 ≤ ur_119.2.2.2.2.2.2.2.toInt ∧ ur_119.2.2.2.2.2.2.2.toInt ≤ 24; omega), (Or.inl ⟨c_1r, n_4, hn_4, (Or.inr ⟨c_5, (Or.inr ⟨c_8, (Or.inl ⟨c_10, r_12, hpr_12_0, hpr_12_1, i0, hi4, hn_13, x_16, ex_16, (Or.inl ⟨c_22, x_24, ex_24, fx_24, x_25, ex_25, fx_25, x_26, ex_26, fx_26, x_27, ex_27, fx_27, (Or.inl ⟨c_28, u_29, hJ_29, x_37, ex_37, fx_37, x_38, ex_38, fx_38, v_39, hv_39.2, r_41, hDr_41, hpr_41_0, hpr_41_1, v_42, hv_42.2, x_45, ex_45, fx_45, (Or.inr ⟨c_48, (Or.inr ⟨c_93, ur_119, r_119, hDr_119, hpr_119_0, hpr_119_1, hpr_119_2, hpr_119_3, hpr_119_4, x_124, ex_124, fx_124, (Or.inl ⟨c_125, ur_126, hDr_126, hpr_126_0, hpr_126_1, x_129, ex_129, fx_129, g_130, eg_130, rfl, rfl, rfl, rfl⟩)⟩)⟩)⟩)⟩)⟩)⟩)⟩)⟩)⟩, (by show MH E h0 rf t0 t1 t2 (uA (uA (uA (uA (uA (uA (uA (uA (uA (uA A 41 (ur_119.1)) 42 (ur_119.2.1)) 43 (ur_119.2.2.1)) 44 (ur_126.1)) 45 (ur_119.2.2.2.2.1)) 46 (ur_119.2.2.2.2.2.1)) 47 (ur_119.2.2.2.2.2.2.1)) 48 (ur_126.2)) 13 g_130) 15 u_29) 0 ur_119.2.2.2.2.2.2.2 t.heap; rw [ht]; exact hM.cg9 rfl rfl rfl rfl rfl rfl rfl rfl rfl rfl rfl rfl rfl rfl rfl rfl rfl rfl rfl rfl rfl rfl rfl rfl rfl rfl rfl rfl rfl rfl rfl rfl rfl rfl rfl rfl rfl rfl rfl rfl rfl rfl rfl rfl)⟩, hS.F ht⟩) hS.2.2 dX10_push_328
                        · simp only [lt_I, le_I, eq_I, i_0, i_1, i_2, i_3, i_4, i_5, i_6, i_7, i_8, i_10, i_12, i_16, i_20, i_23, i_24, i_31, i_32, i_63, i_64, i_m1, i_9, i_11, i_13, i_25, i_60, i_75, i_79, i_80, i_96, i_100] at c_125
                          refine lv_iload hx hb dX10_push_281 (lv_at hl 2 rfl) ?_
                          refine lv_goto (tgt := 287) hx hb dX10_push_283 (by decide) ?_
                          refine va_callv (rnV (fun H => MH E h0 rf t0 t1 t2 (uA (uA (uA (uA (uA (uA (uA (uA A 15 u_29) 41 (ur_119.1)) 42 (ur_119.2.1)) 43 (ur_119.2.2.1)) 44 (ur_119.2.2.2.1)) 45 (ur_119.2.2.2.2.1)) 46 (ur_119.2.2.2.2.2.1)) 47 (ur_119.2.2.2.2.2.2.1)) 0 ur_119.2.2.2.2.2.2.2 H) (As := [.int r_119, .int p0, .int x_124, .int x_38]) (rest := []) ⟨hx, hb, hml, hown, hts⟩ (u_X10_load l E z0 G hGz h0 rf hR t0 t1 t2 (uA (uA (uA (uA (uA (uA (uA (uA A 15 u_29) 41 (ur_119.1)) 42 (ur_119.2.1)) 43 (ur_119.2.2.1)) 44 (ur_119.2.2.2.1)) 45 (ur_119.2.2.2.2.1)) 46 (ur_119.2.2.2.2.2.1)) 47 (ur_119.2.2.2.2.2.2.1)) 0 ur_119.2.2.2.2.2.2.2 r_119 p0 x_124 x_38 hpr_119_0 (show -1 ≤ r_119.toInt ∧ r_119.toInt ≤ 23 from by first | decide | omega) (show 0 ≤ p0.toInt ∧ p0.toInt ≤ 3 from by first | decide | omega) (show 0 ≤ x_124.toInt ∧ x_124.toInt ≤ 32 from by first | decide | omega) (show 0 ≤ x_38.toInt ∧ x_38.toInt ≤ 4 from by first | decide | omega) (show x_124.toInt + x_38.toInt ≤ 32 from by first | decide | omega)) (cwV 4 hts (gdV ml_X10_203 im_X10_load se_X10_X10_load in_X10 co_X10_load rfl) rfl rfl rfl (by decide +kernel) ⟨Nat.le_of_ble_eq_true rfl, Nat.le_of_ble_eq_true rfl⟩) hM (fun U hU hW => hK.go hW hS hAz hU) (va_recv hK.1 (va_one hM.1) (ci := 10) (q0 := 0) rfl rfl) rfl rfl hl.1 rfl (lv_room (Nat.le_of_ble_eq_true rfl)) dX10_push_287 ⟨Nat.le_of_ble_eq_true rfl, Nat.le_of_ble_eq_true rfl⟩) hS (fun q _ h => h) (fun q h => h) (fun ur_132 t H locs ht hvm hwr_132 hB hz hk hS => ?_)
                          have hM : MH E h0 rf t0 t1 t2 (uA (uA (uA (uA (uA (uA (uA (uA (uA (uA A 15 u_29) 41 (ur_119.1)) 42 (ur_119.2.1)) 43 (ur_119.2.2.1)) 44 (ur_119.2.2.2.1)) 45 (ur_119.2.2.2.2.1)) 46 (ur_119.2.2.2.2.2.1)) 47 (ur_119.2.2.2.2.2.2.1)) 44 (ur_132.1)) 48 (ur_132.2)) 0 ur_119.2.2.2.2.2.2.2 H := by rw [ht] at hB; exact hB
                          have hDr_132 : D_X10_load (uA (uA (uA (uA (uA (uA (uA (uA A 15 u_29) 41 (ur_119.1)) 42 (ur_119.2.1)) 43 (ur_119.2.2.1)) 44 (ur_119.2.2.2.1)) 45 (ur_119.2.2.2.2.1)) 46 (ur_119.2.2.2.2.2.1)) 47 (ur_119.2.2.2.2.2.2.1)) (0 : Int32) (ur_119.2.2.2.2.2.2.2) r_119 p0 x_124 x_38 (uA (uA (uA (uA (uA (uA (uA (uA (uA (uA A 15 u_29) 41 (ur_119.1)) 42 (ur_119.2.1)) 43 (ur_119.2.2.1)) 44 (ur_119.2.2.2.1)) 45 (ur_119.2.2.2.2.1)) 46 (ur_119.2.2.2.2.2.1)) 47 (ur_119.2.2.2.2.2.2.1)) 44 (ur_132.1)) 48 (ur_132.2)) (0 : Int32) (ur_119.2.2.2.2.2.2.2) := hwr_132.2.2
                          have hpr_132_0 : I7 (ur_119.1) (ur_119.2.1) (ur_132.1) (ur_119.2.2.2.2.1) (ur_119.2.2.2.2.2.1) := hwr_132.1
                          have hpr_132_1 : ((ur_132.1) 24).toInt = ((ur_119.2.2.2.1) 24).toInt ∧ ((ur_119.2.2.2.2.2.1) 24).toInt = ((ur_119.2.2.2.2.2.1) 24).toInt := hwr_132.2.1
                          refine lv_aload_n hx hb dX10_push_290 rfl (lv_at hl 7 rfl) ?_
                          refine va_get (D := DG E) (ci := 10) (v := .ref (rf 22)) (C := RX10) (T := TX10) (N := 49) hx hb hts iw_X10 hown hK.1 (va_one hM.1) 0 rfl rfl 22 (by decide) (hts _ fl_X10_65) (fun _ h9 => h9) rfl dX10_push_291 ?_
                          refine lv_iload_n hx hb dX10_push_294 rfl (lv_at hl 5 rfl) ?_
                          have ha_133 : va_at (DG E) vwCl (rf 22, .inl (E.2.2 0, 16, .inl (A 22))) _ := hM.2 22 (by decide) (by decide) (by decide)
                          refine va_iald (D := DG E) hx hb hK.1 (va_one ha_133) 0 0 rfl rfl hi_14 dX10_push_295 ?_
                          refine W.eq (g2 := F0 m 296 ls [.int ((A 22) (4 * n_4 + i0))]) (by rw [en_13]) ?_
                          refine lv_iconst (v := 2) hx hb dX10_push_296 (by decide) ?_
                          refine lv_icmp_ne (tgt := 314) hx hb dX10_push_297 (by decide) (fun c_134 => ?_) (fun c_134 => by exfalso; simp only [lt_I, le_I, eq_I, i_0, i_1, i_2, i_3, i_4, i_5, i_6, i_7, i_8, i_10, i_12, i_16, i_20, i_23, i_24, i_31, i_32, i_63, i_64, i_m1, i_9, i_11, i_13, i_25, i_60, i_75, i_79, i_80, i_96, i_100] at c_134; omega)
                          simp only [lt_I, le_I, eq_I, i_0, i_1, i_2, i_3, i_4, i_5, i_6, i_7, i_8, i_10, i_12, i_16, i_20, i_23, i_24, i_31, i_32, i_63, i_64, i_m1, i_9, i_11, i_13, i_25, i_60, i_75, i_79, i_80, i_96, i_100] at c_134
                          refine lv_aload_n hx hb dX10_push_314 rfl (lv_at hl 7 rfl) ?_
                          refine va_get (D := DG E) (ci := 10) (v := .ref (rf 13)) (C := RX10) (T := TX10) (N := 49) hx hb hts iw_X10 hown hK.1 (va_one hM.1) 0 rfl rfl 13 (by decide) (hts _ fl_X10_37) (fun _ h9 => h9) rfl dX10_push_315 ?_
                          refine lv_iload_n hx hb dX10_push_318 rfl (lv_at hl 8 rfl) ?_
                          refine lv_iload_n hx hb dX10_push_319 rfl (lv_at hl 6 rfl) ?_
                          refine lv_iload hx hb dX10_push_320 (lv_at hl 3 rfl) ?_
                          refine lv_iadd hx hb dX10_push_322 ?_
                          refine W.eq (g2 := F0 m 323 ls [.int x_24, .int p0, .ref (rf 13)]) (by rw [ex_24]) ?_
                          refine lv_bipush (v := 64) hx hb dX10_push_323 (by decide) ?_
                          refine lv_irem hx hb dX10_push_325 (by decide) ?_
                          refine lv_topi (fun x_135 ex_135 => ?_)
                          have fx_135 : x_135.toInt = x_24.toInt % 64 := by have h9 := s_rem (x := x_24) 64 (by decide) (by decide) (by omega); rw [ex_135]; exact h9
                          have ha_136 : va_at (DG E) vwCl (rf 13, .inl (E.2.2 0, 4, .inl (A 13))) _ := hM.2 13 (by decide) (by decide) (by decide)
                          refine rr_iast (D := DG E) hx hb hK.1 0 ha_136 hS (by show G (rf 13) ≠ 0; rw [hR.2 13 (by decide) (by decide) (by decide)]; decide) rfl hi_2 dX10_push_326 (fun H locs hn ho hz hS => ?_)
                          rw [en_4] at hn
                          obtain ⟨g_136, eg_136⟩ : ∃ z : Nat → Int32, z = upd (A 13) n_4 x_135 := ⟨_, rfl⟩
                          have sg_136 : g_136 n_4 = x_135 := by rw [eg_136]; exact upd_s
                          have ng_136 : ∀ k, k ≠ n_4 → g_136 k = (A 13) k := fun k hk => by rw [eg_136]; exact upd_n hk
                          have hn : va_at (DG E) vwCl (rf 13, .inl (E.2.2 0, 4, .inl g_136)) H := by rw [eg_136]; exact hn
                          have hM : MH E h0 rf t0 t1 t2 (uA (uA (uA (uA (uA (uA (uA (uA (uA (uA (uA A 15 u_29) 41 (ur_119.1)) 42 (ur_119.2.1)) 43 (ur_119.2.2.1)) 44 (ur_119.2.2.2.1)) 45 (ur_119.2.2.2.2.1)) 46 (ur_119.2.2.2.2.2.1)) 47 (ur_119.2.2.2.2.2.2.1)) 44 (ur_132.1)) 48 (ur_132.2)) 13 g_136) 0 ur_119.2.2.2.2.2.2.2 H := hM.w hR 13 (by decide) (by decide) (by decide) hn ho
                          refine lv_iload_n hx hb dX10_push_327 rfl (lv_at hl 6 rfl) ?_
                          have hI4_137 : I4 (A 10) (A 20) (A 29) (A 24) (A 11) (A 12) g_136 := by
                            intro k hk
                            by_cases e : k = n_4
                            · rw [e]
                              exact ⟨fun _ => hPn _ (by rw [sg_136]; omega), Or.inl hst0⟩
                            · exact (hI4 k hk).cg rfl rfl (fun _ _ => rfl) (fun _ _ => rfl) rfl rfl (ng_136 k e)
                          exact W.iret (v := ((A 13) n_4)) hx hb hr (fun t ht hW => ⟨⟨((A 13) n_4), ((ur_119.1), (ur_119.2.1), (ur_119.2.2.1), (ur_132.1), (ur_119.2.2.2.2.1), (ur_119.2.2.2.2.2.1), (ur_119.2.2.2.2.2.2.1), (ur_132.2), g_136, u_29, ur_119.2.2.2.2.2.2.2, 0), rfl, ⟨hI4_137, hpr_132_0, (by show 0 ≤ ur_119.2.2.2.2.2.2.2.toInt ∧ ur_119.2.2.2.2.2.2.2.toInt ≤ 24; omega), (Or.inl ⟨c_1r, n_4, hn_4, (Or.inr ⟨c_5, (Or.inr ⟨c_8, (Or.inl ⟨c_10, r_12, hpr_12_0, hpr_12_1, i0, hi4, hn_13, x_16, ex_16, (Or.inl ⟨c_22, x_24, ex_24, fx_24, x_25, ex_25, fx_25, x_26, ex_26, fx_26, x_27, ex_27, fx_27, (Or.inl ⟨c_28, u_29, hJ_29, x_37, ex_37, fx_37, x_38, ex_38, fx_38, v_39, hv_39.2, r_41, hDr_41, hpr_41_0, hpr_41_1, v_42, hv_42.2, x_45, ex_45, fx_45, (Or.inr ⟨c_48, (Or.inr ⟨c_93, ur_119, r_119, hDr_119, hpr_119_0, hpr_119_1, hpr_119_2, hpr_119_3, hpr_119_4, x_124, ex_124, fx_124, (Or.inr ⟨c_125, ur_132, hDr_132, hpr_132_0, hpr_132_1, x_135, ex_135, fx_135, g_136, eg_136, rfl, rfl, rfl, rfl⟩)⟩)⟩)⟩)⟩)⟩)⟩)⟩)⟩)⟩, (by show MH E h0 rf t0 t1 t2 (uA (uA (uA (uA (uA (uA (uA (uA (uA (uA A 41 (ur_119.1)) 42 (ur_119.2.1)) 43 (ur_119.2.2.1)) 44 (ur_132.1)) 45 (ur_119.2.2.2.2.1)) 46 (ur_119.2.2.2.2.2.1)) 47 (ur_119.2.2.2.2.2.2.1)) 48 (ur_132.2)) 13 g_136) 15 u_29) 0 ur_119.2.2.2.2.2.2.2 t.heap; rw [ht]; exact hM.cg9 rfl rfl rfl rfl rfl rfl rfl rfl rfl rfl rfl rfl rfl rfl rfl rfl rfl rfl rfl rfl rfl rfl rfl rfl rfl rfl rfl rfl rfl rfl rfl rfl rfl rfl rfl rfl rfl rfl rfl rfl rfl rfl rfl rfl)⟩, hS.F ht⟩) hS.2.2 dX10_push_328
                  · refine lv_iconst (v := 1) hx hb dX10_push_173 (by decide) ?_
                    refine lv_isub hx hb dX10_push_174 ?_
                    refine lv_topi (fun x_43 ex_43 => ?_)
                    have fx_43 : x_43.toInt = r_41.toInt - 1 := by have h9 := s_sub (x := r_41) (y := 1) (by rw [i_1]; omega) (by rw [i_1]; omega); rw [i_1] at h9; rw [ex_43]; exact h9
                    refine lv_icmp_ne (tgt := 182) hx hb dX10_push_175 (by decide) (fun c_44 => ?_) (fun c_44 => ?_)
                    · simp only [lt_I, le_I, eq_I, i_0, i_1, i_2, i_3, i_4, i_5, i_6, i_7, i_8, i_10, i_12, i_16, i_20, i_23, i_24, i_31, i_32, i_63, i_64, i_m1, i_9, i_11, i_13, i_25, i_60, i_75, i_79, i_80, i_96, i_100] at c_44
                      refine lv_iconst (v := 0) hx hb dX10_push_182 (by decide) ?_
                      exact key_42 0 ⟨(by first | decide | omega), (Or.inl ⟨x_43, ex_43, fx_43, c_44, rfl⟩)⟩
                    · simp only [lt_I, le_I, eq_I, i_0, i_1, i_2, i_3, i_4, i_5, i_6, i_7, i_8, i_10, i_12, i_16, i_20, i_23, i_24, i_31, i_32, i_63, i_64, i_m1, i_9, i_11, i_13, i_25, i_60, i_75, i_79, i_80, i_96, i_100] at c_44
                      refine lv_iconst (v := 2) hx hb dX10_push_178 (by decide) ?_
                      refine lv_goto (tgt := 183) hx hb dX10_push_179 (by decide) ?_
                      exact key_42 2 ⟨(by first | decide | omega), (Or.inr ⟨x_43, ex_43, fx_43, c_44, rfl⟩)⟩
                · refine lv_iload hx hb dX10_push_156 (lv_at hl 2 rfl) ?_
                  refine lv_if_ne (tgt := 165) hx hb dX10_push_158 (by decide) (fun c_40 => ?_) (fun c_40 => ?_)
                  · simp only [lt_I, le_I, eq_I, i_0, i_1, i_2, i_3, i_4, i_5, i_6, i_7, i_8, i_10, i_12, i_16, i_20, i_23, i_24, i_31, i_32, i_63, i_64, i_m1, i_9, i_11, i_13, i_25, i_60, i_75, i_79, i_80, i_96, i_100] at c_40
                    refine lv_iconst (v := 0) hx hb dX10_push_165 (by decide) ?_
                    exact key_39 0 ⟨(by first | decide | omega), (Or.inl ⟨c_40, rfl⟩)⟩
                  · simp only [lt_I, le_I, eq_I, i_0, i_1, i_2, i_3, i_4, i_5, i_6, i_7, i_8, i_10, i_12, i_16, i_20, i_23, i_24, i_31, i_32, i_63, i_64, i_m1, i_9, i_11, i_13, i_25, i_60, i_75, i_79, i_80, i_96, i_100] at c_40
                    refine lv_iconst (v := 1) hx hb dX10_push_161 (by decide) ?_
                    refine lv_goto (tgt := 166) hx hb dX10_push_162 (by decide) ?_
                    exact key_39 1 ⟨(by first | decide | omega), (Or.inr ⟨c_40, rfl⟩)⟩
              · refine lv_iload_n hx hb dX10_push_126 rfl (lv_at hl 3 rfl) ?_
                refine lv_aload_n hx hb dX10_push_127 rfl (lv_at hl 4 rfl) ?_
                refine va_get (D := DG E) (ci := 10) (v := .ref (rf 12)) (C := RX10) (T := TX10) (N := 49) hx hb hts iw_X10 hown hK.1 (va_one hM.1) 0 rfl rfl 12 (by decide) (hts _ fl_X10_34) (fun _ h9 => h9) rfl dX10_push_128 ?_
                refine lv_iload_n hx hb dX10_push_131 rfl (lv_at hl 5 rfl) ?_
                have ha_30 : va_at (DG E) vwCl (rf 12, .inl (E.2.2 0, 4, .inl (A 12))) _ := hM.2 12 (by decide) (by decide) (by decide)
                refine va_iald (D := DG E) hx hb hK.1 (va_one ha_30) 0 0 rfl rfl hi_2 dX10_push_132 ?_
                refine W.eq (g2 := F0 m 133 ls [.int ((A 12) n_4), .int ((A 13) n_4)]) (by rw [en_4]) ?_
                refine lv_icmp_ne (tgt := 143) hx hb dX10_push_133 (by decide) (fun c_31 => ?_) (fun c_31 => ?_)
                · simp only [lt_I, le_I, eq_I, i_0, i_1, i_2, i_3, i_4, i_5, i_6, i_7, i_8, i_10, i_12, i_16, i_20, i_23, i_24, i_31, i_32, i_63, i_64, i_m1, i_9, i_11, i_13, i_25, i_60, i_75, i_79, i_80, i_96, i_100] at c_31
                  exact key_29 ((A 15)) _ _ ⟨(by show MH E h0 rf t0 t1 t2 (uA A 15 (A 15)) 0 pk _; exact hM.cg9 rfl rfl rfl rfl rfl rfl rfl rfl rfl rfl rfl rfl rfl rfl rfl rfl rfl rfl rfl rfl rfl rfl rfl rfl rfl rfl rfl rfl rfl rfl rfl rfl rfl rfl rfl rfl rfl rfl rfl rfl rfl rfl rfl rfl), hS, trivial, (Or.inl ⟨c_31, rfl⟩)⟩
                · simp only [lt_I, le_I, eq_I, i_0, i_1, i_2, i_3, i_4, i_5, i_6, i_7, i_8, i_10, i_12, i_16, i_20, i_23, i_24, i_31, i_32, i_63, i_64, i_m1, i_9, i_11, i_13, i_25, i_60, i_75, i_79, i_80, i_96, i_100] at c_31
                  refine lv_aload_n hx hb dX10_push_136 rfl (lv_at hl 4 rfl) ?_
                  refine va_get (D := DG E) (ci := 10) (v := .ref (rf 15)) (C := RX10) (T := TX10) (N := 49) hx hb hts iw_X10 hown hK.1 (va_one hM.1) 0 rfl rfl 15 (by decide) (hts _ fl_X10_43) (fun _ h9 => h9) rfl dX10_push_137 ?_
                  refine lv_iload_n hx hb dX10_push_140 rfl (lv_at hl 5 rfl) ?_
                  refine lv_iconst (v := 0) hx hb dX10_push_141 (by decide) ?_
                  have ha_32 : va_at (DG E) vwCl (rf 15, .inl (E.2.2 0, 4, .inl (A 15))) _ := hM.2 15 (by decide) (by decide) (by decide)
                  refine rr_iast (D := DG E) hx hb hK.1 0 ha_32 hS (by show G (rf 15) ≠ 0; rw [hR.2 15 (by decide) (by decide) (by decide)]; decide) rfl hi_2 dX10_push_142 (fun H locs hn ho hz hS => ?_)
                  rw [en_4] at hn
                  obtain ⟨g_32, eg_32⟩ : ∃ z : Nat → Int32, z = upd (A 15) n_4 0 := ⟨_, rfl⟩
                  have sg_32 : g_32 n_4 = 0 := by rw [eg_32]; exact upd_s
                  have ng_32 : ∀ k, k ≠ n_4 → g_32 k = (A 15) k := fun k hk => by rw [eg_32]; exact upd_n hk
                  have hn : va_at (DG E) vwCl (rf 15, .inl (E.2.2 0, 4, .inl g_32)) H := by rw [eg_32]; exact hn
                  have hM : MH E h0 rf t0 t1 t2 (uA A 15 g_32) 0 pk H := hM.w hR 15 (by decide) (by decide) (by decide) hn ho
                  exact key_29 (g_32) _ _ ⟨hM, hS, trivial, (Or.inr ⟨c_31, g_32, eg_32, rfl⟩)⟩
            · simp only [lt_I, le_I, eq_I, i_0, i_1, i_2, i_3, i_4, i_5, i_6, i_7, i_8, i_10, i_12, i_16, i_20, i_23, i_24, i_31, i_32, i_63, i_64, i_m1, i_9, i_11, i_13, i_25, i_60, i_75, i_79, i_80, i_96, i_100] at c_28
              refine lv_iconst (v := (-1)) hx hb dX10_push_124 (by decide) ?_
              exact W.iret (v := (-1)) hx hb hr (fun t ht hW => ⟨⟨(-1), ((A 41), (A 42), (A 43), (A 44), (A 45), (A 46), (A 47), (A 48), (A 13), (A 15), pk, 0), rfl, ⟨hI4, hI7, (by show 0 ≤ pk.toInt ∧ pk.toInt ≤ 24; have := i_m1; omega), (Or.inl ⟨c_1r, n_4, hn_4, (Or.inr ⟨c_5, (Or.inr ⟨c_8, (Or.inl ⟨c_10, r_12, hpr_12_0, hpr_12_1, i0, hi4, hn_13, x_16, ex_16, (Or.inl ⟨c_22, x_24, ex_24, fx_24, x_25, ex_25, fx_25, x_26, ex_26, fx_26, x_27, ex_27, fx_27, (Or.inr ⟨c_28, rfl, rfl, rfl, rfl⟩)⟩)⟩)⟩)⟩)⟩)⟩, (by show MH E h0 rf t0 t1 t2 (uA (uA (uA (uA (uA (uA (uA (uA (uA (uA A 41 (A 41)) 42 (A 42)) 43 (A 43)) 44 (A 44)) 45 (A 45)) 46 (A 46)) 47 (A 47)) 48 (A 48)) 13 (A 13)) 15 (A 15)) 0 pk t.heap; rw [ht]; exact hM.cg9 rfl rfl rfl rfl rfl rfl rfl rfl rfl rfl rfl rfl rfl rfl rfl rfl rfl rfl rfl rfl rfl rfl rfl rfl rfl rfl rfl rfl rfl rfl rfl rfl rfl rfl rfl rfl rfl rfl rfl rfl rfl rfl rfl rfl)⟩, hS.F ht⟩) hS.2.2 dX10_push_125
          · simp only [lt_I, le_I, eq_I, i_0, i_1, i_2, i_3, i_4, i_5, i_6, i_7, i_8, i_10, i_12, i_16, i_20, i_23, i_24, i_31, i_32, i_63, i_64, i_m1, i_9, i_11, i_13, i_25, i_60, i_75, i_79, i_80, i_96, i_100] at c_22
            refine lv_aload_n hx hb dX10_push_87 rfl (lv_at hl 3 rfl) ?_
            refine lv_iload_n hx hb dX10_push_88 rfl (lv_at hl 1 rfl) ?_
            refine va_calli (rnV (fun H => MH E h0 rf t0 t1 t2 A 0 pk H) (As := [.int r_12]) (rest := []) ⟨hx, hb, hml, hown, hts⟩ (u_X10_numbersOf l E z0 G hGz h0 rf hR t0 t1 t2 A 0 pk r_12 hI6 (show 0 ≤ r_12.toInt ∧ r_12.toInt ≤ 15 from by first | decide | omega)) (cwV 1 hts (gdV ml_X10_178 im_X10_numbersOf se_X10_X10_numbersOf in_X10 co_X10_numbersOf rfl) rfl rfl rfl (by decide +kernel) ⟨Nat.le_of_ble_eq_true rfl, Nat.le_of_ble_eq_true rfl⟩) hM (fun U hU hW => hK.go hW hS hAz hU) (va_recv hK.1 (va_one hM.1) (ci := 10) (q0 := 0) rfl rfl) rfl rfl hl.1 rfl (lv_room (Nat.le_of_ble_eq_true rfl)) dX10_push_89 ⟨Nat.le_of_ble_eq_true rfl, Nat.le_of_ble_eq_true rfl⟩) hS (fun q _ h => h.elim) (fun q h => h.elim) (fun r_138 ur_138 t H locs ht hvm hwr_138 hB hz hk hS => ?_)
            have hM := hM.kept (fun q hq => hk q hq (fun h => h))
            have hDr_138 : D_X10_numbersOf A (0 : Int32) pk r_12 r_138 := hwr_138.2.2
            have hpr_138_0 : 0 ≤ r_138.toInt ∧ r_138.toInt ≤ 3 := hwr_138.1
            have hpr_138_1 : ∀ n : Nat, (n : Int) = r_12.toInt → r_138.toInt = NB (A 24) n := hwr_138.2.1
            have iahpr_138_1 := hpr_138_1 (4 * n_4 + i0) (by omega)
            refine lv_iload hx hb dX10_push_92 (lv_at hl 0 rfl) ?_
            refine lv_isub hx hb dX10_push_94 ?_
            refine lv_topi (fun x_139 ex_139 => ?_)
            have fx_139 : x_139.toInt = r_138.toInt - x_16.toInt := by have h9 := s_sub (x := r_138) (y := x_16) (by omega) (by omega); rw [ex_139]; exact h9
            refine lv_goto (tgt := 99) hx hb dX10_push_95 (by decide) ?_
            have hn9 : 1 ≤ x_139.toInt := by omega
            refine lv_istore (lv' := [(5, .int x_139), (4, .int x_16), (3, .int r_12), (2, .int ((A 13) n_4)), (0, .ref h0), (1, .int p0)]) hx hb dX10_push_99 hl (by decide) rfl (fun ls hl => ?_)
            refine lv_aload_n hx hb dX10_push_101 rfl (lv_at hl 4 rfl) ?_
            refine va_get (D := DG E) (ci := 10) (v := .ref (rf 12)) (C := RX10) (T := TX10) (N := 49) hx hb hts iw_X10 hown hK.1 (va_one hM.1) 0 rfl rfl 12 (by decide) (hts _ fl_X10_34) (fun _ h9 => h9) rfl dX10_push_102 ?_
            refine lv_iload_n hx hb dX10_push_105 rfl (lv_at hl 5 rfl) ?_
            have ha_140 : va_at (DG E) vwCl (rf 12, .inl (E.2.2 0, 4, .inl (A 12))) _ := hM.2 12 (by decide) (by decide) (by decide)
            refine va_iald (D := DG E) hx hb hK.1 (va_one ha_140) 0 0 rfl rfl hi_2 dX10_push_106 ?_
            refine W.eq (g2 := F0 m 107 ls [.int ((A 12) n_4)]) (by rw [en_4]) ?_
            refine lv_iload_n hx hb dX10_push_107 rfl (lv_at hl 3 rfl) ?_
            refine lv_iload hx hb dX10_push_108 (lv_at hl 0 rfl) ?_
            refine lv_iadd hx hb dX10_push_110 ?_
            refine lv_topi (fun x_141 ex_141 => ?_)
            have fx_141 : x_141.toInt = ((A 13) n_4).toInt + x_139.toInt := by have h9 := s_add (x := ((A 13) n_4)) (y := x_139) (by omega) (by omega); rw [ex_141]; exact h9
            refine lv_iconst (v := 1) hx hb dX10_push_111 (by decide) ?_
            refine lv_isub hx hb dX10_push_112 ?_
            refine lv_topi (fun x_142 ex_142 => ?_)
            have fx_142 : x_142.toInt = x_141.toInt - 1 := by have h9 := s_sub (x := x_141) (y := 1) (by rw [i_1]; omega) (by rw [i_1]; omega); rw [i_1] at h9; rw [ex_142]; exact h9
            refine lv_bipush (v := 64) hx hb dX10_push_113 (by decide) ?_
            refine lv_irem hx hb dX10_push_115 (by decide) ?_
            refine lv_topi (fun x_143 ex_143 => ?_)
            have fx_143 : x_143.toInt = x_142.toInt % 64 := by have h9 := s_rem (x := x_142) 64 (by decide) (by decide) (by omega); rw [ex_143]; exact h9
            refine W.callR (W.runS (As := [.int ((A 12) n_4), .int x_143]) (rest := []) ⟨hx, hb, hml, hown, hts⟩ (c_X10_far l (((A 12) n_4)) x_143) (cwS 2 hts (gdS ml_X10_174 st_X10_far in_X10 co_X10_far rfl) rfl rfl rfl (by decide +kernel) ⟨Nat.le_of_ble_eq_true rfl, Nat.le_of_ble_eq_true rfl⟩) preEq rfl rfl hl.1 rfl (lv_room (Nat.le_of_ble_eq_true rfl)) dX10_push_116 ⟨Nat.le_of_ble_eq_true rfl, Nat.le_of_ble_eq_true rfl⟩) ?_
            refine W.eq (g2 := F0 m 119 ls [.int (((x_143 - ((A 12) n_4)) + 64) - ((x_143 - ((A 12) n_4)) + 64) / 64 * 64)]) (by rfl) ?_
            refine lv_topi (fun x_144 ex_144 => ?_)
            have fx_144 : x_144.toInt = (x_143.toInt - ((A 12) n_4).toInt + 64) % 64 := by rw [ex_144]; exact far_t (by omega) (by omega)
            have kx_144 : x_144.toInt = (farI ((A 12) n_4) x_143).toInt := by rw [ex_144]; rfl
            refine lv_bipush (v := 8) hx hb dX10_push_119 (by decide) ?_
            refine lv_icmp_lt (tgt := 126) hx hb dX10_push_121 (by decide) (fun c_145 => ?_) (fun c_145 => ?_)
            · simp only [lt_I, le_I, eq_I, i_0, i_1, i_2, i_3, i_4, i_5, i_6, i_7, i_8, i_10, i_12, i_16, i_20, i_23, i_24, i_31, i_32, i_63, i_64, i_m1, i_9, i_11, i_13, i_25, i_60, i_75, i_79, i_80, i_96, i_100] at c_145
              refine W.jh (σ := (Nat → Int32)) (P := fun u_146 H locs => MH E h0 rf t0 t1 t2 (uA A 15 u_146) 0 pk H ∧ va_S (fun q : Nat => G q ≠ 0) s.heap H locs ∧ (True) ∧ HID (((¬ ((A 13) n_4).toInt = ((A 12) n_4).toInt) ∧ u_146 = (A 15)) ∨ ((((A 13) n_4).toInt = ((A 12) n_4).toInt) ∧ ∃ g_149 : Nat → Int32, (g_149 = upd (A 15) n_4 0) ∧ u_146 = g_149))) (f := F0 m 143 ls []) (fun u_146 H locs hI => ?_) (fun key_146 => ?_)
              · obtain ⟨hM, hS, hF_146, hJ_146⟩ := hI
                refine lv_aload_n hx hb dX10_push_143 rfl (lv_at hl 4 rfl) ?_
                refine va_get (D := DG E) (ci := 10) (v := .ref (rf 24)) (C := RX10) (T := TX10) (N := 49) hx hb hts iw_X10 hown hK.1 (va_one hM.1) 0 rfl rfl 24 (by decide) (hts _ fl_X10_71) (fun _ h9 => h9) rfl dX10_push_144 ?_
                refine lv_iload_n hx hb dX10_push_147 rfl (lv_at hl 2 rfl) ?_
                have ha_150 : va_at (DG E) vwCl (rf 24, .inl (E.2.2 0, 16, .inl (A 24))) _ := hM.2 24 (by decide) (by decide) (by decide)
                refine va_iald (D := DG E) hx hb hK.1 (va_one ha_150) 0 0 rfl rfl hi_14 dX10_push_148 ?_
                refine W.eq (g2 := F0 m 149 ls [.int ((A 24) (4 * n_4 + i0))]) (by rw [en_13]) ?_
                have q_151 : 0 ≤ ((A 24) (4 * n_4 + i0)).toInt := (hI6 (4 * n_4 + i0) hk_18).2.2.2.1
                have q_152 : ((A 24) (4 * n_4 + i0)).toInt ≤ 12 := (hI6 (4 * n_4 + i0) hk_18).2.2.2.2.1
                have q_153 : ((A 23) (4 * n_4 + i0)).toInt + ((A 24) (4 * n_4 + i0)).toInt ≤ 32 := (hI6 (4 * n_4 + i0) hk_18).2.2.2.2.2.1
                refine lv_iconst (v := 4) hx hb dX10_push_149 (by decide) ?_
                refine lv_iload hx hb dX10_push_150 (lv_at hl 1 rfl) ?_
                refine lv_imul hx hb dX10_push_152 ?_
                refine lv_topi (fun x_154 ex_154 => ?_)
                have fx_154 : x_154.toInt = 4 * x_16.toInt := by rw [ex_154]; exact s_mulK i_4 (by omega) (by omega)
                refine lv_isub hx hb dX10_push_153 ?_
                refine lv_topi (fun x_155 ex_155 => ?_)
                have fx_155 : x_155.toInt = ((A 24) (4 * n_4 + i0)).toInt - x_154.toInt := by have h9 := s_sub (x := ((A 24) (4 * n_4 + i0))) (y := x_154) (by omega) (by omega); rw [ex_155]; exact h9
                refine lv_istore (lv' := [(6, .int x_155), (5, .int x_139), (4, .int x_16), (3, .int r_12), (2, .int ((A 13) n_4)), (0, .ref h0), (1, .int p0)]) hx hb dX10_push_154 hl (by decide) rfl (fun ls hl => ?_)
                refine W.jv (P := fun v_156 : Int32 => (0 ≤ v_156.toInt ∧ v_156.toInt ≤ 1) ∧ HID (((¬ x_16.toInt = 0) ∧ v_156 = 0) ∨ ((x_16.toInt = 0) ∧ v_156 = 1))) (f := fun v_156 => F0 m 166 ls ([.int v_156])) (fun v_156 hv_156 => ?_) (fun key_156 => ?_)
                · have hv_156_0 : 0 ≤ v_156.toInt ∧ v_156.toInt ≤ 1 := hv_156.1
                  refine lv_iload hx hb dX10_push_166 (lv_at hl 2 rfl) ?_
                  refine lv_aload_n hx hb dX10_push_168 rfl (lv_at hl 5 rfl) ?_
                  refine lv_iload_n hx hb dX10_push_169 rfl (lv_at hl 3 rfl) ?_
                  refine va_calli (rnV (fun H => MH E h0 rf t0 t1 t2 (uA A 15 u_146) 0 pk H) (As := [.int r_12]) (rest := [.int x_16, .int v_156]) ⟨hx, hb, hml, hown, hts⟩ (u_X10_numbersOf l E z0 G hGz h0 rf hR t0 t1 t2 (uA A 15 u_146) 0 pk r_12 hI6 (show 0 ≤ r_12.toInt ∧ r_12.toInt ≤ 15 from by first | decide | omega)) (cwV 1 hts (gdV ml_X10_178 im_X10_numbersOf se_X10_X10_numbersOf in_X10 co_X10_numbersOf rfl) rfl rfl rfl (by decide +kernel) ⟨Nat.le_of_ble_eq_true rfl, Nat.le_of_ble_eq_true rfl⟩) hM (fun U hU hW => hK.go hW hS hAz hU) (va_recv hK.1 (va_one hM.1) (ci := 10) (q0 := 0) rfl rfl) rfl rfl hl.1 rfl (lv_room (Nat.le_of_ble_eq_true rfl)) dX10_push_170 ⟨Nat.le_of_ble_eq_true rfl, Nat.le_of_ble_eq_true rfl⟩) hS (fun q _ h => h.elim) (fun q h => h.elim) (fun r_158 ur_158 t H locs ht hvm hwr_158 hB hz hk hS => ?_)
                  have hM := hM.kept (fun q hq => hk q hq (fun h => h))
                  have hDr_158 : D_X10_numbersOf (uA A 15 u_146) (0 : Int32) pk r_12 r_158 := hwr_158.2.2
                  have hpr_158_0 : 0 ≤ r_158.toInt ∧ r_158.toInt ≤ 3 := hwr_158.1
                  have hpr_158_1 : ∀ n : Nat, (n : Int) = r_12.toInt → r_158.toInt = NB (A 24) n := hwr_158.2.1
                  have iahpr_158_1 := hpr_158_1 (4 * n_4 + i0) (by omega)
                  refine W.jv (P := fun v_159 : Int32 => (0 ≤ v_159.toInt ∧ v_159.toInt ≤ 2) ∧ HID ((∃ x_160 : Int32, (x_160 = r_158 - 1) ∧ (x_160.toInt = r_158.toInt - 1) ∧ (¬ x_16.toInt = x_160.toInt) ∧ v_159 = 0) ∨ (∃ x_160 : Int32, (x_160 = r_158 - 1) ∧ (x_160.toInt = r_158.toInt - 1) ∧ (x_16.toInt = x_160.toInt) ∧ v_159 = 2))) (f := fun v_159 => F0 m 183 ls ([.int v_159, .int v_156])) (fun v_159 hv_159 => ?_) (fun key_159 => ?_)
                  · have hv_159_0 : 0 ≤ v_159.toInt ∧ v_159.toInt ≤ 2 := hv_159.1
                    refine lv_iadd hx hb dX10_push_183 ?_
                    refine lv_topi (fun x_162 ex_162 => ?_)
                    have fx_162 : x_162.toInt = v_156.toInt + v_159.toInt := by have h9 := s_add (x := v_156) (y := v_159) (by omega) (by omega); rw [ex_162]; exact h9
                    refine lv_istore (lv' := [(7, .int x_162), (6, .int x_155), (5, .int x_139), (4, .int x_16), (3, .int r_12), (2, .int ((A 13) n_4)), (0, .ref h0), (1, .int p0)]) hx hb dX10_push_184 hl (by decide) rfl (fun ls hl => ?_)
                    refine lv_aload_n hx hb dX10_push_186 rfl (lv_at hl 6 rfl) ?_
                    refine lv_iload_n hx hb dX10_push_187 rfl (lv_at hl 7 rfl) ?_
                    refine lv_aload_n hx hb dX10_push_188 rfl (lv_at hl 6 rfl) ?_
                    refine va_get (D := DG E) (ci := 10) (v := .ref (rf 22)) (C := RX10) (T := TX10) (N := 49) hx hb hts iw_X10 hown hK.1 (va_one hM.1) 0 rfl rfl 22 (by decide) (hts _ fl_X10_65) (fun _ h9 => h9) rfl dX10_push_189 ?_
                    refine lv_iload_n hx hb dX10_push_192 rfl (lv_at hl 4 rfl) ?_
                    have ha_163 : va_at (DG E) vwCl (rf 22, .inl (E.2.2 0, 16, .inl (A 22))) _ := hM.2 22 (by decide) (by decide) (by decide)
                    refine va_iald (D := DG E) hx hb hK.1 (va_one ha_163) 0 0 rfl rfl hi_14 dX10_push_193 ?_
                    refine W.eq (g2 := F0 m 194 ls [.int ((A 22) (4 * n_4 + i0)), .int p0, .ref h0]) (by rw [en_13]) ?_
                    refine lv_iload_n hx hb dX10_push_194 rfl (lv_at hl 5 rfl) ?_
                    refine lv_aload_n hx hb dX10_push_195 rfl (lv_at hl 6 rfl) ?_
                    refine va_get (D := DG E) (ci := 10) (v := .ref (rf 22)) (C := RX10) (T := TX10) (N := 49) hx hb hts iw_X10 hown hK.1 (va_one hM.1) 0 rfl rfl 22 (by decide) (hts _ fl_X10_65) (fun _ h9 => h9) rfl dX10_push_196 ?_
                    refine lv_iload_n hx hb dX10_push_199 rfl (lv_at hl 4 rfl) ?_
                    have ha_164 : va_at (DG E) vwCl (rf 22, .inl (E.2.2 0, 16, .inl (A 22))) _ := hM.2 22 (by decide) (by decide) (by decide)
                    refine va_iald (D := DG E) hx hb hK.1 (va_one ha_164) 0 0 rfl rfl hi_14 dX10_push_200 ?_
                    refine W.eq (g2 := F0 m 201 ls [.int ((A 22) (4 * n_4 + i0)), .int ((A 13) n_4), .int ((A 22) (4 * n_4 + i0)), .int p0, .ref h0]) (by rw [en_13]) ?_
                    refine lv_if_ne (tgt := 209) hx hb dX10_push_201 (by decide) (fun c_165 => ?_) (fun c_165 => by exfalso; simp only [lt_I, le_I, eq_I, i_0, i_1, i_2, i_3, i_4, i_5, i_6, i_7, i_8, i_10, i_12, i_16, i_20, i_23, i_24, i_31, i_32, i_63, i_64, i_m1, i_9, i_11, i_13, i_25, i_60, i_75, i_79, i_80, i_96, i_100] at c_165; omega)
                    simp only [lt_I, le_I, eq_I, i_0, i_1, i_2, i_3, i_4, i_5, i_6, i_7, i_8, i_10, i_12, i_16, i_20, i_23, i_24, i_31, i_32, i_63, i_64, i_m1, i_9, i_11, i_13, i_25, i_60, i_75, i_79, i_80, i_96, i_100] at c_165
                    refine lv_aload_n hx hb dX10_push_209 rfl (lv_at hl 6 rfl) ?_
                    refine va_get (D := DG E) (ci := 10) (v := .ref (rf 25)) (C := RX10) (T := TX10) (N := 49) hx hb hts iw_X10 hown hK.1 (va_one hM.1) 0 rfl rfl 25 (by decide) (hts _ fl_X10_74) (fun _ h9 => h9) rfl dX10_push_210 ?_
                    refine lv_iload_n hx hb dX10_push_213 rfl (lv_at hl 4 rfl) ?_
                    have ha_166 : va_at (DG E) vwCl (rf 25, .inl (E.2.2 0, 16, .inl (A 25))) _ := hM.2 25 (by decide) (by decide) (by decide)
                    refine va_iald (D := DG E) hx hb hK.1 (va_one ha_166) 0 0 rfl rfl hi_14 dX10_push_214 ?_
                    refine W.eq (g2 := F0 m 215 ls [.int ((A 25) (4 * n_4 + i0)), .int ((A 13) n_4), .int ((A 22) (4 * n_4 + i0)), .int p0, .ref h0]) (by rw [en_13]) ?_
                    refine lv_aload_n hx hb dX10_push_215 rfl (lv_at hl 6 rfl) ?_
                    refine va_get (D := DG E) (ci := 10) (v := .ref (rf 22)) (C := RX10) (T := TX10) (N := 49) hx hb hts iw_X10 hown hK.1 (va_one hM.1) 0 rfl rfl 22 (by decide) (hts _ fl_X10_65) (fun _ h9 => h9) rfl dX10_push_216 ?_
                    refine lv_iload_n hx hb dX10_push_219 rfl (lv_at hl 4 rfl) ?_
                    have ha_167 : va_at (DG E) vwCl (rf 22, .inl (E.2.2 0, 16, .inl (A 22))) _ := hM.2 22 (by decide) (by decide) (by decide)
                    refine va_iald (D := DG E) hx hb hK.1 (va_one ha_167) 0 0 rfl rfl hi_14 dX10_push_220 ?_
                    refine W.eq (g2 := F0 m 221 ls [.int ((A 22) (4 * n_4 + i0)), .int ((A 25) (4 * n_4 + i0)), .int ((A 13) n_4), .int ((A 22) (4 * n_4 + i0)), .int p0, .ref h0]) (by rw [en_13]) ?_
                    refine lv_if_ne (tgt := 228) hx hb dX10_push_221 (by decide) (fun c_168 => ?_) (fun c_168 => by exfalso; simp only [lt_I, le_I, eq_I, i_0, i_1, i_2, i_3, i_4, i_5, i_6, i_7, i_8, i_10, i_12, i_16, i_20, i_23, i_24, i_31, i_32, i_63, i_64, i_m1, i_9, i_11, i_13, i_25, i_60, i_75, i_79, i_80, i_96, i_100] at c_168; omega)
                    simp only [lt_I, le_I, eq_I, i_0, i_1, i_2, i_3, i_4, i_5, i_6, i_7, i_8, i_10, i_12, i_16, i_20, i_23, i_24, i_31, i_32, i_63, i_64, i_m1, i_9, i_11, i_13, i_25, i_60, i_75, i_79, i_80, i_96, i_100] at c_168
                    refine lv_aload_n hx hb dX10_push_228 rfl (lv_at hl 6 rfl) ?_
                    refine va_get (D := DG E) (ci := 10) (v := .ref (rf 26)) (C := RX10) (T := TX10) (N := 49) hx hb hts iw_X10 hown hK.1 (va_one hM.1) 0 rfl rfl 26 (by decide) (hts _ fl_X10_77) (fun _ h9 => h9) rfl dX10_push_229 ?_
                    refine lv_iload_n hx hb dX10_push_232 rfl (lv_at hl 4 rfl) ?_
                    have ha_169 : va_at (DG E) vwCl (rf 26, .inl (E.2.2 0, 16, .inl (A 26))) _ := hM.2 26 (by decide) (by decide) (by decide)
                    refine va_iald (D := DG E) hx hb hK.1 (va_one ha_169) 0 0 rfl rfl hi_14 dX10_push_233 ?_
                    refine W.eq (g2 := F0 m 234 ls [.int ((A 26) (4 * n_4 + i0)), .int ((A 25) (4 * n_4 + i0)), .int ((A 13) n_4), .int ((A 22) (4 * n_4 + i0)), .int p0, .ref h0]) (by rw [en_13]) ?_
                    have q_170 : -1 ≤ ((A 26) (4 * n_4 + i0)).toInt := (hI6 (4 * n_4 + i0) hk_18).2.2.2.2.2.2.2.1
                    have q_171 : ((A 26) (4 * n_4 + i0)).toInt ≤ 31 := (hI6 (4 * n_4 + i0) hk_18).2.2.2.2.2.2.2.2
                    refine lv_iconst (v := 4) hx hb dX10_push_234 (by decide) ?_
                    refine lv_iload hx hb dX10_push_235 (lv_at hl 3 rfl) ?_
                    refine lv_imul hx hb dX10_push_237 ?_
                    refine W.eq (g2 := F0 m 238 ls [.int x_154, .int ((A 26) (4 * n_4 + i0)), .int ((A 25) (4 * n_4 + i0)), .int ((A 13) n_4), .int ((A 22) (4 * n_4 + i0)), .int p0, .ref h0]) (by rw [ex_154]) ?_
                    refine lv_iadd hx hb dX10_push_238 ?_
                    refine lv_topi (fun x_172 ex_172 => ?_)
                    have fx_172 : x_172.toInt = ((A 26) (4 * n_4 + i0)).toInt + x_154.toInt := by have h9 := s_add (x := ((A 26) (4 * n_4 + i0))) (y := x_154) (by omega) (by omega); rw [ex_172]; exact h9
                    refine lv_aload_n hx hb dX10_push_239 rfl (lv_at hl 6 rfl) ?_
                    refine va_get (D := DG E) (ci := 10) (v := .ref (rf 27)) (C := RX10) (T := TX10) (N := 49) hx hb hts iw_X10 hown hK.1 (va_one hM.1) 0 rfl rfl 27 (by decide) (hts _ fl_X10_80) (fun _ h9 => h9) rfl dX10_push_240 ?_
                    refine lv_iload_n hx hb dX10_push_243 rfl (lv_at hl 4 rfl) ?_
                    have ha_173 : va_at (DG E) vwCl (rf 27, .inl (E.2.2 0, 16, .inl (A 27))) _ := hM.2 27 (by decide) (by decide) (by decide)
                    refine va_iald (D := DG E) hx hb hK.1 (va_one ha_173) 0 0 rfl rfl hi_14 dX10_push_244 ?_
                    refine W.eq (g2 := F0 m 245 ls [.int ((A 27) (4 * n_4 + i0)), .int x_172, .int ((A 25) (4 * n_4 + i0)), .int ((A 13) n_4), .int ((A 22) (4 * n_4 + i0)), .int p0, .ref h0]) (by rw [en_13]) ?_
                    refine va_calli (rnV (fun H => MH E h0 rf t0 t1 t2 (uA A 15 u_146) 0 pk H) (As := [.int p0, .int ((A 22) (4 * n_4 + i0)), .int ((A 13) n_4), .int ((A 25) (4 * n_4 + i0)), .int x_172, .int ((A 27) (4 * n_4 + i0))]) (rest := []) ⟨hx, hb, hml, hown, hts⟩ (u_X10_emit l E z0 G hGz h0 rf hR t0 t1 t2 (uA A 15 u_146) 0 pk p0 ((A 22) (4 * n_4 + i0)) ((A 13) n_4) ((A 25) (4 * n_4 + i0)) x_172 ((A 27) (4 * n_4 + i0)) hI7 (show 0 ≤ p0.toInt ∧ p0.toInt ≤ 3 from by first | decide | omega) (show 0 ≤ pk.toInt ∧ pk.toInt ≤ 24 from by first | decide | omega) (show -1 ≤ x_172.toInt ∧ x_172.toInt ≤ 60 from by first | decide | omega) (show 0 ≤ ((A 22) (4 * n_4 + i0)).toInt from by first | decide | omega) (show ((A 22) (4 * n_4 + i0)).toInt < 1 ∨ 3 < ((A 22) (4 * n_4 + i0)).toInt ∨ (0 ≤ ((A 25) (4 * n_4 + i0)).toInt ∧ ((A 25) (4 * n_4 + i0)).toInt ≤ 5) from by first | decide | omega)) (cwV 6 hts (gdV ml_X10_199 im_X10_emit se_X10_X10_emit in_X10 co_X10_emit rfl) rfl rfl rfl (by decide +kernel) ⟨Nat.le_of_ble_eq_true rfl, Nat.le_of_ble_eq_true rfl⟩) hM (fun U hU hW => hK.go hW hS hAz hU) (va_recv hK.1 (va_one hM.1) (ci := 10) (q0 := 0) rfl rfl) rfl rfl hl.1 rfl (lv_room (Nat.le_of_ble_eq_true rfl)) dX10_push_245 ⟨Nat.le_of_ble_eq_true rfl, Nat.le_of_ble_eq_true rfl⟩) hS (fun q _ h => h) (fun q h => h) (fun r_174 ur_174 t H locs ht hvm hwr_174 hB hz hk hS => ?_)
                    have hM : MH E h0 rf t0 t1 t2 (uA (uA (uA (uA (uA (uA (uA (uA A 15 u_146) 41 (ur_174.1)) 42 (ur_174.2.1)) 43 (ur_174.2.2.1)) 44 (ur_174.2.2.2.1)) 45 (ur_174.2.2.2.2.1)) 46 (ur_174.2.2.2.2.2.1)) 47 (ur_174.2.2.2.2.2.2.1)) 0 ur_174.2.2.2.2.2.2.2 H := by rw [ht] at hB; exact hB
                    have hDr_174 : D_X10_emit (uA A 15 u_146) (0 : Int32) pk p0 ((A 22) (4 * n_4 + i0)) ((A 13) n_4) ((A 25) (4 * n_4 + i0)) x_172 ((A 27) (4 * n_4 + i0)) (uA (uA (uA (uA (uA (uA (uA (uA A 15 u_146) 41 (ur_174.1)) 42 (ur_174.2.1)) 43 (ur_174.2.2.1)) 44 (ur_174.2.2.2.1)) 45 (ur_174.2.2.2.2.1)) 46 (ur_174.2.2.2.2.2.1)) 47 (ur_174.2.2.2.2.2.2.1)) (0 : Int32) (ur_174.2.2.2.2.2.2.2) r_174 := hwr_174.2.2.2.2.2
                    have hpr_174_0 : I7 (ur_174.1) (ur_174.2.1) (ur_174.2.2.2.1) (ur_174.2.2.2.2.1) (ur_174.2.2.2.2.2.1) := hwr_174.1
                    have hpr_174_1 : 0 ≤ ur_174.2.2.2.2.2.2.2.toInt ∧ ur_174.2.2.2.2.2.2.2.toInt ≤ 24 := hwr_174.2.1
                    have hpr_174_2 : -1 ≤ r_174.toInt ∧ r_174.toInt ≤ 23 := hwr_174.2.2.1
                    have hpr_174_3 : ∀ n : Nat, (n : Int) = r_174.toInt → (ur_174.2.1) n = ((A 22) (4 * n_4 + i0)) := hwr_174.2.2.2.1
                    have hpr_174_4 : ((ur_174.2.2.2.1) 24).toInt = ((A 44) 24).toInt ∧ ((ur_174.2.2.2.2.2.1) 24).toInt = ((A 46) 24).toInt := hwr_174.2.2.2.2.1
                    refine lv_istore (lv' := [(8, .int r_174), (7, .int x_162), (6, .int x_155), (5, .int x_139), (4, .int x_16), (3, .int r_12), (2, .int ((A 13) n_4)), (0, .ref h0), (1, .int p0)]) hx hb dX10_push_248 hl (by decide) rfl (fun ls hl => ?_)
                    refine lv_aload_n hx hb dX10_push_250 rfl (lv_at hl 7 rfl) ?_
                    refine va_get (D := DG E) (ci := 10) (v := .ref (rf 22)) (C := RX10) (T := TX10) (N := 49) hx hb hts iw_X10 hown hK.1 (va_one hM.1) 0 rfl rfl 22 (by decide) (hts _ fl_X10_65) (fun _ h9 => h9) rfl dX10_push_251 ?_
                    refine lv_iload_n hx hb dX10_push_254 rfl (lv_at hl 5 rfl) ?_
                    have ha_175 : va_at (DG E) vwCl (rf 22, .inl (E.2.2 0, 16, .inl (A 22))) _ := hM.2 22 (by decide) (by decide) (by decide)
                    refine va_iald (D := DG E) hx hb hK.1 (va_one ha_175) 0 0 rfl rfl hi_14 dX10_push_255 ?_
                    refine W.eq (g2 := F0 m 256 ls [.int ((A 22) (4 * n_4 + i0))]) (by rw [en_13]) ?_
                    refine lv_iconst (v := 2) hx hb dX10_push_256 (by decide) ?_
                    refine lv_icmp_ge (tgt := 290) hx hb dX10_push_257 (by decide) (fun c_176 => ?_) (fun c_176 => by exfalso; simp only [lt_I, le_I, eq_I, i_0, i_1, i_2, i_3, i_4, i_5, i_6, i_7, i_8, i_10, i_12, i_16, i_20, i_23, i_24, i_31, i_32, i_63, i_64, i_m1, i_9, i_11, i_13, i_25, i_60, i_75, i_79, i_80, i_96, i_100] at c_176; omega)
                    simp only [lt_I, le_I, eq_I, i_0, i_1, i_2, i_3, i_4, i_5, i_6, i_7, i_8, i_10, i_12, i_16, i_20, i_23, i_24, i_31, i_32, i_63, i_64, i_m1, i_9, i_11, i_13, i_25, i_60, i_75, i_79, i_80, i_96, i_100] at c_176
                    refine lv_aload_n hx hb dX10_push_290 rfl (lv_at hl 7 rfl) ?_
                    refine va_get (D := DG E) (ci := 10) (v := .ref (rf 22)) (C := RX10) (T := TX10) (N := 49) hx hb hts iw_X10 hown hK.1 (va_one hM.1) 0 rfl rfl 22 (by decide) (hts _ fl_X10_65) (fun _ h9 => h9) rfl dX10_push_291 ?_
                    refine lv_iload_n hx hb dX10_push_294 rfl (lv_at hl 5 rfl) ?_
                    have ha_177 : va_at (DG E) vwCl (rf 22, .inl (E.2.2 0, 16, .inl (A 22))) _ := hM.2 22 (by decide) (by decide) (by decide)
                    refine va_iald (D := DG E) hx hb hK.1 (va_one ha_177) 0 0 rfl rfl hi_14 dX10_push_295 ?_
                    refine W.eq (g2 := F0 m 296 ls [.int ((A 22) (4 * n_4 + i0))]) (by rw [en_13]) ?_
                    refine lv_iconst (v := 2) hx hb dX10_push_296 (by decide) ?_
                    refine lv_icmp_ne (tgt := 314) hx hb dX10_push_297 (by decide) (fun c_178 => ?_) (fun c_178 => ?_)
                    · simp only [lt_I, le_I, eq_I, i_0, i_1, i_2, i_3, i_4, i_5, i_6, i_7, i_8, i_10, i_12, i_16, i_20, i_23, i_24, i_31, i_32, i_63, i_64, i_m1, i_9, i_11, i_13, i_25, i_60, i_75, i_79, i_80, i_96, i_100] at c_178
                      refine lv_aload_n hx hb dX10_push_314 rfl (lv_at hl 7 rfl) ?_
                      refine va_get (D := DG E) (ci := 10) (v := .ref (rf 13)) (C := RX10) (T := TX10) (N := 49) hx hb hts iw_X10 hown hK.1 (va_one hM.1) 0 rfl rfl 13 (by decide) (hts _ fl_X10_37) (fun _ h9 => h9) rfl dX10_push_315 ?_
                      refine lv_iload_n hx hb dX10_push_318 rfl (lv_at hl 8 rfl) ?_
                      refine lv_iload_n hx hb dX10_push_319 rfl (lv_at hl 6 rfl) ?_
                      refine lv_iload hx hb dX10_push_320 (lv_at hl 3 rfl) ?_
                      refine lv_iadd hx hb dX10_push_322 ?_
                      refine W.eq (g2 := F0 m 323 ls [.int x_141, .int p0, .ref (rf 13)]) (by rw [ex_141]) ?_
                      refine lv_bipush (v := 64) hx hb dX10_push_323 (by decide) ?_
                      refine lv_irem hx hb dX10_push_325 (by decide) ?_
                      refine lv_topi (fun x_179 ex_179 => ?_)
                      have fx_179 : x_179.toInt = x_141.toInt % 64 := by have h9 := s_rem (x := x_141) 64 (by decide) (by decide) (by omega); rw [ex_179]; exact h9
                      have ha_180 : va_at (DG E) vwCl (rf 13, .inl (E.2.2 0, 4, .inl (A 13))) _ := hM.2 13 (by decide) (by decide) (by decide)
                      refine rr_iast (D := DG E) hx hb hK.1 0 ha_180 hS (by show G (rf 13) ≠ 0; rw [hR.2 13 (by decide) (by decide) (by decide)]; decide) rfl hi_2 dX10_push_326 (fun H locs hn ho hz hS => ?_)
                      rw [en_4] at hn
                      obtain ⟨g_180, eg_180⟩ : ∃ z : Nat → Int32, z = upd (A 13) n_4 x_179 := ⟨_, rfl⟩
                      have sg_180 : g_180 n_4 = x_179 := by rw [eg_180]; exact upd_s
                      have ng_180 : ∀ k, k ≠ n_4 → g_180 k = (A 13) k := fun k hk => by rw [eg_180]; exact upd_n hk
                      have hn : va_at (DG E) vwCl (rf 13, .inl (E.2.2 0, 4, .inl g_180)) H := by rw [eg_180]; exact hn
                      have hM : MH E h0 rf t0 t1 t2 (uA (uA (uA (uA (uA (uA (uA (uA (uA A 15 u_146) 41 (ur_174.1)) 42 (ur_174.2.1)) 43 (ur_174.2.2.1)) 44 (ur_174.2.2.2.1)) 45 (ur_174.2.2.2.2.1)) 46 (ur_174.2.2.2.2.2.1)) 47 (ur_174.2.2.2.2.2.2.1)) 13 g_180) 0 ur_174.2.2.2.2.2.2.2 H := hM.w hR 13 (by decide) (by decide) (by decide) hn ho
                      refine lv_iload_n hx hb dX10_push_327 rfl (lv_at hl 6 rfl) ?_
                      have hI4_181 : I4 (A 10) (A 20) (A 29) (A 24) (A 11) (A 12) g_180 := by
                        intro k hk
                        by_cases e : k = n_4
                        · rw [e]
                          exact ⟨fun _ => hPn _ (by rw [sg_180]; omega), Or.inl hst0⟩
                        · exact (hI4 k hk).cg rfl rfl (fun _ _ => rfl) (fun _ _ => rfl) rfl rfl (ng_180 k e)
                      exact W.iret (v := ((A 13) n_4)) hx hb hr (fun t ht hW => ⟨⟨((A 13) n_4), ((ur_174.1), (ur_174.2.1), (ur_174.2.2.1), (ur_174.2.2.2.1), (ur_174.2.2.2.2.1), (ur_174.2.2.2.2.2.1), (ur_174.2.2.2.2.2.2.1), (A 48), g_180, u_146, ur_174.2.2.2.2.2.2.2, 0), rfl, ⟨hI4_181, hpr_174_0, (by show 0 ≤ ur_174.2.2.2.2.2.2.2.toInt ∧ ur_174.2.2.2.2.2.2.2.toInt ≤ 24; omega), (Or.inl ⟨c_1r, n_4, hn_4, (Or.inr ⟨c_5, (Or.inr ⟨c_8, (Or.inl ⟨c_10, r_12, hpr_12_0, hpr_12_1, i0, hi4, hn_13, x_16, ex_16, (Or.inr ⟨c_22, r_138, hDr_138, hpr_138_0, hpr_138_1, x_139, ex_139, fx_139, x_141, ex_141, fx_141, x_142, ex_142, fx_142, x_143, ex_143, fx_143, x_144, ex_144, fx_144, (Or.inl ⟨c_145, u_146, hJ_146, x_154, ex_154, fx_154, x_155, ex_155, fx_155, v_156, hv_156.2, r_158, hDr_158, hpr_158_0, hpr_158_1, v_159, hv_159.2, x_162, ex_162, fx_162, x_172, ex_172, fx_172, ur_174, r_174, hDr_174, hpr_174_0, hpr_174_1, hpr_174_2, hpr_174_3, hpr_174_4, (Or.inl ⟨c_178, x_179, ex_179, fx_179, g_180, eg_180, rfl, rfl, rfl, rfl⟩)⟩)⟩)⟩)⟩)⟩)⟩)⟩, (by show MH E h0 rf t0 t1 t2 (uA (uA (uA (uA (uA (uA (uA (uA (uA (uA A 41 (ur_174.1)) 42 (ur_174.2.1)) 43 (ur_174.2.2.1)) 44 (ur_174.2.2.2.1)) 45 (ur_174.2.2.2.2.1)) 46 (ur_174.2.2.2.2.2.1)) 47 (ur_174.2.2.2.2.2.2.1)) 48 (A 48)) 13 g_180) 15 u_146) 0 ur_174.2.2.2.2.2.2.2 t.heap; rw [ht]; exact hM.cg9 rfl rfl rfl rfl rfl rfl rfl rfl rfl rfl rfl rfl rfl rfl rfl rfl rfl rfl rfl rfl rfl rfl rfl rfl rfl rfl rfl rfl rfl rfl rfl rfl rfl rfl rfl rfl rfl rfl rfl rfl rfl rfl rfl rfl)⟩, hS.F ht⟩) hS.2.2 dX10_push_328
                    · simp only [lt_I, le_I, eq_I, i_0, i_1, i_2, i_3, i_4, i_5, i_6, i_7, i_8, i_10, i_12, i_16, i_20, i_23, i_24, i_31, i_32, i_63, i_64, i_m1, i_9, i_11, i_13, i_25, i_60, i_75, i_79, i_80, i_96, i_100] at c_178
                      refine lv_iload hx hb dX10_push_300 (lv_at hl 0 rfl) ?_
                      refine lv_if_lt (tgt := 314) hx hb dX10_push_302 (by decide) (fun c_182 => ?_) (fun c_182 => ?_)
                      · simp only [lt_I, le_I, eq_I, i_0, i_1, i_2, i_3, i_4, i_5, i_6, i_7, i_8, i_10, i_12, i_16, i_20, i_23, i_24, i_31, i_32, i_63, i_64, i_m1, i_9, i_11, i_13, i_25, i_60, i_75, i_79, i_80, i_96, i_100] at c_182
                        refine lv_aload_n hx hb dX10_push_314 rfl (lv_at hl 7 rfl) ?_
                        refine va_get (D := DG E) (ci := 10) (v := .ref (rf 13)) (C := RX10) (T := TX10) (N := 49) hx hb hts iw_X10 hown hK.1 (va_one hM.1) 0 rfl rfl 13 (by decide) (hts _ fl_X10_37) (fun _ h9 => h9) rfl dX10_push_315 ?_
                        refine lv_iload_n hx hb dX10_push_318 rfl (lv_at hl 8 rfl) ?_
                        refine lv_iload_n hx hb dX10_push_319 rfl (lv_at hl 6 rfl) ?_
                        refine lv_iload hx hb dX10_push_320 (lv_at hl 3 rfl) ?_
                        refine lv_iadd hx hb dX10_push_322 ?_
                        refine W.eq (g2 := F0 m 323 ls [.int x_141, .int p0, .ref (rf 13)]) (by rw [ex_141]) ?_
                        refine lv_bipush (v := 64) hx hb dX10_push_323 (by decide) ?_
                        refine lv_irem hx hb dX10_push_325 (by decide) ?_
                        refine lv_topi (fun x_183 ex_183 => ?_)
                        have fx_183 : x_183.toInt = x_141.toInt % 64 := by have h9 := s_rem (x := x_141) 64 (by decide) (by decide) (by omega); rw [ex_183]; exact h9
                        have ha_184 : va_at (DG E) vwCl (rf 13, .inl (E.2.2 0, 4, .inl (A 13))) _ := hM.2 13 (by decide) (by decide) (by decide)
                        refine rr_iast (D := DG E) hx hb hK.1 0 ha_184 hS (by show G (rf 13) ≠ 0; rw [hR.2 13 (by decide) (by decide) (by decide)]; decide) rfl hi_2 dX10_push_326 (fun H locs hn ho hz hS => ?_)
                        rw [en_4] at hn
                        obtain ⟨g_184, eg_184⟩ : ∃ z : Nat → Int32, z = upd (A 13) n_4 x_183 := ⟨_, rfl⟩
                        have sg_184 : g_184 n_4 = x_183 := by rw [eg_184]; exact upd_s
                        have ng_184 : ∀ k, k ≠ n_4 → g_184 k = (A 13) k := fun k hk => by rw [eg_184]; exact upd_n hk
                        have hn : va_at (DG E) vwCl (rf 13, .inl (E.2.2 0, 4, .inl g_184)) H := by rw [eg_184]; exact hn
                        have hM : MH E h0 rf t0 t1 t2 (uA (uA (uA (uA (uA (uA (uA (uA (uA A 15 u_146) 41 (ur_174.1)) 42 (ur_174.2.1)) 43 (ur_174.2.2.1)) 44 (ur_174.2.2.2.1)) 45 (ur_174.2.2.2.2.1)) 46 (ur_174.2.2.2.2.2.1)) 47 (ur_174.2.2.2.2.2.2.1)) 13 g_184) 0 ur_174.2.2.2.2.2.2.2 H := hM.w hR 13 (by decide) (by decide) (by decide) hn ho
                        refine lv_iload_n hx hb dX10_push_327 rfl (lv_at hl 6 rfl) ?_
                        have hI4_185 : I4 (A 10) (A 20) (A 29) (A 24) (A 11) (A 12) g_184 := by
                          intro k hk
                          by_cases e : k = n_4
                          · rw [e]
                            exact ⟨fun _ => hPn _ (by rw [sg_184]; omega), Or.inl hst0⟩
                          · exact (hI4 k hk).cg rfl rfl (fun _ _ => rfl) (fun _ _ => rfl) rfl rfl (ng_184 k e)
                        exact W.iret (v := ((A 13) n_4)) hx hb hr (fun t ht hW => ⟨⟨((A 13) n_4), ((ur_174.1), (ur_174.2.1), (ur_174.2.2.1), (ur_174.2.2.2.1), (ur_174.2.2.2.2.1), (ur_174.2.2.2.2.2.1), (ur_174.2.2.2.2.2.2.1), (A 48), g_184, u_146, ur_174.2.2.2.2.2.2.2, 0), rfl, ⟨hI4_185, hpr_174_0, (by show 0 ≤ ur_174.2.2.2.2.2.2.2.toInt ∧ ur_174.2.2.2.2.2.2.2.toInt ≤ 24; omega), (Or.inl ⟨c_1r, n_4, hn_4, (Or.inr ⟨c_5, (Or.inr ⟨c_8, (Or.inl ⟨c_10, r_12, hpr_12_0, hpr_12_1, i0, hi4, hn_13, x_16, ex_16, (Or.inr ⟨c_22, r_138, hDr_138, hpr_138_0, hpr_138_1, x_139, ex_139, fx_139, x_141, ex_141, fx_141, x_142, ex_142, fx_142, x_143, ex_143, fx_143, x_144, ex_144, fx_144, (Or.inl ⟨c_145, u_146, hJ_146, x_154, ex_154, fx_154, x_155, ex_155, fx_155, v_156, hv_156.2, r_158, hDr_158, hpr_158_0, hpr_158_1, v_159, hv_159.2, x_162, ex_162, fx_162, x_172, ex_172, fx_172, ur_174, r_174, hDr_174, hpr_174_0, hpr_174_1, hpr_174_2, hpr_174_3, hpr_174_4, (Or.inr ⟨c_178, (Or.inl ⟨c_182, x_183, ex_183, fx_183, g_184, eg_184, rfl, rfl, rfl, rfl⟩)⟩)⟩)⟩)⟩)⟩)⟩)⟩)⟩, (by show MH E h0 rf t0 t1 t2 (uA (uA (uA (uA (uA (uA (uA (uA (uA (uA A 41 (ur_174.1)) 42 (ur_174.2.1)) 43 (ur_174.2.2.1)) 44 (ur_174.2.2.2.1)) 45 (ur_174.2.2.2.2.1)) 46 (ur_174.2.2.2.2.2.1)) 47 (ur_174.2.2.2.2.2.2.1)) 48 (A 48)) 13 g_184) 15 u_146) 0 ur_174.2.2.2.2.2.2.2 t.heap; rw [ht]; exact hM.cg9 rfl rfl rfl rfl rfl rfl rfl rfl rfl rfl rfl rfl rfl rfl rfl rfl rfl rfl rfl rfl rfl rfl rfl rfl rfl rfl rfl rfl rfl rfl rfl rfl rfl rfl rfl rfl rfl rfl rfl rfl rfl rfl rfl rfl)⟩, hS.F ht⟩) hS.2.2 dX10_push_328
                      · simp only [lt_I, le_I, eq_I, i_0, i_1, i_2, i_3, i_4, i_5, i_6, i_7, i_8, i_10, i_12, i_16, i_20, i_23, i_24, i_31, i_32, i_63, i_64, i_m1, i_9, i_11, i_13, i_25, i_60, i_75, i_79, i_80, i_96, i_100] at c_182
                        obtain ⟨n_186, hn_186, en_186⟩ := s_nat (x := r_174) (by omega)
                        have hkd : ((ur_174.2.1) n_186).toInt = ((A 22) (4 * n_4 + i0)).toInt := by rw [hpr_174_3 n_186 (by omega)]
                        refine lv_aload_n hx hb dX10_push_305 rfl (lv_at hl 7 rfl) ?_
                        refine va_get (D := DG E) (ci := 10) (v := .ref (rf 44)) (C := RX10) (T := TX10) (N := 49) hx hb hts iw_X10 hown hK.1 (va_one hM.1) 0 rfl rfl 44 (by decide) (hts _ fl_X10_128) (fun _ h9 => h9) rfl dX10_push_306 ?_
                        refine lv_iload hx hb dX10_push_309 (lv_at hl 0 rfl) ?_
                        refine lv_iload hx hb dX10_push_311 (lv_at hl 2 rfl) ?_
                        have hi_187 : vp_in r_174 25 := vp_in_iff.mpr (by omega)
                        have ha_188 : va_at (DG E) vwCl (rf 44, .inl (E.2.2 0, 25, .inl (ur_174.2.2.2.1))) _ := hM.2 44 (by decide) (by decide) (by decide)
                        refine rr_iast (D := DG E) hx hb hK.1 0 ha_188 hS (by show G (rf 44) ≠ 0; rw [hR.2 44 (by decide) (by decide) (by decide)]; decide) rfl hi_187 dX10_push_313 (fun H locs hn ho hz hS => ?_)
                        rw [en_186] at hn
                        obtain ⟨g_188, eg_188⟩ : ∃ z : Nat → Int32, z = upd (ur_174.2.2.2.1) n_186 x_155 := ⟨_, rfl⟩
                        have sg_188 : g_188 n_186 = x_155 := by rw [eg_188]; exact upd_s
                        have ng_188 : ∀ k, k ≠ n_186 → g_188 k = (ur_174.2.2.2.1) k := fun k hk => by rw [eg_188]; exact upd_n hk
                        have hn : va_at (DG E) vwCl (rf 44, .inl (E.2.2 0, 25, .inl g_188)) H := by rw [eg_188]; exact hn
                        have hM : MH E h0 rf t0 t1 t2 (uA (uA (uA (uA (uA (uA (uA (uA (uA A 15 u_146) 41 (ur_174.1)) 42 (ur_174.2.1)) 43 (ur_174.2.2.1)) 44 (ur_174.2.2.2.1)) 45 (ur_174.2.2.2.2.1)) 46 (ur_174.2.2.2.2.2.1)) 47 (ur_174.2.2.2.2.2.2.1)) 44 g_188) 0 ur_174.2.2.2.2.2.2.2 H := hM.w hR 44 (by decide) (by decide) (by decide) hn ho
                        refine lv_aload_n hx hb dX10_push_314 rfl (lv_at hl 7 rfl) ?_
                        refine va_get (D := DG E) (ci := 10) (v := .ref (rf 13)) (C := RX10) (T := TX10) (N := 49) hx hb hts iw_X10 hown hK.1 (va_one hM.1) 0 rfl rfl 13 (by decide) (hts _ fl_X10_37) (fun _ h9 => h9) rfl dX10_push_315 ?_
                        refine lv_iload_n hx hb dX10_push_318 rfl (lv_at hl 8 rfl) ?_
                        refine lv_iload_n hx hb dX10_push_319 rfl (lv_at hl 6 rfl) ?_
                        refine lv_iload hx hb dX10_push_320 (lv_at hl 3 rfl) ?_
                        refine lv_iadd hx hb dX10_push_322 ?_
                        refine W.eq (g2 := F0 m 323 ls [.int x_141, .int p0, .ref (rf 13)]) (by rw [ex_141]) ?_
                        refine lv_bipush (v := 64) hx hb dX10_push_323 (by decide) ?_
                        refine lv_irem hx hb dX10_push_325 (by decide) ?_
                        refine lv_topi (fun x_189 ex_189 => ?_)
                        have fx_189 : x_189.toInt = x_141.toInt % 64 := by have h9 := s_rem (x := x_141) 64 (by decide) (by decide) (by omega); rw [ex_189]; exact h9
                        have ha_190 : va_at (DG E) vwCl (rf 13, .inl (E.2.2 0, 4, .inl (A 13))) _ := hM.2 13 (by decide) (by decide) (by decide)
                        refine rr_iast (D := DG E) hx hb hK.1 0 ha_190 hS (by show G (rf 13) ≠ 0; rw [hR.2 13 (by decide) (by decide) (by decide)]; decide) rfl hi_2 dX10_push_326 (fun H locs hn ho hz hS => ?_)
                        rw [en_4] at hn
                        obtain ⟨g_190, eg_190⟩ : ∃ z : Nat → Int32, z = upd (A 13) n_4 x_189 := ⟨_, rfl⟩
                        have sg_190 : g_190 n_4 = x_189 := by rw [eg_190]; exact upd_s
                        have ng_190 : ∀ k, k ≠ n_4 → g_190 k = (A 13) k := fun k hk => by rw [eg_190]; exact upd_n hk
                        have hn : va_at (DG E) vwCl (rf 13, .inl (E.2.2 0, 4, .inl g_190)) H := by rw [eg_190]; exact hn
                        have hM : MH E h0 rf t0 t1 t2 (uA (uA (uA (uA (uA (uA (uA (uA (uA (uA A 15 u_146) 41 (ur_174.1)) 42 (ur_174.2.1)) 43 (ur_174.2.2.1)) 44 (ur_174.2.2.2.1)) 45 (ur_174.2.2.2.2.1)) 46 (ur_174.2.2.2.2.2.1)) 47 (ur_174.2.2.2.2.2.2.1)) 44 g_188) 13 g_190) 0 ur_174.2.2.2.2.2.2.2 H := hM.w hR 13 (by decide) (by decide) (by decide) hn ho
                        refine lv_iload_n hx hb dX10_push_327 rfl (lv_at hl 6 rfl) ?_
                        have hI4_191 : I4 (A 10) (A 20) (A 29) (A 24) (A 11) (A 12) g_190 := by
                          intro k hk
                          by_cases e : k = n_4
                          · rw [e]
                            exact ⟨fun _ => hPn _ (by rw [sg_190]; omega), Or.inl hst0⟩
                          · exact (hI4 k hk).cg rfl rfl (fun _ _ => rfl) (fun _ _ => rfl) rfl rfl (ng_190 k e)
                        have hI7_192 : I7 (ur_174.1) (ur_174.2.1) g_188 (ur_174.2.2.2.2.1) (ur_174.2.2.2.2.2.1) := by
                          intro n9 hn9
                          have h9 : 0 ≤ ((ur_174.1) n9).toInt ∧ ((ur_174.1) n9).toInt ≤ 3 ∧ 0 ≤ ((ur_174.2.2.2.1) n9).toInt ∧ ((ur_174.2.2.2.1) n9).toInt ≤ 12 ∧ (((ur_174.2.1) n9).toInt ≠ 0 ∧ ((ur_174.2.1) n9).toInt ≠ 1 ∧ ((ur_174.2.1) n9).toInt ≠ 4 ∨ ((ur_174.2.2.2.1) n9).toInt ≤ 4) ∧ (((ur_174.2.1) n9).toInt < 1 ∨ 3 < ((ur_174.2.1) n9).toInt ∨ (0 ≤ ((ur_174.2.2.2.2.1) n9).toInt ∧ ((ur_174.2.2.2.2.1) n9).toInt ≤ 5)) ∧ -1 ≤ ((ur_174.2.2.2.2.2.1) n9).toInt ∧ ((ur_174.2.2.2.2.2.1) n9).toInt ≤ 60 ∧ 0 ≤ ((ur_174.2.1) n9).toInt := hpr_174_0 n9 hn9
                          show 0 ≤ ((ur_174.1) n9).toInt ∧ ((ur_174.1) n9).toInt ≤ 3 ∧ 0 ≤ (g_188 n9).toInt ∧ (g_188 n9).toInt ≤ 12 ∧ (((ur_174.2.1) n9).toInt ≠ 0 ∧ ((ur_174.2.1) n9).toInt ≠ 1 ∧ ((ur_174.2.1) n9).toInt ≠ 4 ∨ (g_188 n9).toInt ≤ 4) ∧ (((ur_174.2.1) n9).toInt < 1 ∨ 3 < ((ur_174.2.1) n9).toInt ∨ (0 ≤ ((ur_174.2.2.2.2.1) n9).toInt ∧ ((ur_174.2.2.2.2.1) n9).toInt ≤ 5)) ∧ -1 ≤ ((ur_174.2.2.2.2.2.1) n9).toInt ∧ ((ur_174.2.2.2.2.2.1) n9).toInt ≤ 60 ∧ 0 ≤ ((ur_174.2.1) n9).toInt
                          by_cases ezn_186 : n9 = n_186
                          · rw [ezn_186] at h9 ⊢
                            rw [sg_188]
                            exact ⟨by first | exact h9.1 | omega, by first | exact h9.2.1 | omega, by first | exact h9.2.2.1 | omega, by first | exact h9.2.2.2.1 | omega, by first | exact h9.2.2.2.2.1 | omega, by first | exact h9.2.2.2.2.2.1 | omega, by first | exact h9.2.2.2.2.2.2.1 | omega, by first | exact h9.2.2.2.2.2.2.2.1 | omega, by first | exact h9.2.2.2.2.2.2.2.2 | omega⟩
                          · rw [ng_188 n9 ezn_186]
                            exact h9
                        exact W.iret (v := ((A 13) n_4)) hx hb hr (fun t ht hW => ⟨⟨((A 13) n_4), ((ur_174.1), (ur_174.2.1), (ur_174.2.2.1), g_188, (ur_174.2.2.2.2.1), (ur_174.2.2.2.2.2.1), (ur_174.2.2.2.2.2.2.1), (A 48), g_190, u_146, ur_174.2.2.2.2.2.2.2, 0), rfl, ⟨hI4_191, hI7_192, (by show 0 ≤ ur_174.2.2.2.2.2.2.2.toInt ∧ ur_174.2.2.2.2.2.2.2.toInt ≤ 24; omega), (Or.inl ⟨c_1r, n_4, hn_4, (Or.inr ⟨c_5, (Or.inr ⟨c_8, (Or.inl ⟨c_10, r_12, hpr_12_0, hpr_12_1, i0, hi4, hn_13, x_16, ex_16, (Or.inr ⟨c_22, r_138, hDr_138, hpr_138_0, hpr_138_1, x_139, ex_139, fx_139, x_141, ex_141, fx_141, x_142, ex_142, fx_142, x_143, ex_143, fx_143, x_144, ex_144, fx_144, (Or.inl ⟨c_145, u_146, hJ_146, x_154, ex_154, fx_154, x_155, ex_155, fx_155, v_156, hv_156.2, r_158, hDr_158, hpr_158_0, hpr_158_1, v_159, hv_159.2, x_162, ex_162, fx_162, x_172, ex_172, fx_172, ur_174, r_174, hDr_174, hpr_174_0, hpr_174_1, hpr_174_2, hpr_174_3, hpr_174_4, (Or.inr ⟨c_178, (Or.inr ⟨c_182, n_186, hn_186, g_188, eg_188, x_189, ex_189, fx_189, g_190, eg_190, rfl, rfl, rfl, rfl⟩)⟩)⟩)⟩)⟩)⟩)⟩)⟩)⟩, (by show MH E h0 rf t0 t1 t2 (uA (uA (uA (uA (uA (uA (uA (uA (uA (uA A 41 (ur_174.1)) 42 (ur_174.2.1)) 43 (ur_174.2.2.1)) 44 g_188) 45 (ur_174.2.2.2.2.1)) 46 (ur_174.2.2.2.2.2.1)) 47 (ur_174.2.2.2.2.2.2.1)) 48 (A 48)) 13 g_190) 15 u_146) 0 ur_174.2.2.2.2.2.2.2 t.heap; rw [ht]; exact hM.cg9 rfl rfl rfl rfl rfl rfl rfl rfl rfl rfl rfl rfl rfl rfl rfl rfl rfl rfl rfl rfl rfl rfl rfl rfl rfl rfl rfl rfl rfl rfl rfl rfl rfl rfl rfl rfl rfl rfl rfl rfl rfl rfl rfl rfl)⟩, hS.F ht⟩) hS.2.2 dX10_push_328
                  · refine lv_iconst (v := 1) hx hb dX10_push_173 (by decide) ?_
                    refine lv_isub hx hb dX10_push_174 ?_
                    refine lv_topi (fun x_160 ex_160 => ?_)
                    have fx_160 : x_160.toInt = r_158.toInt - 1 := by have h9 := s_sub (x := r_158) (y := 1) (by rw [i_1]; omega) (by rw [i_1]; omega); rw [i_1] at h9; rw [ex_160]; exact h9
                    refine lv_icmp_ne (tgt := 182) hx hb dX10_push_175 (by decide) (fun c_161 => ?_) (fun c_161 => ?_)
                    · simp only [lt_I, le_I, eq_I, i_0, i_1, i_2, i_3, i_4, i_5, i_6, i_7, i_8, i_10, i_12, i_16, i_20, i_23, i_24, i_31, i_32, i_63, i_64, i_m1, i_9, i_11, i_13, i_25, i_60, i_75, i_79, i_80, i_96, i_100] at c_161
                      refine lv_iconst (v := 0) hx hb dX10_push_182 (by decide) ?_
                      exact key_159 0 ⟨(by first | decide | omega), (Or.inl ⟨x_160, ex_160, fx_160, c_161, rfl⟩)⟩
                    · simp only [lt_I, le_I, eq_I, i_0, i_1, i_2, i_3, i_4, i_5, i_6, i_7, i_8, i_10, i_12, i_16, i_20, i_23, i_24, i_31, i_32, i_63, i_64, i_m1, i_9, i_11, i_13, i_25, i_60, i_75, i_79, i_80, i_96, i_100] at c_161
                      refine lv_iconst (v := 2) hx hb dX10_push_178 (by decide) ?_
                      refine lv_goto (tgt := 183) hx hb dX10_push_179 (by decide) ?_
                      exact key_159 2 ⟨(by first | decide | omega), (Or.inr ⟨x_160, ex_160, fx_160, c_161, rfl⟩)⟩
                · refine lv_iload hx hb dX10_push_156 (lv_at hl 2 rfl) ?_
                  refine lv_if_ne (tgt := 165) hx hb dX10_push_158 (by decide) (fun c_157 => ?_) (fun c_157 => ?_)
                  · simp only [lt_I, le_I, eq_I, i_0, i_1, i_2, i_3, i_4, i_5, i_6, i_7, i_8, i_10, i_12, i_16, i_20, i_23, i_24, i_31, i_32, i_63, i_64, i_m1, i_9, i_11, i_13, i_25, i_60, i_75, i_79, i_80, i_96, i_100] at c_157
                    refine lv_iconst (v := 0) hx hb dX10_push_165 (by decide) ?_
                    exact key_156 0 ⟨(by first | decide | omega), (Or.inl ⟨c_157, rfl⟩)⟩
                  · simp only [lt_I, le_I, eq_I, i_0, i_1, i_2, i_3, i_4, i_5, i_6, i_7, i_8, i_10, i_12, i_16, i_20, i_23, i_24, i_31, i_32, i_63, i_64, i_m1, i_9, i_11, i_13, i_25, i_60, i_75, i_79, i_80, i_96, i_100] at c_157
                    refine lv_iconst (v := 1) hx hb dX10_push_161 (by decide) ?_
                    refine lv_goto (tgt := 166) hx hb dX10_push_162 (by decide) ?_
                    exact key_156 1 ⟨(by first | decide | omega), (Or.inr ⟨c_157, rfl⟩)⟩
              · refine lv_iload_n hx hb dX10_push_126 rfl (lv_at hl 3 rfl) ?_
                refine lv_aload_n hx hb dX10_push_127 rfl (lv_at hl 4 rfl) ?_
                refine va_get (D := DG E) (ci := 10) (v := .ref (rf 12)) (C := RX10) (T := TX10) (N := 49) hx hb hts iw_X10 hown hK.1 (va_one hM.1) 0 rfl rfl 12 (by decide) (hts _ fl_X10_34) (fun _ h9 => h9) rfl dX10_push_128 ?_
                refine lv_iload_n hx hb dX10_push_131 rfl (lv_at hl 5 rfl) ?_
                have ha_147 : va_at (DG E) vwCl (rf 12, .inl (E.2.2 0, 4, .inl (A 12))) _ := hM.2 12 (by decide) (by decide) (by decide)
                refine va_iald (D := DG E) hx hb hK.1 (va_one ha_147) 0 0 rfl rfl hi_2 dX10_push_132 ?_
                refine W.eq (g2 := F0 m 133 ls [.int ((A 12) n_4), .int ((A 13) n_4)]) (by rw [en_4]) ?_
                refine lv_icmp_ne (tgt := 143) hx hb dX10_push_133 (by decide) (fun c_148 => ?_) (fun c_148 => ?_)
                · simp only [lt_I, le_I, eq_I, i_0, i_1, i_2, i_3, i_4, i_5, i_6, i_7, i_8, i_10, i_12, i_16, i_20, i_23, i_24, i_31, i_32, i_63, i_64, i_m1, i_9, i_11, i_13, i_25, i_60, i_75, i_79, i_80, i_96, i_100] at c_148
                  exact key_146 ((A 15)) _ _ ⟨(by show MH E h0 rf t0 t1 t2 (uA A 15 (A 15)) 0 pk _; exact hM.cg9 rfl rfl rfl rfl rfl rfl rfl rfl rfl rfl rfl rfl rfl rfl rfl rfl rfl rfl rfl rfl rfl rfl rfl rfl rfl rfl rfl rfl rfl rfl rfl rfl rfl rfl rfl rfl rfl rfl rfl rfl rfl rfl rfl rfl), hS, trivial, (Or.inl ⟨c_148, rfl⟩)⟩
                · simp only [lt_I, le_I, eq_I, i_0, i_1, i_2, i_3, i_4, i_5, i_6, i_7, i_8, i_10, i_12, i_16, i_20, i_23, i_24, i_31, i_32, i_63, i_64, i_m1, i_9, i_11, i_13, i_25, i_60, i_75, i_79, i_80, i_96, i_100] at c_148
                  refine lv_aload_n hx hb dX10_push_136 rfl (lv_at hl 4 rfl) ?_
                  refine va_get (D := DG E) (ci := 10) (v := .ref (rf 15)) (C := RX10) (T := TX10) (N := 49) hx hb hts iw_X10 hown hK.1 (va_one hM.1) 0 rfl rfl 15 (by decide) (hts _ fl_X10_43) (fun _ h9 => h9) rfl dX10_push_137 ?_
                  refine lv_iload_n hx hb dX10_push_140 rfl (lv_at hl 5 rfl) ?_
                  refine lv_iconst (v := 0) hx hb dX10_push_141 (by decide) ?_
                  have ha_149 : va_at (DG E) vwCl (rf 15, .inl (E.2.2 0, 4, .inl (A 15))) _ := hM.2 15 (by decide) (by decide) (by decide)
                  refine rr_iast (D := DG E) hx hb hK.1 0 ha_149 hS (by show G (rf 15) ≠ 0; rw [hR.2 15 (by decide) (by decide) (by decide)]; decide) rfl hi_2 dX10_push_142 (fun H locs hn ho hz hS => ?_)
                  rw [en_4] at hn
                  obtain ⟨g_149, eg_149⟩ : ∃ z : Nat → Int32, z = upd (A 15) n_4 0 := ⟨_, rfl⟩
                  have sg_149 : g_149 n_4 = 0 := by rw [eg_149]; exact upd_s
                  have ng_149 : ∀ k, k ≠ n_4 → g_149 k = (A 15) k := fun k hk => by rw [eg_149]; exact upd_n hk
                  have hn : va_at (DG E) vwCl (rf 15, .inl (E.2.2 0, 4, .inl g_149)) H := by rw [eg_149]; exact hn
                  have hM : MH E h0 rf t0 t1 t2 (uA A 15 g_149) 0 pk H := hM.w hR 15 (by decide) (by decide) (by decide) hn ho
                  exact key_146 (g_149) _ _ ⟨hM, hS, trivial, (Or.inr ⟨c_148, g_149, eg_149, rfl⟩)⟩
            · simp only [lt_I, le_I, eq_I, i_0, i_1, i_2, i_3, i_4, i_5, i_6, i_7, i_8, i_10, i_12, i_16, i_20, i_23, i_24, i_31, i_32, i_63, i_64, i_m1, i_9, i_11, i_13, i_25, i_60, i_75, i_79, i_80, i_96, i_100] at c_145
              refine lv_iconst (v := (-1)) hx hb dX10_push_124 (by decide) ?_
              exact W.iret (v := (-1)) hx hb hr (fun t ht hW => ⟨⟨(-1), ((A 41), (A 42), (A 43), (A 44), (A 45), (A 46), (A 47), (A 48), (A 13), (A 15), pk, 0), rfl, ⟨hI4, hI7, (by show 0 ≤ pk.toInt ∧ pk.toInt ≤ 24; have := i_m1; omega), (Or.inl ⟨c_1r, n_4, hn_4, (Or.inr ⟨c_5, (Or.inr ⟨c_8, (Or.inl ⟨c_10, r_12, hpr_12_0, hpr_12_1, i0, hi4, hn_13, x_16, ex_16, (Or.inr ⟨c_22, r_138, hDr_138, hpr_138_0, hpr_138_1, x_139, ex_139, fx_139, x_141, ex_141, fx_141, x_142, ex_142, fx_142, x_143, ex_143, fx_143, x_144, ex_144, fx_144, (Or.inr ⟨c_145, rfl, rfl, rfl, rfl⟩)⟩)⟩)⟩)⟩)⟩)⟩, (by show MH E h0 rf t0 t1 t2 (uA (uA (uA (uA (uA (uA (uA (uA (uA (uA A 41 (A 41)) 42 (A 42)) 43 (A 43)) 44 (A 44)) 45 (A 45)) 46 (A 46)) 47 (A 47)) 48 (A 48)) 13 (A 13)) 15 (A 15)) 0 pk t.heap; rw [ht]; exact hM.cg9 rfl rfl rfl rfl rfl rfl rfl rfl rfl rfl rfl rfl rfl rfl rfl rfl rfl rfl rfl rfl rfl rfl rfl rfl rfl rfl rfl rfl rfl rfl rfl rfl rfl rfl rfl rfl rfl rfl rfl rfl rfl rfl rfl rfl)⟩, hS.F ht⟩) hS.2.2 dX10_push_125
        · simp only [lt_I, le_I, eq_I, i_0, i_1, i_2, i_3, i_4, i_5, i_6, i_7, i_8, i_10, i_12, i_16, i_20, i_23, i_24, i_31, i_32, i_63, i_64, i_m1, i_9, i_11, i_13, i_25, i_60, i_75, i_79, i_80, i_96, i_100] at c_10
          refine lv_iconst (v := (-1)) hx hb dX10_push_49 (by decide) ?_
          exact W.iret (v := (-1)) hx hb hr (fun t ht hW => ⟨⟨(-1), ((A 41), (A 42), (A 43), (A 44), (A 45), (A 46), (A 47), (A 48), (A 13), (A 15), pk, 0), rfl, ⟨hI4, hI7, (by show 0 ≤ pk.toInt ∧ pk.toInt ≤ 24; have := i_m1; omega), (Or.inl ⟨c_1r, n_4, hn_4, (Or.inr ⟨c_5, (Or.inr ⟨c_8, (Or.inr ⟨c_10, rfl, rfl, rfl, rfl⟩)⟩)⟩)⟩)⟩, (by show MH E h0 rf t0 t1 t2 (uA (uA (uA (uA (uA (uA (uA (uA (uA (uA A 41 (A 41)) 42 (A 42)) 43 (A 43)) 44 (A 44)) 45 (A 45)) 46 (A 46)) 47 (A 47)) 48 (A 48)) 13 (A 13)) 15 (A 15)) 0 pk t.heap; rw [ht]; exact hM.cg9 rfl rfl rfl rfl rfl rfl rfl rfl rfl rfl rfl rfl rfl rfl rfl rfl rfl rfl rfl rfl rfl rfl rfl rfl rfl rfl rfl rfl rfl rfl rfl rfl rfl rfl rfl rfl rfl rfl rfl rfl rfl rfl rfl rfl)⟩, hS.F ht⟩) hS.2.2 dX10_push_50
  · have c_1 := bI_0 c_1
    have c_1r := c_1
    try simp only [lt_I, le_I, eq_I, i_0, i_1, i_2, i_3, i_4, i_5, i_6, i_7, i_8, i_10, i_12, i_16, i_20, i_23, i_24, i_31, i_32, i_63, i_64, i_m1, i_9, i_11, i_13, i_25, i_60, i_75, i_79, i_80, i_96, i_100] at c_1
    refine lv_iconst (v := (-1)) hx hb dX10_push_13 (by decide) ?_
    exact W.iret (v := (-1)) hx hb hr (fun t ht hW => ⟨⟨(-1), ((A 41), (A 42), (A 43), (A 44), (A 45), (A 46), (A 47), (A 48), (A 13), (A 15), pk, 0), rfl, ⟨hI4, hI7, (by show 0 ≤ pk.toInt ∧ pk.toInt ≤ 24; have := i_m1; omega), (Or.inr ⟨c_1r, rfl, rfl, rfl, rfl⟩)⟩, (by show MH E h0 rf t0 t1 t2 (uA (uA (uA (uA (uA (uA (uA (uA (uA (uA A 41 (A 41)) 42 (A 42)) 43 (A 43)) 44 (A 44)) 45 (A 45)) 46 (A 46)) 47 (A 47)) 48 (A 48)) 13 (A 13)) 15 (A 15)) 0 pk t.heap; rw [ht]; exact hM.cg9 rfl rfl rfl rfl rfl rfl rfl rfl rfl rfl rfl rfl rfl rfl rfl rfl rfl rfl rfl rfl rfl rfl rfl rfl rfl rfl rfl rfl rfl rfl rfl rfl rfl rfl rfl rfl rfl rfl rfl rfl rfl rfl rfl rfl)⟩, hS.F ht⟩) hS.2.2 dX10_push_14

