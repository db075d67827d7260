/-! a player: its parts -/
theorem zBind_assoc {r : zRs} {f g : Nat → (Int → Int) → zRs} : zBind (zBind r f) g = zBind r (fun p a => zBind (f p a) g) := by cases r <;> rfl
theorem zBd.w {W W' : zWd} {d c i v : Int} {p : Nat} (h : zBd W d c p) (o : zOfm W W') (e : W' 117 = iup (W 117) i v) (hi : i ≠ 2) : zBd W' d c p := by
  unfold zBd at *
  rw [o 116 (by decide), e, iup_n (show (2 : Int) ≠ i by omega)]
  exact h
theorem zBd.z {W : zWd} {d c : Int} {p : Nat} (h : zBd W d c p) : zR (W 116 14) ∧ W 116 14 ≠ 0 := by
  have h1 := h.1
  have h2 := h.2.1
  have h3 := h.2.2.1
  constructor
  · rw [h1]; unfold zR; omega
  · omega
theorem dX7_readsPlayer_0 : decode cX7_readsPlayer 0 = .ok (.aload_n 0, 1) := by decide +kernel
theorem dX7_readsPlayer_1 : decode cX7_readsPlayer 1 = .ok (.getfield 7, 3) := by decide +kernel
theorem dX7_readsPlayer_4 : decode cX7_readsPlayer 4 = .ok (.iconst 2, 1) := by decide +kernel
theorem dX7_readsPlayer_5 : decode cX7_readsPlayer 5 = .ok (.iaload, 1) := by decide +kernel
theorem dX7_readsPlayer_6 : decode cX7_readsPlayer 6 = .ok (.istore_n 1, 1) := by decide +kernel
theorem dX7_readsPlayer_7 : decode cX7_readsPlayer 7 = .ok (.aload_n 0, 1) := by decide +kernel
theorem dX7_readsPlayer_8 : decode cX7_readsPlayer 8 = .ok (.ldc 157, 2) := by decide +kernel
theorem dX7_readsPlayer_10 : decode cX7_readsPlayer 10 = .ok (.invokevirtual 138, 3) := by decide +kernel
theorem dX7_readsPlayer_13 : decode cX7_readsPlayer 13 = .ok (.ifCond .eq 15, 3) := by decide +kernel
theorem dX7_readsPlayer_16 : decode cX7_readsPlayer 16 = .ok (.iload_n 1, 1) := by decide +kernel
theorem dX7_readsPlayer_17 : decode cX7_readsPlayer 17 = .ok (.bipush 6, 2) := by decide +kernel
theorem dX7_readsPlayer_19 : decode cX7_readsPlayer 19 = .ok (.if_icmp .ne 9, 3) := by decide +kernel
theorem dX7_readsPlayer_22 : decode cX7_readsPlayer 22 = .ok (.aload_n 0, 1) := by decide +kernel
theorem dX7_readsPlayer_23 : decode cX7_readsPlayer 23 = .ok (.bipush (-5), 2) := by decide +kernel
theorem dX7_readsPlayer_25 : decode cX7_readsPlayer 25 = .ok (.invokevirtual 129, 3) := by decide +kernel
theorem dX7_readsPlayer_28 : decode cX7_readsPlayer 28 = .ok (.aload_n 0, 1) := by decide +kernel
theorem dX7_readsPlayer_29 : decode cX7_readsPlayer 29 = .ok (.aload_n 0, 1) := by decide +kernel
theorem dX7_readsPlayer_30 : decode cX7_readsPlayer 30 = .ok (.ldc 157, 2) := by decide +kernel
theorem dX7_readsPlayer_32 : decode cX7_readsPlayer 32 = .ok (.invokevirtual 138, 3) := by decide +kernel
theorem dX7_readsPlayer_35 : decode cX7_readsPlayer 35 = .ok (.invokevirtual 150, 3) := by decide +kernel
theorem dX7_readsPlayer_38 : decode cX7_readsPlayer 38 = .ok (.aload_n 0, 1) := by decide +kernel
theorem dX7_readsPlayer_39 : decode cX7_readsPlayer 39 = .ok (.getfield 113, 3) := by decide +kernel
theorem dX7_readsPlayer_42 : decode cX7_readsPlayer 42 = .ok (.ifCond .ne 30, 3) := by decide +kernel
theorem dX7_readsPlayer_45 : decode cX7_readsPlayer 45 = .ok (.aload_n 0, 1) := by decide +kernel
theorem dX7_readsPlayer_46 : decode cX7_readsPlayer 46 = .ok (.getfield 97, 3) := by decide +kernel
theorem dX7_readsPlayer_49 : decode cX7_readsPlayer 49 = .ok (.ifCond .ne 17, 3) := by decide +kernel
theorem dX7_readsPlayer_52 : decode cX7_readsPlayer 52 = .ok (.aload_n 0, 1) := by decide +kernel
theorem dX7_readsPlayer_53 : decode cX7_readsPlayer 53 = .ok (.getfield 88, 3) := by decide +kernel
theorem dX7_readsPlayer_56 : decode cX7_readsPlayer 56 = .ok (.aload_n 0, 1) := by decide +kernel
theorem dX7_readsPlayer_57 : decode cX7_readsPlayer 57 = .ok (.getfield 91, 3) := by decide +kernel
theorem dX7_readsPlayer_60 : decode cX7_readsPlayer 60 = .ok (.isub, 1) := by decide +kernel
theorem dX7_readsPlayer_61 : decode cX7_readsPlayer 61 = .ok (.bipush 8, 2) := by decide +kernel
theorem dX7_readsPlayer_63 : decode cX7_readsPlayer 63 = .ok (.if_icmp .le 9, 3) := by decide +kernel
theorem dX7_readsPlayer_66 : decode cX7_readsPlayer 66 = .ok (.aload_n 0, 1) := by decide +kernel
theorem dX7_readsPlayer_67 : decode cX7_readsPlayer 67 = .ok (.bipush (-2), 2) := by decide +kernel
theorem dX7_readsPlayer_69 : decode cX7_readsPlayer 69 = .ok (.invokevirtual 129, 3) := by decide +kernel
theorem dX7_readsPlayer_72 : decode cX7_readsPlayer 72 = .ok (.iconst 0, 1) := by decide +kernel
theorem dX7_readsPlayer_73 : decode cX7_readsPlayer 73 = .ok (.istore_n 2, 1) := by decide +kernel
theorem dX7_readsPlayer_74 : decode cX7_readsPlayer 74 = .ok (.iload_n 2, 1) := by decide +kernel
theorem dX7_readsPlayer_75 : decode cX7_readsPlayer 75 = .ok (.iload_n 1, 1) := by decide +kernel
theorem dX7_readsPlayer_76 : decode cX7_readsPlayer 76 = .ok (.if_icmp .ge 30, 3) := by decide +kernel
theorem dX7_readsPlayer_79 : decode cX7_readsPlayer 79 = .ok (.aload_n 0, 1) := by decide +kernel
theorem dX7_readsPlayer_80 : decode cX7_readsPlayer 80 = .ok (.getfield 113, 3) := by decide +kernel
theorem dX7_readsPlayer_83 : decode cX7_readsPlayer 83 = .ok (.ifCond .ne 23, 3) := by decide +kernel
theorem dX7_readsPlayer_86 : decode cX7_readsPlayer 86 = .ok (.aload_n 0, 1) := by decide +kernel
theorem dX7_readsPlayer_87 : decode cX7_readsPlayer 87 = .ok (.iload_n 2, 1) := by decide +kernel
theorem dX7_readsPlayer_88 : decode cX7_readsPlayer 88 = .ok (.invokevirtual 159, 3) := by decide +kernel
theorem dX7_readsPlayer_91 : decode cX7_readsPlayer 91 = .ok (.ifCond .eq 9, 3) := by decide +kernel
theorem dX7_readsPlayer_94 : decode cX7_readsPlayer 94 = .ok (.aload_n 0, 1) := by decide +kernel
theorem dX7_readsPlayer_95 : decode cX7_readsPlayer 95 = .ok (.bipush (-4), 2) := by decide +kernel
theorem dX7_readsPlayer_97 : decode cX7_readsPlayer 97 = .ok (.invokevirtual 129, 3) := by decide +kernel
theorem dX7_readsPlayer_100 : decode cX7_readsPlayer 100 = .ok (.iinc 2 1, 3) := by decide +kernel
theorem dX7_readsPlayer_103 : decode cX7_readsPlayer 103 = .ok (.goto (-29), 3) := by decide +kernel
theorem dX7_readsPlayer_106 : decode cX7_readsPlayer 106 = .ok (.aload_n 0, 1) := by decide +kernel
theorem dX7_readsPlayer_107 : decode cX7_readsPlayer 107 = .ok (.getfield 113, 3) := by decide +kernel
theorem dX7_readsPlayer_110 : decode cX7_readsPlayer 110 = .ok (.ifCond .eq 4, 3) := by decide +kernel
theorem dX7_readsPlayer_113 : decode cX7_readsPlayer 113 = .ok (.return_, 1) := by decide +kernel
theorem dX7_readsPlayer_114 : decode cX7_readsPlayer 114 = .ok (.aload_n 0, 1) := by decide +kernel
theorem dX7_readsPlayer_115 : decode cX7_readsPlayer 115 = .ok (.iload_n 1, 1) := by decide +kernel
theorem dX7_readsPlayer_116 : decode cX7_readsPlayer 116 = .ok (.invokevirtual 51, 3) := by decide +kernel
theorem dX7_readsPlayer_119 : decode cX7_readsPlayer 119 = .ok (.iconst 0, 1) := by decide +kernel
theorem dX7_readsPlayer_120 : decode cX7_readsPlayer 120 = .ok (.istore_n 2, 1) := by decide +kernel
theorem dX7_readsPlayer_121 : decode cX7_readsPlayer 121 = .ok (.iload_n 2, 1) := by decide +kernel
theorem dX7_readsPlayer_122 : decode cX7_readsPlayer 122 = .ok (.bipush 8, 2) := by decide +kernel
theorem dX7_readsPlayer_124 : decode cX7_readsPlayer 124 = .ok (.if_icmp .ge 46, 3) := by decide +kernel
theorem dX7_readsPlayer_127 : decode cX7_readsPlayer 127 = .ok (.aload_n 0, 1) := by decide +kernel
theorem dX7_readsPlayer_128 : decode cX7_readsPlayer 128 = .ok (.iload_n 1, 1) := by decide +kernel
theorem dX7_readsPlayer_129 : decode cX7_readsPlayer 129 = .ok (.bipush 9, 2) := by decide +kernel
theorem dX7_readsPlayer_131 : decode cX7_readsPlayer 131 = .ok (.iload_n 2, 1) := by decide +kernel
theorem dX7_readsPlayer_132 : decode cX7_readsPlayer 132 = .ok (.iadd, 1) := by decide +kernel
theorem dX7_readsPlayer_133 : decode cX7_readsPlayer 133 = .ok (.aload_n 0, 1) := by decide +kernel
theorem dX7_readsPlayer_134 : decode cX7_readsPlayer 134 = .ok (.getfield 91, 3) := by decide +kernel
theorem dX7_readsPlayer_137 : decode cX7_readsPlayer 137 = .ok (.iload_n 2, 1) := by decide +kernel
theorem dX7_readsPlayer_138 : decode cX7_readsPlayer 138 = .ok (.iadd, 1) := by decide +kernel
theorem dX7_readsPlayer_139 : decode cX7_readsPlayer 139 = .ok (.aload_n 0, 1) := by decide +kernel
theorem dX7_readsPlayer_140 : decode cX7_readsPlayer 140 = .ok (.getfield 88, 3) := by decide +kernel
theorem dX7_readsPlayer_143 : decode cX7_readsPlayer 143 = .ok (.if_icmp .ge 17, 3) := by decide +kernel
theorem dX7_readsPlayer_146 : decode cX7_readsPlayer 146 = .ok (.aload_n 0, 1) := by decide +kernel
theorem dX7_readsPlayer_147 : decode cX7_readsPlayer 147 = .ok (.getfield 29, 3) := by decide +kernel
theorem dX7_readsPlayer_150 : decode cX7_readsPlayer 150 = .ok (.aload_n 0, 1) := by decide +kernel
theorem dX7_readsPlayer_151 : decode cX7_readsPlayer 151 = .ok (.getfield 91, 3) := by decide +kernel
theorem dX7_readsPlayer_154 : decode cX7_readsPlayer 154 = .ok (.iload_n 2, 1) := by decide +kernel
theorem dX7_readsPlayer_155 : decode cX7_readsPlayer 155 = .ok (.iadd, 1) := by decide +kernel
theorem dX7_readsPlayer_156 : decode cX7_readsPlayer 156 = .ok (.iaload, 1) := by decide +kernel
theorem dX7_readsPlayer_157 : decode cX7_readsPlayer 157 = .ok (.goto 4, 3) := by decide +kernel
theorem dX7_readsPlayer_160 : decode cX7_readsPlayer 160 = .ok (.iconst 0, 1) := by decide +kernel
theorem dX7_readsPlayer_161 : decode cX7_readsPlayer 161 = .ok (.invokevirtual 55, 3) := by decide +kernel
theorem dX7_readsPlayer_164 : decode cX7_readsPlayer 164 = .ok (.iinc 2 1, 3) := by decide +kernel
theorem dX7_readsPlayer_167 : decode cX7_readsPlayer 167 = .ok (.goto (-46), 3) := by decide +kernel
theorem dX7_readsPlayer_170 : decode cX7_readsPlayer 170 = .ok (.aload_n 0, 1) := by decide +kernel
theorem dX7_readsPlayer_171 : decode cX7_readsPlayer 171 = .ok (.invokevirtual 132, 3) := by decide +kernel
theorem dX7_readsPlayer_174 : decode cX7_readsPlayer 174 = .ok (.aload_n 0, 1) := by decide +kernel
theorem dX7_readsPlayer_175 : decode cX7_readsPlayer 175 = .ok (.ldc 162, 2) := by decide +kernel
theorem dX7_readsPlayer_177 : decode cX7_readsPlayer 177 = .ok (.invokevirtual 164, 3) := by decide +kernel
theorem dX7_readsPlayer_180 : decode cX7_readsPlayer 180 = .ok (.ifCond .eq 15, 3) := by decide +kernel
theorem dX7_readsPlayer_183 : decode cX7_readsPlayer 183 = .ok (.aload_n 0, 1) := by decide +kernel
theorem dX7_readsPlayer_184 : decode cX7_readsPlayer 184 = .ok (.iload_n 1, 1) := by decide +kernel
theorem dX7_readsPlayer_185 : decode cX7_readsPlayer 185 = .ok (.iconst 0, 1) := by decide +kernel
theorem dX7_readsPlayer_186 : decode cX7_readsPlayer 186 = .ok (.aload_n 0, 1) := by decide +kernel
theorem dX7_readsPlayer_187 : decode cX7_readsPlayer 187 = .ok (.iconst 1, 1) := by decide +kernel
theorem dX7_readsPlayer_188 : decode cX7_readsPlayer 188 = .ok (.iconst 4, 1) := by decide +kernel
theorem dX7_readsPlayer_189 : decode cX7_readsPlayer 189 = .ok (.invokevirtual 167, 3) := by decide +kernel
theorem dX7_readsPlayer_192 : decode cX7_readsPlayer 192 = .ok (.invokevirtual 55, 3) := by decide +kernel
theorem dX7_readsPlayer_195 : decode cX7_readsPlayer 195 = .ok (.aload_n 0, 1) := by decide +kernel
theorem dX7_readsPlayer_196 : decode cX7_readsPlayer 196 = .ok (.ldc 170, 2) := by decide +kernel
theorem dX7_readsPlayer_198 : decode cX7_readsPlayer 198 = .ok (.invokevirtual 164, 3) := by decide +kernel
theorem dX7_readsPlayer_201 : decode cX7_readsPlayer 201 = .ok (.ifCond .eq 16, 3) := by decide +kernel
theorem dX7_readsPlayer_204 : decode cX7_readsPlayer 204 = .ok (.aload_n 0, 1) := by decide +kernel
theorem dX7_readsPlayer_205 : decode cX7_readsPlayer 205 = .ok (.iload_n 1, 1) := by decide +kernel
theorem dX7_readsPlayer_206 : decode cX7_readsPlayer 206 = .ok (.iconst 1, 1) := by decide +kernel
theorem dX7_readsPlayer_207 : decode cX7_readsPlayer 207 = .ok (.aload_n 0, 1) := by decide +kernel
theorem dX7_readsPlayer_208 : decode cX7_readsPlayer 208 = .ok (.iconst 1, 1) := by decide +kernel
theorem dX7_readsPlayer_209 : decode cX7_readsPlayer 209 = .ok (.bipush 9, 2) := by decide +kernel
theorem dX7_readsPlayer_211 : decode cX7_readsPlayer 211 = .ok (.invokevirtual 167, 3) := by decide +kernel
theorem dX7_readsPlayer_214 : decode cX7_readsPlayer 214 = .ok (.invokevirtual 55, 3) := by decide +kernel
theorem dX7_readsPlayer_217 : decode cX7_readsPlayer 217 = .ok (.aload_n 0, 1) := by decide +kernel
theorem dX7_readsPlayer_218 : decode cX7_readsPlayer 218 = .ok (.ldc 172, 2) := by decide +kernel
theorem dX7_readsPlayer_220 : decode cX7_readsPlayer 220 = .ok (.invokevirtual 164, 3) := by decide +kernel
theorem dX7_readsPlayer_223 : decode cX7_readsPlayer 223 = .ok (.ifCond .eq 20, 3) := by decide +kernel
theorem dX7_readsPlayer_226 : decode cX7_readsPlayer 226 = .ok (.aload_n 0, 1) := by decide +kernel
theorem dX7_readsPlayer_227 : decode cX7_readsPlayer 227 = .ok (.iload_n 1, 1) := by decide +kernel
theorem dX7_readsPlayer_228 : decode cX7_readsPlayer 228 = .ok (.iconst 2, 1) := by decide +kernel
theorem dX7_readsPlayer_229 : decode cX7_readsPlayer 229 = .ok (.aload_n 0, 1) := by decide +kernel
theorem dX7_readsPlayer_230 : decode cX7_readsPlayer 230 = .ok (.iconst 1, 1) := by decide +kernel
theorem dX7_readsPlayer_231 : decode cX7_readsPlayer 231 = .ok (.aload_n 0, 1) := by decide +kernel
theorem dX7_readsPlayer_232 : decode cX7_readsPlayer 232 = .ok (.getfield 7, 3) := by decide +kernel
theorem dX7_readsPlayer_235 : decode cX7_readsPlayer 235 = .ok (.iconst 1, 1) := by decide +kernel
theorem dX7_readsPlayer_236 : decode cX7_readsPlayer 236 = .ok (.iaload, 1) := by decide +kernel
theorem dX7_readsPlayer_237 : decode cX7_readsPlayer 237 = .ok (.invokevirtual 167, 3) := by decide +kernel
theorem dX7_readsPlayer_240 : decode cX7_readsPlayer 240 = .ok (.invokevirtual 55, 3) := by decide +kernel
theorem dX7_readsPlayer_243 : decode cX7_readsPlayer 243 = .ok (.aload_n 0, 1) := by decide +kernel
theorem dX7_readsPlayer_244 : decode cX7_readsPlayer 244 = .ok (.ldc 174, 2) := by decide +kernel
theorem dX7_readsPlayer_246 : decode cX7_readsPlayer 246 = .ok (.invokevirtual 164, 3) := by decide +kernel
theorem dX7_readsPlayer_249 : decode cX7_readsPlayer 249 = .ok (.ifCond .eq 16, 3) := by decide +kernel
theorem dX7_readsPlayer_252 : decode cX7_readsPlayer 252 = .ok (.aload_n 0, 1) := by decide +kernel
theorem dX7_readsPlayer_253 : decode cX7_readsPlayer 253 = .ok (.iload_n 1, 1) := by decide +kernel
theorem dX7_readsPlayer_254 : decode cX7_readsPlayer 254 = .ok (.iconst 3, 1) := by decide +kernel
theorem dX7_readsPlayer_255 : decode cX7_readsPlayer 255 = .ok (.aload_n 0, 1) := by decide +kernel
theorem dX7_readsPlayer_256 : decode cX7_readsPlayer 256 = .ok (.iconst 0, 1) := by decide +kernel
theorem dX7_readsPlayer_257 : decode cX7_readsPlayer 257 = .ok (.bipush 9, 2) := by decide +kernel
theorem dX7_readsPlayer_259 : decode cX7_readsPlayer 259 = .ok (.invokevirtual 167, 3) := by decide +kernel
theorem dX7_readsPlayer_262 : decode cX7_readsPlayer 262 = .ok (.invokevirtual 55, 3) := by decide +kernel
theorem dX7_readsPlayer_265 : decode cX7_readsPlayer 265 = .ok (.aload_n 0, 1) := by decide +kernel
theorem dX7_readsPlayer_266 : decode cX7_readsPlayer 266 = .ok (.ldc 176, 2) := by decide +kernel
theorem dX7_readsPlayer_268 : decode cX7_readsPlayer 268 = .ok (.invokevirtual 164, 3) := by decide +kernel
theorem dX7_readsPlayer_271 : decode cX7_readsPlayer 271 = .ok (.ifCond .eq 11, 3) := by decide +kernel
theorem dX7_readsPlayer_274 : decode cX7_readsPlayer 274 = .ok (.aload_n 0, 1) := by decide +kernel
theorem dX7_readsPlayer_275 : decode cX7_readsPlayer 275 = .ok (.iload_n 1, 1) := by decide +kernel
theorem dX7_readsPlayer_276 : decode cX7_readsPlayer 276 = .ok (.invokevirtual 178, 3) := by decide +kernel
theorem dX7_readsPlayer_279 : decode cX7_readsPlayer 279 = .ok (.goto (-14), 3) := by decide +kernel
theorem dX7_readsPlayer_282 : decode cX7_readsPlayer 282 = .ok (.aload_n 0, 1) := by decide +kernel
theorem dX7_readsPlayer_283 : decode cX7_readsPlayer 283 = .ok (.ldc 181, 2) := by decide +kernel
theorem dX7_readsPlayer_285 : decode cX7_readsPlayer 285 = .ok (.invokevirtual 164, 3) := by decide +kernel
theorem dX7_readsPlayer_288 : decode cX7_readsPlayer 288 = .ok (.ifCond .eq 20, 3) := by decide +kernel
theorem dX7_readsPlayer_291 : decode cX7_readsPlayer 291 = .ok (.aload_n 0, 1) := by decide +kernel
theorem dX7_readsPlayer_292 : decode cX7_readsPlayer 292 = .ok (.iload_n 1, 1) := by decide +kernel
theorem dX7_readsPlayer_293 : decode cX7_readsPlayer 293 = .ok (.iconst 5, 1) := by decide +kernel
theorem dX7_readsPlayer_294 : decode cX7_readsPlayer 294 = .ok (.aload_n 0, 1) := by decide +kernel
theorem dX7_readsPlayer_295 : decode cX7_readsPlayer 295 = .ok (.iconst 1, 1) := by decide +kernel
theorem dX7_readsPlayer_296 : decode cX7_readsPlayer 296 = .ok (.aload_n 0, 1) := by decide +kernel
theorem dX7_readsPlayer_297 : decode cX7_readsPlayer 297 = .ok (.getfield 7, 3) := by decide +kernel
theorem dX7_readsPlayer_300 : decode cX7_readsPlayer 300 = .ok (.iconst 1, 1) := by decide +kernel
theorem dX7_readsPlayer_301 : decode cX7_readsPlayer 301 = .ok (.iaload, 1) := by decide +kernel
theorem dX7_readsPlayer_302 : decode cX7_readsPlayer 302 = .ok (.invokevirtual 167, 3) := by decide +kernel
theorem dX7_readsPlayer_305 : decode cX7_readsPlayer 305 = .ok (.invokevirtual 55, 3) := by decide +kernel
theorem dX7_readsPlayer_308 : decode cX7_readsPlayer 308 = .ok (.aload_n 0, 1) := by decide +kernel
theorem dX7_readsPlayer_309 : decode cX7_readsPlayer 309 = .ok (.aload_n 0, 1) := by decide +kernel
theorem dX7_readsPlayer_310 : decode cX7_readsPlayer 310 = .ok (.bipush 59, 2) := by decide +kernel
theorem dX7_readsPlayer_312 : decode cX7_readsPlayer 312 = .ok (.invokevirtual 183, 3) := by decide +kernel
theorem dX7_readsPlayer_315 : decode cX7_readsPlayer 315 = .ok (.invokevirtual 150, 3) := by decide +kernel
theorem dX7_readsPlayer_318 : decode cX7_readsPlayer 318 = .ok (.aload_n 0, 1) := by decide +kernel
theorem dX7_readsPlayer_319 : decode cX7_readsPlayer 319 = .ok (.getfield 7, 3) := by decide +kernel
theorem dX7_readsPlayer_322 : decode cX7_readsPlayer 322 = .ok (.iconst 2, 1) := by decide +kernel
theorem dX7_readsPlayer_323 : decode cX7_readsPlayer 323 = .ok (.dup2, 1) := by decide +kernel
theorem dX7_readsPlayer_324 : decode cX7_readsPlayer 324 = .ok (.iaload, 1) := by decide +kernel
theorem dX7_readsPlayer_325 : decode cX7_readsPlayer 325 = .ok (.iconst 1, 1) := by decide +kernel
theorem dX7_readsPlayer_326 : decode cX7_readsPlayer 326 = .ok (.iadd, 1) := by decide +kernel
theorem dX7_readsPlayer_327 : decode cX7_readsPlayer 327 = .ok (.iastore, 1) := by decide +kernel
theorem dX7_readsPlayer_328 : decode cX7_readsPlayer 328 = .ok (.return_, 1) := by decide +kernel
theorem eX7_rpReach {W : zWd} {B : Nat → Int} {N : Nat} {r : zRs} {q : Int} {x2 : Value} {Q : Option Value → zWd → Prop} {X : zX} (h : zMR W B N 1 r) (h0 : 0 ≤ q) (h6 : q < 6) (tail : ∀ W' : zWd, zOfR W W' → zMR W' B N 1 (zBind r (fun p a => sPart B N p a q wReach 0)) → RR MX7_readsPlayer 7 0 W' 195 [.ref 116, zI q, x2] [] (zEnd MX7_readsPlayer Q X) X) : RR MX7_readsPlayer 7 0 W 174 [.ref 116, zI q, x2] [] (zEnd MX7_readsPlayer Q X) X := by
  cases r with
  | inl e =>
    refine rr_aload_n (pc := 174) dX7_readsPlayer_174 rfl ?_
    refine rr_ldcs (pc := 175) 16 dX7_readsPlayer_175 rfl ?_
    refine rr_inv0 (M' := MX7_isTaken) (k := 116) (As := [_]) (pc := 177) dX7_readsPlayer_177 lX7_164 kX7_isTaken vX7_isTaken zk_116 (by decide) rfl (by decide) (by decide) (Nat.le_of_ble_eq_true rfl) rfl (eTB h (by decide) ?_)
    refine rr_if_eq (pc := 180) (tgt := 195) dX7_readsPlayer_180 (by decide) (by unfold zR; omega) (fun h180 => ?_) (fun h180 => ?_)
    · exact tail W zOfR.rf h
    · exact (h180 rfl).elim
  | inr g =>
    obtain ⟨p, a⟩ := g
    obtain ⟨hG, hRw, hPf⟩ : zGd W B N p ∧ zRw W 1 a ∧ zPs a := id h
    have psq := hPf.1.sq
    have p0' := hPf.1.2.1
    have hM := h
    refine rr_aload_n (pc := 174) dX7_readsPlayer_174 rfl ?_
    refine rr_ldcs (pc := 175) 16 dX7_readsPlayer_175 rfl ?_
    refine rr_inv0 (M' := MX7_isTaken) (k := 116) (As := [_]) (pc := 177) dX7_readsPlayer_177 lX7_164 kX7_isTaken vX7_isTaken zk_116 (by decide) rfl (by decide) (by decide) (Nat.le_of_ble_eq_true rfl) rfl (eT_Reach h (fun hn => ?_) (fun hn W1 o1 r1 => ?_))
    · refine rr_if_eq (pc := 180) (tgt := 195) dX7_readsPlayer_180 (by decide) (by unfold zR; omega) (fun h => ?_) (fun h => by omega)
      exact tail W zOfR.rf (by rw [show zBind (.inr (p, a)) (fun p a => sPart B N p a q wReach 0) = .inr (p, a) from if_neg hn]; exact hM)
    · refine rr_if_eq (pc := 180) (tgt := 195) dX7_readsPlayer_180 (by decide) (by unfold zR; omega) (fun h => by omega) (fun h => ?_)
      refine rr_aload_n (pc := 183) dX7_readsPlayer_183 rfl ?_
      refine rr_iload_n (pc := 184) dX7_readsPlayer_184 rfl ?_
      refine rr_iconst (n := 0) dX7_readsPlayer_185 ?_
      refine rr_aload_n (pc := 186) dX7_readsPlayer_186 rfl ?_
      refine rr_iconst (n := 1) dX7_readsPlayer_187 ?_
      refine rr_iconst (n := 4) dX7_readsPlayer_188 ?_
      refine rr_inv0 (M' := MX7_takes) (k := 116) (As := [_, _]) (pc := 189) dX7_readsPlayer_189 lX7_167 kX7_takes vX7_takes zk_116 (by decide) rfl (by decide) (by decide) (Nat.le_of_ble_eq_true rfl) rfl (eX7_takes r1 (by unfold zR; omega) (by unfold zR; omega) (fun c hs W2 o2 r2 => ?_) (fun p9 v hs W2 o2 r2 => ?_))
      · refine rr_inv0 (M' := MX7_sets) (k := 116) (As := [_, _, _]) (pc := 192) dX7_readsPlayer_192 lX7_55 kX7_sets vX7_sets zk_116 (by decide) rfl (by decide) (by decide) (Nat.le_of_ble_eq_true rfl) rfl (eX7_sets (by omega) (by omega) (by omega) (by omega) ?_)
        exact tail _ (o1.tr (o2.tr zOfm.rf.up.R)) (by rw [show zBind (.inr (p, a)) (fun p a => sPart B N p a q wReach 0) = .inl (c, adv B N p) by show sPart B N p a q wReach 0 = _; unfold sPart; rw [if_pos hn]; (first | (rw [show sNr B N (if (0 : Int) = 3 then 0 else 1) (vHi 0 (a 1)) (adv B N p) = sNr B N 1 4 (adv B N p) from rfl]) | skip); rw [hs]]; exact zBd.w (p := adv B N p) (c := c) r2 zOfm.rf.up zup_at (by omega))
      · refine rr_inv0 (M' := MX7_sets) (k := 116) (As := [_, _, _]) (pc := 192) dX7_readsPlayer_192 lX7_55 kX7_sets vX7_sets zk_116 (by decide) rfl (by decide) (by decide) (Nat.le_of_ble_eq_true rfl) rfl (eX7_sets (by omega) (by omega) (by omega) (by omega) ?_)
        have hvr := sNr_in hs
        exact tail _ (o1.tr (o2.tr zOfm.rf.up.R)) (by rw [show zBind (.inr (p, a)) (fun p a => sPart B N p a q wReach 0) = .inr (p9, iup a (58 + 17 * q + 0) v) by show sPart B N p a q wReach 0 = _; unfold sPart; rw [if_pos hn]; (first | (rw [show sNr B N (if (0 : Int) = 3 then 0 else 1) (vHi 0 (a 1)) (adv B N p) = sNr B N 1 4 (adv B N p) from rfl]) | skip); rw [hs]]; exact zMR.w r2 zOfm.rf.up zup_at (by omega) (zPf_P hPf.1 h0 (Or.inl ⟨rfl, by omega, by omega⟩)) (by omega) (by omega))
theorem eX7_rpBalance {W : zWd} {B : Nat → Int} {N : Nat} {r : zRs} {q : Int} {x2 : Value} {Q : Option Value → zWd → Prop} {X : zX} (h : zMR W B N 1 r) (h0 : 0 ≤ q) (h6 : q < 6) (tail : ∀ W' : zWd, zOfR W W' → zMR W' B N 1 (zBind r (fun p a => sPart B N p a q wBalance 1)) → RR MX7_readsPlayer 7 0 W' 217 [.ref 116, zI q, x2] [] (zEnd MX7_readsPlayer Q X) X) : RR MX7_readsPlayer 7 0 W 195 [.ref 116, zI q, x2] [] (zEnd MX7_readsPlayer Q X) X := by
  cases r with
  | inl e =>
    refine rr_aload_n (pc := 195) dX7_readsPlayer_195 rfl ?_
    refine rr_ldcs (pc := 196) 17 dX7_readsPlayer_196 rfl ?_
    refine rr_inv0 (M' := MX7_isTaken) (k := 116) (As := [_]) (pc := 198) dX7_readsPlayer_198 lX7_164 kX7_isTaken vX7_isTaken zk_116 (by decide) rfl (by decide) (by decide) (Nat.le_of_ble_eq_true rfl) rfl (eTB h (by decide) ?_)
    refine rr_if_eq (pc := 201) (tgt := 217) dX7_readsPlayer_201 (by decide) (by unfold zR; omega) (fun h201 => ?_) (fun h201 => ?_)
    · exact tail W zOfR.rf h
    · exact (h201 rfl).elim
  | inr g =>
    obtain ⟨p, a⟩ := g
    obtain ⟨hG, hRw, hPf⟩ : zGd W B N p ∧ zRw W 1 a ∧ zPs a := id h
    have psq := hPf.1.sq
    have p0' := hPf.1.2.1
    have hM := h
    refine rr_aload_n (pc := 195) dX7_readsPlayer_195 rfl ?_
    refine rr_ldcs (pc := 196) 17 dX7_readsPlayer_196 rfl ?_
    refine rr_inv0 (M' := MX7_isTaken) (k := 116) (As := [_]) (pc := 198) dX7_readsPlayer_198 lX7_164 kX7_isTaken vX7_isTaken zk_116 (by decide) rfl (by decide) (by decide) (Nat.le_of_ble_eq_true rfl) rfl (eT_Balance h (fun hn => ?_) (fun hn W1 o1 r1 => ?_))
    · refine rr_if_eq (pc := 201) (tgt := 217) dX7_readsPlayer_201 (by decide) (by unfold zR; omega) (fun h => ?_) (fun h => by omega)
      exact tail W zOfR.rf (by rw [show zBind (.inr (p, a)) (fun p a => sPart B N p a q wBalance 1) = .inr (p, a) from if_neg hn]; exact hM)
    · refine rr_if_eq (pc := 201) (tgt := 217) dX7_readsPlayer_201 (by decide) (by unfold zR; omega) (fun h => by omega) (fun h => ?_)
      refine rr_aload_n (pc := 204) dX7_readsPlayer_204 rfl ?_
      refine rr_iload_n (pc := 205) dX7_readsPlayer_205 rfl ?_
      refine rr_iconst (n := 1) dX7_readsPlayer_206 ?_
      refine rr_aload_n (pc := 207) dX7_readsPlayer_207 rfl ?_
      refine rr_iconst (n := 1) dX7_readsPlayer_208 ?_
      refine rr_bipush (n := (9)) dX7_readsPlayer_209 ?_
      refine rr_inv0 (M' := MX7_takes) (k := 116) (As := [_, _]) (pc := 211) dX7_readsPlayer_211 lX7_167 kX7_takes vX7_takes zk_116 (by decide) rfl (by decide) (by decide) (Nat.le_of_ble_eq_true rfl) rfl (eX7_takes r1 (by unfold zR; omega) (by unfold zR; omega) (fun c hs W2 o2 r2 => ?_) (fun p9 v hs W2 o2 r2 => ?_))
      · refine rr_inv0 (M' := MX7_sets) (k := 116) (As := [_, _, _]) (pc := 214) dX7_readsPlayer_214 lX7_55 kX7_sets vX7_sets zk_116 (by decide) rfl (by decide) (by decide) (Nat.le_of_ble_eq_true rfl) rfl (eX7_sets (by omega) (by omega) (by omega) (by omega) ?_)
        exact tail _ (o1.tr (o2.tr zOfm.rf.up.R)) (by rw [show zBind (.inr (p, a)) (fun p a => sPart B N p a q wBalance 1) = .inl (c, adv B N p) by show sPart B N p a q wBalance 1 = _; unfold sPart; rw [if_pos hn]; (first | (rw [show sNr B N (if (1 : Int) = 3 then 0 else 1) (vHi 1 (a 1)) (adv B N p) = sNr B N 1 9 (adv B N p) from rfl]) | skip); rw [hs]]; exact zBd.w (p := adv B N p) (c := c) r2 zOfm.rf.up zup_at (by omega))
      · refine rr_inv0 (M' := MX7_sets) (k := 116) (As := [_, _, _]) (pc := 214) dX7_readsPlayer_214 lX7_55 kX7_sets vX7_sets zk_116 (by decide) rfl (by decide) (by decide) (Nat.le_of_ble_eq_true rfl) rfl (eX7_sets (by omega) (by omega) (by omega) (by omega) ?_)
        have hvr := sNr_in hs
        exact tail _ (o1.tr (o2.tr zOfm.rf.up.R)) (by rw [show zBind (.inr (p, a)) (fun p a => sPart B N p a q wBalance 1) = .inr (p9, iup a (58 + 17 * q + 1) v) by show sPart B N p a q wBalance 1 = _; unfold sPart; rw [if_pos hn]; (first | (rw [show sNr B N (if (1 : Int) = 3 then 0 else 1) (vHi 1 (a 1)) (adv B N p) = sNr B N 1 9 (adv B N p) from rfl]) | skip); rw [hs]]; exact zMR.w r2 zOfm.rf.up zup_at (by omega) (zPf_P hPf.1 h0 (Or.inr (Or.inl ⟨rfl, by omega, by omega⟩))) (by omega) (by omega))
theorem eX7_rpTarget {W : zWd} {B : Nat → Int} {N : Nat} {r : zRs} {q : Int} {x2 : Value} {Q : Option Value → zWd → Prop} {X : zX} (h : zMR W B N 1 r) (h0 : 0 ≤ q) (h6 : q < 6) (tail : ∀ W' : zWd, zOfR W W' → zMR W' B N 1 (zBind r (fun p a => sPart B N p a q wTarget 2)) → RR MX7_readsPlayer 7 0 W' 243 [.ref 116, zI q, x2] [] (zEnd MX7_readsPlayer Q X) X) : RR MX7_readsPlayer 7 0 W 217 [.ref 116, zI q, x2] [] (zEnd MX7_readsPlayer Q X) X := by
  cases r with
  | inl e =>
    refine rr_aload_n (pc := 217) dX7_readsPlayer_217 rfl ?_
    refine rr_ldcs (pc := 218) 18 dX7_readsPlayer_218 rfl ?_
    refine rr_inv0 (M' := MX7_isTaken) (k := 116) (As := [_]) (pc := 220) dX7_readsPlayer_220 lX7_164 kX7_isTaken vX7_isTaken zk_116 (by decide) rfl (by decide) (by decide) (Nat.le_of_ble_eq_true rfl) rfl (eTB h (by decide) ?_)
    refine rr_if_eq (pc := 223) (tgt := 243) dX7_readsPlayer_223 (by decide) (by unfold zR; omega) (fun h223 => ?_) (fun h223 => ?_)
    · exact tail W zOfR.rf h
    · exact (h223 rfl).elim
  | inr g =>
    obtain ⟨p, a⟩ := g
    obtain ⟨hG, hRw, hPf⟩ : zGd W B N p ∧ zRw W 1 a ∧ zPs a := id h
    have psq := hPf.1.sq
    have p0' := hPf.1.2.1
    have hM := h
    refine rr_aload_n (pc := 217) dX7_readsPlayer_217 rfl ?_
    refine rr_ldcs (pc := 218) 18 dX7_readsPlayer_218 rfl ?_
    refine rr_inv0 (M' := MX7_isTaken) (k := 116) (As := [_]) (pc := 220) dX7_readsPlayer_220 lX7_164 kX7_isTaken vX7_isTaken zk_116 (by decide) rfl (by decide) (by decide) (Nat.le_of_ble_eq_true rfl) rfl (eT_Target h (fun hn => ?_) (fun hn W1 o1 r1 => ?_))
    · refine rr_if_eq (pc := 223) (tgt := 243) dX7_readsPlayer_223 (by decide) (by unfold zR; omega) (fun h => ?_) (fun h => by omega)
      exact tail W zOfR.rf (by rw [show zBind (.inr (p, a)) (fun p a => sPart B N p a q wTarget 2) = .inr (p, a) from if_neg hn]; exact hM)
    · refine rr_if_eq (pc := 223) (tgt := 243) dX7_readsPlayer_223 (by decide) (by unfold zR; omega) (fun h => by omega) (fun h => ?_)
      refine rr_aload_n (pc := 226) dX7_readsPlayer_226 rfl ?_
      refine rr_iload_n (pc := 227) dX7_readsPlayer_227 rfl ?_
      refine rr_iconst (n := 2) dX7_readsPlayer_228 ?_
      refine rr_aload_n (pc := 229) dX7_readsPlayer_229 rfl ?_
      refine rr_iconst (n := 1) dX7_readsPlayer_230 ?_
      refine rr_aload_n (pc := 231) dX7_readsPlayer_231 rfl ?_
      refine rr_getR (pc := 232) dX7_readsPlayer_232 fX7_7 zk_116 zr_116_0 ?_
      refine rr_iconst (n := 1) dX7_readsPlayer_235 ?_
      refine rr_iald (pc := 236) dX7_readsPlayer_236 zk_117 (by omega) (by omega) ?_
      rw [show W1 117 1 = a 1 from r1.2.1.1 1 (by omega) (by omega) (by omega)]
      refine rr_inv0 (M' := MX7_takes) (k := 116) (As := [_, _]) (pc := 237) dX7_readsPlayer_237 lX7_167 kX7_takes vX7_takes zk_116 (by decide) rfl (by decide) (by decide) (Nat.le_of_ble_eq_true rfl) rfl (eX7_takes r1 (by unfold zR; omega) (by unfold zR; omega) (fun c hs W2 o2 r2 => ?_) (fun p9 v hs W2 o2 r2 => ?_))
      · refine rr_inv0 (M' := MX7_sets) (k := 116) (As := [_, _, _]) (pc := 240) dX7_readsPlayer_240 lX7_55 kX7_sets vX7_sets zk_116 (by decide) rfl (by decide) (by decide) (Nat.le_of_ble_eq_true rfl) rfl (eX7_sets (by omega) (by omega) (by omega) (by omega) ?_)
        exact tail _ (o1.tr (o2.tr zOfm.rf.up.R)) (by rw [show zBind (.inr (p, a)) (fun p a => sPart B N p a q wTarget 2) = .inl (c, adv B N p) by show sPart B N p a q wTarget 2 = _; unfold sPart; rw [if_pos hn]; (first | (rw [show sNr B N (if (2 : Int) = 3 then 0 else 1) (vHi 2 (a 1)) (adv B N p) = sNr B N 1 (a 1) (adv B N p) from rfl]) | skip); rw [hs]]; exact zBd.w (p := adv B N p) (c := c) r2 zOfm.rf.up zup_at (by omega))
      · refine rr_inv0 (M' := MX7_sets) (k := 116) (As := [_, _, _]) (pc := 240) dX7_readsPlayer_240 lX7_55 kX7_sets vX7_sets zk_116 (by decide) rfl (by decide) (by decide) (Nat.le_of_ble_eq_true rfl) rfl (eX7_sets (by omega) (by omega) (by omega) (by omega) ?_)
        have hvr := sNr_in hs
        exact tail _ (o1.tr (o2.tr zOfm.rf.up.R)) (by rw [show zBind (.inr (p, a)) (fun p a => sPart B N p a q wTarget 2) = .inr (p9, iup a (58 + 17 * q + 2) v) by show sPart B N p a q wTarget 2 = _; unfold sPart; rw [if_pos hn]; (first | (rw [show sNr B N (if (2 : Int) = 3 then 0 else 1) (vHi 2 (a 1)) (adv B N p) = sNr B N 1 (a 1) (adv B N p) from rfl]) | skip); rw [hs]]; exact zMR.w r2 zOfm.rf.up zup_at (by omega) (zPf_P hPf.1 h0 (Or.inr (Or.inr (Or.inl ⟨rfl, by omega, by omega⟩)))) (by omega) (by omega))
theorem eX7_rpClaims {W : zWd} {B : Nat → Int} {N : Nat} {r : zRs} {q : Int} {x2 : Value} {Q : Option Value → zWd → Prop} {X : zX} (h : zMR W B N 1 r) (h0 : 0 ≤ q) (h6 : q < 6) (tail : ∀ W' : zWd, zOfR W W' → zMR W' B N 1 (zBind r (fun p a => sPart B N p a q wClaims 3)) → RR MX7_readsPlayer 7 0 W' 265 [.ref 116, zI q, x2] [] (zEnd MX7_readsPlayer Q X) X) : RR MX7_readsPlayer 7 0 W 243 [.ref 116, zI q, x2] [] (zEnd MX7_readsPlayer Q X) X := by
  cases r with
  | inl e =>
    refine rr_aload_n (pc := 243) dX7_readsPlayer_243 rfl ?_
    refine rr_ldcs (pc := 244) 19 dX7_readsPlayer_244 rfl ?_
    refine rr_inv0 (M' := MX7_isTaken) (k := 116) (As := [_]) (pc := 246) dX7_readsPlayer_246 lX7_164 kX7_isTaken vX7_isTaken zk_116 (by decide) rfl (by decide) (by decide) (Nat.le_of_ble_eq_true rfl) rfl (eTB h (by decide) ?_)
    refine rr_if_eq (pc := 249) (tgt := 265) dX7_readsPlayer_249 (by decide) (by unfold zR; omega) (fun h249 => ?_) (fun h249 => ?_)
    · exact tail W zOfR.rf h
    · exact (h249 rfl).elim
  | inr g =>
    obtain ⟨p, a⟩ := g
    obtain ⟨hG, hRw, hPf⟩ : zGd W B N p ∧ zRw W 1 a ∧ zPs a := id h
    have psq := hPf.1.sq
    have p0' := hPf.1.2.1
    have hM := h
    refine rr_aload_n (pc := 243) dX7_readsPlayer_243 rfl ?_
    refine rr_ldcs (pc := 244) 19 dX7_readsPlayer_244 rfl ?_
    refine rr_inv0 (M' := MX7_isTaken) (k := 116) (As := [_]) (pc := 246) dX7_readsPlayer_246 lX7_164 kX7_isTaken vX7_isTaken zk_116 (by decide) rfl (by decide) (by decide) (Nat.le_of_ble_eq_true rfl) rfl (eT_Claims h (fun hn => ?_) (fun hn W1 o1 r1 => ?_))
    · refine rr_if_eq (pc := 249) (tgt := 265) dX7_readsPlayer_249 (by decide) (by unfold zR; omega) (fun h => ?_) (fun h => by omega)
      exact tail W zOfR.rf (by rw [show zBind (.inr (p, a)) (fun p a => sPart B N p a q wClaims 3) = .inr (p, a) from if_neg hn]; exact hM)
    · refine rr_if_eq (pc := 249) (tgt := 265) dX7_readsPlayer_249 (by decide) (by unfold zR; omega) (fun h => by omega) (fun h => ?_)
      refine rr_aload_n (pc := 252) dX7_readsPlayer_252 rfl ?_
      refine rr_iload_n (pc := 253) dX7_readsPlayer_253 rfl ?_
      refine rr_iconst (n := 3) dX7_readsPlayer_254 ?_
      refine rr_aload_n (pc := 255) dX7_readsPlayer_255 rfl ?_
      refine rr_iconst (n := 0) dX7_readsPlayer_256 ?_
      refine rr_bipush (n := (9)) dX7_readsPlayer_257 ?_
      refine rr_inv0 (M' := MX7_takes) (k := 116) (As := [_, _]) (pc := 259) dX7_readsPlayer_259 lX7_167 kX7_takes vX7_takes zk_116 (by decide) rfl (by decide) (by decide) (Nat.le_of_ble_eq_true rfl) rfl (eX7_takes r1 (by unfold zR; omega) (by unfold zR; omega) (fun c hs W2 o2 r2 => ?_) (fun p9 v hs W2 o2 r2 => ?_))
      · refine rr_inv0 (M' := MX7_sets) (k := 116) (As := [_, _, _]) (pc := 262) dX7_readsPlayer_262 lX7_55 kX7_sets vX7_sets zk_116 (by decide) rfl (by decide) (by decide) (Nat.le_of_ble_eq_true rfl) rfl (eX7_sets (by omega) (by omega) (by omega) (by omega) ?_)
        exact tail _ (o1.tr (o2.tr zOfm.rf.up.R)) (by rw [show zBind (.inr (p, a)) (fun p a => sPart B N p a q wClaims 3) = .inl (c, adv B N p) by show sPart B N p a q wClaims 3 = _; unfold sPart; rw [if_pos hn]; (first | (rw [show sNr B N (if (3 : Int) = 3 then 0 else 1) (vHi 3 (a 1)) (adv B N p) = sNr B N 0 9 (adv B N p) from rfl]) | skip); rw [hs]]; exact zBd.w (p := adv B N p) (c := c) r2 zOfm.rf.up zup_at (by omega))
      · refine rr_inv0 (M' := MX7_sets) (k := 116) (As := [_, _, _]) (pc := 262) dX7_readsPlayer_262 lX7_55 kX7_sets vX7_sets zk_116 (by decide) rfl (by decide) (by decide) (Nat.le_of_ble_eq_true rfl) rfl (eX7_sets (by omega) (by omega) (by omega) (by omega) ?_)
        have hvr := sNr_in hs
        exact tail _ (o1.tr (o2.tr zOfm.rf.up.R)) (by rw [show zBind (.inr (p, a)) (fun p a => sPart B N p a q wClaims 3) = .inr (p9, iup a (58 + 17 * q + 3) v) by show sPart B N p a q wClaims 3 = _; unfold sPart; rw [if_pos hn]; (first | (rw [show sNr B N (if (3 : Int) = 3 then 0 else 1) (vHi 3 (a 1)) (adv B N p) = sNr B N 0 9 (adv B N p) from rfl]) | skip); rw [hs]]; exact zMR.w r2 zOfm.rf.up zup_at (by omega) (zPf_P hPf.1 h0 (Or.inr (Or.inr (Or.inr (Or.inl ⟨rfl, by omega, by omega⟩))))) (by omega) (by omega))
theorem eX7_rpMarker {W : zWd} {B : Nat → Int} {N : Nat} {r : zRs} {q : Int} {x2 : Value} {Q : Option Value → zWd → Prop} {X : zX} (h : zMR W B N 1 r) (h0 : 0 ≤ q) (h6 : q < 6) (tail : ∀ W' : zWd, zOfR W W' → zMR W' B N 1 (zBind r (fun p a => sPart B N p a q wMarker 5)) → RR MX7_readsPlayer 7 0 W' 308 [.ref 116, zI q, x2] [] (zEnd MX7_readsPlayer Q X) X) : RR MX7_readsPlayer 7 0 W 282 [.ref 116, zI q, x2] [] (zEnd MX7_readsPlayer Q X) X := by
  cases r with
  | inl e =>
    refine rr_aload_n (pc := 282) dX7_readsPlayer_282 rfl ?_
    refine rr_ldcs (pc := 283) 21 dX7_readsPlayer_283 rfl ?_
    refine rr_inv0 (M' := MX7_isTaken) (k := 116) (As := [_]) (pc := 285) dX7_readsPlayer_285 lX7_164 kX7_isTaken vX7_isTaken zk_116 (by decide) rfl (by decide) (by decide) (Nat.le_of_ble_eq_true rfl) rfl (eTB h (by decide) ?_)
    refine rr_if_eq (pc := 288) (tgt := 308) dX7_readsPlayer_288 (by decide) (by unfold zR; omega) (fun h288 => ?_) (fun h288 => ?_)
    · exact tail W zOfR.rf h
    · exact (h288 rfl).elim
  | inr g =>
    obtain ⟨p, a⟩ := g
    obtain ⟨hG, hRw, hPf⟩ : zGd W B N p ∧ zRw W 1 a ∧ zPs a := id h
    have psq := hPf.1.sq
    have p0' := hPf.1.2.1
    have hM := h
    refine rr_aload_n (pc := 282) dX7_readsPlayer_282 rfl ?_
    refine rr_ldcs (pc := 283) 21 dX7_readsPlayer_283 rfl ?_
    refine rr_inv0 (M' := MX7_isTaken) (k := 116) (As := [_]) (pc := 285) dX7_readsPlayer_285 lX7_164 kX7_isTaken vX7_isTaken zk_116 (by decide) rfl (by decide) (by decide) (Nat.le_of_ble_eq_true rfl) rfl (eT_Marker h (fun hn => ?_) (fun hn W1 o1 r1 => ?_))
    · refine rr_if_eq (pc := 288) (tgt := 308) dX7_readsPlayer_288 (by decide) (by unfold zR; omega) (fun h => ?_) (fun h => by omega)
      exact tail W zOfR.rf (by rw [show zBind (.inr (p, a)) (fun p a => sPart B N p a q wMarker 5) = .inr (p, a) from if_neg hn]; exact hM)
    · refine rr_if_eq (pc := 288) (tgt := 308) dX7_readsPlayer_288 (by decide) (by unfold zR; omega) (fun h => by omega) (fun h => ?_)
      refine rr_aload_n (pc := 291) dX7_readsPlayer_291 rfl ?_
      refine rr_iload_n (pc := 292) dX7_readsPlayer_292 rfl ?_
      refine rr_iconst (n := 5) dX7_readsPlayer_293 ?_
      refine rr_aload_n (pc := 294) dX7_readsPlayer_294 rfl ?_
      refine rr_iconst (n := 1) dX7_readsPlayer_295 ?_
      refine rr_aload_n (pc := 296) dX7_readsPlayer_296 rfl ?_
      refine rr_getR (pc := 297) dX7_readsPlayer_297 fX7_7 zk_116 zr_116_0 ?_
      refine rr_iconst (n := 1) dX7_readsPlayer_300 ?_
      refine rr_iald (pc := 301) dX7_readsPlayer_301 zk_117 (by omega) (by omega) ?_
      rw [show W1 117 1 = a 1 from r1.2.1.1 1 (by omega) (by omega) (by omega)]
      refine rr_inv0 (M' := MX7_takes) (k := 116) (As := [_, _]) (pc := 302) dX7_readsPlayer_302 lX7_167 kX7_takes vX7_takes zk_116 (by decide) rfl (by decide) (by decide) (Nat.le_of_ble_eq_true rfl) rfl (eX7_takes r1 (by unfold zR; omega) (by unfold zR; omega) (fun c hs W2 o2 r2 => ?_) (fun p9 v hs W2 o2 r2 => ?_))
      · refine rr_inv0 (M' := MX7_sets) (k := 116) (As := [_, _, _]) (pc := 305) dX7_readsPlayer_305 lX7_55 kX7_sets vX7_sets zk_116 (by decide) rfl (by decide) (by decide) (Nat.le_of_ble_eq_true rfl) rfl (eX7_sets (by omega) (by omega) (by omega) (by omega) ?_)
        exact tail _ (o1.tr (o2.tr zOfm.rf.up.R)) (by rw [show zBind (.inr (p, a)) (fun p a => sPart B N p a q wMarker 5) = .inl (c, adv B N p) by show sPart B N p a q wMarker 5 = _; unfold sPart; rw [if_pos hn]; (first | (rw [show sNr B N (if (5 : Int) = 3 then 0 else 1) (vHi 5 (a 1)) (adv B N p) = sNr B N 1 (a 1) (adv B N p) from rfl]) | skip); rw [hs]]; exact zBd.w (p := adv B N p) (c := c) r2 zOfm.rf.up zup_at (by omega))
      · refine rr_inv0 (M' := MX7_sets) (k := 116) (As := [_, _, _]) (pc := 305) dX7_readsPlayer_305 lX7_55 kX7_sets vX7_sets zk_116 (by decide) rfl (by decide) (by decide) (Nat.le_of_ble_eq_true rfl) rfl (eX7_sets (by omega) (by omega) (by omega) (by omega) ?_)
        have hvr := sNr_in hs
        exact tail _ (o1.tr (o2.tr zOfm.rf.up.R)) (by rw [show zBind (.inr (p, a)) (fun p a => sPart B N p a q wMarker 5) = .inr (p9, iup a (58 + 17 * q + 5) v) by show sPart B N p a q wMarker 5 = _; unfold sPart; rw [if_pos hn]; (first | (rw [show sNr B N (if (5 : Int) = 3 then 0 else 1) (vHi 5 (a 1)) (adv B N p) = sNr B N 1 (a 1) (adv B N p) from rfl]) | skip); rw [hs]]; exact zMR.w r2 zOfm.rf.up zup_at (by omega) (zPf_P hPf.1 h0 (Or.inr (Or.inr (Or.inr (Or.inr (Or.inr (Or.inl ⟨rfl, by omega, by omega⟩))))))) (by omega) (by omega))
theorem sOwn_s {B : Nat → Int} {N p n : Nat} {q : Int} {a : Int → Int} (h : sW B N p wOwns = true) : sOwn B N q (n + 1) p a = zBind (sOwn1 B N q (adv B N p) a) (fun p a => sOwn B N q n p a) := by
  show (if _ then _ else _) = _
  rw [if_pos h]
  unfold sOwn1
  cases hs : sNr B N 1 (a 1) (adv B N p) with
  | inl e => rfl
  | inr g =>
    by_cases z : aO a g.2 = -1
    · show (if _ then _ else _) = zBind (if _ then _ else _) _
      rw [if_pos z, if_pos z]; rfl
    · show (if _ then _ else _) = zBind (if _ then _ else _) _
      rw [if_neg z, if_neg z]; rfl
theorem sOwn_0 {B : Nat → Int} {N p n : Nat} {q : Int} {a : Int → Int} (h : ¬ sW B N p wOwns = true) : sOwn B N q (n + 1) p a = .inr (p, a) := by
  show (if _ then _ else _) = _
  rw [if_neg h]
/-- the free squares -/
def uFr (a : Int → Int) : Nat := cN (fun s => decide (aO a s = -1)) (a 1).toNat
theorem cN_le (P : Nat → Bool) : ∀ n, cN P n ≤ n := by
  intro n
  induction n with
  | zero => exact Nat.le_refl _
  | succ n ih => unfold cN; split <;> omega
theorem cN_less {P P' : Nat → Bool} {s : Nat} (h1 : P s = true) (h2 : ¬ P' s = true) (h : ∀ i, i ≠ s → P' i = P i) : ∀ n, cN P' n + (if 1 ≤ s ∧ s ≤ n then 1 else 0) = cN P n := by
  intro n
  induction n with
  | zero => rw [if_neg (by omega)]; rfl
  | succ n ih =>
    unfold cN
    by_cases e : n + 1 = s
    · subst e
      rw [if_neg (by omega)] at ih
      rw [if_pos h1, if_neg h2, if_pos (by omega)]
      omega
    · rw [h _ e]
      by_cases z : 1 ≤ s ∧ s ≤ n
      · rw [if_pos z] at ih
        rw [if_pos (show 1 ≤ s ∧ s ≤ n + 1 by omega)]
        omega
      · rw [if_neg z] at ih
        rw [if_neg (show ¬ (1 ≤ s ∧ s ≤ n + 1) by omega)]
        omega
theorem uFr_own {a : Int → Int} {v q : Int} (h1 : 1 ≤ v) (h2 : v ≤ a 1) (h20 : a 1 ≤ 20) (h : aO a v = -1) (hq : 0 ≤ q) : uFr (iup a (18 + 2 * (v - 1) + (0 : Nat)) (q + 1)) + 1 = uFr a := by
  have h9 := cN_less (P := fun s => decide (aO a s = -1)) (P' := fun s => decide (aO (iup a (18 + 2 * (v - 1) + (0 : Nat)) (q + 1)) s = -1)) (s := v.toNat) (decide_eq_true (by rw [show ((v.toNat : Nat) : Int) = v by omega]; exact h)) (fun z => by
    have z := of_decide_eq_true z
    unfold aO iup at z
    rw [if_pos (by omega)] at z; omega) (fun i hi => by
    have e : aO (iup a (18 + 2 * (v - 1) + (0 : Nat)) (q + 1)) i = aO a i := by unfold aO; rw [iup_n (by omega)]
    show decide _ = decide _
    rw [e]) (a 1).toNat
  rw [if_pos (by omega)] at h9
  unfold uFr
  rw [show iup a (18 + 2 * (v - 1) + (0 : Nat)) (q + 1) 1 = a 1 from iup_n (by omega)]
  exact h9
theorem sOwn1_in {B : Nat → Int} {N p p' : Nat} {q : Int} {a a' : Int → Int} (h : sOwn1 B N q p a = .inr (p', a')) : ∃ v, 1 ≤ v ∧ v ≤ a 1 ∧ aO a v = -1 ∧ a' = iup a (18 + 2 * (v - 1) + (0 : Nat)) (q + 1) := by
  unfold sOwn1 at h
  cases hs : sNr B N 1 (a 1) p with
  | inl e => rw [hs] at h; cases h
  | inr g =>
    rw [hs] at h
    obtain ⟨p9, v⟩ := g
    have hv := sNr_in hs
    by_cases z : aO a v = -1
    · have h : (if aO a v = -1 then _ else _) = (.inr (p', a') : zRs) := h
      rw [if_pos z] at h
      injection h with h
      injection h with h1 h2
      exact ⟨v, hv.1, hv.2, z, h2.symm⟩
    · have h : (if aO a v = -1 then _ else _) = (.inr (p', a') : zRs) := h
      rw [if_neg z] at h
      cases h
theorem eX7_rpOwnsB {W : zWd} {d c : Int} {p : Nat} {q : Int} {x2 : Value} {Q : Option Value → zWd → Prop} {X : zX} (h : zBd W d c p) (tail : ∀ W' : zWd, zOfR W W' → zBd W' d c p → RR MX7_readsPlayer 7 0 W' 282 [.ref 116, zI q, x2] [] (zEnd MX7_readsPlayer Q X) X) : RR MX7_readsPlayer 7 0 W 265 [.ref 116, zI q, x2] [] (zEnd MX7_readsPlayer Q X) X := by
  refine rr_aload_n (pc := 265) dX7_readsPlayer_265 rfl ?_
  refine rr_ldcs (pc := 266) 20 dX7_readsPlayer_266 rfl ?_
  refine rr_inv0 (M' := MX7_isTaken) (k := 116) (As := [_]) (pc := 268) dX7_readsPlayer_268 lX7_164 kX7_isTaken vX7_isTaken zk_116 (by decide) rfl (by decide) (by decide) (Nat.le_of_ble_eq_true rfl) rfl (eTB h (by decide) ?_)
  refine rr_if_eq (pc := 271) (tgt := 282) dX7_readsPlayer_271 (by decide) (by unfold zR; omega) (fun h271 => ?_) (fun h271 => ?_)
  · exact tail W zOfR.rf h
  · exact (h271 rfl).elim
theorem eX7_rpOwnsG {B : Nat → Int} {N : Nat} {q : Int} {x2 : Value} {Q : Option Value → zWd → Prop} {X : zX} (h0 : 0 ≤ q) (h6 : q < 6) : ∀ (n : Nat) (W : zWd) (p : Nat) (a : Int → Int), zMR W B N 1 (.inr (p, a)) → a 2 = q + 1 → uFr a < n → (∀ W' : zWd, zOfR W W' → zMR W' B N 1 (sOwn B N q n p a) → RR MX7_readsPlayer 7 0 W' 282 [.ref 116, zI q, x2] [] (zEnd MX7_readsPlayer Q X) X) → RR MX7_readsPlayer 7 0 W 265 [.ref 116, zI q, x2] [] (zEnd MX7_readsPlayer Q X) X := by
  intro n
  induction n with
  | zero => intro W p a _ _ hu; omega
  | succ n ih =>
    intro W p a h ha2 hu tail
    obtain ⟨hG, hRw, hPf⟩ : zGd W B N p ∧ zRw W 1 a ∧ zPs a := id h
    have psq := hPf.1.sq
    have p0' := hPf.1.2.1
    have h : zMR W B N 1 (.inr (p, a)) := ⟨hG, hRw, hPf⟩
    have hM := h
    refine rr_aload_n (pc := 265) dX7_readsPlayer_265 rfl ?_
    refine rr_ldcs (pc := 266) 20 dX7_readsPlayer_266 rfl ?_
    refine rr_inv0 (M' := MX7_isTaken) (k := 116) (As := [_]) (pc := 268) dX7_readsPlayer_268 lX7_164 kX7_isTaken vX7_isTaken zk_116 (by decide) rfl (by decide) (by decide) (Nat.le_of_ble_eq_true rfl) rfl (eT_Owns h (fun hn => ?_) (fun hn W1 o1 r1 => ?_))
    · refine rr_if_eq (pc := 271) (tgt := 282) dX7_readsPlayer_271 (by decide) (by unfold zR; omega) (fun h => ?_) (fun h => by omega)
      exact tail W zOfR.rf (by rw [sOwn_0 hn]; exact hM)
    · refine rr_if_eq (pc := 271) (tgt := 282) dX7_readsPlayer_271 (by decide) (by unfold zR; omega) (fun h => by omega) (fun h => ?_)
      refine rr_aload_n (pc := 274) dX7_readsPlayer_274 rfl ?_
      refine rr_iload_n (pc := 275) dX7_readsPlayer_275 rfl ?_
      refine rr_inv0 (M' := MX7_readsOwned) (k := 116) (As := [_]) (pc := 276) dX7_readsPlayer_276 lX7_178 kX7_readsOwned vX7_readsOwned zk_116 (by decide) rfl (by decide) (by decide) (Nat.le_of_ble_eq_true rfl) rfl (eX7_readsOwned r1 h0 (by omega) (fun W2 o2 r2 => ?_))
      refine rr_goto (pc := 279) (tgt := 265) dX7_readsPlayer_279 (by decide) ?_
      cases hr : sOwn1 B N q (adv B N p) a with
      | inl e =>
        rw [hr] at r2
        exact eX7_rpOwnsB r2 (fun W' o' h' => tail W' (o1.tr (o2.tr o')) (by rw [sOwn_s hn, hr]; exact h'))
      | inr g =>
        obtain ⟨p9, a9⟩ := g
        rw [hr] at r2
        obtain ⟨v, v1, v2, v3, v4⟩ := sOwn1_in hr
        have hu9 := uFr_own v1 v2 (by omega) v3 h0
        rw [← v4] at hu9
        exact ih W2 p9 a9 r2 (by rw [v4, iup_n (by omega)]; exact ha2) (by omega) (fun W' o' h' => tail W' (o1.tr (o2.tr o')) (by rw [sOwn_s hn, hr]; exact h'))
theorem eX7_rpOwns {W : zWd} {B : Nat → Int} {N : Nat} {r : zRs} {q : Int} {x2 : Value} {Q : Option Value → zWd → Prop} {X : zX} (h : zMR W B N 1 r) (h0 : 0 ≤ q) (h6 : q < 6) (ha : ∀ g, r = .inr g → g.2 2 = q + 1) (tail : ∀ W' : zWd, zOfR W W' → zMR W' B N 1 (zBind r (fun p a => sOwn B N q 21 p a)) → RR MX7_readsPlayer 7 0 W' 282 [.ref 116, zI q, x2] [] (zEnd MX7_readsPlayer Q X) X) : RR MX7_readsPlayer 7 0 W 265 [.ref 116, zI q, x2] [] (zEnd MX7_readsPlayer Q X) X := by
  cases r with
  | inl e => exact eX7_rpOwnsB h tail
  | inr g =>
    have psq := h.2.2.1.sq
    have p0' := h.2.2.1.2.1
    have := cN_le (fun s => decide (aO g.2 s = -1)) (g.2 1).toNat
    exact eX7_rpOwnsG h0 h6 21 W g.1 g.2 h (ha g rfl) (by unfold uFr; omega) tail
theorem sSemi_m {B : Nat → Int} {N : Nat} {r : zRs} : sMst B N (sGr B N 59 r) r = zBind r (fun p a => sSemi B N p a) := by
  cases r with
  | inl e => rfl
  | inr g =>
    show (if decide (g.1 < N ∧ B g.1 = 59) = true then _ else _) = sSemi B N g.1 g.2
    unfold sSemi
    by_cases z : g.1 < N ∧ B g.1 = 59
    · rw [if_pos (decide_eq_true z), if_pos z, sEd_s (Or.inl rfl) z.1 z.2]
    · rw [if_neg (fun y => z (of_decide_eq_true y)), if_neg z]
theorem zMR.inc {W : zWd} {B : Nat → Int} {N : Nat} {r : zRs} (h : zMR W B N 1 r) : zMR (zup W 117 2 (W 117 2 + 1)) B N 0 r := by
  have o : zOfm W (zup W 117 2 (W 117 2 + 1)) := zOfm.rf.up
  cases r with
  | inl e =>
    obtain ⟨b1, b2, b3, b4, b5, b6, b7⟩ : zBd W 1 e.1 e.2 := h
    show zBd _ 0 e.1 e.2
    unfold zBd
    rw [o 116 (by decide), zup_s]
    exact ⟨b1, b2, b3, b4, b5, by omega, by omega⟩
  | inr g =>
    obtain ⟨hG, ⟨r1, r2, r3, r4⟩, hP⟩ := h
    have h26 := hP.1.2.2.2.2.2.1
    refine ⟨zGd.m hG o, ⟨fun j g1 g2 g3 => by rw [zup_i g3]; exact r1 j g1 g2 g3, by rw [zup_s]; omega, by rw [zup_s]; omega, by rw [zup_s]; omega⟩, hP⟩
theorem eX7_rpEnd {W : zWd} {B : Nat → Int} {N : Nat} {r : zRs} {q : Int} {x2 : Value} {Q : Option Value → zWd → Prop} {X : zX} (h : zMR W B N 1 r) (hq : ∀ W' : zWd, zOfR W W' → zMR W' B N 0 (zBind r (fun p a => sSemi B N p a)) → Q none W') : RR MX7_readsPlayer 7 0 W 308 [.ref 116, zI q, x2] [] (zEnd MX7_readsPlayer Q X) X := by
  refine rr_aload_n (pc := 308) dX7_readsPlayer_308 rfl ?_
  refine rr_aload_n (pc := 309) dX7_readsPlayer_309 rfl ?_
  refine rr_bipush (n := (59)) dX7_readsPlayer_310 ?_
  refine rr_inv0 (M' := MX7_isSign) (k := 116) (As := [_]) (pc := 312) dX7_readsPlayer_312 lX7_183 kX7_isSign vX7_isSign zk_116 (by decide) rfl (by decide) (by decide) (Nat.le_of_ble_eq_true rfl) rfl (eX7_isSign h (Or.inl rfl) ?_)
  refine rr_inv0 (M' := MX7_must) (k := 116) (As := [_]) (pc := 315) dX7_readsPlayer_315 lX7_150 kX7_must vX7_must zk_116 (by decide) rfl (by decide) (by decide) (Nat.le_of_ble_eq_true rfl) rfl (eX7_must h (fun W1 o1 r1 => ?_))
  rw [sSemi_m] at r1
  refine rr_aload_n (pc := 318) dX7_readsPlayer_318 rfl ?_
  refine rr_getR (pc := 319) dX7_readsPlayer_319 fX7_7 zk_116 zr_116_0 ?_
  refine rr_iconst (n := 2) dX7_readsPlayer_322 ?_
  refine rr_dup2 (pc := 323) dX7_readsPlayer_323 ?_
  refine rr_iald (pc := 324) dX7_readsPlayer_324 zk_117 (by omega) (by omega) ?_
  refine rr_iconst (n := 1) dX7_readsPlayer_325 ?_
  refine rr_iadd (pc := 326) dX7_readsPlayer_326 ?_
  refine rr_iast (pc := 327) dX7_readsPlayer_327 zk_117 (by omega) (by omega) ?_
  exact rr_retv (pc := 328) dX7_readsPlayer_328 rfl rfl (hq _ (o1.tr zOfm.rf.up.R) r1.inc)
theorem sPart_2 {B : Nat → Int} {N : Nat} {q w : Int} {wd : List Int} {r : zRs} {x : Int} (hq : 0 ≤ q) (hw : 0 ≤ w) (h : ∀ g, r = .inr g → g.2 2 = x) : ∀ g, zBind r (fun p a => sPart B N p a q wd w) = .inr g → g.2 2 = x := by
  intro g hg
  obtain ⟨p9, a9, e1, e2⟩ := zBind_in (p' := g.1) (a' := g.2) hg
  have e3 := sPart_n (B := B) (N := N) (p := p9) (a := a9) (p' := g.1) (a' := g.2) (wd := wd) (w := w) hq hw e2 (j := 2) (by omega)
  rw [e3]
  exact h (p9, a9) e1
theorem eX7_rpAll {W : zWd} {B : Nat → Int} {N : Nat} {r : zRs} {q : Int} {x2 : Value} {Q : Option Value → zWd → Prop} {X : zX} (h : zMR W B N 1 r) (h0 : 0 ≤ q) (h6 : q < 6) (ha : ∀ g, r = .inr g → g.2 2 = q + 1) (hq : ∀ W' : zWd, zOfR W W' → zMR W' B N 0 (zBind r (fun p a => sParts B N p a q)) → Q none W') : RR MX7_readsPlayer 7 0 W 174 [.ref 116, zI q, x2] [] (zEnd MX7_readsPlayer Q X) X := by
  refine eX7_rpReach h h0 h6 (fun W1 o1 r1 => ?_)
  have a1 := sPart_2 (B := B) (N := N) (wd := wReach) (w := 0) h0 (by decide) ha
  refine eX7_rpBalance r1 h0 h6 (fun W2 o2 r2 => ?_)
  have a2 := sPart_2 (B := B) (N := N) (wd := wBalance) (w := 1) h0 (by decide) a1
  refine eX7_rpTarget r2 h0 h6 (fun W3 o3 r3 => ?_)
  have a3 := sPart_2 (B := B) (N := N) (wd := wTarget) (w := 2) h0 (by decide) a2
  refine eX7_rpClaims r3 h0 h6 (fun W4 o4 r4 => ?_)
  have a4 := sPart_2 (B := B) (N := N) (wd := wClaims) (w := 3) h0 (by decide) a3
  refine eX7_rpOwns r4 h0 h6 a4 (fun W5 o5 r5 => ?_)
  refine eX7_rpMarker r5 h0 h6 (fun W6 o6 r6 => ?_)
  refine eX7_rpEnd r6 (fun W7 o7 r7 => hq W7 (o1.tr (o2.tr (o3.tr (o4.tr (o5.tr (o6.tr o7)))))) ?_)
  rw [zBind_assoc, zBind_assoc, zBind_assoc, zBind_assoc, zBind_assoc, zBind_assoc] at r7
  exact r7
