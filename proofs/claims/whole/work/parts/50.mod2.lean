def zOfl (W W' : zWd) : Prop := (∀ k : Nat, k ≠ 116 → k ≠ 124 → k ≠ 125 → k ≠ 126 → W' k = W k) ∧ ∀ j : Int, j ≠ 20 → j ≠ 21 → W' 116 j = W 116 j
theorem zOfl.rf {W : zWd} : zOfl W W := ⟨fun _ _ _ _ _ => rfl, fun _ _ _ => rfl⟩
theorem zOfl.tr {W W' W'' : zWd} (h : zOfl W W') (h2 : zOfl W' W'') : zOfl W W'' := ⟨fun k g1 g2 g3 g4 => (h2.1 k g1 g2 g3 g4).trans (h.1 k g1 g2 g3 g4), fun j g1 g2 => (h2.2 j g1 g2).trans (h.2 j g1 g2)⟩
theorem zOfl.up {W W' : zWd} {k : Nat} {i v : Int} (h : zOfl W W') (hk : k = 124 ∨ k = 125 ∨ k = 126) : zOfl W (zup W' k i v) := ⟨fun k' g1 g2 g3 g4 => by rw [zup_other k' (by omega)]; exact h.1 k' g1 g2 g3 g4, fun j g1 g2 => by rw [zup_other 116 (by omega)]; exact h.2 j g1 g2⟩
theorem zOfl.up6 {W W' : zWd} {i v : Int} (h : zOfl W W') (hi : i = 20 ∨ i = 21) : zOfl W (zup W' 116 i v) := ⟨fun k' g1 g2 g3 g4 => by rw [zup_other k' g1]; exact h.1 k' g1 g2 g3 g4, fun j g1 g2 => by rw [zup_i (by omega)]; exact h.2 j g1 g2⟩
/-- the way is laid in the reference -/
def zLy (W : zWd) (l : List Nat) : Prop := W 116 21 = l.length ∧ ∀ i : Nat, i < l.length → W 126 i = (l.getD i 0 : Nat)
theorem zWF_2 {a : Int → Int} {q tg bk : Int} {k : Nat} (h : a 0 + 1 ≤ (k : Int)) : zWF a q tg bk k = 2 := if_pos (Or.inr h)
theorem zMS.cg {W W' : zWd} {F : Nat → Int} {L must : Nat} (h : zMS W F L must) (e7 : W' 117 = W 117) (e6 : W' 116 20 = W 116 20) (e5 : W' 125 = W 125) : zMS W' F L must := by
  unfold zMS at *; rw [e7, e6, e5]; exact h
theorem z_appDN {l : List Nat} {v i : Nat} (h : i < l.length) : (l ++ [v]).getD i 0 = l.getD i 0 := by
  rw [List.getD_eq_getElem?_getD, List.getD_eq_getElem?_getD, List.getElem?_append_left h]
theorem z_appLN {l : List Nat} {v : Nat} : (l ++ [v]).getD l.length 0 = v := by
  rw [List.getD_eq_getElem?_getD, List.getElem?_append_right (Nat.le_refl _), Nat.sub_self]; rfl
theorem zBy_rngV {F : Nat → Int} {L must rc bal k run to : Nat} : 0 ≤ zBy F L must bal (zV F L must rc bal) k run to ∧ zBy F L must bal (zV F L must rc bal) k run to ≤ 1000000 + ((to : Int) - k) * ((to : Int) - k) := by
  have h := zV_rng (F := F) (L := L) (must := must) (rc := rc) (bal := bal) to (zRn F to run)
  have h2 : 0 ≤ ((to : Int) - k) * ((to : Int) - k) := by
    rcases Int.le_total 0 ((to : Int) - k) with g | g
    · exact Int.mul_nonneg g g
    · exact Int.mul_nonneg_of_nonpos_of_nonpos g g
  unfold zBy
  split <;> omega
theorem zMn_rngV {F : Nat → Int} {L must rc bal k run : Nat} {m : Nat} : 0 ≤ zMn (fun j => zBy F L must bal (zV F L must rc bal) k run (k + j)) m ∧ zMn (fun j => zBy F L must bal (zV F L must rc bal) k run (k + j)) m ≤ 1000000 := by
  refine ⟨?_, zMn_le _ _⟩
  induction m with
  | zero => show (0 : Int) ≤ 1000000; omega
  | succ m ih =>
    unfold zMn
    split
    · exact zBy_rngV.1
    · exact ih
theorem dX7_lays_0 : decode cX7_lays 0 = .ok (.aload_n 0, 1) := by decide +kernel
theorem dX7_lays_1 : decode cX7_lays 1 = .ok (.iload 4, 2) := by decide +kernel
theorem dX7_lays_3 : decode cX7_lays 3 = .ok (.ifCond .eq 20, 3) := by decide +kernel
theorem dX7_lays_6 : decode cX7_lays 6 = .ok (.aload_n 0, 1) := by decide +kernel
theorem dX7_lays_7 : decode cX7_lays 7 = .ok (.getfield 7, 3) := by decide +kernel
theorem dX7_lays_10 : decode cX7_lays 10 = .ok (.iconst 0, 1) := by decide +kernel
theorem dX7_lays_11 : decode cX7_lays 11 = .ok (.iaload, 1) := by decide +kernel
theorem dX7_lays_12 : decode cX7_lays 12 = .ok (.aload_n 0, 1) := by decide +kernel
theorem dX7_lays_13 : decode cX7_lays 13 = .ok (.iload_n 2, 1) := by decide +kernel
theorem dX7_lays_14 : decode cX7_lays 14 = .ok (.invokevirtual 245, 3) := by decide +kernel
theorem dX7_lays_17 : decode cX7_lays 17 = .ok (.isub, 1) := by decide +kernel
theorem dX7_lays_18 : decode cX7_lays 18 = .ok (.iconst 1, 1) := by decide +kernel
theorem dX7_lays_19 : decode cX7_lays 19 = .ok (.isub, 1) := by decide +kernel
theorem dX7_lays_20 : decode cX7_lays 20 = .ok (.goto 4, 3) := by decide +kernel
theorem dX7_lays_23 : decode cX7_lays 23 = .ok (.iconst 0, 1) := by decide +kernel
theorem dX7_lays_24 : decode cX7_lays 24 = .ok (.putfield 234, 3) := by decide +kernel
theorem dX7_lays_27 : decode cX7_lays 27 = .ok (.iconst 1, 1) := by decide +kernel
theorem dX7_lays_28 : decode cX7_lays 28 = .ok (.istore 5, 2) := by decide +kernel
theorem dX7_lays_30 : decode cX7_lays 30 = .ok (.iload 5, 2) := by decide +kernel
theorem dX7_lays_32 : decode cX7_lays 32 = .ok (.aload_n 0, 1) := by decide +kernel
theorem dX7_lays_33 : decode cX7_lays 33 = .ok (.invokevirtual 231, 3) := by decide +kernel
theorem dX7_lays_36 : decode cX7_lays 36 = .ok (.if_icmp .ge 39, 3) := by decide +kernel
theorem dX7_lays_39 : decode cX7_lays 39 = .ok (.aload_n 0, 1) := by decide +kernel
theorem dX7_lays_40 : decode cX7_lays 40 = .ok (.getfield 39, 3) := by decide +kernel
theorem dX7_lays_43 : decode cX7_lays 43 = .ok (.iload 5, 2) := by decide +kernel
theorem dX7_lays_45 : decode cX7_lays 45 = .ok (.aload_n 0, 1) := by decide +kernel
theorem dX7_lays_46 : decode cX7_lays 46 = .ok (.iload_n 1, 1) := by decide +kernel
theorem dX7_lays_47 : decode cX7_lays 47 = .ok (.aload_n 0, 1) := by decide +kernel
theorem dX7_lays_48 : decode cX7_lays 48 = .ok (.iload 5, 2) := by decide +kernel
theorem dX7_lays_50 : decode cX7_lays 50 = .ok (.iload 4, 2) := by decide +kernel
theorem dX7_lays_52 : decode cX7_lays 52 = .ok (.invokevirtual 248, 3) := by decide +kernel
theorem dX7_lays_55 : decode cX7_lays 55 = .ok (.iload 4, 2) := by decide +kernel
theorem dX7_lays_57 : decode cX7_lays 57 = .ok (.ifCond .eq 7, 3) := by decide +kernel
theorem dX7_lays_60 : decode cX7_lays 60 = .ok (.iconst 0, 1) := by decide +kernel
theorem dX7_lays_61 : decode cX7_lays 61 = .ok (.goto 4, 3) := by decide +kernel
theorem dX7_lays_64 : decode cX7_lays 64 = .ok (.iload_n 2, 1) := by decide +kernel
theorem dX7_lays_65 : decode cX7_lays 65 = .ok (.invokevirtual 252, 3) := by decide +kernel
theorem dX7_lays_68 : decode cX7_lays 68 = .ok (.iastore, 1) := by decide +kernel
theorem dX7_lays_69 : decode cX7_lays 69 = .ok (.iinc 5 1, 3) := by decide +kernel
theorem dX7_lays_72 : decode cX7_lays 72 = .ok (.goto (-42), 3) := by decide +kernel
theorem dX7_lays_75 : decode cX7_lays 75 = .ok (.aload_n 0, 1) := by decide +kernel
theorem dX7_lays_76 : decode cX7_lays 76 = .ok (.invokevirtual 231, 3) := by decide +kernel
theorem dX7_lays_79 : decode cX7_lays 79 = .ok (.istore 5, 2) := by decide +kernel
theorem dX7_lays_81 : decode cX7_lays 81 = .ok (.iload 5, 2) := by decide +kernel
theorem dX7_lays_83 : decode cX7_lays 83 = .ok (.ifCond .lt 96, 3) := by decide +kernel
theorem dX7_lays_86 : decode cX7_lays 86 = .ok (.iconst 0, 1) := by decide +kernel
theorem dX7_lays_87 : decode cX7_lays 87 = .ok (.istore 6, 2) := by decide +kernel
theorem dX7_lays_89 : decode cX7_lays 89 = .ok (.iload 6, 2) := by decide +kernel
theorem dX7_lays_91 : decode cX7_lays 91 = .ok (.bipush 10, 2) := by decide +kernel
theorem dX7_lays_93 : decode cX7_lays 93 = .ok (.if_icmp .ge 80, 3) := by decide +kernel
theorem dX7_lays_96 : decode cX7_lays 96 = .ok (.iload 5, 2) := by decide +kernel
theorem dX7_lays_98 : decode cX7_lays 98 = .ok (.aload_n 0, 1) := by decide +kernel
theorem dX7_lays_99 : decode cX7_lays 99 = .ok (.invokevirtual 231, 3) := by decide +kernel
theorem dX7_lays_102 : decode cX7_lays 102 = .ok (.if_icmp .ne 7, 3) := by decide +kernel
theorem dX7_lays_105 : decode cX7_lays 105 = .ok (.iconst 0, 1) := by decide +kernel
theorem dX7_lays_106 : decode cX7_lays 106 = .ok (.goto 5, 3) := by decide +kernel
theorem dX7_lays_109 : decode cX7_lays 109 = .ok (.ldc 244, 2) := by decide +kernel
theorem dX7_lays_111 : decode cX7_lays 111 = .ok (.istore 7, 2) := by decide +kernel
theorem dX7_lays_113 : decode cX7_lays 113 = .ok (.iload 5, 2) := by decide +kernel
theorem dX7_lays_115 : decode cX7_lays 115 = .ok (.iconst 1, 1) := by decide +kernel
theorem dX7_lays_116 : decode cX7_lays 116 = .ok (.iadd, 1) := by decide +kernel
theorem dX7_lays_117 : decode cX7_lays 117 = .ok (.istore 8, 2) := by decide +kernel
theorem dX7_lays_119 : decode cX7_lays 119 = .ok (.iload 8, 2) := by decide +kernel
theorem dX7_lays_121 : decode cX7_lays 121 = .ok (.iload 5, 2) := by decide +kernel
theorem dX7_lays_123 : decode cX7_lays 123 = .ok (.iload_n 3, 1) := by decide +kernel
theorem dX7_lays_124 : decode cX7_lays 124 = .ok (.iadd, 1) := by decide +kernel
theorem dX7_lays_125 : decode cX7_lays 125 = .ok (.if_icmp .gt 27, 3) := by decide +kernel
theorem dX7_lays_128 : decode cX7_lays 128 = .ok (.iload 7, 2) := by decide +kernel
theorem dX7_lays_130 : decode cX7_lays 130 = .ok (.aload_n 0, 1) := by decide +kernel
theorem dX7_lays_131 : decode cX7_lays 131 = .ok (.iload_n 1, 1) := by decide +kernel
theorem dX7_lays_132 : decode cX7_lays 132 = .ok (.iload 5, 2) := by decide +kernel
theorem dX7_lays_134 : decode cX7_lays 134 = .ok (.iload 8, 2) := by decide +kernel
theorem dX7_lays_136 : decode cX7_lays 136 = .ok (.iload 6, 2) := by decide +kernel
theorem dX7_lays_138 : decode cX7_lays 138 = .ok (.invokevirtual 256, 3) := by decide +kernel
theorem dX7_lays_141 : decode cX7_lays 141 = .ok (.invokestatic 107, 3) := by decide +kernel
theorem dX7_lays_144 : decode cX7_lays 144 = .ok (.istore 7, 2) := by decide +kernel
theorem dX7_lays_146 : decode cX7_lays 146 = .ok (.iinc 8 1, 3) := by decide +kernel
theorem dX7_lays_149 : decode cX7_lays 149 = .ok (.goto (-30), 3) := by decide +kernel
theorem dX7_lays_152 : decode cX7_lays 152 = .ok (.aload_n 0, 1) := by decide +kernel
theorem dX7_lays_153 : decode cX7_lays 153 = .ok (.getfield 36, 3) := by decide +kernel
theorem dX7_lays_156 : decode cX7_lays 156 = .ok (.bipush 10, 2) := by decide +kernel
theorem dX7_lays_158 : decode cX7_lays 158 = .ok (.iload 5, 2) := by decide +kernel
theorem dX7_lays_160 : decode cX7_lays 160 = .ok (.imul, 1) := by decide +kernel
theorem dX7_lays_161 : decode cX7_lays 161 = .ok (.iload 6, 2) := by decide +kernel
theorem dX7_lays_163 : decode cX7_lays 163 = .ok (.iadd, 1) := by decide +kernel
theorem dX7_lays_164 : decode cX7_lays 164 = .ok (.iload 7, 2) := by decide +kernel
theorem dX7_lays_166 : decode cX7_lays 166 = .ok (.iastore, 1) := by decide +kernel
theorem dX7_lays_167 : decode cX7_lays 167 = .ok (.iinc 6 1, 3) := by decide +kernel
theorem dX7_lays_170 : decode cX7_lays 170 = .ok (.goto (-81), 3) := by decide +kernel
theorem dX7_lays_173 : decode cX7_lays 173 = .ok (.iinc 5 (-1), 3) := by decide +kernel
theorem dX7_lays_176 : decode cX7_lays 176 = .ok (.goto (-95), 3) := by decide +kernel
theorem dX7_lays_179 : decode cX7_lays 179 = .ok (.aload_n 0, 1) := by decide +kernel
theorem dX7_lays_180 : decode cX7_lays 180 = .ok (.iconst 0, 1) := by decide +kernel
theorem dX7_lays_181 : decode cX7_lays 181 = .ok (.putfield 260, 3) := by decide +kernel
theorem dX7_lays_184 : decode cX7_lays 184 = .ok (.aload_n 0, 1) := by decide +kernel
theorem dX7_lays_185 : decode cX7_lays 185 = .ok (.getfield 36, 3) := by decide +kernel
theorem dX7_lays_188 : decode cX7_lays 188 = .ok (.iconst 0, 1) := by decide +kernel
theorem dX7_lays_189 : decode cX7_lays 189 = .ok (.iaload, 1) := by decide +kernel
theorem dX7_lays_190 : decode cX7_lays 190 = .ok (.ldc 244, 2) := by decide +kernel
theorem dX7_lays_192 : decode cX7_lays 192 = .ok (.if_icmp .lt 5, 3) := by decide +kernel
theorem dX7_lays_195 : decode cX7_lays 195 = .ok (.iconst (-1), 1) := by decide +kernel
theorem dX7_lays_196 : decode cX7_lays 196 = .ok (.ireturn, 1) := by decide +kernel
theorem dX7_lays_197 : decode cX7_lays 197 = .ok (.iconst 0, 1) := by decide +kernel
theorem dX7_lays_198 : decode cX7_lays 198 = .ok (.istore 5, 2) := by decide +kernel
theorem dX7_lays_200 : decode cX7_lays 200 = .ok (.iconst 0, 1) := by decide +kernel
theorem dX7_lays_201 : decode cX7_lays 201 = .ok (.istore 6, 2) := by decide +kernel
theorem dX7_lays_203 : decode cX7_lays 203 = .ok (.iload 5, 2) := by decide +kernel
theorem dX7_lays_205 : decode cX7_lays 205 = .ok (.aload_n 0, 1) := by decide +kernel
theorem dX7_lays_206 : decode cX7_lays 206 = .ok (.invokevirtual 231, 3) := by decide +kernel
theorem dX7_lays_209 : decode cX7_lays 209 = .ok (.if_icmp .ge 80, 3) := by decide +kernel
theorem dX7_lays_212 : decode cX7_lays 212 = .ok (.iload 5, 2) := by decide +kernel
theorem dX7_lays_214 : decode cX7_lays 214 = .ok (.iconst 1, 1) := by decide +kernel
theorem dX7_lays_215 : decode cX7_lays 215 = .ok (.iadd, 1) := by decide +kernel
theorem dX7_lays_216 : decode cX7_lays 216 = .ok (.istore 7, 2) := by decide +kernel
theorem dX7_lays_218 : decode cX7_lays 218 = .ok (.aload_n 0, 1) := by decide +kernel
theorem dX7_lays_219 : decode cX7_lays 219 = .ok (.iload_n 1, 1) := by decide +kernel
theorem dX7_lays_220 : decode cX7_lays 220 = .ok (.iload 5, 2) := by decide +kernel
theorem dX7_lays_222 : decode cX7_lays 222 = .ok (.iload 7, 2) := by decide +kernel
theorem dX7_lays_224 : decode cX7_lays 224 = .ok (.iload 6, 2) := by decide +kernel
theorem dX7_lays_226 : decode cX7_lays 226 = .ok (.invokevirtual 256, 3) := by decide +kernel
theorem dX7_lays_229 : decode cX7_lays 229 = .ok (.aload_n 0, 1) := by decide +kernel
theorem dX7_lays_230 : decode cX7_lays 230 = .ok (.getfield 36, 3) := by decide +kernel
theorem dX7_lays_233 : decode cX7_lays 233 = .ok (.bipush 10, 2) := by decide +kernel
theorem dX7_lays_235 : decode cX7_lays 235 = .ok (.iload 5, 2) := by decide +kernel
theorem dX7_lays_237 : decode cX7_lays 237 = .ok (.imul, 1) := by decide +kernel
theorem dX7_lays_238 : decode cX7_lays 238 = .ok (.iload 6, 2) := by decide +kernel
theorem dX7_lays_240 : decode cX7_lays 240 = .ok (.iadd, 1) := by decide +kernel
theorem dX7_lays_241 : decode cX7_lays 241 = .ok (.iaload, 1) := by decide +kernel
theorem dX7_lays_242 : decode cX7_lays 242 = .ok (.if_icmp .eq 9, 3) := by decide +kernel
theorem dX7_lays_245 : decode cX7_lays 245 = .ok (.iinc 7 1, 3) := by decide +kernel
theorem dX7_lays_248 : decode cX7_lays 248 = .ok (.goto (-30), 3) := by decide +kernel
theorem dX7_lays_251 : decode cX7_lays 251 = .ok (.aload_n 0, 1) := by decide +kernel
theorem dX7_lays_252 : decode cX7_lays 252 = .ok (.iload 7, 2) := by decide +kernel
theorem dX7_lays_254 : decode cX7_lays 254 = .ok (.iload 6, 2) := by decide +kernel
theorem dX7_lays_256 : decode cX7_lays 256 = .ok (.invokevirtual 237, 3) := by decide +kernel
theorem dX7_lays_259 : decode cX7_lays 259 = .ok (.istore 6, 2) := by decide +kernel
theorem dX7_lays_261 : decode cX7_lays 261 = .ok (.iload 7, 2) := by decide +kernel
theorem dX7_lays_263 : decode cX7_lays 263 = .ok (.istore 5, 2) := by decide +kernel
theorem dX7_lays_265 : decode cX7_lays 265 = .ok (.aload_n 0, 1) := by decide +kernel
theorem dX7_lays_266 : decode cX7_lays 266 = .ok (.getfield 42, 3) := by decide +kernel
theorem dX7_lays_269 : decode cX7_lays 269 = .ok (.aload_n 0, 1) := by decide +kernel
theorem dX7_lays_270 : decode cX7_lays 270 = .ok (.getfield 260, 3) := by decide +kernel
theorem dX7_lays_273 : decode cX7_lays 273 = .ok (.iload 7, 2) := by decide +kernel
theorem dX7_lays_275 : decode cX7_lays 275 = .ok (.iastore, 1) := by decide +kernel
theorem dX7_lays_276 : decode cX7_lays 276 = .ok (.aload_n 0, 1) := by decide +kernel
theorem dX7_lays_277 : decode cX7_lays 277 = .ok (.dup, 1) := by decide +kernel
theorem dX7_lays_278 : decode cX7_lays 278 = .ok (.getfield 260, 3) := by decide +kernel
theorem dX7_lays_281 : decode cX7_lays 281 = .ok (.iconst 1, 1) := by decide +kernel
theorem dX7_lays_282 : decode cX7_lays 282 = .ok (.iadd, 1) := by decide +kernel
theorem dX7_lays_283 : decode cX7_lays 283 = .ok (.putfield 260, 3) := by decide +kernel
theorem dX7_lays_286 : decode cX7_lays 286 = .ok (.goto (-83), 3) := by decide +kernel
theorem dX7_lays_289 : decode cX7_lays 289 = .ok (.aload_n 0, 1) := by decide +kernel
theorem dX7_lays_290 : decode cX7_lays 290 = .ok (.getfield 36, 3) := by decide +kernel
theorem dX7_lays_293 : decode cX7_lays 293 = .ok (.iconst 0, 1) := by decide +kernel
theorem dX7_lays_294 : decode cX7_lays 294 = .ok (.iaload, 1) := by decide +kernel
theorem dX7_lays_295 : decode cX7_lays 295 = .ok (.ireturn, 1) := by decide +kernel
theorem eX7_laysD {W : zWd} {F : Nat → Int} {L must rc bal k run : Nat} {p tg b : Int} {Q : Option Value → zWd → Prop} {X : zX} (hS : zMS W F L must) (hp0 : 0 ≤ p) (hp1 : p < 6) (hbal : aP (W 117) p 1 = bal) (hb9 : bal ≤ 9) (hrc : rc ≤ 4) (hk : k ≤ L) (hr : run ≤ 9)
    (hV : ∀ k' r' : Nat, k < k' → k' ≤ L → r' ≤ 9 → W 124 (10 * (k' : Int) + (r' : Nat)) = zV F L must rc bal k' r')
    (tailD : ∀ x8 : Value, RR MX7_lays 4 0 W 152 [.ref 116, zI p, zI tg, zI (rc : Int), zI b, zI (k : Int), zI (run : Int), zI (zV F L must rc bal k run), x8] [] (zEnd MX7_lays Q X) X) : RR MX7_lays 4 0 W 119 [.ref 116, zI p, zI tg, zI (rc : Int), zI b, zI (k : Int), zI (run : Int), zI (if k = L then (0 : Int) else 1000000), zI ((k : Int) + 1)] [] (zEnd MX7_lays Q X) X := by
  obtain ⟨s0, s1, s2, s3, s4, s5, s6, s7⟩ := id hS
  have loop : ∀ (n : Nat) (m : Nat), m ≤ rc → rc - m < n → RR MX7_lays 4 0 W 119 [.ref 116, zI p, zI tg, zI (rc : Int), zI b, zI (k : Int), zI (run : Int), zI (if k = L then (0 : Int) else zMn (fun j => zBy F L must bal (zV F L must rc bal) k run (k + j)) m), zI ((k : Int) + (m : Int) + 1)] [] (zEnd MX7_lays Q X) X := by
    intro n
    induction n with
    | zero => intro m _ hm9; omega
    | succ n ih =>
      intro m hm hm9
      refine rr_iload (pc := 119) dX7_lays_119 rfl ?_
      refine rr_iload (pc := 121) dX7_lays_121 rfl ?_
      refine rr_iload_n (pc := 123) dX7_lays_123 rfl ?_
      refine rr_iadd (pc := 124) dX7_lays_124 ?_
      refine rr_icmp_gt (pc := 125) (tgt := 152) dX7_lays_125 (by decide) (by unfold zR; omega) (by unfold zR; omega) (fun h125 => ?_) (fun h125 => ?_)
      · have hmr : m = rc := by omega
        subst hmr
        have hVk : (if k = L then (0 : Int) else zMn (fun j => zBy F L must bal (zV F L must m bal) k run (k + j)) m) = zV F L must m bal k run := by
          by_cases z : k = L
          · rw [if_pos z, z, zV_goal]
          · rw [if_neg z, zV_eq (by omega)]
        rw [hVk]
        exact tailD _
      · refine rr_iload (pc := 128) dX7_lays_128 rfl ?_
        refine rr_aload_n (pc := 130) dX7_lays_130 rfl ?_
        refine rr_iload_n (pc := 131) dX7_lays_131 rfl ?_
        refine rr_iload (pc := 132) dX7_lays_132 rfl ?_
        refine rr_iload (pc := 134) dX7_lays_134 rfl ?_
        refine rr_iload (pc := 136) dX7_lays_136 rfl ?_
        refine rr_inv0 (M' := MX7_leastBy) (k := 116) (As := [_, _, _, _]) (pc := 138) dX7_lays_138 lX7_256 kX7_leastBy vX7_leastBy zk_116 (by decide) rfl (by decide) (by decide) (Nat.le_of_ble_eq_true rfl) rfl (eX7_leastBy (V := zV F L must rc bal) (to := k + m + 1) (k := k) (run := run) hS (by omega) (by omega) (by omega) hp0 (by omega) hbal hb9 (fun hok => hV _ _ (by omega) hok.1 (by have := hok.2.2.2; omega)) ?_)
        have hby := zBy_rngV (F := F) (L := L) (must := must) (rc := rc) (bal := bal) (k := k) (run := run) (to := k + m + 1)
        have h16 : (((k + m + 1 : Nat) : Int) - k) * (((k + m + 1 : Nat) : Int) - k) ≤ 16 := by
          rw [show (((k + m + 1 : Nat) : Int) - k) = (m : Int) + 1 by omega]
          have h4 : m = 0 ∨ m = 1 ∨ m = 2 ∨ m = 3 := by omega
          rcases h4 with h | h | h | h <;> rw [h] <;> decide
        refine rr_min (pc := 141) dX7_lays_141 lX7_107 z_mmin (by have := zMn_rngV (F := F) (L := L) (must := must) (rc := rc) (bal := bal) (k := k) (run := run) (m := m); split <;> (unfold zR; omega)) (by unfold zR; omega) (by decide) (Nat.le_of_ble_eq_true rfl) ?_
        refine rr_istore (pc := 144) dX7_lays_144 (by decide) ?_
        refine rr_iinc (pc := 146) dX7_lays_146 rfl (by decide) ?_
        refine rr_goto (pc := 149) (tgt := 119) dX7_lays_149 (by decide) ?_
        refine rr_eqL ?_ (ih (m + 1) (by omega) (by omega))
        rw [show (k : Int) + ((m + 1 : Nat) : Int) + 1 = (k : Int) + (m : Int) + 1 + 1 by omega]
        have e9 : (if k = L then (0 : Int) else zMn (fun j => zBy F L must bal (zV F L must rc bal) k run (k + j)) (m + 1)) = (if zBy F L must bal (zV F L must rc bal) k run (k + m + 1) < (if k = L then (0 : Int) else zMn (fun j => zBy F L must bal (zV F L must rc bal) k run (k + j)) m) then zBy F L must bal (zV F L must rc bal) k run (k + m + 1) else (if k = L then (0 : Int) else zMn (fun j => zBy F L must bal (zV F L must rc bal) k run (k + j)) m)) := by
          by_cases z : k = L
          · rw [if_pos z, if_pos z, if_neg (by omega)]
          · rw [if_neg z, if_neg z]; rfl
        rw [e9]
        rfl
  refine rr_eqL ?_ (loop _ 0 (by omega) (Nat.lt_succ_self _))
  show _ = _
  rfl
