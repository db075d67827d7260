theorem sRow1_in {B : Nat → Int} {N p p' : Nat} {a a' : Int → Int} (h : sRow1 B N p a = .inr (p', a')) : a' 0 = a 0 + 1 ∧ sWide B N p ≠ 0 ∧ a 0 ≠ 10 ∧ p' = adv B N p ∧ a' = aRow a (sWide B N p) := by
  unfold sRow1 at h
  split at h
  · cases h
  · split at h
    · cases h
    · injection h with h
      injection h with h1 h2
      exact ⟨by rw [← h2, aRow_0], by assumption, by assumption, h1.symm, h2.symm⟩
theorem sRows_s {B : Nat → Int} {N n r p : Nat} {a : Int → Int} (h0 : a 0 = r) (hr : r < 2) : sRows B N (n + 1) r p a = zBind (sRow1 B N p a) (fun p a => sRows B N n (r + 1) p a) := by
  have e : sRows B N (n + 1) r p a = if sWide B N p = 0 then (if r < 2 then .inl (-2, p) else sSemi B N p a) else if r = 10 then .inl (-5, p) else sRows B N n (r + 1) (adv B N p) (aRow a (sWide B N p)) := rfl
  rw [e]
  unfold sRow1
  by_cases z : sWide B N p = 0
  · rw [if_pos z, if_pos z, if_pos hr]; rfl
  · rw [if_neg z, if_neg z, if_neg (by omega), if_neg (by omega)]; rfl
theorem eX7_ldRowsA {W : zWd} {B : Nat → Int} {N : Nat} {r : zRs} {x1 x2 : Value} {Q : Option Value → zWd → Prop} {X : zX} (h : zMR W B N 0 r) (hr : ∀ g, r = .inr g → g.2 0 = 2) (tail : ∀ W' : zWd, zOfR W W' → zMR W' B N 0 (zBind r (fun p a => sRows B N 9 2 p a)) → RR MX7_load 8 0 W' 78 [.ref 116, x1, x2] [] (zEnd MX7_load Q X) X) : RR MX7_load 8 0 W 54 [.ref 116, x1, x2] [] (zEnd MX7_load Q X) X := by
  cases r with
  | inl e => exact eX7_ldRowsB h tail
  | inr g =>
    have h2 := hr g rfl
    refine eX7_ldRows 9 W g.1 g.2 h (by omega) (by omega) (fun W' o h' => tail W' o ?_)
    rw [h2] at h'
    exact h'
theorem eX7_ldPlA {W : zWd} {B : Nat → Int} {N : Nat} {r : zRs} {x1 x2 : Value} {Q : Option Value → zWd → Prop} {X : zX} (h : zMR W B N 0 r) (hr : ∀ g, r = .inr g → g.2 2 = 2 ∧ 1 ≤ g.2 1) (tail : ∀ W' : zWd, zOfR W W' → zMR W' B N 0 (zBind r (fun p a => sPlayers B N 5 2 p a)) → RR MX7_load 8 0 W' 181 [.ref 116, x1, x2] [] (zEnd MX7_load Q X) X) : RR MX7_load 8 0 W 144 [.ref 116, x1, x2] [] (zEnd MX7_load Q X) X := by
  cases r with
  | inl e => exact eX7_ldPlB h tail
  | inr g =>
    have h2 := hr g rfl
    exact eX7_ldPl 5 W 2 g.1 g.2 h h2.1 (by omega) h2.2 (by omega) tail
theorem zPs_0 : zPs a00 := ⟨zPf_0, fun j _ _ => by show (-1000 : Int) ≤ 0 ∧ (0 : Int) ≤ 1000; omega⟩
def zOfLd (W W' : zWd) : Prop := (∀ k : Nat, k ≠ 116 → k ≠ 117 → k ≠ 118 → k ≠ 120 → W' k = W k) ∧ W' 116 26 = W 116 26
theorem zOfR.Ld {W W' : zWd} (h : zOfR W W') : zOfLd W W' := ⟨fun k g1 g2 _ _ => h.1 k g1 g2, h.2 26 (by omega)⟩
theorem zOfLd.tr {W W' W'' : zWd} (h : zOfLd W W') (h2 : zOfLd W' W'') : zOfLd W W'' := ⟨fun k g1 g2 g3 g4 => (h2.1 k g1 g2 g3 g4).trans (h.1 k g1 g2 g3 g4), h2.2.trans h.2⟩
theorem zBind_1 {r : zRs} {x : Int} {B : Nat → Int} {N : Nat} (h : ∀ g, r = .inr g → g.2 0 = x) : ∀ g, zBind r (sRow1 B N) = .inr g → g.2 0 = x + 1 := by
  intro g hg
  obtain ⟨p, a, h1, h2⟩ := zBind_in (p' := g.1) (a' := g.2) hg
  have h3 := (sRow1_in h2).1
  have h4 := h (p, a) h1
  have h4 : a 0 = x := h4
  omega
theorem sLoad_t {B : Nat → Int} {N : Nat} : ∀ (n q p p' : Nat) (a a' : Int → Int), a 2 = q → a 1 ≤ 20 → zT1 a → sPlayers B N n q p a = .inr (p', a') → zT1 a' := by
  intro n
  induction n with
  | zero => intro q p p' a a' _ _ _ h; cases h
  | succ n ih =>
    intro q p p' a a' h2 h20 ht h
    by_cases z : 2 ≤ q ∧ p = N
    · unfold sPlayers at h; rw [if_pos z] at h; cases h; exact ht
    · rw [sPlayers_s h2 z] at h
      obtain ⟨p1, a1, g1, h⟩ := zBind_in h
      obtain ⟨s1, s2, s3, s4, s5, s6⟩ := sPl1_in (by omega) g1
      exact ih (q + 1) _ _ _ _ (by omega) (by omega) (s6 h20 ht) h
theorem sPlayers_1 {B : Nat → Int} {N : Nat} : ∀ (n q p p' : Nat) (a a' : Int → Int), a 2 = q → sPlayers B N n q p a = .inr (p', a') → a' 1 = a 1 := by
  intro n
  induction n with
  | zero => intro q p p' a a' _ h; cases h
  | succ n ih =>
    intro q p p' a a' h2 h
    by_cases z : 2 ≤ q ∧ p = N
    · unfold sPlayers at h; rw [if_pos z] at h; cases h; rfl
    · rw [sPlayers_s h2 z] at h
      obtain ⟨p1, a1, g1, h⟩ := zBind_in h
      obtain ⟨s1, s2, s3, s4, s5, s6⟩ := sPl1_in (by omega) g1
      rw [ih (q + 1) _ _ _ _ (by omega) h, s5]
theorem eX7_ldEndB {W : zWd} {c : Int} {p : Nat} {x1 x2 : Value} {Q : Option Value → zWd → Prop} {X : zX} (h : zBd W 0 c p) (tail : ∀ W' : zWd, zOfLd W W' → W' 116 9 = 0 → W' 116 16 = p → (∀ j : Int, j ≠ 16 → j ≠ 9 → W' 116 j = W 116 j) → W' 120 = W 120 → (∀ i : Int, 0 ≤ i → i < 160 → W' 117 i = W 118 i) → Q (some (zI c)) W') : RR MX7_load 8 0 W 181 [.ref 116, x1, x2] [] (zEnd MX7_load Q X) X := by
  have hc1 := h.2.1
  have hc2 := h.2.2.1
  refine rr_aload_n (pc := 181) dX7_load_181 rfl ?_
  refine rr_aload_n (pc := 182) dX7_load_182 rfl ?_
  refine rr_getI (pc := 183) (ji := 14) dX7_load_183 fX7_113 zk_116 zr_116_14 rfl ?_
  rw [h.1]
  refine rr_if_ne (pc := 186) (tgt := 193) dX7_load_186 (by decide) (by unfold zR; omega) (fun h186 => ?_) (fun h186 => ?_)
  · refine rr_aload_n (pc := 193) dX7_load_193 rfl ?_
    refine rr_getI (pc := 194) (ji := 15) dX7_load_194 fX7_126 zk_116 zr_116_15 rfl ?_
    rw [h.2.2.2.1]
    refine rr_put (pc := 197) (ji := 16) dX7_load_197 fX7_32 fp_7_16 zk_116 zr_116_16 rfl ?_
    refine rr_aload_n (pc := 200) dX7_load_200 rfl ?_
    refine rr_iconst (n := 0) dX7_load_201 ?_
    refine rr_put (pc := 202) (ji := 9) dX7_load_202 fX7_81 fp_7_9 zk_116 zr_116_9 rfl ?_
    have o1 : ∀ k : Nat, k ≠ 116 → zup (zup W 116 16 p) 116 9 0 k = W k := fun k g => by rw [zup_other k g, zup_other k g]
    have e1 : ∀ j : Int, j ≠ 16 → j ≠ 9 → zup (zup W 116 16 p) 116 9 0 116 j = W 116 j := fun j g1 g2 => by rw [zup_i g2, zup_i g1]
    have e16 : zup (zup W 116 16 p) 116 9 0 116 16 = p := by rw [zup_i (by decide), zup_s]
    have e9 : zup (zup W 116 16 p) 116 9 0 116 9 = 0 := zup_s
    generalize zup (zup W 116 16 p) 116 9 0 = W1 at o1 e1 e16 e9 ⊢
    have e14 : W1 116 14 = c := (e1 14 (by decide) (by decide)).trans h.1
    refine rr_aload_n (pc := 205) dX7_load_205 rfl ?_
    refine rr_getI (pc := 206) (ji := 14) dX7_load_206 fX7_113 zk_116 zr_116_14 rfl ?_
    rw [e14]
    refine rr_if_eq (pc := 209) (tgt := 225) dX7_load_209 (by decide) (by unfold zR; omega) (fun h209 => ?_) (fun h209 => ?_)
    · omega
    · refine rr_aload_n (pc := 212) dX7_load_212 rfl ?_
      refine rr_getR (pc := 213) dX7_load_213 fX7_7 zk_116 zr_116_0 ?_
      refine rr_iconst (n := 0) dX7_load_216 ?_
      refine rr_aload_n (pc := 217) dX7_load_217 rfl ?_
      refine rr_getR (pc := 218) dX7_load_218 fX7_13 zk_116 zr_116_1 ?_
      refine rr_iconst (n := 0) dX7_load_221 ?_
      refine rr_sta0 (M' := MX7_copies) (As := [_, _, _, _]) (pc := 222) dX7_load_222 lX7_65 kX7_copies sX7_copies (by decide) (by decide) (Nat.le_of_ble_eq_true rfl) rfl (eX7_copies (W := W1) (n1 := 160) (n0 := 160) zk_117 zk_118 (by decide) (by omega) (by omega) (by omega) (by omega) ?_)
      refine rr_aload_n (pc := 225) dX7_load_225 rfl ?_
      refine rr_getI (pc := 226) (ji := 14) dX7_load_226 fX7_113 zk_116 zr_116_14 rfl ?_
      rw [show zC160 W1 117 118 0 0 160 116 14 = c by rw [zC160_o (by decide)]; exact e14]
      refine rr_if_eq (pc := 229) (tgt := 237) dX7_load_229 (by decide) (by unfold zR; omega) (fun h229 => ?_) (fun h229 => ?_)
      · omega
      · refine rr_aload_n (pc := 232) dX7_load_232 rfl ?_
        refine rr_getI (pc := 233) (ji := 14) dX7_load_233 fX7_113 zk_116 zr_116_14 rfl ?_
        rw [show zC160 W1 117 118 0 0 160 116 14 = c by rw [zC160_o (by decide)]; exact e14]
        exact rr_reti (pc := 236) dX7_load_236 rfl rfl rfl rfl (tail _ ⟨fun k g1 g2 g3 g4 => by rw [zC160_o g2]; exact o1 k g1, by rw [zC160_o (by decide)]; exact e1 26 (by decide) (by decide)⟩ (by rw [zC160_o (by decide)]; exact e9) (by rw [zC160_o (by decide)]; exact e16) (fun j g1 g2 => by rw [zC160_o (by decide)]; exact e1 j g1 g2) (zC160_o (by decide) |>.trans (o1 120 (by decide))) (fun i g1 g2 => by unfold zC160; rw [if_pos ⟨rfl, by omega, by omega⟩, o1 118 (by decide)]; congr 1; omega))
  · omega
theorem eX7_ldEndG {W : zWd} {b : Int → Int} {n : Int} {K : Nat → (Int → Int)} {x1 x2 : Value} {Q : Option Value → zWd → Prop} {X : zX} (h14 : W 116 14 = 0) (hb : W 117 = b) (fb : zWf 0 b) (hT1 : zT1 b) (hK : zKp W n K) (tail : ∀ W' : zWd, zOfLd W W' → W' 116 9 = 0 → W' 116 16 = -1 → W' 116 7 = W 116 7 → zKp W' (if n + 1 < 8 then n + 1 else 8) (zPush (W 118) K) → W' 117 = aMend b → Q (some (zI (aMend b 1))) W') : RR MX7_load 8 0 W 181 [.ref 116, x1, x2] [] (zEnd MX7_load Q X) X := by
  have hsq := zWf.sq fb
  have hb2 := fb.2.2.2.2.2.1
  have hb2' := fb.2.2.2.2.1
  refine rr_aload_n (pc := 181) dX7_load_181 rfl ?_
  refine rr_aload_n (pc := 182) dX7_load_182 rfl ?_
  refine rr_getI (pc := 183) (ji := 14) dX7_load_183 fX7_113 zk_116 zr_116_14 rfl ?_
  rw [h14]
  refine rr_if_ne (pc := 186) (tgt := 193) dX7_load_186 (by decide) (by unfold zR; omega) (fun h186 => ?_) (fun h186 => ?_)
  · exact absurd rfl h186
  · refine rr_iconst (n := (-1)) dX7_load_189 ?_
    refine rr_goto (pc := 190) (tgt := 197) dX7_load_190 (by decide) ?_
    refine rr_put (pc := 197) (ji := 16) dX7_load_197 fX7_32 fp_7_16 zk_116 zr_116_16 rfl ?_
    refine rr_aload_n (pc := 200) dX7_load_200 rfl ?_
    refine rr_iconst (n := 0) dX7_load_201 ?_
    refine rr_put (pc := 202) (ji := 9) dX7_load_202 fX7_81 fp_7_9 zk_116 zr_116_9 rfl ?_
    have o1 : ∀ k : Nat, k ≠ 116 → zup (zup W 116 16 (-1)) 116 9 0 k = W k := fun k g => by rw [zup_other k g, zup_other k g]
    have e1 : ∀ j : Int, j ≠ 16 → j ≠ 9 → zup (zup W 116 16 (-1)) 116 9 0 116 j = W 116 j := fun j g1 g2 => by rw [zup_i g2, zup_i g1]
    have e16 : zup (zup W 116 16 (-1)) 116 9 0 116 16 = -1 := by rw [zup_i (by decide), zup_s]
    have e9 : zup (zup W 116 16 (-1)) 116 9 0 116 9 = 0 := zup_s
    have k1 : zKp (zup (zup W 116 16 (-1)) 116 9 0) n K := hK.M (e1 6 (by decide) (by decide)) (o1 120 (by decide))
    have b1 : zup (zup W 116 16 (-1)) 116 9 0 117 = b := (o1 117 (by decide)).trans hb
    generalize zup (zup W 116 16 (-1)) 116 9 0 = W1 at o1 e1 e16 e9 k1 b1 ⊢
    have e14 : W1 116 14 = 0 := (e1 14 (by decide) (by decide)).trans h14
    refine rr_aload_n (pc := 205) dX7_load_205 rfl ?_
    refine rr_getI (pc := 206) (ji := 14) dX7_load_206 fX7_113 zk_116 zr_116_14 rfl ?_
    rw [e14]
    refine rr_if_eq (pc := 209) (tgt := 225) dX7_load_209 (by decide) (by unfold zR; omega) (fun h209 => ?_) (fun h209 => ?_)
    · refine rr_aload_n (pc := 225) dX7_load_225 rfl ?_
      refine rr_getI (pc := 226) (ji := 14) dX7_load_226 fX7_113 zk_116 zr_116_14 rfl ?_
      rw [e14]
      refine rr_if_eq (pc := 229) (tgt := 237) dX7_load_229 (by decide) (by unfold zR; omega) (fun h229 => ?_) (fun h229 => ?_)
      · refine rr_iconst (n := 0) dX7_load_237 ?_
        refine rr_istore_n (pc := 238) dX7_load_238 (by decide) ?_
        have loop : ∀ (n : Nat) (i : Int) (Wi : zWd), 0 ≤ i → i ≤ b 2 → zOfm W1 Wi → Wi 117 = aMendN b i.toNat → (b 2 - i).toNat < n → RR MX7_load 8 0 Wi 239 [.ref 116, zI i, x2] [] (zEnd MX7_load Q X) X := by
          intro n
          induction n with
          | zero => intro i Wi _ _ _ _ hm9; omega
          | succ n ih =>
            intro i Wi h1 h2 hO e7 hm9
            have f2b : aMendN b i.toNat 2 = b 2 := aMendN_low _ _ (by omega)
            have f1b : aMendN b i.toNat 1 = b 1 := aMendN_low _ _ (by omega)
            refine rr_iload_n (pc := 239) dX7_load_239 rfl ?_
            refine rr_aload_n (pc := 240) dX7_load_240 rfl ?_
            refine rr_inv0 (M' := MX7_players) (k := 116) (As := []) (pc := 241) dX7_load_241 lX7_203 kX7_players vX7_players zk_116 (by decide) rfl (by decide) (by decide) (Nat.le_of_ble_eq_true rfl) rfl (eX7_players ?_)
            rw [e7, f2b]
            refine rr_icmp_ge (pc := 244) (tgt := 258) dX7_load_244 (by decide) (by unfold zR; omega) (by unfold zR; omega) (fun h244 => ?_) (fun h244 => ?_)
            · refine rr_aload_n (pc := 258) dX7_load_258 rfl ?_
              refine rr_aload_n (pc := 259) dX7_load_259 rfl ?_
              refine rr_getR (pc := 260) dX7_load_260 fX7_13 zk_116 zr_116_1 ?_
              have k5 := k1.m hO
              refine rr_inv0 (M' := MX7_keeps) (k := 116) (As := [_]) (pc := 263) dX7_load_263 lX7_73 kX7_keeps vX7_keeps zk_116 (by decide) rfl (by decide) (by decide) (Nat.le_of_ble_eq_true rfl) rfl (eX7_keeps zk_118 (by decide) (by decide) (by decide) k5 (fun W6 o6 k6 => ?_))
              rw [show Wi 118 = W1 118 from hO 118 (by decide)] at k6
              have e6 : W6 117 = aMend b := by rw [o6.1 117 (by decide) (by decide), e7, show i = b 2 by omega]; rfl
              refine rr_aload_n (pc := 266) dX7_load_266 rfl ?_
              refine rr_inv0 (M' := MX7_squares) (k := 116) (As := []) (pc := 267) dX7_load_267 lX7_209 kX7_squares vX7_squares zk_116 (by decide) rfl (by decide) (by decide) (Nat.le_of_ble_eq_true rfl) rfl (eX7_squares ?_)
              rw [e6]
              exact rr_reti (pc := 270) dX7_load_270 rfl rfl rfl rfl (tail W6 ⟨fun k g1 g2 g3 g4 => by rw [o6.1 k g1 g4, hO k g2]; exact o1 k g1, by rw [o6.2 26 (by decide), hO 116 (by decide)]; exact e1 26 (by decide) (by decide)⟩ (by rw [o6.2 9 (by decide), hO 116 (by decide)]; exact e9) (by rw [o6.2 16 (by decide), hO 116 (by decide)]; exact e16) (by rw [o6.2 7 (by decide), hO 116 (by decide)]; exact e1 7 (by decide) (by decide)) (by rw [o1 118 (by decide)] at k6; exact k6) e6)
            · refine rr_aload_n (pc := 247) dX7_load_247 rfl ?_
              refine rr_iload_n (pc := 248) dX7_load_248 rfl ?_
              refine rr_inv0 (M' := MX7_putsRight) (k := 116) (As := [_]) (pc := 249) dX7_load_249 lX7_206 kX7_putsRight vX7_putsRight zk_116 (by decide) rfl (by decide) (by decide) (Nat.le_of_ble_eq_true rfl) rfl (eX7_putsRight e7 (aMendN_wf fb _ (by omega)) h1 (by rw [f2b]; omega) (fun W5 o5 e5 => ?_))
              refine rr_iinc (pc := 252) dX7_load_252 rfl (by decide) ?_
              refine rr_goto (pc := 255) (tgt := 239) dX7_load_255 (by decide) ?_
              exact ih (i + 1) W5 (by omega) (by omega) (hO.tr o5) (by rw [e5]; exact aMendN_step fb h1 (by omega) (fun z => by have := hT1 i h1 (by omega); omega)) (by omega)
        exact loop _ 0 W1 (by omega) (by omega) zOfm.rf b1 (Nat.lt_succ_self _)
      · exact absurd rfl h229
    · exact absurd rfl h209
theorem eX7_load {W : zWd} {a : Int → Int} {n : Int} {K : Nat → (Int → Int)} {L : List Int}  {Q : Option Value → zWd → Prop} {X : zX} (ha : W 117 = a) (hH : zKp W n K) (hL : zMB W L) (hwf : ∀ p a', sLoad L = .inr (p, a') → zWf 0 a') (hq0 : ∀ e, sLoad L = .inl e → ∀ W', zOfLd W W' → W' 116 7 = 0 → zMB W' [] → W' 116 16 = e.2 → e.2 ≤ 600 → zKp W' n K → zEa a (W' 117) → Q (some (zI e.1)) W') (hq1 : ∀ p a', sLoad L = .inr (p, a') → ∀ W', zOfLd W W' → W' 116 7 = 0 → zMB W' [] → W' 116 16 = -1 → zKp W' (if n + 1 < 8 then n + 1 else 8) (zPush a K) → zEa (aMend a') (W' 117) → Q (some (zI (aMend a' 1))) W') : Ev MX7_load 8 0 W [.ref 116] Q X := by
  refine ev_of (ls := [.ref 116, .null, .null]) (by decide) rfl (fun _ => rfl) (fun _ => Nat.le_of_ble_eq_true rfl) (Or.inl rfl) ?_
  refine rr_aload_n (pc := 0) dX7_load_0 rfl ?_
  refine rr_iconst (n := 0) dX7_load_1 ?_
  refine rr_put (pc := 2) (ji := 7) dX7_load_2 fX7_59 fp_7_7 zk_116 zr_116_7 rfl ?_
  refine rr_aload_n (pc := 5) dX7_load_5 rfl ?_
  refine rr_iconst (n := 0) dX7_load_6 ?_
  refine rr_put (pc := 7) (ji := 11) dX7_load_7 fX7_88 fp_7_11 zk_116 zr_116_11 rfl ?_
  refine rr_aload_n (pc := 10) dX7_load_10 rfl ?_
  refine rr_iconst (n := 0) dX7_load_11 ?_
  refine rr_put (pc := 12) (ji := 14) dX7_load_12 fX7_113 fp_7_14 zk_116 zr_116_14 rfl ?_
  have o1 : ∀ k : Nat, k ≠ 116 → zup (zup (zup W 116 7 0) 116 11 0) 116 14 0 k = W k := fun k g => by rw [zup_other k g, zup_other k g, zup_other k g]
  have e1 : ∀ j : Int, j ≠ 7 → j ≠ 11 → j ≠ 14 → zup (zup (zup W 116 7 0) 116 11 0) 116 14 0 116 j = W 116 j := fun j g1 g2 g3 => by rw [zup_i g3, zup_i g2, zup_i g1]
  have t7 : zup (zup (zup W 116 7 0) 116 11 0) 116 14 0 116 7 = 0 := by rw [zup_i (by decide), zup_i (by decide), zup_s]
  have t11 : zup (zup (zup W 116 7 0) 116 11 0) 116 14 0 116 11 = 0 := by rw [zup_i (by decide), zup_s]
  have t14 : zup (zup (zup W 116 7 0) 116 11 0) 116 14 0 116 14 = 0 := zup_s
  generalize zup (zup (zup W 116 7 0) 116 11 0) 116 14 0 = W1 at o1 e1 t7 t11 t14 ⊢
  refine rr_aload_n (pc := 15) dX7_load_15 rfl ?_
  refine rr_getR (pc := 16) dX7_load_16 fX7_13 zk_116 zr_116_1 ?_
  refine rr_iconst (n := 0) dX7_load_19 ?_
  refine rr_aload_n (pc := 20) dX7_load_20 rfl ?_
  refine rr_getR (pc := 21) dX7_load_21 fX7_7 zk_116 zr_116_0 ?_
  refine rr_iconst (n := 0) dX7_load_24 ?_
  refine rr_sta0 (M' := MX7_copies) (As := [_, _, _, _]) (pc := 25) dX7_load_25 lX7_65 kX7_copies sX7_copies (by decide) (by decide) (Nat.le_of_ble_eq_true rfl) rfl (eX7_copies (W := W1) (n1 := 160) (n0 := 160) zk_118 zk_117 (by decide) (by omega) (by omega) (by omega) (by omega) ?_)
  have a118 : zEa a (zC160 W1 118 117 0 0 160 118) := fun i g1 g2 => by unfold zC160; rw [if_pos ⟨rfl, by omega, by omega⟩, o1 117 (by decide), ha]; congr 1; omega
  have o2 : ∀ k : Nat, k ≠ 118 → zC160 W1 118 117 0 0 160 k = W1 k := fun k g => zC160_o g
  generalize zC160 W1 118 117 0 0 160 = W2 at a118 o2 ⊢
  refine rr_aload_n (pc := 28) dX7_load_28 rfl ?_
  refine rr_inv0 (M' := MX7_begins) (k := 116) (As := []) (pc := 29) dX7_load_29 lX7_48 kX7_begins vX7_begins zk_116 (by decide) rfl (by decide) (by decide) (Nat.le_of_ble_eq_true rfl) rfl (eX7_begins (fun W3 o3 z3 => ?_))
  have q116 : W3 116 = W1 116 := (o3 116 (by decide)).trans (o2 116 (by decide))
  have oW : ∀ k : Nat, k ≠ 116 → k ≠ 117 → k ≠ 118 → W3 k = W k := fun k g1 g2 g3 => (o3 k g2).trans ((o2 k g3).trans (o1 k g1))
  have a118 : zEa a (W3 118) := by rw [o3 118 (by decide)]; exact a118
  have hT : zMT W3 (fun k => L.getD k 0) L.length := ⟨by rw [q116, e1 9 (by decide) (by decide) (by decide)]; exact hL.1, hL.2.1, fun k hk => by
    have h9 := hL.2.2.1 _ (z_getM hk)
    refine ⟨h9.1, h9.2, ?_⟩
    rw [oW 123 (by decide) (by decide) (by decide)]; exact hL.2.2.2 k hk⟩
  refine rr_aload_n (pc := 32) dX7_load_32 rfl ?_
  refine rr_inv0 (M' := MX7_next) (k := 116) (As := []) (pc := 33) dX7_load_33 lX7_132 kX7_next vX7_next zk_116 (by decide) rfl (by decide) (by decide) (Nat.le_of_ble_eq_true rfl) rfl (eX7_next (b := 0) hT (by rw [q116, t11]; rfl) (Nat.zero_le _) (fun W4 o4 t4 m4 => ?_))
  have r4 : zMR W4 (fun k => L.getD k 0) L.length 0 (.inr (sSk (fun k => L.getD k 0) L.length 0, a00)) := by
    refine ⟨⟨t4, m4, by rw [o4.2 14 (by omega), q116]; exact t14⟩, ⟨fun j g0 g1 g2 => by rw [o4.1 117 (by decide)]; exact z3 j g0 g1, ?_, ?_, ?_⟩, zPs_0⟩ <;> rw [o4.1 117 (by decide), z3 2 (by omega) (by omega)]
    · rfl
    · exact Int.le_refl _
    · decide
  have hsl : sLoad L = _ := sCourt_eq
  obtain ⟨BB, hBB⟩ : ∃ x, (fun k => L.getD k 0) = x := ⟨_, rfl⟩
  rw [hBB] at r4 hsl
  generalize L.length = NN at r4 hsl
  refine rr_aload_n (pc := 36) dX7_load_36 rfl ?_
  refine rr_aload_n (pc := 37) dX7_load_37 rfl ?_
  refine rr_ldcs (pc := 38) 11 dX7_load_38 rfl ?_
  refine rr_inv0 (M' := MX7_isWord) (k := 116) (As := [_]) (pc := 40) dX7_load_40 lX7_138 kX7_isWord vX7_isWord zk_116 (by decide) rfl (by decide) (by decide) (Nat.le_of_ble_eq_true rfl) rfl (eG_Court r4 ?_)
  refine rr_inv0 (M' := MX7_must) (k := 116) (As := [_]) (pc := 43) dX7_load_43 lX7_150 kX7_must vX7_must zk_116 (by decide) rfl (by decide) (by decide) (Nat.le_of_ble_eq_true rfl) rfl (eX7_must r4 (fun W5 o5 r5 => ?_))
  have r5 : zMR W5 BB NN 0 (if sW BB NN (sSk BB NN 0) wCourt = true then .inr (adv BB NN (sSk BB NN 0), a00) else .inl (-2, sSk BB NN 0)) := by
    have h9 : sMst BB NN (sW BB NN (sSk BB NN 0) wCourt) (.inr (sSk BB NN 0, a00)) = if sW BB NN (sSk BB NN 0) wCourt = true then .inr (adv BB NN (sSk BB NN 0), a00) else .inl (-2, sSk BB NN 0) := by
      show (if _ then _ else _) = _
      by_cases z : sW BB NN (sSk BB NN 0) wCourt = true
      · rw [if_pos z, if_pos z, sEd_w (sW_kd zN_Court z)]; rfl
      · rw [if_neg z, if_neg z]
    rw [h9] at r5; exact r5
  have hR0 : sRowsC BB NN (sSk BB NN 0) = zBind (zBind (zBind (if sW BB NN (sSk BB NN 0) wCourt = true then .inr (adv BB NN (sSk BB NN 0), a00) else .inl (-2, sSk BB NN 0)) (sRow1 BB NN)) (sRow1 BB NN)) (fun p a => sRows BB NN 9 2 p a) := by
    unfold sRowsC
    by_cases z : sW BB NN (sSk BB NN 0) wCourt = true
    · rw [if_pos z, if_pos z, sRows_s rfl (by decide)]
      show zBind (sRow1 BB NN _ a00) _ = zBind (zBind (sRow1 BB NN _ a00) _) _
      rw [zBind_assoc]
      cases hs : sRow1 BB NN (adv BB NN (sSk BB NN 0)) a00 with
      | inl e => rfl
      | inr g =>
        have h9 := (sRow1_in (p' := g.1) (a' := g.2) hs).1
        exact sRows_s h9 (by decide)
    · rw [if_neg z, if_neg z]; rfl
  have hx0 : ∀ g, (if sW BB NN (sSk BB NN 0) wCourt = true then (.inr (adv BB NN (sSk BB NN 0), a00) : zRs) else .inl (-2, sSk BB NN 0)) = .inr g → g.2 0 = 0 := fun g hg => by
    split at hg
    · injection hg with hg; rw [← hg]; rfl
    · cases hg
  generalize (if sW BB NN (sSk BB NN 0) wCourt = true then (.inr (adv BB NN (sSk BB NN 0), a00) : zRs) else .inl (-2, sSk BB NN 0)) = rC at r5 hR0 hx0
  refine rr_aload_n (pc := 46) dX7_load_46 rfl ?_
  refine rr_inv0 (M' := MX7_readsRow) (k := 116) (As := []) (pc := 47) dX7_load_47 lX7_195 kX7_readsRow vX7_readsRow zk_116 (by decide) rfl (by decide) (by decide) (Nat.le_of_ble_eq_true rfl) rfl (eX7_readsRow r5 (fun W6 o6 r6 => ?_))
  refine rr_aload_n (pc := 50) dX7_load_50 rfl ?_
  refine rr_inv0 (M' := MX7_readsRow) (k := 116) (As := []) (pc := 51) dX7_load_51 lX7_195 kX7_readsRow vX7_readsRow zk_116 (by decide) rfl (by decide) (by decide) (Nat.le_of_ble_eq_true rfl) rfl (eX7_readsRow r6 (fun W7 o7 r7 => ?_))
  refine eX7_ldRowsA r7 (fun g hg => zBind_1 (zBind_1 hx0) g hg) (fun W8 o8 r8 => ?_)
  rw [← hR0] at r8
  refine eX7_ldDrift r8 (fun W9 x1 x2 o9 r9 => ?_)
  refine rr_aload_n (pc := 136) dX7_load_136 rfl ?_
  have hd0 : ∀ g, zBind (sRowsC BB NN (sSk BB NN 0)) (sDrift BB NN) = .inr g → g.2 2 = 0 ∧ 2 ≤ g.2 0 := fun g hg => by
    obtain ⟨p1, a1, g1, g2⟩ := zBind_in (p' := g.1) (a' := g.2) hg
    have h9 := sRowsC_in g1
    rw [sDrift_n g2 (by decide), sDrift_n g2 (by decide)]
    exact ⟨h9.2, h9.1⟩
  have hsl2 : sLoad L = zBind (zBind (sRowsC BB NN (sSk BB NN 0)) (sDrift BB NN)) (fun p a => sPlayers BB NN 7 0 p a) := by rw [hsl, zBind_assoc]
  have hd1 : ∀ g, zBind (sRowsC BB NN (sSk BB NN 0)) (sDrift BB NN) = .inr g → 1 ≤ g.2 1 := fun g hg => by
    have h9 := hd0 g hg
    rw [hg] at r9
    have h8 := r9.2.2.1.sq
    omega
  generalize zBind (sRowsC BB NN (sSk BB NN 0)) (sDrift BB NN) = rD at r9 hd0 hsl2 hd1
  refine rr_inv0 (M' := MX7_readsPlayer) (k := 116) (As := []) (pc := 137) dX7_load_137 lX7_200 kX7_readsPlayer vX7_readsPlayer zk_116 (by decide) rfl (by decide) (by decide) (Nat.le_of_ble_eq_true rfl) rfl (eX7_readsPlayer r9 hd1 (fun W10 o10 r10 => ?_))
  have hp0 : ∀ g, zBind rD (sPl1 BB NN) = .inr g → g.2 2 = 1 ∧ 1 ≤ g.2 1 ∧ 2 ≤ g.2 0 := fun g hg => by
    obtain ⟨p1, a1, g1, g2⟩ := zBind_in (p' := g.1) (a' := g.2) hg
    have h9 := hd0 _ g1
    have h8 := hd1 _ g1
    have h9 : a1 2 = 0 ∧ 2 ≤ a1 0 := h9
    have h8 : 1 ≤ a1 1 := h8
    obtain ⟨s1, s2, s3, s4, s5, s6⟩ := sPl1_in (by omega) g2
    omega
  refine rr_aload_n (pc := 140) dX7_load_140 rfl ?_
  refine rr_inv0 (M' := MX7_readsPlayer) (k := 116) (As := []) (pc := 141) dX7_load_141 lX7_200 kX7_readsPlayer vX7_readsPlayer zk_116 (by decide) rfl (by decide) (by decide) (Nat.le_of_ble_eq_true rfl) rfl (eX7_readsPlayer r10 (fun g hg => (hp0 g hg).2.1) (fun W11 o11 r11 => ?_))
  have hp1 : ∀ g, zBind (zBind rD (sPl1 BB NN)) (sPl1 BB NN) = .inr g → g.2 2 = 2 ∧ 1 ≤ g.2 1 := fun g hg => by
    obtain ⟨p1, a1, g1, g2⟩ := zBind_in (p' := g.1) (a' := g.2) hg
    have h9 := hp0 _ g1
    have h9 : a1 2 = 1 ∧ 1 ≤ a1 1 ∧ 2 ≤ a1 0 := h9
    obtain ⟨s1, s2, s3, s4, s5, s6⟩ := sPl1_in (by omega) g2
    omega
  have hsl3 : sLoad L = zBind (zBind (zBind rD (sPl1 BB NN)) (sPl1 BB NN)) (fun p a => sPlayers BB NN 5 2 p a) := by
    rw [hsl2]
    cases rD with
    | inl e => rfl
    | inr g =>
      have h9 := hd0 g rfl
      show sPlayers BB NN 7 0 g.1 g.2 = zBind (zBind (sPl1 BB NN g.1 g.2) _) _
      rw [sPlayers_s (n := 6) (q := 0) h9.1 (by omega), zBind_assoc]
      cases hs : sPl1 BB NN g.1 g.2 with
      | inl e => rfl
      | inr g2 =>
        have h8 := (hp0 g2 (by show sPl1 BB NN g.1 g.2 = _; exact hs)).1
        exact sPlayers_s (n := 5) (q := 1) h8 (by omega)
  refine eX7_ldPlA r11 hp1 (fun W12 o12 r12 => ?_)
  rw [← hsl3] at r12
  have oR := ((((((o4.R.tr o5).tr o6).tr o7).tr o8).tr o9).tr o10).tr (o11.tr o12)
  have oLd : zOfLd W W12 := ⟨fun k g1 g2 g3 g4 => by rw [oR.1 k g1 g2]; exact oW k g1 g2 g3, by rw [oR.2 26 (by omega), q116]; exact e1 26 (by decide) (by decide) (by decide)⟩
  have k12 : zKp W12 n K := hH.M (by rw [oR.2 6 (by omega), q116]; exact e1 6 (by decide) (by decide) (by decide)) (by rw [oR.1 120 (by decide) (by decide)]; exact oW 120 (by decide) (by decide) (by decide))
  have t12 : W12 116 7 = 0 := by rw [oR.2 7 (by omega), q116]; exact t7
  have a12 : zEa a (W12 118) := by rw [oR.1 118 (by decide) (by decide)]; exact a118
  have nil : ∀ W' : zWd, W' 116 9 = 0 → zMB W' [] := fun W' h9 => ⟨h9, by decide, fun b hb => absurd hb (by simp), fun k hk => absurd hk (by simp)⟩
  cases hs : sLoad L with
  | inl e =>
    rw [hs] at r12
    refine eX7_ldEndB r12 (fun W' o' e9 e16 ej e120 eg => ?_)
    exact hq0 e hs W' (oLd.tr o') (by rw [ej 7 (by decide) (by decide)]; exact t12) (nil W' e9) e16 r12.2.2.2.2.1 (k12.M (ej 6 (by decide) (by decide)) e120) (a12.tr eg)
  | inr g =>
    rw [hs] at r12
    obtain ⟨⟨u1, u2, u3⟩, ⟨v1, v2, v3, v4⟩, v5⟩ : zGd W12 BB NN g.1 ∧ zRw W12 0 g.2 ∧ zPs g.2 := id r12
    have hag : zEa g.2 (W12 117) := fun i g1 g2 => by
      by_cases z : i = 2
      · rw [z]; omega
      · exact v1 i g1 g2 z
    have hf := hwf g.1 g.2 hs
    have hsq := zWf.sq hf
    have hf2 := hf.2.2.2.2.2.1
    have ht : zT1 g.2 := by
      rw [hsl2] at hs
      obtain ⟨p1, a1, g1, g2⟩ := zBind_in (p' := g.1) (a' := g.2) hs
      have h9 := (hd0 _ g1).1
      have h9 : a1 2 = 0 := h9
      refine sLoad_t 7 0 _ _ _ _ h9 ?_ (fun x h0 h1 => by omega) g2
      have e9 : g.2 1 = a1 1 := sPlayers_1 7 0 _ _ _ _ h9 g2
      omega
    refine eX7_ldEndG u3 rfl (zEa_wf hag hf) (fun x h0 h1 => by rw [hag 2 (by omega) (by omega)] at h1; rw [zEa_P hag h0 (by omega) (by omega) (by omega)]; exact ht x h0 h1) k12 (fun W' o' e9 e16 e7 k' e117 => ?_)
    have hm := zEa_mend hag hf
    rw [← e117] at hm
    rw [show aMend (W12 117) 1 = aMend g.2 1 by rw [← e117]; exact hm 1 (by omega) (by omega)]
    refine hq1 g.1 g.2 hs W' (oLd.tr o') (e7.trans t12) (nil W' e9) e16 (k'.cg (fun j hj => ?_)) hm
    by_cases z : j = 0
    · subst z; exact a12
    · show zEa (if j = 0 then a else K (j - 1)) (if j = 0 then W12 118 else K (j - 1))
      rw [if_neg z, if_neg z]; exact zEa.rf
