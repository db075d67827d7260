theorem eX7_laysF {W : zWd} {F : Nat → Int} {L must rc bal : Nat} {p tg b : Int} {Q : Option Value → zWd → Prop} {X : zX} {k s : Nat} (hS : zMS W F L must) (hp0 : 0 ≤ p) (hp1 : p < 6) (hbal : aP (W 117) p 1 = bal) (hb9 : bal ≤ 9) (hrc : rc ≤ 4) (hT : ∀ k' r' : Nat, k' ≤ L → r' ≤ 9 → W 124 (10 * (k' : Int) + (r' : Nat)) = zV F L must rc bal k' r') (hk : k < L) (hs : s ≤ 9) (hv : zV F L must rc bal k s < 1000000) (x8 : Value)
    (tailF : RR MX7_lays 4 0 W 251 [.ref 116, zI p, zI tg, zI (rc : Int), zI b, zI (k : Int), zI (s : Int), zI (zNx F L must rc bal k s : Nat), x8] [] (zEnd MX7_lays Q X) X) : RR MX7_lays 4 0 W 218 [.ref 116, zI p, zI tg, zI (rc : Int), zI b, zI (k : Int), zI (s : Int), zI ((k + 1 : Nat) : Int), x8] [] (zEnd MX7_lays Q X) X := by
  obtain ⟨n1, n2, n3, n4, n5, n6⟩ := zNx_spec (F := F) (L := L) (must := must) (rc := rc) (bal := bal) hk hv
  have n3l := n3.1
  have hL11 := hS.2.2.1
  have loop : ∀ (n : Nat) (to : Nat), k < to → to ≤ zNx F L must rc bal k s → zNx F L must rc bal k s - to < n → RR MX7_lays 4 0 W 218 [.ref 116, zI p, zI tg, zI (rc : Int), zI b, zI (k : Int), zI (s : Int), zI (to : Int), x8] [] (zEnd MX7_lays Q X) X := by
    intro n
    induction n with
    | zero => intro to _ _ hm9; omega
    | succ n ih =>
      intro to h1 h2 hm9
      refine rr_aload_n (pc := 218) dX7_lays_218 rfl ?_
      refine rr_iload_n (pc := 219) dX7_lays_219 rfl ?_
      refine rr_iload (pc := 220) dX7_lays_220 rfl ?_
      refine rr_iload (pc := 222) dX7_lays_222 rfl ?_
      refine rr_iload (pc := 224) dX7_lays_224 rfl ?_
      refine rr_inv0 (M' := MX7_leastBy) (k := 116) (As := [_, _, _, _]) (pc := 226) dX7_lays_226 lX7_256 kX7_leastBy vX7_leastBy zk_116 (by decide) rfl (by decide) (by decide) (Nat.le_of_ble_eq_true rfl) rfl (eX7_leastBy (V := zV F L must rc bal) (to := to) (k := k) (run := s) hS h1 (by omega) (by omega) hp0 hp1 hbal hb9 (fun hok => hT _ _ hok.1 (by have := hok.2.2.2; omega)) ?_)
      have hby := zBy_rngV (F := F) (L := L) (must := must) (rc := rc) (bal := bal) (k := k) (run := s) (to := to)
      have hvr := zV_rng (F := F) (L := L) (must := must) (rc := rc) (bal := bal) k s
      have h16 : ((to : Int) - k) * ((to : Int) - k) ≤ 16 := by
        obtain ⟨m, hm⟩ : ∃ m : Nat, to = k + m := ⟨to - k, by omega⟩
        rw [show ((to : Int) - k) = (m : Int) by omega]
        have h4 : m = 1 ∨ m = 2 ∨ m = 3 ∨ m = 4 := by omega
        rcases h4 with h | h | h | h <;> rw [h] <;> decide
      refine rr_aload_n (pc := 229) dX7_lays_229 rfl ?_
      refine rr_getR (pc := 230) dX7_lays_230 fX7_36 zk_116 zr_116_17 ?_
      refine rr_bipush (n := (10)) dX7_lays_233 ?_
      refine rr_iload (pc := 235) dX7_lays_235 rfl ?_
      refine rr_imul (pc := 237) dX7_lays_237 ?_
      refine rr_iload (pc := 238) dX7_lays_238 rfl ?_
      refine rr_iadd (pc := 240) dX7_lays_240 ?_
      refine rr_iald (pc := 241) dX7_lays_241 zk_124 (by omega) (by omega) ?_
      rw [hT k s (by omega) (by omega)]
      refine rr_icmp_eq (pc := 242) (tgt := 251) dX7_lays_242 (by decide) (by unfold zR; omega) (by unfold zR; omega) (fun h242 => ?_) (fun h242 => ?_)
      · have he : to = zNx F L must rc bal k s := by
          rcases Nat.lt_or_eq_of_le h2 with z | z
          · exact absurd h242 (n6 to h1 z)
          · exact z
        subst he
        exact tailF
      · refine rr_iinc (pc := 245) dX7_lays_245 rfl (by decide) ?_
        refine rr_goto (pc := 248) (tgt := 218) dX7_lays_248 (by decide) ?_
        have hne : to ≠ zNx F L must rc bal k s := fun z => by subst z; exact h242 n5
        refine rr_eqL ?_ (ih (to + 1) (by omega) (by omega) (by omega))
        rw [show ((to + 1 : Nat) : Int) = (to : Int) + 1 by omega]
        rfl
  exact loop _ (k + 1) (by omega) (by omega) (Nat.lt_succ_self _)
/-- the footings and the row stay through the way's laying -/
def zKeepF (W W' : zWd) : Prop := W' 116 20 = W 116 20 ∧ W' 125 = W 125
theorem eX7_laysE {W : zWd} {F : Nat → Int} {L must rc bal : Nat} {p tg b : Int} {Q : Option Value → zWd → Prop} {X : zX} (hS : zMS W F L must) (hp0 : 0 ≤ p) (hp1 : p < 6) (hbal : aP (W 117) p 1 = bal) (hb9 : bal ≤ 9) (hrc : rc ≤ 4) (hT : ∀ k' r' : Nat, k' ≤ L → r' ≤ 9 → W 124 (10 * (k' : Int) + (r' : Nat)) = zV F L must rc bal k' r') (hv : zV F L must rc bal 0 0 < 1000000) (h21 : W 116 21 = 0) (x7 x8 : Value)
    (tailE : ∀ (W' : zWd) (x6 x7 x8 : Value), zOfl W W' → (∀ k' r' : Nat, k' ≤ L → r' ≤ 9 → W' 124 (10 * (k' : Int) + (r' : Nat)) = zV F L must rc bal k' r') → zLy W' (zHp F L must rc bal (L + 1) 0 0) → RR MX7_lays 4 0 W' 289 [.ref 116, zI p, zI tg, zI (rc : Int), zI b, zI (L : Int), x6, x7, x8] [] (zEnd MX7_lays Q X) X) : RR MX7_lays 4 0 W 203 [.ref 116, zI p, zI tg, zI (rc : Int), zI b, zI 0, zI 0, x7, x8] [] (zEnd MX7_lays Q X) X := by
  have hL11 := hS.2.2.1
  have loop : ∀ (n : Nat) (k s f : Nat) (l : List Nat) (Wi : zWd) (x7 x8 : Value), k ≤ L → s ≤ 9 → zV F L must rc bal k s < 1000000 → zOfl W Wi → (∀ k' r' : Nat, k' ≤ L → r' ≤ 9 → Wi 124 (10 * (k' : Int) + (r' : Nat)) = zV F L must rc bal k' r') → zLy Wi l → zKeepF W Wi → l.length ≤ k → L + 1 ≤ f + k → l ++ zHp F L must rc bal f k s = zHp F L must rc bal (L + 1) 0 0 → L - k < n → RR MX7_lays 4 0 Wi 203 [.ref 116, zI p, zI tg, zI (rc : Int), zI b, zI (k : Int), zI (s : Int), x7, x8] [] (zEnd MX7_lays Q X) X := by
    intro n
    induction n with
    | zero => intro k s f l Wi x7 x8 _ _ _ _ _ _ _ _ _ _ hm9; omega
    | succ n ih =>
      intro k s f l Wi x7 x8 hk hs hv hO hT hLy hkf hlk hn hpath hm9
      have e7 : Wi 117 = W 117 := hO.1 117 (by decide) (by decide) (by decide) (by decide)
      refine rr_iload (pc := 203) dX7_lays_203 rfl ?_
      refine rr_aload_n (pc := 205) dX7_lays_205 rfl ?_
      refine rr_inv0 (M' := MX7_last) (k := 116) (As := []) (pc := 206) dX7_lays_206 lX7_231 kX7_last vX7_last zk_116 (by decide) rfl (by decide) (by decide) (Nat.le_of_ble_eq_true rfl) rfl (eX7_last ?_)
      rw [e7, hS.1]
      refine rr_icmp_ge (pc := 209) (tgt := 289) dX7_lays_209 (by decide) (by unfold zR; omega) (by unfold zR; omega) (fun h209 => ?_) (fun h209 => ?_)
      · have hkL : k = L := by omega
        subst hkL
        have hl : l = zHp F k must rc bal (k + 1) 0 0 := by
          rw [← hpath]
          cases f with
          | zero => exact (List.append_nil l).symm
          | succ f => show l = l ++ (if k = k then [] else _); rw [if_pos rfl, List.append_nil]
        subst hl
        exact tailE Wi _ _ _ hO hT hLy
      · refine rr_iload (pc := 212) dX7_lays_212 rfl ?_
        refine rr_iconst (n := 1) dX7_lays_214 ?_
        refine rr_iadd (pc := 215) dX7_lays_215 ?_
        refine rr_istore (pc := 216) dX7_lays_216 (by decide) ?_
        have hSi := hS.cg e7 hkf.1 hkf.2
        obtain ⟨n1, n2, n3, n4, n5, n6⟩ := zNx_spec (F := F) (L := L) (must := must) (rc := rc) (bal := bal) (show k < L by omega) hv
        refine rr_eqL (show _ = [.ref 116, zI p, zI tg, zI (rc : Int), zI b, zI (k : Int), zI (s : Int), zI ((k + 1 : Nat) : Int), x8] by rw [show ((k + 1 : Nat) : Int) = (k : Int) + 1 by omega]; rfl) (eX7_laysF (Q := Q) (X := X) hSi hp0 hp1 (by rw [e7]; exact hbal) hb9 hrc hT (by omega) hs hv x8 ?_)
        refine rr_aload_n (pc := 251) dX7_lays_251 rfl ?_
        refine rr_iload (pc := 252) dX7_lays_252 rfl ?_
        refine rr_iload (pc := 254) dX7_lays_254 rfl ?_
        refine rr_inv0 (M' := MX7_runAt) (k := 116) (As := [_, _]) (pc := 256) dX7_lays_256 lX7_237 kX7_runAt vX7_runAt zk_116 (by decide) rfl (by decide) (by decide) (Nat.le_of_ble_eq_true rfl) rfl (eX7_runAt hSi (by omega) (by omega) (by omega) ?_)
        refine rr_istore (pc := 259) dX7_lays_259 (by decide) ?_
        refine rr_iload (pc := 261) dX7_lays_261 rfl ?_
        refine rr_istore (pc := 263) dX7_lays_263 (by decide) ?_
        refine rr_aload_n (pc := 265) dX7_lays_265 rfl ?_
        refine rr_getR (pc := 266) dX7_lays_266 fX7_42 zk_116 zr_116_19 ?_
        refine rr_aload_n (pc := 269) dX7_lays_269 rfl ?_
        refine rr_getI (pc := 270) (ji := 21) dX7_lays_270 fX7_260 zk_116 zr_116_21 rfl ?_
        rw [hLy.1]
        refine rr_iload (pc := 273) dX7_lays_273 rfl ?_
        refine rr_iast (pc := 275) dX7_lays_275 zk_126 (by omega) (by omega) ?_
        refine rr_aload_n (pc := 276) dX7_lays_276 rfl ?_
        refine rr_dup_r (pc := 277) dX7_lays_277 ?_
        refine rr_getI (pc := 278) (ji := 21) dX7_lays_278 fX7_260 zk_116 zr_116_21 rfl ?_
        rw [zup_other 116 (by decide), hLy.1]
        refine rr_iconst (n := 1) dX7_lays_281 ?_
        refine rr_iadd (pc := 282) dX7_lays_282 ?_
        refine rr_put (pc := 283) (ji := 21) dX7_lays_283 fX7_260 fp_7_21 zk_116 zr_116_21 rfl ?_
        refine rr_goto (pc := 286) (tgt := 203) dX7_lays_286 (by decide) ?_
        have hrn := n3.2.2.2
        refine rr_eqL ?_ (ih (zNx F L must rc bal k s) (zRn F (zNx F L must rc bal k s) s) (f - 1) (l ++ [zNx F L must rc bal k s]) _ (zI (zNx F L must rc bal k s : Nat)) x8 n3.1 (by omega) n4 ((hO.up (by omega)).up6 (by omega)) (fun k' r' g1 g2 => by rw [zup_other 124 (by decide), zup_other 124 (by decide)]; exact hT k' r' g1 g2) ⟨by rw [zup_s, List.length_append]; rfl, fun i hi => ?_⟩ ⟨by rw [zup_i (by decide), zup_other 116 (by decide)]; exact hkf.1, by rw [zup_other 125 (by decide), zup_other 125 (by decide)]; exact hkf.2⟩ (by rw [List.length_append]; show l.length + 1 ≤ _; omega) (by omega) ?_ (by omega))
        rotate_left
        · rw [zup_other 126 (by decide)]
          rw [List.length_append] at hi
          have hi : i < l.length + 1 := hi
          by_cases z : i = l.length
          · subst z; rw [zup_s, z_appLN]
          · rw [zup_i (by omega), z_appDN (by omega)]; exact hLy.2 i (by omega)
        · rw [← hpath]
          obtain ⟨n', rfl⟩ : ∃ n', f = n' + 1 := ⟨f - 1, by omega⟩
          rw [List.append_assoc]
          show l ++ ([_] ++ zHp F L must rc bal n' _ _) = l ++ (if k = L then [] else _ :: zHp F L must rc bal n' _ _)
          rw [if_neg (by omega)]; rfl
        · rfl
  exact loop _ 0 0 (L + 1) [] W x7 x8 (by omega) (by omega) hv zOfl.rf hT ⟨h21, fun i hi => by cases hi⟩ ⟨rfl, rfl⟩ (by decide) (by omega) rfl (Nat.lt_succ_self _)
