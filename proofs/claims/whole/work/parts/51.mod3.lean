theorem eX7_laysC {W : zWd} {F : Nat → Int} {L must rc bal : Nat} {p tg b : Int} {Q : Option Value → zWd → Prop} {X : zX} {k : Nat} (hS : zMS W F L must) (hp0 : 0 ≤ p) (hp1 : p < 6) (hbal : aP (W 117) p 1 = bal) (hb9 : bal ≤ 9) (hrc : rc ≤ 4) (hk : k ≤ L)
    (hV : ∀ k' r' : Nat, k < k' → k' ≤ L → r' ≤ 9 → W 124 (10 * (k' : Int) + (r' : Nat)) = zV F L must rc bal k' r') (x7 x8 : Value)
    (tailC : ∀ (W' : zWd) (x7 x8 : Value), (∀ j : Nat, j ≠ 124 → W' j = W j) → (∀ k' r' : Nat, k ≤ k' → k' ≤ L → r' ≤ 9 → W' 124 (10 * (k' : Int) + (r' : Nat)) = zV F L must rc bal k' r') → RR MX7_lays 4 0 W' 173 [.ref 116, zI p, zI tg, zI (rc : Int), zI b, zI (k : Int), zI ((10 : Nat) : Int), x7, x8] [] (zEnd MX7_lays Q X) X) : RR MX7_lays 4 0 W 89 [.ref 116, zI p, zI tg, zI (rc : Int), zI b, zI (k : Int), zI 0, x7, x8] [] (zEnd MX7_lays Q X) X := by
  have hL11 := hS.2.2.1
  have loop : ∀ (n : Nat) (run : Nat) (Wi : zWd) (x7 x8 : Value), run ≤ 10 → (∀ j : Nat, j ≠ 124 → Wi j = W j) → (∀ k' r' : Nat, k < k' → k' ≤ L → r' ≤ 9 → Wi 124 (10 * (k' : Int) + (r' : Nat)) = zV F L must rc bal k' r') → (∀ r' : Nat, r' < run → Wi 124 (10 * (k : Int) + (r' : Nat)) = zV F L must rc bal k r') → 10 - run < n → RR MX7_lays 4 0 Wi 89 [.ref 116, zI p, zI tg, zI (rc : Int), zI b, zI (k : Int), zI (run : Int), x7, x8] [] (zEnd MX7_lays Q X) X := by
    intro n
    induction n with
    | zero => intro run Wi x7 x8 _ _ _ _ hm9; omega
    | succ n ih =>
      intro run Wi x7 x8 hr hO hV hC hm9
      refine rr_iload (pc := 89) dX7_lays_89 rfl ?_
      refine rr_bipush (n := (10)) dX7_lays_91 ?_
      refine rr_icmp_ge (pc := 93) (tgt := 173) dX7_lays_93 (by decide) (by unfold zR; omega) (by unfold zR; omega) (fun h93 => ?_) (fun h93 => ?_)
      · have hr10 : run = 10 := by omega
        subst hr10
        exact tailC Wi _ _ hO (fun k' r' g1 g2 g3 => by
          by_cases z : k' = k
          · subst z; exact hC r' (by omega)
          · exact hV k' r' (by omega) g2 g3)
      · have e7 : Wi 117 = W 117 := hO 117 (by decide)
        have hSi := hS.cg e7 (by rw [hO 116 (by decide)]) (hO 125 (by decide))
        refine rr_iload (pc := 96) dX7_lays_96 rfl ?_
        refine rr_aload_n (pc := 98) dX7_lays_98 rfl ?_
        refine rr_inv0 (M' := MX7_last) (k := 116) (As := []) (pc := 99) dX7_lays_99 lX7_231 kX7_last vX7_last zk_116 (by decide) rfl (by decide) (by decide) (Nat.le_of_ble_eq_true rfl) rfl (eX7_last ?_)
        rw [e7, hS.1]
        refine rr_icmp_ne (pc := 102) (tgt := 109) dX7_lays_102 (by decide) (by unfold zR; omega) (by unfold zR; omega) (fun h102 => ?_) (fun h102 => ?_)
        · refine rr_ldc (pc := 109) dX7_lays_109 cX7_k244 ?_
          refine rr_eqS (congrArg (fun z => [zI z]) (show (1000000 : Int) = if k = L then 0 else 1000000 from (if_neg (by omega)).symm)) ?_
          refine rr_istore (pc := 111) dX7_lays_111 (by decide) ?_
          refine rr_iload (pc := 113) dX7_lays_113 rfl ?_
          refine rr_iconst (n := 1) dX7_lays_115 ?_
          refine rr_iadd (pc := 116) dX7_lays_116 ?_
          refine rr_istore (pc := 117) dX7_lays_117 (by decide) ?_
          refine eX7_laysD (Q := Q) (X := X) hSi hp0 hp1 (by rw [e7]; exact hbal) hb9 hrc hk (by omega) hV (fun x8 => ?_)
          refine rr_aload_n (pc := 152) dX7_lays_152 rfl ?_
          refine rr_getR (pc := 153) dX7_lays_153 fX7_36 zk_116 zr_116_17 ?_
          refine rr_bipush (n := (10)) dX7_lays_156 ?_
          refine rr_iload (pc := 158) dX7_lays_158 rfl ?_
          refine rr_imul (pc := 160) dX7_lays_160 ?_
          refine rr_iload (pc := 161) dX7_lays_161 rfl ?_
          refine rr_iadd (pc := 163) dX7_lays_163 ?_
          refine rr_iload (pc := 164) dX7_lays_164 rfl ?_
          refine rr_iast (pc := 166) dX7_lays_166 zk_124 (by omega) (by omega) ?_
          refine rr_iinc (pc := 167) dX7_lays_167 rfl (by decide) ?_
          refine rr_goto (pc := 170) (tgt := 89) dX7_lays_170 (by decide) ?_
          refine rr_eqL ?_ (ih (run + 1) _ (zI (zV F L must rc bal k run)) x8 (by omega) (fun j g => by rw [zup_other j g]; exact hO j g) (fun k' r' g1 g2 g3 => by rw [zup_i (by omega)]; exact hV k' r' g1 g2 g3) (fun r' g1 => ?_) (by omega))
          rotate_left
          · by_cases z : r' = run
            · subst z; exact zup_s
            · rw [zup_i (by omega)]; exact hC r' (by omega)
          · rfl
        · refine rr_iconst (n := 0) dX7_lays_105 ?_
          refine rr_goto (pc := 106) (tgt := 111) dX7_lays_106 (by decide) ?_
          refine rr_eqS (congrArg (fun z => [zI z]) (show (0 : Int) = if k = L then 0 else 1000000 from (if_pos (by omega)).symm)) ?_
          refine rr_istore (pc := 111) dX7_lays_111 (by decide) ?_
          refine rr_iload (pc := 113) dX7_lays_113 rfl ?_
          refine rr_iconst (n := 1) dX7_lays_115 ?_
          refine rr_iadd (pc := 116) dX7_lays_116 ?_
          refine rr_istore (pc := 117) dX7_lays_117 (by decide) ?_
          refine eX7_laysD (Q := Q) (X := X) hSi hp0 hp1 (by rw [e7]; exact hbal) hb9 hrc hk (by omega) hV (fun x8 => ?_)
          refine rr_aload_n (pc := 152) dX7_lays_152 rfl ?_
          refine rr_getR (pc := 153) dX7_lays_153 fX7_36 zk_116 zr_116_17 ?_
          refine rr_bipush (n := (10)) dX7_lays_156 ?_
          refine rr_iload (pc := 158) dX7_lays_158 rfl ?_
          refine rr_imul (pc := 160) dX7_lays_160 ?_
          refine rr_iload (pc := 161) dX7_lays_161 rfl ?_
          refine rr_iadd (pc := 163) dX7_lays_163 ?_
          refine rr_iload (pc := 164) dX7_lays_164 rfl ?_
          refine rr_iast (pc := 166) dX7_lays_166 zk_124 (by omega) (by omega) ?_
          refine rr_iinc (pc := 167) dX7_lays_167 rfl (by decide) ?_
          refine rr_goto (pc := 170) (tgt := 89) dX7_lays_170 (by decide) ?_
          refine rr_eqL ?_ (ih (run + 1) _ (zI (zV F L must rc bal k run)) x8 (by omega) (fun j g => by rw [zup_other j g]; exact hO j g) (fun k' r' g1 g2 g3 => by rw [zup_i (by omega)]; exact hV k' r' g1 g2 g3) (fun r' g1 => ?_) (by omega))
          rotate_left
          · by_cases z : r' = run
            · subst z; exact zup_s
            · rw [zup_i (by omega)]; exact hC r' (by omega)
          · rfl
  exact loop _ 0 W x7 x8 (by omega) (fun _ _ => rfl) hV (fun r' g => by omega) (Nat.lt_succ_self _)
theorem eX7_laysB {W : zWd} {F : Nat → Int} {L must rc bal : Nat} {p tg b : Int} {Q : Option Value → zWd → Prop} {X : zX} (hS : zMS W F L must) (hp0 : 0 ≤ p) (hp1 : p < 6) (hbal : aP (W 117) p 1 = bal) (hb9 : bal ≤ 9) (hrc : rc ≤ 4) (x6 x7 x8 : Value)
    (tailB : ∀ (W' : zWd) (x6 x7 x8 : Value), (∀ j : Nat, j ≠ 124 → W' j = W j) → (∀ k' r' : Nat, k' ≤ L → r' ≤ 9 → W' 124 (10 * (k' : Int) + (r' : Nat)) = zV F L must rc bal k' r') → ∀ z5 : Int, z5 = -1 → RR MX7_lays 4 0 W' 179 [.ref 116, zI p, zI tg, zI (rc : Int), zI b, zI z5, x6, x7, x8] [] (zEnd MX7_lays Q X) X) : RR MX7_lays 4 0 W 81 [.ref 116, zI p, zI tg, zI (rc : Int), zI b, zI (L : Int), x6, x7, x8] [] (zEnd MX7_lays Q X) X := by
  have hL11 := hS.2.2.1
  have loop : ∀ (n : Nat) (i : Nat) (Wi : zWd) (x6 x7 x8 : Value), i ≤ L + 1 → (∀ j : Nat, j ≠ 124 → Wi j = W j) → (∀ k' r' : Nat, i ≤ k' → k' ≤ L → r' ≤ 9 → Wi 124 (10 * (k' : Int) + (r' : Nat)) = zV F L must rc bal k' r') → i < n → RR MX7_lays 4 0 Wi 81 [.ref 116, zI p, zI tg, zI (rc : Int), zI b, zI ((i : Int) - 1), x6, x7, x8] [] (zEnd MX7_lays Q X) X := by
    intro n
    induction n with
    | zero => intro i Wi x6 x7 x8 _ _ _ hm9; omega
    | succ n ih =>
      intro i Wi x6 x7 x8 hi hO hV hm9
      refine rr_iload (pc := 81) dX7_lays_81 rfl ?_
      refine rr_if_lt (pc := 83) (tgt := 179) dX7_lays_83 (by decide) (by unfold zR; omega) (fun h83 => ?_) (fun h83 => ?_)
      · exact tailB Wi _ _ _ hO (fun k' r' g2 g3 => hV k' r' (by omega) g2 g3) _ (by omega)
      · refine rr_iconst (n := 0) dX7_lays_86 ?_
        refine rr_istore (pc := 87) dX7_lays_87 (by decide) ?_
        obtain ⟨i, rfl⟩ : ∃ j, i = j + 1 := ⟨i - 1, by omega⟩
        have e7 : Wi 117 = W 117 := hO 117 (by decide)
        have hSi := hS.cg e7 (by rw [hO 116 (by decide)]) (hO 125 (by decide))
        refine rr_eqL (show _ = [.ref 116, zI p, zI tg, zI (rc : Int), zI b, zI (i : Int), zI 0, x7, x8] by rw [show ((i + 1 : Nat) : Int) - 1 = (i : Int) by omega]; rfl) (eX7_laysC (Q := Q) (X := X) hSi hp0 hp1 (by rw [e7]; exact hbal) hb9 hrc (by omega) (fun k' r' g1 g2 g3 => hV k' r' (by omega) g2 g3) x7 x8 (fun W2 y7 y8 o2 t2 => ?_))
        refine rr_eqL (show _ = [.ref 116, zI p, zI tg, zI (rc : Int), zI b, zI (((i + 1 : Nat) : Int) - 1), zI ((10 : Nat) : Int), y7, y8] by rw [show ((i + 1 : Nat) : Int) - 1 = (i : Int) by omega]) ?_
        refine rr_iinc (pc := 173) dX7_lays_173 rfl (by decide) ?_
        refine rr_goto (pc := 176) (tgt := 81) dX7_lays_176 (by decide) ?_
        refine rr_eqL ?_ (ih i W2 (zI ((10 : Nat) : Int)) y7 y8 (by omega) (fun j g => (o2 j g).trans (hO j g)) (fun k' r' g1 g2 g3 => t2 k' r' (by omega) g2 g3) (by omega))
        rw [show ((i + 1 : Nat) : Int) - 1 + -1 = (i : Int) - 1 by omega]
        rfl
  refine rr_eqL ?_ (loop _ (L + 1) W x6 x7 x8 (by omega) (fun _ _ => rfl) (fun k' r' g1 g2 g3 => by omega) (Nat.lt_succ_self _))
  rw [show ((L + 1 : Nat) : Int) - 1 = (L : Int) by omega]
