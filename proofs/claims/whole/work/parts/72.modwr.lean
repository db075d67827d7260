/-! the reference's writer -/
def zMw (W : zWd) (L : List Int) : Prop := W 116 26 = L.length ∧ ∀ i : Nat, i < L.length → W 127 i = L.getD i 0
def zOfw (W W' : zWd) : Prop := (∀ k : Nat, k ≠ 116 → k ≠ 127 → W' k = W k) ∧ ∀ j : Int, j ≠ 26 → W' 116 j = W 116 j
theorem zOfw.rf {W : zWd} : zOfw W W := ⟨fun _ _ _ => rfl, fun _ _ => rfl⟩
theorem zOfw.tr {W W' W'' : zWd} (h : zOfw W W') (h2 : zOfw W' W'') : zOfw W W'' := ⟨fun k g1 g2 => (h2.1 k g1 g2).trans (h.1 k g1 g2), fun j g => (h2.2 j g).trans (h.2 j g)⟩
theorem zMw.app {W : zWd} {L : List Int} {v : Int} (h : zMw W L) : zMw (zup (zup W 127 L.length v) 116 26 (L.length + 1)) (L ++ [v]) := by
  refine ⟨by rw [zup_s, List.length_append]; rfl, fun i hi => ?_⟩
  rw [List.length_append] at hi
  have hi : i < L.length + 1 := hi
  rw [zup_other 127 (by decide)]
  by_cases q : i = L.length
  · subst q; rw [zup_s, z_appL]
  · rw [zup_i (by omega), z_appD (by omega)]; exact h.2 i (by omega)
theorem zSet0_ne {P : Nat → Bool} : ∀ n : Nat, zSet0 P n ≠ 0 ↔ ∃ q : Nat, q < n ∧ P q = true := by
  intro n
  induction n with
  | zero => exact ⟨fun h => absurd rfl h, fun ⟨q, h, _⟩ => absurd h (Nat.not_lt_zero _)⟩
  | succ n ih =>
    unfold zSet0
    by_cases h : P n = true
    · rw [if_pos h]
      have h2 : 2 ^ n ≠ 0 := by have := Nat.two_pow_pos n; omega
      exact ⟨fun _ => ⟨n, by omega, h⟩, fun _ z => h2 (z_or0.mp z).2⟩
    · rw [if_neg h, ih]
      constructor
      · rintro ⟨q, g1, g2⟩; exact ⟨q, by omega, g2⟩
      · rintro ⟨q, g1, g2⟩
        by_cases e : q = n
        · subst e; exact absurd g2 h
        · exact ⟨q, by omega, g2⟩
theorem zMk_on {T : Int} {a : Int → Int} {s : Int} (hw : zWf T a) (h1 : 1 ≤ s) : (zSet0 (fun q : Nat => decide (aP a q 5 = s)) (a 2).toNat ≠ 0) ↔ (zMks a (-1) (a 2).toNat).testBit s.toNat = true := by
  have h5 : ∀ p : Int, 0 ≤ p → p < ((a 2).toNat : Int) → 0 ≤ aP a p 5 := fun p g0 g1 => by
    have hm2 := hw.2.2.2.2.2.2.2.2.2.2.2.2.2.2.2.2.2.1 p g0 (by omega)
    unfold zWfP at hm2
    omega
  rw [zSet0_ne, zMks_bit (a := a) (w := -1) (a 2).toNat h5 s.toNat]
  constructor
  · rintro ⟨q, g1, g2⟩
    have g2 := of_decide_eq_true g2
    exact ⟨q, by omega, by omega, by omega, by omega, by omega⟩
  · rintro ⟨q, g1, g2, g3, g4, g5⟩
    exact ⟨q.toNat, by omega, decide_eq_true (by rw [show ((q.toNat : Nat) : Int) = q by omega]; omega)⟩
theorem dX7_says_0 : decode cX7_says 0 = .ok (.aload_n 0, 1) := by decide +kernel
theorem dX7_says_1 : decode cX7_says 1 = .ok (.getfield 45, 3) := by decide +kernel
theorem dX7_says_4 : decode cX7_says 4 = .ok (.aload_n 0, 1) := by decide +kernel
theorem dX7_says_5 : decode cX7_says 5 = .ok (.getfield 346, 3) := by decide +kernel
theorem dX7_says_8 : decode cX7_says 8 = .ok (.iload_n 1, 1) := by decide +kernel
theorem dX7_says_9 : decode cX7_says 9 = .ok (.iastore, 1) := by decide +kernel
theorem dX7_says_10 : decode cX7_says 10 = .ok (.aload_n 0, 1) := by decide +kernel
theorem dX7_says_11 : decode cX7_says 11 = .ok (.dup, 1) := by decide +kernel
theorem dX7_says_12 : decode cX7_says 12 = .ok (.getfield 346, 3) := by decide +kernel
theorem dX7_says_15 : decode cX7_says 15 = .ok (.iconst 1, 1) := by decide +kernel
theorem dX7_says_16 : decode cX7_says 16 = .ok (.iadd, 1) := by decide +kernel
theorem dX7_says_17 : decode cX7_says 17 = .ok (.putfield 346, 3) := by decide +kernel
theorem dX7_says_20 : decode cX7_says 20 = .ok (.return_, 1) := by decide +kernel
theorem eX7_says {W : zWd} {L : List Int} {v : Int}  {Q : Option Value → zWd → Prop} {X : zX} (hL : zMw W L) (hl : L.length < 400) (hq : ∀ W' : zWd, zOfw W W' → zMw W' (L ++ [v]) → Q none W') : Ev MX7_says 0 0 W [.ref 116, zI v] Q X := by
  refine ev_of (ls := [.ref 116, zI v]) (by decide) rfl (fun _ => rfl) (fun _ => Nat.le_of_ble_eq_true rfl) (Or.inl rfl) ?_
  refine rr_aload_n (pc := 0) dX7_says_0 rfl ?_
  refine rr_getR (pc := 1) dX7_says_1 fX7_45 zk_116 zr_116_25 ?_
  refine rr_aload_n (pc := 4) dX7_says_4 rfl ?_
  refine rr_getI (pc := 5) (ji := 26) dX7_says_5 fX7_346 zk_116 zr_116_26 rfl ?_
  rw [hL.1]
  refine rr_iload_n (pc := 8) dX7_says_8 rfl ?_
  refine rr_iast (pc := 9) dX7_says_9 zk_127 (by omega) (by omega) ?_
  refine rr_aload_n (pc := 10) dX7_says_10 rfl ?_
  refine rr_dup_r (pc := 11) dX7_says_11 ?_
  refine rr_getI (pc := 12) (ji := 26) dX7_says_12 fX7_346 zk_116 zr_116_26 rfl ?_
  rw [zup_other 116 (by decide), hL.1]
  refine rr_iconst (n := 1) dX7_says_15 ?_
  refine rr_iadd (pc := 16) dX7_says_16 ?_
  refine rr_put (pc := 17) (ji := 26) dX7_says_17 fX7_346 fp_7_26 zk_116 zr_116_26 rfl ?_
  exact rr_retv (pc := 20) dX7_says_20 rfl rfl (hq _ ⟨fun k g1 g2 => by rw [zup_other k g1, zup_other k g2], fun j g => by rw [zup_i g, zup_other 116 (by decide)]⟩ hL.app)
theorem dX7_saysSquare_0 : decode cX7_saysSquare 0 = .ok (.iload_n 1, 1) := by decide +kernel
theorem dX7_saysSquare_1 : decode cX7_saysSquare 1 = .ok (.bipush 9, 2) := by decide +kernel
theorem dX7_saysSquare_3 : decode cX7_saysSquare 3 = .ok (.if_icmp .le 14, 3) := by decide +kernel
theorem dX7_saysSquare_6 : decode cX7_saysSquare 6 = .ok (.aload_n 0, 1) := by decide +kernel
theorem dX7_saysSquare_7 : decode cX7_saysSquare 7 = .ok (.bipush 48, 2) := by decide +kernel
theorem dX7_saysSquare_9 : decode cX7_saysSquare 9 = .ok (.iload_n 1, 1) := by decide +kernel
theorem dX7_saysSquare_10 : decode cX7_saysSquare 10 = .ok (.bipush 10, 2) := by decide +kernel
theorem dX7_saysSquare_12 : decode cX7_saysSquare 12 = .ok (.idiv, 1) := by decide +kernel
theorem dX7_saysSquare_13 : decode cX7_saysSquare 13 = .ok (.iadd, 1) := by decide +kernel
theorem dX7_saysSquare_14 : decode cX7_saysSquare 14 = .ok (.invokevirtual 349, 3) := by decide +kernel
theorem dX7_saysSquare_17 : decode cX7_saysSquare 17 = .ok (.aload_n 0, 1) := by decide +kernel
theorem dX7_saysSquare_18 : decode cX7_saysSquare 18 = .ok (.bipush 48, 2) := by decide +kernel
theorem dX7_saysSquare_20 : decode cX7_saysSquare 20 = .ok (.iload_n 1, 1) := by decide +kernel
theorem dX7_saysSquare_21 : decode cX7_saysSquare 21 = .ok (.bipush 10, 2) := by decide +kernel
theorem dX7_saysSquare_23 : decode cX7_saysSquare 23 = .ok (.irem, 1) := by decide +kernel
theorem dX7_saysSquare_24 : decode cX7_saysSquare 24 = .ok (.iadd, 1) := by decide +kernel
theorem dX7_saysSquare_25 : decode cX7_saysSquare 25 = .ok (.invokevirtual 349, 3) := by decide +kernel
theorem dX7_saysSquare_28 : decode cX7_saysSquare 28 = .ok (.aload_n 0, 1) := by decide +kernel
theorem dX7_saysSquare_29 : decode cX7_saysSquare 29 = .ok (.iload_n 1, 1) := by decide +kernel
theorem dX7_saysSquare_30 : decode cX7_saysSquare 30 = .ok (.invokevirtual 187, 3) := by decide +kernel
theorem dX7_saysSquare_33 : decode cX7_saysSquare 33 = .ok (.istore_n 2, 1) := by decide +kernel
theorem dX7_saysSquare_34 : decode cX7_saysSquare 34 = .ok (.iload_n 2, 1) := by decide +kernel
theorem dX7_saysSquare_35 : decode cX7_saysSquare 35 = .ok (.iconst (-1), 1) := by decide +kernel
theorem dX7_saysSquare_36 : decode cX7_saysSquare 36 = .ok (.if_icmp .eq 9, 3) := by decide +kernel
theorem dX7_saysSquare_39 : decode cX7_saysSquare 39 = .ok (.aload_n 0, 1) := by decide +kernel
theorem dX7_saysSquare_40 : decode cX7_saysSquare 40 = .ok (.bipush 64, 2) := by decide +kernel
theorem dX7_saysSquare_42 : decode cX7_saysSquare 42 = .ok (.invokevirtual 349, 3) := by decide +kernel
theorem dX7_saysSquare_45 : decode cX7_saysSquare 45 = .ok (.iconst 0, 1) := by decide +kernel
theorem dX7_saysSquare_46 : decode cX7_saysSquare 46 = .ok (.istore_n 3, 1) := by decide +kernel
theorem dX7_saysSquare_47 : decode cX7_saysSquare 47 = .ok (.iload_n 2, 1) := by decide +kernel
theorem dX7_saysSquare_48 : decode cX7_saysSquare 48 = .ok (.iconst (-1), 1) := by decide +kernel
theorem dX7_saysSquare_49 : decode cX7_saysSquare 49 = .ok (.if_icmp .eq 40, 3) := by decide +kernel
theorem dX7_saysSquare_52 : decode cX7_saysSquare 52 = .ok (.iload_n 3, 1) := by decide +kernel
theorem dX7_saysSquare_53 : decode cX7_saysSquare 53 = .ok (.bipush 8, 2) := by decide +kernel
theorem dX7_saysSquare_55 : decode cX7_saysSquare 55 = .ok (.if_icmp .ge 34, 3) := by decide +kernel
theorem dX7_saysSquare_58 : decode cX7_saysSquare 58 = .ok (.aload_n 0, 1) := by decide +kernel
theorem dX7_saysSquare_59 : decode cX7_saysSquare 59 = .ok (.iload_n 2, 1) := by decide +kernel
theorem dX7_saysSquare_60 : decode cX7_saysSquare 60 = .ok (.bipush 9, 2) := by decide +kernel
theorem dX7_saysSquare_62 : decode cX7_saysSquare 62 = .ok (.iload_n 3, 1) := by decide +kernel
theorem dX7_saysSquare_63 : decode cX7_saysSquare 63 = .ok (.iadd, 1) := by decide +kernel
theorem dX7_saysSquare_64 : decode cX7_saysSquare 64 = .ok (.invokevirtual 154, 3) := by decide +kernel
theorem dX7_saysSquare_67 : decode cX7_saysSquare 67 = .ok (.ifCond .le 22, 3) := by decide +kernel
theorem dX7_saysSquare_70 : decode cX7_saysSquare 70 = .ok (.aload_n 0, 1) := by decide +kernel
theorem dX7_saysSquare_71 : decode cX7_saysSquare 71 = .ok (.aload_n 0, 1) := by decide +kernel
theorem dX7_saysSquare_72 : decode cX7_saysSquare 72 = .ok (.iload_n 2, 1) := by decide +kernel
theorem dX7_saysSquare_73 : decode cX7_saysSquare 73 = .ok (.bipush 9, 2) := by decide +kernel
theorem dX7_saysSquare_75 : decode cX7_saysSquare 75 = .ok (.iload_n 3, 1) := by decide +kernel
theorem dX7_saysSquare_76 : decode cX7_saysSquare 76 = .ok (.iadd, 1) := by decide +kernel
theorem dX7_saysSquare_77 : decode cX7_saysSquare 77 = .ok (.invokevirtual 154, 3) := by decide +kernel
theorem dX7_saysSquare_80 : decode cX7_saysSquare 80 = .ok (.invokevirtual 349, 3) := by decide +kernel
theorem dX7_saysSquare_83 : decode cX7_saysSquare 83 = .ok (.iinc 3 1, 3) := by decide +kernel
theorem dX7_saysSquare_86 : decode cX7_saysSquare 86 = .ok (.goto (-39), 3) := by decide +kernel
theorem dX7_saysSquare_89 : decode cX7_saysSquare 89 = .ok (.aload_n 0, 1) := by decide +kernel
theorem dX7_saysSquare_90 : decode cX7_saysSquare 90 = .ok (.iload_n 1, 1) := by decide +kernel
theorem dX7_saysSquare_91 : decode cX7_saysSquare 91 = .ok (.invokevirtual 291, 3) := by decide +kernel
theorem dX7_saysSquare_94 : decode cX7_saysSquare 94 = .ok (.ifCond .eq 9, 3) := by decide +kernel
theorem dX7_saysSquare_97 : decode cX7_saysSquare 97 = .ok (.aload_n 0, 1) := by decide +kernel
theorem dX7_saysSquare_98 : decode cX7_saysSquare 98 = .ok (.bipush 42, 2) := by decide +kernel
theorem dX7_saysSquare_100 : decode cX7_saysSquare 100 = .ok (.invokevirtual 349, 3) := by decide +kernel
theorem dX7_saysSquare_103 : decode cX7_saysSquare 103 = .ok (.return_, 1) := by decide +kernel
theorem eX7_saysSquare {W : zWd} {a : Int → Int} {T s : Int} {L : List Int}  {Q : Option Value → zWd → Prop} {X : zX} (ha : W 117 = a) (hw : zWf T a) (hN : ∀ q : Int, 0 ≤ q → q < a 2 → ∃ len, zNam a q len) (h1 : 1 ≤ s) (h2 : s ≤ a 1) (hL : zMw W L) (hl : L.length ≤ 300) (hq : ∀ W' : zWd, zOfw W W' → zMw W' (L ++ sSq a s) → Q none W') : Ev MX7_saysSquare 2 0 W [.ref 116, zI s] Q X := by
  refine ev_of (ls := [.ref 116, zI s, .null, .null]) (by decide) rfl (fun _ => rfl) (fun _ => Nat.le_of_ble_eq_true rfl) (Or.inl rfl) ?_
  obtain ⟨w0, w0', wW, w1, w2, w2', w3, w3', w4, w4', w5, w5', w6, w6', w7, w7', wS, wP, wT⟩ := id hw
  have wq := zWf.sq hw
  have hsn : (sNum s).length ≤ 2 := by unfold sNum; split <;> simp
  have tail2 : ∀ (W2 : zWd) (L2 : List Int) (x2 x3 : Value), zOfw W W2 → zMw W2 L2 → L2.length ≤ L.length + 11 → L ++ sSq a s = L2 ++ (if (zMks a (-1) (a 2).toNat).testBit s.toNat then [42] else []) → RR MX7_saysSquare 2 0 W2 89 [.ref 116, zI s, x2, x3] [] (zEnd MX7_saysSquare Q X) X := by
    intro W2 L2 x2 x3 O2 u2 l2 eL
    have e2 : W2 117 = a := (O2.1 117 (by decide) (by decide)).trans ha
    refine rr_aload_n (pc := 89) dX7_saysSquare_89 rfl ?_
    refine rr_iload_n (pc := 90) dX7_saysSquare_90 rfl ?_
    refine rr_inv0 (M' := MX7_markersOn) (k := 116) (As := [_]) (pc := 91) dX7_saysSquare_91 lX7_291 kX7_markersOn vX7_markersOn zk_116 (by decide) rfl (by decide) (by decide) (Nat.le_of_ble_eq_true rfl) rfl (eX7_markersOn e2 hw (by unfold zR; omega) ?_)
    have hmo := zMk_on hw h1
    have hml := zSet0_32 (fun q : Nat => decide (aP a q 5 = s)) (n := (a 2).toNat) (by omega)
    refine rr_if_eq (pc := 94) (tgt := 103) dX7_saysSquare_94 (by decide) (by unfold zR; omega) (fun h94 => ?_) (fun h94 => ?_)
    · exact rr_retv (pc := 103) dX7_saysSquare_103 rfl rfl (hq W2 O2 (by rw [eL, if_neg (fun z => (hmo.mpr z) (by omega)), List.append_nil]; exact u2))
    · refine rr_aload_n (pc := 97) dX7_saysSquare_97 rfl ?_
      refine rr_bipush (n := (42)) dX7_saysSquare_98 ?_
      refine rr_inv0 (M' := MX7_says) (k := 116) (As := [_]) (pc := 100) dX7_saysSquare_100 lX7_349 kX7_says vX7_says zk_116 (by decide) rfl (by decide) (by decide) (Nat.le_of_ble_eq_true rfl) rfl (eX7_says u2 (by omega) (fun W3 o3 t3 => ?_))
      exact rr_retv (pc := 103) dX7_saysSquare_103 rfl rfl (hq W3 (O2.tr o3) (by rw [eL, if_pos (hmo.mp (by omega))]; exact t3))
  have nameL : ∀ (W3 : zWd) (L3 : List Int) (o : Int), 0 ≤ o → o < a 2 → zOfw W W3 → zMw W3 L3 → L3.length ≤ L.length + 3 → (∀ (Wk : zWd) (x3 : Value), zOfw W Wk → zMw Wk (L3 ++ aNmN a o (aLen a o)) → RR MX7_saysSquare 2 0 Wk 89 [.ref 116, zI s, zI o, x3] [] (zEnd MX7_saysSquare Q X) X) → RR MX7_saysSquare 2 0 W3 47 [.ref 116, zI s, zI o, zI ((0 : Nat) : Int)] [] (zEnd MX7_saysSquare Q X) X := by
    intro W3 L3 o h0o h1o O3 u3 l3 fin
    obtain ⟨len, g1, g2, g3, g4⟩ := hN o h0o h1o
    have hln := aLen_eq (a := a) (p := o) (len := len) ⟨g1, g2, g3, g4⟩
    have loop : ∀ (n : Nat) (k : Nat) (Wk : zWd), k ≤ aLen a o → zOfw W Wk → zMw Wk (L3 ++ aNmN a o k) → aLen a o - k < n → RR MX7_saysSquare 2 0 Wk 47 [.ref 116, zI s, zI o, zI (k : Int)] [] (zEnd MX7_saysSquare Q X) X := by
      intro n
      induction n with
      | zero => intro k Wk _ _ _ hm9; omega
      | succ n ih =>
        intro k Wk hk Ok uk hm9
        have e7 : Wk 117 = a := (Ok.1 117 (by decide) (by decide)).trans ha
        refine rr_iload_n (pc := 47) dX7_saysSquare_47 rfl ?_
        refine rr_iconst (n := (-1)) dX7_saysSquare_48 ?_
        refine rr_icmp_eq (pc := 49) (tgt := 89) dX7_saysSquare_49 (by decide) (by unfold zR; omega) (by unfold zR; omega) (fun h49 => ?_) (fun h49 => ?_)
        · exact absurd h49 (by omega)
        · refine rr_iload_n (pc := 52) dX7_saysSquare_52 rfl ?_
          refine rr_bipush (n := (8)) dX7_saysSquare_53 ?_
          refine rr_icmp_ge (pc := 55) (tgt := 89) dX7_saysSquare_55 (by decide) (by unfold zR; omega) (by unfold zR; omega) (fun h55 => ?_) (fun h55 => ?_)
          · have hke : k = aLen a o := by
              first
                | omega
                | (have h9 := g3 k (by omega); by_cases z : (k : Int) < len
                   · have := h9 z; omega
                   · omega)
            subst hke
            exact fin Wk _ Ok uk
          · refine rr_aload_n (pc := 58) dX7_saysSquare_58 rfl ?_
            refine rr_iload_n (pc := 59) dX7_saysSquare_59 rfl ?_
            refine rr_bipush (n := (9)) dX7_saysSquare_60 ?_
            refine rr_iload_n (pc := 62) dX7_saysSquare_62 rfl ?_
            refine rr_iadd (pc := 63) dX7_saysSquare_63 ?_
            refine rr_inv0 (M' := MX7_of) (k := 116) (As := [_, _]) (pc := 64) dX7_saysSquare_64 lX7_154 kX7_of vX7_of zk_116 (by decide) rfl (by decide) (by decide) (Nat.le_of_ble_eq_true rfl) rfl (eX7_of (by omega) (by omega) (by omega) (by omega) ?_)
            rw [e7]
            refine rr_if_le (pc := 67) (tgt := 89) dX7_saysSquare_67 (by decide) (by by_cases z : (k : Int) < len; have := g3 k (by omega) z; unfold zR; omega; rw [g4 k (by omega) (by omega)]; unfold zR; omega) (fun h67 => ?_) (fun h67 => ?_)
            · have hke : k = aLen a o := by
                first
                  | omega
                  | (have h9 := g3 k (by omega); by_cases z : (k : Int) < len
                     · have := h9 z; omega
                     · omega)
              subst hke
              exact fin Wk _ Ok uk
            · refine rr_aload_n (pc := 70) dX7_saysSquare_70 rfl ?_
              refine rr_aload_n (pc := 71) dX7_saysSquare_71 rfl ?_
              refine rr_iload_n (pc := 72) dX7_saysSquare_72 rfl ?_
              refine rr_bipush (n := (9)) dX7_saysSquare_73 ?_
              refine rr_iload_n (pc := 75) dX7_saysSquare_75 rfl ?_
              refine rr_iadd (pc := 76) dX7_saysSquare_76 ?_
              have hkl : (k : Int) < len := by
                by_cases z : (k : Int) < len
                · exact z
                · rw [g4 k (by omega) (by omega)] at h67; omega
              have hlt := g3 k (by omega) hkl
              refine rr_inv0 (M' := MX7_of) (k := 116) (As := [_, _]) (pc := 77) dX7_saysSquare_77 lX7_154 kX7_of vX7_of zk_116 (by decide) rfl (by decide) (by decide) (Nat.le_of_ble_eq_true rfl) rfl (eX7_of (by omega) (by omega) (by omega) (by omega) ?_)
              rw [e7]
              refine rr_inv0 (M' := MX7_says) (k := 116) (As := [_]) (pc := 80) dX7_saysSquare_80 lX7_349 kX7_says vX7_says zk_116 (by decide) rfl (by decide) (by decide) (Nat.le_of_ble_eq_true rfl) rfl (eX7_says uk (by rw [List.length_append, aNmN_len]; omega) (fun W5 o5 t5 => ?_))
              refine rr_iinc (pc := 83) dX7_saysSquare_83 rfl (by decide) ?_
              refine rr_goto (pc := 86) (tgt := 47) dX7_saysSquare_86 (by decide) ?_
              exact ih (k + 1) W5 (by omega) (Ok.tr o5) (by rw [List.append_assoc] at t5; exact t5) (by omega)
    exact loop _ 0 W3 (Nat.zero_le _) O3 (by rw [show aNmN a o 0 = [] from rfl, List.append_nil]; exact u3) (Nat.lt_succ_self _)
  have tail1 : ∀ (W2 : zWd), zOfw W W2 → zMw W2 (L ++ sNum s) → RR MX7_saysSquare 2 0 W2 28 [.ref 116, zI s, .null, .null] [] (zEnd MX7_saysSquare Q X) X := by
    intro W2 O2 u2
    have e2 : W2 117 = a := (O2.1 117 (by decide) (by decide)).trans ha
    have hs4 := wS s h1 h2
    refine rr_aload_n (pc := 28) dX7_saysSquare_28 rfl ?_
    refine rr_iload_n (pc := 29) dX7_saysSquare_29 rfl ?_
    refine rr_inv0 (M' := MX7_ownerOf) (k := 116) (As := [_]) (pc := 30) dX7_saysSquare_30 lX7_187 kX7_ownerOf vX7_ownerOf zk_116 (by decide) rfl (by decide) (by decide) (Nat.le_of_ble_eq_true rfl) rfl (eX7_ownerOf (by omega) (by omega) ?_)
    rw [e2]
    refine rr_istore_n (pc := 33) dX7_saysSquare_33 (by decide) ?_
    refine rr_iload_n (pc := 34) dX7_saysSquare_34 rfl ?_
    refine rr_iconst (n := (-1)) dX7_saysSquare_35 ?_
    refine rr_icmp_eq (pc := 36) (tgt := 45) dX7_saysSquare_36 (by decide) (by unfold zR; omega) (by unfold zR; omega) (fun h36 => ?_) (fun h36 => ?_)
    · refine rr_iconst (n := 0) dX7_saysSquare_45 ?_
      refine rr_istore_n (pc := 46) dX7_saysSquare_46 (by decide) ?_
      refine rr_iload_n (pc := 47) dX7_saysSquare_47 rfl ?_
      refine rr_iconst (n := (-1)) dX7_saysSquare_48 ?_
      refine rr_icmp_eq (pc := 49) (tgt := 89) dX7_saysSquare_49 (by decide) (by unfold zR; omega) (by unfold zR; omega) (fun h49 => ?_) (fun h49 => ?_)
      · exact tail2 W2 _ _ _ O2 u2 (by rw [List.length_append]; omega) (by unfold sSq; rw [if_pos h36, List.append_nil, List.append_assoc])
      · exact absurd h36 h49
    · refine rr_aload_n (pc := 39) dX7_saysSquare_39 rfl ?_
      refine rr_bipush (n := (64)) dX7_saysSquare_40 ?_
      refine rr_inv0 (M' := MX7_says) (k := 116) (As := [_]) (pc := 42) dX7_saysSquare_42 lX7_349 kX7_says vX7_says zk_116 (by decide) rfl (by decide) (by decide) (Nat.le_of_ble_eq_true rfl) rfl (eX7_says u2 (by rw [List.length_append]; omega) (fun W3 o3 t3 => ?_))
      refine rr_iconst (n := 0) dX7_saysSquare_45 ?_
      refine rr_istore_n (pc := 46) dX7_saysSquare_46 (by decide) ?_
      refine nameL W3 _ (aO a s) (by omega) (by omega) (O2.tr o3) t3 (by rw [List.length_append, List.length_append]; exact Nat.add_le_add_left (Nat.succ_le_succ hsn) _ |> fun h => by have : ([64] : List Int).length = 1 := rfl; omega) (fun Wk x3 Ok uk => tail2 Wk _ _ _ Ok uk (by
        have h9 := aLn_le (a := a) (p := aO a s) 8 0
        have h8 : (aNmN a (aO a s) (aLen a (aO a s))).length ≤ 8 := by rw [aNmN_len]; exact h9
        have h7 : ([64] : List Int).length = 1 := rfl
        rw [List.length_append, List.length_append, List.length_append]; omega) (by unfold sSq; rw [if_neg h36]; simp [aNm]))
  refine rr_iload_n (pc := 0) dX7_saysSquare_0 rfl ?_
  refine rr_bipush (n := (9)) dX7_saysSquare_1 ?_
  refine rr_icmp_le (pc := 3) (tgt := 17) dX7_saysSquare_3 (by decide) (by unfold zR; omega) (by unfold zR; omega) (fun h3 => ?_) (fun h3 => ?_)
  · refine rr_aload_n (pc := 17) dX7_saysSquare_17 rfl ?_
    refine rr_bipush (n := (48)) dX7_saysSquare_18 ?_
    refine rr_iload_n (pc := 20) dX7_saysSquare_20 rfl ?_
    refine rr_bipush (n := (10)) dX7_saysSquare_21 ?_
    refine rr_irem (pc := 23) dX7_saysSquare_23 (by omega) (by omega) (by omega) (by omega) ?_
    refine rr_iadd (pc := 24) dX7_saysSquare_24 ?_
    refine rr_inv0 (M' := MX7_says) (k := 116) (As := [_]) (pc := 25) dX7_saysSquare_25 lX7_349 kX7_says vX7_says zk_116 (by decide) rfl (by decide) (by decide) (Nat.le_of_ble_eq_true rfl) rfl (eX7_says hL (by omega) (fun W1 o1 t1 => ?_))
    exact tail1 W1 o1 (by unfold sNum; rw [if_pos (by omega)]; exact t1)
  · refine rr_aload_n (pc := 6) dX7_saysSquare_6 rfl ?_
    refine rr_bipush (n := (48)) dX7_saysSquare_7 ?_
    refine rr_iload_n (pc := 9) dX7_saysSquare_9 rfl ?_
    refine rr_bipush (n := (10)) dX7_saysSquare_10 ?_
    refine rr_idiv (pc := 12) dX7_saysSquare_12 (by omega) (by omega) (by omega) (by omega) ?_
    refine rr_iadd (pc := 13) dX7_saysSquare_13 ?_
    refine rr_inv0 (M' := MX7_says) (k := 116) (As := [_]) (pc := 14) dX7_saysSquare_14 lX7_349 kX7_says vX7_says zk_116 (by decide) rfl (by decide) (by decide) (Nat.le_of_ble_eq_true rfl) rfl (eX7_says hL (by omega) (fun W1 o1 t1 => ?_))
    refine rr_aload_n (pc := 17) dX7_saysSquare_17 rfl ?_
    refine rr_bipush (n := (48)) dX7_saysSquare_18 ?_
    refine rr_iload_n (pc := 20) dX7_saysSquare_20 rfl ?_
    refine rr_bipush (n := (10)) dX7_saysSquare_21 ?_
    refine rr_irem (pc := 23) dX7_saysSquare_23 (by omega) (by omega) (by omega) (by omega) ?_
    refine rr_iadd (pc := 24) dX7_saysSquare_24 ?_
    refine rr_inv0 (M' := MX7_says) (k := 116) (As := [_]) (pc := 25) dX7_saysSquare_25 lX7_349 kX7_says vX7_says zk_116 (by decide) rfl (by decide) (by decide) (Nat.le_of_ble_eq_true rfl) rfl (eX7_says t1 (by rw [List.length_append]; exact Nat.lt_of_le_of_lt (Nat.succ_le_succ hl) (by decide)) (fun W2 o2 t2 => ?_))
    exact tail1 W2 (o1.tr o2) (by rw [List.append_assoc] at t2; unfold sNum; rw [if_neg (by omega)]; exact t2)
theorem aSd_first {T : Int} {a : Int → Int} {r : Nat} (hw : zWf T a) (hr : (r : Int) < a 0) : aSd a (aF a r) = 0 ∧ (a (8 + (r : Int)) = 2 → aSd a (aF a r + 1) = 1) := by
  have hww := hw.2.2.1 r (by omega) hr
  have hst := aF_step (a := a) r
  have hlo := aF_lo hw (r := r) (by omega)
  have hle := aF_le hw (r := r + 1) (by omega)
  obtain ⟨s1, s2, s3⟩ := aR_spec hw (s := aF a r) (by omega) (by omega)
  have e := aR_uniq hw s1 hr s2 s3 (Int.le_refl _) (by omega)
  unfold aSd
  refine ⟨by rw [e]; omega, fun h2 => ?_⟩
  obtain ⟨u1, u2, u3⟩ := aR_spec hw (s := aF a r + 1) (by omega) (by omega)
  have e2 := aR_uniq hw u1 hr u2 u3 (by omega) (by omega)
  rw [e2]; omega
def zOfW (W W' : zWd) : Prop := (∀ k : Nat, k ≠ 116 → k ≠ 127 → W' k = W k) ∧ ∀ j : Int, j ≠ 7 → j ≠ 26 → W' 116 j = W 116 j
theorem dX7_writeCourt_0 : decode cX7_writeCourt 0 = .ok (.aload_n 0, 1) := by decide +kernel
theorem dX7_writeCourt_1 : decode cX7_writeCourt 1 = .ok (.iconst 0, 1) := by decide +kernel
theorem dX7_writeCourt_2 : decode cX7_writeCourt 2 = .ok (.putfield 59, 3) := by decide +kernel
theorem dX7_writeCourt_5 : decode cX7_writeCourt 5 = .ok (.aload_n 0, 1) := by decide +kernel
theorem dX7_writeCourt_6 : decode cX7_writeCourt 6 = .ok (.iconst 0, 1) := by decide +kernel
theorem dX7_writeCourt_7 : decode cX7_writeCourt 7 = .ok (.putfield 346, 3) := by decide +kernel
theorem dX7_writeCourt_10 : decode cX7_writeCourt 10 = .ok (.iconst 0, 1) := by decide +kernel
theorem dX7_writeCourt_11 : decode cX7_writeCourt 11 = .ok (.istore_n 1, 1) := by decide +kernel
theorem dX7_writeCourt_12 : decode cX7_writeCourt 12 = .ok (.iload_n 1, 1) := by decide +kernel
theorem dX7_writeCourt_13 : decode cX7_writeCourt 13 = .ok (.aload_n 0, 1) := by decide +kernel
theorem dX7_writeCourt_14 : decode cX7_writeCourt 14 = .ok (.getfield 7, 3) := by decide +kernel
theorem dX7_writeCourt_17 : decode cX7_writeCourt 17 = .ok (.iconst 0, 1) := by decide +kernel
theorem dX7_writeCourt_18 : decode cX7_writeCourt 18 = .ok (.iaload, 1) := by decide +kernel
theorem dX7_writeCourt_19 : decode cX7_writeCourt 19 = .ok (.if_icmp .ge 61, 3) := by decide +kernel
theorem dX7_writeCourt_22 : decode cX7_writeCourt 22 = .ok (.iload_n 1, 1) := by decide +kernel
theorem dX7_writeCourt_23 : decode cX7_writeCourt 23 = .ok (.ifCond .le 9, 3) := by decide +kernel
theorem dX7_writeCourt_26 : decode cX7_writeCourt 26 = .ok (.aload_n 0, 1) := by decide +kernel
theorem dX7_writeCourt_27 : decode cX7_writeCourt 27 = .ok (.bipush 32, 2) := by decide +kernel
theorem dX7_writeCourt_29 : decode cX7_writeCourt 29 = .ok (.invokevirtual 349, 3) := by decide +kernel
theorem dX7_writeCourt_32 : decode cX7_writeCourt 32 = .ok (.aload_n 0, 1) := by decide +kernel
theorem dX7_writeCourt_33 : decode cX7_writeCourt 33 = .ok (.aload_n 0, 1) := by decide +kernel
theorem dX7_writeCourt_34 : decode cX7_writeCourt 34 = .ok (.iload_n 1, 1) := by decide +kernel
theorem dX7_writeCourt_35 : decode cX7_writeCourt 35 = .ok (.invokevirtual 212, 3) := by decide +kernel
theorem dX7_writeCourt_38 : decode cX7_writeCourt 38 = .ok (.invokevirtual 352, 3) := by decide +kernel
theorem dX7_writeCourt_41 : decode cX7_writeCourt 41 = .ok (.aload_n 0, 1) := by decide +kernel
theorem dX7_writeCourt_42 : decode cX7_writeCourt 42 = .ok (.getfield 7, 3) := by decide +kernel
theorem dX7_writeCourt_45 : decode cX7_writeCourt 45 = .ok (.bipush 8, 2) := by decide +kernel
theorem dX7_writeCourt_47 : decode cX7_writeCourt 47 = .ok (.iload_n 1, 1) := by decide +kernel
theorem dX7_writeCourt_48 : decode cX7_writeCourt 48 = .ok (.iadd, 1) := by decide +kernel
theorem dX7_writeCourt_49 : decode cX7_writeCourt 49 = .ok (.iaload, 1) := by decide +kernel
theorem dX7_writeCourt_50 : decode cX7_writeCourt 50 = .ok (.iconst 1, 1) := by decide +kernel
theorem dX7_writeCourt_51 : decode cX7_writeCourt 51 = .ok (.if_icmp .ne 6, 3) := by decide +kernel
theorem dX7_writeCourt_54 : decode cX7_writeCourt 54 = .ok (.goto 20, 3) := by decide +kernel
theorem dX7_writeCourt_57 : decode cX7_writeCourt 57 = .ok (.aload_n 0, 1) := by decide +kernel
theorem dX7_writeCourt_58 : decode cX7_writeCourt 58 = .ok (.bipush 47, 2) := by decide +kernel
theorem dX7_writeCourt_60 : decode cX7_writeCourt 60 = .ok (.invokevirtual 349, 3) := by decide +kernel
theorem dX7_writeCourt_63 : decode cX7_writeCourt 63 = .ok (.aload_n 0, 1) := by decide +kernel
theorem dX7_writeCourt_64 : decode cX7_writeCourt 64 = .ok (.aload_n 0, 1) := by decide +kernel
theorem dX7_writeCourt_65 : decode cX7_writeCourt 65 = .ok (.iload_n 1, 1) := by decide +kernel
theorem dX7_writeCourt_66 : decode cX7_writeCourt 66 = .ok (.invokevirtual 212, 3) := by decide +kernel
theorem dX7_writeCourt_69 : decode cX7_writeCourt 69 = .ok (.iconst 1, 1) := by decide +kernel
theorem dX7_writeCourt_70 : decode cX7_writeCourt 70 = .ok (.iadd, 1) := by decide +kernel
theorem dX7_writeCourt_71 : decode cX7_writeCourt 71 = .ok (.invokevirtual 352, 3) := by decide +kernel
theorem dX7_writeCourt_74 : decode cX7_writeCourt 74 = .ok (.iinc 1 1, 3) := by decide +kernel
theorem dX7_writeCourt_77 : decode cX7_writeCourt 77 = .ok (.goto (-65), 3) := by decide +kernel
theorem dX7_writeCourt_80 : decode cX7_writeCourt 80 = .ok (.aload_n 0, 1) := by decide +kernel
theorem dX7_writeCourt_81 : decode cX7_writeCourt 81 = .ok (.getfield 346, 3) := by decide +kernel
theorem dX7_writeCourt_84 : decode cX7_writeCourt 84 = .ok (.ireturn, 1) := by decide +kernel
theorem eX7_writeCourt {W : zWd} {a : Int → Int} {T : Int}  {Q : Option Value → zWd → Prop} {X : zX} (ha : W 117 = a) (hw : zWf T a) (hN : ∀ q : Int, 0 ≤ q → q < a 2 → ∃ len, zNam a q len) (hq : ∀ W' : zWd, zOfW W W' → W' 116 7 = 0 → zMw W' (vText a) → Q (some (zI ((vText a).length : Nat))) W') : Ev MX7_writeCourt 3 0 W [.ref 116] Q X := by
  refine ev_of (ls := [.ref 116, .null]) (by decide) rfl (fun _ => rfl) (fun _ => Nat.le_of_ble_eq_true rfl) (Or.inl rfl) ?_
  obtain ⟨w0, w0', wW, w1, w2, w2', w3, w3', w4, w4', w5, w5', w6, w6', w7, w7', wS, wP, wT⟩ := id hw
  have wq := zWf.sq hw
  refine rr_aload_n (pc := 0) dX7_writeCourt_0 rfl ?_
  refine rr_iconst (n := 0) dX7_writeCourt_1 ?_
  refine rr_put (pc := 2) (ji := 7) dX7_writeCourt_2 fX7_59 fp_7_7 zk_116 zr_116_7 rfl ?_
  refine rr_aload_n (pc := 5) dX7_writeCourt_5 rfl ?_
  refine rr_iconst (n := 0) dX7_writeCourt_6 ?_
  refine rr_put (pc := 7) (ji := 26) dX7_writeCourt_7 fX7_346 fp_7_26 zk_116 zr_116_26 rfl ?_
  have h117 : zup (zup W 116 7 0) 116 26 0 117 = a := by rw [zup_other 117 (by decide), zup_other 117 (by decide)]; exact ha
  have t7 : zup (zup W 116 7 0) 116 26 0 116 7 = 0 := by rw [zup_i (by decide), zup_s]
  have u1 : zMw (zup (zup W 116 7 0) 116 26 0) [] := ⟨zup_s, fun i hi => by cases hi⟩
  have o1 : ∀ {W' : zWd}, zOfw (zup (zup W 116 7 0) 116 26 0) W' → zOfW W W' := fun h => ⟨fun k g1 g2 => by rw [h.1 k g1 g2, zup_other k g1, zup_other k g1], fun j g1 g2 => by rw [h.2 j g2, zup_i g2, zup_i g1]⟩
  generalize zup (zup W 116 7 0) 116 26 0 = W1 at h117 t7 u1 o1 ⊢
  refine rr_iconst (n := 0) dX7_writeCourt_10 ?_
  refine rr_istore_n (pc := 11) dX7_writeCourt_11 (by decide) ?_
  have loop : ∀ (n : Nat) (k : Nat) (Wk : zWd), (k : Int) ≤ a 0 → zOfw W1 Wk → zMw Wk (vTx a (aF a k - 1).toNat) → (a 0).toNat - k < n → RR MX7_writeCourt 3 0 Wk 12 [.ref 116, zI (k : Int)] [] (zEnd MX7_writeCourt Q X) X := by
    intro n
    induction n with
    | zero => intro k Wk _ _ _ hm9; omega
    | succ n ih =>
      intro k Wk hk Ok uk hm9
      have e7 : Wk 117 = a := (Ok.1 117 (by decide) (by decide)).trans h117
      refine rr_iload_n (pc := 12) dX7_writeCourt_12 rfl ?_
      refine rr_aload_n (pc := 13) dX7_writeCourt_13 rfl ?_
      refine rr_getR (pc := 14) dX7_writeCourt_14 fX7_7 zk_116 zr_116_0 ?_
      refine rr_iconst (n := 0) dX7_writeCourt_17 ?_
      refine rr_iald (pc := 18) dX7_writeCourt_18 zk_117 (by omega) (by omega) ?_
      rw [e7]
      refine rr_icmp_ge (pc := 19) (tgt := 80) dX7_writeCourt_19 (by decide) (by unfold zR; omega) (by unfold zR; omega) (fun h19 => ?_) (fun h19 => ?_)
      · refine rr_aload_n (pc := 80) dX7_writeCourt_80 rfl ?_
        refine rr_getI (pc := 81) (ji := 26) dX7_writeCourt_81 fX7_346 zk_116 zr_116_26 rfl ?_
        rw [uk.1]
        have hfin : vTx a (aF a k - 1).toNat = vText a := by unfold vText; rw [show (aF a k - 1).toNat = (a 1).toNat by rw [w1, show (a 0).toNat = k by omega]]
        exact rr_reti (pc := 84) dX7_writeCourt_84 rfl rfl (by rw [hfin]) rfl (hq Wk (o1 Ok) (Ok.2 7 (by decide) |>.trans t7) (by rw [← hfin]; exact uk))
      · have hlo := aF_lo hw (r := k) (by omega)
        have hle := aF_le hw (r := k + 1) (by omega)
        have hst := aF_step (a := a) k
        have hww := wW k (by omega) (by omega)
        obtain ⟨hsd0, hsd1⟩ := aSd_first hw (r := k) (by omega)
        have hv := vTx_len (a := a) (aF a k - 1).toNat
        have hv9 : 13 * (aF a k - 1).toNat ≤ 260 := by omega
        have hsp := vTx_step (a := a) (i := aF a k) (by omega)
        rw [hsd0] at hsp
        have body : ∀ (W5 : zWd), zOfw W1 W5 → W5 117 = a → ∀ (L5 : List Int), zMw W5 L5 → L5.length ≤ 13 * (aF a k - 1).toNat + 1 → vTx a (aF a k).toNat = L5 ++ sSq a (aF a k) → RR MX7_writeCourt 3 0 W5 32 [.ref 116, zI (k : Int)] [] (zEnd MX7_writeCourt Q X) X := by
          intro W5 O5 e5 L5 t5 l5 hsp
          refine rr_aload_n (pc := 32) dX7_writeCourt_32 rfl ?_
          refine rr_aload_n (pc := 33) dX7_writeCourt_33 rfl ?_
          refine rr_iload_n (pc := 34) dX7_writeCourt_34 rfl ?_
          refine rr_inv0 (M' := MX7_firstOf) (k := 116) (As := [_]) (pc := 35) dX7_writeCourt_35 lX7_212 kX7_firstOf vX7_firstOf zk_116 (by decide) rfl (by decide) (by decide) (Nat.le_of_ble_eq_true rfl) rfl (eX7_firstOf (by omega) (by omega) ?_)
          rw [e5, Int.toNat_natCast]
          refine rr_inv0 (M' := MX7_saysSquare) (k := 116) (As := [_]) (pc := 38) dX7_writeCourt_38 lX7_352 kX7_saysSquare vX7_saysSquare zk_116 (by decide) rfl (by decide) (by decide) (Nat.le_of_ble_eq_true rfl) rfl (eX7_saysSquare e5 hw hN (by omega) (by omega) t5 (by omega) (fun W6 o6 t6 => ?_))
          have e6 : W6 117 = a := (o6.1 117 (by decide) (by decide)).trans e5
          rw [← hsp] at t6
          refine rr_aload_n (pc := 41) dX7_writeCourt_41 rfl ?_
          refine rr_getR (pc := 42) dX7_writeCourt_42 fX7_7 zk_116 zr_116_0 ?_
          refine rr_bipush (n := (8)) dX7_writeCourt_45 ?_
          refine rr_iload_n (pc := 47) dX7_writeCourt_47 rfl ?_
          refine rr_iadd (pc := 48) dX7_writeCourt_48 ?_
          refine rr_iald (pc := 49) dX7_writeCourt_49 zk_117 (by omega) (by omega) ?_
          rw [e6]
          refine rr_iconst (n := 1) dX7_writeCourt_50 ?_
          refine rr_icmp_ne (pc := 51) (tgt := 57) dX7_writeCourt_51 (by decide) (by unfold zR; omega) (by unfold zR; omega) (fun h51 => ?_) (fun h51 => ?_)
          · refine rr_aload_n (pc := 57) dX7_writeCourt_57 rfl ?_
            refine rr_bipush (n := (47)) dX7_writeCourt_58 ?_
            have hv6 := vTx_len (a := a) (aF a k).toNat
            have hsp2 := vTx_step (a := a) (i := aF a k + 1) (by omega)
            rw [if_neg (by omega), if_pos (hsd1 (by omega)), show (aF a k + 1 - 1).toNat = (aF a k).toNat by omega] at hsp2
            refine rr_inv0 (M' := MX7_says) (k := 116) (As := [_]) (pc := 60) dX7_writeCourt_60 lX7_349 kX7_says vX7_says zk_116 (by decide) rfl (by decide) (by decide) (Nat.le_of_ble_eq_true rfl) rfl (eX7_says t6 (by omega) (fun W7 o7 t7 => ?_))
            have e7 : W7 117 = a := (o7.1 117 (by decide) (by decide)).trans e6
            refine rr_aload_n (pc := 63) dX7_writeCourt_63 rfl ?_
            refine rr_aload_n (pc := 64) dX7_writeCourt_64 rfl ?_
            refine rr_iload_n (pc := 65) dX7_writeCourt_65 rfl ?_
            refine rr_inv0 (M' := MX7_firstOf) (k := 116) (As := [_]) (pc := 66) dX7_writeCourt_66 lX7_212 kX7_firstOf vX7_firstOf zk_116 (by decide) rfl (by decide) (by decide) (Nat.le_of_ble_eq_true rfl) rfl (eX7_firstOf (by omega) (by omega) ?_)
            rw [e7, Int.toNat_natCast]
            refine rr_iconst (n := 1) dX7_writeCourt_69 ?_
            refine rr_iadd (pc := 70) dX7_writeCourt_70 ?_
            refine rr_inv0 (M' := MX7_saysSquare) (k := 116) (As := [_]) (pc := 71) dX7_writeCourt_71 lX7_352 kX7_saysSquare vX7_saysSquare zk_116 (by decide) rfl (by decide) (by decide) (Nat.le_of_ble_eq_true rfl) rfl (eX7_saysSquare e7 hw hN (by omega) (by omega) t7 (by rw [List.length_append]; have h7 : ([47] : List Int).length = 1 := rfl; omega) (fun W8 o8 t8 => ?_))
            rw [← hsp2] at t8
            refine rr_iinc (pc := 74) dX7_writeCourt_74 rfl (by decide) ?_
            refine rr_goto (pc := 77) (tgt := 12) dX7_writeCourt_77 (by decide) ?_
            exact ih (k + 1) W8 (by omega) (((O5.tr o6).tr o7).tr o8) (by rw [show (aF a (k + 1) - 1).toNat = (aF a k + 1).toNat by omega]; exact t8) (by omega)
          · refine rr_goto (pc := 54) (tgt := 74) dX7_writeCourt_54 (by decide) ?_
            refine rr_iinc (pc := 74) dX7_writeCourt_74 rfl (by decide) ?_
            refine rr_goto (pc := 77) (tgt := 12) dX7_writeCourt_77 (by decide) ?_
            exact ih (k + 1) W6 (by omega) (O5.tr o6) (by rw [show (aF a (k + 1) - 1).toNat = (aF a k).toNat by omega]; exact t6) (by omega)
        refine rr_iload_n (pc := 22) dX7_writeCourt_22 rfl ?_
        refine rr_if_le (pc := 23) (tgt := 32) dX7_writeCourt_23 (by decide) (by unfold zR; omega) (fun h23 => ?_) (fun h23 => ?_)
        · have hk0 : aF a k = 1 := by rw [show k = 0 by omega]; rfl
          rw [if_pos (by omega), List.append_nil] at hsp
          exact body Wk Ok (Ok.1 117 (by decide) (by decide) |>.trans h117) _ uk (by omega) hsp
        · refine rr_aload_n (pc := 26) dX7_writeCourt_26 rfl ?_
          refine rr_bipush (n := (32)) dX7_writeCourt_27 ?_
          refine rr_inv0 (M' := MX7_says) (k := 116) (As := [_]) (pc := 29) dX7_writeCourt_29 lX7_349 kX7_says vX7_says zk_116 (by decide) rfl (by decide) (by decide) (Nat.le_of_ble_eq_true rfl) rfl (eX7_says uk (by omega) (fun W5 o5 t5 => ?_))
          rw [if_neg (by omega), if_neg (by decide)] at hsp
          exact body W5 (Ok.tr o5) ((o5.1 117 (by decide) (by decide)).trans e7) _ t5 (by rw [List.length_append]; exact Nat.succ_le_succ hv |> fun h => by have h7 : ([32] : List Int).length = 1 := rfl; omega) hsp
  exact loop _ 0 W1 (by omega) zOfw.rf (by exact u1) (Nat.lt_succ_self _)
theorem dX7_writtenByte_0 : decode cX7_writtenByte 0 = .ok (.aload_n 0, 1) := by decide +kernel
theorem dX7_writtenByte_1 : decode cX7_writtenByte 1 = .ok (.iload_n 1, 1) := by decide +kernel
theorem dX7_writtenByte_2 : decode cX7_writtenByte 2 = .ok (.iconst 0, 1) := by decide +kernel
theorem dX7_writtenByte_3 : decode cX7_writtenByte 3 = .ok (.aload_n 0, 1) := by decide +kernel
theorem dX7_writtenByte_4 : decode cX7_writtenByte 4 = .ok (.getfield 346, 3) := by decide +kernel
theorem dX7_writtenByte_7 : decode cX7_writtenByte 7 = .ok (.iconst 1, 1) := by decide +kernel
theorem dX7_writtenByte_8 : decode cX7_writtenByte 8 = .ok (.isub, 1) := by decide +kernel
theorem dX7_writtenByte_9 : decode cX7_writtenByte 9 = .ok (.invokestatic 69, 3) := by decide +kernel
theorem dX7_writtenByte_12 : decode cX7_writtenByte 12 = .ok (.ifCond .eq 7, 3) := by decide +kernel
theorem dX7_writtenByte_15 : decode cX7_writtenByte 15 = .ok (.iconst 0, 1) := by decide +kernel
theorem dX7_writtenByte_16 : decode cX7_writtenByte 16 = .ok (.goto 4, 3) := by decide +kernel
theorem dX7_writtenByte_19 : decode cX7_writtenByte 19 = .ok (.iconst 1, 1) := by decide +kernel
theorem dX7_writtenByte_20 : decode cX7_writtenByte 20 = .ok (.putfield 59, 3) := by decide +kernel
theorem dX7_writtenByte_23 : decode cX7_writtenByte 23 = .ok (.aload_n 0, 1) := by decide +kernel
theorem dX7_writtenByte_24 : decode cX7_writtenByte 24 = .ok (.getfield 59, 3) := by decide +kernel
theorem dX7_writtenByte_27 : decode cX7_writtenByte 27 = .ok (.ifCond .le 7, 3) := by decide +kernel
theorem dX7_writtenByte_30 : decode cX7_writtenByte 30 = .ok (.iconst 0, 1) := by decide +kernel
theorem dX7_writtenByte_31 : decode cX7_writtenByte 31 = .ok (.goto 9, 3) := by decide +kernel
theorem dX7_writtenByte_34 : decode cX7_writtenByte 34 = .ok (.aload_n 0, 1) := by decide +kernel
theorem dX7_writtenByte_35 : decode cX7_writtenByte 35 = .ok (.getfield 45, 3) := by decide +kernel
theorem dX7_writtenByte_38 : decode cX7_writtenByte 38 = .ok (.iload_n 1, 1) := by decide +kernel
theorem dX7_writtenByte_39 : decode cX7_writtenByte 39 = .ok (.iaload, 1) := by decide +kernel
theorem dX7_writtenByte_40 : decode cX7_writtenByte 40 = .ok (.ireturn, 1) := by decide +kernel
theorem eX7_writtenByte {W : zWd} {L : List Int} {i : Int}  {Q : Option Value → zWd → Prop} {X : zX} (hL : zMw W L) (hl : L.length ≤ 400) (hz : zR i) (hq : 0 ≤ i ∧ i < L.length → ∀ W' : zWd, zOfQ W W' → W' 116 7 = 0 → Q (some (zI (L.getD i.toNat 0))) W') (hq1 : ¬ (0 ≤ i ∧ i < L.length) → ∀ W' : zWd, zOfQ W W' → W' 116 7 = 1 → Q (some (zI 0)) W') : Ev MX7_writtenByte 1 0 W [.ref 116, zI i] Q X := by
  refine ev_of (ls := [.ref 116, zI i]) (by decide) rfl (fun _ => rfl) (fun _ => Nat.le_of_ble_eq_true rfl) (Or.inl rfl) ?_
  refine rr_aload_n (pc := 0) dX7_writtenByte_0 rfl ?_
  refine rr_iload_n (pc := 1) dX7_writtenByte_1 rfl ?_
  refine rr_iconst (n := 0) dX7_writtenByte_2 ?_
  refine rr_aload_n (pc := 3) dX7_writtenByte_3 rfl ?_
  refine rr_getI (pc := 4) (ji := 26) dX7_writtenByte_4 fX7_346 zk_116 zr_116_26 rfl ?_
  rw [hL.1]
  refine rr_iconst (n := 1) dX7_writtenByte_7 ?_
  refine rr_isub (pc := 8) dX7_writtenByte_8 ?_
  refine rr_sta0 (M' := MX7_isIn) (As := [_, _, _]) (pc := 9) dX7_writtenByte_9 lX7_69 kX7_isIn sX7_isIn (by decide) (by decide) (Nat.le_of_ble_eq_true rfl) rfl (eX7_isIn hz (by unfold zR; omega) (by unfold zR; omega) ?_)
  refine rr_if_eq (pc := 12) (tgt := 19) dX7_writtenByte_12 (by decide) (by split <;> (unfold zR; omega)) (fun h12 => ?_) (fun h12 => ?_)
  · refine rr_iconst (n := 1) dX7_writtenByte_19 ?_
    have hc := z_i10 h12
    refine rr_put (pc := 20) (ji := 7) dX7_writtenByte_20 fX7_59 fp_7_7 zk_116 zr_116_7 rfl ?_
    have o1 : zOfQ W (zup W 116 7 1) := zOfQ.t
    have t1 : zup W 116 7 1 116 7 = 1 := zup_s
    generalize zup W 116 7 1 = W1 at o1 t1 ⊢
    refine rr_aload_n (pc := 23) dX7_writtenByte_23 rfl ?_
    refine rr_getI (pc := 24) (ji := 7) dX7_writtenByte_24 fX7_59 zk_116 zr_116_7 rfl ?_
    rw [t1]
    refine rr_if_le (pc := 27) (tgt := 34) dX7_writtenByte_27 (by decide) (by unfold zR; omega) (fun h27 => ?_) (fun h27 => ?_)
    · omega
    · refine rr_iconst (n := 0) dX7_writtenByte_30 ?_
      refine rr_goto (pc := 31) (tgt := 40) dX7_writtenByte_31 (by decide) ?_
      exact rr_reti (pc := 40) dX7_writtenByte_40 rfl rfl rfl rfl (hq1 (fun z => hc (by omega)) W1 o1 t1)
  · refine rr_iconst (n := 0) dX7_writtenByte_15 ?_
    refine rr_goto (pc := 16) (tgt := 20) dX7_writtenByte_16 (by decide) ?_
    have hc := z_i10n h12
    refine rr_put (pc := 20) (ji := 7) dX7_writtenByte_20 fX7_59 fp_7_7 zk_116 zr_116_7 rfl ?_
    have o1 : zOfQ W (zup W 116 7 0) := zOfQ.t
    have t1 : zup W 116 7 0 116 7 = 0 := zup_s
    generalize zup W 116 7 0 = W1 at o1 t1 ⊢
    refine rr_aload_n (pc := 23) dX7_writtenByte_23 rfl ?_
    refine rr_getI (pc := 24) (ji := 7) dX7_writtenByte_24 fX7_59 zk_116 zr_116_7 rfl ?_
    rw [t1]
    refine rr_if_le (pc := 27) (tgt := 34) dX7_writtenByte_27 (by decide) (by unfold zR; omega) (fun h27 => ?_) (fun h27 => ?_)
    · refine rr_aload_n (pc := 34) dX7_writtenByte_34 rfl ?_
      refine rr_getR (pc := 35) dX7_writtenByte_35 fX7_45 zk_116 zr_116_25 ?_
      refine rr_iload_n (pc := 38) dX7_writtenByte_38 rfl ?_
      refine rr_iald (pc := 39) dX7_writtenByte_39 zk_127 (by omega) (by omega) ?_
      have e9 : W1 127 i = L.getD i.toNat 0 := by
        have h9 := hL.2 i.toNat (by omega)
        rw [show ((i.toNat : Nat) : Int) = i by omega] at h9
        rw [o1.1 127 (by decide) (by decide) (by decide) (by decide)]; exact h9
      exact rr_reti (pc := 40) dX7_writtenByte_40 rfl rfl e9 rfl (hq (by omega) W1 o1 t1)
    · omega
theorem dX7_errorPosition_0 : decode cX7_errorPosition 0 = .ok (.aload_n 0, 1) := by decide +kernel
theorem dX7_errorPosition_1 : decode cX7_errorPosition 1 = .ok (.iconst 0, 1) := by decide +kernel
theorem dX7_errorPosition_2 : decode cX7_errorPosition 2 = .ok (.putfield 59, 3) := by decide +kernel
theorem dX7_errorPosition_5 : decode cX7_errorPosition 5 = .ok (.aload_n 0, 1) := by decide +kernel
theorem dX7_errorPosition_6 : decode cX7_errorPosition 6 = .ok (.getfield 32, 3) := by decide +kernel
theorem dX7_errorPosition_9 : decode cX7_errorPosition 9 = .ok (.ireturn, 1) := by decide +kernel
theorem eX7_errorPosition {W : zWd}  {Q : Option Value → zWd → Prop} {X : zX} (hq : ∀ W' : zWd, zOfQ W W' → W' 116 7 = 0 → Q (some (zI (W 116 16))) W') : Ev MX7_errorPosition 0 0 W [.ref 116] Q X := by
  refine ev_of (ls := [.ref 116]) (by decide) rfl (fun _ => rfl) (fun _ => Nat.le_of_ble_eq_true rfl) (Or.inl rfl) ?_
  refine rr_aload_n (pc := 0) dX7_errorPosition_0 rfl ?_
  refine rr_iconst (n := 0) dX7_errorPosition_1 ?_
  refine rr_put (pc := 2) (ji := 7) dX7_errorPosition_2 fX7_59 fp_7_7 zk_116 zr_116_7 rfl ?_
  refine rr_aload_n (pc := 5) dX7_errorPosition_5 rfl ?_
  refine rr_getI (pc := 6) (ji := 16) dX7_errorPosition_6 fX7_32 zk_116 zr_116_16 rfl ?_
  rw [zup_i (show (16 : Int) ≠ 7 by decide)]
  exact rr_reti (pc := 9) dX7_errorPosition_9 rfl rfl rfl rfl (hq _ zOfQ.t zup_s)
