theorem eX7_lays {W : zWd} {a : Int → Int} {T : Int} {p tg b : Int} {rc : Nat} {Q : Option Value → zWd → Prop} {X : zX} (ha : W 117 = a) (hw : zWf T a) (hp0 : 0 ≤ p) (hp1 : p < a 2) (ht0 : 1 ≤ tg) (ht1 : tg ≤ a 1) (hrc1 : 1 ≤ rc) (hrc4 : rc ≤ 4) (hb : b = 0 ∨ b = 1) (hq : ∀ W' : zWd, zOfl W W' → zLy W' (aWay a p tg rc b) → Q (some (zI (aCost a p tg rc b))) W') : Ev MX7_lays 4 0 W [.ref 116, zI p, zI tg, zI (rc : Int), zI b] Q X := by
  refine ev_of (ls := [.ref 116, zI p, zI tg, zI (rc : Int), zI b, .null, .null, .null, .null]) (by decide) rfl (fun _ => rfl) (fun _ => Nat.le_of_ble_eq_true rfl) (Or.inl rfl) ?_
  obtain ⟨w0, w0', wW, w1, w2, w2', w3, w3', w4, w4', w5, w5', w6, w6', w7, w7', wS, wP, wT⟩ := id hw
  have wq := zWf.sq hw
  have hm2 := wP p hp0 hp1
  unfold zWfP at hm2
  have hsp := aR_spec hw ht0 ht1
  obtain ⟨F, hF⟩ : ∃ F, F = zWF a p tg b := ⟨_, rfl⟩
  obtain ⟨L, hL⟩ : ∃ L, L = (a 0 + 1).toNat := ⟨_, rfl⟩
  obtain ⟨must, hmm⟩ : ∃ m, m = zWm a tg b := ⟨_, rfl⟩
  obtain ⟨bal, hbl⟩ : ∃ m, m = (aP a p 1).toNat := ⟨_, rfl⟩
  have hLa : a 0 + 1 = L := by omega
  have hL3 : 3 ≤ L := by omega
  have hL11 : L ≤ 11 := by omega
  have hbal : aP a p 1 = bal := by omega
  have hb9 : bal ≤ 9 := by omega
  have hmu : must ≤ L := by rw [hmm]; unfold zWm; split <;> omega
  have hFL : F L = 2 := by rw [hF]; exact zWF_2 (by omega)
  have hFr : ∀ k, 0 ≤ F k ∧ F k ≤ 2 := fun k => by rw [hF]; exact zFt_rng _ _ _ _ _
  have hFt : ∀ k : Nat, 1 ≤ k → (k : Int) ≤ a 0 → F k = zFo (aF a (zRa b (a 0 + 1) k).toNat).toNat (a (8 + zRa b (a 0 + 1) k)) (aUse a p (if b = 0 then tg else 0)) (fun i => decide (aO a i = p)) := fun k g1 g2 => by
    rw [hF]; exact if_neg (by omega)
  have tailA : ∀ (Wi : zWd) (x5 : Int) (x6 x7 x8 : Value), zOfl W Wi → zMS Wi F L must → RR MX7_lays 4 0 Wi 75 [.ref 116, zI p, zI tg, zI (rc : Int), zI b, zI x5, x6, x7, x8] [] (zEnd MX7_lays Q X) X := by
    intro Wi x5 x6 x7 x8 hO hSA
    have e7 : Wi 117 = a := (hO.1 117 (by decide) (by decide) (by decide) (by decide)).trans ha
    refine rr_aload_n (pc := 75) dX7_lays_75 rfl ?_
    refine rr_inv0 (M' := MX7_last) (k := 116) (As := []) (pc := 76) dX7_lays_76 lX7_231 kX7_last vX7_last zk_116 (by decide) rfl (by decide) (by decide) (Nat.le_of_ble_eq_true rfl) rfl (eX7_last ?_)
    rw [e7, hLa]
    refine rr_istore (pc := 79) dX7_lays_79 (by decide) ?_
    refine eX7_laysB (Q := Q) (X := X) hSA hp0 (by omega) (by rw [e7]; exact hbal) hb9 hrc4 _ _ _ (fun W3 y6 y7 y8 o3 t3 z5 hz5 => ?_)
    refine rr_aload_n (pc := 179) dX7_lays_179 rfl ?_
    refine rr_iconst (n := 0) dX7_lays_180 ?_
    refine rr_put (pc := 181) (ji := 21) dX7_lays_181 fX7_260 fp_7_21 zk_116 zr_116_21 rfl ?_
    have oB : zOfl W (zup W3 116 21 0) := (hO.tr ⟨fun k g1 g2 _ _ => o3 k g2, fun j _ _ => by rw [o3 116 (by decide)]⟩).up6 (by omega)
    have t4 : ∀ k' r' : Nat, k' ≤ L → r' ≤ 9 → zup W3 116 21 0 124 (10 * (k' : Int) + (r' : Nat)) = zV F L must rc bal k' r' := fun k' r' g1 g2 => by rw [zup_other 124 (by decide)]; exact t3 k' r' g1 g2
    have hS4 : zMS (zup W3 116 21 0) F L must := hSA.cg (by rw [zup_other 117 (by decide), o3 117 (by decide)]) (by rw [zup_i (by decide), o3 116 (by decide)]) (by rw [zup_other 125 (by decide), o3 125 (by decide)])
    have h217 : zup W3 116 21 0 117 = a := by rw [zup_other 117 (by decide), o3 117 (by decide)]; exact e7
    have h21 : zup W3 116 21 0 116 21 = 0 := zup_s
    have hvr := zV_rng (F := F) (L := L) (must := must) (rc := rc) (bal := bal) 0 0
    generalize zup W3 116 21 0 = W4 at oB t4 hS4 h217 h21 ⊢
    refine rr_aload_n (pc := 184) dX7_lays_184 rfl ?_
    refine rr_getR (pc := 185) dX7_lays_185 fX7_36 zk_116 zr_116_17 ?_
    refine rr_iconst (n := 0) dX7_lays_188 ?_
    refine rr_iald (pc := 189) dX7_lays_189 zk_124 (by omega) (by omega) ?_
    rw [show (W4 124 0 : Int) = zV F L must rc bal 0 0 from t4 0 0 (by omega) (by omega)]
    refine rr_ldc (pc := 190) dX7_lays_190 cX7_k244 ?_
    refine rr_icmp_lt (pc := 192) (tgt := 197) dX7_lays_192 (by decide) (by unfold zR; omega) (by unfold zR; omega) (fun h192 => ?_) (fun h192 => ?_)
    · have hway : aWay a p tg rc b = zHp F L must rc bal (L + 1) 0 0 := by rw [aWay_in ht0 ht1, ← hF, ← hL, ← hmm, ← hbl]; exact if_pos (by omega)
      have hcost : aCost a p tg rc b = zV F L must rc bal 0 0 := by rw [aCost_in ht0 ht1, ← hF, ← hL, ← hmm, ← hbl]; exact if_pos (by omega)
      refine rr_iconst (n := 0) dX7_lays_197 ?_
      refine rr_istore (pc := 198) dX7_lays_198 (by decide) ?_
      refine rr_iconst (n := 0) dX7_lays_200 ?_
      refine rr_istore (pc := 201) dX7_lays_201 (by decide) ?_
      refine eX7_laysE (Q := Q) (X := X) hS4 hp0 (by omega) (by rw [h217]; exact hbal) hb9 hrc4 t4 (by omega) h21 _ _ (fun W5 y6 y7 y8 o5 t5 l5 => ?_)
      rw [← hway] at l5
      refine rr_aload_n (pc := 289) dX7_lays_289 rfl ?_
      refine rr_getR (pc := 290) dX7_lays_290 fX7_36 zk_116 zr_116_17 ?_
      refine rr_iconst (n := 0) dX7_lays_293 ?_
      refine rr_iald (pc := 294) dX7_lays_294 zk_124 (by omega) (by omega) ?_
      rw [show (W5 124 0 : Int) = zV F L must rc bal 0 0 from t5 0 0 (by omega) (by omega)]
      exact rr_reti (pc := 295) dX7_lays_295 rfl rfl hcost.symm rfl (hq W5 (oB.tr o5) l5)
    · refine rr_iconst (n := (-1)) dX7_lays_195 ?_
      have hway : aWay a p tg rc b = [] := by rw [aWay_in ht0 ht1, ← hF, ← hL, ← hmm, ← hbl]; exact if_neg (by omega)
      have hcost : aCost a p tg rc b = -1 := by rw [aCost_in ht0 ht1, ← hF, ← hL, ← hmm, ← hbl]; exact if_neg (by omega)
      exact rr_reti (pc := 196) dX7_lays_196 rfl rfl hcost.symm rfl (hq W4 oB (by rw [hway]; exact ⟨h21, fun i hi => by cases hi⟩))
  have loopA : ∀ (n : Nat) (i : Nat) (Wi : zWd) (x6 x7 x8 : Value), 1 ≤ i → i ≤ L → zOfl W Wi → Wi 116 20 = must → (∀ k : Nat, 1 ≤ k → k < i → Wi 125 k = F k) → L - i < n → RR MX7_lays 4 0 Wi 30 [.ref 116, zI p, zI tg, zI (rc : Int), zI b, zI (i : Int), x6, x7, x8] [] (zEnd MX7_lays Q X) X := by
    intro n
    induction n with
    | zero => intro i Wi x6 x7 x8 _ _ _ _ _ hm9; omega
    | succ n ih =>
      intro i Wi x6 x7 x8 h1 h2 hO hm hf hm9
      have e7 : Wi 117 = a := (hO.1 117 (by decide) (by decide) (by decide) (by decide)).trans ha
      refine rr_iload (pc := 30) dX7_lays_30 rfl ?_
      refine rr_aload_n (pc := 32) dX7_lays_32 rfl ?_
      refine rr_inv0 (M' := MX7_last) (k := 116) (As := []) (pc := 33) dX7_lays_33 lX7_231 kX7_last vX7_last zk_116 (by decide) rfl (by decide) (by decide) (Nat.le_of_ble_eq_true rfl) rfl (eX7_last ?_)
      rw [e7, hLa]
      refine rr_icmp_ge (pc := 36) (tgt := 75) dX7_lays_36 (by decide) (by unfold zR; omega) (by unfold zR; omega) (fun h36 => ?_) (fun h36 => ?_)
      · have hiL : i = L := by omega
        subst hiL
        exact tailA Wi _ _ _ _ hO ⟨by rw [e7]; exact hLa, hL3, hL11, hmu, hm, hf, hFL, hFr⟩
      · refine rr_aload_n (pc := 39) dX7_lays_39 rfl ?_
        refine rr_getR (pc := 40) dX7_lays_40 fX7_39 zk_116 zr_116_18 ?_
        refine rr_iload (pc := 43) dX7_lays_43 rfl ?_
        refine rr_aload_n (pc := 45) dX7_lays_45 rfl ?_
        refine rr_iload_n (pc := 46) dX7_lays_46 rfl ?_
        refine rr_aload_n (pc := 47) dX7_lays_47 rfl ?_
        refine rr_iload (pc := 48) dX7_lays_48 rfl ?_
        refine rr_iload (pc := 50) dX7_lays_50 rfl ?_
        refine rr_inv0 (M' := MX7_rowAt) (k := 116) (As := [_, _]) (pc := 52) dX7_lays_52 lX7_248 kX7_rowAt vX7_rowAt zk_116 (by decide) rfl (by decide) (by decide) (Nat.le_of_ble_eq_true rfl) rfl (eX7_rowAt hb ?_)
        rw [e7]
        have hra : 0 ≤ zRa b (a 0 + 1) i ∧ zRa b (a 0 + 1) i < a 0 := by unfold zRa; split <;> omega
        have hFi := hFt i h1 (by omega)
        refine rr_iload (pc := 55) dX7_lays_55 rfl ?_
        refine rr_if_eq (pc := 57) (tgt := 64) dX7_lays_57 (by decide) (by unfold zR; omega) (fun h57 => ?_) (fun h57 => ?_)
        · refine rr_iload_n (pc := 64) dX7_lays_64 rfl ?_
          refine rr_inv0 (M' := MX7_footingOf) (k := 116) (As := [_, _, _]) (pc := 65) dX7_lays_65 lX7_252 kX7_footingOf vX7_footingOf zk_116 (by decide) rfl (by decide) (by decide) (Nat.le_of_ble_eq_true rfl) rfl (eX7_footingOf e7 hw hra.1 hra.2 (by unfold zR; omega) (by unfold zR; omega) ?_)
          rw [if_pos (by omega)] at hFi
          rw [← hFi]
          refine rr_iast (pc := 68) dX7_lays_68 zk_125 (by omega) (by omega) ?_
          refine rr_iinc (pc := 69) dX7_lays_69 rfl (by decide) ?_
          refine rr_goto (pc := 72) (tgt := 30) dX7_lays_72 (by decide) ?_
          exact ih (i + 1) _ _ _ _ (by omega) (by omega) (hO.up (by omega)) (by rw [zup_other 116 (by decide)]; exact hm) (fun k g1 g2 => by
            by_cases z : k = i
            · subst z; exact zup_s
            · rw [zup_i (by omega)]; exact hf k g1 (by omega)) (by omega)
        · refine rr_iconst (n := 0) dX7_lays_60 ?_
          refine rr_goto (pc := 61) (tgt := 65) dX7_lays_61 (by decide) ?_
          refine rr_inv0 (M' := MX7_footingOf) (k := 116) (As := [_, _, _]) (pc := 65) dX7_lays_65 lX7_252 kX7_footingOf vX7_footingOf zk_116 (by decide) rfl (by decide) (by decide) (Nat.le_of_ble_eq_true rfl) rfl (eX7_footingOf e7 hw hra.1 hra.2 (by unfold zR; omega) (by unfold zR; omega) ?_)
          rw [if_neg (by omega)] at hFi
          rw [← hFi]
          refine rr_iast (pc := 68) dX7_lays_68 zk_125 (by omega) (by omega) ?_
          refine rr_iinc (pc := 69) dX7_lays_69 rfl (by decide) ?_
          refine rr_goto (pc := 72) (tgt := 30) dX7_lays_72 (by decide) ?_
          exact ih (i + 1) _ _ _ _ (by omega) (by omega) (hO.up (by omega)) (by rw [zup_other 116 (by decide)]; exact hm) (fun k g1 g2 => by
            by_cases z : k = i
            · subst z; exact zup_s
            · rw [zup_i (by omega)]; exact hf k g1 (by omega)) (by omega)
  refine rr_aload_n (pc := 0) dX7_lays_0 rfl ?_
  refine rr_iload (pc := 1) dX7_lays_1 rfl ?_
  refine rr_if_eq (pc := 3) (tgt := 23) dX7_lays_3 (by decide) (by unfold zR; omega) (fun h3 => ?_) (fun h3 => ?_)
  · refine rr_iconst (n := 0) dX7_lays_23 ?_
    refine rr_eqS (congrArg (fun z => [zI z, .ref 116]) (show (0 : Int) = (must : Int) by rw [hmm]; unfold zWm; rw [if_pos (by omega)]; rfl)) ?_
    refine rr_put (pc := 24) (ji := 20) dX7_lays_24 fX7_234 fp_7_20 zk_116 zr_116_20 rfl ?_
    refine rr_iconst (n := 1) dX7_lays_27 ?_
    refine rr_istore (pc := 28) dX7_lays_28 (by decide) ?_
    exact loopA _ 1 _ _ _ _ (by omega) (by omega) (zOfl.rf.up6 (by omega)) zup_s (fun k g1 g2 => by omega) (Nat.lt_succ_self _)
  · refine rr_aload_n (pc := 6) dX7_lays_6 rfl ?_
    refine rr_getR (pc := 7) dX7_lays_7 fX7_7 zk_116 zr_116_0 ?_
    refine rr_iconst (n := 0) dX7_lays_10 ?_
    refine rr_iald (pc := 11) dX7_lays_11 zk_117 (by omega) (by omega) ?_
    rw [ha]
    refine rr_aload_n (pc := 12) dX7_lays_12 rfl ?_
    refine rr_iload_n (pc := 13) dX7_lays_13 rfl ?_
    refine rr_inv0 (M' := MX7_rowOf) (k := 116) (As := [_]) (pc := 14) dX7_lays_14 lX7_245 kX7_rowOf vX7_rowOf zk_116 (by decide) rfl (by decide) (by decide) (Nat.le_of_ble_eq_true rfl) rfl (eX7_rowOf ha hw ht0 ht1 ?_)
    refine rr_isub (pc := 17) dX7_lays_17 ?_
    refine rr_iconst (n := 1) dX7_lays_18 ?_
    refine rr_isub (pc := 19) dX7_lays_19 ?_
    refine rr_goto (pc := 20) (tgt := 24) dX7_lays_20 (by decide) ?_
    refine rr_eqS (congrArg (fun z => [zI z, .ref 116]) (show _ = (must : Int) by rw [hmm]; unfold zWm; rw [if_neg (by omega)]; omega)) ?_
    refine rr_put (pc := 24) (ji := 20) dX7_lays_24 fX7_234 fp_7_20 zk_116 zr_116_20 rfl ?_
    refine rr_iconst (n := 1) dX7_lays_27 ?_
    refine rr_istore (pc := 28) dX7_lays_28 (by decide) ?_
    exact loopA _ 1 _ _ _ _ (by omega) (by omega) (zOfl.rf.up6 (by omega)) zup_s (fun k g1 g2 => by omega) (Nat.lt_succ_self _)
