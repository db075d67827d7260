theorem aMendN_step {T : Int} {b : Int → Int} {i : Int} (hw : zWf T b) (h0 : 0 ≤ i) (h1 : i < b 2) (hz : aP b i 2 = 0 → aOpen b i 1 = 0) : aRight (aMendN b i.toNat) i = aMendN b (i + 1).toNat := by
  have hsq := zWf.sq hw
  rw [aRight_g hw h0 h1 hz (aMendN_P _ (by decide) (by decide) (Or.inr (by omega))) (fun s => aMendN_op _ hsq.2), aMendN_s h0 rfl]
theorem zTz_claim {T : Int} {a : Int → Int} {p s : Int} (hw : zWf T a) (hg : zTg a) (h0 : 0 ≤ p) (h1 : p < a 2) (s1 : 1 ≤ s) (s2 : s ≤ a 1) (hs : aO a s = -1) : ∀ q : Int, 0 ≤ q → q < a 2 → aP (iup (iup a (58 + 17 * p + 3) (aP a p 3 - 1)) (18 + 2 * (s - 1) + (0 : Nat)) (p + 1)) q 2 = 0 → aOpen (iup (iup a (58 + 17 * p + 3) (aP a p 3 - 1)) (18 + 2 * (s - 1) + (0 : Nat)) (p + 1)) q 1 = 0 := by
  intro q g1 g2 g3
  have hsq := zWf.sq hw
  have e2 : aP (iup (iup a (58 + 17 * p + 3) (aP a p 3 - 1)) (18 + 2 * (s - 1) + (0 : Nat)) (p + 1)) q 2 = aP a q 2 := by unfold aP; rw [iup_n (by omega), iup_n (by omega)]
  rw [e2] at g3
  have e1 : (iup (iup a (58 + 17 * p + 3) (aP a p 3 - 1)) (18 + 2 * (s - 1) + (0 : Nat)) (p + 1)) 1 = a 1 := by rw [iup_n (by omega), iup_n (by omega)]
  rcases hg q g1 g2 with y | y
  · have h9 := aOpen_in (a := a) (p := q) (s := 1) (by omega)
    rcases h9 with ⟨z1, z2⟩ | ⟨z1, z2, z3⟩
    · rcases aOpen_in (a := (iup (iup a (58 + 17 * p + 3) (aP a p 3 - 1)) (18 + 2 * (s - 1) + (0 : Nat)) (p + 1))) (p := q) (s := 1) (by omega) with ⟨u1, u2⟩ | ⟨u1, u2, u3, u4⟩
      · exact u1
      · exfalso
        rw [e1] at u2
        have z9 := z2 _ u1 u2
        generalize aOpen (iup (iup a (58 + 17 * p + 3) (aP a p 3 - 1)) (18 + 2 * (s - 1) + (0 : Nat)) (p + 1)) q 1 = x at u1 u2 u3 z9
        by_cases hx : x = s
        · subst hx; exact z9.1 hs
        · have eO : aO (iup (iup a (58 + 17 * p + 3) (aP a p 3 - 1)) (18 + 2 * (s - 1) + (0 : Nat)) (p + 1)) x = aO a x := by unfold aO; rw [iup_n (by omega), iup_n (by omega)]
          exact u3 (by unfold aForb at z9 ⊢; rw [eO]; exact z9)
    · omega
  · omega
theorem dX7_claim_0 : decode cX7_claim 0 = .ok (.aload_n 0, 1) := by decide +kernel
theorem dX7_claim_1 : decode cX7_claim 1 = .ok (.aload_n 0, 1) := by decide +kernel
theorem dX7_claim_2 : decode cX7_claim 2 = .ok (.iload_n 1, 1) := by decide +kernel
theorem dX7_claim_3 : decode cX7_claim 3 = .ok (.invokevirtual 285, 3) := by decide +kernel
theorem dX7_claim_6 : decode cX7_claim 6 = .ok (.ifCond .eq 15, 3) := by decide +kernel
theorem dX7_claim_9 : decode cX7_claim 9 = .ok (.aload_n 0, 1) := by decide +kernel
theorem dX7_claim_10 : decode cX7_claim 10 = .ok (.iload_n 2, 1) := by decide +kernel
theorem dX7_claim_11 : decode cX7_claim 11 = .ok (.invokevirtual 288, 3) := by decide +kernel
theorem dX7_claim_14 : decode cX7_claim 14 = .ok (.ifCond .eq 7, 3) := by decide +kernel
theorem dX7_claim_17 : decode cX7_claim 17 = .ok (.iconst 0, 1) := by decide +kernel
theorem dX7_claim_18 : decode cX7_claim 18 = .ok (.goto 4, 3) := by decide +kernel
theorem dX7_claim_21 : decode cX7_claim 21 = .ok (.iconst 1, 1) := by decide +kernel
theorem dX7_claim_22 : decode cX7_claim 22 = .ok (.putfield 59, 3) := by decide +kernel
theorem dX7_claim_25 : decode cX7_claim 25 = .ok (.aload_n 0, 1) := by decide +kernel
theorem dX7_claim_26 : decode cX7_claim 26 = .ok (.getfield 59, 3) := by decide +kernel
theorem dX7_claim_29 : decode cX7_claim 29 = .ok (.ifCond .le 5, 3) := by decide +kernel
theorem dX7_claim_32 : decode cX7_claim 32 = .ok (.iconst 0, 1) := by decide +kernel
theorem dX7_claim_33 : decode cX7_claim 33 = .ok (.ireturn, 1) := by decide +kernel
theorem dX7_claim_34 : decode cX7_claim 34 = .ok (.aload_n 0, 1) := by decide +kernel
theorem dX7_claim_35 : decode cX7_claim 35 = .ok (.iload_n 1, 1) := by decide +kernel
theorem dX7_claim_36 : decode cX7_claim 36 = .ok (.iconst 3, 1) := by decide +kernel
theorem dX7_claim_37 : decode cX7_claim 37 = .ok (.invokevirtual 154, 3) := by decide +kernel
theorem dX7_claim_40 : decode cX7_claim 40 = .ok (.ifCond .ne 6, 3) := by decide +kernel
theorem dX7_claim_43 : decode cX7_claim 43 = .ok (.bipush (-11), 2) := by decide +kernel
theorem dX7_claim_45 : decode cX7_claim 45 = .ok (.ireturn, 1) := by decide +kernel
theorem dX7_claim_46 : decode cX7_claim 46 = .ok (.aload_n 0, 1) := by decide +kernel
theorem dX7_claim_47 : decode cX7_claim 47 = .ok (.iload_n 2, 1) := by decide +kernel
theorem dX7_claim_48 : decode cX7_claim 48 = .ok (.invokevirtual 187, 3) := by decide +kernel
theorem dX7_claim_51 : decode cX7_claim 51 = .ok (.iconst (-1), 1) := by decide +kernel
theorem dX7_claim_52 : decode cX7_claim 52 = .ok (.if_icmp .eq 6, 3) := by decide +kernel
theorem dX7_claim_55 : decode cX7_claim 55 = .ok (.bipush (-12), 2) := by decide +kernel
theorem dX7_claim_57 : decode cX7_claim 57 = .ok (.ireturn, 1) := by decide +kernel
theorem dX7_claim_58 : decode cX7_claim 58 = .ok (.aload_n 0, 1) := by decide +kernel
theorem dX7_claim_59 : decode cX7_claim 59 = .ok (.aload_n 0, 1) := by decide +kernel
theorem dX7_claim_60 : decode cX7_claim 60 = .ok (.getfield 7, 3) := by decide +kernel
theorem dX7_claim_63 : decode cX7_claim 63 = .ok (.invokevirtual 73, 3) := by decide +kernel
theorem dX7_claim_66 : decode cX7_claim 66 = .ok (.aload_n 0, 1) := by decide +kernel
theorem dX7_claim_67 : decode cX7_claim 67 = .ok (.iload_n 1, 1) := by decide +kernel
theorem dX7_claim_68 : decode cX7_claim 68 = .ok (.iconst 3, 1) := by decide +kernel
theorem dX7_claim_69 : decode cX7_claim 69 = .ok (.aload_n 0, 1) := by decide +kernel
theorem dX7_claim_70 : decode cX7_claim 70 = .ok (.iload_n 1, 1) := by decide +kernel
theorem dX7_claim_71 : decode cX7_claim 71 = .ok (.iconst 3, 1) := by decide +kernel
theorem dX7_claim_72 : decode cX7_claim 72 = .ok (.invokevirtual 154, 3) := by decide +kernel
theorem dX7_claim_75 : decode cX7_claim 75 = .ok (.iconst 1, 1) := by decide +kernel
theorem dX7_claim_76 : decode cX7_claim 76 = .ok (.isub, 1) := by decide +kernel
theorem dX7_claim_77 : decode cX7_claim 77 = .ok (.invokevirtual 55, 3) := by decide +kernel
theorem dX7_claim_80 : decode cX7_claim 80 = .ok (.aload_n 0, 1) := by decide +kernel
theorem dX7_claim_81 : decode cX7_claim 81 = .ok (.iload_n 2, 1) := by decide +kernel
theorem dX7_claim_82 : decode cX7_claim 82 = .ok (.iload_n 1, 1) := by decide +kernel
theorem dX7_claim_83 : decode cX7_claim 83 = .ok (.invokevirtual 190, 3) := by decide +kernel
theorem dX7_claim_86 : decode cX7_claim 86 = .ok (.iconst 0, 1) := by decide +kernel
theorem dX7_claim_87 : decode cX7_claim 87 = .ok (.istore_n 3, 1) := by decide +kernel
theorem dX7_claim_88 : decode cX7_claim 88 = .ok (.iload_n 3, 1) := by decide +kernel
theorem dX7_claim_89 : decode cX7_claim 89 = .ok (.aload_n 0, 1) := by decide +kernel
theorem dX7_claim_90 : decode cX7_claim 90 = .ok (.invokevirtual 203, 3) := by decide +kernel
theorem dX7_claim_93 : decode cX7_claim 93 = .ok (.if_icmp .ge 14, 3) := by decide +kernel
theorem dX7_claim_96 : decode cX7_claim 96 = .ok (.aload_n 0, 1) := by decide +kernel
theorem dX7_claim_97 : decode cX7_claim 97 = .ok (.iload_n 3, 1) := by decide +kernel
theorem dX7_claim_98 : decode cX7_claim 98 = .ok (.invokevirtual 206, 3) := by decide +kernel
theorem dX7_claim_101 : decode cX7_claim 101 = .ok (.iinc 3 1, 3) := by decide +kernel
theorem dX7_claim_104 : decode cX7_claim 104 = .ok (.goto (-16), 3) := by decide +kernel
theorem dX7_claim_107 : decode cX7_claim 107 = .ok (.aload_n 0, 1) := by decide +kernel
theorem dX7_claim_108 : decode cX7_claim 108 = .ok (.iload_n 1, 1) := by decide +kernel
theorem dX7_claim_109 : decode cX7_claim 109 = .ok (.invokevirtual 270, 3) := by decide +kernel
theorem dX7_claim_112 : decode cX7_claim 112 = .ok (.invokestatic 273, 3) := by decide +kernel
theorem dX7_claim_115 : decode cX7_claim 115 = .ok (.ireturn, 1) := by decide +kernel
theorem eX7_claim {W : zWd} {a : Int → Int} {T n : Int} {K : Nat → (Int → Int)} {p s : Int}  {Q : Option Value → zWd → Prop} {X : zX} (ha : W 117 = a) (hw : zWf T a) (hH : zKp W n K) (hg : zTg a) (hz : zR p) (hz2 : zR s) (hq : ((0 ≤ p ∧ p < a 2) ∧ (1 ≤ s ∧ s ≤ a 1)) → aP a p 3 ≠ 0 → aO a s = -1 → ∀ W' : zWd, zOfM W W' → W' 116 7 = 0 → zKp W' (if n + 1 < 8 then n + 1 else 8) (zPush a K) → W' 117 = aClaim a p s → Q (some (zI ((aNown (aClaim a p s) p : Nat)))) W') (hq1 : ¬ ((0 ≤ p ∧ p < a 2) ∧ (1 ≤ s ∧ s ≤ a 1)) → ∀ W' : zWd, zOfM W W' → W' 116 7 = 1 → zKp W' n K → W' 117 = a → Q (some (zI 0)) W') (hq3 : ((0 ≤ p ∧ p < a 2) ∧ (1 ≤ s ∧ s ≤ a 1)) → aP a p 3 = 0 → ∀ W' : zWd, zOfM W W' → W' 116 7 = 0 → zKp W' n K → W' 117 = a → Q (some (zI (-11))) W') (hq4 : ((0 ≤ p ∧ p < a 2) ∧ (1 ≤ s ∧ s ≤ a 1)) → aP a p 3 ≠ 0 → aO a s ≠ -1 → ∀ W' : zWd, zOfM W W' → W' 116 7 = 0 → zKp W' n K → W' 117 = a → Q (some (zI (-12))) W')  : Ev MX7_claim 5 0 W [.ref 116, zI p, zI s] Q X := by
  refine ev_of (ls := [.ref 116, zI p, zI s, .null]) (by decide) rfl (fun _ => rfl) (fun _ => Nat.le_of_ble_eq_true rfl) (Or.inl rfl) ?_
  obtain ⟨w0, w0', wW, w1, w2, w2', w3, w3', w4, w4', w5, w5', w6, w6', w7, w7', wS, wP, wT⟩ := id hw
  have wq := zWf.sq hw
  refine rr_aload_n (pc := 0) dX7_claim_0 rfl ?_
  refine rr_aload_n (pc := 1) dX7_claim_1 rfl ?_
  refine rr_iload_n (pc := 2) dX7_claim_2 rfl ?_
  refine rr_inv0 (M' := MX7_isPlayer) (k := 116) (As := [_]) (pc := 3) dX7_claim_3 lX7_285 kX7_isPlayer vX7_isPlayer zk_116 (by decide) rfl (by decide) (by decide) (Nat.le_of_ble_eq_true rfl) rfl (eX7_isPlayer ha hw hz ?_)
  refine rr_if_eq (pc := 6) (tgt := 21) dX7_claim_6 (by decide) (by split <;> (unfold zR; omega)) (fun h6 => ?_) (fun h6 => ?_)
  · refine rr_iconst (n := 1) dX7_claim_21 ?_
    have hnp := z_i10 h6
    have hc : ¬ ((0 ≤ p ∧ p < a 2) ∧ (1 ≤ s ∧ s ≤ a 1)) := fun z => hnp z.1
    refine rr_put (pc := 22) (ji := 7) dX7_claim_22 fX7_59 fp_7_7 zk_116 zr_116_7 rfl ?_
    have o1 : zOfM W (zup W 116 7 1) := zOfM.rf.up (by omega)
    have t1 : zup W 116 7 1 116 7 = 1 := zup_s
    have a1 : zup W 116 7 1 117 = a := (zup_other 117 (by decide)).trans ha
    have k1 : zKp (zup W 116 7 1) n K := hH.u (by decide)
    generalize zup W 116 7 1 = W1 at o1 t1 a1 k1 ⊢
    refine rr_aload_n (pc := 25) dX7_claim_25 rfl ?_
    refine rr_getI (pc := 26) (ji := 7) dX7_claim_26 fX7_59 zk_116 zr_116_7 rfl ?_
    rw [t1]
    refine rr_if_le (pc := 29) (tgt := 34) dX7_claim_29 (by decide) (by unfold zR; omega) (fun h29 => ?_) (fun h29 => ?_)
    · omega
    · refine rr_iconst (n := 0) dX7_claim_32 ?_
      exact rr_reti (pc := 33) dX7_claim_33 rfl rfl rfl rfl (hq1 hc W1 o1 t1 k1 a1)
  · have hpl := z_i10n h6
    refine rr_aload_n (pc := 9) dX7_claim_9 rfl ?_
    refine rr_iload_n (pc := 10) dX7_claim_10 rfl ?_
    refine rr_inv0 (M' := MX7_isSquare) (k := 116) (As := [_]) (pc := 11) dX7_claim_11 lX7_288 kX7_isSquare vX7_isSquare zk_116 (by decide) rfl (by decide) (by decide) (Nat.le_of_ble_eq_true rfl) rfl (eX7_isSquare ha hw hz2 ?_)
    refine rr_if_eq (pc := 14) (tgt := 21) dX7_claim_14 (by decide) (by split <;> (unfold zR; omega)) (fun h14 => ?_) (fun h14 => ?_)
    · refine rr_iconst (n := 1) dX7_claim_21 ?_
      have hc : ¬ ((0 ≤ p ∧ p < a 2) ∧ (1 ≤ s ∧ s ≤ a 1)) := fun z => (z_i10 h14) z.2
      refine rr_put (pc := 22) (ji := 7) dX7_claim_22 fX7_59 fp_7_7 zk_116 zr_116_7 rfl ?_
      have o1 : zOfM W (zup W 116 7 1) := zOfM.rf.up (by omega)
      have t1 : zup W 116 7 1 116 7 = 1 := zup_s
      have a1 : zup W 116 7 1 117 = a := (zup_other 117 (by decide)).trans ha
      have k1 : zKp (zup W 116 7 1) n K := hH.u (by decide)
      generalize zup W 116 7 1 = W1 at o1 t1 a1 k1 ⊢
      refine rr_aload_n (pc := 25) dX7_claim_25 rfl ?_
      refine rr_getI (pc := 26) (ji := 7) dX7_claim_26 fX7_59 zk_116 zr_116_7 rfl ?_
      rw [t1]
      refine rr_if_le (pc := 29) (tgt := 34) dX7_claim_29 (by decide) (by unfold zR; omega) (fun h29 => ?_) (fun h29 => ?_)
      · omega
      · refine rr_iconst (n := 0) dX7_claim_32 ?_
        exact rr_reti (pc := 33) dX7_claim_33 rfl rfl rfl rfl (hq1 hc W1 o1 t1 k1 a1)
    · refine rr_iconst (n := 0) dX7_claim_17 ?_
      refine rr_goto (pc := 18) (tgt := 22) dX7_claim_18 (by decide) ?_
      have hc : ((0 ≤ p ∧ p < a 2) ∧ (1 ≤ s ∧ s ≤ a 1)) := ⟨hpl, z_i10n h14⟩
      refine rr_put (pc := 22) (ji := 7) dX7_claim_22 fX7_59 fp_7_7 zk_116 zr_116_7 rfl ?_
      have o1 : zOfM W (zup W 116 7 0) := zOfM.rf.up (by omega)
      have t1 : zup W 116 7 0 116 7 = 0 := zup_s
      have a1 : zup W 116 7 0 117 = a := (zup_other 117 (by decide)).trans ha
      have k1 : zKp (zup W 116 7 0) n K := hH.u (by decide)
      generalize zup W 116 7 0 = W1 at o1 t1 a1 k1 ⊢
      refine rr_aload_n (pc := 25) dX7_claim_25 rfl ?_
      refine rr_getI (pc := 26) (ji := 7) dX7_claim_26 fX7_59 zk_116 zr_116_7 rfl ?_
      rw [t1]
      refine rr_if_le (pc := 29) (tgt := 34) dX7_claim_29 (by decide) (by unfold zR; omega) (fun h29 => ?_) (fun h29 => ?_)
      · refine rr_aload_n (pc := 34) dX7_claim_34 rfl ?_
        refine rr_iload_n (pc := 35) dX7_claim_35 rfl ?_
        refine rr_iconst (n := 3) dX7_claim_36 ?_
        have hp0 := hpl.1
        have hp1 := hpl.2
        have hs4 := wS s hc.2.1 hc.2.2
        have hm2 := wP p hp0 hp1
        unfold zWfP at hm2
        refine rr_inv0 (M' := MX7_of) (k := 116) (As := [_, _]) (pc := 37) dX7_claim_37 lX7_154 kX7_of vX7_of zk_116 (by decide) rfl (by decide) (by decide) (Nat.le_of_ble_eq_true rfl) rfl (eX7_of (by omega) (by omega) (by omega) (by omega) ?_)
        rw [a1]
        refine rr_if_ne (pc := 40) (tgt := 46) dX7_claim_40 (by decide) (by unfold zR; omega) (fun h40 => ?_) (fun h40 => ?_)
        · refine rr_aload_n (pc := 46) dX7_claim_46 rfl ?_
          refine rr_iload_n (pc := 47) dX7_claim_47 rfl ?_
          have hcl : aP a p 3 ≠ 0 := by omega
          refine rr_inv0 (M' := MX7_ownerOf) (k := 116) (As := [_]) (pc := 48) dX7_claim_48 lX7_187 kX7_ownerOf vX7_ownerOf zk_116 (by decide) rfl (by decide) (by decide) (Nat.le_of_ble_eq_true rfl) rfl (eX7_ownerOf (by omega) (by omega) ?_)
          rw [a1]
          refine rr_iconst (n := (-1)) dX7_claim_51 ?_
          refine rr_icmp_eq (pc := 52) (tgt := 58) dX7_claim_52 (by decide) (by unfold zR; omega) (by unfold zR; omega) (fun h52 => ?_) (fun h52 => ?_)
          · refine rr_aload_n (pc := 58) dX7_claim_58 rfl ?_
            refine rr_aload_n (pc := 59) dX7_claim_59 rfl ?_
            refine rr_getR (pc := 60) dX7_claim_60 fX7_7 zk_116 zr_116_0 ?_
            have hs9 : aO a s = -1 := by omega
            refine rr_inv0 (M' := MX7_keeps) (k := 116) (As := [_]) (pc := 63) dX7_claim_63 lX7_73 kX7_keeps vX7_keeps zk_116 (by decide) rfl (by decide) (by decide) (Nat.le_of_ble_eq_true rfl) rfl (eX7_keeps zk_117 (by decide) (by decide) (by decide) k1 (fun W2 o2 k2 => ?_))
            rw [a1] at k2
            have oA := o1.tr o2.M
            have tA : W2 116 7 = 0 := (o2.2 7 (by decide)).trans t1
            have a2 : W2 117 = a := (o2.1 117 (by decide) (by decide)).trans a1
            have hp0 := hc.1.1
            have hp1 := hc.1.2
            have s1 := hc.2.1
            have s2 := hc.2.2
            have fb : zWf T (iup (iup a (58 + 17 * p + 3) (aP a p 3 - 1)) (18 + 2 * (s - 1) + (0 : Nat)) (p + 1)) := WF_S (o := 0) (v := p + 1) (WF_P (w := 3) (v := aP a p 3 - 1) hw hp0 (by unfold zWr; omega)) s1 (by omega) (Or.inl ⟨rfl, by omega, by rw [iup_n (by omega)]; omega⟩)
            have fb2 : (iup (iup a (58 + 17 * p + 3) (aP a p 3 - 1)) (18 + 2 * (s - 1) + (0 : Nat)) (p + 1)) 2 = a 2 := by rw [iup_n (by omega), iup_n (by omega)]
            have hTz := zTz_claim hw hg hp0 hp1 s1 s2 hs9
            refine rr_aload_n (pc := 66) dX7_claim_66 rfl ?_
            refine rr_iload_n (pc := 67) dX7_claim_67 rfl ?_
            refine rr_iconst (n := 3) dX7_claim_68 ?_
            refine rr_aload_n (pc := 69) dX7_claim_69 rfl ?_
            refine rr_iload_n (pc := 70) dX7_claim_70 rfl ?_
            refine rr_iconst (n := 3) dX7_claim_71 ?_
            refine rr_inv0 (M' := MX7_of) (k := 116) (As := [_, _]) (pc := 72) dX7_claim_72 lX7_154 kX7_of vX7_of zk_116 (by decide) rfl (by decide) (by decide) (Nat.le_of_ble_eq_true rfl) rfl (eX7_of (by omega) (by omega) (by omega) (by omega) ?_)
            rw [a2]
            refine rr_iconst (n := 1) dX7_claim_75 ?_
            refine rr_isub (pc := 76) dX7_claim_76 ?_
            refine rr_inv0 (M' := MX7_sets) (k := 116) (As := [_, _, _]) (pc := 77) dX7_claim_77 lX7_55 kX7_sets vX7_sets zk_116 (by decide) rfl (by decide) (by decide) (Nat.le_of_ble_eq_true rfl) rfl (eX7_sets (by omega) (by omega) (by omega) (by omega) ?_)
            refine rr_aload_n (pc := 80) dX7_claim_80 rfl ?_
            refine rr_iload_n (pc := 81) dX7_claim_81 rfl ?_
            refine rr_iload_n (pc := 82) dX7_claim_82 rfl ?_
            refine rr_inv0 (M' := MX7_owns) (k := 116) (As := [_, _]) (pc := 83) dX7_claim_83 lX7_190 kX7_owns vX7_owns zk_116 (by decide) rfl (by decide) (by decide) (Nat.le_of_ble_eq_true rfl) rfl (eX7_owns (by omega) (by omega) ?_)
            refine rr_iconst (n := 0) dX7_claim_86 ?_
            refine rr_istore_n (pc := 87) dX7_claim_87 (by decide) ?_
            have loop : ∀ (n : Nat) (i : Int) (Wi : zWd), 0 ≤ i → i ≤ a 2 → zOfm W2 Wi → Wi 117 = aMendN (iup (iup a (58 + 17 * p + 3) (aP a p 3 - 1)) (18 + 2 * (s - 1) + (0 : Nat)) (p + 1)) i.toNat → (a 2 - i).toNat < n → RR MX7_claim 5 0 Wi 88 [.ref 116, zI p, zI s, zI i] [] (zEnd MX7_claim Q X) X := by
              intro n
              induction n with
              | zero => intro i Wi _ _ _ _ hm9; omega
              | succ n ih =>
                intro i Wi h1 h2 hO e7 hm9
                have f2b : aMendN (iup (iup a (58 + 17 * p + 3) (aP a p 3 - 1)) (18 + 2 * (s - 1) + (0 : Nat)) (p + 1)) i.toNat 2 = a 2 := by rw [aMendN_low _ _ (by omega), fb2]
                refine rr_iload_n (pc := 88) dX7_claim_88 rfl ?_
                refine rr_aload_n (pc := 89) dX7_claim_89 rfl ?_
                refine rr_inv0 (M' := MX7_players) (k := 116) (As := []) (pc := 90) dX7_claim_90 lX7_203 kX7_players vX7_players zk_116 (by decide) rfl (by decide) (by decide) (Nat.le_of_ble_eq_true rfl) rfl (eX7_players ?_)
                rw [e7, f2b]
                refine rr_icmp_ge (pc := 93) (tgt := 107) dX7_claim_93 (by decide) (by unfold zR; omega) (by unfold zR; omega) (fun h93 => ?_) (fun h93 => ?_)
                · refine rr_aload_n (pc := 107) dX7_claim_107 rfl ?_
                  refine rr_iload_n (pc := 108) dX7_claim_108 rfl ?_
                  have e9 : Wi 117 = aClaim a p s := by rw [e7, show i = a 2 by omega]; unfold aClaim aMend; rw [fb2]
                  have f9 : zWf T (aClaim a p s) := aMend_wf fb
                  have q9 := zWf.sq f9
                  refine rr_inv0 (M' := MX7_owned) (k := 116) (As := [_]) (pc := 109) dX7_claim_109 lX7_270 kX7_owned vX7_owned zk_116 (by decide) rfl (by decide) (by decide) (Nat.le_of_ble_eq_true rfl) rfl (eX7_owned e9 f9 hz ?_)
                  refine rr_sta0 (M' := MX7_bits) (As := [_]) (pc := 112) dX7_claim_112 lX7_273 kX7_bits sX7_bits (by decide) (by decide) (Nat.le_of_ble_eq_true rfl) rfl (eX7_bits (zSet_32 _ (by omega)) ?_)
                  exact rr_reti (pc := 115) dX7_claim_115 rfl rfl rfl rfl (hq hc hcl hs9 Wi (oA.tr hO.M) (by rw [hO 116 (by decide)]; exact tA) (k2.m hO) e9)
                · refine rr_aload_n (pc := 96) dX7_claim_96 rfl ?_
                  refine rr_iload_n (pc := 97) dX7_claim_97 rfl ?_
                  refine rr_inv0 (M' := MX7_putsRight) (k := 116) (As := [_]) (pc := 98) dX7_claim_98 lX7_206 kX7_putsRight vX7_putsRight zk_116 (by decide) rfl (by decide) (by decide) (Nat.le_of_ble_eq_true rfl) rfl (eX7_putsRight e7 (aMendN_wf fb _ (by omega)) h1 (by rw [f2b]; omega) (fun W5 o5 e5 => ?_))
                  refine rr_iinc (pc := 101) dX7_claim_101 rfl (by decide) ?_
                  refine rr_goto (pc := 104) (tgt := 88) dX7_claim_104 (by decide) ?_
                  exact ih (i + 1) W5 (by omega) (by omega) (hO.tr o5) (by rw [e5]; exact aMendN_step fb h1 (by rw [fb2]; omega) (hTz i h1 (by omega))) (by omega)
            refine loop _ 0 _ (by omega) (by omega) (zOfm.rf.up.up) ?_ (Nat.lt_succ_self _)
            rw [zup_at, zup_at, a2]
            show _ = (iup (iup a (58 + 17 * p + 3) (aP a p 3 - 1)) (18 + 2 * (s - 1) + (0 : Nat)) (p + 1))
            rw [show 18 + 2 * (s - 1) + ((0 : Nat) : Int) = 18 + 2 * (s - 1) by omega]
          · refine rr_bipush (n := (-12)) dX7_claim_55 ?_
            exact rr_reti (pc := 57) dX7_claim_57 rfl rfl rfl rfl (hq4 hc hcl (by omega) W1 o1 t1 k1 a1)
        · refine rr_bipush (n := (-11)) dX7_claim_43 ?_
          exact rr_reti (pc := 45) dX7_claim_45 rfl rfl rfl rfl (hq3 hc (by omega) W1 o1 t1 k1 a1)
      · omega
theorem zTn_release {T : Int} {a : Int → Int} {s : Int} (hw : zWf T a) (hg : zTg a) (s1 : 1 ≤ s) (s2 : s ≤ a 1) : ∀ q : Int, 0 ≤ q → q < a 2 → aP (iup a (18 + 2 * (s - 1) + (0 : Nat)) (-1 + 1)) q 2 ≠ 0 → ¬ aForb (iup a (18 + 2 * (s - 1) + (0 : Nat)) (-1 + 1)) q (aP (iup a (18 + 2 * (s - 1) + (0 : Nat)) (-1 + 1)) q 2) := by
  intro q g1 g2 g3 g4
  have hsq := zWf.sq hw
  have hm3 := hw.2.2.2.2.2.2.2.2.2.2.2.2.2.2.2.2.2.1 q g1 g2
  unfold zWfP at hm3
  have e2 : aP (iup a (18 + 2 * (s - 1) + (0 : Nat)) (-1 + 1)) q 2 = aP a q 2 := by unfold aP; rw [iup_n (by omega)]
  rw [e2] at g3 g4
  rcases hg q g1 g2 with y | y
  · omega
  · refine y.2 ?_
    generalize aP a q 2 = x at g4 y hm3 ⊢
    unfold aForb aO at g4 ⊢
    by_cases hx : x = s
    · subst hx
      exfalso
      have e0 : iup a (18 + 2 * (x - 1) + ((0 : Nat) : Int)) (-1 + 1) (18 + 2 * (x - 1)) = -1 + 1 := by
        unfold iup; rw [if_pos (by omega)]
      exact g4.1 (by rw [e0]; decide)
    · rw [iup_n (by omega)] at g4; exact g4
theorem dX7_release_0 : decode cX7_release 0 = .ok (.aload_n 0, 1) := by decide +kernel
theorem dX7_release_1 : decode cX7_release 1 = .ok (.aload_n 0, 1) := by decide +kernel
theorem dX7_release_2 : decode cX7_release 2 = .ok (.iload_n 1, 1) := by decide +kernel
theorem dX7_release_3 : decode cX7_release 3 = .ok (.invokevirtual 288, 3) := by decide +kernel
theorem dX7_release_6 : decode cX7_release 6 = .ok (.ifCond .eq 7, 3) := by decide +kernel
theorem dX7_release_9 : decode cX7_release 9 = .ok (.iconst 0, 1) := by decide +kernel
theorem dX7_release_10 : decode cX7_release 10 = .ok (.goto 4, 3) := by decide +kernel
theorem dX7_release_13 : decode cX7_release 13 = .ok (.iconst 1, 1) := by decide +kernel
theorem dX7_release_14 : decode cX7_release 14 = .ok (.putfield 59, 3) := by decide +kernel
theorem dX7_release_17 : decode cX7_release 17 = .ok (.aload_n 0, 1) := by decide +kernel
theorem dX7_release_18 : decode cX7_release 18 = .ok (.getfield 59, 3) := by decide +kernel
theorem dX7_release_21 : decode cX7_release 21 = .ok (.ifCond .le 5, 3) := by decide +kernel
theorem dX7_release_24 : decode cX7_release 24 = .ok (.iconst 0, 1) := by decide +kernel
theorem dX7_release_25 : decode cX7_release 25 = .ok (.ireturn, 1) := by decide +kernel
theorem dX7_release_26 : decode cX7_release 26 = .ok (.aload_n 0, 1) := by decide +kernel
theorem dX7_release_27 : decode cX7_release 27 = .ok (.iload_n 1, 1) := by decide +kernel
theorem dX7_release_28 : decode cX7_release 28 = .ok (.invokevirtual 187, 3) := by decide +kernel
theorem dX7_release_31 : decode cX7_release 31 = .ok (.istore_n 2, 1) := by decide +kernel
theorem dX7_release_32 : decode cX7_release 32 = .ok (.iload_n 2, 1) := by decide +kernel
theorem dX7_release_33 : decode cX7_release 33 = .ok (.iconst (-1), 1) := by decide +kernel
theorem dX7_release_34 : decode cX7_release 34 = .ok (.if_icmp .ne 6, 3) := by decide +kernel
theorem dX7_release_37 : decode cX7_release 37 = .ok (.bipush (-13), 2) := by decide +kernel
theorem dX7_release_39 : decode cX7_release 39 = .ok (.ireturn, 1) := by decide +kernel
theorem dX7_release_40 : decode cX7_release 40 = .ok (.aload_n 0, 1) := by decide +kernel
theorem dX7_release_41 : decode cX7_release 41 = .ok (.aload_n 0, 1) := by decide +kernel
theorem dX7_release_42 : decode cX7_release 42 = .ok (.getfield 7, 3) := by decide +kernel
theorem dX7_release_45 : decode cX7_release 45 = .ok (.invokevirtual 73, 3) := by decide +kernel
theorem dX7_release_48 : decode cX7_release 48 = .ok (.aload_n 0, 1) := by decide +kernel
theorem dX7_release_49 : decode cX7_release 49 = .ok (.iload_n 1, 1) := by decide +kernel
theorem dX7_release_50 : decode cX7_release 50 = .ok (.iconst (-1), 1) := by decide +kernel
theorem dX7_release_51 : decode cX7_release 51 = .ok (.invokevirtual 190, 3) := by decide +kernel
theorem dX7_release_54 : decode cX7_release 54 = .ok (.iconst 0, 1) := by decide +kernel
theorem dX7_release_55 : decode cX7_release 55 = .ok (.istore_n 3, 1) := by decide +kernel
theorem dX7_release_56 : decode cX7_release 56 = .ok (.iload_n 3, 1) := by decide +kernel
theorem dX7_release_57 : decode cX7_release 57 = .ok (.aload_n 0, 1) := by decide +kernel
theorem dX7_release_58 : decode cX7_release 58 = .ok (.invokevirtual 203, 3) := by decide +kernel
theorem dX7_release_61 : decode cX7_release 61 = .ok (.if_icmp .ge 30, 3) := by decide +kernel
theorem dX7_release_64 : decode cX7_release 64 = .ok (.aload_n 0, 1) := by decide +kernel
theorem dX7_release_65 : decode cX7_release 65 = .ok (.iload_n 3, 1) := by decide +kernel
theorem dX7_release_66 : decode cX7_release 66 = .ok (.iconst 2, 1) := by decide +kernel
theorem dX7_release_67 : decode cX7_release 67 = .ok (.invokevirtual 154, 3) := by decide +kernel
theorem dX7_release_70 : decode cX7_release 70 = .ok (.ifCond .ne 15, 3) := by decide +kernel
theorem dX7_release_73 : decode cX7_release 73 = .ok (.aload_n 0, 1) := by decide +kernel
theorem dX7_release_74 : decode cX7_release 74 = .ok (.iload_n 3, 1) := by decide +kernel
theorem dX7_release_75 : decode cX7_release 75 = .ok (.iconst 2, 1) := by decide +kernel
theorem dX7_release_76 : decode cX7_release 76 = .ok (.aload_n 0, 1) := by decide +kernel
theorem dX7_release_77 : decode cX7_release 77 = .ok (.iload_n 3, 1) := by decide +kernel
theorem dX7_release_78 : decode cX7_release 78 = .ok (.iconst 1, 1) := by decide +kernel
theorem dX7_release_79 : decode cX7_release 79 = .ok (.invokevirtual 219, 3) := by decide +kernel
theorem dX7_release_82 : decode cX7_release 82 = .ok (.invokevirtual 55, 3) := by decide +kernel
theorem dX7_release_85 : decode cX7_release 85 = .ok (.iinc 3 1, 3) := by decide +kernel
theorem dX7_release_88 : decode cX7_release 88 = .ok (.goto (-32), 3) := by decide +kernel
theorem dX7_release_91 : decode cX7_release 91 = .ok (.iload_n 2, 1) := by decide +kernel
theorem dX7_release_92 : decode cX7_release 92 = .ok (.ireturn, 1) := by decide +kernel
theorem eX7_release {W : zWd} {a : Int → Int} {T n : Int} {K : Nat → (Int → Int)} {s : Int}  {Q : Option Value → zWd → Prop} {X : zX} (ha : W 117 = a) (hw : zWf T a) (hH : zKp W n K) (hg : zTg a) (hz2 : zR s) (hq : (1 ≤ s ∧ s ≤ a 1) → aO a s ≠ -1 → ∀ W' : zWd, zOfM W W' → W' 116 7 = 0 → zKp W' (if n + 1 < 8 then n + 1 else 8) (zPush a K) → W' 117 = aRelease a s → Q (some (zI (aO a s))) W') (hq1 : ¬ (1 ≤ s ∧ s ≤ a 1) → ∀ W' : zWd, zOfM W W' → W' 116 7 = 1 → zKp W' n K → W' 117 = a → Q (some (zI 0)) W') (hq3 : (1 ≤ s ∧ s ≤ a 1) → aO a s = -1 → ∀ W' : zWd, zOfM W W' → W' 116 7 = 0 → zKp W' n K → W' 117 = a → Q (some (zI (-13))) W')  : Ev MX7_release 5 0 W [.ref 116, zI s] Q X := by
  refine ev_of (ls := [.ref 116, zI s, .null, .null]) (by decide) rfl (fun _ => rfl) (fun _ => Nat.le_of_ble_eq_true rfl) (Or.inl rfl) ?_
  obtain ⟨w0, w0', wW, w1, w2, w2', w3, w3', w4, w4', w5, w5', w6, w6', w7, w7', wS, wP, wT⟩ := id hw
  have wq := zWf.sq hw
  refine rr_aload_n (pc := 0) dX7_release_0 rfl ?_
  refine rr_aload_n (pc := 1) dX7_release_1 rfl ?_
  refine rr_iload_n (pc := 2) dX7_release_2 rfl ?_
  refine rr_inv0 (M' := MX7_isSquare) (k := 116) (As := [_]) (pc := 3) dX7_release_3 lX7_288 kX7_isSquare vX7_isSquare zk_116 (by decide) rfl (by decide) (by decide) (Nat.le_of_ble_eq_true rfl) rfl (eX7_isSquare ha hw hz2 ?_)
  refine rr_if_eq (pc := 6) (tgt := 13) dX7_release_6 (by decide) (by split <;> (unfold zR; omega)) (fun h6 => ?_) (fun h6 => ?_)
  · refine rr_iconst (n := 1) dX7_release_13 ?_
    have hc := z_i10 h6
    refine rr_put (pc := 14) (ji := 7) dX7_release_14 fX7_59 fp_7_7 zk_116 zr_116_7 rfl ?_
    have o1 : zOfM W (zup W 116 7 1) := zOfM.rf.up (by omega)
    have t1 : zup W 116 7 1 116 7 = 1 := zup_s
    have a1 : zup W 116 7 1 117 = a := (zup_other 117 (by decide)).trans ha
    have k1 : zKp (zup W 116 7 1) n K := hH.u (by decide)
    generalize zup W 116 7 1 = W1 at o1 t1 a1 k1 ⊢
    refine rr_aload_n (pc := 17) dX7_release_17 rfl ?_
    refine rr_getI (pc := 18) (ji := 7) dX7_release_18 fX7_59 zk_116 zr_116_7 rfl ?_
    rw [t1]
    refine rr_if_le (pc := 21) (tgt := 26) dX7_release_21 (by decide) (by unfold zR; omega) (fun h21 => ?_) (fun h21 => ?_)
    · omega
    · refine rr_iconst (n := 0) dX7_release_24 ?_
      exact rr_reti (pc := 25) dX7_release_25 rfl rfl rfl rfl (hq1 hc W1 o1 t1 k1 a1)
  · refine rr_iconst (n := 0) dX7_release_9 ?_
    refine rr_goto (pc := 10) (tgt := 14) dX7_release_10 (by decide) ?_
    have hc := z_i10n h6
    have hs4 := wS s hc.1 hc.2
    refine rr_put (pc := 14) (ji := 7) dX7_release_14 fX7_59 fp_7_7 zk_116 zr_116_7 rfl ?_
    have o1 : zOfM W (zup W 116 7 0) := zOfM.rf.up (by omega)
    have t1 : zup W 116 7 0 116 7 = 0 := zup_s
    have a1 : zup W 116 7 0 117 = a := (zup_other 117 (by decide)).trans ha
    have k1 : zKp (zup W 116 7 0) n K := hH.u (by decide)
    generalize zup W 116 7 0 = W1 at o1 t1 a1 k1 ⊢
    refine rr_aload_n (pc := 17) dX7_release_17 rfl ?_
    refine rr_getI (pc := 18) (ji := 7) dX7_release_18 fX7_59 zk_116 zr_116_7 rfl ?_
    rw [t1]
    refine rr_if_le (pc := 21) (tgt := 26) dX7_release_21 (by decide) (by unfold zR; omega) (fun h21 => ?_) (fun h21 => ?_)
    · refine rr_aload_n (pc := 26) dX7_release_26 rfl ?_
      refine rr_iload_n (pc := 27) dX7_release_27 rfl ?_
      refine rr_inv0 (M' := MX7_ownerOf) (k := 116) (As := [_]) (pc := 28) dX7_release_28 lX7_187 kX7_ownerOf vX7_ownerOf zk_116 (by decide) rfl (by decide) (by decide) (Nat.le_of_ble_eq_true rfl) rfl (eX7_ownerOf (by omega) (by omega) ?_)
      rw [a1]
      refine rr_istore_n (pc := 31) dX7_release_31 (by decide) ?_
      refine rr_iload_n (pc := 32) dX7_release_32 rfl ?_
      refine rr_iconst (n := (-1)) dX7_release_33 ?_
      refine rr_icmp_ne (pc := 34) (tgt := 40) dX7_release_34 (by decide) (by unfold zR; omega) (by unfold zR; omega) (fun h34 => ?_) (fun h34 => ?_)
      · refine rr_aload_n (pc := 40) dX7_release_40 rfl ?_
        refine rr_aload_n (pc := 41) dX7_release_41 rfl ?_
        refine rr_getR (pc := 42) dX7_release_42 fX7_7 zk_116 zr_116_0 ?_
        have hs9 : aO a s ≠ -1 := by omega
        refine rr_inv0 (M' := MX7_keeps) (k := 116) (As := [_]) (pc := 45) dX7_release_45 lX7_73 kX7_keeps vX7_keeps zk_116 (by decide) rfl (by decide) (by decide) (Nat.le_of_ble_eq_true rfl) rfl (eX7_keeps zk_117 (by decide) (by decide) (by decide) k1 (fun W2 o2 k2 => ?_))
        rw [a1] at k2
        have oA := o1.tr o2.M
        have tA : W2 116 7 = 0 := (o2.2 7 (by decide)).trans t1
        have a2 : W2 117 = a := (o2.1 117 (by decide) (by decide)).trans a1
        have s1 := hc.1
        have s2 := hc.2
        have fb : zWf T (iup a (18 + 2 * (s - 1) + (0 : Nat)) (-1 + 1)) := WF_S (o := 0) (v := -1 + 1) hw s1 (by omega) (Or.inl ⟨rfl, by omega, by omega⟩)
        have fb2 : (iup a (18 + 2 * (s - 1) + (0 : Nat)) (-1 + 1)) 2 = a 2 := by rw [iup_n (by omega)]
        have hTn := zTn_release hw hg s1 s2
        refine rr_aload_n (pc := 48) dX7_release_48 rfl ?_
        refine rr_iload_n (pc := 49) dX7_release_49 rfl ?_
        refine rr_iconst (n := (-1)) dX7_release_50 ?_
        refine rr_inv0 (M' := MX7_owns) (k := 116) (As := [_, _]) (pc := 51) dX7_release_51 lX7_190 kX7_owns vX7_owns zk_116 (by decide) rfl (by decide) (by decide) (Nat.le_of_ble_eq_true rfl) rfl (eX7_owns (by omega) (by omega) ?_)
        refine rr_iconst (n := 0) dX7_release_54 ?_
        refine rr_istore_n (pc := 55) dX7_release_55 (by decide) ?_
        have loop : ∀ (n : Nat) (i : Int) (Wi : zWd), 0 ≤ i → i ≤ a 2 → zOfm W2 Wi → Wi 117 = aMendN (iup a (18 + 2 * (s - 1) + (0 : Nat)) (-1 + 1)) i.toNat → (a 2 - i).toNat < n → RR MX7_release 5 0 Wi 56 [.ref 116, zI s, zI (aO a s), zI i] [] (zEnd MX7_release Q X) X := by
          intro n
          induction n with
          | zero => intro i Wi _ _ _ _ hm9; omega
          | succ n ih =>
            intro i Wi h1 h2 hO e7 hm9
            have f2b : aMendN (iup a (18 + 2 * (s - 1) + (0 : Nat)) (-1 + 1)) i.toNat 2 = a 2 := by rw [aMendN_low _ _ (by omega), fb2]
            refine rr_iload_n (pc := 56) dX7_release_56 rfl ?_
            refine rr_aload_n (pc := 57) dX7_release_57 rfl ?_
            refine rr_inv0 (M' := MX7_players) (k := 116) (As := []) (pc := 58) dX7_release_58 lX7_203 kX7_players vX7_players zk_116 (by decide) rfl (by decide) (by decide) (Nat.le_of_ble_eq_true rfl) rfl (eX7_players ?_)
            rw [e7, f2b]
            refine rr_icmp_ge (pc := 61) (tgt := 91) dX7_release_61 (by decide) (by unfold zR; omega) (by unfold zR; omega) (fun h61 => ?_) (fun h61 => ?_)
            · refine rr_iload_n (pc := 91) dX7_release_91 rfl ?_
              have e9 : Wi 117 = aRelease a s := by rw [e7, show i = a 2 by omega]; unfold aRelease aMend; rw [fb2]
              exact rr_reti (pc := 92) dX7_release_92 rfl rfl rfl rfl (hq hc hs9 Wi (oA.tr hO.M) (by rw [hO 116 (by decide)]; exact tA) (k2.m hO) e9)
            · refine rr_aload_n (pc := 64) dX7_release_64 rfl ?_
              refine rr_iload_n (pc := 65) dX7_release_65 rfl ?_
              refine rr_iconst (n := 2) dX7_release_66 ?_
              have hmb := (aMendN_wf fb i.toNat (by omega)).2.2.2.2.2.2.2.2.2.2.2.2.2.2.2.2.2.1 i h1 (by rw [f2b]; omega)
              unfold zWfP at hmb
              have f1b : aMendN (iup a (18 + 2 * (s - 1) + (0 : Nat)) (-1 + 1)) i.toNat 1 = a 1 := by rw [aMendN_low _ _ (by omega), iup_n (by omega)]
              have e2i : aP (aMendN (iup a (18 + 2 * (s - 1) + (0 : Nat)) (-1 + 1)) i.toNat) i 2 = aP (iup a (18 + 2 * (s - 1) + (0 : Nat)) (-1 + 1)) i 2 := aMendN_P _ (by decide) (by decide) (Or.inr (by omega))
              have hst : aMendN (iup a (18 + 2 * (s - 1) + (0 : Nat)) (-1 + 1)) (i + 1).toNat = iup (aMendN (iup a (18 + 2 * (s - 1) + (0 : Nat)) (-1 + 1)) i.toNat) (58 + 17 * i + 2) (aMendT (iup a (18 + 2 * (s - 1) + (0 : Nat)) (-1 + 1)) i) := aMendN_s h1 rfl
              refine rr_inv0 (M' := MX7_of) (k := 116) (As := [_, _]) (pc := 67) dX7_release_67 lX7_154 kX7_of vX7_of zk_116 (by decide) rfl (by decide) (by decide) (Nat.le_of_ble_eq_true rfl) rfl (eX7_of (by omega) (by omega) (by omega) (by omega) ?_)
              rw [e7]
              refine rr_if_ne (pc := 70) (tgt := 85) dX7_release_70 (by decide) (by unfold zR; omega) (fun h70 => ?_) (fun h70 => ?_)
              · refine rr_iinc (pc := 85) dX7_release_85 rfl (by decide) ?_
                refine rr_goto (pc := 88) (tgt := 56) dX7_release_88 (by decide) ?_
                refine ih (i + 1) Wi (by omega) (by omega) hO ?_ (by omega)
                rw [e7, hst, show aMendT (iup a (18 + 2 * (s - 1) + (0 : Nat)) (-1 + 1)) i = aP (iup a (18 + 2 * (s - 1) + (0 : Nat)) (-1 + 1)) i 2 from aMendT_tg (Or.inr ⟨by omega, hTn i h1 (by omega) (by omega)⟩), ← e2i]
                exact iup_id.symm
              · refine rr_aload_n (pc := 73) dX7_release_73 rfl ?_
                refine rr_iload_n (pc := 74) dX7_release_74 rfl ?_
                refine rr_iconst (n := 2) dX7_release_75 ?_
                refine rr_aload_n (pc := 76) dX7_release_76 rfl ?_
                refine rr_iload_n (pc := 77) dX7_release_77 rfl ?_
                refine rr_iconst (n := 1) dX7_release_78 ?_
                refine rr_inv0 (M' := MX7_openFrom) (k := 116) (As := [_, _]) (pc := 79) dX7_release_79 lX7_219 kX7_openFrom vX7_openFrom zk_116 (by decide) rfl (by decide) (by decide) (Nat.le_of_ble_eq_true rfl) rfl (eX7_openFrom e7 (aMendN_wf fb _ (by omega)) (by omega) (by omega) (by unfold zR; omega) ?_)
                rw [aMendN_op _ (by rw [iup_n (by omega)]; omega)]
                refine rr_inv0 (M' := MX7_sets) (k := 116) (As := [_, _, _]) (pc := 82) dX7_release_82 lX7_55 kX7_sets vX7_sets zk_116 (by decide) rfl (by decide) (by decide) (Nat.le_of_ble_eq_true rfl) rfl (eX7_sets (by omega) (by omega) (by omega) (by omega) ?_)
                refine rr_iinc (pc := 85) dX7_release_85 rfl (by decide) ?_
                refine rr_goto (pc := 88) (tgt := 56) dX7_release_88 (by decide) ?_
                refine ih (i + 1) _ (by omega) (by omega) hO.up ?_ (by omega)
                rw [zup_at, e7, hst]
                congr 1
                unfold aMendT
                rw [if_pos (Or.inl (by omega)), show aP (iup a (18 + 2 * (s - 1) + (0 : Nat)) (-1 + 1)) i 2 = 0 by omega, show (0 : Int) + 1 = 1 from rfl]
                split <;> rfl
        refine loop _ 0 _ (by omega) (by omega) (zOfm.rf.up) ?_ (Nat.lt_succ_self _)
        rw [zup_at, a2]
        show _ = (iup a (18 + 2 * (s - 1) + (0 : Nat)) (-1 + 1))
        rw [show 18 + 2 * (s - 1) + ((0 : Nat) : Int) = 18 + 2 * (s - 1) by omega]
      · refine rr_bipush (n := (-13)) dX7_release_37 ?_
        exact rr_reti (pc := 39) dX7_release_39 rfl rfl rfl rfl (hq3 hc (by omega) W1 o1 t1 k1 a1)
    · omega
theorem aBc_s {a : Int → Int} {p i : Int} (h : 1 ≤ i) : aBc a p i.toNat = if aO a i = -1 ∧ ((aBc a p (i - 1).toNat).1 = -1 ∨ aOth (aClm a i p) p (a 2).toNat < (aBc a p (i - 1).toNat).2) then (i, aOth (aClm a i p) p (a 2).toNat) else aBc a p (i - 1).toNat := by
  rw [show i.toNat = (i - 1).toNat + 1 by omega]
  show (if aO a ((((i - 1).toNat : Nat) : Int) + 1) = -1 ∧ _ then _ else _) = _
  rw [show (((i - 1).toNat : Nat) : Int) + 1 = i by omega]
theorem aOth_s {a : Int → Int} {q j : Int} (h : 0 ≤ j) : aOth a q (j + 1).toNat = aOth a q j.toNat + (if j = q then 0 else aPlay a j) := by
  rw [show (j + 1).toNat = j.toNat + 1 by omega]
  show aOth a q j.toNat + (if ((j.toNat : Nat) : Int) = q then 0 else aPlay a ((j.toNat : Nat) : Int)) = _
  rw [show ((j.toNat : Nat) : Int) = j by omega]
theorem dX7_bestClaim_0 : decode cX7_bestClaim 0 = .ok (.aload_n 0, 1) := by decide +kernel
theorem dX7_bestClaim_1 : decode cX7_bestClaim 1 = .ok (.aload_n 0, 1) := by decide +kernel
theorem dX7_bestClaim_2 : decode cX7_bestClaim 2 = .ok (.iload_n 1, 1) := by decide +kernel
theorem dX7_bestClaim_3 : decode cX7_bestClaim 3 = .ok (.invokevirtual 285, 3) := by decide +kernel
theorem dX7_bestClaim_6 : decode cX7_bestClaim 6 = .ok (.ifCond .eq 7, 3) := by decide +kernel
theorem dX7_bestClaim_9 : decode cX7_bestClaim 9 = .ok (.iconst 0, 1) := by decide +kernel
theorem dX7_bestClaim_10 : decode cX7_bestClaim 10 = .ok (.goto 4, 3) := by decide +kernel
theorem dX7_bestClaim_13 : decode cX7_bestClaim 13 = .ok (.iconst 1, 1) := by decide +kernel
theorem dX7_bestClaim_14 : decode cX7_bestClaim 14 = .ok (.putfield 59, 3) := by decide +kernel
theorem dX7_bestClaim_17 : decode cX7_bestClaim 17 = .ok (.aload_n 0, 1) := by decide +kernel
theorem dX7_bestClaim_18 : decode cX7_bestClaim 18 = .ok (.getfield 59, 3) := by decide +kernel
theorem dX7_bestClaim_21 : decode cX7_bestClaim 21 = .ok (.ifCond .le 5, 3) := by decide +kernel
theorem dX7_bestClaim_24 : decode cX7_bestClaim 24 = .ok (.iconst 0, 1) := by decide +kernel
theorem dX7_bestClaim_25 : decode cX7_bestClaim 25 = .ok (.ireturn, 1) := by decide +kernel
theorem dX7_bestClaim_26 : decode cX7_bestClaim 26 = .ok (.iconst (-1), 1) := by decide +kernel
theorem dX7_bestClaim_27 : decode cX7_bestClaim 27 = .ok (.istore_n 2, 1) := by decide +kernel
theorem dX7_bestClaim_28 : decode cX7_bestClaim 28 = .ok (.iconst 0, 1) := by decide +kernel
theorem dX7_bestClaim_29 : decode cX7_bestClaim 29 = .ok (.istore_n 3, 1) := by decide +kernel
theorem dX7_bestClaim_30 : decode cX7_bestClaim 30 = .ok (.iconst 1, 1) := by decide +kernel
theorem dX7_bestClaim_31 : decode cX7_bestClaim 31 = .ok (.istore 4, 2) := by decide +kernel
theorem dX7_bestClaim_33 : decode cX7_bestClaim 33 = .ok (.iload 4, 2) := by decide +kernel
theorem dX7_bestClaim_35 : decode cX7_bestClaim 35 = .ok (.aload_n 0, 1) := by decide +kernel
theorem dX7_bestClaim_36 : decode cX7_bestClaim 36 = .ok (.invokevirtual 209, 3) := by decide +kernel
theorem dX7_bestClaim_39 : decode cX7_bestClaim 39 = .ok (.if_icmp .gt 98, 3) := by decide +kernel
theorem dX7_bestClaim_42 : decode cX7_bestClaim 42 = .ok (.aload_n 0, 1) := by decide +kernel
theorem dX7_bestClaim_43 : decode cX7_bestClaim 43 = .ok (.iload 4, 2) := by decide +kernel
theorem dX7_bestClaim_45 : decode cX7_bestClaim 45 = .ok (.invokevirtual 187, 3) := by decide +kernel
theorem dX7_bestClaim_48 : decode cX7_bestClaim 48 = .ok (.iconst (-1), 1) := by decide +kernel
theorem dX7_bestClaim_49 : decode cX7_bestClaim 49 = .ok (.if_icmp .eq 6, 3) := by decide +kernel
theorem dX7_bestClaim_52 : decode cX7_bestClaim 52 = .ok (.goto 79, 3) := by decide +kernel
theorem dX7_bestClaim_55 : decode cX7_bestClaim 55 = .ok (.aload_n 0, 1) := by decide +kernel
theorem dX7_bestClaim_56 : decode cX7_bestClaim 56 = .ok (.iload 4, 2) := by decide +kernel
theorem dX7_bestClaim_58 : decode cX7_bestClaim 58 = .ok (.iload_n 1, 1) := by decide +kernel
theorem dX7_bestClaim_59 : decode cX7_bestClaim 59 = .ok (.invokevirtual 190, 3) := by decide +kernel
theorem dX7_bestClaim_62 : decode cX7_bestClaim 62 = .ok (.iconst 0, 1) := by decide +kernel
theorem dX7_bestClaim_63 : decode cX7_bestClaim 63 = .ok (.istore 5, 2) := by decide +kernel
theorem dX7_bestClaim_65 : decode cX7_bestClaim 65 = .ok (.iconst 0, 1) := by decide +kernel
theorem dX7_bestClaim_66 : decode cX7_bestClaim 66 = .ok (.istore 6, 2) := by decide +kernel
theorem dX7_bestClaim_68 : decode cX7_bestClaim 68 = .ok (.iload 6, 2) := by decide +kernel
theorem dX7_bestClaim_70 : decode cX7_bestClaim 70 = .ok (.aload_n 0, 1) := by decide +kernel
theorem dX7_bestClaim_71 : decode cX7_bestClaim 71 = .ok (.invokevirtual 203, 3) := by decide +kernel
theorem dX7_bestClaim_74 : decode cX7_bestClaim 74 = .ok (.if_icmp .ge 30, 3) := by decide +kernel
theorem dX7_bestClaim_77 : decode cX7_bestClaim 77 = .ok (.iload 5, 2) := by decide +kernel
theorem dX7_bestClaim_79 : decode cX7_bestClaim 79 = .ok (.iload 6, 2) := by decide +kernel
theorem dX7_bestClaim_81 : decode cX7_bestClaim 81 = .ok (.iload_n 1, 1) := by decide +kernel
theorem dX7_bestClaim_82 : decode cX7_bestClaim 82 = .ok (.if_icmp .ne 7, 3) := by decide +kernel
theorem dX7_bestClaim_85 : decode cX7_bestClaim 85 = .ok (.iconst 0, 1) := by decide +kernel
theorem dX7_bestClaim_86 : decode cX7_bestClaim 86 = .ok (.goto 9, 3) := by decide +kernel
theorem dX7_bestClaim_89 : decode cX7_bestClaim 89 = .ok (.aload_n 0, 1) := by decide +kernel
theorem dX7_bestClaim_90 : decode cX7_bestClaim 90 = .ok (.iload 6, 2) := by decide +kernel
theorem dX7_bestClaim_92 : decode cX7_bestClaim 92 = .ok (.invokevirtual 312, 3) := by decide +kernel
theorem dX7_bestClaim_95 : decode cX7_bestClaim 95 = .ok (.iadd, 1) := by decide +kernel
theorem dX7_bestClaim_96 : decode cX7_bestClaim 96 = .ok (.istore 5, 2) := by decide +kernel
theorem dX7_bestClaim_98 : decode cX7_bestClaim 98 = .ok (.iinc 6 1, 3) := by decide +kernel
theorem dX7_bestClaim_101 : decode cX7_bestClaim 101 = .ok (.goto (-33), 3) := by decide +kernel
theorem dX7_bestClaim_104 : decode cX7_bestClaim 104 = .ok (.aload_n 0, 1) := by decide +kernel
theorem dX7_bestClaim_105 : decode cX7_bestClaim 105 = .ok (.iload 4, 2) := by decide +kernel
theorem dX7_bestClaim_107 : decode cX7_bestClaim 107 = .ok (.iconst (-1), 1) := by decide +kernel
theorem dX7_bestClaim_108 : decode cX7_bestClaim 108 = .ok (.invokevirtual 190, 3) := by decide +kernel
theorem dX7_bestClaim_111 : decode cX7_bestClaim 111 = .ok (.iload_n 2, 1) := by decide +kernel
theorem dX7_bestClaim_112 : decode cX7_bestClaim 112 = .ok (.iconst (-1), 1) := by decide +kernel
theorem dX7_bestClaim_113 : decode cX7_bestClaim 113 = .ok (.if_icmp .eq 12, 3) := by decide +kernel
theorem dX7_bestClaim_116 : decode cX7_bestClaim 116 = .ok (.iload 5, 2) := by decide +kernel
theorem dX7_bestClaim_118 : decode cX7_bestClaim 118 = .ok (.iload_n 3, 1) := by decide +kernel
theorem dX7_bestClaim_119 : decode cX7_bestClaim 119 = .ok (.if_icmp .lt 6, 3) := by decide +kernel
theorem dX7_bestClaim_122 : decode cX7_bestClaim 122 = .ok (.goto 9, 3) := by decide +kernel
theorem dX7_bestClaim_125 : decode cX7_bestClaim 125 = .ok (.iload 4, 2) := by decide +kernel
theorem dX7_bestClaim_127 : decode cX7_bestClaim 127 = .ok (.istore_n 2, 1) := by decide +kernel
theorem dX7_bestClaim_128 : decode cX7_bestClaim 128 = .ok (.iload 5, 2) := by decide +kernel
theorem dX7_bestClaim_130 : decode cX7_bestClaim 130 = .ok (.istore_n 3, 1) := by decide +kernel
theorem dX7_bestClaim_131 : decode cX7_bestClaim 131 = .ok (.iinc 4 1, 3) := by decide +kernel
theorem dX7_bestClaim_134 : decode cX7_bestClaim 134 = .ok (.goto (-101), 3) := by decide +kernel
theorem dX7_bestClaim_137 : decode cX7_bestClaim 137 = .ok (.iload_n 2, 1) := by decide +kernel
theorem dX7_bestClaim_138 : decode cX7_bestClaim 138 = .ok (.ireturn, 1) := by decide +kernel
theorem eX7_bestClaim {W : zWd} {a : Int → Int} {T n : Int} {K : Nat → (Int → Int)} {p : Int}  {Q : Option Value → zWd → Prop} {X : zX} (ha : W 117 = a) (hw : zWf T a) (hH : zKp W n K) (hz : zR p) (hq : (0 ≤ p ∧ p < a 2) → ∀ W' : zWd, zOfM W W' → W' 116 7 = 0 → zKp W' n K → W' 117 = a → Q (some (zI ((aBc a p (a 1).toNat).1))) W') (hq1 : ¬ (0 ≤ p ∧ p < a 2) → ∀ W' : zWd, zOfM W W' → W' 116 7 = 1 → zKp W' n K → W' 117 = a → Q (some (zI 0)) W')  : Ev MX7_bestClaim 7 0 W [.ref 116, zI p] Q X := by
  refine ev_of (ls := [.ref 116, zI p, .null, .null, .null, .null, .null]) (by decide) rfl (fun _ => rfl) (fun _ => Nat.le_of_ble_eq_true rfl) (Or.inl rfl) ?_
  obtain ⟨w0, w0', wW, w1, w2, w2', w3, w3', w4, w4', w5, w5', w6, w6', w7, w7', wS, wP, wT⟩ := id hw
  have wq := zWf.sq hw
  refine rr_aload_n (pc := 0) dX7_bestClaim_0 rfl ?_
  refine rr_aload_n (pc := 1) dX7_bestClaim_1 rfl ?_
  refine rr_iload_n (pc := 2) dX7_bestClaim_2 rfl ?_
  refine rr_inv0 (M' := MX7_isPlayer) (k := 116) (As := [_]) (pc := 3) dX7_bestClaim_3 lX7_285 kX7_isPlayer vX7_isPlayer zk_116 (by decide) rfl (by decide) (by decide) (Nat.le_of_ble_eq_true rfl) rfl (eX7_isPlayer ha hw hz ?_)
  refine rr_if_eq (pc := 6) (tgt := 13) dX7_bestClaim_6 (by decide) (by split <;> (unfold zR; omega)) (fun h6 => ?_) (fun h6 => ?_)
  · refine rr_iconst (n := 1) dX7_bestClaim_13 ?_
    have hnp := z_i10 h6
    refine rr_put (pc := 14) (ji := 7) dX7_bestClaim_14 fX7_59 fp_7_7 zk_116 zr_116_7 rfl ?_
    have o1 : zOfM W (zup W 116 7 1) := zOfM.rf.up (by omega)
    have t1 : zup W 116 7 1 116 7 = 1 := zup_s
    have a1 : zup W 116 7 1 117 = a := (zup_other 117 (by decide)).trans ha
    have k1 : zKp (zup W 116 7 1) n K := hH.u (by decide)
    generalize zup W 116 7 1 = W1 at o1 t1 a1 k1 ⊢
    refine rr_aload_n (pc := 17) dX7_bestClaim_17 rfl ?_
    refine rr_getI (pc := 18) (ji := 7) dX7_bestClaim_18 fX7_59 zk_116 zr_116_7 rfl ?_
    rw [t1]
    refine rr_if_le (pc := 21) (tgt := 26) dX7_bestClaim_21 (by decide) (by unfold zR; omega) (fun h21 => ?_) (fun h21 => ?_)
    · omega
    · refine rr_iconst (n := 0) dX7_bestClaim_24 ?_
      exact rr_reti (pc := 25) dX7_bestClaim_25 rfl rfl rfl rfl (hq1 hnp W1 o1 t1 k1 a1)
  · refine rr_iconst (n := 0) dX7_bestClaim_9 ?_
    refine rr_goto (pc := 10) (tgt := 14) dX7_bestClaim_10 (by decide) ?_
    have hpl := z_i10n h6
    have hp0 := hpl.1
    have hp1 := hpl.2
    refine rr_put (pc := 14) (ji := 7) dX7_bestClaim_14 fX7_59 fp_7_7 zk_116 zr_116_7 rfl ?_
    have o1 : zOfM W (zup W 116 7 0) := zOfM.rf.up (by omega)
    have t1 : zup W 116 7 0 116 7 = 0 := zup_s
    have a1 : zup W 116 7 0 117 = a := (zup_other 117 (by decide)).trans ha
    have k1 : zKp (zup W 116 7 0) n K := hH.u (by decide)
    generalize zup W 116 7 0 = W1 at o1 t1 a1 k1 ⊢
    refine rr_aload_n (pc := 17) dX7_bestClaim_17 rfl ?_
    refine rr_getI (pc := 18) (ji := 7) dX7_bestClaim_18 fX7_59 zk_116 zr_116_7 rfl ?_
    rw [t1]
    refine rr_if_le (pc := 21) (tgt := 26) dX7_bestClaim_21 (by decide) (by unfold zR; omega) (fun h21 => ?_) (fun h21 => ?_)
    · refine rr_iconst (n := (-1)) dX7_bestClaim_26 ?_
      refine rr_istore_n (pc := 27) dX7_bestClaim_27 (by decide) ?_
      refine rr_iconst (n := 0) dX7_bestClaim_28 ?_
      refine rr_istore_n (pc := 29) dX7_bestClaim_29 (by decide) ?_
      refine rr_iconst (n := 1) dX7_bestClaim_30 ?_
      refine rr_istore (pc := 31) dX7_bestClaim_31 (by decide) ?_
      have loop : ∀ (n : Nat) (i : Int) (Wi : zWd) (x5 x6 : Value), 1 ≤ i → i ≤ a 1 + 1 → zOfT W1 Wi → Wi 117 = a → (a 1 + 1 - i).toNat < n → RR MX7_bestClaim 7 0 Wi 33 [.ref 116, zI p, zI (aBc a p (i - 1).toNat).1, zI (aBc a p (i - 1).toNat).2, zI i, x5, x6] [] (zEnd MX7_bestClaim Q X) X := by
        intro n
        induction n with
        | zero => intro i Wi x5 x6 _ _ _ _ hm9; omega
        | succ n ih =>
          intro i Wi x5 x6 h1 h2 hO e8 hm9
          have hbr := aBc_rng (a := a) (p := p) (by omega) (i - 1).toNat (by omega)
          refine rr_iload (pc := 33) dX7_bestClaim_33 rfl ?_
          refine rr_aload_n (pc := 35) dX7_bestClaim_35 rfl ?_
          refine rr_inv0 (M' := MX7_squares) (k := 116) (As := []) (pc := 36) dX7_bestClaim_36 lX7_209 kX7_squares vX7_squares zk_116 (by decide) rfl (by decide) (by decide) (Nat.le_of_ble_eq_true rfl) rfl (eX7_squares ?_)
          rw [e8]
          refine rr_icmp_gt (pc := 39) (tgt := 137) dX7_bestClaim_39 (by decide) (by unfold zR; omega) (by unfold zR; omega) (fun h39 => ?_) (fun h39 => ?_)
          · refine rr_iload_n (pc := 137) dX7_bestClaim_137 rfl ?_
            exact rr_reti (pc := 138) dX7_bestClaim_138 rfl rfl (by rw [show (i - 1).toNat = (a 1).toNat by omega]) rfl (hq hpl Wi (o1.tr hO.M) ((hO.2 7 (by decide) (by decide) (by decide)).trans t1) (k1.T hO) e8)
          · refine rr_aload_n (pc := 42) dX7_bestClaim_42 rfl ?_
            refine rr_iload (pc := 43) dX7_bestClaim_43 rfl ?_
            have hs4 := wS i h1 (by omega)
            refine rr_inv0 (M' := MX7_ownerOf) (k := 116) (As := [_]) (pc := 45) dX7_bestClaim_45 lX7_187 kX7_ownerOf vX7_ownerOf zk_116 (by decide) rfl (by decide) (by decide) (Nat.le_of_ble_eq_true rfl) rfl (eX7_ownerOf (by omega) (by omega) ?_)
            rw [e8]
            refine rr_iconst (n := (-1)) dX7_bestClaim_48 ?_
            refine rr_icmp_eq (pc := 49) (tgt := 55) dX7_bestClaim_49 (by decide) (by unfold zR; omega) (by unfold zR; omega) (fun h49 => ?_) (fun h49 => ?_)
            · refine rr_aload_n (pc := 55) dX7_bestClaim_55 rfl ?_
              refine rr_iload (pc := 56) dX7_bestClaim_56 rfl ?_
              refine rr_iload_n (pc := 58) dX7_bestClaim_58 rfl ?_
              have hown : aO a i = -1 := by omega
              have fc : zWf T (aClm a i p) := WF_S (o := 0) (v := p + 1) hw h1 (by omega) (Or.inl ⟨rfl, by omega, by omega⟩)
              have fc1 : (aClm a i p) 1 = a 1 := iup_n (by omega)
              have fc2 : (aClm a i p) 2 = a 2 := iup_n (by omega)
              refine rr_inv0 (M' := MX7_owns) (k := 116) (As := [_, _]) (pc := 59) dX7_bestClaim_59 lX7_190 kX7_owns vX7_owns zk_116 (by decide) rfl (by decide) (by decide) (Nat.le_of_ble_eq_true rfl) rfl (eX7_owns (by omega) (by omega) ?_)
              have eA : zup Wi 117 (18 + 2 * (i - 1)) (p + 1) 117 = (aClm a i p) := by
                rw [zup_at, e8]; unfold aClm; rw [show 18 + 2 * (i - 1) + ((0 : Nat) : Int) = 18 + 2 * (i - 1) by omega]
              have oA : zOfT W1 (zup Wi 117 (18 + 2 * (i - 1)) (p + 1)) := hO.tr zOfm.rf.up.T
              generalize zup Wi 117 (18 + 2 * (i - 1)) (p + 1) = W4 at eA oA ⊢
              refine rr_iconst (n := 0) dX7_bestClaim_62 ?_
              refine rr_istore (pc := 63) dX7_bestClaim_63 (by decide) ?_
              refine rr_iconst (n := 0) dX7_bestClaim_65 ?_
              refine rr_istore (pc := 66) dX7_bestClaim_66 (by decide) ?_
              have loop2 : ∀ (n2 : Nat) (j : Int) (Wj : zWd), 0 ≤ j → j ≤ a 2 → zOfT W1 Wj → Wj 117 = (aClm a i p) → (a 2 - j).toNat < n2 → RR MX7_bestClaim 7 0 Wj 68 [.ref 116, zI p, zI (aBc a p (i - 1).toNat).1, zI (aBc a p (i - 1).toNat).2, zI i, zI (aOth (aClm a i p) p j.toNat), zI j] [] (zEnd MX7_bestClaim Q X) X := by
                intro n2
                induction n2 with
                | zero => intro j Wj _ _ _ _ hm8; omega
                | succ n2 ih2 =>
                  intro j Wj j1 j2 oJ e9 hm8
                  have hor := aOth_rng (a := (aClm a i p)) (q := p) (by rw [fc1]; omega) j.toNat
                  refine rr_iload (pc := 68) dX7_bestClaim_68 rfl ?_
                  refine rr_aload_n (pc := 70) dX7_bestClaim_70 rfl ?_
                  refine rr_inv0 (M' := MX7_players) (k := 116) (As := []) (pc := 71) dX7_bestClaim_71 lX7_203 kX7_players vX7_players zk_116 (by decide) rfl (by decide) (by decide) (Nat.le_of_ble_eq_true rfl) rfl (eX7_players ?_)
                  rw [e9, fc2]
                  refine rr_icmp_ge (pc := 74) (tgt := 104) dX7_bestClaim_74 (by decide) (by unfold zR; omega) (by unfold zR; omega) (fun h74 => ?_) (fun h74 => ?_)
                  · refine rr_aload_n (pc := 104) dX7_bestClaim_104 rfl ?_
                    refine rr_iload (pc := 105) dX7_bestClaim_105 rfl ?_
                    refine rr_iconst (n := (-1)) dX7_bestClaim_107 ?_
                    have hje : j = a 2 := by omega
                    subst hje
                    refine rr_inv0 (M' := MX7_owns) (k := 116) (As := [_, _]) (pc := 108) dX7_bestClaim_108 lX7_190 kX7_owns vX7_owns zk_116 (by decide) rfl (by decide) (by decide) (Nat.le_of_ble_eq_true rfl) rfl (eX7_owns (by omega) (by omega) ?_)
                    have eB : zup Wj 117 (18 + 2 * (i - 1)) (-1 + 1) 117 = a := by
                      rw [zup_at, e9]
                      have h8 := aClm_back (a := a) (s := i) (v := p + 1) (by omega)
                      rw [show 18 + 2 * (i - 1) + ((0 : Nat) : Int) = 18 + 2 * (i - 1) by omega] at h8
                      unfold aClm
                      rw [show 18 + 2 * (i - 1) + ((0 : Nat) : Int) = 18 + 2 * (i - 1) by omega]
                      exact h8
                    have oB : zOfT W1 (zup Wj 117 (18 + 2 * (i - 1)) (-1 + 1)) := oJ.tr zOfm.rf.up.T
                    generalize zup Wj 117 (18 + 2 * (i - 1)) (-1 + 1) = W6 at eB oB ⊢
                    refine rr_iload_n (pc := 111) dX7_bestClaim_111 rfl ?_
                    refine rr_iconst (n := (-1)) dX7_bestClaim_112 ?_
                    refine rr_icmp_eq (pc := 113) (tgt := 125) dX7_bestClaim_113 (by decide) (by unfold zR; omega) (by unfold zR; omega) (fun h113 => ?_) (fun h113 => ?_)
                    · refine rr_iload (pc := 125) dX7_bestClaim_125 rfl ?_
                      refine rr_istore_n (pc := 127) dX7_bestClaim_127 (by decide) ?_
                      refine rr_iload (pc := 128) dX7_bestClaim_128 rfl ?_
                      refine rr_istore_n (pc := 130) dX7_bestClaim_130 (by decide) ?_
                      refine rr_iinc (pc := 131) dX7_bestClaim_131 rfl (by decide) ?_
                      refine rr_goto (pc := 134) (tgt := 33) dX7_bestClaim_134 (by decide) ?_
                      refine rr_eqL ?_ (ih (i + 1) W6 (zI (aOth (aClm a i p) p (a 2).toNat)) (zI (a 2)) (by omega) (by omega) oB eB (by omega))
                      rw [show (i + 1 - 1).toNat = i.toNat by omega, aBc_s h1, if_pos ⟨hown, Or.inl h113⟩]
                      rfl
                    · refine rr_iload (pc := 116) dX7_bestClaim_116 rfl ?_
                      refine rr_iload_n (pc := 118) dX7_bestClaim_118 rfl ?_
                      refine rr_icmp_lt (pc := 119) (tgt := 125) dX7_bestClaim_119 (by decide) (by unfold zR; omega) (by unfold zR; omega) (fun h119 => ?_) (fun h119 => ?_)
                      · refine rr_iload (pc := 125) dX7_bestClaim_125 rfl ?_
                        refine rr_istore_n (pc := 127) dX7_bestClaim_127 (by decide) ?_
                        refine rr_iload (pc := 128) dX7_bestClaim_128 rfl ?_
                        refine rr_istore_n (pc := 130) dX7_bestClaim_130 (by decide) ?_
                        refine rr_iinc (pc := 131) dX7_bestClaim_131 rfl (by decide) ?_
                        refine rr_goto (pc := 134) (tgt := 33) dX7_bestClaim_134 (by decide) ?_
                        refine rr_eqL ?_ (ih (i + 1) W6 (zI (aOth (aClm a i p) p (a 2).toNat)) (zI (a 2)) (by omega) (by omega) oB eB (by omega))
                        rw [show (i + 1 - 1).toNat = i.toNat by omega, aBc_s h1, if_pos ⟨hown, Or.inr h119⟩]
                        rfl
                      · refine rr_goto (pc := 122) (tgt := 131) dX7_bestClaim_122 (by decide) ?_
                        refine rr_iinc (pc := 131) dX7_bestClaim_131 rfl (by decide) ?_
                        refine rr_goto (pc := 134) (tgt := 33) dX7_bestClaim_134 (by decide) ?_
                        refine rr_eqL ?_ (ih (i + 1) W6 (zI (aOth (aClm a i p) p (a 2).toNat)) (zI (a 2)) (by omega) (by omega) oB eB (by omega))
                        rw [show (i + 1 - 1).toNat = i.toNat by omega, aBc_s h1, if_neg (fun z => z.2.elim (fun y => h113 y) (fun y => by omega))]
                        rfl
                  · refine rr_iload (pc := 77) dX7_bestClaim_77 rfl ?_
                    refine rr_iload (pc := 79) dX7_bestClaim_79 rfl ?_
                    refine rr_iload_n (pc := 81) dX7_bestClaim_81 rfl ?_
                    refine rr_icmp_ne (pc := 82) (tgt := 89) dX7_bestClaim_82 (by decide) (by unfold zR; omega) (by unfold zR; omega) (fun h82 => ?_) (fun h82 => ?_)
                    · refine rr_aload_n (pc := 89) dX7_bestClaim_89 rfl ?_
                      refine rr_iload (pc := 90) dX7_bestClaim_90 rfl ?_
                      refine rr_inv0 (M' := MX7_playableOf) (k := 116) (As := [_]) (pc := 92) dX7_bestClaim_92 lX7_312 kX7_playableOf vX7_playableOf zk_116 (by decide) rfl (by decide) (by decide) (Nat.le_of_ble_eq_true rfl) rfl (eX7_playableOf e9 fc j1 (by rw [fc2]; omega) (fun W5 o5 => ?_))
                      refine rr_iadd (pc := 95) dX7_bestClaim_95 ?_
                      refine rr_istore (pc := 96) dX7_bestClaim_96 (by decide) ?_
                      refine rr_iinc (pc := 98) dX7_bestClaim_98 rfl (by decide) ?_
                      refine rr_goto (pc := 101) (tgt := 68) dX7_bestClaim_101 (by decide) ?_
                      refine rr_eqL ?_ (ih2 (j + 1) W5 (by omega) (by omega) (oJ.tr o5.T) (o5.a.trans e9) (by omega))
                      rw [aOth_s j1, if_neg h82]
                      rfl
                    · refine rr_iconst (n := 0) dX7_bestClaim_85 ?_
                      refine rr_goto (pc := 86) (tgt := 95) dX7_bestClaim_86 (by decide) ?_
                      refine rr_iadd (pc := 95) dX7_bestClaim_95 ?_
                      refine rr_istore (pc := 96) dX7_bestClaim_96 (by decide) ?_
                      refine rr_iinc (pc := 98) dX7_bestClaim_98 rfl (by decide) ?_
                      refine rr_goto (pc := 101) (tgt := 68) dX7_bestClaim_101 (by decide) ?_
                      refine rr_eqL ?_ (ih2 (j + 1) Wj (by omega) (by omega) oJ e9 (by omega))
                      rw [aOth_s j1, if_pos h82]
                      rfl
              exact loop2 _ 0 W4 (by omega) (by omega) oA eA (Nat.lt_succ_self _)
            · refine rr_goto (pc := 52) (tgt := 131) dX7_bestClaim_52 (by decide) ?_
              refine rr_iinc (pc := 131) dX7_bestClaim_131 rfl (by decide) ?_
              refine rr_goto (pc := 134) (tgt := 33) dX7_bestClaim_134 (by decide) ?_
              refine rr_eqL ?_ (ih (i + 1) Wi x5 x6 (by omega) (by omega) hO e8 (by omega))
              rw [show (i + 1 - 1).toNat = i.toNat by omega, aBc_s h1, if_neg (fun z => h49 z.1)]
              rfl
      exact loop _ 1 W1 _ _ (by omega) (by omega) zOfT.rf a1 (Nat.lt_succ_self _)
    · omega
