theorem z_mapD {f : Nat → Int} {l : List Nat} {i : Nat} (h : i < l.length) : (l.map f).getD i 0 = f (l.getD i 0) := by
  rw [List.getD_eq_getElem?_getD, List.getD_eq_getElem?_getD, List.getElem?_map, List.getElem?_eq_getElem h]; rfl
theorem zHp_mem {F : Nat → Int} {L must rc bal : Nat} : ∀ n k s, zV F L must rc bal k s < 1000000 → k ≤ L → ∀ x ∈ zHp F L must rc bal n k s, x ≤ L := by
  intro n
  induction n with
  | zero => intro k s _ _ x hx; cases hx
  | succ n ih =>
    intro k s hv hk x hx
    unfold zHp at hx
    by_cases q : k = L
    · rw [if_pos q] at hx; cases hx
    · rw [if_neg q] at hx
      obtain ⟨n1, n2, n3, n5, -, -⟩ := zNx_spec (F := F) (L := L) (must := must) (rc := rc) (bal := bal) (k := k) (run := s) (by omega) hv
      rcases List.mem_cons.mp hx with rfl | hx
      · exact n3.1
      · exact ih _ _ n5 n3.1 x hx
theorem aWay_mem {a : Int → Int} {q tg : Int} {rc : Nat} {bk : Int} : ∀ x ∈ aWay a q tg rc bk, x ≤ (a 0 + 1).toNat := by
  intro x hx
  unfold aWay at hx
  split at hx
  · cases hx
  · unfold zWl at hx
    split at hx
    · exact zHp_mem _ 0 0 (by assumption) (Nat.zero_le _) x hx
    · cases hx
theorem aWay_R {a : Int → Int} {q tg : Int} {rc : Nat} {bk : Int} (h0 : 0 ≤ a 0) (h10 : a 0 ≤ 10) : ∀ i : Nat, i < (aRows a q tg rc bk).length → zR ((aRows a q tg rc bk).getD i 0) := by
  intro i hi
  unfold aRows at hi ⊢
  rw [List.length_map] at hi
  rw [z_mapD hi]
  have hm : (aWay a q tg rc bk).getD i 0 ≤ (a 0 + 1).toNat := by
    rw [List.getD_eq_getElem?_getD, List.getElem?_eq_getElem hi]
    exact aWay_mem _ (List.getElem_mem hi)
  unfold zRa zR
  split <;> omega
theorem aRows_len {a : Int → Int} {q tg : Int} {rc : Nat} {bk : Int} : (aRows a q tg rc bk).length = (aWay a q tg rc bk).length := List.length_map ..
theorem aRows_at {W : zWd} {w : Nat} {a : Int → Int} {q tg : Int} {rc : Nat} {bk : Int} (h : zLaid W w a q tg rc bk) : W w 2 = (aRows a q tg rc bk).length ∧ ∀ i : Nat, i < (aRows a q tg rc bk).length → W (w + 1) i = (aRows a q tg rc bk).getD i 0 := by
  refine ⟨by rw [aRows_len]; exact h.2.1, fun i hi => ?_⟩
  rw [aRows_len] at hi
  rw [h.2.2 i hi, show (aRows a q tg rc bk).getD i 0 = _ from z_mapD hi]
theorem aUm_pr {T : Int} {a : Int → Int} {q own s : Int} (hw : zWf T a) (hq0 : 0 ≤ q) (hq1 : q < a 2) (ho : aP a q 5 = own) (h1 : 1 ≤ s) (h2 : s ≤ a 1) : aUm a q s = aPr a q own s := by
  have hsq := zWf.sq hw
  have h5 : ∀ p : Int, 0 ≤ p → p < ((a 2).toNat : Int) → 0 ≤ aP a p 5 := fun p g0 g1 => by
    have hm2 := hw.2.2.2.2.2.2.2.2.2.2.2.2.2.2.2.2.2.1 p g0 (by omega)
    unfold zWfP at hm2
    omega
  unfold aUm aPr aUse
  rw [Bool.eq_iff_iff, aUset_bit (by omega), Bool.and_eq_true, Bool.and_eq_true, decide_eq_true_eq, decide_eq_true_eq, Bool.not_eq_true']
  have e1 := zMks_bit (a := a) (w := -1) (a 2).toNat h5 s.toNat
  have e2 := zMks_bit (a := a) (w := q) (a 2).toNat h5 s.toNat
  constructor
  · rintro ⟨g1, g2, g3, g4⟩
    refine ⟨⟨fun z => ?_, g3⟩, ?_⟩
    · have : (zMks a (-1) (a 2).toNat).testBit s.toNat = true := e1.mpr ⟨q, hq0, by omega, by omega, by omega, by omega⟩
      rw [this] at g4; cases g4
    · rw [← Bool.not_eq_true]
      intro z
      obtain ⟨q', z0, z1, z2, z3⟩ := e2.mp z
      have : (zMks a (-1) (a 2).toNat).testBit s.toNat = true := e1.mpr ⟨q', z0, z1, by omega, z3⟩
      rw [this] at g4; cases g4
  · rintro ⟨⟨g1, g2⟩, g3⟩
    refine ⟨by omega, by omega, g2, ?_⟩
    rw [← Bool.not_eq_true]
    intro z
    obtain ⟨q', z0, z1, z2, z3, z4⟩ := e1.mp z
    by_cases hqq : q' = q
    · subst hqq; exact g1 (z4.symm.trans ho)
    · have : (zMks a q (a 2).toNat).testBit s.toNat = true := e2.mpr ⟨q', z0, z1, hqq, z3, z4⟩
      rw [this] at g3; cases g3
theorem aMkH_cg {T : Int} {a : Int → Int} {P P' : Int → Bool} {R : List Int} (hw : zWf T a) (hT : T + R.length ≤ 100000000) (h : ∀ s : Int, 1 ≤ s → s ≤ a 1 → P s = P' s) : aMkH a P R = aMkH a P' R := by
  unfold aMkH; rw [aLands_cg R T a hw hT h]
theorem aMkH_O {a : Int → Int} {P : Int → Bool} {R : List Int} {s' : Int} (h : 1 ≤ s') : aO (aMkH a P R) s' = aO a s' := by
  rw [← aLands_O (P := P) R a]
  unfold aMkH aO
  rw [iup_n (by omega)]
theorem zMks_cg {a a' : Int → Int} {w : Int} : ∀ n : Nat, (∀ q : Nat, q < n → aP a' q 5 = aP a q 5) → zMks a' w n = zMks a w n := by
  intro n
  induction n with
  | zero => intro _; rfl
  | succ n ih =>
    intro h
    unfold zMks
    rw [ih (fun q g => h q (by omega)), h n (by omega)]
theorem aMkH_P {T : Int} {a : Int → Int} {P : Int → Bool} {R : List Int} {q w : Int} (hw : zWf T a) (hT : T + R.length ≤ 100000000) (hq : 0 ≤ q) (h0 : 0 ≤ w) : aP (aMkH a P R) q w = aP a q w := aMkH_out hw hT (by omega) (by omega)
/-- after the hops out, and the marker is picked up -/
theorem aPr_back {T : Int} {a : Int → Int} {P : Int → Bool} {R : List Int} {q s : Int} (hw : zWf T a) (hT : T + R.length ≤ 100000000) (hq0 : 0 ≤ q) (h1 : 1 ≤ s) (h2 : s ≤ a 1) : aPr (iup (aMkH a P R) (58 + 17 * q + 5) 0) q 0 s = aPr a q 0 s := by
  have hsq := zWf.sq hw
  have hw1 := aMkH_wf (P := P) hw hT
  unfold aPr
  rw [aUse_own hw1 hq0 (by omega)]
  unfold aUse aForb
  rw [aMkH_O (by omega), aMkH_out hw hT (by omega) (by omega), zMks_cg (a := a) (a' := aMkH a P R) _ (fun q' _ => aMkH_P hw hT (by omega) (by omega))]
theorem aMove_wf {T : Int} {a : Int → Int} {p : Int} (hw : zWf T a) (hT : T + 1 ≤ 100000000) (h0 : 0 ≤ p) (h1 : p < a 2) : zWf (T + 1) (aMove a p) := by
  have hsq := zWf.sq hw
  have hm2 := hw.2.2.2.2.2.2.2.2.2.2.2.2.2.2.2.2.2.1 p h0 h1
  unfold zWfP at hm2
  have hw1 := hw.mono (T' := T + 1) (by omega) hT
  unfold aMove
  split
  · have o1 := aOpen_rng (a := a) (p := p) (s := 1) (by omega) (by omega)
    have f1 := WF_P (w := 4) (v := aP a p 4 + 1) (p := p) hw1 h0 (by unfold zWr; omega)
    have f2 := WF_P (w := 3) (v := if aP a p 3 + 1 < 9 then aP a p 3 + 1 else 9) (p := p) f1 h0 (by unfold zWr; split <;> omega)
    exact WF_P (w := 2) (v := aOpen a p 1) (p := p) f2 h0 (by unfold zWr; rw [iup_n (by omega), iup_n (by omega)]; omega)
  · have o1 := aOpen_rng (a := a) (p := p) (s := aP a p 2 + 1) (by omega) (by omega)
    exact WF_P (w := 2) (v := aOpen a p (aP a p 2 + 1)) (p := p) hw1 h0 (by unfold zWr; omega)
theorem aMove_n {a : Int → Int} {p j : Int} (h0 : 0 ≤ p) (hj : j < 58) : aMove a p j = a j := by
  unfold aMove
  split
  · show iup (iup (iup a _ _) _ _) _ _ j = a j
    rw [iup_n (by omega), iup_n (by omega), iup_n (by omega)]
  · exact iup_n (by omega)
theorem aHopB_wf {T : Int} {a : Int → Int} {p : Int} (hw : zWf T a) (hT : T + 24 ≤ 100000000) (h0 : 0 ≤ p) : zWf (T + (aRows a p (aP a p 2) (aRc a p) 0).length) (aHopO a p) ∧ zWf (T + (aRows a p (aP a p 2) (aRc a p) 0).length) (iup (aHopO a p) (58 + 17 * p + 5) 0) ∧ zWf (T + (aRows a p (aP a p 2) (aRc a p) 0).length + (aRows a p (aP a p 2) (aRc a p) 1).length) (aHopB a (aHopO a p) p) ∧ (aRows a p (aP a p 2) (aRc a p) 0).length ≤ 11 ∧ (aRows a p (aP a p 2) (aRc a p) 1).length ≤ 11 := by
  have l0 := aWay_len (a := a) (q := p) (tg := aP a p 2) (rc := aRc a p) (bk := 0) (by have := hw.1; omega) hw.2.1
  have l1 := aWay_len (a := a) (q := p) (tg := aP a p 2) (rc := aRc a p) (bk := 1) (by have := hw.1; omega) hw.2.1
  rw [← aRows_len] at l0 l1
  have f1 := aMkH_wf (P := aPr a p (aP a p 2)) (R := aRows a p (aP a p 2) (aRc a p) 0) hw (by omega)
  have sq1 := zWf.sq f1
  have f2 := WF_P (w := 5) (v := 0) (p := p) f1 h0 (by unfold zWr; omega)
  exact ⟨f1, f2, aMkH_wf f2 (by omega), l0, l1⟩
theorem aGood_n {T : Int} {a : Int → Int} {p j : Int} (hw : zWf T a) (hT : T + 24 ≤ 100000000) (h0 : 0 ≤ p) (hj : j < 18) (h6 : j ≠ 6) (h7 : j ≠ 7) : aGood a p j = a j := by
  obtain ⟨f1, f2, f3, l0, l1⟩ := aHopB_wf hw hT h0
  show iup (aMove (aHopB a (aHopO a p) p) p) 7 _ j = a j
  rw [iup_n h7, aMove_n h0 (by omega)]
  show aMkH (iup (aHopO a p) (58 + 17 * p + 5) 0) _ _ j = a j
  rw [aMkH_out f2 (by omega) (by omega) h6, iup_n (by omega)]
  exact aMkH_out hw (by omega) (by omega) h6
theorem aGood_wf {T : Int} {a : Int → Int} {p : Int} (hw : zWf T a) (hT : T + 24 ≤ 100000000) (h0 : 0 ≤ p) (h1 : p < a 2) : zWf (T + 24) (aGood a p) := by
  obtain ⟨f1, f2, f3, l0, l1⟩ := aHopB_wf hw hT h0
  have e2 : aHopB a (aHopO a p) p 2 = a 2 := by
    show aMkH (iup (aHopO a p) (58 + 17 * p + 5) 0) _ _ 2 = a 2
    rw [aMkH_out f2 (by omega) (by omega) (by omega), iup_n (by omega)]
    exact aMkH_out hw (by omega) (by omega) (by omega)
  have f4 := aMove_wf (p := p) f3 (by omega) h0 (by rw [e2]; exact h1)
  have h7 := f4.2.2.2.2.2.2.2.2.2.2.2.2.2.2.1
  have h7' := f4.2.2.2.2.2.2.2.2.2.2.2.2.2.2.2.1
  exact WF_0 (f4.mono (by omega) (by omega)) (Or.inr (Or.inr ⟨Or.inr (Or.inr rfl), by omega, by omega⟩))
theorem dX1_hopOutAndBack_0 : decode cX1_hopOutAndBack 0 = .ok (.aload_n 1, 1) := by decide +kernel
theorem dX1_hopOutAndBack_1 : decode cX1_hopOutAndBack 1 = .ok (.iload_n 2, 1) := by decide +kernel
theorem dX1_hopOutAndBack_2 : decode cX1_hopOutAndBack 2 = .ok (.aload_n 0, 1) := by decide +kernel
theorem dX1_hopOutAndBack_3 : decode cX1_hopOutAndBack 3 = .ok (.getfield 14, 3) := by decide +kernel
theorem dX1_hopOutAndBack_6 : decode cX1_hopOutAndBack 6 = .ok (.invokestatic 73, 3) := by decide +kernel
theorem dX1_hopOutAndBack_9 : decode cX1_hopOutAndBack 9 = .ok (.aload_n 1, 1) := by decide +kernel
theorem dX1_hopOutAndBack_10 : decode cX1_hopOutAndBack 10 = .ok (.iload_n 2, 1) := by decide +kernel
theorem dX1_hopOutAndBack_11 : decode cX1_hopOutAndBack 11 = .ok (.iconst 5, 1) := by decide +kernel
theorem dX1_hopOutAndBack_12 : decode cX1_hopOutAndBack 12 = .ok (.iconst (-1), 1) := by decide +kernel
theorem dX1_hopOutAndBack_13 : decode cX1_hopOutAndBack 13 = .ok (.invokevirtual 58, 3) := by decide +kernel
theorem dX1_hopOutAndBack_16 : decode cX1_hopOutAndBack 16 = .ok (.aload_n 1, 1) := by decide +kernel
theorem dX1_hopOutAndBack_17 : decode cX1_hopOutAndBack 17 = .ok (.iload_n 2, 1) := by decide +kernel
theorem dX1_hopOutAndBack_18 : decode cX1_hopOutAndBack 18 = .ok (.aload_n 0, 1) := by decide +kernel
theorem dX1_hopOutAndBack_19 : decode cX1_hopOutAndBack 19 = .ok (.getfield 20, 3) := by decide +kernel
theorem dX1_hopOutAndBack_22 : decode cX1_hopOutAndBack 22 = .ok (.invokestatic 73, 3) := by decide +kernel
theorem dX1_hopOutAndBack_25 : decode cX1_hopOutAndBack 25 = .ok (.aload_n 1, 1) := by decide +kernel
theorem dX1_hopOutAndBack_26 : decode cX1_hopOutAndBack 26 = .ok (.iload_n 2, 1) := by decide +kernel
theorem dX1_hopOutAndBack_27 : decode cX1_hopOutAndBack 27 = .ok (.invokevirtual 77, 3) := by decide +kernel
theorem dX1_hopOutAndBack_30 : decode cX1_hopOutAndBack 30 = .ok (.aload_n 1, 1) := by decide +kernel
theorem dX1_hopOutAndBack_31 : decode cX1_hopOutAndBack 31 = .ok (.dup, 1) := by decide +kernel
theorem dX1_hopOutAndBack_32 : decode cX1_hopOutAndBack 32 = .ok (.getfield 80, 3) := by decide +kernel
theorem dX1_hopOutAndBack_35 : decode cX1_hopOutAndBack 35 = .ok (.iconst 1, 1) := by decide +kernel
theorem dX1_hopOutAndBack_36 : decode cX1_hopOutAndBack 36 = .ok (.iadd, 1) := by decide +kernel
theorem dX1_hopOutAndBack_37 : decode cX1_hopOutAndBack 37 = .ok (.putfield 80, 3) := by decide +kernel
theorem dX1_hopOutAndBack_40 : decode cX1_hopOutAndBack 40 = .ok (.return_, 1) := by decide +kernel
theorem eX1_hopOutAndBack {c : Nat} {W : zWd} {a : Int → Int} {T q : Int}  {Q : Option Value → zWd → Prop} {X : zX} (hc : zCt c) (hR : zCR W c a) (hw : zWf T a) (hq0 : 0 ≤ q) (hq1 : q < a 2) (hT : T + 24 ≤ 100000000) (h5 : aP a q 5 = aP a q 2) (hl0 : zLaid W 98 a q (aP a q 2) (aRc a q) 0) (hl1 : zLaid W 103 a q (aP a q 2) (aRc a q) 1) (hq : ∀ W' : zWd, zOff c W W' → zCR W' c (aGood a q) → Q none W') : Ev MX1_hopOutAndBack 3 0 W [.ref 97, .ref c, zI q] Q X := by
  refine ev_of (ls := [.ref 97, .ref c, zI q]) (by decide) rfl (fun _ => rfl) (fun _ => Nat.le_of_ble_eq_true rfl) (Or.inl rfl) ?_
  obtain ⟨r0, r1, r2, r3, r4, r5, r6, r7, rF, rS, rP, rB⟩ := id hR
  obtain ⟨w0, w0', wW, w1, w2, w2', w3, w3', w4, w4', w5, w5', w6, w6', w7, w7', wS, wP, wT⟩ := id hw
  have wq := zWf.sq hw
  obtain ⟨f1, f2, f3, n0, n1⟩ := aHopB_wf (p := q) hw hT hq0
  refine rr_aload_n (pc := 0) dX1_hopOutAndBack_0 rfl ?_
  refine rr_iload_n (pc := 1) dX1_hopOutAndBack_1 rfl ?_
  refine rr_aload_n (pc := 2) dX1_hopOutAndBack_2 rfl ?_
  refine rr_getR (pc := 3) dX1_hopOutAndBack_3 fX1_14 zk_97 zr_97_0 ?_
  refine rr_sta0 (M' := MX1_makeHops) (As := [_, _, _]) (pc := 6) dX1_hopOutAndBack_6 lX1_73 kX1_makeHops sX1_makeHops (by decide) (by decide) (Nat.le_of_ble_eq_true rfl) rfl (eX1_makeHops hc (Or.inl rfl) hR hw (by unfold zR; omega) (by omega) n0 (aRows_at hl0).1 (aRows_at hl0).2 (aWay_R (by omega) w0') (fun W1 o1 c1 => ?_))
  rw [show aMkH a (aUm a q) (aRows a q (aP a q 2) (aRc a q) 0) = aHopO a q from aMkH_cg hw (by omega) (fun s g1 g2 => aUm_pr hw hq0 hq1 h5 g1 g2)] at c1
  refine rr_aload_n (pc := 9) dX1_hopOutAndBack_9 rfl ?_
  refine rr_iload_n (pc := 10) dX1_hopOutAndBack_10 rfl ?_
  refine rr_iconst (n := 5) dX1_hopOutAndBack_11 ?_
  refine rr_iconst (n := (-1)) dX1_hopOutAndBack_12 ?_
  refine rr_invN (M' := MX0_put) (k := c) (As := [_, _, _]) (pc := 13) dX1_hopOutAndBack_13 lX1_58 kX0_put vX0_put hc.k (by decide) rfl (by decide) (by decide) (Nat.le_of_ble_eq_true rfl) rfl (eX0_put hc (by omega) (by omega) (by omega) (by omega) ?_)
  have c2 := CR_P (j := 5) (w := 5) (v := -1) (v' := 0) c1 hq0 (Or.inr (Or.inl ⟨rfl, rfl, rfl⟩))
  have o2 : zOff c W (zup W1 (c + 5) (q * 10 + 5) (-1)) := o1.tr (zOff.rf.up (by omega))
  generalize zup W1 (c + 5) (q * 10 + 5) (-1) = W2 at c2 o2 ⊢
  have d2 : zLaid W2 103 a q (aP a q 2) (aRc a q) 1 := hl1.cg (o2 103 (by have := hc.lt; omega)) (o2 104 (by have := hc.lt; omega))
  have e5 : aP (iup (aHopO a q) (58 + 17 * q + 5) 0) q 5 = 0 := iup_s
  have e2 : iup (aHopO a q) (58 + 17 * q + 5) 0 2 = a 2 := by rw [iup_n (by omega)]; exact aMkH_out hw (by omega) (by omega) (by omega)
  have e1 : iup (aHopO a q) (58 + 17 * q + 5) 0 1 = a 1 := by rw [iup_n (by omega)]; exact aMkH_out hw (by omega) (by omega) (by omega)
  refine rr_aload_n (pc := 16) dX1_hopOutAndBack_16 rfl ?_
  refine rr_iload_n (pc := 17) dX1_hopOutAndBack_17 rfl ?_
  refine rr_aload_n (pc := 18) dX1_hopOutAndBack_18 rfl ?_
  refine rr_getR (pc := 19) dX1_hopOutAndBack_19 fX1_20 zk_97 zr_97_1 ?_
  refine rr_sta0 (M' := MX1_makeHops) (As := [_, _, _]) (pc := 22) dX1_hopOutAndBack_22 lX1_73 kX1_makeHops sX1_makeHops (by decide) (by decide) (Nat.le_of_ble_eq_true rfl) rfl (eX1_makeHops hc (Or.inr rfl) c2 f2 (by unfold zR; omega) (by omega) n1 (aRows_at d2).1 (aRows_at d2).2 (aWay_R (by omega) w0') (fun W3 o3 c3 => ?_))
  rw [show aMkH (iup (aHopO a q) (58 + 17 * q + 5) 0) (aUm (iup (aHopO a q) (58 + 17 * q + 5) 0) q) (aRows a q (aP a q 2) (aRc a q) 1) = aHopB a (aHopO a q) q from aMkH_cg f2 (by omega) (fun s g1 g2 => by rw [aUm_pr f2 hq0 (by rw [e2]; exact hq1) e5 g1 g2]; exact aPr_back hw (by omega) hq0 g1 (by rw [e1] at g2; exact g2))] at c3
  have e3 : aHopB a (aHopO a q) q 2 = a 2 := by
    refine Eq.trans (aMkH_out f2 (by omega) (by omega) (by omega)) e2
  refine rr_aload_n (pc := 25) dX1_hopOutAndBack_25 rfl ?_
  refine rr_iload_n (pc := 26) dX1_hopOutAndBack_26 rfl ?_
  refine rr_invN (M' := MX0_moveTargetOn) (k := c) (As := [_]) (pc := 27) dX1_hopOutAndBack_27 lX1_77 kX0_moveTargetOn vX0_moveTargetOn hc.k (by decide) rfl (by decide) (by decide) (Nat.le_of_ble_eq_true rfl) rfl (eX0_moveTargetOn hc c3 f3 (by omega) hq0 (by rw [e3]; exact hq1) (fun W4 o4 c4 => ?_))
  refine rr_aload_n (pc := 30) dX1_hopOutAndBack_30 rfl ?_
  refine rr_dup_r (pc := 31) dX1_hopOutAndBack_31 ?_
  refine rr_getI (pc := 32) (ji := 7) dX1_hopOutAndBack_32 fX1_80 hc.k hc.i7 rfl ?_
  rw [c4.2.2.2.2.2.2.2.1]
  refine rr_iconst (n := 1) dX1_hopOutAndBack_35 ?_
  refine rr_iadd (pc := 36) dX1_hopOutAndBack_36 ?_
  refine rr_put (pc := 37) (ji := 7) dX1_hopOutAndBack_37 fX1_80 fp_0_7 hc.k hc.i7 rfl ?_
  exact rr_retv (pc := 40) dX1_hopOutAndBack_40 rfl rfl (hq _ (((o2.tr o3).tr o4).up (by omega)) (CR_0 c4 (by omega)))
