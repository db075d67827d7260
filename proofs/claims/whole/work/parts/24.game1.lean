def zGm (W : zWd) : Prop := W 98 0 = 0 ∧ W 103 0 = 1
def zOffg (W W' : zWd) : Prop := ∀ k : Nat, (k < 98 ∨ 108 ≤ k) → W' k = W k
theorem zOffg.rf {W : zWd} : zOffg W W := fun _ _ => rfl
theorem zOffg.tr {W W' W'' : zWd} (h : zOffg W W') (h2 : zOffg W' W'') : zOffg W W'' := fun k hk => (h2 k hk).trans (h k hk)
theorem zOffw.g98 {W W' : zWd} (h : zOffw 98 W W') : zOffg W W' := fun k hk => h k (by omega)
theorem zOffw.g103 {W W' : zWd} (h : zOffw 103 W W') : zOffg W W' := fun k hk => h k (by omega)
theorem zLaid.cg {W W' : zWd} {w : Nat} {a : Int → Int} {q tg bk : Int} {rc : Nat} (h : zLaid W w a q tg rc bk) (e0 : W' w = W w) (e1 : W' (w + 1) = W (w + 1)) : zLaid W' w a q tg rc bk := by
  unfold zLaid at *; rw [e0, e1]; exact h
theorem zGm.s98 {W W' : zWd} (h : zGm W) (o : zOffw 98 W W') (e : W' 98 0 = W 98 0) : zGm W' := ⟨e.trans h.1, by rw [o 103 (by omega)]; exact h.2⟩
theorem zGm.s103 {W W' : zWd} (h : zGm W) (o : zOffw 103 W W') (e : W' 103 0 = W 103 0) : zGm W' := ⟨by rw [o 98 (by omega)]; exact h.1, e.trans h.2⟩
theorem zCR.g {W W' : zWd} {c : Nat} {a : Int → Int} (h : zCR W c a) (hc : zCt c) (o : zOffg W W') : zCR W' c a := CR_off h (fun k g1 g2 => o k (by have := hc.lt; omega))
theorem z_i01 {P : Prop} [Decidable P] (h : (if P then (0 : Int) else 1) = 0) : P := by
  by_cases q : P
  · exact q
  · rw [if_neg q] at h; omega
theorem z_i01n {P : Prop} [Decidable P] (h : (if P then (0 : Int) else 1) ≠ 0) : ¬ P := fun q => by rw [if_pos q] at h; exact h rfl
theorem z_i10 {P : Prop} [Decidable P] (h : (if P then (1 : Int) else 0) = 0) : ¬ P := fun q => by rw [if_pos q] at h; omega
theorem z_i10n {P : Prop} [Decidable P] (h : (if P then (1 : Int) else 0) ≠ 0) : P := by
  by_cases q : P
  · exact q
  · rw [if_neg q] at h; exact absurd rfl h
def aRc (a : Int → Int) (q : Int) : Nat := (aP a q 0).toNat
def aHopF (a : Int → Int) (q : Int) : Int := if aP a q 2 = 0 then -1 else if aCost a q (aP a q 2) (aRc a q) 0 = -1 then 4 else if aCost a q (aP a q 2) (aRc a q) 1 = -1 then 5 else 0
theorem aCost_0 {a : Int → Int} {q bk : Int} {rc : Nat} : aCost a q 0 rc bk = -1 := if_pos (by omega)
theorem dX1_ownWay_0 : decode cX1_ownWay 0 = .ok (.iload_n 3, 1) := by decide +kernel
theorem dX1_ownWay_1 : decode cX1_ownWay 1 = .ok (.ifCond .eq 10, 3) := by decide +kernel
theorem dX1_ownWay_4 : decode cX1_ownWay 4 = .ok (.aload_n 0, 1) := by decide +kernel
theorem dX1_ownWay_5 : decode cX1_ownWay 5 = .ok (.getfield 20, 3) := by decide +kernel
theorem dX1_ownWay_8 : decode cX1_ownWay 8 = .ok (.goto 7, 3) := by decide +kernel
theorem dX1_ownWay_11 : decode cX1_ownWay 11 = .ok (.aload_n 0, 1) := by decide +kernel
theorem dX1_ownWay_12 : decode cX1_ownWay 12 = .ok (.getfield 14, 3) := by decide +kernel
theorem dX1_ownWay_15 : decode cX1_ownWay 15 = .ok (.astore 4, 2) := by decide +kernel
theorem dX1_ownWay_17 : decode cX1_ownWay 17 = .ok (.aload 4, 2) := by decide +kernel
theorem dX1_ownWay_19 : decode cX1_ownWay 19 = .ok (.aload_n 1, 1) := by decide +kernel
theorem dX1_ownWay_20 : decode cX1_ownWay 20 = .ok (.iload_n 2, 1) := by decide +kernel
theorem dX1_ownWay_21 : decode cX1_ownWay 21 = .ok (.aload_n 1, 1) := by decide +kernel
theorem dX1_ownWay_22 : decode cX1_ownWay 22 = .ok (.iload_n 2, 1) := by decide +kernel
theorem dX1_ownWay_23 : decode cX1_ownWay 23 = .ok (.iconst 2, 1) := by decide +kernel
theorem dX1_ownWay_24 : decode cX1_ownWay 24 = .ok (.invokevirtual 23, 3) := by decide +kernel
theorem dX1_ownWay_27 : decode cX1_ownWay 27 = .ok (.aload_n 1, 1) := by decide +kernel
theorem dX1_ownWay_28 : decode cX1_ownWay 28 = .ok (.iload_n 2, 1) := by decide +kernel
theorem dX1_ownWay_29 : decode cX1_ownWay 29 = .ok (.iconst 0, 1) := by decide +kernel
theorem dX1_ownWay_30 : decode cX1_ownWay 30 = .ok (.invokevirtual 23, 3) := by decide +kernel
theorem dX1_ownWay_33 : decode cX1_ownWay 33 = .ok (.invokevirtual 29, 3) := by decide +kernel
theorem dX1_ownWay_36 : decode cX1_ownWay 36 = .ok (.pop, 1) := by decide +kernel
theorem dX1_ownWay_37 : decode cX1_ownWay 37 = .ok (.aload 4, 2) := by decide +kernel
theorem dX1_ownWay_39 : decode cX1_ownWay 39 = .ok (.areturn, 1) := by decide +kernel
theorem eX1_ownWay {c : Nat} {W : zWd} {a : Int → Int} {T q : Int} {b : Int} {w : Nat} {Q : Option Value → zWd → Prop} {X : zX} (hc : zCt c) (hR : zCR W c a) (hw : zWf T a) (hg : zGm W) (hq0 : 0 ≤ q) (hq1 : q < a 2) (hbw : (b = 0 ∧ w = 98) ∨ (b = 1 ∧ w = 103)) (hq : ∀ W' : zWd, zOffg W W' → zGm W' → zLaid W' w a q (aP a q 2) (aRc a q) b → Q (some (.ref w)) W') : Ev MX1_ownWay 4 0 W [.ref 97, .ref c, zI q, zI b] Q X := by
  refine ev_of (ls := [.ref 97, .ref c, zI q, zI b, .null]) (by decide) rfl (fun _ => rfl) (fun _ => Nat.le_of_ble_eq_true rfl) (Or.inl rfl) ?_
  obtain ⟨r0, r1, r2, r3, r4, r5, r6, r7, rF, rS, rP, rB⟩ := id hR
  obtain ⟨w0, w0', wW, w1, w2, w2', w3, w3', w4, w4', w5, w5', w6, w6', w7, w7', wS, wP, wT⟩ := id hw
  have wq := zWf.sq hw
  have hm := rP q hq0 hq1
  have hm2 := wP q hq0 hq1
  unfold zWfP at hm2
  have hrc : aP a q 0 = ((aRc a q : Nat) : Int) := by unfold aRc; omega
  rcases hbw with ⟨rfl, rfl⟩ | ⟨rfl, rfl⟩
  · refine rr_iload_n (pc := 0) dX1_ownWay_0 rfl ?_
    refine rr_if_eq (pc := 1) (tgt := 11) dX1_ownWay_1 (by decide) (by unfold zR; omega) (fun h1 => ?_) (fun h1 => ?_)
    · refine rr_aload_n (pc := 11) dX1_ownWay_11 rfl ?_
      refine rr_getR (pc := 12) dX1_ownWay_12 fX1_14 zk_97 zr_97_0 ?_
      refine rr_astore (pc := 15) dX1_ownWay_15 (by decide) ?_
      refine rr_aload (pc := 17) dX1_ownWay_17 rfl ?_
      refine rr_aload_n (pc := 19) dX1_ownWay_19 rfl ?_
      refine rr_iload_n (pc := 20) dX1_ownWay_20 rfl ?_
      refine rr_aload_n (pc := 21) dX1_ownWay_21 rfl ?_
      refine rr_iload_n (pc := 22) dX1_ownWay_22 rfl ?_
      refine rr_iconst (n := 2) dX1_ownWay_23 ?_
      refine rr_invN (M' := MX0_get) (k := c) (As := [_, _]) (pc := 24) dX1_ownWay_24 lX1_23 kX0_get vX0_get hc.k (by decide) rfl (by decide) (by decide) (Nat.le_of_ble_eq_true rfl) rfl (eX0_get hc (by omega) (by omega) (by omega) (by omega) ?_)
      rw [hm.2.2.1]
      refine rr_aload_n (pc := 27) dX1_ownWay_27 rfl ?_
      refine rr_iload_n (pc := 28) dX1_ownWay_28 rfl ?_
      refine rr_iconst (n := 0) dX1_ownWay_29 ?_
      refine rr_invN (M' := MX0_get) (k := c) (As := [_, _]) (pc := 30) dX1_ownWay_30 lX1_23 kX0_get vX0_get hc.k (by decide) rfl (by decide) (by decide) (Nat.le_of_ble_eq_true rfl) rfl (eX0_get hc (by omega) (by omega) (by omega) (by omega) ?_)
      rw [hm.1, hrc]
      refine rr_invN (M' := MX4_seek) (k := 98) (As := [_, _, _, _]) (pc := 33) dX1_ownWay_33 lX1_29 kX4_seek vX4_seek zk_98 (by decide) rfl (by decide) (by decide) (Nat.le_of_ble_eq_true rfl) rfl (eX4_seek (rc := aRc a q) (Or.inl rfl) hc (hR) hw (by rw [(hg).1]; unfold zR; omega) hq0 hq1 (by unfold zR; omega) (by omega) (by omega) (fun W1 o1 z1 l1 => ?_))
      rw [hg.1] at l1
      refine rr_pop_i (pc := 36) dX1_ownWay_36 ?_
      refine rr_aload (pc := 37) dX1_ownWay_37 rfl ?_
      exact rr_reta (pc := 39) dX1_ownWay_39 rfl rfl (hq W1 o1.g98 (hg.s98 o1 z1) l1)
    · omega
  · refine rr_iload_n (pc := 0) dX1_ownWay_0 rfl ?_
    refine rr_if_eq (pc := 1) (tgt := 11) dX1_ownWay_1 (by decide) (by unfold zR; omega) (fun h1 => ?_) (fun h1 => ?_)
    · omega
    · refine rr_aload_n (pc := 4) dX1_ownWay_4 rfl ?_
      refine rr_getR (pc := 5) dX1_ownWay_5 fX1_20 zk_97 zr_97_1 ?_
      refine rr_goto (pc := 8) (tgt := 15) dX1_ownWay_8 (by decide) ?_
      refine rr_astore (pc := 15) dX1_ownWay_15 (by decide) ?_
      refine rr_aload (pc := 17) dX1_ownWay_17 rfl ?_
      refine rr_aload_n (pc := 19) dX1_ownWay_19 rfl ?_
      refine rr_iload_n (pc := 20) dX1_ownWay_20 rfl ?_
      refine rr_aload_n (pc := 21) dX1_ownWay_21 rfl ?_
      refine rr_iload_n (pc := 22) dX1_ownWay_22 rfl ?_
      refine rr_iconst (n := 2) dX1_ownWay_23 ?_
      refine rr_invN (M' := MX0_get) (k := c) (As := [_, _]) (pc := 24) dX1_ownWay_24 lX1_23 kX0_get vX0_get hc.k (by decide) rfl (by decide) (by decide) (Nat.le_of_ble_eq_true rfl) rfl (eX0_get hc (by omega) (by omega) (by omega) (by omega) ?_)
      rw [hm.2.2.1]
      refine rr_aload_n (pc := 27) dX1_ownWay_27 rfl ?_
      refine rr_iload_n (pc := 28) dX1_ownWay_28 rfl ?_
      refine rr_iconst (n := 0) dX1_ownWay_29 ?_
      refine rr_invN (M' := MX0_get) (k := c) (As := [_, _]) (pc := 30) dX1_ownWay_30 lX1_23 kX0_get vX0_get hc.k (by decide) rfl (by decide) (by decide) (Nat.le_of_ble_eq_true rfl) rfl (eX0_get hc (by omega) (by omega) (by omega) (by omega) ?_)
      rw [hm.1, hrc]
      refine rr_invN (M' := MX4_seek) (k := 103) (As := [_, _, _, _]) (pc := 33) dX1_ownWay_33 lX1_29 kX4_seek vX4_seek zk_103 (by decide) rfl (by decide) (by decide) (Nat.le_of_ble_eq_true rfl) rfl (eX4_seek (rc := aRc a q) (Or.inr rfl) hc (hR) hw (by rw [(hg).2]; unfold zR; omega) hq0 hq1 (by unfold zR; omega) (by omega) (by omega) (fun W2 o2 z2 l2 => ?_))
      rw [hg.2] at l2
      refine rr_pop_i (pc := 36) dX1_ownWay_36 ?_
      refine rr_aload (pc := 37) dX1_ownWay_37 rfl ?_
      exact rr_reta (pc := 39) dX1_ownWay_39 rfl rfl (hq W2 o2.g103 (hg.s103 o2 z2) l2)
theorem dX1_hasBothWays_0 : decode cX1_hasBothWays 0 = .ok (.aload_n 0, 1) := by decide +kernel
theorem dX1_hasBothWays_1 : decode cX1_hasBothWays 1 = .ok (.getfield 14, 3) := by decide +kernel
theorem dX1_hasBothWays_4 : decode cX1_hasBothWays 4 = .ok (.aload_n 1, 1) := by decide +kernel
theorem dX1_hasBothWays_5 : decode cX1_hasBothWays 5 = .ok (.iload_n 2, 1) := by decide +kernel
theorem dX1_hasBothWays_6 : decode cX1_hasBothWays 6 = .ok (.iload_n 3, 1) := by decide +kernel
theorem dX1_hasBothWays_7 : decode cX1_hasBothWays 7 = .ok (.iload 4, 2) := by decide +kernel
theorem dX1_hasBothWays_9 : decode cX1_hasBothWays 9 = .ok (.invokevirtual 29, 3) := by decide +kernel
theorem dX1_hasBothWays_12 : decode cX1_hasBothWays 12 = .ok (.ifCond .eq 22, 3) := by decide +kernel
theorem dX1_hasBothWays_15 : decode cX1_hasBothWays 15 = .ok (.aload_n 0, 1) := by decide +kernel
theorem dX1_hasBothWays_16 : decode cX1_hasBothWays 16 = .ok (.getfield 20, 3) := by decide +kernel
theorem dX1_hasBothWays_19 : decode cX1_hasBothWays 19 = .ok (.aload_n 1, 1) := by decide +kernel
theorem dX1_hasBothWays_20 : decode cX1_hasBothWays 20 = .ok (.iload_n 2, 1) := by decide +kernel
theorem dX1_hasBothWays_21 : decode cX1_hasBothWays 21 = .ok (.iload_n 3, 1) := by decide +kernel
theorem dX1_hasBothWays_22 : decode cX1_hasBothWays 22 = .ok (.iload 4, 2) := by decide +kernel
theorem dX1_hasBothWays_24 : decode cX1_hasBothWays 24 = .ok (.invokevirtual 29, 3) := by decide +kernel
theorem dX1_hasBothWays_27 : decode cX1_hasBothWays 27 = .ok (.ifCond .eq 7, 3) := by decide +kernel
theorem dX1_hasBothWays_30 : decode cX1_hasBothWays 30 = .ok (.iconst 1, 1) := by decide +kernel
theorem dX1_hasBothWays_31 : decode cX1_hasBothWays 31 = .ok (.goto 4, 3) := by decide +kernel
theorem dX1_hasBothWays_34 : decode cX1_hasBothWays 34 = .ok (.iconst 0, 1) := by decide +kernel
theorem dX1_hasBothWays_35 : decode cX1_hasBothWays 35 = .ok (.ireturn, 1) := by decide +kernel
theorem eX1_hasBothWays {c : Nat} {W : zWd} {a : Int → Int} {T q : Int} {tg : Int} {rc : Nat} {Q : Option Value → zWd → Prop} {X : zX} (hc : zCt c) (hR : zCR W c a) (hw : zWf T a) (hg : zGm W) (hq0 : 0 ≤ q) (hq1 : q < a 2) (htz : zR tg) (hr1 : 1 ≤ rc) (hr4 : rc ≤ 4) (hq : ∀ W' : zWd, zOffg W W' → zGm W' → Q (some (zI (if aCost a q tg rc 0 = -1 ∨ aCost a q tg rc 1 = -1 then 0 else 1))) W') : Ev MX1_hasBothWays 4 0 W [.ref 97, .ref c, zI q, zI tg, zI (rc : Int)] Q X := by
  refine ev_of (ls := [.ref 97, .ref c, zI q, zI tg, zI (rc : Int)]) (by decide) rfl (fun _ => rfl) (fun _ => Nat.le_of_ble_eq_true rfl) (Or.inl rfl) ?_
  obtain ⟨r0, r1, r2, r3, r4, r5, r6, r7, rF, rS, rP, rB⟩ := id hR
  obtain ⟨w0, w0', wW, w1, w2, w2', w3, w3', w4, w4', w5, w5', w6, w6', w7, w7', wS, wP, wT⟩ := id hw
  have wq := zWf.sq hw
  refine rr_aload_n (pc := 0) dX1_hasBothWays_0 rfl ?_
  refine rr_getR (pc := 1) dX1_hasBothWays_1 fX1_14 zk_97 zr_97_0 ?_
  refine rr_aload_n (pc := 4) dX1_hasBothWays_4 rfl ?_
  refine rr_iload_n (pc := 5) dX1_hasBothWays_5 rfl ?_
  refine rr_iload_n (pc := 6) dX1_hasBothWays_6 rfl ?_
  refine rr_iload (pc := 7) dX1_hasBothWays_7 rfl ?_
  refine rr_invN (M' := MX4_seek) (k := 98) (As := [_, _, _, _]) (pc := 9) dX1_hasBothWays_9 lX1_29 kX4_seek vX4_seek zk_98 (by decide) rfl (by decide) (by decide) (Nat.le_of_ble_eq_true rfl) rfl (eX4_seek (rc := rc) (Or.inl rfl) hc (hR) hw (by rw [(hg).1]; unfold zR; omega) hq0 hq1 htz hr1 hr4 (fun W1 o1 z1 l1 => ?_))
  rw [hg.1]
  have hg1 := hg.s98 o1 z1
  refine rr_if_eq (pc := 12) (tgt := 34) dX1_hasBothWays_12 (by decide) (by split <;> (unfold zR; omega)) (fun h12 => ?_) (fun h12 => ?_)
  · refine rr_iconst (n := 0) dX1_hasBothWays_34 ?_
    exact rr_reti (pc := 35) dX1_hasBothWays_35 rfl rfl (if_pos (Or.inl (z_i01 h12))).symm rfl (hq W1 o1.g98 hg1)
  · refine rr_aload_n (pc := 15) dX1_hasBothWays_15 rfl ?_
    refine rr_getR (pc := 16) dX1_hasBothWays_16 fX1_20 zk_97 zr_97_1 ?_
    refine rr_aload_n (pc := 19) dX1_hasBothWays_19 rfl ?_
    refine rr_iload_n (pc := 20) dX1_hasBothWays_20 rfl ?_
    refine rr_iload_n (pc := 21) dX1_hasBothWays_21 rfl ?_
    refine rr_iload (pc := 22) dX1_hasBothWays_22 rfl ?_
    refine rr_invN (M' := MX4_seek) (k := 103) (As := [_, _, _, _]) (pc := 24) dX1_hasBothWays_24 lX1_29 kX4_seek vX4_seek zk_103 (by decide) rfl (by decide) (by decide) (Nat.le_of_ble_eq_true rfl) rfl (eX4_seek (rc := rc) (Or.inr rfl) hc (hR.g hc o1.g98) hw (by rw [(hg1).2]; unfold zR; omega) hq0 hq1 htz hr1 hr4 (fun W2 o2 z2 l2 => ?_))
    rw [hg1.2]
    have hg2 := hg1.s103 o2 z2
    refine rr_if_eq (pc := 27) (tgt := 34) dX1_hasBothWays_27 (by decide) (by split <;> (unfold zR; omega)) (fun h27 => ?_) (fun h27 => ?_)
    · refine rr_iconst (n := 0) dX1_hasBothWays_34 ?_
      exact rr_reti (pc := 35) dX1_hasBothWays_35 rfl rfl (if_pos (Or.inr (z_i01 h27))).symm rfl (hq W2 (o1.g98.tr o2.g103) hg2)
    · refine rr_iconst (n := 1) dX1_hasBothWays_30 ?_
      refine rr_goto (pc := 31) (tgt := 35) dX1_hasBothWays_31 (by decide) ?_
      exact rr_reti (pc := 35) dX1_hasBothWays_35 rfl rfl (if_neg (fun z => z.elim (z_i01n h12) (z_i01n h27))).symm rfl (hq W2 (o1.g98.tr o2.g103) hg2)
theorem dX1_faultOfHops_0 : decode cX1_faultOfHops 0 = .ok (.aload_n 1, 1) := by decide +kernel
theorem dX1_faultOfHops_1 : decode cX1_faultOfHops 1 = .ok (.iload_n 2, 1) := by decide +kernel
theorem dX1_faultOfHops_2 : decode cX1_faultOfHops 2 = .ok (.iconst 2, 1) := by decide +kernel
theorem dX1_faultOfHops_3 : decode cX1_faultOfHops 3 = .ok (.invokevirtual 23, 3) := by decide +kernel
theorem dX1_faultOfHops_6 : decode cX1_faultOfHops 6 = .ok (.istore_n 3, 1) := by decide +kernel
theorem dX1_faultOfHops_7 : decode cX1_faultOfHops 7 = .ok (.aload_n 1, 1) := by decide +kernel
theorem dX1_faultOfHops_8 : decode cX1_faultOfHops 8 = .ok (.iload_n 2, 1) := by decide +kernel
theorem dX1_faultOfHops_9 : decode cX1_faultOfHops 9 = .ok (.iconst 0, 1) := by decide +kernel
theorem dX1_faultOfHops_10 : decode cX1_faultOfHops 10 = .ok (.invokevirtual 23, 3) := by decide +kernel
theorem dX1_faultOfHops_13 : decode cX1_faultOfHops 13 = .ok (.istore 4, 2) := by decide +kernel
theorem dX1_faultOfHops_15 : decode cX1_faultOfHops 15 = .ok (.iload_n 3, 1) := by decide +kernel
theorem dX1_faultOfHops_16 : decode cX1_faultOfHops 16 = .ok (.ifCond .ne 5, 3) := by decide +kernel
theorem dX1_faultOfHops_19 : decode cX1_faultOfHops 19 = .ok (.iconst (-1), 1) := by decide +kernel
theorem dX1_faultOfHops_20 : decode cX1_faultOfHops 20 = .ok (.ireturn, 1) := by decide +kernel
theorem dX1_faultOfHops_21 : decode cX1_faultOfHops 21 = .ok (.aload_n 0, 1) := by decide +kernel
theorem dX1_faultOfHops_22 : decode cX1_faultOfHops 22 = .ok (.getfield 14, 3) := by decide +kernel
theorem dX1_faultOfHops_25 : decode cX1_faultOfHops 25 = .ok (.aload_n 1, 1) := by decide +kernel
theorem dX1_faultOfHops_26 : decode cX1_faultOfHops 26 = .ok (.iload_n 2, 1) := by decide +kernel
theorem dX1_faultOfHops_27 : decode cX1_faultOfHops 27 = .ok (.iload_n 3, 1) := by decide +kernel
theorem dX1_faultOfHops_28 : decode cX1_faultOfHops 28 = .ok (.iload 4, 2) := by decide +kernel
theorem dX1_faultOfHops_30 : decode cX1_faultOfHops 30 = .ok (.invokevirtual 29, 3) := by decide +kernel
theorem dX1_faultOfHops_33 : decode cX1_faultOfHops 33 = .ok (.ifCond .ne 5, 3) := by decide +kernel
theorem dX1_faultOfHops_36 : decode cX1_faultOfHops 36 = .ok (.iconst 4, 1) := by decide +kernel
theorem dX1_faultOfHops_37 : decode cX1_faultOfHops 37 = .ok (.ireturn, 1) := by decide +kernel
theorem dX1_faultOfHops_38 : decode cX1_faultOfHops 38 = .ok (.aload_n 0, 1) := by decide +kernel
theorem dX1_faultOfHops_39 : decode cX1_faultOfHops 39 = .ok (.getfield 20, 3) := by decide +kernel
theorem dX1_faultOfHops_42 : decode cX1_faultOfHops 42 = .ok (.aload_n 1, 1) := by decide +kernel
theorem dX1_faultOfHops_43 : decode cX1_faultOfHops 43 = .ok (.iload_n 2, 1) := by decide +kernel
theorem dX1_faultOfHops_44 : decode cX1_faultOfHops 44 = .ok (.iload_n 3, 1) := by decide +kernel
theorem dX1_faultOfHops_45 : decode cX1_faultOfHops 45 = .ok (.iload 4, 2) := by decide +kernel
theorem dX1_faultOfHops_47 : decode cX1_faultOfHops 47 = .ok (.invokevirtual 29, 3) := by decide +kernel
theorem dX1_faultOfHops_50 : decode cX1_faultOfHops 50 = .ok (.ifCond .eq 7, 3) := by decide +kernel
theorem dX1_faultOfHops_53 : decode cX1_faultOfHops 53 = .ok (.iconst 0, 1) := by decide +kernel
theorem dX1_faultOfHops_54 : decode cX1_faultOfHops 54 = .ok (.goto 4, 3) := by decide +kernel
theorem dX1_faultOfHops_57 : decode cX1_faultOfHops 57 = .ok (.iconst 5, 1) := by decide +kernel
theorem dX1_faultOfHops_58 : decode cX1_faultOfHops 58 = .ok (.ireturn, 1) := by decide +kernel
theorem eX1_faultOfHops {c : Nat} {W : zWd} {a : Int → Int} {T q : Int}  {Q : Option Value → zWd → Prop} {X : zX} (hc : zCt c) (hR : zCR W c a) (hw : zWf T a) (hg : zGm W) (hq0 : 0 ≤ q) (hq1 : q < a 2) (hq : ∀ W' : zWd, zOffg W W' → zGm W' → (aHopF a q = 0 → zLaid W' 98 a q (aP a q 2) (aRc a q) 0 ∧ zLaid W' 103 a q (aP a q 2) (aRc a q) 1) → Q (some (zI (aHopF a q))) W') : Ev MX1_faultOfHops 4 0 W [.ref 97, .ref c, zI q] Q X := by
  refine ev_of (ls := [.ref 97, .ref c, zI q, .null, .null]) (by decide) rfl (fun _ => rfl) (fun _ => Nat.le_of_ble_eq_true rfl) (Or.inl rfl) ?_
  obtain ⟨r0, r1, r2, r3, r4, r5, r6, r7, rF, rS, rP, rB⟩ := id hR
  obtain ⟨w0, w0', wW, w1, w2, w2', w3, w3', w4, w4', w5, w5', w6, w6', w7, w7', wS, wP, wT⟩ := id hw
  have wq := zWf.sq hw
  have hm := rP q hq0 hq1
  have hm2 := wP q hq0 hq1
  unfold zWfP at hm2
  have hrc : aP a q 0 = ((aRc a q : Nat) : Int) := by unfold aRc; omega
  refine rr_aload_n (pc := 0) dX1_faultOfHops_0 rfl ?_
  refine rr_iload_n (pc := 1) dX1_faultOfHops_1 rfl ?_
  refine rr_iconst (n := 2) dX1_faultOfHops_2 ?_
  refine rr_invN (M' := MX0_get) (k := c) (As := [_, _]) (pc := 3) dX1_faultOfHops_3 lX1_23 kX0_get vX0_get hc.k (by decide) rfl (by decide) (by decide) (Nat.le_of_ble_eq_true rfl) rfl (eX0_get hc (by omega) (by omega) (by omega) (by omega) ?_)
  rw [hm.2.2.1]
  refine rr_istore_n (pc := 6) dX1_faultOfHops_6 (by decide) ?_
  refine rr_aload_n (pc := 7) dX1_faultOfHops_7 rfl ?_
  refine rr_iload_n (pc := 8) dX1_faultOfHops_8 rfl ?_
  refine rr_iconst (n := 0) dX1_faultOfHops_9 ?_
  refine rr_invN (M' := MX0_get) (k := c) (As := [_, _]) (pc := 10) dX1_faultOfHops_10 lX1_23 kX0_get vX0_get hc.k (by decide) rfl (by decide) (by decide) (Nat.le_of_ble_eq_true rfl) rfl (eX0_get hc (by omega) (by omega) (by omega) (by omega) ?_)
  rw [hm.1, hrc]
  refine rr_istore (pc := 13) dX1_faultOfHops_13 (by decide) ?_
  refine rr_iload_n (pc := 15) dX1_faultOfHops_15 rfl ?_
  refine rr_if_ne (pc := 16) (tgt := 21) dX1_faultOfHops_16 (by decide) (by unfold zR; omega) (fun h16 => ?_) (fun h16 => ?_)
  · refine rr_aload_n (pc := 21) dX1_faultOfHops_21 rfl ?_
    refine rr_getR (pc := 22) dX1_faultOfHops_22 fX1_14 zk_97 zr_97_0 ?_
    refine rr_aload_n (pc := 25) dX1_faultOfHops_25 rfl ?_
    refine rr_iload_n (pc := 26) dX1_faultOfHops_26 rfl ?_
    refine rr_iload_n (pc := 27) dX1_faultOfHops_27 rfl ?_
    refine rr_iload (pc := 28) dX1_faultOfHops_28 rfl ?_
    refine rr_invN (M' := MX4_seek) (k := 98) (As := [_, _, _, _]) (pc := 30) dX1_faultOfHops_30 lX1_29 kX4_seek vX4_seek zk_98 (by decide) rfl (by decide) (by decide) (Nat.le_of_ble_eq_true rfl) rfl (eX4_seek (rc := aRc a q) (Or.inl rfl) hc (hR) hw (by rw [(hg).1]; unfold zR; omega) hq0 hq1 (by unfold zR; omega) (by omega) (by omega) (fun W1 o1 z1 l1 => ?_))
    rw [hg.1] at l1 ⊢
    have hg1 := hg.s98 o1 z1
    refine rr_if_ne (pc := 33) (tgt := 38) dX1_faultOfHops_33 (by decide) (by split <;> (unfold zR; omega)) (fun h33 => ?_) (fun h33 => ?_)
    · refine rr_aload_n (pc := 38) dX1_faultOfHops_38 rfl ?_
      refine rr_getR (pc := 39) dX1_faultOfHops_39 fX1_20 zk_97 zr_97_1 ?_
      refine rr_aload_n (pc := 42) dX1_faultOfHops_42 rfl ?_
      refine rr_iload_n (pc := 43) dX1_faultOfHops_43 rfl ?_
      refine rr_iload_n (pc := 44) dX1_faultOfHops_44 rfl ?_
      refine rr_iload (pc := 45) dX1_faultOfHops_45 rfl ?_
      refine rr_invN (M' := MX4_seek) (k := 103) (As := [_, _, _, _]) (pc := 47) dX1_faultOfHops_47 lX1_29 kX4_seek vX4_seek zk_103 (by decide) rfl (by decide) (by decide) (Nat.le_of_ble_eq_true rfl) rfl (eX4_seek (rc := aRc a q) (Or.inr rfl) hc (hR.g hc o1.g98) hw (by rw [(hg1).2]; unfold zR; omega) hq0 hq1 (by unfold zR; omega) (by omega) (by omega) (fun W2 o2 z2 l2 => ?_))
      rw [hg1.2] at l2 ⊢
      have hg2 := hg1.s103 o2 z2
      refine rr_if_eq (pc := 50) (tgt := 57) dX1_faultOfHops_50 (by decide) (by split <;> (unfold zR; omega)) (fun h50 => ?_) (fun h50 => ?_)
      · refine rr_iconst (n := 5) dX1_faultOfHops_57 ?_
        have e8 : ¬ aCost a q (aP a q 2) (aRc a q) 0 = -1 := z_i01n h33
        have e9 : aHopF a q = 5 := by unfold aHopF; rw [if_neg (by omega), if_neg e8, if_pos (z_i01 h50)]
        exact rr_reti (pc := 58) dX1_faultOfHops_58 rfl rfl e9.symm rfl (hq W2 (o1.g98.tr o2.g103) hg2 (fun z => by omega))
      · refine rr_iconst (n := 0) dX1_faultOfHops_53 ?_
        refine rr_goto (pc := 54) (tgt := 58) dX1_faultOfHops_54 (by decide) ?_
        have e8 : ¬ aCost a q (aP a q 2) (aRc a q) 0 = -1 := z_i01n h33
        have e9 : aHopF a q = 0 := by unfold aHopF; rw [if_neg (by omega), if_neg e8, if_neg (z_i01n h50)]
        exact rr_reti (pc := 58) dX1_faultOfHops_58 rfl rfl e9.symm rfl (hq W2 (o1.g98.tr o2.g103) hg2 (fun _ => ⟨l1.cg (o2 98 (by omega)) (o2 99 (by omega)), l2⟩))
    · refine rr_iconst (n := 4) dX1_faultOfHops_36 ?_
      have e9 : aHopF a q = 4 := by unfold aHopF; rw [if_neg (by omega), if_pos (z_i01 h33)]
      exact rr_reti (pc := 37) dX1_faultOfHops_37 rfl rfl e9.symm rfl (hq W1 o1.g98 hg1 (fun z => by omega))
  · refine rr_iconst (n := (-1)) dX1_faultOfHops_19 ?_
    have e9 : aHopF a q = -1 := by unfold aHopF; rw [if_pos (by omega)]
    exact rr_reti (pc := 20) dX1_faultOfHops_20 rfl rfl e9.symm rfl (hq W zOffg.rf hg (fun z => by omega))
