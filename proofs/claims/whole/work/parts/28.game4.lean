/-- what a turn on the court c may change -/
def zOffp (c : Nat) (W W' : zWd) : Prop := ∀ k : Nat, (k < c ∨ c + 8 ≤ k) → (k < 98 ∨ 108 ≤ k) → W' k = W k
theorem zOffp.rf {c : Nat} {W : zWd} : zOffp c W W := fun _ _ _ => rfl
theorem zOffp.tr {c : Nat} {W W' W'' : zWd} (h : zOffp c W W') (h2 : zOffp c W' W'') : zOffp c W W'' := fun k g1 g2 => (h2 k g1 g2).trans (h k g1 g2)
theorem zOff.p {c : Nat} {W W' : zWd} (h : zOff c W W') : zOffp c W W' := fun k g1 _ => h k g1
theorem zOffg.p {c : Nat} {W W' : zWd} (h : zOffg W W') : zOffp c W W' := fun k _ g2 => h k g2
theorem zGm.c {c : Nat} {W W' : zWd} (h : zGm W) (hc : zCt c) (o : zOff c W W') : zGm W' := by
  have := hc.lt
  exact ⟨by rw [o 98 (by omega)]; exact h.1, by rw [o 103 (by omega)]; exact h.2⟩
theorem aHopF_rng {a : Int → Int} {q : Int} (h : aP a q 2 ≠ 0) : aHopF a q = 0 ∨ aHopF a q = 4 ∨ aHopF a q = 5 := by
  unfold aHopF
  rw [if_neg h]
  split
  · omega
  · split <;> omega
theorem aFault_rng {a : Int → Int} {q pw sd : Int} : 0 ≤ aFault a q pw sd ∧ aFault a q pw sd ≤ 3 := by
  unfold aFault; (repeat' split) <;> omega
theorem aFault_tg {T : Int} {a : Int → Int} {q pw sd : Int} (hw : zWf T a) (hs : 0 ≤ sd) (h : aFault a q pw sd = 0) : 1 ≤ aP a q 2 := by
  unfold aFault at h
  by_cases h1 : pw + a 3 < 0 ∨ a 0 ≤ (pw + a 3) / 10
  · rw [if_pos h1] at h; omega
  · rw [if_neg h1] at h
    by_cases h2 : (pw + a 3) % 10 = 0
    · rw [if_pos h2] at h; omega
    · rw [if_neg h2] at h
      by_cases h3 : aF a ((pw + a 3) / 10).toNat + (if a (8 + (pw + a 3) / 10) = 2 then sd else 0) = aP a q 2
      · have h4 := aF_lo hw (r := ((pw + a 3) / 10).toNat) (by omega)
        have : 0 ≤ (if a (8 + (pw + a 3) / 10) = 2 then sd else 0) := by split <;> omega
        omega
      · rw [if_neg h3] at h; omega
theorem aTfault_rng {T : Int} {a : Int → Int} {pw sd : Int} (hw : zWf T a) (hs : 0 ≤ sd) : 0 ≤ aTfault a pw sd ∧ aTfault a pw sd ≤ 5 := by
  unfold aTfault
  have h3 := aFault_rng (a := a) (q := a 4) (pw := pw) (sd := sd)
  split
  · have h4 := aHopF_rng (a := a) (q := a 4) (by have := aFault_tg hw hs (by assumption); omega)
    omega
  · omega
theorem aP2_own {a : Int → Int} {p v : Int} : aP (iup a (58 + 17 * p + 5) v) p 2 = aP a p 2 := iup_n (by omega)
theorem aRc_own {a : Int → Int} {p v : Int} : aRc (iup a (58 + 17 * p + 5) v) p = aRc a p := by unfold aRc; rw [aP_up (by omega)]
theorem aMk_wf {T : Int} {a : Int → Int} {pw sd : Int} (hw : zWf T a) : zWf T (iup a (58 + 17 * a 4 + 5) (if aFault a (a 4) pw sd = 0 then aP a (a 4) 2 else 0)) := by
  have h4 := hw.2.2.2.2.2.2.2.2.1
  have h4' := hw.2.2.2.2.2.2.2.2.2.1
  have hsq := zWf.sq hw
  have hm2 := hw.2.2.2.2.2.2.2.2.2.2.2.2.2.2.2.2.2.1 (a 4) h4 h4'
  unfold zWfP at hm2
  exact WF_P hw h4 (by unfold zWr; split <;> omega)
theorem aFlt_wf {T : Int} {a : Int → Int} {p f : Int} (hw : zWf T a) (hT : T + 1 ≤ 100000000) (h0 : 0 ≤ p) (h1 : p < a 2) : zWf (T + 1) (aFlt a p f) := by
  have hm2 := hw.2.2.2.2.2.2.2.2.2.2.2.2.2.2.2.2.2.1 p h0 h1
  unfold zWfP at hm2
  have hw1 := hw.mono (T' := T + 1) (by omega) hT
  unfold aFlt
  split
  · exact hw1
  · exact WF_P hw1 h0 (by unfold zWr; omega)
theorem aFlt_n {a : Int → Int} {p f j : Int} (h0 : 0 ≤ p) (hj : j < 58) : aFlt a p f j = a j := by
  unfold aFlt; split
  · rfl
  · exact iup_n (by omega)
theorem aEnd_wf {T : Int} {a : Int → Int} {p f : Int} (hw : zWf T a) (hT : T + 1 ≤ 100000000) (h0 : 0 ≤ p) (h1 : p < a 2) (hf0 : 0 ≤ f) (hf5 : f ≤ 5) : zWf (T + 1) (aEnd a p f) := by
  have hm2 := hw.2.2.2.2.2.2.2.2.2.2.2.2.2.2.2.2.2.1 p h0 h1
  unfold zWfP at hm2
  have h5 := hw.2.2.2.2.2.2.2.2.2.2.1
  have h5' := hw.2.2.2.2.2.2.2.2.2.2.2.1
  have hw1 := hw.mono (T' := T + 1) (by omega) hT
  have f1 := WF_P (w := 6) (v := aP a p 6 + 1) (p := p) hw1 h0 (by unfold zWr; omega)
  have f2 := WF_P (w := 8) (v := f) (p := p) f1 h0 (by unfold zWr; omega)
  have f3 := WF_0 (j := 5) (v := a 5 + 1) f2 (Or.inr (Or.inr ⟨Or.inl rfl, by omega, by omega⟩))
  have hmod := Int.emod_nonneg (p + 1) (show a 2 ≠ 0 by omega)
  have hmod2 := Int.emod_lt_of_pos (p + 1) (show 0 < a 2 by omega)
  have e2 : iup (iup (iup a (58 + 17 * p + 6) (aP a p 6 + 1)) (58 + 17 * p + 8) f) 5 (a 5 + 1) 2 = a 2 := by rw [iup_n (by omega), iup_n (by omega), iup_n (by omega)]
  have e5 : iup (iup a (58 + 17 * p + 6) (aP a p 6 + 1)) (58 + 17 * p + 8) f 5 = a 5 := by rw [iup_n (by omega), iup_n (by omega)]
  unfold aEnd
  exact WF_0 f3 (Or.inr (Or.inl ⟨rfl, hmod, by rw [e2]; exact hmod2⟩))
def aTm (a : Int → Int) (pw sd : Int) : Int → Int := iup a (58 + 17 * a 4 + 5) (if aFault a (a 4) pw sd = 0 then aP a (a 4) 2 else 0)
def aTg (a : Int → Int) (pw sd : Int) : Int → Int := if aTfault a pw sd = 0 then aGood (aTm a pw sd) (a 4) else aTm a pw sd
theorem aTurn_eq {a : Int → Int} {pw sd : Int} : aTurn a pw sd = aEnd (aFlt (aTg a pw sd) (a 4) (aTfault a pw sd)) (a 4) (aTfault a pw sd) := rfl
theorem aTg_wf {T : Int} {a : Int → Int} {pw sd : Int} (hw : zWf T a) (hT : T + 26 ≤ 100000000) : zWf (T + 24) (aTg a pw sd) ∧ aTg a pw sd 2 = a 2 ∧ aTg a pw sd 4 = a 4 := by
  have h4 := hw.2.2.2.2.2.2.2.2.1
  have h4' := hw.2.2.2.2.2.2.2.2.2.1
  have f1 : zWf T (aTm a pw sd) := aMk_wf hw
  have e2 : aTm a pw sd 2 = a 2 := iup_n (by omega)
  have e4 : aTm a pw sd 4 = a 4 := iup_n (by omega)
  unfold aTg
  split
  · exact ⟨aGood_wf f1 (by omega) h4 (by rw [e2]; exact h4'), (aGood_n f1 (by omega) h4 (by omega) (by omega) (by omega)).trans e2, (aGood_n f1 (by omega) h4 (by omega) (by omega) (by omega)).trans e4⟩
  · exact ⟨f1.mono (by omega) (by omega), e2, e4⟩
theorem aTurn_wf {T : Int} {a : Int → Int} {pw sd : Int} (hw : zWf T a) (hT : T + 26 ≤ 100000000) (hs : 0 ≤ sd) : zWf (T + 26) (aTurn a pw sd) := by
  have h4 := hw.2.2.2.2.2.2.2.2.1
  have h4' := hw.2.2.2.2.2.2.2.2.2.1
  obtain ⟨f1, e2, e4⟩ := aTg_wf (pw := pw) (sd := sd) hw hT
  have hr := aTfault_rng (pw := pw) (sd := sd) hw hs
  have f2 := aFlt_wf (p := a 4) (f := aTfault a pw sd) f1 (by omega) h4 (by rw [e2]; exact h4')
  rw [aTurn_eq]
  have f3 := aEnd_wf (p := a 4) (f := aTfault a pw sd) f2 (by omega) h4 (by rw [aFlt_n h4 (by omega), e2]; exact h4') hr.1 hr.2
  exact f3.mono (by omega) (by omega)
theorem dX1_playTurn_0 : decode cX1_playTurn 0 = .ok (.aload_n 1, 1) := by decide +kernel
theorem dX1_playTurn_1 : decode cX1_playTurn 1 = .ok (.getfield 51, 3) := by decide +kernel
theorem dX1_playTurn_4 : decode cX1_playTurn 4 = .ok (.istore 4, 2) := by decide +kernel
theorem dX1_playTurn_6 : decode cX1_playTurn 6 = .ok (.aload_n 1, 1) := by decide +kernel
theorem dX1_playTurn_7 : decode cX1_playTurn 7 = .ok (.iload 4, 2) := by decide +kernel
theorem dX1_playTurn_9 : decode cX1_playTurn 9 = .ok (.iload_n 2, 1) := by decide +kernel
theorem dX1_playTurn_10 : decode cX1_playTurn 10 = .ok (.iload_n 3, 1) := by decide +kernel
theorem dX1_playTurn_11 : decode cX1_playTurn 11 = .ok (.invokevirtual 54, 3) := by decide +kernel
theorem dX1_playTurn_14 : decode cX1_playTurn 14 = .ok (.istore 5, 2) := by decide +kernel
theorem dX1_playTurn_16 : decode cX1_playTurn 16 = .ok (.iload 5, 2) := by decide +kernel
theorem dX1_playTurn_18 : decode cX1_playTurn 18 = .ok (.ifCond .eq 14, 3) := by decide +kernel
theorem dX1_playTurn_21 : decode cX1_playTurn 21 = .ok (.aload_n 1, 1) := by decide +kernel
theorem dX1_playTurn_22 : decode cX1_playTurn 22 = .ok (.iload 4, 2) := by decide +kernel
theorem dX1_playTurn_24 : decode cX1_playTurn 24 = .ok (.iconst 5, 1) := by decide +kernel
theorem dX1_playTurn_25 : decode cX1_playTurn 25 = .ok (.iconst (-1), 1) := by decide +kernel
theorem dX1_playTurn_26 : decode cX1_playTurn 26 = .ok (.invokevirtual 58, 3) := by decide +kernel
theorem dX1_playTurn_29 : decode cX1_playTurn 29 = .ok (.goto 26, 3) := by decide +kernel
theorem dX1_playTurn_32 : decode cX1_playTurn 32 = .ok (.aload_n 1, 1) := by decide +kernel
theorem dX1_playTurn_33 : decode cX1_playTurn 33 = .ok (.iload 4, 2) := by decide +kernel
theorem dX1_playTurn_35 : decode cX1_playTurn 35 = .ok (.iconst 5, 1) := by decide +kernel
theorem dX1_playTurn_36 : decode cX1_playTurn 36 = .ok (.aload_n 1, 1) := by decide +kernel
theorem dX1_playTurn_37 : decode cX1_playTurn 37 = .ok (.iload 4, 2) := by decide +kernel
theorem dX1_playTurn_39 : decode cX1_playTurn 39 = .ok (.iconst 2, 1) := by decide +kernel
theorem dX1_playTurn_40 : decode cX1_playTurn 40 = .ok (.invokevirtual 23, 3) := by decide +kernel
theorem dX1_playTurn_43 : decode cX1_playTurn 43 = .ok (.invokevirtual 58, 3) := by decide +kernel
theorem dX1_playTurn_46 : decode cX1_playTurn 46 = .ok (.aload_n 0, 1) := by decide +kernel
theorem dX1_playTurn_47 : decode cX1_playTurn 47 = .ok (.aload_n 1, 1) := by decide +kernel
theorem dX1_playTurn_48 : decode cX1_playTurn 48 = .ok (.iload 4, 2) := by decide +kernel
theorem dX1_playTurn_50 : decode cX1_playTurn 50 = .ok (.invokevirtual 62, 3) := by decide +kernel
theorem dX1_playTurn_53 : decode cX1_playTurn 53 = .ok (.istore 5, 2) := by decide +kernel
theorem dX1_playTurn_55 : decode cX1_playTurn 55 = .ok (.iload 5, 2) := by decide +kernel
theorem dX1_playTurn_57 : decode cX1_playTurn 57 = .ok (.ifCond .ne 10, 3) := by decide +kernel
theorem dX1_playTurn_60 : decode cX1_playTurn 60 = .ok (.aload_n 0, 1) := by decide +kernel
theorem dX1_playTurn_61 : decode cX1_playTurn 61 = .ok (.aload_n 1, 1) := by decide +kernel
theorem dX1_playTurn_62 : decode cX1_playTurn 62 = .ok (.iload 4, 2) := by decide +kernel
theorem dX1_playTurn_64 : decode cX1_playTurn 64 = .ok (.invokevirtual 65, 3) := by decide +kernel
theorem dX1_playTurn_67 : decode cX1_playTurn 67 = .ok (.aload_n 1, 1) := by decide +kernel
theorem dX1_playTurn_68 : decode cX1_playTurn 68 = .ok (.iload 5, 2) := by decide +kernel
theorem dX1_playTurn_70 : decode cX1_playTurn 70 = .ok (.invokevirtual 69, 3) := by decide +kernel
theorem dX1_playTurn_73 : decode cX1_playTurn 73 = .ok (.iload 5, 2) := by decide +kernel
theorem dX1_playTurn_75 : decode cX1_playTurn 75 = .ok (.ireturn, 1) := by decide +kernel
theorem eX1_playTurn {c : Nat} {W : zWd} {a : Int → Int} {T : Int} {pw sd : Int} {Q : Option Value → zWd → Prop} {X : zX} (hc : zCt c) (hR : zCR W c a) (hw : zWf T a) (hg : zGm W) (hT : T + 26 ≤ 100000000) (hp0 : 0 ≤ pw) (hp1 : pw ≤ 199) (hd0 : 0 ≤ sd) (hd1 : sd ≤ 1) (hq : ∀ W' : zWd, zOffp c W W' → zGm W' → zCR W' c (aTurn a pw sd) → Q (some (zI (aTfault a pw sd))) W') : Ev MX1_playTurn 5 0 W [.ref 97, .ref c, zI pw, zI sd] Q X := by
  refine ev_of (ls := [.ref 97, .ref c, zI pw, zI sd, .null, .null]) (by decide) rfl (fun _ => rfl) (fun _ => Nat.le_of_ble_eq_true rfl) (Or.inl rfl) ?_
  obtain ⟨r0, r1, r2, r3, r4, r5, r6, r7, rF, rS, rP, rB⟩ := id hR
  obtain ⟨w0, w0', wW, w1, w2, w2', w3, w3', w4, w4', w5, w5', w6, w6', w7, w7', wS, wP, wT⟩ := id hw
  have wq := zWf.sq hw
  have hm := rP (a 4) w4 w4'
  have hm2 := wP (a 4) w4 w4'
  unfold zWfP at hm2
  refine rr_aload_n (pc := 0) dX1_playTurn_0 rfl ?_
  refine rr_getI (pc := 1) (ji := 4) dX1_playTurn_1 fX1_51 hc.k hc.i4 rfl ?_
  rw [r4]
  refine rr_istore (pc := 4) dX1_playTurn_4 (by decide) ?_
  refine rr_aload_n (pc := 6) dX1_playTurn_6 rfl ?_
  refine rr_iload (pc := 7) dX1_playTurn_7 rfl ?_
  refine rr_iload_n (pc := 9) dX1_playTurn_9 rfl ?_
  refine rr_iload_n (pc := 10) dX1_playTurn_10 rfl ?_
  refine rr_invN (M' := MX0_faultOfThrow) (k := c) (As := [_, _, _]) (pc := 11) dX1_playTurn_11 lX1_54 kX0_faultOfThrow vX0_faultOfThrow hc.k (by decide) rfl (by decide) (by decide) (Nat.le_of_ble_eq_true rfl) rfl (eX0_faultOfThrow hc hR hw w4 w4' hp0 hp1 hd0 hd1 ?_)
  refine rr_istore (pc := 14) dX1_playTurn_14 (by decide) ?_
  refine rr_iload (pc := 16) dX1_playTurn_16 rfl ?_
  refine rr_if_eq (pc := 18) (tgt := 32) dX1_playTurn_18 (by decide) (by have := aFault_rng (a := a) (q := a 4) (pw := pw) (sd := sd); unfold zR; omega) (fun h18 => ?_) (fun h18 => ?_)
  · refine rr_aload_n (pc := 32) dX1_playTurn_32 rfl ?_
    refine rr_iload (pc := 33) dX1_playTurn_33 rfl ?_
    refine rr_iconst (n := 5) dX1_playTurn_35 ?_
    refine rr_aload_n (pc := 36) dX1_playTurn_36 rfl ?_
    refine rr_iload (pc := 37) dX1_playTurn_37 rfl ?_
    refine rr_iconst (n := 2) dX1_playTurn_39 ?_
    refine rr_invN (M' := MX0_get) (k := c) (As := [_, _]) (pc := 40) dX1_playTurn_40 lX1_23 kX0_get vX0_get hc.k (by decide) rfl (by decide) (by decide) (Nat.le_of_ble_eq_true rfl) rfl (eX0_get hc (by omega) (by omega) (by omega) (by omega) ?_)
    rw [hm.2.2.1]
    refine rr_invN (M' := MX0_put) (k := c) (As := [_, _, _]) (pc := 43) dX1_playTurn_43 lX1_58 kX0_put vX0_put hc.k (by decide) rfl (by decide) (by decide) (Nat.le_of_ble_eq_true rfl) rfl (eX0_put hc (by omega) (by omega) (by omega) (by omega) ?_)
    have htg := aFault_tg hw hd0 h18
    have c1 := CR_P (j := 5) (w := 5) (v := aP a (a 4) 2) (v' := aP a (a 4) 2) hR w4 (Or.inr (Or.inl ⟨rfl, rfl, by rw [if_neg (by omega)]⟩))
    have o1 : zOff c W (zup W (c + 5) (a 4 * 10 + 5) (aP a (a 4) 2)) := zOff.rf.up (by omega)
    generalize zup W (c + 5) (a 4 * 10 + 5) (aP a (a 4) 2) = W1 at c1 o1 ⊢
    have f1 := WF_P (w := 5) (v := aP a (a 4) 2) (p := a 4) hw w4 (by unfold zWr; omega)
    have hgm := hg.c hc o1
    have em : aTm a pw sd = iup a (58 + 17 * a 4 + 5) (aP a (a 4) 2) := by unfold aTm; rw [if_pos h18]
    have ef : aTfault a pw sd = aHopF a (a 4) := if_pos h18
    refine rr_aload_n (pc := 46) dX1_playTurn_46 rfl ?_
    refine rr_aload_n (pc := 47) dX1_playTurn_47 rfl ?_
    refine rr_iload (pc := 48) dX1_playTurn_48 rfl ?_
    refine rr_inv0 (M' := MX1_faultOfHops) (k := 97) (As := [_, _]) (pc := 50) dX1_playTurn_50 lX1_62 kX1_faultOfHops vX1_faultOfHops zk_97 (by decide) rfl (by decide) (by decide) (Nat.le_of_ble_eq_true rfl) rfl (eX1_faultOfHops hc c1 f1 hgm w4 (by rw [iup_n (by omega)]; exact w4') (fun W2 o2 g2 l2 => ?_))
    rw [aHopF_own hw w4] at l2 ⊢
    rw [← ef] at l2 ⊢
    rw [← em] at l2 c1 f1
    have c2 := c1.g hc o2
    have hfr := aTfault_rng (pw := pw) (sd := sd) hw hd0
    refine rr_istore (pc := 53) dX1_playTurn_53 (by decide) ?_
    refine rr_iload (pc := 55) dX1_playTurn_55 rfl ?_
    refine rr_if_ne (pc := 57) (tgt := 67) dX1_playTurn_57 (by decide) (by unfold zR; omega) (fun h57 => ?_) (fun h57 => ?_)
    · have c3 := c2
      rw [show aTm a pw sd = aTg a pw sd from (if_neg h57).symm] at c3
      have o3 := o1.p.tr (zOffg.p (c := c) o2)
      have g3 := g2
      generalize W2 = W3 at c3 o3 g3 ⊢
      refine rr_aload_n (pc := 67) dX1_playTurn_67 rfl ?_
      refine rr_iload (pc := 68) dX1_playTurn_68 rfl ?_
      obtain ⟨f3, e3, e4⟩ := aTg_wf (pw := pw) (sd := sd) hw hT
      refine rr_invN (M' := MX0_endTurn) (k := c) (As := [_]) (pc := 70) dX1_playTurn_70 lX1_69 kX0_endTurn vX0_endTurn hc.k (by decide) rfl (by decide) (by decide) (Nat.le_of_ble_eq_true rfl) rfl (eX0_endTurn hc c3 f3 (by omega) (by omega) (fun W4 o4 c4 => ?_))
      rw [e4, ← aTurn_eq] at c4
      refine rr_iload (pc := 73) dX1_playTurn_73 rfl ?_
      exact rr_reti (pc := 75) dX1_playTurn_75 rfl rfl rfl rfl (hq W4 (o3.tr o4.p) (g3.c hc o4) c4)
    · refine rr_aload_n (pc := 60) dX1_playTurn_60 rfl ?_
      refine rr_aload_n (pc := 61) dX1_playTurn_61 rfl ?_
      refine rr_iload (pc := 62) dX1_playTurn_62 rfl ?_
      refine rr_inv0 (M' := MX1_hopOutAndBack) (k := 97) (As := [_, _]) (pc := 64) dX1_playTurn_64 lX1_65 kX1_hopOutAndBack vX1_hopOutAndBack zk_97 (by decide) rfl (by decide) (by decide) (Nat.le_of_ble_eq_true rfl) rfl (eX1_hopOutAndBack hc c2 f1 w4 (by rw [em, iup_n (by omega)]; exact w4') (by omega) (by rw [em]; exact iup_s.trans aP2_own.symm) (l2 h57).1 (l2 h57).2 (fun W3 o3 c3 => ?_))
      rw [show aGood (aTm a pw sd) (a 4) = aTg a pw sd from (if_pos h57).symm] at c3
      have g3 := g2.c hc o3
      have o3 := (o1.p.tr (zOffg.p (c := c) o2)).tr o3.p
      refine rr_aload_n (pc := 67) dX1_playTurn_67 rfl ?_
      refine rr_iload (pc := 68) dX1_playTurn_68 rfl ?_
      obtain ⟨f3, e3, e4⟩ := aTg_wf (pw := pw) (sd := sd) hw hT
      refine rr_invN (M' := MX0_endTurn) (k := c) (As := [_]) (pc := 70) dX1_playTurn_70 lX1_69 kX0_endTurn vX0_endTurn hc.k (by decide) rfl (by decide) (by decide) (Nat.le_of_ble_eq_true rfl) rfl (eX0_endTurn hc c3 f3 (by omega) (by omega) (fun W4 o4 c4 => ?_))
      rw [e4, ← aTurn_eq] at c4
      refine rr_iload (pc := 73) dX1_playTurn_73 rfl ?_
      exact rr_reti (pc := 75) dX1_playTurn_75 rfl rfl rfl rfl (hq W4 (o3.tr o4.p) (g3.c hc o4) c4)
  · refine rr_aload_n (pc := 21) dX1_playTurn_21 rfl ?_
    refine rr_iload (pc := 22) dX1_playTurn_22 rfl ?_
    refine rr_iconst (n := 5) dX1_playTurn_24 ?_
    refine rr_iconst (n := (-1)) dX1_playTurn_25 ?_
    refine rr_invN (M' := MX0_put) (k := c) (As := [_, _, _]) (pc := 26) dX1_playTurn_26 lX1_58 kX0_put vX0_put hc.k (by decide) rfl (by decide) (by decide) (Nat.le_of_ble_eq_true rfl) rfl (eX0_put hc (by omega) (by omega) (by omega) (by omega) ?_)
    have c1 := CR_P (j := 5) (w := 5) (v := -1) (v' := 0) hR w4 (Or.inr (Or.inl ⟨rfl, rfl, rfl⟩))
    have o1 : zOff c W (zup W (c + 5) (a 4 * 10 + 5) (-1)) := zOff.rf.up (by omega)
    generalize zup W (c + 5) (a 4 * 10 + 5) (-1) = W1 at c1 o1 ⊢
    have ef : aTfault a pw sd = aFault a (a 4) pw sd := if_neg h18
    have hfr := aFault_rng (a := a) (q := a 4) (pw := pw) (sd := sd)
    have eg : aTg a pw sd = iup a (58 + 17 * a 4 + 5) 0 := by
      have h9 : aTm a pw sd = iup a (58 + 17 * a 4 + 5) 0 := by unfold aTm; rw [if_neg h18]
      unfold aTg; rw [if_neg (by rw [ef]; exact h18)]; exact h9
    rw [← eg] at c1
    rw [← ef]
    have hgm := hg.c hc o1
    refine rr_goto (pc := 29) (tgt := 55) dX1_playTurn_29 (by decide) ?_
    refine rr_iload (pc := 55) dX1_playTurn_55 rfl ?_
    refine rr_if_ne (pc := 57) (tgt := 67) dX1_playTurn_57 (by decide) (by unfold zR; omega) (fun h57 => ?_) (fun h57 => ?_)
    · have c3 := c1
      have o3 := o1.p
      have g3 := hgm
      generalize W1 = W3 at c3 o3 g3 ⊢
      refine rr_aload_n (pc := 67) dX1_playTurn_67 rfl ?_
      refine rr_iload (pc := 68) dX1_playTurn_68 rfl ?_
      obtain ⟨f3, e3, e4⟩ := aTg_wf (pw := pw) (sd := sd) hw hT
      refine rr_invN (M' := MX0_endTurn) (k := c) (As := [_]) (pc := 70) dX1_playTurn_70 lX1_69 kX0_endTurn vX0_endTurn hc.k (by decide) rfl (by decide) (by decide) (Nat.le_of_ble_eq_true rfl) rfl (eX0_endTurn hc c3 f3 (by omega) (by omega) (fun W4 o4 c4 => ?_))
      rw [e4, ← aTurn_eq] at c4
      refine rr_iload (pc := 73) dX1_playTurn_73 rfl ?_
      exact rr_reti (pc := 75) dX1_playTurn_75 rfl rfl rfl rfl (hq W4 (o3.tr o4.p) (g3.c hc o4) c4)
    · exact absurd (ef.symm.trans h57) h18
