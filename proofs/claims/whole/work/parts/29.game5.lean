theorem aEnd_n {a : Int → Int} {p f j : Int} (h0 : 0 ≤ p) (hj : j < 58) (h4 : j ≠ 4) (h5 : j ≠ 5) : aEnd a p f j = a j := by
  show iup (iup (iup (iup a _ _) _ _) 5 _) 4 _ j = a j
  rw [iup_n h4, iup_n h5, iup_n (by omega), iup_n (by omega)]
theorem aTurn_n {T : Int} {a : Int → Int} {pw sd j : Int} (hw : zWf T a) (hT : T + 26 ≤ 100000000) (hj : j < 18) (h4 : j ≠ 4) (h5 : j ≠ 5) (h6 : j ≠ 6) (h7 : j ≠ 7) : aTurn a pw sd j = a j := by
  have q4 := hw.2.2.2.2.2.2.2.2.1
  rw [aTurn_eq, aEnd_n q4 (by omega) h4 h5, aFlt_n q4 (by omega)]
  have e : aTm a pw sd j = a j := iup_n (by omega)
  unfold aTg
  split
  · exact (aGood_n (aMk_wf hw) (by omega) q4 hj h6 h7).trans e
  · exact e
/-- the throw of one who plays on: at the target, with the least power -/
def aLp (a : Int → Int) (s : Int) : Int := if 0 < 10 * (aR a s : Int) + 1 - a 3 then 10 * (aR a s : Int) + 1 - a 3 else 0
def aSd (a : Int → Int) (s : Int) : Int := s - aF a (aR a s)
def aBp (a : Int → Int) : Int := if aP a (a 4) 2 = 0 then 0 else aLp a (aP a (a 4) 2)
def aBs (a : Int → Int) : Int := if aP a (a 4) 2 = 0 then 0 else aSd a (aP a (a 4) 2)
def aNext (a : Int → Int) : Int → Int := aTurn a (aBp a) (aBs a)
def aUnt (w : Int) : Nat → Int → (Int → Int) → Int × (Int → Int)
  | 0, _, a => (-1, a)
  | n + 1, i, a => if aP a (a 4) 4 < aP (aNext a) (a 4) 4 ∧ (w = -1 ∨ w = a 4) then (i, aNext a) else aUnt w n (i + 1) (aNext a)
theorem aLp_rng {T : Int} {a : Int → Int} (hw : zWf T a) {s : Int} (h1 : 1 ≤ s) (h2 : s ≤ a 1) : 0 ≤ aLp a s ∧ aLp a s ≤ 100 := by
  have h := aR_spec hw h1 h2
  have h3 := hw.2.2.2.2.2.2.1
  have h10 := hw.2.1
  unfold aLp; split <;> omega
theorem aSd_rng {T : Int} {a : Int → Int} (hw : zWf T a) {s : Int} (h1 : 1 ≤ s) (h2 : s ≤ a 1) : 0 ≤ aSd a s ∧ aSd a s ≤ 1 := by
  have h := aR_spec hw h1 h2
  have h3 := hw.2.2.1 (aR a s : Nat) (by omega) h.1
  have hst := aF_step (a := a) (aR a s)
  unfold aSd; omega
theorem aB_rng {T : Int} {a : Int → Int} (hw : zWf T a) : 0 ≤ aBp a ∧ aBp a ≤ 100 ∧ 0 ≤ aBs a ∧ aBs a ≤ 1 := by
  have h4 := hw.2.2.2.2.2.2.2.2.1
  have h4' := hw.2.2.2.2.2.2.2.2.2.1
  have hm2 := hw.2.2.2.2.2.2.2.2.2.2.2.2.2.2.2.2.2.1 (a 4) h4 h4'
  unfold zWfP at hm2
  unfold aBp aBs
  by_cases h : aP a (a 4) 2 = 0
  · rw [if_pos h, if_pos h]; omega
  · rw [if_neg h, if_neg h]
    have g1 := aLp_rng hw (s := aP a (a 4) 2) (by omega) (by omega)
    have g2 := aSd_rng hw (s := aP a (a 4) 2) (by omega) (by omega)
    omega
theorem aNext_wf {T : Int} {a : Int → Int} (hw : zWf T a) (hT : T + 26 ≤ 100000000) : zWf (T + 26) (aNext a) := aTurn_wf hw hT (aB_rng hw).2.2.1
theorem aUnt_wf {w : Int} : ∀ (n : Nat) (i T : Int) (a : Int → Int), zWf T a → T + 26 * n ≤ 100000000 → zWf (T + 26 * n) (aUnt w n i a).2 := by
  intro n
  induction n with
  | zero => intro i T a hw _; rw [show T + 26 * ((0 : Nat) : Int) = T by omega]; exact hw
  | succ n ih =>
    intro i T a hw hT
    have h1 := aNext_wf hw (by omega)
    unfold aUnt
    split
    · exact h1.mono (by omega) hT
    · rw [show T + 26 * ((n + 1 : Nat) : Int) = T + 26 + 26 * n by omega]
      exact ih _ _ _ h1 (by omega)
theorem dX1_playUntilCrown_0 : decode cX1_playUntilCrown 0 = .ok (.iconst 1, 1) := by decide +kernel
theorem dX1_playUntilCrown_1 : decode cX1_playUntilCrown 1 = .ok (.istore_n 3, 1) := by decide +kernel
theorem dX1_playUntilCrown_2 : decode cX1_playUntilCrown 2 = .ok (.iload_n 3, 1) := by decide +kernel
theorem dX1_playUntilCrown_3 : decode cX1_playUntilCrown 3 = .ok (.sipush 300, 3) := by decide +kernel
theorem dX1_playUntilCrown_6 : decode cX1_playUntilCrown 6 = .ok (.if_icmp .gt 102, 3) := by decide +kernel
theorem dX1_playUntilCrown_9 : decode cX1_playUntilCrown 9 = .ok (.aload_n 1, 1) := by decide +kernel
theorem dX1_playUntilCrown_10 : decode cX1_playUntilCrown 10 = .ok (.getfield 51, 3) := by decide +kernel
theorem dX1_playUntilCrown_13 : decode cX1_playUntilCrown 13 = .ok (.istore 4, 2) := by decide +kernel
theorem dX1_playUntilCrown_15 : decode cX1_playUntilCrown 15 = .ok (.aload_n 1, 1) := by decide +kernel
theorem dX1_playUntilCrown_16 : decode cX1_playUntilCrown 16 = .ok (.iload 4, 2) := by decide +kernel
theorem dX1_playUntilCrown_18 : decode cX1_playUntilCrown 18 = .ok (.iconst 4, 1) := by decide +kernel
theorem dX1_playUntilCrown_19 : decode cX1_playUntilCrown 19 = .ok (.invokevirtual 23, 3) := by decide +kernel
theorem dX1_playUntilCrown_22 : decode cX1_playUntilCrown 22 = .ok (.istore 5, 2) := by decide +kernel
theorem dX1_playUntilCrown_24 : decode cX1_playUntilCrown 24 = .ok (.aload_n 1, 1) := by decide +kernel
theorem dX1_playUntilCrown_25 : decode cX1_playUntilCrown 25 = .ok (.iload 4, 2) := by decide +kernel
theorem dX1_playUntilCrown_27 : decode cX1_playUntilCrown 27 = .ok (.iconst 2, 1) := by decide +kernel
theorem dX1_playUntilCrown_28 : decode cX1_playUntilCrown 28 = .ok (.invokevirtual 23, 3) := by decide +kernel
theorem dX1_playUntilCrown_31 : decode cX1_playUntilCrown 31 = .ok (.istore 6, 2) := by decide +kernel
theorem dX1_playUntilCrown_33 : decode cX1_playUntilCrown 33 = .ok (.iload 6, 2) := by decide +kernel
theorem dX1_playUntilCrown_35 : decode cX1_playUntilCrown 35 = .ok (.ifCond .ne 7, 3) := by decide +kernel
theorem dX1_playUntilCrown_38 : decode cX1_playUntilCrown 38 = .ok (.iconst 0, 1) := by decide +kernel
theorem dX1_playUntilCrown_39 : decode cX1_playUntilCrown 39 = .ok (.goto 9, 3) := by decide +kernel
theorem dX1_playUntilCrown_42 : decode cX1_playUntilCrown 42 = .ok (.aload_n 1, 1) := by decide +kernel
theorem dX1_playUntilCrown_43 : decode cX1_playUntilCrown 43 = .ok (.iload 6, 2) := by decide +kernel
theorem dX1_playUntilCrown_45 : decode cX1_playUntilCrown 45 = .ok (.invokevirtual 104, 3) := by decide +kernel
theorem dX1_playUntilCrown_48 : decode cX1_playUntilCrown 48 = .ok (.istore 7, 2) := by decide +kernel
theorem dX1_playUntilCrown_50 : decode cX1_playUntilCrown 50 = .ok (.iload 6, 2) := by decide +kernel
theorem dX1_playUntilCrown_52 : decode cX1_playUntilCrown 52 = .ok (.ifCond .ne 7, 3) := by decide +kernel
theorem dX1_playUntilCrown_55 : decode cX1_playUntilCrown 55 = .ok (.iconst 0, 1) := by decide +kernel
theorem dX1_playUntilCrown_56 : decode cX1_playUntilCrown 56 = .ok (.goto 9, 3) := by decide +kernel
theorem dX1_playUntilCrown_59 : decode cX1_playUntilCrown 59 = .ok (.aload_n 1, 1) := by decide +kernel
theorem dX1_playUntilCrown_60 : decode cX1_playUntilCrown 60 = .ok (.iload 6, 2) := by decide +kernel
theorem dX1_playUntilCrown_62 : decode cX1_playUntilCrown 62 = .ok (.invokevirtual 107, 3) := by decide +kernel
theorem dX1_playUntilCrown_65 : decode cX1_playUntilCrown 65 = .ok (.istore 8, 2) := by decide +kernel
theorem dX1_playUntilCrown_67 : decode cX1_playUntilCrown 67 = .ok (.aload_n 0, 1) := by decide +kernel
theorem dX1_playUntilCrown_68 : decode cX1_playUntilCrown 68 = .ok (.aload_n 1, 1) := by decide +kernel
theorem dX1_playUntilCrown_69 : decode cX1_playUntilCrown 69 = .ok (.iload 7, 2) := by decide +kernel
theorem dX1_playUntilCrown_71 : decode cX1_playUntilCrown 71 = .ok (.iload 8, 2) := by decide +kernel
theorem dX1_playUntilCrown_73 : decode cX1_playUntilCrown 73 = .ok (.invokevirtual 110, 3) := by decide +kernel
theorem dX1_playUntilCrown_76 : decode cX1_playUntilCrown 76 = .ok (.pop, 1) := by decide +kernel
theorem dX1_playUntilCrown_77 : decode cX1_playUntilCrown 77 = .ok (.aload_n 1, 1) := by decide +kernel
theorem dX1_playUntilCrown_78 : decode cX1_playUntilCrown 78 = .ok (.iload 4, 2) := by decide +kernel
theorem dX1_playUntilCrown_80 : decode cX1_playUntilCrown 80 = .ok (.iconst 4, 1) := by decide +kernel
theorem dX1_playUntilCrown_81 : decode cX1_playUntilCrown 81 = .ok (.invokevirtual 23, 3) := by decide +kernel
theorem dX1_playUntilCrown_84 : decode cX1_playUntilCrown 84 = .ok (.iload 5, 2) := by decide +kernel
theorem dX1_playUntilCrown_86 : decode cX1_playUntilCrown 86 = .ok (.if_icmp .le 16, 3) := by decide +kernel
theorem dX1_playUntilCrown_89 : decode cX1_playUntilCrown 89 = .ok (.iload_n 2, 1) := by decide +kernel
theorem dX1_playUntilCrown_90 : decode cX1_playUntilCrown 90 = .ok (.iconst (-1), 1) := by decide +kernel
theorem dX1_playUntilCrown_91 : decode cX1_playUntilCrown 91 = .ok (.if_icmp .eq 9, 3) := by decide +kernel
theorem dX1_playUntilCrown_94 : decode cX1_playUntilCrown 94 = .ok (.iload_n 2, 1) := by decide +kernel
theorem dX1_playUntilCrown_95 : decode cX1_playUntilCrown 95 = .ok (.iload 4, 2) := by decide +kernel
theorem dX1_playUntilCrown_97 : decode cX1_playUntilCrown 97 = .ok (.if_icmp .ne 5, 3) := by decide +kernel
theorem dX1_playUntilCrown_100 : decode cX1_playUntilCrown 100 = .ok (.iload_n 3, 1) := by decide +kernel
theorem dX1_playUntilCrown_101 : decode cX1_playUntilCrown 101 = .ok (.ireturn, 1) := by decide +kernel
theorem dX1_playUntilCrown_102 : decode cX1_playUntilCrown 102 = .ok (.iinc 3 1, 3) := by decide +kernel
theorem dX1_playUntilCrown_105 : decode cX1_playUntilCrown 105 = .ok (.goto (-103), 3) := by decide +kernel
theorem dX1_playUntilCrown_108 : decode cX1_playUntilCrown 108 = .ok (.iconst (-1), 1) := by decide +kernel
theorem dX1_playUntilCrown_109 : decode cX1_playUntilCrown 109 = .ok (.ireturn, 1) := by decide +kernel
theorem eX1_playUntilCrown {c : Nat} {W : zWd} {a : Int → Int} {T : Int} {w : Int} {Q : Option Value → zWd → Prop} {X : zX} (hc : zCt c) (hR : zCR W c a) (hw : zWf T a) (hg : zGm W) (hT : T + 7826 ≤ 100000000) (hwz : zR w) (hq : ∀ W' : zWd, zOffp c W W' → zGm W' → zCR W' c (aUnt w 300 1 a).2 → Q (some (zI (aUnt w 300 1 a).1)) W') : Ev MX1_playUntilCrown 6 0 W [.ref 97, .ref c, zI w] Q X := by
  refine ev_of (ls := [.ref 97, .ref c, zI w, .null, .null, .null, .null, .null, .null]) (by decide) rfl (fun _ => rfl) (fun _ => Nat.le_of_ble_eq_true rfl) (Or.inl rfl) ?_
  unfold zR at hwz
  have loop : ∀ (n : Nat) (i : Int) (Wi : zWd) (ai : Int → Int) (x4 x5 x6 x7 x8 : Value), 1 ≤ i → i ≤ 301 → zOffp c W Wi → zGm Wi → zCR Wi c ai → zWf (T + 26 * (i - 1)) ai → aUnt w (301 - i).toNat i ai = aUnt w 300 1 a → (301 - i).toNat < n → RR MX1_playUntilCrown 6 0 Wi 2 [.ref 97, .ref c, zI w, zI i, x4, x5, x6, x7, x8] [] (zEnd MX1_playUntilCrown Q X) X := by
    intro n
    induction n with
    | zero => intro i Wi ai x4 x5 x6 x7 x8 _ _ _ _ _ _ _ hm9; omega
    | succ n ih =>
      intro i Wi ai x4 x5 x6 x7 x8 h1 h2 hO hG hC hF hL hm9
      obtain ⟨q0, q1, q2, q3, q4, q5, q6, q7, qF, qS, qP, qB⟩ := id hC
      have hF2 := hF
      obtain ⟨v0, v0', vW, v1, v2, v2', v3, v3', v4, v4', v5, v5', v6, v6', v7, v7', vS, vP, vT⟩ := id hF2
      have hm := qP (ai 4) v4 v4'
      have hm2 := vP (ai 4) v4 v4'
      unfold zWfP at hm2
      have hsq := zWf.sq hF
      have hbr := aB_rng hF
      refine rr_iload_n (pc := 2) dX1_playUntilCrown_2 rfl ?_
      refine rr_sipush (n := (300)) dX1_playUntilCrown_3 ?_
      refine rr_icmp_gt (pc := 6) (tgt := 108) dX1_playUntilCrown_6 (by decide) (by unfold zR; omega) (by unfold zR; omega) (fun h6 => ?_) (fun h6 => ?_)
      · refine rr_iconst (n := (-1)) dX1_playUntilCrown_108 ?_
        rw [show (301 - i).toNat = 0 by omega] at hL
        have hL1 := congrArg Prod.fst hL
        have hL2 := congrArg Prod.snd hL
        exact rr_reti (pc := 109) dX1_playUntilCrown_109 rfl rfl hL1 rfl (hq Wi hO hG (hL2 ▸ hC))
      · refine rr_aload_n (pc := 9) dX1_playUntilCrown_9 rfl ?_
        refine rr_getI (pc := 10) (ji := 4) dX1_playUntilCrown_10 fX1_51 hc.k hc.i4 rfl ?_
        rw [q4]
        have en : (301 - i).toNat = (301 - (i + 1)).toNat + 1 := by omega
        rw [en] at hL
        unfold aUnt at hL
        refine rr_istore (pc := 13) dX1_playUntilCrown_13 (by decide) ?_
        refine rr_aload_n (pc := 15) dX1_playUntilCrown_15 rfl ?_
        refine rr_iload (pc := 16) dX1_playUntilCrown_16 rfl ?_
        refine rr_iconst (n := 4) dX1_playUntilCrown_18 ?_
        refine rr_invN (M' := MX0_get) (k := c) (As := [_, _]) (pc := 19) dX1_playUntilCrown_19 lX1_23 kX0_get vX0_get hc.k (by decide) rfl (by decide) (by decide) (Nat.le_of_ble_eq_true rfl) rfl (eX0_get hc (by omega) (by omega) (by omega) (by omega) ?_)
        rw [hm.2.2.2.2.1]
        refine rr_istore (pc := 22) dX1_playUntilCrown_22 (by decide) ?_
        refine rr_aload_n (pc := 24) dX1_playUntilCrown_24 rfl ?_
        refine rr_iload (pc := 25) dX1_playUntilCrown_25 rfl ?_
        refine rr_iconst (n := 2) dX1_playUntilCrown_27 ?_
        refine rr_invN (M' := MX0_get) (k := c) (As := [_, _]) (pc := 28) dX1_playUntilCrown_28 lX1_23 kX0_get vX0_get hc.k (by decide) rfl (by decide) (by decide) (Nat.le_of_ble_eq_true rfl) rfl (eX0_get hc (by omega) (by omega) (by omega) (by omega) ?_)
        rw [hm.2.2.1]
        refine rr_istore (pc := 31) dX1_playUntilCrown_31 (by decide) ?_
        refine rr_iload (pc := 33) dX1_playUntilCrown_33 rfl ?_
        refine rr_if_ne (pc := 35) (tgt := 42) dX1_playUntilCrown_35 (by decide) (by unfold zR; omega) (fun h35 => ?_) (fun h35 => ?_)
        · refine rr_aload_n (pc := 42) dX1_playUntilCrown_42 rfl ?_
          refine rr_iload (pc := 43) dX1_playUntilCrown_43 rfl ?_
          refine rr_invN (M' := MX0_leastPower) (k := c) (As := [_]) (pc := 45) dX1_playUntilCrown_45 lX1_104 kX0_leastPower vX0_leastPower hc.k (by decide) rfl (by decide) (by decide) (Nat.le_of_ble_eq_true rfl) rfl (eX0_leastPower hc hC hF (by omega) (by omega) ?_)
          refine rr_eqS (congrArg (fun z => [zI z]) (show _ = aBp ai from (if_neg h35).symm)) ?_
          refine rr_istore (pc := 48) dX1_playUntilCrown_48 (by decide) ?_
          refine rr_iload (pc := 50) dX1_playUntilCrown_50 rfl ?_
          refine rr_if_ne (pc := 52) (tgt := 59) dX1_playUntilCrown_52 (by decide) (by unfold zR; omega) (fun h52 => ?_) (fun h52 => ?_)
          · refine rr_aload_n (pc := 59) dX1_playUntilCrown_59 rfl ?_
            refine rr_iload (pc := 60) dX1_playUntilCrown_60 rfl ?_
            refine rr_invN (M' := MX0_sideOf) (k := c) (As := [_]) (pc := 62) dX1_playUntilCrown_62 lX1_107 kX0_sideOf vX0_sideOf hc.k (by decide) rfl (by decide) (by decide) (Nat.le_of_ble_eq_true rfl) rfl (eX0_sideOf hc hC hF (by omega) (by omega) ?_)
            refine rr_eqS (congrArg (fun z => [zI z]) (show _ = aBs ai from (if_neg h35).symm)) ?_
            refine rr_istore (pc := 65) dX1_playUntilCrown_65 (by decide) ?_
            refine rr_aload_n (pc := 67) dX1_playUntilCrown_67 rfl ?_
            refine rr_aload_n (pc := 68) dX1_playUntilCrown_68 rfl ?_
            refine rr_iload (pc := 69) dX1_playUntilCrown_69 rfl ?_
            refine rr_iload (pc := 71) dX1_playUntilCrown_71 rfl ?_
            refine rr_inv0 (M' := MX1_playTurn) (k := 97) (As := [_, _, _]) (pc := 73) dX1_playUntilCrown_73 lX1_110 kX1_playTurn vX1_playTurn zk_97 (by decide) rfl (by decide) (by decide) (Nat.le_of_ble_eq_true rfl) rfl (eX1_playTurn hc hC hF hG (by omega) (by omega) (by omega) (by omega) (by omega) (fun W1 o1 g1 c1 => ?_))
            have c1 : zCR W1 c (aNext ai) := c1
            have f1 := aNext_wf hF (by omega)
            have e2 : aNext ai 2 = ai 2 := aTurn_n hF (by omega) (by omega) (by omega) (by omega) (by omega) (by omega)
            have hn := c1.2.2.2.2.2.2.2.2.2.2.1 (ai 4) v4 (by rw [e2]; exact v4')
            have hn2 := f1.2.2.2.2.2.2.2.2.2.2.2.2.2.2.2.2.2.1 (ai 4) v4 (by rw [e2]; exact v4')
            unfold zWfP at hn2
            have hrf := aTfault_rng (pw := aBp ai) (sd := aBs ai) hF hbr.2.2.1
            refine rr_pop_i (pc := 76) dX1_playUntilCrown_76 ?_
            refine rr_aload_n (pc := 77) dX1_playUntilCrown_77 rfl ?_
            refine rr_iload (pc := 78) dX1_playUntilCrown_78 rfl ?_
            refine rr_iconst (n := 4) dX1_playUntilCrown_80 ?_
            refine rr_invN (M' := MX0_get) (k := c) (As := [_, _]) (pc := 81) dX1_playUntilCrown_81 lX1_23 kX0_get vX0_get hc.k (by decide) rfl (by decide) (by decide) (Nat.le_of_ble_eq_true rfl) rfl (eX0_get hc (by omega) (by omega) (by omega) (by omega) ?_)
            rw [hn.2.2.2.2.1]
            refine rr_iload (pc := 84) dX1_playUntilCrown_84 rfl ?_
            refine rr_icmp_le (pc := 86) (tgt := 102) dX1_playUntilCrown_86 (by decide) (by unfold zR; omega) (by unfold zR; omega) (fun h86 => ?_) (fun h86 => ?_)
            · rw [if_neg (by omega)] at hL
              refine rr_iinc (pc := 102) dX1_playUntilCrown_102 rfl (by decide) ?_
              refine rr_goto (pc := 105) (tgt := 2) dX1_playUntilCrown_105 (by decide) ?_
              exact ih (i + 1) W1 (aNext ai) _ _ _ _ _ (by omega) (by omega) (hO.tr o1) g1 c1 (by rw [show T + 26 * (i + 1 - 1) = T + 26 * (i - 1) + 26 by omega]; exact f1) hL (by omega)
            · refine rr_iload_n (pc := 89) dX1_playUntilCrown_89 rfl ?_
              refine rr_iconst (n := (-1)) dX1_playUntilCrown_90 ?_
              refine rr_icmp_eq (pc := 91) (tgt := 100) dX1_playUntilCrown_91 (by decide) (by unfold zR; omega) (by unfold zR; omega) (fun h91 => ?_) (fun h91 => ?_)
              · refine rr_iload_n (pc := 100) dX1_playUntilCrown_100 rfl ?_
                rw [if_pos ⟨by omega, by omega⟩] at hL
                have hL1 := congrArg Prod.fst hL
                have hL2 := congrArg Prod.snd hL
                exact rr_reti (pc := 101) dX1_playUntilCrown_101 rfl rfl hL1 rfl (hq W1 (hO.tr o1) g1 (hL2 ▸ c1))
              · refine rr_iload_n (pc := 94) dX1_playUntilCrown_94 rfl ?_
                refine rr_iload (pc := 95) dX1_playUntilCrown_95 rfl ?_
                refine rr_icmp_ne (pc := 97) (tgt := 102) dX1_playUntilCrown_97 (by decide) (by unfold zR; omega) (by unfold zR; omega) (fun h97 => ?_) (fun h97 => ?_)
                · rw [if_neg (by omega)] at hL
                  refine rr_iinc (pc := 102) dX1_playUntilCrown_102 rfl (by decide) ?_
                  refine rr_goto (pc := 105) (tgt := 2) dX1_playUntilCrown_105 (by decide) ?_
                  exact ih (i + 1) W1 (aNext ai) _ _ _ _ _ (by omega) (by omega) (hO.tr o1) g1 c1 (by rw [show T + 26 * (i + 1 - 1) = T + 26 * (i - 1) + 26 by omega]; exact f1) hL (by omega)
                · refine rr_iload_n (pc := 100) dX1_playUntilCrown_100 rfl ?_
                  rw [if_pos ⟨by omega, by omega⟩] at hL
                  have hL1 := congrArg Prod.fst hL
                  have hL2 := congrArg Prod.snd hL
                  exact rr_reti (pc := 101) dX1_playUntilCrown_101 rfl rfl hL1 rfl (hq W1 (hO.tr o1) g1 (hL2 ▸ c1))
          · omega
        · refine rr_iconst (n := 0) dX1_playUntilCrown_38 ?_
          refine rr_goto (pc := 39) (tgt := 48) dX1_playUntilCrown_39 (by decide) ?_
          have e35 : aP ai (ai 4) 2 = 0 := by omega
          refine rr_eqS (congrArg (fun z => [zI z]) (show _ = aBp ai from (if_pos e35).symm)) ?_
          refine rr_istore (pc := 48) dX1_playUntilCrown_48 (by decide) ?_
          refine rr_iload (pc := 50) dX1_playUntilCrown_50 rfl ?_
          refine rr_if_ne (pc := 52) (tgt := 59) dX1_playUntilCrown_52 (by decide) (by unfold zR; omega) (fun h52 => ?_) (fun h52 => ?_)
          · omega
          · refine rr_iconst (n := 0) dX1_playUntilCrown_55 ?_
            refine rr_goto (pc := 56) (tgt := 65) dX1_playUntilCrown_56 (by decide) ?_
            refine rr_eqS (congrArg (fun z => [zI z]) (show _ = aBs ai from (if_pos e35).symm)) ?_
            refine rr_istore (pc := 65) dX1_playUntilCrown_65 (by decide) ?_
            refine rr_aload_n (pc := 67) dX1_playUntilCrown_67 rfl ?_
            refine rr_aload_n (pc := 68) dX1_playUntilCrown_68 rfl ?_
            refine rr_iload (pc := 69) dX1_playUntilCrown_69 rfl ?_
            refine rr_iload (pc := 71) dX1_playUntilCrown_71 rfl ?_
            refine rr_inv0 (M' := MX1_playTurn) (k := 97) (As := [_, _, _]) (pc := 73) dX1_playUntilCrown_73 lX1_110 kX1_playTurn vX1_playTurn zk_97 (by decide) rfl (by decide) (by decide) (Nat.le_of_ble_eq_true rfl) rfl (eX1_playTurn hc hC hF hG (by omega) (by omega) (by omega) (by omega) (by omega) (fun W1 o1 g1 c1 => ?_))
            have c1 : zCR W1 c (aNext ai) := c1
            have f1 := aNext_wf hF (by omega)
            have e2 : aNext ai 2 = ai 2 := aTurn_n hF (by omega) (by omega) (by omega) (by omega) (by omega) (by omega)
            have hn := c1.2.2.2.2.2.2.2.2.2.2.1 (ai 4) v4 (by rw [e2]; exact v4')
            have hn2 := f1.2.2.2.2.2.2.2.2.2.2.2.2.2.2.2.2.2.1 (ai 4) v4 (by rw [e2]; exact v4')
            unfold zWfP at hn2
            have hrf := aTfault_rng (pw := aBp ai) (sd := aBs ai) hF hbr.2.2.1
            refine rr_pop_i (pc := 76) dX1_playUntilCrown_76 ?_
            refine rr_aload_n (pc := 77) dX1_playUntilCrown_77 rfl ?_
            refine rr_iload (pc := 78) dX1_playUntilCrown_78 rfl ?_
            refine rr_iconst (n := 4) dX1_playUntilCrown_80 ?_
            refine rr_invN (M' := MX0_get) (k := c) (As := [_, _]) (pc := 81) dX1_playUntilCrown_81 lX1_23 kX0_get vX0_get hc.k (by decide) rfl (by decide) (by decide) (Nat.le_of_ble_eq_true rfl) rfl (eX0_get hc (by omega) (by omega) (by omega) (by omega) ?_)
            rw [hn.2.2.2.2.1]
            refine rr_iload (pc := 84) dX1_playUntilCrown_84 rfl ?_
            refine rr_icmp_le (pc := 86) (tgt := 102) dX1_playUntilCrown_86 (by decide) (by unfold zR; omega) (by unfold zR; omega) (fun h86 => ?_) (fun h86 => ?_)
            · rw [if_neg (by omega)] at hL
              refine rr_iinc (pc := 102) dX1_playUntilCrown_102 rfl (by decide) ?_
              refine rr_goto (pc := 105) (tgt := 2) dX1_playUntilCrown_105 (by decide) ?_
              exact ih (i + 1) W1 (aNext ai) _ _ _ _ _ (by omega) (by omega) (hO.tr o1) g1 c1 (by rw [show T + 26 * (i + 1 - 1) = T + 26 * (i - 1) + 26 by omega]; exact f1) hL (by omega)
            · refine rr_iload_n (pc := 89) dX1_playUntilCrown_89 rfl ?_
              refine rr_iconst (n := (-1)) dX1_playUntilCrown_90 ?_
              refine rr_icmp_eq (pc := 91) (tgt := 100) dX1_playUntilCrown_91 (by decide) (by unfold zR; omega) (by unfold zR; omega) (fun h91 => ?_) (fun h91 => ?_)
              · refine rr_iload_n (pc := 100) dX1_playUntilCrown_100 rfl ?_
                rw [if_pos ⟨by omega, by omega⟩] at hL
                have hL1 := congrArg Prod.fst hL
                have hL2 := congrArg Prod.snd hL
                exact rr_reti (pc := 101) dX1_playUntilCrown_101 rfl rfl hL1 rfl (hq W1 (hO.tr o1) g1 (hL2 ▸ c1))
              · refine rr_iload_n (pc := 94) dX1_playUntilCrown_94 rfl ?_
                refine rr_iload (pc := 95) dX1_playUntilCrown_95 rfl ?_
                refine rr_icmp_ne (pc := 97) (tgt := 102) dX1_playUntilCrown_97 (by decide) (by unfold zR; omega) (by unfold zR; omega) (fun h97 => ?_) (fun h97 => ?_)
                · rw [if_neg (by omega)] at hL
                  refine rr_iinc (pc := 102) dX1_playUntilCrown_102 rfl (by decide) ?_
                  refine rr_goto (pc := 105) (tgt := 2) dX1_playUntilCrown_105 (by decide) ?_
                  exact ih (i + 1) W1 (aNext ai) _ _ _ _ _ (by omega) (by omega) (hO.tr o1) g1 c1 (by rw [show T + 26 * (i + 1 - 1) = T + 26 * (i - 1) + 26 by omega]; exact f1) hL (by omega)
                · refine rr_iload_n (pc := 100) dX1_playUntilCrown_100 rfl ?_
                  rw [if_pos ⟨by omega, by omega⟩] at hL
                  have hL1 := congrArg Prod.fst hL
                  have hL2 := congrArg Prod.snd hL
                  exact rr_reti (pc := 101) dX1_playUntilCrown_101 rfl rfl hL1 rfl (hq W1 (hO.tr o1) g1 (hL2 ▸ c1))
  refine rr_iconst (n := 1) dX1_playUntilCrown_0 ?_
  refine rr_istore_n (pc := 1) dX1_playUntilCrown_1 (by decide) ?_
  exact loop _ 1 W a _ _ _ _ _ (by omega) (by omega) zOffp.rf hg hR (by rw [show T + 26 * ((1 : Int) - 1) = T by omega]; exact hw) rfl (Nat.lt_succ_self _)
