theorem dX1_playableSquares_0 : decode cX1_playableSquares 0 = .ok (.aload_n 1, 1) := by decide +kernel
theorem dX1_playableSquares_1 : decode cX1_playableSquares 1 = .ok (.iload_n 2, 1) := by decide +kernel
theorem dX1_playableSquares_2 : decode cX1_playableSquares 2 = .ok (.iconst 0, 1) := by decide +kernel
theorem dX1_playableSquares_3 : decode cX1_playableSquares 3 = .ok (.invokevirtual 23, 3) := by decide +kernel
theorem dX1_playableSquares_6 : decode cX1_playableSquares 6 = .ok (.istore_n 3, 1) := by decide +kernel
theorem dX1_playableSquares_7 : decode cX1_playableSquares 7 = .ok (.iconst 0, 1) := by decide +kernel
theorem dX1_playableSquares_8 : decode cX1_playableSquares 8 = .ok (.istore 4, 2) := by decide +kernel
theorem dX1_playableSquares_10 : decode cX1_playableSquares 10 = .ok (.iconst 1, 1) := by decide +kernel
theorem dX1_playableSquares_11 : decode cX1_playableSquares 11 = .ok (.istore 5, 2) := by decide +kernel
theorem dX1_playableSquares_13 : decode cX1_playableSquares 13 = .ok (.iload 5, 2) := by decide +kernel
theorem dX1_playableSquares_15 : decode cX1_playableSquares 15 = .ok (.aload_n 1, 1) := by decide +kernel
theorem dX1_playableSquares_16 : decode cX1_playableSquares 16 = .ok (.getfield 33, 3) := by decide +kernel
theorem dX1_playableSquares_19 : decode cX1_playableSquares 19 = .ok (.if_icmp .gt 34, 3) := by decide +kernel
theorem dX1_playableSquares_22 : decode cX1_playableSquares 22 = .ok (.aload_n 1, 1) := by decide +kernel
theorem dX1_playableSquares_23 : decode cX1_playableSquares 23 = .ok (.iload_n 2, 1) := by decide +kernel
theorem dX1_playableSquares_24 : decode cX1_playableSquares 24 = .ok (.iload 5, 2) := by decide +kernel
theorem dX1_playableSquares_26 : decode cX1_playableSquares 26 = .ok (.invokevirtual 37, 3) := by decide +kernel
theorem dX1_playableSquares_29 : decode cX1_playableSquares 29 = .ok (.ifCond .ne 18, 3) := by decide +kernel
theorem dX1_playableSquares_32 : decode cX1_playableSquares 32 = .ok (.aload_n 0, 1) := by decide +kernel
theorem dX1_playableSquares_33 : decode cX1_playableSquares 33 = .ok (.aload_n 1, 1) := by decide +kernel
theorem dX1_playableSquares_34 : decode cX1_playableSquares 34 = .ok (.iload_n 2, 1) := by decide +kernel
theorem dX1_playableSquares_35 : decode cX1_playableSquares 35 = .ok (.iload 5, 2) := by decide +kernel
theorem dX1_playableSquares_37 : decode cX1_playableSquares 37 = .ok (.iload_n 3, 1) := by decide +kernel
theorem dX1_playableSquares_38 : decode cX1_playableSquares 38 = .ok (.invokevirtual 41, 3) := by decide +kernel
theorem dX1_playableSquares_41 : decode cX1_playableSquares 41 = .ok (.ifCond .eq 6, 3) := by decide +kernel
theorem dX1_playableSquares_44 : decode cX1_playableSquares 44 = .ok (.iinc 4 1, 3) := by decide +kernel
theorem dX1_playableSquares_47 : decode cX1_playableSquares 47 = .ok (.iinc 5 1, 3) := by decide +kernel
theorem dX1_playableSquares_50 : decode cX1_playableSquares 50 = .ok (.goto (-37), 3) := by decide +kernel
theorem dX1_playableSquares_53 : decode cX1_playableSquares 53 = .ok (.iload 4, 2) := by decide +kernel
theorem dX1_playableSquares_55 : decode cX1_playableSquares 55 = .ok (.ireturn, 1) := by decide +kernel
theorem eX1_playableSquares {c : Nat} {W : zWd} {a : Int → Int} {T q : Int}  {Q : Option Value → zWd → Prop} {X : zX} (hc : zCt c) (hR : zCR W c a) (hw : zWf T a) (hg : zGm W) (hq0 : 0 ≤ q) (hq1 : q < a 2) (hq : ∀ W' : zWd, zOffg W W' → zGm W' → Q (some (zI (aPlay a q))) W') : Ev MX1_playableSquares 5 0 W [.ref 97, .ref c, zI q] Q X := by
  refine ev_of (ls := [.ref 97, .ref c, zI q, .null, .null, .null]) (by decide) rfl (fun _ => rfl) (fun _ => Nat.le_of_ble_eq_true rfl) (Or.inl rfl) ?_
  obtain ⟨r0, r1, r2, r3, r4, r5, r6, r7, rF, rS, rP, rB⟩ := id hR
  obtain ⟨w0, w0', wW, w1, w2, w2', w3, w3', w4, w4', w5, w5', w6, w6', w7, w7', wS, wP, wT⟩ := id hw
  have wq := zWf.sq hw
  have hm := rP q hq0 hq1
  have hm2 := wP q hq0 hq1
  unfold zWfP at hm2
  have hrc9 : aP a q 0 = ((aRc a q : Nat) : Int) := by unfold aRc; omega
  have hrc : 1 ≤ aRc a q ∧ aRc a q ≤ 4 := by omega
  have loop : ∀ (n : Nat) (i : Int) (Wi : zWd), 1 ≤ i → i ≤ a 1 + 1 → zOffg W Wi → zGm Wi → (a 1 + 1 - i).toNat < n → RR MX1_playableSquares 5 0 Wi 13 [.ref 97, .ref c, zI q, zI (aRc a q : Nat), zI (aPlC a q (i - 1).toNat), zI i] [] (zEnd MX1_playableSquares Q X) X := by
    intro n
    induction n with
    | zero => intro i Wi _ _ _ _ hm9; omega
    | succ n ih =>
      intro i Wi h1 h2 hO hG hm9
      have hC := hR.g hc hO
      obtain ⟨q0, q1, q2, q3, q4, q5, q6, q7, qF, qS, qP, qB⟩ := id hC
      have hp := aPlC_rng a q (i - 1).toNat
      refine rr_iload (pc := 13) dX1_playableSquares_13 rfl ?_
      refine rr_aload_n (pc := 15) dX1_playableSquares_15 rfl ?_
      refine rr_getI (pc := 16) (ji := 1) dX1_playableSquares_16 fX1_33 hc.k hc.i1 rfl ?_
      refine rr_icmp_gt (pc := 19) (tgt := 53) dX1_playableSquares_19 (by decide) (by unfold zR; omega) (by unfold zR; omega) (fun h19 => ?_) (fun h19 => ?_)
      · refine rr_iload (pc := 53) dX1_playableSquares_53 rfl ?_
        exact rr_reti (pc := 55) dX1_playableSquares_55 rfl rfl (by unfold aPlay; rw [show (i - 1).toNat = (a 1).toNat by omega]) rfl (hq Wi hO hG)
      · refine rr_aload_n (pc := 22) dX1_playableSquares_22 rfl ?_
        refine rr_iload_n (pc := 23) dX1_playableSquares_23 rfl ?_
        refine rr_iload (pc := 24) dX1_playableSquares_24 rfl ?_
        refine rr_invN (M' := MX0_isForbidden) (k := c) (As := [_, _]) (pc := 26) dX1_playableSquares_26 lX1_37 kX0_isForbidden vX0_isForbidden hc.k (by decide) rfl (by decide) (by decide) (Nat.le_of_ble_eq_true rfl) rfl (eX0_isForbidden hc hC hw (by omega) (by omega) (by unfold zR; omega) ?_)
        refine rr_if_ne (pc := 29) (tgt := 47) dX1_playableSquares_29 (by decide) (by split <;> (unfold zR; omega)) (fun h29 => ?_) (fun h29 => ?_)
        · refine rr_iinc (pc := 47) dX1_playableSquares_47 rfl (by decide) ?_
          refine rr_goto (pc := 50) (tgt := 13) dX1_playableSquares_50 (by decide) ?_
          have g9 := ih (i + 1) Wi (by omega) (by omega) hO hG (by omega)
          rw [show (i + 1 - 1).toNat = (i - 1).toNat + 1 by omega] at g9
          unfold aPlC at g9
          rw [show (((i - 1).toNat : Nat) : Int) + 1 = i by omega, if_neg (fun z => z.1 (z_i10n h29)), Int.add_zero] at g9
          exact g9
        · refine rr_aload_n (pc := 32) dX1_playableSquares_32 rfl ?_
          refine rr_aload_n (pc := 33) dX1_playableSquares_33 rfl ?_
          refine rr_iload_n (pc := 34) dX1_playableSquares_34 rfl ?_
          refine rr_iload (pc := 35) dX1_playableSquares_35 rfl ?_
          refine rr_iload_n (pc := 37) dX1_playableSquares_37 rfl ?_
          refine rr_inv0 (M' := MX1_hasBothWays) (k := 97) (As := [_, _, _, _]) (pc := 38) dX1_playableSquares_38 lX1_41 kX1_hasBothWays vX1_hasBothWays zk_97 (by decide) rfl (by decide) (by decide) (Nat.le_of_ble_eq_true rfl) rfl (eX1_hasBothWays hc hC hw hG hq0 hq1 (by unfold zR; omega) hrc.1 hrc.2 (fun W1 o1 z1 => ?_))
          refine rr_if_eq (pc := 41) (tgt := 47) dX1_playableSquares_41 (by decide) (by split <;> (unfold zR; omega)) (fun h41 => ?_) (fun h41 => ?_)
          · refine rr_iinc (pc := 47) dX1_playableSquares_47 rfl (by decide) ?_
            refine rr_goto (pc := 50) (tgt := 13) dX1_playableSquares_50 (by decide) ?_
            have g9 := ih (i + 1) W1 (by omega) (by omega) (hO.tr o1) z1 (by omega)
            rw [show (i + 1 - 1).toNat = (i - 1).toNat + 1 by omega] at g9
            unfold aPlC at g9
            rw [show (((i - 1).toNat : Nat) : Int) + 1 = i by omega] at g9
            rw [if_neg (fun z => z.2 (z_i01 h41)), Int.add_zero] at g9
            exact g9
          · refine rr_iinc (pc := 44) dX1_playableSquares_44 rfl (by decide) ?_
            refine rr_iinc (pc := 47) dX1_playableSquares_47 rfl (by decide) ?_
            refine rr_goto (pc := 50) (tgt := 13) dX1_playableSquares_50 (by decide) ?_
            have g9 := ih (i + 1) W1 (by omega) (by omega) (hO.tr o1) z1 (by omega)
            rw [show (i + 1 - 1).toNat = (i - 1).toNat + 1 by omega] at g9
            unfold aPlC at g9
            rw [show (((i - 1).toNat : Nat) : Int) + 1 = i by omega] at g9
            rw [if_pos ⟨z_i10 h29, z_i01n h41⟩] at g9
            exact g9
  refine rr_aload_n (pc := 0) dX1_playableSquares_0 rfl ?_
  refine rr_iload_n (pc := 1) dX1_playableSquares_1 rfl ?_
  refine rr_iconst (n := 0) dX1_playableSquares_2 ?_
  refine rr_invN (M' := MX0_get) (k := c) (As := [_, _]) (pc := 3) dX1_playableSquares_3 lX1_23 kX0_get vX0_get hc.k (by decide) rfl (by decide) (by decide) (Nat.le_of_ble_eq_true rfl) rfl (eX0_get hc (by omega) (by omega) (by omega) (by omega) ?_)
  rw [hm.1, hrc9]
  refine rr_istore_n (pc := 6) dX1_playableSquares_6 (by decide) ?_
  refine rr_iconst (n := 0) dX1_playableSquares_7 ?_
  refine rr_istore (pc := 8) dX1_playableSquares_8 (by decide) ?_
  refine rr_iconst (n := 1) dX1_playableSquares_10 ?_
  refine rr_istore (pc := 11) dX1_playableSquares_11 (by decide) ?_
  exact loop _ 1 W (by omega) (by omega) zOffg.rf hg (Nat.lt_succ_self _)
theorem aPlay_rng {a : Int → Int} {q : Int} (h : a 1 ≤ 20) : 0 ≤ aPlay a q ∧ aPlay a q ≤ 20 := by
  have := aPlC_rng a q (a 1).toNat
  unfold aPlay
  omega
theorem aOth_rng {a : Int → Int} {q : Int} (h : a 1 ≤ 20) : ∀ n : Nat, 0 ≤ aOth a q n ∧ aOth a q n ≤ 20 * n := by
  intro n
  induction n with
  | zero => exact ⟨Int.le_refl _, Int.le_refl _⟩
  | succ n ih =>
    have := aPlay_rng (a := a) (q := n) h
    unfold aOth; split <;> omega
theorem dX1_playableByOthers_0 : decode cX1_playableByOthers 0 = .ok (.iconst 0, 1) := by decide +kernel
theorem dX1_playableByOthers_1 : decode cX1_playableByOthers 1 = .ok (.istore_n 3, 1) := by decide +kernel
theorem dX1_playableByOthers_2 : decode cX1_playableByOthers 2 = .ok (.iconst 0, 1) := by decide +kernel
theorem dX1_playableByOthers_3 : decode cX1_playableByOthers 3 = .ok (.istore 4, 2) := by decide +kernel
theorem dX1_playableByOthers_5 : decode cX1_playableByOthers 5 = .ok (.iload 4, 2) := by decide +kernel
theorem dX1_playableByOthers_7 : decode cX1_playableByOthers 7 = .ok (.aload_n 1, 1) := by decide +kernel
theorem dX1_playableByOthers_8 : decode cX1_playableByOthers 8 = .ok (.getfield 44, 3) := by decide +kernel
theorem dX1_playableByOthers_11 : decode cX1_playableByOthers 11 = .ok (.if_icmp .ge 25, 3) := by decide +kernel
theorem dX1_playableByOthers_14 : decode cX1_playableByOthers 14 = .ok (.iload 4, 2) := by decide +kernel
theorem dX1_playableByOthers_16 : decode cX1_playableByOthers 16 = .ok (.iload_n 2, 1) := by decide +kernel
theorem dX1_playableByOthers_17 : decode cX1_playableByOthers 17 = .ok (.if_icmp .eq 13, 3) := by decide +kernel
theorem dX1_playableByOthers_20 : decode cX1_playableByOthers 20 = .ok (.iload_n 3, 1) := by decide +kernel
theorem dX1_playableByOthers_21 : decode cX1_playableByOthers 21 = .ok (.aload_n 0, 1) := by decide +kernel
theorem dX1_playableByOthers_22 : decode cX1_playableByOthers 22 = .ok (.aload_n 1, 1) := by decide +kernel
theorem dX1_playableByOthers_23 : decode cX1_playableByOthers 23 = .ok (.iload 4, 2) := by decide +kernel
theorem dX1_playableByOthers_25 : decode cX1_playableByOthers 25 = .ok (.invokevirtual 47, 3) := by decide +kernel
theorem dX1_playableByOthers_28 : decode cX1_playableByOthers 28 = .ok (.iadd, 1) := by decide +kernel
theorem dX1_playableByOthers_29 : decode cX1_playableByOthers 29 = .ok (.istore_n 3, 1) := by decide +kernel
theorem dX1_playableByOthers_30 : decode cX1_playableByOthers 30 = .ok (.iinc 4 1, 3) := by decide +kernel
theorem dX1_playableByOthers_33 : decode cX1_playableByOthers 33 = .ok (.goto (-28), 3) := by decide +kernel
theorem dX1_playableByOthers_36 : decode cX1_playableByOthers 36 = .ok (.iload_n 3, 1) := by decide +kernel
theorem dX1_playableByOthers_37 : decode cX1_playableByOthers 37 = .ok (.ireturn, 1) := by decide +kernel
theorem eX1_playableByOthers {c : Nat} {W : zWd} {a : Int → Int} {T q : Int}  {Q : Option Value → zWd → Prop} {X : zX} (hc : zCt c) (hR : zCR W c a) (hw : zWf T a) (hg : zGm W) (hq0 : 0 ≤ q) (hq1 : q < a 2) (hq : ∀ W' : zWd, zOffg W W' → zGm W' → Q (some (zI (aOth a q (a 2).toNat))) W') : Ev MX1_playableByOthers 6 0 W [.ref 97, .ref c, zI q] Q X := by
  refine ev_of (ls := [.ref 97, .ref c, zI q, .null, .null]) (by decide) rfl (fun _ => rfl) (fun _ => Nat.le_of_ble_eq_true rfl) (Or.inl rfl) ?_
  obtain ⟨r0, r1, r2, r3, r4, r5, r6, r7, rF, rS, rP, rB⟩ := id hR
  obtain ⟨w0, w0', wW, w1, w2, w2', w3, w3', w4, w4', w5, w5', w6, w6', w7, w7', wS, wP, wT⟩ := id hw
  have wq := zWf.sq hw
  have loop : ∀ (n : Nat) (i : Int) (Wi : zWd), 0 ≤ i → i ≤ a 2 → zOffg W Wi → zGm Wi → (a 2 - i).toNat < n → RR MX1_playableByOthers 6 0 Wi 5 [.ref 97, .ref c, zI q, zI (aOth a q i.toNat), zI i] [] (zEnd MX1_playableByOthers Q X) X := by
    intro n
    induction n with
    | zero => intro i Wi _ _ _ _ hm9; omega
    | succ n ih =>
      intro i Wi h1 h2 hO hG hm9
      have hC := hR.g hc hO
      obtain ⟨q0, q1, q2, q3, q4, q5, q6, q7, qF, qS, qP, qB⟩ := id hC
      have hp := aOth_rng (a := a) (q := q) (by omega) i.toNat
      refine rr_iload (pc := 5) dX1_playableByOthers_5 rfl ?_
      refine rr_aload_n (pc := 7) dX1_playableByOthers_7 rfl ?_
      refine rr_getI (pc := 8) (ji := 2) dX1_playableByOthers_8 fX1_44 hc.k hc.i2 rfl ?_
      refine rr_icmp_ge (pc := 11) (tgt := 36) dX1_playableByOthers_11 (by decide) (by unfold zR; omega) (by unfold zR; omega) (fun h11 => ?_) (fun h11 => ?_)
      · refine rr_iload_n (pc := 36) dX1_playableByOthers_36 rfl ?_
        exact rr_reti (pc := 37) dX1_playableByOthers_37 rfl rfl (by rw [show i.toNat = (a 2).toNat by omega]) rfl (hq Wi hO hG)
      · refine rr_iload (pc := 14) dX1_playableByOthers_14 rfl ?_
        refine rr_iload_n (pc := 16) dX1_playableByOthers_16 rfl ?_
        refine rr_icmp_eq (pc := 17) (tgt := 30) dX1_playableByOthers_17 (by decide) (by unfold zR; omega) (by unfold zR; omega) (fun h17 => ?_) (fun h17 => ?_)
        · refine rr_iinc (pc := 30) dX1_playableByOthers_30 rfl (by decide) ?_
          refine rr_goto (pc := 33) (tgt := 5) dX1_playableByOthers_33 (by decide) ?_
          have g9 := ih (i + 1) Wi (by omega) (by omega) hO hG (by omega)
          rw [show (i + 1).toNat = i.toNat + 1 by omega] at g9
          unfold aOth at g9
          rw [show ((i.toNat : Nat) : Int) = i by omega, if_pos h17, Int.add_zero] at g9
          exact g9
        · refine rr_iload_n (pc := 20) dX1_playableByOthers_20 rfl ?_
          refine rr_aload_n (pc := 21) dX1_playableByOthers_21 rfl ?_
          refine rr_aload_n (pc := 22) dX1_playableByOthers_22 rfl ?_
          refine rr_iload (pc := 23) dX1_playableByOthers_23 rfl ?_
          refine rr_inv0 (M' := MX1_playableSquares) (k := 97) (As := [_, _]) (pc := 25) dX1_playableByOthers_25 lX1_47 kX1_playableSquares vX1_playableSquares zk_97 (by decide) rfl (by decide) (by decide) (Nat.le_of_ble_eq_true rfl) rfl (eX1_playableSquares hc hC hw hG (by omega) (by omega) (fun W1 o1 z1 => ?_))
          refine rr_iadd (pc := 28) dX1_playableByOthers_28 ?_
          refine rr_istore_n (pc := 29) dX1_playableByOthers_29 (by decide) ?_
          refine rr_iinc (pc := 30) dX1_playableByOthers_30 rfl (by decide) ?_
          refine rr_goto (pc := 33) (tgt := 5) dX1_playableByOthers_33 (by decide) ?_
          have g9 := ih (i + 1) W1 (by omega) (by omega) (hO.tr o1) z1 (by omega)
          rw [show (i + 1).toNat = i.toNat + 1 by omega] at g9
          unfold aOth at g9
          rw [show ((i.toNat : Nat) : Int) = i by omega, if_neg h17] at g9
          exact g9
  refine rr_iconst (n := 0) dX1_playableByOthers_0 ?_
  refine rr_istore_n (pc := 1) dX1_playableByOthers_1 (by decide) ?_
  refine rr_iconst (n := 0) dX1_playableByOthers_2 ?_
  refine rr_istore (pc := 3) dX1_playableByOthers_3 (by decide) ?_
  exact loop _ 0 W (by omega) (by omega) zOffg.rf hg (Nat.lt_succ_self _)
/-- the squares that a hop may land on -/
def aUm (a : Int → Int) (q : Int) : Int → Bool := fun s => (aUset a q (zMks a (-1) (a 2).toNat)).testBit s.toNat
theorem zMks_21 {T : Int} {a : Int → Int} {w : Int} (hw : zWf T a) : zMks a w (a 2).toNat < 2097152 := by
  have hsq := zWf.sq hw
  have h9 := zMks_lt (a := a) (w := w) (a 2).toNat (fun q h0 h1 => by
    have hm2 := hw.2.2.2.2.2.2.2.2.2.2.2.2.2.2.2.2.2.1 q h0 (by omega)
    unfold zWfP at hm2
    omega)
  exact h9
theorem z_drop {R : List Int} {i : Nat} (h : i < R.length) : R.drop i = R.getD i 0 :: R.drop (i + 1) := by
  rw [List.drop_eq_getElem_cons h, List.getD_eq_getElem?_getD, List.getElem?_eq_getElem h]; rfl
theorem aO_S1 {a : Int → Int} {s s' v : Int} : aO (iup a (18 + 2 * (s - 1) + 1) v) s' = aO a s' := by unfold aO; rw [iup_n (by omega)]
theorem aLd_O (P : Int → Bool) : ∀ (n : Nat) (s : Int) (a : Int → Int) (s' : Int), aO (aLd P n s a) s' = aO a s' := by
  intro n
  induction n with
  | zero => intro s a s'; rfl
  | succ n ih =>
    intro s a s'
    unfold aLd
    rw [ih]
    split
    · exact aO_S1
    · rfl
theorem aLand_O {a : Int → Int} {r : Int} {P : Int → Bool} {s' : Int} : aO (aLand a r P) s' = aO a s' := by
  unfold aLand; split
  · rfl
  · exact aLd_O P _ _ a s'
theorem aLands_O {P : Int → Bool} {s' : Int} : ∀ (R : List Int) (a : Int → Int), aO (aLands P R a) s' = aO a s' := by
  intro R
  induction R with
  | nil => intro a; rfl
  | cons r t ih => intro a; show aO (aLands P t (aLand a r P)) s' = _; rw [ih, aLand_O]
theorem dX1_makeHops_0 : decode cX1_makeHops 0 = .ok (.aload_n 0, 1) := by decide +kernel
theorem dX1_makeHops_1 : decode cX1_makeHops 1 = .ok (.iload_n 1, 1) := by decide +kernel
theorem dX1_makeHops_2 : decode cX1_makeHops 2 = .ok (.aload_n 0, 1) := by decide +kernel
theorem dX1_makeHops_3 : decode cX1_makeHops 3 = .ok (.iconst (-1), 1) := by decide +kernel
theorem dX1_makeHops_4 : decode cX1_makeHops 4 = .ok (.invokevirtual 83, 3) := by decide +kernel
theorem dX1_makeHops_7 : decode cX1_makeHops 7 = .ok (.invokevirtual 87, 3) := by decide +kernel
theorem dX1_makeHops_10 : decode cX1_makeHops 10 = .ok (.istore_n 3, 1) := by decide +kernel
theorem dX1_makeHops_11 : decode cX1_makeHops 11 = .ok (.iconst 0, 1) := by decide +kernel
theorem dX1_makeHops_12 : decode cX1_makeHops 12 = .ok (.istore 4, 2) := by decide +kernel
theorem dX1_makeHops_14 : decode cX1_makeHops 14 = .ok (.iload 4, 2) := by decide +kernel
theorem dX1_makeHops_16 : decode cX1_makeHops 16 = .ok (.aload_n 2, 1) := by decide +kernel
theorem dX1_makeHops_17 : decode cX1_makeHops 17 = .ok (.getfield 90, 3) := by decide +kernel
theorem dX1_makeHops_20 : decode cX1_makeHops 20 = .ok (.if_icmp .ge 21, 3) := by decide +kernel
theorem dX1_makeHops_23 : decode cX1_makeHops 23 = .ok (.aload_n 0, 1) := by decide +kernel
theorem dX1_makeHops_24 : decode cX1_makeHops 24 = .ok (.aload_n 2, 1) := by decide +kernel
theorem dX1_makeHops_25 : decode cX1_makeHops 25 = .ok (.getfield 93, 3) := by decide +kernel
theorem dX1_makeHops_28 : decode cX1_makeHops 28 = .ok (.iload 4, 2) := by decide +kernel
theorem dX1_makeHops_30 : decode cX1_makeHops 30 = .ok (.iaload, 1) := by decide +kernel
theorem dX1_makeHops_31 : decode cX1_makeHops 31 = .ok (.iload_n 3, 1) := by decide +kernel
theorem dX1_makeHops_32 : decode cX1_makeHops 32 = .ok (.invokevirtual 97, 3) := by decide +kernel
theorem dX1_makeHops_35 : decode cX1_makeHops 35 = .ok (.iinc 4 1, 3) := by decide +kernel
theorem dX1_makeHops_38 : decode cX1_makeHops 38 = .ok (.goto (-24), 3) := by decide +kernel
theorem dX1_makeHops_41 : decode cX1_makeHops 41 = .ok (.aload_n 0, 1) := by decide +kernel
theorem dX1_makeHops_42 : decode cX1_makeHops 42 = .ok (.dup, 1) := by decide +kernel
theorem dX1_makeHops_43 : decode cX1_makeHops 43 = .ok (.getfield 101, 3) := by decide +kernel
theorem dX1_makeHops_46 : decode cX1_makeHops 46 = .ok (.aload_n 2, 1) := by decide +kernel
theorem dX1_makeHops_47 : decode cX1_makeHops 47 = .ok (.getfield 90, 3) := by decide +kernel
theorem dX1_makeHops_50 : decode cX1_makeHops 50 = .ok (.iadd, 1) := by decide +kernel
theorem dX1_makeHops_51 : decode cX1_makeHops 51 = .ok (.putfield 101, 3) := by decide +kernel
theorem dX1_makeHops_54 : decode cX1_makeHops 54 = .ok (.return_, 1) := by decide +kernel
theorem eX1_makeHops {c w : Nat} {W : zWd} {a : Int → Int} {T q : Int} {R : List Int}  {Q : Option Value → zWd → Prop} {X : zX} (hc : zCt c) (hw9 : zWy w) (hR : zCR W c a) (hw : zWf T a) (hqz : zR q) (hT : T + R.length ≤ 100000000) (hR11 : R.length ≤ 11) (hl : W w 2 = R.length) (hrows : ∀ i : Nat, i < R.length → W (w + 1) i = R.getD i 0) (hRz : ∀ i : Nat, i < R.length → zR (R.getD i 0)) (hq : ∀ W' : zWd, zOff c W W' → zCR W' c (aMkH a (aUm a q) R) → Q none W') : Ev MX1_makeHops 2 0 W [.ref c, zI q, .ref w] Q X := by
  refine ev_of (ls := [.ref c, zI q, .ref w, .null, .null]) (by decide) rfl (fun _ => rfl) (fun _ => Nat.le_of_ble_eq_true rfl) (Or.inl rfl) ?_
  obtain ⟨r0, r1, r2, r3, r4, r5, r6, r7, rF, rS, rP, rB⟩ := id hR
  obtain ⟨w0, w0', wW, w1, w2, w2', w3, w3', w4, w4', w5, w5', w6, w6', w7, w7', wS, wP, wT⟩ := id hw
  have wq := zWf.sq hw
  have hu := aUset_lt (q := q) (m := zMks a (-1) (a 2).toNat) wq.2
  have w98 : 98 ≤ w := by rcases hw9 with h | h <;> omega
  have loop : ∀ (n : Nat) (i : Nat) (Wi : zWd) (ai : Int → Int), i ≤ R.length → zOff c W Wi → zCR Wi c ai → zWf (T + (i : Nat)) ai → aLands (aUm a q) (R.drop i) ai = aLands (aUm a q) R a → R.length - i < n → RR MX1_makeHops 2 0 Wi 14 [.ref c, zI q, .ref w, zI (aUset a q (zMks a (-1) (a 2).toNat) : Nat), zI (i : Int)] [] (zEnd MX1_makeHops Q X) X := by
    intro n
    induction n with
    | zero => intro i Wi ai _ _ _ _ _ hm9; omega
    | succ n ih =>
      intro i Wi ai h2 hO hC hF hL hm9
      have k2 : Wi w 2 = R.length := by rw [hO w (by have := hc.lt; omega)]; exact hl
      have k1 : Wi (w + 1) = W (w + 1) := hO (w + 1) (by have := hc.lt; omega)
      refine rr_iload (pc := 14) dX1_makeHops_14 rfl ?_
      refine rr_aload_n (pc := 16) dX1_makeHops_16 rfl ?_
      refine rr_getI (pc := 17) (ji := 2) dX1_makeHops_17 fX1_90 hw9.k hw9.i2 rfl ?_
      rw [k2]
      refine rr_icmp_ge (pc := 20) (tgt := 41) dX1_makeHops_20 (by decide) (by unfold zR; omega) (by unfold zR; omega) (fun h20 => ?_) (fun h20 => ?_)
      · refine rr_aload_n (pc := 41) dX1_makeHops_41 rfl ?_
        refine rr_dup_r (pc := 42) dX1_makeHops_42 ?_
        refine rr_getI (pc := 43) (ji := 6) dX1_makeHops_43 fX1_101 hc.k hc.i6 rfl ?_
        rw [hC.2.2.2.2.2.2.1]
        refine rr_aload_n (pc := 46) dX1_makeHops_46 rfl ?_
        refine rr_getI (pc := 47) (ji := 2) dX1_makeHops_47 fX1_90 hw9.k hw9.i2 rfl ?_
        rw [k2]
        refine rr_iadd (pc := 50) dX1_makeHops_50 ?_
        refine rr_put (pc := 51) (ji := 6) dX1_makeHops_51 fX1_101 fp_0_6 hc.k hc.i6 rfl ?_
        rw [List.drop_of_length_le (by omega)] at hL
        have hL : ai = aLands (aUm a q) R a := hL
        have h6 : ai 6 = a 6 := by rw [hL]; exact aLands_out (by omega) R T a hw hT
        have hX : aMkH a (aUm a q) R = iup ai 6 (ai 6 + R.length) := by unfold aMkH; rw [← hL, h6]
        rw [hX] at hq
        exact rr_retv (pc := 54) dX1_makeHops_54 rfl rfl (hq _ (hO.up (by omega)) (CR_0 hC (by omega)))
      · refine rr_aload_n (pc := 23) dX1_makeHops_23 rfl ?_
        refine rr_aload_n (pc := 24) dX1_makeHops_24 rfl ?_
        refine rr_getR (pc := 25) dX1_makeHops_25 fX1_93 hw9.k hw9.r3 ?_
        refine rr_iload (pc := 28) dX1_makeHops_28 rfl ?_
        refine rr_iald (pc := 30) dX1_makeHops_30 hw9.a1 (by omega) (by omega) ?_
        rw [k1, hrows i (by omega)]
        refine rr_iload_n (pc := 31) dX1_makeHops_31 rfl ?_
        refine rr_invN (M' := MX0_addLandings) (k := c) (As := [_, _]) (pc := 32) dX1_makeHops_32 lX1_97 kX0_addLandings vX0_addLandings hc.k (by decide) rfl (by decide) (by decide) (Nat.le_of_ble_eq_true rfl) rfl (eX0_addLandings (r := R.getD i 0) hc hC hF (hRz _ (by omega)) hu (fun W1 o1 c1 => ?_))
        refine rr_iinc (pc := 35) dX1_makeHops_35 rfl (by decide) ?_
        refine rr_goto (pc := 38) (tgt := 14) dX1_makeHops_38 (by decide) ?_
        exact ih (i + 1) W1 _ (by omega) (hO.tr o1) c1 (by rw [show T + ((i + 1 : Nat) : Int) = T + (i : Nat) + 1 by omega]; exact aLand_wf hF (by omega)) (by rw [z_drop (show i < R.length by omega)] at hL; exact hL) (by omega)
  refine rr_aload_n (pc := 0) dX1_makeHops_0 rfl ?_
  refine rr_iload_n (pc := 1) dX1_makeHops_1 rfl ?_
  refine rr_aload_n (pc := 2) dX1_makeHops_2 rfl ?_
  refine rr_iconst (n := (-1)) dX1_makeHops_3 ?_
  refine rr_invN (M' := MX0_markedSquares) (k := c) (As := [_]) (pc := 4) dX1_makeHops_4 lX1_83 kX0_markedSquares vX0_markedSquares hc.k (by decide) rfl (by decide) (by decide) (Nat.le_of_ble_eq_true rfl) rfl (eX0_markedSquares hc hR hw (by unfold zR; omega) ?_)
  refine rr_invN (M' := MX0_usableSet) (k := c) (As := [_, _]) (pc := 7) dX1_makeHops_7 lX1_87 kX0_usableSet vX0_usableSet hc.k (by decide) rfl (by decide) (by decide) (Nat.le_of_ble_eq_true rfl) rfl (eX0_usableSet hc hR hw hqz (zMks_21 hw) ?_)
  refine rr_istore_n (pc := 10) dX1_makeHops_10 (by decide) ?_
  refine rr_iconst (n := 0) dX1_makeHops_11 ?_
  refine rr_istore (pc := 12) dX1_makeHops_12 (by decide) ?_
  exact loop _ 0 W a (by omega) zOff.rf hR (by rw [show T + ((0 : Nat) : Int) = T by omega]; exact hw) rfl (Nat.lt_succ_self _)
