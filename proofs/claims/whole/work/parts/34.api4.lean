theorem dX6_turn_0 : decode cX6_turn 0 = .ok (.iload_n 1, 1) := by decide +kernel
theorem dX6_turn_1 : decode cX6_turn 1 = .ok (.iload_n 2, 1) := by decide +kernel
theorem dX6_turn_2 : decode cX6_turn 2 = .ok (.invokestatic 191, 3) := by decide +kernel
theorem dX6_turn_5 : decode cX6_turn 5 = .ok (.aload_n 0, 1) := by decide +kernel
theorem dX6_turn_6 : decode cX6_turn 6 = .ok (.getfield 29, 3) := by decide +kernel
theorem dX6_turn_9 : decode cX6_turn 9 = .ok (.aload_n 0, 1) := by decide +kernel
theorem dX6_turn_10 : decode cX6_turn 10 = .ok (.getfield 12, 3) := by decide +kernel
theorem dX6_turn_13 : decode cX6_turn 13 = .ok (.invokevirtual 90, 3) := by decide +kernel
theorem dX6_turn_16 : decode cX6_turn 16 = .ok (.aload_n 0, 1) := by decide +kernel
theorem dX6_turn_17 : decode cX6_turn 17 = .ok (.getfield 22, 3) := by decide +kernel
theorem dX6_turn_20 : decode cX6_turn 20 = .ok (.aload_n 0, 1) := by decide +kernel
theorem dX6_turn_21 : decode cX6_turn 21 = .ok (.getfield 12, 3) := by decide +kernel
theorem dX6_turn_24 : decode cX6_turn 24 = .ok (.iload_n 1, 1) := by decide +kernel
theorem dX6_turn_25 : decode cX6_turn 25 = .ok (.iload_n 2, 1) := by decide +kernel
theorem dX6_turn_26 : decode cX6_turn 26 = .ok (.invokevirtual 242, 3) := by decide +kernel
theorem dX6_turn_29 : decode cX6_turn 29 = .ok (.ireturn, 1) := by decide +kernel
theorem eX6_turn {W : zWd} {a : Int → Int} {T n : Int} {K : Nat → (Int → Int)} {r s : Int} {Q : Option Value → zWd → Prop} {X : zX} (hR : zCR W 0 a) (hw : zWf T a) (hH : zHi W n K) (hg : zGm W) (hT : T + 26 ≤ 100000000) (hz2 : zR r) (hz3 : zR s) (hq : (0 ≤ r ∧ r ≤ 199 ∧ 0 ≤ s ∧ s ≤ 1) → ∀ W' : zWd, zOffC W W' → zGm W' → zCR W' 0 (aTurn a r s) → zHi W' (if n + 1 < 8 then n + 1 else 8) (zPush a K) → Q (some (zI (aTfault a r s))) W') (hx : ¬ (0 ≤ r ∧ r ≤ 199 ∧ 0 ≤ s ∧ s ≤ 1) → X "java/lang/IllegalArgumentException" W) : Ev MX6_turn 8 1 W [.ref 96, zI r, zI s] Q X := by
  refine ev_of (ls := [.ref 96, zI r, zI s]) (by decide) rfl (fun _ => rfl) (fun _ => Nat.le_of_ble_eq_true rfl) (Or.inr (by decide)) ?_
  obtain ⟨r0, r1, r2, r3, r4, r5, r6, r7, rF, rS, rP, rB⟩ := id hR
  obtain ⟨w0, w0', wW, w1, w2, w2', w3, w3', w4, w4', w5, w5', w6, w6', w7, w7', wS, wP, wT⟩ := id hw
  have wq := zWf.sq hw
  refine rr_iload_n (pc := 0) dX6_turn_0 rfl ?_
  refine rr_iload_n (pc := 1) dX6_turn_1 rfl ?_
  refine rr_sta (M' := MX6_checkThrow) (As := [_, _]) (t' := 1) (pc := 2) dX6_turn_2 lX6_191 kX6_checkThrow sX6_checkThrow (by decide) (by decide) (by decide) (Nat.le_of_ble_eq_true rfl) rfl (eX6_checkThrow hz2 hz3 (fun j0 j1 j2 j3 => ?_) hx)
  refine rr_aload_n (pc := 5) dX6_turn_5 rfl ?_
  refine rr_getR (pc := 6) dX6_turn_6 fX6_29 zk_96 zr_96_3 ?_
  refine rr_aload_n (pc := 9) dX6_turn_9 rfl ?_
  refine rr_getR (pc := 10) dX6_turn_10 fX6_12 zk_96 zr_96_0 ?_
  refine rr_invN (M' := MX2_keep) (k := 108) (As := [_]) (pc := 13) dX6_turn_13 lX6_90 kX2_keep vX2_keep zk_108 (by decide) rfl (by decide) (by decide) (Nat.le_of_ble_eq_true rfl) rfl (eX2_keep hR hw hH (fun W1 o1 i1 => ?_))
  have c1 : zCR W1 0 a := CR_off hR (fun k g1 g2 => o1 k (Or.inl (by omega)) (by omega))
  have g1 := o1.g hg
  have hm1 := c1.2.2.2.2.2.2.2.2.2.2.1
  refine rr_aload_n (pc := 16) dX6_turn_16 rfl ?_
  refine rr_getR (pc := 17) dX6_turn_17 fX6_22 zk_96 zr_96_2 ?_
  refine rr_aload_n (pc := 20) dX6_turn_20 rfl ?_
  refine rr_getR (pc := 21) dX6_turn_21 fX6_12 zk_96 zr_96_0 ?_
  refine rr_iload_n (pc := 24) dX6_turn_24 rfl ?_
  refine rr_iload_n (pc := 25) dX6_turn_25 rfl ?_
  refine rr_invN (M' := MX1_playTurn) (k := 97) (As := [_, _, _]) (pc := 26) dX6_turn_26 lX6_242 kX1_playTurn vX1_playTurn zk_97 (by decide) rfl (by decide) (by decide) (Nat.le_of_ble_eq_true rfl) rfl (eX1_playTurn zCt_0 c1 hw g1 hT j0 j1 j2 j3 (fun W2 o2 g2 c2 => ?_))
  exact rr_reti (pc := 29) dX6_turn_29 rfl rfl rfl rfl (hq ⟨j0, j1, j2, j3⟩ W2 (o1.C.tr (o2.C (by omega))) g2 c2 (i1.p o2 (by omega)))
theorem dX6_pass_0 : decode cX6_pass 0 = .ok (.aload_n 0, 1) := by decide +kernel
theorem dX6_pass_1 : decode cX6_pass 1 = .ok (.getfield 29, 3) := by decide +kernel
theorem dX6_pass_4 : decode cX6_pass 4 = .ok (.aload_n 0, 1) := by decide +kernel
theorem dX6_pass_5 : decode cX6_pass 5 = .ok (.getfield 12, 3) := by decide +kernel
theorem dX6_pass_8 : decode cX6_pass 8 = .ok (.invokevirtual 90, 3) := by decide +kernel
theorem dX6_pass_11 : decode cX6_pass 11 = .ok (.aload_n 0, 1) := by decide +kernel
theorem dX6_pass_12 : decode cX6_pass 12 = .ok (.getfield 12, 3) := by decide +kernel
theorem dX6_pass_15 : decode cX6_pass 15 = .ok (.iconst 0, 1) := by decide +kernel
theorem dX6_pass_16 : decode cX6_pass 16 = .ok (.invokevirtual 246, 3) := by decide +kernel
theorem dX6_pass_19 : decode cX6_pass 19 = .ok (.aload_n 0, 1) := by decide +kernel
theorem dX6_pass_20 : decode cX6_pass 20 = .ok (.getfield 12, 3) := by decide +kernel
theorem dX6_pass_23 : decode cX6_pass 23 = .ok (.getfield 112, 3) := by decide +kernel
theorem dX6_pass_26 : decode cX6_pass 26 = .ok (.ireturn, 1) := by decide +kernel
theorem eX6_pass {W : zWd} {a : Int → Int} {T n : Int} {K : Nat → (Int → Int)}  {Q : Option Value → zWd → Prop} {X : zX} (hR : zCR W 0 a) (hw : zWf T a) (hH : zHi W n K) (hg : zGm W) (hq : ∀ W' : zWd, zOffC W W' → zGm W' → zCR W' 0 (aEnd a (a 4) 0) → zHi W' (if n + 1 < 8 then n + 1 else 8) (zPush a K) → Q (some (zI ((a 4 + 1) % a 2))) W')  : Ev MX6_pass 7 0 W [.ref 96] Q X := by
  refine ev_of (ls := [.ref 96]) (by decide) rfl (fun _ => rfl) (fun _ => Nat.le_of_ble_eq_true rfl) (Or.inl rfl) ?_
  obtain ⟨r0, r1, r2, r3, r4, r5, r6, r7, rF, rS, rP, rB⟩ := id hR
  obtain ⟨w0, w0', wW, w1, w2, w2', w3, w3', w4, w4', w5, w5', w6, w6', w7, w7', wS, wP, wT⟩ := id hw
  have wq := zWf.sq hw
  refine rr_aload_n (pc := 0) dX6_pass_0 rfl ?_
  refine rr_getR (pc := 1) dX6_pass_1 fX6_29 zk_96 zr_96_3 ?_
  refine rr_aload_n (pc := 4) dX6_pass_4 rfl ?_
  refine rr_getR (pc := 5) dX6_pass_5 fX6_12 zk_96 zr_96_0 ?_
  refine rr_invN (M' := MX2_keep) (k := 108) (As := [_]) (pc := 8) dX6_pass_8 lX6_90 kX2_keep vX2_keep zk_108 (by decide) rfl (by decide) (by decide) (Nat.le_of_ble_eq_true rfl) rfl (eX2_keep hR hw hH (fun W1 o1 i1 => ?_))
  have c1 : zCR W1 0 a := CR_off hR (fun k g1 g2 => o1 k (Or.inl (by omega)) (by omega))
  have g1 := o1.g hg
  have hm1 := c1.2.2.2.2.2.2.2.2.2.2.1
  refine rr_aload_n (pc := 11) dX6_pass_11 rfl ?_
  refine rr_getR (pc := 12) dX6_pass_12 fX6_12 zk_96 zr_96_0 ?_
  refine rr_iconst (n := 0) dX6_pass_15 ?_
  refine rr_invN (M' := MX0_endTurn) (k := 0) (As := [_]) (pc := 16) dX6_pass_16 lX6_246 kX0_endTurn vX0_endTurn zCt_0.k (by decide) rfl (by decide) (by decide) (Nat.le_of_ble_eq_true rfl) rfl (eX0_endTurn zCt_0 c1 hw (by omega) (by omega) (fun W2 o2 c2 => ?_))
  have c2 : zCR W2 0 (aEnd a (a 4) 0) := by
    rw [show aFlt a (a 4) 0 = a from if_pos rfl] at c2; exact c2
  refine rr_aload_n (pc := 19) dX6_pass_19 rfl ?_
  refine rr_getR (pc := 20) dX6_pass_20 fX6_12 zk_96 zr_96_0 ?_
  refine rr_getI (pc := 23) (ji := 4) dX6_pass_23 fX6_112 zCt_0.k zCt_0.i4 rfl ?_
  rw [c2.2.2.2.2.1]
  exact rr_reti (pc := 26) dX6_pass_26 rfl rfl (show _ = aEnd a (a 4) 0 4 from iup_s.symm) rfl (hq W2 (o1.C.tr (o2.C (by omega))) (g1.c zCt_0 o2) c2 (i1.c0 o2))
def aClaim (a : Int → Int) (p s : Int) : Int → Int := aMend (iup (iup a (58 + 17 * p + 3) (aP a p 3 - 1)) (18 + 2 * (s - 1) + (0 : Nat)) (p + 1))
def aRelease (a : Int → Int) (s : Int) : Int → Int := aMend (iup a (18 + 2 * (s - 1) + (0 : Nat)) (-1 + 1))
def aSetP (a : Int → Int) (p w v : Int) : Int → Int := aMend (iup a (58 + 17 * p + w) v)
theorem aMend_1 {a : Int → Int} {j : Int} (hj : j < 58) : aMend a j = a j := aMendN_low _ _ hj
theorem z_mk {s : Int} (h : s = -1 ∨ 1 ≤ s) : s = if (if s = -1 then 0 else s) = 0 then -1 else (if s = -1 then 0 else s) := by (repeat' split) <;> omega
theorem aMend_wf {T : Int} {a : Int → Int} (hw : zWf T a) : zWf T (aMend a) := aMendN_wf hw _ (by have := hw.2.2.2.2.1; omega)
theorem aMend_O {a : Int → Int} {s : Int} (hs : s ≤ 20) : aO (aMend a) s = aO a s := by unfold aO; rw [aMend_1 (by omega)]
theorem aNown_cg {a a' : Int → Int} {q : Int} (h1 : a' 1 = a 1) (h20 : a 1 ≤ 20) (h : ∀ s : Int, s ≤ 20 → aO a' s = aO a s) : aNown a' q = aNown a q := by
  unfold aNown
  rw [h1]
  congr 1
  have key : ∀ n : Nat, n ≤ 20 → zSet (fun s => decide (aO a' s = q)) n = zSet (fun s => decide (aO a s = q)) n := by
    intro n
    induction n with
    | zero => intro _; rfl
    | succ n ih => intro hn; unfold zSet; rw [ih (by omega), h _ (by omega)]
  exact key _ (by omega)
theorem dX6_claim_0 : decode cX6_claim 0 = .ok (.aload_n 0, 1) := by decide +kernel
theorem dX6_claim_1 : decode cX6_claim 1 = .ok (.iload_n 1, 1) := by decide +kernel
theorem dX6_claim_2 : decode cX6_claim 2 = .ok (.invokevirtual 139, 3) := by decide +kernel
theorem dX6_claim_5 : decode cX6_claim 5 = .ok (.aload_n 0, 1) := by decide +kernel
theorem dX6_claim_6 : decode cX6_claim 6 = .ok (.iload_n 2, 1) := by decide +kernel
theorem dX6_claim_7 : decode cX6_claim 7 = .ok (.invokevirtual 151, 3) := by decide +kernel
theorem dX6_claim_10 : decode cX6_claim 10 = .ok (.aload_n 0, 1) := by decide +kernel
theorem dX6_claim_11 : decode cX6_claim 11 = .ok (.getfield 12, 3) := by decide +kernel
theorem dX6_claim_14 : decode cX6_claim 14 = .ok (.iload_n 1, 1) := by decide +kernel
theorem dX6_claim_15 : decode cX6_claim 15 = .ok (.iconst 3, 1) := by decide +kernel
theorem dX6_claim_16 : decode cX6_claim 16 = .ok (.invokevirtual 147, 3) := by decide +kernel
theorem dX6_claim_19 : decode cX6_claim 19 = .ok (.istore_n 3, 1) := by decide +kernel
theorem dX6_claim_20 : decode cX6_claim 20 = .ok (.iload_n 3, 1) := by decide +kernel
theorem dX6_claim_21 : decode cX6_claim 21 = .ok (.ifCond .ne 6, 3) := by decide +kernel
theorem dX6_claim_24 : decode cX6_claim 24 = .ok (.bipush (-11), 2) := by decide +kernel
theorem dX6_claim_26 : decode cX6_claim 26 = .ok (.ireturn, 1) := by decide +kernel
theorem dX6_claim_27 : decode cX6_claim 27 = .ok (.aload_n 0, 1) := by decide +kernel
theorem dX6_claim_28 : decode cX6_claim 28 = .ok (.getfield 12, 3) := by decide +kernel
theorem dX6_claim_31 : decode cX6_claim 31 = .ok (.getfield 161, 3) := by decide +kernel
theorem dX6_claim_34 : decode cX6_claim 34 = .ok (.iload_n 2, 1) := by decide +kernel
theorem dX6_claim_35 : decode cX6_claim 35 = .ok (.iaload, 1) := by decide +kernel
theorem dX6_claim_36 : decode cX6_claim 36 = .ok (.iconst (-1), 1) := by decide +kernel
theorem dX6_claim_37 : decode cX6_claim 37 = .ok (.if_icmp .eq 6, 3) := by decide +kernel
theorem dX6_claim_40 : decode cX6_claim 40 = .ok (.bipush (-12), 2) := by decide +kernel
theorem dX6_claim_42 : decode cX6_claim 42 = .ok (.ireturn, 1) := by decide +kernel
theorem dX6_claim_43 : decode cX6_claim 43 = .ok (.aload_n 0, 1) := by decide +kernel
theorem dX6_claim_44 : decode cX6_claim 44 = .ok (.getfield 29, 3) := by decide +kernel
theorem dX6_claim_47 : decode cX6_claim 47 = .ok (.aload_n 0, 1) := by decide +kernel
theorem dX6_claim_48 : decode cX6_claim 48 = .ok (.getfield 12, 3) := by decide +kernel
theorem dX6_claim_51 : decode cX6_claim 51 = .ok (.invokevirtual 90, 3) := by decide +kernel
theorem dX6_claim_54 : decode cX6_claim 54 = .ok (.aload_n 0, 1) := by decide +kernel
theorem dX6_claim_55 : decode cX6_claim 55 = .ok (.getfield 12, 3) := by decide +kernel
theorem dX6_claim_58 : decode cX6_claim 58 = .ok (.iload_n 1, 1) := by decide +kernel
theorem dX6_claim_59 : decode cX6_claim 59 = .ok (.iconst 3, 1) := by decide +kernel
theorem dX6_claim_60 : decode cX6_claim 60 = .ok (.iload_n 3, 1) := by decide +kernel
theorem dX6_claim_61 : decode cX6_claim 61 = .ok (.iconst 1, 1) := by decide +kernel
theorem dX6_claim_62 : decode cX6_claim 62 = .ok (.isub, 1) := by decide +kernel
theorem dX6_claim_63 : decode cX6_claim 63 = .ok (.invokevirtual 249, 3) := by decide +kernel
theorem dX6_claim_66 : decode cX6_claim 66 = .ok (.aload_n 0, 1) := by decide +kernel
theorem dX6_claim_67 : decode cX6_claim 67 = .ok (.getfield 12, 3) := by decide +kernel
theorem dX6_claim_70 : decode cX6_claim 70 = .ok (.getfield 161, 3) := by decide +kernel
theorem dX6_claim_73 : decode cX6_claim 73 = .ok (.iload_n 2, 1) := by decide +kernel
theorem dX6_claim_74 : decode cX6_claim 74 = .ok (.iload_n 1, 1) := by decide +kernel
theorem dX6_claim_75 : decode cX6_claim 75 = .ok (.iastore, 1) := by decide +kernel
theorem dX6_claim_76 : decode cX6_claim 76 = .ok (.aload_n 0, 1) := by decide +kernel
theorem dX6_claim_77 : decode cX6_claim 77 = .ok (.getfield 12, 3) := by decide +kernel
theorem dX6_claim_80 : decode cX6_claim 80 = .ok (.invokevirtual 253, 3) := by decide +kernel
theorem dX6_claim_83 : decode cX6_claim 83 = .ok (.aload_n 0, 1) := by decide +kernel
theorem dX6_claim_84 : decode cX6_claim 84 = .ok (.getfield 12, 3) := by decide +kernel
theorem dX6_claim_87 : decode cX6_claim 87 = .ok (.iload_n 1, 1) := by decide +kernel
theorem dX6_claim_88 : decode cX6_claim 88 = .ok (.invokevirtual 144, 3) := by decide +kernel
theorem dX6_claim_91 : decode cX6_claim 91 = .ok (.invokestatic 256, 3) := by decide +kernel
theorem dX6_claim_94 : decode cX6_claim 94 = .ok (.ireturn, 1) := by decide +kernel
theorem eX6_claim {W : zWd} {a : Int → Int} {T n : Int} {K : Nat → (Int → Int)} {p s : Int} {Q : Option Value → zWd → Prop} {X : zX} (hR : zCR W 0 a) (hw : zWf T a) (hH : zHi W n K) (hg : zGm W) (hz : zR p) (hz2 : zR s) (hq1 : 0 ≤ p → p < a 2 → 1 ≤ s → s ≤ a 1 → aP a p 3 = 0 → Q (some (zI (-11))) W) (hq2 : 0 ≤ p → p < a 2 → 1 ≤ s → s ≤ a 1 → aP a p 3 ≠ 0 → aO a s ≠ -1 → Q (some (zI (-12))) W) (hq : 0 ≤ p → p < a 2 → 1 ≤ s → s ≤ a 1 → aP a p 3 ≠ 0 → aO a s = -1 → ∀ W' : zWd, zOffC W W' → zGm W' → zCR W' 0 (aClaim a p s) → zHi W' (if n + 1 < 8 then n + 1 else 8) (zPush a K) → Q (some (zI ((aNown (aClaim a p s) p : Nat)))) W') (hx : ¬ ((0 ≤ p ∧ p < a 2) ∧ 1 ≤ s ∧ s ≤ a 1) → X "java/lang/IndexOutOfBoundsException" W) : Ev MX6_claim 8 2 W [.ref 96, zI p, zI s] Q X := by
  refine ev_of (ls := [.ref 96, zI p, zI s, .null]) (by decide) rfl (fun _ => rfl) (fun _ => Nat.le_of_ble_eq_true rfl) (Or.inr (by decide)) ?_
  obtain ⟨r0, r1, r2, r3, r4, r5, r6, r7, rF, rS, rP, rB⟩ := id hR
  obtain ⟨w0, w0', wW, w1, w2, w2', w3, w3', w4, w4', w5, w5', w6, w6', w7, w7', wS, wP, wT⟩ := id hw
  have wq := zWf.sq hw
  have hn0 : zR (W 0 0) := by unfold zR; omega
  have hn1 : zR (W 0 1) := by unfold zR; omega
  have hn2 : zR (W 0 2) := by unfold zR; omega
  refine rr_aload_n (pc := 0) dX6_claim_0 rfl ?_
  refine rr_iload_n (pc := 1) dX6_claim_1 rfl ?_
  refine rr_inv (M' := MX6_checkPlayer) (k := 96) (As := [_]) (t' := 1) (pc := 2) dX6_claim_2 lX6_139 kX6_checkPlayer vX6_checkPlayer zk_96 (by decide) rfl (by decide) (by decide) (by decide) (Nat.le_of_ble_eq_true rfl) rfl (eX6_checkPlayer hz hn2 (fun k0 k1 => ?_) (fun k => hx (by omega)))
  rw [r2] at k1
  have hm := rP p k0 k1
  have hm2 := wP p k0 k1
  unfold zWfP at hm2
  refine rr_aload_n (pc := 5) dX6_claim_5 rfl ?_
  refine rr_iload_n (pc := 6) dX6_claim_6 rfl ?_
  refine rr_inv (M' := MX6_checkSquare) (k := 96) (As := [_]) (t' := 1) (pc := 7) dX6_claim_7 lX6_151 kX6_checkSquare vX6_checkSquare zk_96 (by decide) rfl (by decide) (by decide) (by decide) (Nat.le_of_ble_eq_true rfl) rfl (eX6_checkSquare hz2 hn1 (fun j0 j1 => ?_) (fun k => hx (by omega)))
  rw [r1] at j1
  refine rr_aload_n (pc := 10) dX6_claim_10 rfl ?_
  refine rr_getR (pc := 11) dX6_claim_11 fX6_12 zk_96 zr_96_0 ?_
  refine rr_iload_n (pc := 14) dX6_claim_14 rfl ?_
  refine rr_iconst (n := 3) dX6_claim_15 ?_
  refine rr_invN (M' := MX0_get) (k := 0) (As := [_, _]) (pc := 16) dX6_claim_16 lX6_147 kX0_get vX0_get zCt_0.k (by decide) rfl (by decide) (by decide) (Nat.le_of_ble_eq_true rfl) rfl (eX0_get zCt_0 (by omega) (by omega) (by omega) (by omega) ?_)
  rw [hm.2.2.2.1]
  refine rr_istore_n (pc := 19) dX6_claim_19 (by decide) ?_
  refine rr_iload_n (pc := 20) dX6_claim_20 rfl ?_
  refine rr_if_ne (pc := 21) (tgt := 27) dX6_claim_21 (by decide) (by unfold zR; omega) (fun h21 => ?_) (fun h21 => ?_)
  · refine rr_aload_n (pc := 27) dX6_claim_27 rfl ?_
    refine rr_getR (pc := 28) dX6_claim_28 fX6_12 zk_96 zr_96_0 ?_
    refine rr_getR (pc := 31) dX6_claim_31 fX6_161 zCt_0.k zCt_0.r10 ?_
    refine rr_iload_n (pc := 34) dX6_claim_34 rfl ?_
    have hs3 := (rS s j0 (by omega) j1).2.1
    have hs4 := wS s j0 j1
    refine rr_iald (pc := 35) dX6_claim_35 zCt_0.a3 (by omega) (by omega) ?_
    rw [hs3]
    refine rr_iconst (n := (-1)) dX6_claim_36 ?_
    refine rr_icmp_eq (pc := 37) (tgt := 43) dX6_claim_37 (by decide) (by unfold zR; omega) (by unfold zR; omega) (fun h37 => ?_) (fun h37 => ?_)
    · refine rr_aload_n (pc := 43) dX6_claim_43 rfl ?_
      refine rr_getR (pc := 44) dX6_claim_44 fX6_29 zk_96 zr_96_3 ?_
      refine rr_aload_n (pc := 47) dX6_claim_47 rfl ?_
      refine rr_getR (pc := 48) dX6_claim_48 fX6_12 zk_96 zr_96_0 ?_
      refine rr_invN (M' := MX2_keep) (k := 108) (As := [_]) (pc := 51) dX6_claim_51 lX6_90 kX2_keep vX2_keep zk_108 (by decide) rfl (by decide) (by decide) (Nat.le_of_ble_eq_true rfl) rfl (eX2_keep hR hw hH (fun W1 o1 i1 => ?_))
      have c1 : zCR W1 0 a := CR_off hR (fun k g1 g2 => o1 k (Or.inl (by omega)) (by omega))
      have g1 := o1.g hg
      have hm1 := c1.2.2.2.2.2.2.2.2.2.2.1
      refine rr_aload_n (pc := 54) dX6_claim_54 rfl ?_
      refine rr_getR (pc := 55) dX6_claim_55 fX6_12 zk_96 zr_96_0 ?_
      refine rr_iload_n (pc := 58) dX6_claim_58 rfl ?_
      refine rr_iconst (n := 3) dX6_claim_59 ?_
      refine rr_iload_n (pc := 60) dX6_claim_60 rfl ?_
      refine rr_iconst (n := 1) dX6_claim_61 ?_
      refine rr_isub (pc := 62) dX6_claim_62 ?_
      refine rr_invN (M' := MX0_put) (k := 0) (As := [_, _, _]) (pc := 63) dX6_claim_63 lX6_249 kX0_put vX0_put zCt_0.k (by decide) rfl (by decide) (by decide) (Nat.le_of_ble_eq_true rfl) rfl (eX0_put zCt_0 (by omega) (by omega) (by omega) (by omega) ?_)
      have c2 := CR_P (j := 3) (w := 3) (v := aP a p 3 - 1) (v' := aP a p 3 - 1) c1 k0 (Or.inl ⟨by omega, by omega, rfl, rfl⟩)
      have f2 := WF_P (w := 3) (v := aP a p 3 - 1) hw k0 (by unfold zWr; omega)
      have o2 : zOff 0 W1 (zup W1 (0 + 5) (p * 10 + 3) (aP a p 3 - 1)) := zOff.rf.up (by omega)
      generalize zup W1 (0 + 5) (p * 10 + 3) (aP a p 3 - 1) = W2 at c2 o2 ⊢
      have e2 : iup a (58 + 17 * p + 3) (aP a p 3 - 1) 2 = a 2 := iup_n (by omega)
      refine rr_aload_n (pc := 66) dX6_claim_66 rfl ?_
      refine rr_getR (pc := 67) dX6_claim_67 fX6_12 zk_96 zr_96_0 ?_
      refine rr_getR (pc := 70) dX6_claim_70 fX6_161 zCt_0.k zCt_0.r10 ?_
      refine rr_iload_n (pc := 73) dX6_claim_73 rfl ?_
      refine rr_iload_n (pc := 74) dX6_claim_74 rfl ?_
      refine rr_iast (pc := 75) dX6_claim_75 zCt_0.a3 (by omega) (by omega) ?_
      have c3 := CR_S (o := 0) (v := p) c2 j0 (by omega) (Or.inl rfl)
      rw [if_pos rfl] at c3
      have c3 : zCR (zup W2 (0 + 3) s p) 0 _ := c3
      have f3 := WF_S (o := 0) (v := p + 1) f2 j0 (by omega) (Or.inl ⟨rfl, by omega, by rw [e2]; omega⟩)
      have o3 : zOff 0 W1 (zup W2 (0 + 3) s p) := o2.up (by omega)
      generalize zup W2 (0 + 3) s p = W3 at c3 o3 ⊢
      refine rr_aload_n (pc := 76) dX6_claim_76 rfl ?_
      refine rr_getR (pc := 77) dX6_claim_77 fX6_12 zk_96 zr_96_0 ?_
      refine rr_invN (M' := MX0_mendTargets) (k := 0) (As := []) (pc := 80) dX6_claim_80 lX6_253 kX0_mendTargets vX0_mendTargets zCt_0.k (by decide) rfl (by decide) (by decide) (Nat.le_of_ble_eq_true rfl) rfl (eX0_mendTargets zCt_0 c3 f3 (fun W4 o4 c4 => ?_))
      have f4 : zWf T (aClaim a p s) := aMend_wf f3
      have c4 : zCR W4 0 (aClaim a p s) := c4
      have o5 := o3.tr o4
      have q4 := zWf.sq f4
      refine rr_aload_n (pc := 83) dX6_claim_83 rfl ?_
      refine rr_getR (pc := 84) dX6_claim_84 fX6_12 zk_96 zr_96_0 ?_
      refine rr_iload_n (pc := 87) dX6_claim_87 rfl ?_
      refine rr_invN (M' := MX0_squaresOf) (k := 0) (As := [_]) (pc := 88) dX6_claim_88 lX6_144 kX0_squaresOf vX0_squaresOf zCt_0.k (by decide) rfl (by decide) (by decide) (Nat.le_of_ble_eq_true rfl) rfl (eX0_squaresOf zCt_0 c4 f4 hz ?_)
      refine rr_sta0 (M' := MJ6_bitCount_0f7a4) (As := [_]) (pc := 91) dX6_claim_91 lX6_256 kJ6_bitCount_0f7a4 sJ6_bitCount_0f7a4 (by decide) (by decide) (Nat.le_of_ble_eq_true rfl) rfl (eJ6_bitCount (zSet_32 _ (by omega)) ?_)
      rw [zPc_21 (zSet_32 _ (by omega))]
      exact rr_reti (pc := 94) dX6_claim_94 rfl rfl rfl rfl (hq k0 k1 j0 j1 (by omega) (by omega) W4 (o1.C.tr (o5.C (by omega))) (g1.c zCt_0 o5) c4 (i1.c0 o5))
    · refine rr_bipush (n := (-12)) dX6_claim_40 ?_
      exact rr_reti (pc := 42) dX6_claim_42 rfl rfl rfl rfl (hq2 k0 k1 j0 j1 (by omega) (by omega))
  · refine rr_bipush (n := (-11)) dX6_claim_24 ?_
    exact rr_reti (pc := 26) dX6_claim_26 rfl rfl rfl rfl (hq1 k0 k1 j0 j1 (by omega))
theorem dX6_release_0 : decode cX6_release 0 = .ok (.aload_n 0, 1) := by decide +kernel
theorem dX6_release_1 : decode cX6_release 1 = .ok (.iload_n 1, 1) := by decide +kernel
theorem dX6_release_2 : decode cX6_release 2 = .ok (.invokevirtual 151, 3) := by decide +kernel
theorem dX6_release_5 : decode cX6_release 5 = .ok (.aload_n 0, 1) := by decide +kernel
theorem dX6_release_6 : decode cX6_release 6 = .ok (.getfield 12, 3) := by decide +kernel
theorem dX6_release_9 : decode cX6_release 9 = .ok (.getfield 161, 3) := by decide +kernel
theorem dX6_release_12 : decode cX6_release 12 = .ok (.iload_n 1, 1) := by decide +kernel
theorem dX6_release_13 : decode cX6_release 13 = .ok (.iaload, 1) := by decide +kernel
theorem dX6_release_14 : decode cX6_release 14 = .ok (.istore_n 2, 1) := by decide +kernel
theorem dX6_release_15 : decode cX6_release 15 = .ok (.iload_n 2, 1) := by decide +kernel
theorem dX6_release_16 : decode cX6_release 16 = .ok (.iconst (-1), 1) := by decide +kernel
theorem dX6_release_17 : decode cX6_release 17 = .ok (.if_icmp .ne 6, 3) := by decide +kernel
theorem dX6_release_20 : decode cX6_release 20 = .ok (.bipush (-13), 2) := by decide +kernel
theorem dX6_release_22 : decode cX6_release 22 = .ok (.ireturn, 1) := by decide +kernel
theorem dX6_release_23 : decode cX6_release 23 = .ok (.aload_n 0, 1) := by decide +kernel
theorem dX6_release_24 : decode cX6_release 24 = .ok (.getfield 29, 3) := by decide +kernel
theorem dX6_release_27 : decode cX6_release 27 = .ok (.aload_n 0, 1) := by decide +kernel
theorem dX6_release_28 : decode cX6_release 28 = .ok (.getfield 12, 3) := by decide +kernel
theorem dX6_release_31 : decode cX6_release 31 = .ok (.invokevirtual 90, 3) := by decide +kernel
theorem dX6_release_34 : decode cX6_release 34 = .ok (.aload_n 0, 1) := by decide +kernel
theorem dX6_release_35 : decode cX6_release 35 = .ok (.getfield 12, 3) := by decide +kernel
theorem dX6_release_38 : decode cX6_release 38 = .ok (.getfield 161, 3) := by decide +kernel
theorem dX6_release_41 : decode cX6_release 41 = .ok (.iload_n 1, 1) := by decide +kernel
theorem dX6_release_42 : decode cX6_release 42 = .ok (.iconst (-1), 1) := by decide +kernel
theorem dX6_release_43 : decode cX6_release 43 = .ok (.iastore, 1) := by decide +kernel
theorem dX6_release_44 : decode cX6_release 44 = .ok (.aload_n 0, 1) := by decide +kernel
theorem dX6_release_45 : decode cX6_release 45 = .ok (.getfield 12, 3) := by decide +kernel
theorem dX6_release_48 : decode cX6_release 48 = .ok (.invokevirtual 253, 3) := by decide +kernel
theorem dX6_release_51 : decode cX6_release 51 = .ok (.iload_n 2, 1) := by decide +kernel
theorem dX6_release_52 : decode cX6_release 52 = .ok (.ireturn, 1) := by decide +kernel
theorem eX6_release {W : zWd} {a : Int → Int} {T n : Int} {K : Nat → (Int → Int)} {s : Int} {Q : Option Value → zWd → Prop} {X : zX} (hR : zCR W 0 a) (hw : zWf T a) (hH : zHi W n K) (hg : zGm W) (hz2 : zR s) (hq2 : 1 ≤ s → s ≤ a 1 → aO a s = -1 → Q (some (zI (-13))) W) (hq : 1 ≤ s → s ≤ a 1 → aO a s ≠ -1 → ∀ W' : zWd, zOffC W W' → zGm W' → zCR W' 0 (aRelease a s) → zHi W' (if n + 1 < 8 then n + 1 else 8) (zPush a K) → Q (some (zI (aO a s))) W') (hx : ¬ (1 ≤ s ∧ s ≤ a 1) → X "java/lang/IndexOutOfBoundsException" W) : Ev MX6_release 8 1 W [.ref 96, zI s] Q X := by
  refine ev_of (ls := [.ref 96, zI s, .null]) (by decide) rfl (fun _ => rfl) (fun _ => Nat.le_of_ble_eq_true rfl) (Or.inr (by decide)) ?_
  obtain ⟨r0, r1, r2, r3, r4, r5, r6, r7, rF, rS, rP, rB⟩ := id hR
  obtain ⟨w0, w0', wW, w1, w2, w2', w3, w3', w4, w4', w5, w5', w6, w6', w7, w7', wS, wP, wT⟩ := id hw
  have wq := zWf.sq hw
  have hn0 : zR (W 0 0) := by unfold zR; omega
  have hn1 : zR (W 0 1) := by unfold zR; omega
  have hn2 : zR (W 0 2) := by unfold zR; omega
  refine rr_aload_n (pc := 0) dX6_release_0 rfl ?_
  refine rr_iload_n (pc := 1) dX6_release_1 rfl ?_
  refine rr_inv (M' := MX6_checkSquare) (k := 96) (As := [_]) (t' := 1) (pc := 2) dX6_release_2 lX6_151 kX6_checkSquare vX6_checkSquare zk_96 (by decide) rfl (by decide) (by decide) (by decide) (Nat.le_of_ble_eq_true rfl) rfl (eX6_checkSquare hz2 hn1 (fun j0 j1 => ?_) (fun k => hx (by omega)))
  rw [r1] at j1
  refine rr_aload_n (pc := 5) dX6_release_5 rfl ?_
  refine rr_getR (pc := 6) dX6_release_6 fX6_12 zk_96 zr_96_0 ?_
  refine rr_getR (pc := 9) dX6_release_9 fX6_161 zCt_0.k zCt_0.r10 ?_
  refine rr_iload_n (pc := 12) dX6_release_12 rfl ?_
  have hs3 := (rS s j0 (by omega) j1).2.1
  have hs4 := wS s j0 j1
  refine rr_iald (pc := 13) dX6_release_13 zCt_0.a3 (by omega) (by omega) ?_
  rw [hs3]
  refine rr_istore_n (pc := 14) dX6_release_14 (by decide) ?_
  refine rr_iload_n (pc := 15) dX6_release_15 rfl ?_
  refine rr_iconst (n := (-1)) dX6_release_16 ?_
  refine rr_icmp_ne (pc := 17) (tgt := 23) dX6_release_17 (by decide) (by unfold zR; omega) (by unfold zR; omega) (fun h17 => ?_) (fun h17 => ?_)
  · refine rr_aload_n (pc := 23) dX6_release_23 rfl ?_
    refine rr_getR (pc := 24) dX6_release_24 fX6_29 zk_96 zr_96_3 ?_
    refine rr_aload_n (pc := 27) dX6_release_27 rfl ?_
    refine rr_getR (pc := 28) dX6_release_28 fX6_12 zk_96 zr_96_0 ?_
    refine rr_invN (M' := MX2_keep) (k := 108) (As := [_]) (pc := 31) dX6_release_31 lX6_90 kX2_keep vX2_keep zk_108 (by decide) rfl (by decide) (by decide) (Nat.le_of_ble_eq_true rfl) rfl (eX2_keep hR hw hH (fun W1 o1 i1 => ?_))
    have c1 : zCR W1 0 a := CR_off hR (fun k g1 g2 => o1 k (Or.inl (by omega)) (by omega))
    have g1 := o1.g hg
    have hm1 := c1.2.2.2.2.2.2.2.2.2.2.1
    refine rr_aload_n (pc := 34) dX6_release_34 rfl ?_
    refine rr_getR (pc := 35) dX6_release_35 fX6_12 zk_96 zr_96_0 ?_
    refine rr_getR (pc := 38) dX6_release_38 fX6_161 zCt_0.k zCt_0.r10 ?_
    refine rr_iload_n (pc := 41) dX6_release_41 rfl ?_
    refine rr_iconst (n := (-1)) dX6_release_42 ?_
    refine rr_iast (pc := 43) dX6_release_43 zCt_0.a3 (by omega) (by omega) ?_
    have c3 := CR_S (o := 0) (v := -1) c1 j0 (by omega) (Or.inl rfl)
    rw [if_pos rfl] at c3
    have c3 : zCR (zup W1 (0 + 3) s (-1)) 0 _ := c3
    have f3 := WF_S (o := 0) (v := -1 + 1) hw j0 (by omega) (Or.inl ⟨rfl, by omega, by omega⟩)
    have o3 : zOff 0 W1 (zup W1 (0 + 3) s (-1)) := zOff.rf.up (by omega)
    generalize zup W1 (0 + 3) s (-1) = W3 at c3 o3 ⊢
    refine rr_aload_n (pc := 44) dX6_release_44 rfl ?_
    refine rr_getR (pc := 45) dX6_release_45 fX6_12 zk_96 zr_96_0 ?_
    refine rr_invN (M' := MX0_mendTargets) (k := 0) (As := []) (pc := 48) dX6_release_48 lX6_253 kX0_mendTargets vX0_mendTargets zCt_0.k (by decide) rfl (by decide) (by decide) (Nat.le_of_ble_eq_true rfl) rfl (eX0_mendTargets zCt_0 c3 f3 (fun W4 o4 c4 => ?_))
    have c4 : zCR W4 0 (aRelease a s) := c4
    have o5 := o3.tr o4
    refine rr_iload_n (pc := 51) dX6_release_51 rfl ?_
    exact rr_reti (pc := 52) dX6_release_52 rfl rfl rfl rfl (hq j0 j1 (by omega) W4 (o1.C.tr (o5.C (by omega))) (g1.c zCt_0 o5) c4 (i1.c0 o5))
  · refine rr_bipush (n := (-13)) dX6_release_20 ?_
    exact rr_reti (pc := 22) dX6_release_22 rfl rfl rfl rfl (hq2 j0 j1 (by omega))
theorem dX6_setDrift_0 : decode cX6_setDrift 0 = .ok (.iload_n 1, 1) := by decide +kernel
theorem dX6_setDrift_1 : decode cX6_setDrift 1 = .ok (.bipush (-9), 2) := by decide +kernel
theorem dX6_setDrift_3 : decode cX6_setDrift 3 = .ok (.if_icmp .lt 9, 3) := by decide +kernel
theorem dX6_setDrift_6 : decode cX6_setDrift 6 = .ok (.iload_n 1, 1) := by decide +kernel
theorem dX6_setDrift_7 : decode cX6_setDrift 7 = .ok (.bipush 9, 2) := by decide +kernel
theorem dX6_setDrift_9 : decode cX6_setDrift 9 = .ok (.if_icmp .le 14, 3) := by decide +kernel
theorem dX6_setDrift_12 : decode cX6_setDrift 12 = .ok (.new 134, 3) := by decide +kernel
theorem dX6_setDrift_15 : decode cX6_setDrift 15 = .ok (.dup, 1) := by decide +kernel
theorem dX6_setDrift_16 : decode cX6_setDrift 16 = .ok (.ldc_w 261, 3) := by decide +kernel
theorem dX6_setDrift_19 : decode cX6_setDrift 19 = .ok (.invokespecial 138, 3) := by decide +kernel
theorem dX6_setDrift_22 : decode cX6_setDrift 22 = .ok (.athrow, 1) := by decide +kernel
theorem dX6_setDrift_23 : decode cX6_setDrift 23 = .ok (.aload_n 0, 1) := by decide +kernel
theorem dX6_setDrift_24 : decode cX6_setDrift 24 = .ok (.getfield 29, 3) := by decide +kernel
theorem dX6_setDrift_27 : decode cX6_setDrift 27 = .ok (.aload_n 0, 1) := by decide +kernel
theorem dX6_setDrift_28 : decode cX6_setDrift 28 = .ok (.getfield 12, 3) := by decide +kernel
theorem dX6_setDrift_31 : decode cX6_setDrift 31 = .ok (.invokevirtual 90, 3) := by decide +kernel
theorem dX6_setDrift_34 : decode cX6_setDrift 34 = .ok (.aload_n 0, 1) := by decide +kernel
theorem dX6_setDrift_35 : decode cX6_setDrift 35 = .ok (.getfield 12, 3) := by decide +kernel
theorem dX6_setDrift_38 : decode cX6_setDrift 38 = .ok (.getfield 109, 3) := by decide +kernel
theorem dX6_setDrift_41 : decode cX6_setDrift 41 = .ok (.istore_n 2, 1) := by decide +kernel
theorem dX6_setDrift_42 : decode cX6_setDrift 42 = .ok (.aload_n 0, 1) := by decide +kernel
theorem dX6_setDrift_43 : decode cX6_setDrift 43 = .ok (.getfield 12, 3) := by decide +kernel
theorem dX6_setDrift_46 : decode cX6_setDrift 46 = .ok (.iload_n 1, 1) := by decide +kernel
theorem dX6_setDrift_47 : decode cX6_setDrift 47 = .ok (.putfield 109, 3) := by decide +kernel
theorem dX6_setDrift_50 : decode cX6_setDrift 50 = .ok (.iload_n 2, 1) := by decide +kernel
theorem dX6_setDrift_51 : decode cX6_setDrift 51 = .ok (.bipush 9, 2) := by decide +kernel
theorem dX6_setDrift_53 : decode cX6_setDrift 53 = .ok (.iadd, 1) := by decide +kernel
theorem dX6_setDrift_54 : decode cX6_setDrift 54 = .ok (.ireturn, 1) := by decide +kernel
theorem eX6_setDrift {W : zWd} {a : Int → Int} {T n : Int} {K : Nat → (Int → Int)} {v : Int} {Q : Option Value → zWd → Prop} {X : zX} (hR : zCR W 0 a) (hw : zWf T a) (hH : zHi W n K) (hg : zGm W) (hz : zR v) (hq : -9 ≤ v → v ≤ 9 → ∀ W' : zWd, zOffC W W' → zGm W' → zCR W' 0 (iup a 3 v) → zHi W' (if n + 1 < 8 then n + 1 else 8) (zPush a K) → Q (some (zI (a 3 + 9))) W') (hx : ¬ (-9 ≤ v ∧ v ≤ 9) → X "java/lang/IllegalArgumentException" W) : Ev MX6_setDrift 7 1 W [.ref 96, zI v] Q X := by
  refine ev_of (ls := [.ref 96, zI v, .null]) (by decide) rfl (fun _ => rfl) (fun _ => Nat.le_of_ble_eq_true rfl) (Or.inr (by decide)) ?_
  obtain ⟨r0, r1, r2, r3, r4, r5, r6, r7, rF, rS, rP, rB⟩ := id hR
  obtain ⟨w0, w0', wW, w1, w2, w2', w3, w3', w4, w4', w5, w5', w6, w6', w7, w7', wS, wP, wT⟩ := id hw
  have wq := zWf.sq hw
  refine rr_iload_n (pc := 0) dX6_setDrift_0 rfl ?_
  refine rr_bipush (n := (-9)) dX6_setDrift_1 ?_
  refine rr_icmp_lt (pc := 3) (tgt := 12) dX6_setDrift_3 (by decide) hz (by unfold zR; omega) (fun h3 => ?_) (fun h3 => ?_)
  · exact rr_thr (by decide) tX6_setDrift_12 (hx (by omega))
  · refine rr_iload_n (pc := 6) dX6_setDrift_6 rfl ?_
    refine rr_bipush (n := (9)) dX6_setDrift_7 ?_
    refine rr_icmp_le (pc := 9) (tgt := 23) dX6_setDrift_9 (by decide) hz (by unfold zR; omega) (fun h9 => ?_) (fun h9 => ?_)
    · refine rr_aload_n (pc := 23) dX6_setDrift_23 rfl ?_
      refine rr_getR (pc := 24) dX6_setDrift_24 fX6_29 zk_96 zr_96_3 ?_
      refine rr_aload_n (pc := 27) dX6_setDrift_27 rfl ?_
      refine rr_getR (pc := 28) dX6_setDrift_28 fX6_12 zk_96 zr_96_0 ?_
      refine rr_invN (M' := MX2_keep) (k := 108) (As := [_]) (pc := 31) dX6_setDrift_31 lX6_90 kX2_keep vX2_keep zk_108 (by decide) rfl (by decide) (by decide) (Nat.le_of_ble_eq_true rfl) rfl (eX2_keep hR hw hH (fun W1 o1 i1 => ?_))
      have c1 : zCR W1 0 a := CR_off hR (fun k g1 g2 => o1 k (Or.inl (by omega)) (by omega))
      have g1 := o1.g hg
      have hm1 := c1.2.2.2.2.2.2.2.2.2.2.1
      refine rr_aload_n (pc := 34) dX6_setDrift_34 rfl ?_
      refine rr_getR (pc := 35) dX6_setDrift_35 fX6_12 zk_96 zr_96_0 ?_
      refine rr_getI (pc := 38) (ji := 3) dX6_setDrift_38 fX6_109 zCt_0.k zCt_0.i3 rfl ?_
      rw [c1.2.2.2.1]
      refine rr_istore_n (pc := 41) dX6_setDrift_41 (by decide) ?_
      refine rr_aload_n (pc := 42) dX6_setDrift_42 rfl ?_
      refine rr_getR (pc := 43) dX6_setDrift_43 fX6_12 zk_96 zr_96_0 ?_
      refine rr_iload_n (pc := 46) dX6_setDrift_46 rfl ?_
      refine rr_put (pc := 47) (ji := 3) dX6_setDrift_47 fX6_109 fp_0_3 zCt_0.k zCt_0.i3 rfl ?_
      refine rr_iload_n (pc := 50) dX6_setDrift_50 rfl ?_
      refine rr_bipush (n := (9)) dX6_setDrift_51 ?_
      refine rr_iadd (pc := 53) dX6_setDrift_53 ?_
      have o2 : zOff 0 W1 (zup W1 0 3 v) := zOff.rf.up (by omega)
      exact rr_reti (pc := 54) dX6_setDrift_54 rfl rfl rfl rfl (hq (by omega) (by omega) _ (o1.C.tr (o2.C (by omega))) (g1.c zCt_0 o2) (CR_0 c1 (by omega)) (i1.c0 o2))
    · exact rr_thr (by decide) tX6_setDrift_12 (hx (by omega))
theorem dX6_lowestOf_0 : decode cX6_lowestOf 0 = .ok (.iload_n 0, 1) := by decide +kernel
theorem dX6_lowestOf_1 : decode cX6_lowestOf 1 = .ok (.iconst 3, 1) := by decide +kernel
theorem dX6_lowestOf_2 : decode cX6_lowestOf 2 = .ok (.if_icmp .ne 7, 3) := by decide +kernel
theorem dX6_lowestOf_5 : decode cX6_lowestOf 5 = .ok (.iconst 0, 1) := by decide +kernel
theorem dX6_lowestOf_6 : decode cX6_lowestOf 6 = .ok (.goto 4, 3) := by decide +kernel
theorem dX6_lowestOf_9 : decode cX6_lowestOf 9 = .ok (.iconst 1, 1) := by decide +kernel
theorem dX6_lowestOf_10 : decode cX6_lowestOf 10 = .ok (.ireturn, 1) := by decide +kernel
theorem eX6_lowestOf {W : zWd} {w : Int} {Q : Option Value → zWd → Prop} {X : zX} (hz : zR w) (hq : Q (some (zI (if w = 3 then 0 else 1))) W) : Ev MX6_lowestOf 0 0 W [zI w] Q X := by
  refine ev_of (ls := [zI w]) (by decide) rfl (fun _ => rfl) (fun _ => Nat.le_of_ble_eq_true rfl) (Or.inl rfl) ?_
  refine rr_iload_n (pc := 0) dX6_lowestOf_0 rfl ?_
  refine rr_iconst (n := 3) dX6_lowestOf_1 ?_
  refine rr_icmp_ne (pc := 2) (tgt := 9) dX6_lowestOf_2 (by decide) hz (by unfold zR; omega) (fun h2 => ?_) (fun h2 => ?_)
  · refine rr_iconst (n := 1) dX6_lowestOf_9 ?_
    exact rr_reti (pc := 10) dX6_lowestOf_10 rfl rfl (if_neg h2).symm rfl (hq)
  · refine rr_iconst (n := 0) dX6_lowestOf_5 ?_
    refine rr_goto (pc := 6) (tgt := 10) dX6_lowestOf_6 (by decide) ?_
    exact rr_reti (pc := 10) dX6_lowestOf_10 rfl rfl (if_pos h2).symm rfl (hq)
def vHi (w n : Int) : Int := if w = 0 then 4 else if w = 1 then 9 else if w = 3 then 9 else n
theorem dX6_highestOf_0 : decode cX6_highestOf 0 = .ok (.iload_n 0, 1) := by decide +kernel
theorem dX6_highestOf_1 : decode cX6_highestOf 1 = .ok (.tableswitch 39 0 3 #[31, 33, 39, 36], 31) := by decide +kernel
theorem dX6_highestOf_32 : decode cX6_highestOf 32 = .ok (.iconst 4, 1) := by decide +kernel
theorem dX6_highestOf_33 : decode cX6_highestOf 33 = .ok (.ireturn, 1) := by decide +kernel
theorem dX6_highestOf_34 : decode cX6_highestOf 34 = .ok (.bipush 9, 2) := by decide +kernel
theorem dX6_highestOf_36 : decode cX6_highestOf 36 = .ok (.ireturn, 1) := by decide +kernel
theorem dX6_highestOf_37 : decode cX6_highestOf 37 = .ok (.bipush 9, 2) := by decide +kernel
theorem dX6_highestOf_39 : decode cX6_highestOf 39 = .ok (.ireturn, 1) := by decide +kernel
theorem dX6_highestOf_40 : decode cX6_highestOf 40 = .ok (.iload_n 1, 1) := by decide +kernel
theorem dX6_highestOf_41 : decode cX6_highestOf 41 = .ok (.ireturn, 1) := by decide +kernel
theorem eX6_highestOf {W : zWd} {w n : Int} {Q : Option Value → zWd → Prop} {X : zX} (hz : zR w) (hq : Q (some (zI (vHi w n))) W) : Ev MX6_highestOf 0 0 W [zI w, zI n] Q X := by
  refine ev_of (ls := [zI w, zI n]) (by decide) rfl (fun _ => rfl) (fun _ => Nat.le_of_ble_eq_true rfl) (Or.inl rfl) ?_
  refine rr_iload_n (pc := 0) dX6_highestOf_0 rfl ?_
  by_cases hsw : 0 ≤ w ∧ w ≤ 3
  · have hsv : w = 0 ∨ w = 1 ∨ w = 2 ∨ w = 3 := by omega
    rcases hsv with rfl | rfl | rfl | rfl
    · refine rr_tabI (pc := 1) (tgt := 32) dX6_highestOf_1 (by unfold zR; omega) (by decide) (by decide) rfl (by decide) ?_
      refine rr_iconst (n := 4) dX6_highestOf_32 ?_
      exact rr_reti (pc := 33) dX6_highestOf_33 rfl rfl rfl rfl (hq)
    · refine rr_tabI (pc := 1) (tgt := 34) dX6_highestOf_1 (by unfold zR; omega) (by decide) (by decide) rfl (by decide) ?_
      refine rr_bipush (n := (9)) dX6_highestOf_34 ?_
      exact rr_reti (pc := 36) dX6_highestOf_36 rfl rfl rfl rfl (hq)
    · refine rr_tabI (pc := 1) (tgt := 40) dX6_highestOf_1 (by unfold zR; omega) (by decide) (by decide) rfl (by decide) ?_
      refine rr_iload_n (pc := 40) dX6_highestOf_40 rfl ?_
      exact rr_reti (pc := 41) dX6_highestOf_41 rfl rfl rfl rfl (hq)
    · refine rr_tabI (pc := 1) (tgt := 37) dX6_highestOf_1 (by unfold zR; omega) (by decide) (by decide) rfl (by decide) ?_
      refine rr_bipush (n := (9)) dX6_highestOf_37 ?_
      exact rr_reti (pc := 39) dX6_highestOf_39 rfl rfl rfl rfl (hq)
  · refine rr_tabO (pc := 1) (tgt := 40) dX6_highestOf_1 hz (by omega) (by decide) ?_
    refine rr_iload_n (pc := 40) dX6_highestOf_40 rfl ?_
    exact rr_reti (pc := 41) dX6_highestOf_41 rfl rfl (by unfold vHi; rw [if_neg (by omega), if_neg (by omega), if_neg (by omega)]) rfl (hq)
def zMayB (a : Int → Int) (w v : Int) : Prop := 0 ≤ w ∧ w ≤ 3 ∧ (if w = 3 then 0 else 1) ≤ v ∧ v ≤ vHi w (a 1)
theorem vHi_R {w n : Int} (h : 0 ≤ n) (h2 : n ≤ 20) : 0 ≤ vHi w n ∧ vHi w n ≤ 20 := by unfold vHi; (repeat' split) <;> omega
theorem zMayB_wr {T : Int} {a : Int → Int} {w v : Int} (h : zMayB a w v) : zWr T a w v := by
  unfold zMayB vHi at h
  unfold zWr
  have h9 : w = 0 ∨ w = 1 ∨ w = 2 ∨ w = 3 := by omega
  rcases h9 with rfl | rfl | rfl | rfl <;> simp at h <;> omega
theorem zCRP_w {W : zWd} {c : Nat} {a : Int → Int} {p w : Int} (h : zCRP W c a p) (h0 : 0 ≤ w) (h4 : w ≤ 4) : W (c + 5) (p * 10 + w) = aP a p w := by
  have h9 : w = 0 ∨ w = 1 ∨ w = 2 ∨ w = 3 ∨ w = 4 := by omega
  rcases h9 with rfl | rfl | rfl | rfl | rfl
  · exact h.1
  · exact h.2.1
  · exact h.2.2.1
  · exact h.2.2.2.1
  · exact h.2.2.2.2.1
theorem dX6_setPlayer_0 : decode cX6_setPlayer 0 = .ok (.aload_n 0, 1) := by decide +kernel
theorem dX6_setPlayer_1 : decode cX6_setPlayer 1 = .ok (.iload_n 1, 1) := by decide +kernel
theorem dX6_setPlayer_2 : decode cX6_setPlayer 2 = .ok (.invokevirtual 139, 3) := by decide +kernel
theorem dX6_setPlayer_5 : decode cX6_setPlayer 5 = .ok (.iload_n 2, 1) := by decide +kernel
theorem dX6_setPlayer_6 : decode cX6_setPlayer 6 = .ok (.ifCond .lt 8, 3) := by decide +kernel
theorem dX6_setPlayer_9 : decode cX6_setPlayer 9 = .ok (.iload_n 2, 1) := by decide +kernel
theorem dX6_setPlayer_10 : decode cX6_setPlayer 10 = .ok (.iconst 3, 1) := by decide +kernel
theorem dX6_setPlayer_11 : decode cX6_setPlayer 11 = .ok (.if_icmp .le 14, 3) := by decide +kernel
theorem dX6_setPlayer_14 : decode cX6_setPlayer 14 = .ok (.new 134, 3) := by decide +kernel
theorem dX6_setPlayer_17 : decode cX6_setPlayer 17 = .ok (.dup, 1) := by decide +kernel
theorem dX6_setPlayer_18 : decode cX6_setPlayer 18 = .ok (.ldc_w 263, 3) := by decide +kernel
theorem dX6_setPlayer_21 : decode cX6_setPlayer 21 = .ok (.invokespecial 138, 3) := by decide +kernel
theorem dX6_setPlayer_24 : decode cX6_setPlayer 24 = .ok (.athrow, 1) := by decide +kernel
theorem dX6_setPlayer_25 : decode cX6_setPlayer 25 = .ok (.iload_n 3, 1) := by decide +kernel
theorem dX6_setPlayer_26 : decode cX6_setPlayer 26 = .ok (.iload_n 2, 1) := by decide +kernel
theorem dX6_setPlayer_27 : decode cX6_setPlayer 27 = .ok (.invokestatic 265, 3) := by decide +kernel
theorem dX6_setPlayer_30 : decode cX6_setPlayer 30 = .ok (.if_icmp .lt 18, 3) := by decide +kernel
theorem dX6_setPlayer_33 : decode cX6_setPlayer 33 = .ok (.iload_n 3, 1) := by decide +kernel
theorem dX6_setPlayer_34 : decode cX6_setPlayer 34 = .ok (.iload_n 2, 1) := by decide +kernel
theorem dX6_setPlayer_35 : decode cX6_setPlayer 35 = .ok (.aload_n 0, 1) := by decide +kernel
theorem dX6_setPlayer_36 : decode cX6_setPlayer 36 = .ok (.getfield 12, 3) := by decide +kernel
theorem dX6_setPlayer_39 : decode cX6_setPlayer 39 = .ok (.getfield 97, 3) := by decide +kernel
theorem dX6_setPlayer_42 : decode cX6_setPlayer 42 = .ok (.invokestatic 268, 3) := by decide +kernel
theorem dX6_setPlayer_45 : decode cX6_setPlayer 45 = .ok (.if_icmp .le 14, 3) := by decide +kernel
theorem dX6_setPlayer_48 : decode cX6_setPlayer 48 = .ok (.new 134, 3) := by decide +kernel
theorem dX6_setPlayer_51 : decode cX6_setPlayer 51 = .ok (.dup, 1) := by decide +kernel
theorem dX6_setPlayer_52 : decode cX6_setPlayer 52 = .ok (.ldc_w 271, 3) := by decide +kernel
theorem dX6_setPlayer_55 : decode cX6_setPlayer 55 = .ok (.invokespecial 138, 3) := by decide +kernel
theorem dX6_setPlayer_58 : decode cX6_setPlayer 58 = .ok (.athrow, 1) := by decide +kernel
theorem dX6_setPlayer_59 : decode cX6_setPlayer 59 = .ok (.aload_n 0, 1) := by decide +kernel
theorem dX6_setPlayer_60 : decode cX6_setPlayer 60 = .ok (.getfield 29, 3) := by decide +kernel
theorem dX6_setPlayer_63 : decode cX6_setPlayer 63 = .ok (.aload_n 0, 1) := by decide +kernel
theorem dX6_setPlayer_64 : decode cX6_setPlayer 64 = .ok (.getfield 12, 3) := by decide +kernel
theorem dX6_setPlayer_67 : decode cX6_setPlayer 67 = .ok (.invokevirtual 90, 3) := by decide +kernel
theorem dX6_setPlayer_70 : decode cX6_setPlayer 70 = .ok (.aload_n 0, 1) := by decide +kernel
theorem dX6_setPlayer_71 : decode cX6_setPlayer 71 = .ok (.getfield 12, 3) := by decide +kernel
theorem dX6_setPlayer_74 : decode cX6_setPlayer 74 = .ok (.iload_n 1, 1) := by decide +kernel
theorem dX6_setPlayer_75 : decode cX6_setPlayer 75 = .ok (.iload_n 2, 1) := by decide +kernel
theorem dX6_setPlayer_76 : decode cX6_setPlayer 76 = .ok (.invokevirtual 147, 3) := by decide +kernel
theorem dX6_setPlayer_79 : decode cX6_setPlayer 79 = .ok (.istore 4, 2) := by decide +kernel
theorem dX6_setPlayer_81 : decode cX6_setPlayer 81 = .ok (.aload_n 0, 1) := by decide +kernel
theorem dX6_setPlayer_82 : decode cX6_setPlayer 82 = .ok (.getfield 12, 3) := by decide +kernel
theorem dX6_setPlayer_85 : decode cX6_setPlayer 85 = .ok (.iload_n 1, 1) := by decide +kernel
theorem dX6_setPlayer_86 : decode cX6_setPlayer 86 = .ok (.iload_n 2, 1) := by decide +kernel
theorem dX6_setPlayer_87 : decode cX6_setPlayer 87 = .ok (.iload_n 3, 1) := by decide +kernel
theorem dX6_setPlayer_88 : decode cX6_setPlayer 88 = .ok (.invokevirtual 249, 3) := by decide +kernel
theorem dX6_setPlayer_91 : decode cX6_setPlayer 91 = .ok (.aload_n 0, 1) := by decide +kernel
theorem dX6_setPlayer_92 : decode cX6_setPlayer 92 = .ok (.getfield 12, 3) := by decide +kernel
theorem dX6_setPlayer_95 : decode cX6_setPlayer 95 = .ok (.invokevirtual 253, 3) := by decide +kernel
theorem dX6_setPlayer_98 : decode cX6_setPlayer 98 = .ok (.iload 4, 2) := by decide +kernel
theorem dX6_setPlayer_100 : decode cX6_setPlayer 100 = .ok (.ireturn, 1) := by decide +kernel
theorem eX6_setPlayer {W : zWd} {a : Int → Int} {T n : Int} {K : Nat → (Int → Int)} {p w v : Int} {Q : Option Value → zWd → Prop} {X : zX} (hR : zCR W 0 a) (hw : zWf T a) (hH : zHi W n K) (hg : zGm W) (hz : zR p) (hz2 : zR w) (hz3 : zR v) (hq : 0 ≤ p → p < a 2 → zMayB a w v → ∀ W' : zWd, zOffC W W' → zGm W' → zCR W' 0 (aSetP a p w v) → zHi W' (if n + 1 < 8 then n + 1 else 8) (zPush a K) → Q (some (zI (aP a p w))) W') (hx : ¬ (0 ≤ p ∧ p < a 2) → X "java/lang/IndexOutOfBoundsException" W) (hx2 : 0 ≤ p → p < a 2 → ¬ zMayB a w v → X "java/lang/IllegalArgumentException" W) : Ev MX6_setPlayer 8 2 W [.ref 96, zI p, zI w, zI v] Q X := by
  refine ev_of (ls := [.ref 96, zI p, zI w, zI v, .null]) (by decide) rfl (fun _ => rfl) (fun _ => Nat.le_of_ble_eq_true rfl) (Or.inr (by decide)) ?_
  obtain ⟨r0, r1, r2, r3, r4, r5, r6, r7, rF, rS, rP, rB⟩ := id hR
  obtain ⟨w0, w0', wW, w1, w2, w2', w3, w3', w4, w4', w5, w5', w6, w6', w7, w7', wS, wP, wT⟩ := id hw
  have wq := zWf.sq hw
  have hn0 : zR (W 0 0) := by unfold zR; omega
  have hn1 : zR (W 0 1) := by unfold zR; omega
  have hn2 : zR (W 0 2) := by unfold zR; omega
  refine rr_aload_n (pc := 0) dX6_setPlayer_0 rfl ?_
  refine rr_iload_n (pc := 1) dX6_setPlayer_1 rfl ?_
  refine rr_inv (M' := MX6_checkPlayer) (k := 96) (As := [_]) (t' := 1) (pc := 2) dX6_setPlayer_2 lX6_139 kX6_checkPlayer vX6_checkPlayer zk_96 (by decide) rfl (by decide) (by decide) (by decide) (Nat.le_of_ble_eq_true rfl) rfl (eX6_checkPlayer hz hn2 (fun k0 k1 => ?_) (fun k => hx (by omega)))
  rw [r2] at k1
  refine rr_iload_n (pc := 5) dX6_setPlayer_5 rfl ?_
  refine rr_if_lt (pc := 6) (tgt := 14) dX6_setPlayer_6 (by decide) hz2 (fun h6 => ?_) (fun h6 => ?_)
  · exact rr_thr (by decide) tX6_setPlayer_14 (hx2 k0 k1 (fun z => by unfold zMayB at z; omega))
  · refine rr_iload_n (pc := 9) dX6_setPlayer_9 rfl ?_
    refine rr_iconst (n := 3) dX6_setPlayer_10 ?_
    refine rr_icmp_le (pc := 11) (tgt := 25) dX6_setPlayer_11 (by decide) hz2 (by unfold zR; omega) (fun h11 => ?_) (fun h11 => ?_)
    · refine rr_iload_n (pc := 25) dX6_setPlayer_25 rfl ?_
      refine rr_iload_n (pc := 26) dX6_setPlayer_26 rfl ?_
      refine rr_sta0 (M' := MX6_lowestOf) (As := [_]) (pc := 27) dX6_setPlayer_27 lX6_265 kX6_lowestOf sX6_lowestOf (by decide) (by decide) (Nat.le_of_ble_eq_true rfl) rfl (eX6_lowestOf hz2 ?_)
      refine rr_icmp_lt (pc := 30) (tgt := 48) dX6_setPlayer_30 (by decide) hz3 (by split <;> (unfold zR; omega)) (fun h30 => ?_) (fun h30 => ?_)
      · exact rr_thr (by decide) tX6_setPlayer_48 (hx2 k0 k1 (fun z => by unfold zMayB at z; omega))
      · refine rr_iload_n (pc := 33) dX6_setPlayer_33 rfl ?_
        refine rr_iload_n (pc := 34) dX6_setPlayer_34 rfl ?_
        refine rr_aload_n (pc := 35) dX6_setPlayer_35 rfl ?_
        refine rr_getR (pc := 36) dX6_setPlayer_36 fX6_12 zk_96 zr_96_0 ?_
        refine rr_getI (pc := 39) (ji := 1) dX6_setPlayer_39 fX6_97 zCt_0.k zCt_0.i1 rfl ?_
        refine rr_sta0 (M' := MX6_highestOf) (As := [_, _]) (pc := 42) dX6_setPlayer_42 lX6_268 kX6_highestOf sX6_highestOf (by decide) (by decide) (Nat.le_of_ble_eq_true rfl) rfl (eX6_highestOf hz2 ?_)
        rw [r1]
        have hh := vHi_R (w := w) (n := a 1) (by omega) wq.2
        refine rr_icmp_le (pc := 45) (tgt := 59) dX6_setPlayer_45 (by decide) hz3 (by unfold zR; omega) (fun h45 => ?_) (fun h45 => ?_)
        · have hmb : zMayB a w v := ⟨by omega, by omega, by omega, by omega⟩
          refine rr_aload_n (pc := 59) dX6_setPlayer_59 rfl ?_
          refine rr_getR (pc := 60) dX6_setPlayer_60 fX6_29 zk_96 zr_96_3 ?_
          refine rr_aload_n (pc := 63) dX6_setPlayer_63 rfl ?_
          refine rr_getR (pc := 64) dX6_setPlayer_64 fX6_12 zk_96 zr_96_0 ?_
          refine rr_invN (M' := MX2_keep) (k := 108) (As := [_]) (pc := 67) dX6_setPlayer_67 lX6_90 kX2_keep vX2_keep zk_108 (by decide) rfl (by decide) (by decide) (Nat.le_of_ble_eq_true rfl) rfl (eX2_keep hR hw hH (fun W1 o1 i1 => ?_))
          have c1 : zCR W1 0 a := CR_off hR (fun k g1 g2 => o1 k (Or.inl (by omega)) (by omega))
          have g1 := o1.g hg
          have hm1 := c1.2.2.2.2.2.2.2.2.2.2.1
          refine rr_aload_n (pc := 70) dX6_setPlayer_70 rfl ?_
          refine rr_getR (pc := 71) dX6_setPlayer_71 fX6_12 zk_96 zr_96_0 ?_
          refine rr_iload_n (pc := 74) dX6_setPlayer_74 rfl ?_
          refine rr_iload_n (pc := 75) dX6_setPlayer_75 rfl ?_
          refine rr_invN (M' := MX0_get) (k := 0) (As := [_, _]) (pc := 76) dX6_setPlayer_76 lX6_147 kX0_get vX0_get zCt_0.k (by decide) rfl (by decide) (by decide) (Nat.le_of_ble_eq_true rfl) rfl (eX0_get zCt_0 (by omega) (by omega) (by omega) (by omega) ?_)
          rw [zCRP_w (hm1 p k0 k1) (by omega) (by omega)]
          refine rr_istore (pc := 79) dX6_setPlayer_79 (by decide) ?_
          refine rr_aload_n (pc := 81) dX6_setPlayer_81 rfl ?_
          refine rr_getR (pc := 82) dX6_setPlayer_82 fX6_12 zk_96 zr_96_0 ?_
          refine rr_iload_n (pc := 85) dX6_setPlayer_85 rfl ?_
          refine rr_iload_n (pc := 86) dX6_setPlayer_86 rfl ?_
          refine rr_iload_n (pc := 87) dX6_setPlayer_87 rfl ?_
          refine rr_invN (M' := MX0_put) (k := 0) (As := [_, _, _]) (pc := 88) dX6_setPlayer_88 lX6_249 kX0_put vX0_put zCt_0.k (by decide) rfl (by decide) (by decide) (Nat.le_of_ble_eq_true rfl) rfl (eX0_put zCt_0 (by omega) (by omega) (by omega) (by omega) ?_)
          have c2 := CR_P (j := w) (w := w) (v := v) (v' := v) c1 k0 (Or.inl ⟨by omega, by omega, rfl, rfl⟩)
          have f2 := WF_P (w := w) (v := v) hw k0 (zMayB_wr hmb)
          have o2 : zOff 0 W1 (zup W1 (0 + 5) (p * 10 + w) v) := zOff.rf.up (by omega)
          generalize zup W1 (0 + 5) (p * 10 + w) v = W2 at c2 o2 ⊢
          refine rr_aload_n (pc := 91) dX6_setPlayer_91 rfl ?_
          refine rr_getR (pc := 92) dX6_setPlayer_92 fX6_12 zk_96 zr_96_0 ?_
          refine rr_invN (M' := MX0_mendTargets) (k := 0) (As := []) (pc := 95) dX6_setPlayer_95 lX6_253 kX0_mendTargets vX0_mendTargets zCt_0.k (by decide) rfl (by decide) (by decide) (Nat.le_of_ble_eq_true rfl) rfl (eX0_mendTargets zCt_0 c2 f2 (fun W4 o4 c4 => ?_))
          have c4 : zCR W4 0 (aSetP a p w v) := c4
          have o5 := o2.tr o4
          refine rr_iload (pc := 98) dX6_setPlayer_98 rfl ?_
          exact rr_reti (pc := 100) dX6_setPlayer_100 rfl rfl rfl rfl (hq k0 k1 hmb W4 (o1.C.tr (o5.C (by omega))) (g1.c zCt_0 o5) c4 (i1.c0 o5))
        · exact rr_thr (by decide) tX6_setPlayer_48 (hx2 k0 k1 (fun z => by unfold zMayB at z; omega))
    · exact rr_thr (by decide) tX6_setPlayer_14 (hx2 k0 k1 (fun z => by unfold zMayB at z; omega))
theorem dX6_mark_0 : decode cX6_mark 0 = .ok (.aload_n 0, 1) := by decide +kernel
theorem dX6_mark_1 : decode cX6_mark 1 = .ok (.iload_n 1, 1) := by decide +kernel
theorem dX6_mark_2 : decode cX6_mark 2 = .ok (.invokevirtual 139, 3) := by decide +kernel
theorem dX6_mark_5 : decode cX6_mark 5 = .ok (.iload_n 2, 1) := by decide +kernel
theorem dX6_mark_6 : decode cX6_mark 6 = .ok (.iconst (-1), 1) := by decide +kernel
theorem dX6_mark_7 : decode cX6_mark 7 = .ok (.if_icmp .eq 8, 3) := by decide +kernel
theorem dX6_mark_10 : decode cX6_mark 10 = .ok (.aload_n 0, 1) := by decide +kernel
theorem dX6_mark_11 : decode cX6_mark 11 = .ok (.iload_n 2, 1) := by decide +kernel
theorem dX6_mark_12 : decode cX6_mark 12 = .ok (.invokevirtual 151, 3) := by decide +kernel
theorem dX6_mark_15 : decode cX6_mark 15 = .ok (.aload_n 0, 1) := by decide +kernel
theorem dX6_mark_16 : decode cX6_mark 16 = .ok (.getfield 29, 3) := by decide +kernel
theorem dX6_mark_19 : decode cX6_mark 19 = .ok (.aload_n 0, 1) := by decide +kernel
theorem dX6_mark_20 : decode cX6_mark 20 = .ok (.getfield 12, 3) := by decide +kernel
theorem dX6_mark_23 : decode cX6_mark 23 = .ok (.invokevirtual 90, 3) := by decide +kernel
theorem dX6_mark_26 : decode cX6_mark 26 = .ok (.aload_n 0, 1) := by decide +kernel
theorem dX6_mark_27 : decode cX6_mark 27 = .ok (.getfield 12, 3) := by decide +kernel
theorem dX6_mark_30 : decode cX6_mark 30 = .ok (.iload_n 1, 1) := by decide +kernel
theorem dX6_mark_31 : decode cX6_mark 31 = .ok (.iconst 5, 1) := by decide +kernel
theorem dX6_mark_32 : decode cX6_mark 32 = .ok (.invokevirtual 147, 3) := by decide +kernel
theorem dX6_mark_35 : decode cX6_mark 35 = .ok (.istore_n 3, 1) := by decide +kernel
theorem dX6_mark_36 : decode cX6_mark 36 = .ok (.aload_n 0, 1) := by decide +kernel
theorem dX6_mark_37 : decode cX6_mark 37 = .ok (.getfield 12, 3) := by decide +kernel
theorem dX6_mark_40 : decode cX6_mark 40 = .ok (.iload_n 1, 1) := by decide +kernel
theorem dX6_mark_41 : decode cX6_mark 41 = .ok (.iconst 5, 1) := by decide +kernel
theorem dX6_mark_42 : decode cX6_mark 42 = .ok (.iload_n 2, 1) := by decide +kernel
theorem dX6_mark_43 : decode cX6_mark 43 = .ok (.invokevirtual 249, 3) := by decide +kernel
theorem dX6_mark_46 : decode cX6_mark 46 = .ok (.iload_n 3, 1) := by decide +kernel
theorem dX6_mark_47 : decode cX6_mark 47 = .ok (.ireturn, 1) := by decide +kernel
theorem eX6_mark {W : zWd} {a : Int → Int} {T n : Int} {K : Nat → (Int → Int)} {p s : Int} {Q : Option Value → zWd → Prop} {X : zX} (hR : zCR W 0 a) (hw : zWf T a) (hH : zHi W n K) (hg : zGm W) (hz : zR p) (hz2 : zR s) (hq : 0 ≤ p → p < a 2 → (s = -1 ∨ (1 ≤ s ∧ s ≤ a 1)) → ∀ W' : zWd, zOffC W W' → zGm W' → zCR W' 0 (iup a (58 + 17 * p + 5) (if s = -1 then 0 else s)) → zHi W' (if n + 1 < 8 then n + 1 else 8) (zPush a K) → Q (some (zI (if aP a p 5 = 0 then -1 else aP a p 5))) W') (hx : ¬ ((0 ≤ p ∧ p < a 2) ∧ (s = -1 ∨ (1 ≤ s ∧ s ≤ a 1))) → X "java/lang/IndexOutOfBoundsException" W) : Ev MX6_mark 8 2 W [.ref 96, zI p, zI s] Q X := by
  refine ev_of (ls := [.ref 96, zI p, zI s, .null]) (by decide) rfl (fun _ => rfl) (fun _ => Nat.le_of_ble_eq_true rfl) (Or.inr (by decide)) ?_
  obtain ⟨r0, r1, r2, r3, r4, r5, r6, r7, rF, rS, rP, rB⟩ := id hR
  obtain ⟨w0, w0', wW, w1, w2, w2', w3, w3', w4, w4', w5, w5', w6, w6', w7, w7', wS, wP, wT⟩ := id hw
  have wq := zWf.sq hw
  have hn0 : zR (W 0 0) := by unfold zR; omega
  have hn1 : zR (W 0 1) := by unfold zR; omega
  have hn2 : zR (W 0 2) := by unfold zR; omega
  refine rr_aload_n (pc := 0) dX6_mark_0 rfl ?_
  refine rr_iload_n (pc := 1) dX6_mark_1 rfl ?_
  refine rr_inv (M' := MX6_checkPlayer) (k := 96) (As := [_]) (t' := 1) (pc := 2) dX6_mark_2 lX6_139 kX6_checkPlayer vX6_checkPlayer zk_96 (by decide) rfl (by decide) (by decide) (by decide) (Nat.le_of_ble_eq_true rfl) rfl (eX6_checkPlayer hz hn2 (fun k0 k1 => ?_) (fun k => hx (by omega)))
  rw [r2] at k1
  refine rr_iload_n (pc := 5) dX6_mark_5 rfl ?_
  refine rr_iconst (n := (-1)) dX6_mark_6 ?_
  refine rr_icmp_eq (pc := 7) (tgt := 15) dX6_mark_7 (by decide) hz2 (by unfold zR; omega) (fun h7 => ?_) (fun h7 => ?_)
  · have hs : s = -1 ∨ (1 ≤ s ∧ s ≤ a 1) := Or.inl h7
    refine rr_aload_n (pc := 15) dX6_mark_15 rfl ?_
    refine rr_getR (pc := 16) dX6_mark_16 fX6_29 zk_96 zr_96_3 ?_
    refine rr_aload_n (pc := 19) dX6_mark_19 rfl ?_
    refine rr_getR (pc := 20) dX6_mark_20 fX6_12 zk_96 zr_96_0 ?_
    refine rr_invN (M' := MX2_keep) (k := 108) (As := [_]) (pc := 23) dX6_mark_23 lX6_90 kX2_keep vX2_keep zk_108 (by decide) rfl (by decide) (by decide) (Nat.le_of_ble_eq_true rfl) rfl (eX2_keep hR hw hH (fun W1 o1 i1 => ?_))
    have c1 : zCR W1 0 a := CR_off hR (fun k g1 g2 => o1 k (Or.inl (by omega)) (by omega))
    have g1 := o1.g hg
    have hm1 := c1.2.2.2.2.2.2.2.2.2.2.1
    refine rr_aload_n (pc := 26) dX6_mark_26 rfl ?_
    refine rr_getR (pc := 27) dX6_mark_27 fX6_12 zk_96 zr_96_0 ?_
    refine rr_iload_n (pc := 30) dX6_mark_30 rfl ?_
    refine rr_iconst (n := 5) dX6_mark_31 ?_
    refine rr_invN (M' := MX0_get) (k := 0) (As := [_, _]) (pc := 32) dX6_mark_32 lX6_147 kX0_get vX0_get zCt_0.k (by decide) rfl (by decide) (by decide) (Nat.le_of_ble_eq_true rfl) rfl (eX0_get zCt_0 (by omega) (by omega) (by omega) (by omega) ?_)
    rw [(hm1 p k0 k1).2.2.2.2.2.1]
    refine rr_istore_n (pc := 35) dX6_mark_35 (by decide) ?_
    refine rr_aload_n (pc := 36) dX6_mark_36 rfl ?_
    refine rr_getR (pc := 37) dX6_mark_37 fX6_12 zk_96 zr_96_0 ?_
    refine rr_iload_n (pc := 40) dX6_mark_40 rfl ?_
    refine rr_iconst (n := 5) dX6_mark_41 ?_
    refine rr_iload_n (pc := 42) dX6_mark_42 rfl ?_
    refine rr_invN (M' := MX0_put) (k := 0) (As := [_, _, _]) (pc := 43) dX6_mark_43 lX6_249 kX0_put vX0_put zCt_0.k (by decide) rfl (by decide) (by decide) (Nat.le_of_ble_eq_true rfl) rfl (eX0_put zCt_0 (by omega) (by omega) (by omega) (by omega) ?_)
    have c2 := CR_P (j := 5) (w := 5) (v := s) (v' := if s = -1 then 0 else s) c1 k0 (Or.inr (Or.inl ⟨rfl, rfl, z_mk (by omega)⟩))
    have o2 : zOff 0 W1 (zup W1 (0 + 5) (p * 10 + 5) s) := zOff.rf.up (by omega)
    generalize zup W1 (0 + 5) (p * 10 + 5) s = W2 at c2 o2 ⊢
    refine rr_iload_n (pc := 46) dX6_mark_46 rfl ?_
    exact rr_reti (pc := 47) dX6_mark_47 rfl rfl rfl rfl (hq k0 k1 hs W2 (o1.C.tr (o2.C (by omega))) (g1.c zCt_0 o2) c2 (i1.c0 o2))
  · refine rr_aload_n (pc := 10) dX6_mark_10 rfl ?_
    refine rr_iload_n (pc := 11) dX6_mark_11 rfl ?_
    refine rr_inv (M' := MX6_checkSquare) (k := 96) (As := [_]) (t' := 1) (pc := 12) dX6_mark_12 lX6_151 kX6_checkSquare vX6_checkSquare zk_96 (by decide) rfl (by decide) (by decide) (by decide) (Nat.le_of_ble_eq_true rfl) rfl (eX6_checkSquare hz2 hn1 (fun j0 j1 => ?_) (fun k => hx (by omega)))
    rw [r1] at j1
    have hs : s = -1 ∨ (1 ≤ s ∧ s ≤ a 1) := Or.inr ⟨j0, j1⟩
    refine rr_aload_n (pc := 15) dX6_mark_15 rfl ?_
    refine rr_getR (pc := 16) dX6_mark_16 fX6_29 zk_96 zr_96_3 ?_
    refine rr_aload_n (pc := 19) dX6_mark_19 rfl ?_
    refine rr_getR (pc := 20) dX6_mark_20 fX6_12 zk_96 zr_96_0 ?_
    refine rr_invN (M' := MX2_keep) (k := 108) (As := [_]) (pc := 23) dX6_mark_23 lX6_90 kX2_keep vX2_keep zk_108 (by decide) rfl (by decide) (by decide) (Nat.le_of_ble_eq_true rfl) rfl (eX2_keep hR hw hH (fun W1 o1 i1 => ?_))
    have c1 : zCR W1 0 a := CR_off hR (fun k g1 g2 => o1 k (Or.inl (by omega)) (by omega))
    have g1 := o1.g hg
    have hm1 := c1.2.2.2.2.2.2.2.2.2.2.1
    refine rr_aload_n (pc := 26) dX6_mark_26 rfl ?_
    refine rr_getR (pc := 27) dX6_mark_27 fX6_12 zk_96 zr_96_0 ?_
    refine rr_iload_n (pc := 30) dX6_mark_30 rfl ?_
    refine rr_iconst (n := 5) dX6_mark_31 ?_
    refine rr_invN (M' := MX0_get) (k := 0) (As := [_, _]) (pc := 32) dX6_mark_32 lX6_147 kX0_get vX0_get zCt_0.k (by decide) rfl (by decide) (by decide) (Nat.le_of_ble_eq_true rfl) rfl (eX0_get zCt_0 (by omega) (by omega) (by omega) (by omega) ?_)
    rw [(hm1 p k0 k1).2.2.2.2.2.1]
    refine rr_istore_n (pc := 35) dX6_mark_35 (by decide) ?_
    refine rr_aload_n (pc := 36) dX6_mark_36 rfl ?_
    refine rr_getR (pc := 37) dX6_mark_37 fX6_12 zk_96 zr_96_0 ?_
    refine rr_iload_n (pc := 40) dX6_mark_40 rfl ?_
    refine rr_iconst (n := 5) dX6_mark_41 ?_
    refine rr_iload_n (pc := 42) dX6_mark_42 rfl ?_
    refine rr_invN (M' := MX0_put) (k := 0) (As := [_, _, _]) (pc := 43) dX6_mark_43 lX6_249 kX0_put vX0_put zCt_0.k (by decide) rfl (by decide) (by decide) (Nat.le_of_ble_eq_true rfl) rfl (eX0_put zCt_0 (by omega) (by omega) (by omega) (by omega) ?_)
    have c2 := CR_P (j := 5) (w := 5) (v := s) (v' := if s = -1 then 0 else s) c1 k0 (Or.inr (Or.inl ⟨rfl, rfl, z_mk (by omega)⟩))
    have o2 : zOff 0 W1 (zup W1 (0 + 5) (p * 10 + 5) s) := zOff.rf.up (by omega)
    generalize zup W1 (0 + 5) (p * 10 + 5) s = W2 at c2 o2 ⊢
    refine rr_iload_n (pc := 46) dX6_mark_46 rfl ?_
    exact rr_reti (pc := 47) dX6_mark_47 rfl rfl rfl rfl (hq k0 k1 hs W2 (o1.C.tr (o2.C (by omega))) (g1.c zCt_0 o2) c2 (i1.c0 o2))
theorem dX6_undo_0 : decode cX6_undo 0 = .ok (.aload_n 0, 1) := by decide +kernel
theorem dX6_undo_1 : decode cX6_undo 1 = .ok (.getfield 29, 3) := by decide +kernel
theorem dX6_undo_4 : decode cX6_undo 4 = .ok (.getfield 273, 3) := by decide +kernel
theorem dX6_undo_7 : decode cX6_undo 7 = .ok (.ifCond .ne 14, 3) := by decide +kernel
theorem dX6_undo_10 : decode cX6_undo 10 = .ok (.new 73, 3) := by decide +kernel
theorem dX6_undo_13 : decode cX6_undo 13 = .ok (.dup, 1) := by decide +kernel
theorem dX6_undo_14 : decode cX6_undo 14 = .ok (.ldc_w 276, 3) := by decide +kernel
theorem dX6_undo_17 : decode cX6_undo 17 = .ok (.invokespecial 77, 3) := by decide +kernel
theorem dX6_undo_20 : decode cX6_undo 20 = .ok (.athrow, 1) := by decide +kernel
theorem dX6_undo_21 : decode cX6_undo 21 = .ok (.aload_n 0, 1) := by decide +kernel
theorem dX6_undo_22 : decode cX6_undo 22 = .ok (.getfield 29, 3) := by decide +kernel
theorem dX6_undo_25 : decode cX6_undo 25 = .ok (.aload_n 0, 1) := by decide +kernel
theorem dX6_undo_26 : decode cX6_undo 26 = .ok (.getfield 12, 3) := by decide +kernel
theorem dX6_undo_29 : decode cX6_undo 29 = .ok (.invokevirtual 278, 3) := by decide +kernel
theorem dX6_undo_32 : decode cX6_undo 32 = .ok (.aload_n 0, 1) := by decide +kernel
theorem dX6_undo_33 : decode cX6_undo 33 = .ok (.getfield 29, 3) := by decide +kernel
theorem dX6_undo_36 : decode cX6_undo 36 = .ok (.getfield 273, 3) := by decide +kernel
theorem dX6_undo_39 : decode cX6_undo 39 = .ok (.ireturn, 1) := by decide +kernel
theorem eX6_undo {W : zWd} {a : Int → Int} {T n : Int} {K : Nat → (Int → Int)}  {Q : Option Value → zWd → Prop} {X : zX} (hR : zCR W 0 a) (hw : zWf T a) (hH : zHi W n K) (hg : zGm W) (hK : 0 < n → K 0 2 ≤ 6) (hq : 0 < n → ∀ W' : zWd, zOffC W W' → zGm W' → zCR W' 0 (K 0) → zHi W' (n - 1) (fun j => K (j + 1)) → Q (some (zI (n - 1))) W') (hx : n = 0 → X "java/lang/IllegalStateException" W) : Ev MX6_undo 7 1 W [.ref 96] Q X := by
  refine ev_of (ls := [.ref 96]) (by decide) rfl (fun _ => rfl) (fun _ => Nat.le_of_ble_eq_true rfl) (Or.inr (by decide)) ?_
  obtain ⟨h1, h2, h3, h4, h5, h6⟩ := id hH
  refine rr_aload_n (pc := 0) dX6_undo_0 rfl ?_
  refine rr_getR (pc := 1) dX6_undo_1 fX6_29 zk_96 zr_96_3 ?_
  refine rr_getI (pc := 4) (ji := 2) dX6_undo_4 fX6_273 zk_108 zr_108_2 rfl ?_
  rw [h1]
  refine rr_if_ne (pc := 7) (tgt := 21) dX6_undo_7 (by decide) (by unfold zR; omega) (fun h7 => ?_) (fun h7 => ?_)
  · refine rr_aload_n (pc := 21) dX6_undo_21 rfl ?_
    refine rr_getR (pc := 22) dX6_undo_22 fX6_29 zk_96 zr_96_3 ?_
    refine rr_aload_n (pc := 25) dX6_undo_25 rfl ?_
    refine rr_getR (pc := 26) dX6_undo_26 fX6_12 zk_96 zr_96_0 ?_
    refine rr_invN (M' := MX2_bringBack) (k := 108) (As := [_]) (pc := 29) dX6_undo_29 lX6_278 kX2_bringBack vX2_bringBack zk_108 (by decide) rfl (by decide) (by decide) (Nat.le_of_ble_eq_true rfl) rfl (eX2_bringBack hH (by omega) (hK (by omega)) (fun W1 o1 c1 i1 => ?_))
    refine rr_aload_n (pc := 32) dX6_undo_32 rfl ?_
    refine rr_getR (pc := 33) dX6_undo_33 fX6_29 zk_96 zr_96_3 ?_
    refine rr_getI (pc := 36) (ji := 2) dX6_undo_36 fX6_273 zk_108 zr_108_2 rfl ?_
    rw [i1.1]
    exact rr_reti (pc := 39) dX6_undo_39 rfl rfl rfl rfl (hq (by omega) W1 (fun k g1 g2 _ => o1 k (by omega) g2) ⟨by rw [o1 98 (by omega) (by omega)]; exact hg.1, by rw [o1 103 (by omega) (by omega)]; exact hg.2⟩ c1 i1)
  · exact rr_thr (by decide) tX6_undo_10 (hx (by omega))
