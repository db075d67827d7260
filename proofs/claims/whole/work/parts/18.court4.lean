theorem iup_id {a : Int → Int} {i : Int} : iup a i (a i) = a := by
  funext j; unfold iup; split
  · rename_i h; rw [h]
  · rfl
theorem aMendN_low {a : Int → Int} : ∀ (n : Nat) (j : Int), j < 58 → aMendN a n j = a j := by
  intro n
  induction n with
  | zero => intro j _; rfl
  | succ n ih => intro j hj; show iup (aMendN a n) _ _ j = a j; rw [iup_n (by omega)]; exact ih j hj
theorem aMendN_P {a : Int → Int} {q w : Int} : ∀ (n : Nat), 0 ≤ w → w < 17 → (w ≠ 2 ∨ (n : Int) ≤ q) → aP (aMendN a n) q w = aP a q w := by
  intro n
  induction n with
  | zero => intro _ _ _; rfl
  | succ n ih =>
    intro h1 h2 h3
    show aP (iup (aMendN a n) (58 + 17 * (n : Int) + 2) (aMendT a n)) q w = aP a q w
    rw [aP_up (by omega)]
    exact ih h1 h2 (by omega)
theorem aMendT_rng {a : Int → Int} {q : Int} (h0 : 0 ≤ aP a q 2) (h1 : aP a q 2 ≤ a 1) : 0 ≤ aMendT a q ∧ aMendT a q ≤ a 1 := by
  have g1 := aOpen_rng (a := a) (p := q) (s := aP a q 2 + 1) (by omega) (by omega)
  have g2 := aOpen_rng (a := a) (p := q) (s := 1) (by omega) (by omega)
  unfold aMendT
  (repeat' split) <;> omega
theorem aMendN_wf {T : Int} {a : Int → Int} (hw : zWf T a) : ∀ (n : Nat), (n : Int) ≤ a 2 → zWf T (aMendN a n) := by
  intro n
  induction n with
  | zero => intro _; exact hw
  | succ n ih =>
    intro hn
    have h9 := hw.2.2.2.2.2.2.2.2.2.2.2.2.2.2.2.2.2.1 n (by omega) (by omega)
    unfold zWfP at h9
    have h8 := aMendT_rng (a := a) (q := n) h9.2.2.2.2.1 h9.2.2.2.2.2.1
    exact WF_P (w := 2) (p := n) (ih (by omega)) (by omega) (by unfold zWr; rw [aMendN_low n 1 (by omega)]; omega)
theorem aMendN_O {a : Int → Int} {s : Int} (n : Nat) (hs : s ≤ 20) : aO (aMendN a n) s = aO a s := by
  unfold aO; rw [aMendN_low n _ (by omega)]
theorem aMendN_op {a : Int → Int} {q s : Int} (n : Nat) (h20 : a 1 ≤ 20) : aOpen (aMendN a n) q s = aOpen a q s :=
  aOpen_cg (aMendN_low n 1 (by omega)) (fun s' _ h => aMendN_O n (by omega))
theorem aMendN_s {a : Int → Int} {i v : Int} (h : 0 ≤ i) (hv : v = aMendT a i) : aMendN a (i + 1).toNat = iup (aMendN a i.toNat) (58 + 17 * i + 2) v := by
  rw [show (i + 1).toNat = i.toNat + 1 by omega, hv]
  show iup (aMendN a i.toNat) (58 + 17 * ((i.toNat : Nat) : Int) + 2) (aMendT a ((i.toNat : Nat) : Int)) = _
  rw [show ((i.toNat : Nat) : Int) = i by omega]
theorem dX0_mendTargets_0 : decode cX0_mendTargets 0 = .ok (.iconst 0, 1) := by decide +kernel
theorem dX0_mendTargets_1 : decode cX0_mendTargets 1 = .ok (.istore_n 1, 1) := by decide +kernel
theorem dX0_mendTargets_2 : decode cX0_mendTargets 2 = .ok (.iload_n 1, 1) := by decide +kernel
theorem dX0_mendTargets_3 : decode cX0_mendTargets 3 = .ok (.aload_n 0, 1) := by decide +kernel
theorem dX0_mendTargets_4 : decode cX0_mendTargets 4 = .ok (.getfield 44, 3) := by decide +kernel
theorem dX0_mendTargets_7 : decode cX0_mendTargets 7 = .ok (.if_icmp .ge 58, 3) := by decide +kernel
theorem dX0_mendTargets_10 : decode cX0_mendTargets 10 = .ok (.aload_n 0, 1) := by decide +kernel
theorem dX0_mendTargets_11 : decode cX0_mendTargets 11 = .ok (.iload_n 1, 1) := by decide +kernel
theorem dX0_mendTargets_12 : decode cX0_mendTargets 12 = .ok (.iconst 2, 1) := by decide +kernel
theorem dX0_mendTargets_13 : decode cX0_mendTargets 13 = .ok (.invokevirtual 81, 3) := by decide +kernel
theorem dX0_mendTargets_16 : decode cX0_mendTargets 16 = .ok (.istore_n 2, 1) := by decide +kernel
theorem dX0_mendTargets_17 : decode cX0_mendTargets 17 = .ok (.iload_n 2, 1) := by decide +kernel
theorem dX0_mendTargets_18 : decode cX0_mendTargets 18 = .ok (.ifCond .eq 12, 3) := by decide +kernel
theorem dX0_mendTargets_21 : decode cX0_mendTargets 21 = .ok (.aload_n 0, 1) := by decide +kernel
theorem dX0_mendTargets_22 : decode cX0_mendTargets 22 = .ok (.iload_n 1, 1) := by decide +kernel
theorem dX0_mendTargets_23 : decode cX0_mendTargets 23 = .ok (.iload_n 2, 1) := by decide +kernel
theorem dX0_mendTargets_24 : decode cX0_mendTargets 24 = .ok (.invokevirtual 85, 3) := by decide +kernel
theorem dX0_mendTargets_27 : decode cX0_mendTargets 27 = .ok (.ifCond .eq 32, 3) := by decide +kernel
theorem dX0_mendTargets_30 : decode cX0_mendTargets 30 = .ok (.aload_n 0, 1) := by decide +kernel
theorem dX0_mendTargets_31 : decode cX0_mendTargets 31 = .ok (.iload_n 1, 1) := by decide +kernel
theorem dX0_mendTargets_32 : decode cX0_mendTargets 32 = .ok (.iload_n 2, 1) := by decide +kernel
theorem dX0_mendTargets_33 : decode cX0_mendTargets 33 = .ok (.iconst 1, 1) := by decide +kernel
theorem dX0_mendTargets_34 : decode cX0_mendTargets 34 = .ok (.iadd, 1) := by decide +kernel
theorem dX0_mendTargets_35 : decode cX0_mendTargets 35 = .ok (.invokevirtual 89, 3) := by decide +kernel
theorem dX0_mendTargets_38 : decode cX0_mendTargets 38 = .ok (.istore_n 3, 1) := by decide +kernel
theorem dX0_mendTargets_39 : decode cX0_mendTargets 39 = .ok (.aload_n 0, 1) := by decide +kernel
theorem dX0_mendTargets_40 : decode cX0_mendTargets 40 = .ok (.iload_n 1, 1) := by decide +kernel
theorem dX0_mendTargets_41 : decode cX0_mendTargets 41 = .ok (.iconst 2, 1) := by decide +kernel
theorem dX0_mendTargets_42 : decode cX0_mendTargets 42 = .ok (.iload_n 3, 1) := by decide +kernel
theorem dX0_mendTargets_43 : decode cX0_mendTargets 43 = .ok (.ifCond .ne 12, 3) := by decide +kernel
theorem dX0_mendTargets_46 : decode cX0_mendTargets 46 = .ok (.aload_n 0, 1) := by decide +kernel
theorem dX0_mendTargets_47 : decode cX0_mendTargets 47 = .ok (.iload_n 1, 1) := by decide +kernel
theorem dX0_mendTargets_48 : decode cX0_mendTargets 48 = .ok (.iconst 1, 1) := by decide +kernel
theorem dX0_mendTargets_49 : decode cX0_mendTargets 49 = .ok (.invokevirtual 89, 3) := by decide +kernel
theorem dX0_mendTargets_52 : decode cX0_mendTargets 52 = .ok (.goto 4, 3) := by decide +kernel
theorem dX0_mendTargets_55 : decode cX0_mendTargets 55 = .ok (.iload_n 3, 1) := by decide +kernel
theorem dX0_mendTargets_56 : decode cX0_mendTargets 56 = .ok (.invokevirtual 68, 3) := by decide +kernel
theorem dX0_mendTargets_59 : decode cX0_mendTargets 59 = .ok (.iinc 1 1, 3) := by decide +kernel
theorem dX0_mendTargets_62 : decode cX0_mendTargets 62 = .ok (.goto (-60), 3) := by decide +kernel
theorem dX0_mendTargets_65 : decode cX0_mendTargets 65 = .ok (.return_, 1) := by decide +kernel
theorem eX0_mendTargets {c : Nat} {W : zWd} {a : Int → Int} {T : Int}  {Q : Option Value → zWd → Prop} {X : zX} (hc : zCt c) (hR : zCR W c a) (hw : zWf T a) (hq : ∀ W' : zWd, zOff c W W' → zCR W' c (aMend a) → Q none W') : Ev MX0_mendTargets 2 0 W [.ref c] Q X := by
  refine ev_of (ls := [.ref c, .null, .null, .null]) (by decide) rfl (fun _ => rfl) (fun _ => Nat.le_of_ble_eq_true rfl) (Or.inl rfl) ?_
  obtain ⟨r0, r1, r2, r3, r4, r5, r6, r7, rF, rS, rP, rB⟩ := id hR
  obtain ⟨w0, w0', wW, w1, w2, w2', w3, w3', w4, w4', w5, w5', w6, w6', w7, w7', wS, wP, wT⟩ := id hw
  have wq := zWf.sq hw
  have loop : ∀ (n : Nat) (i : Int) (Wi : zWd) (v2 v3 : Value), 0 ≤ i → i ≤ a 2 → zOff c W Wi → zCR Wi c (aMendN a i.toNat) → (a 2 - i).toNat < n → RR MX0_mendTargets 2 0 Wi 2 [.ref c, zI i, v2, v3] [] (zEnd MX0_mendTargets Q X) X := by
    intro n
    induction n with
    | zero => intro i Wi v2 v3 _ _ _ _ hm9; omega
    | succ n ih =>
      intro i Wi v2 v3 h1 h2 hO hC hm9
      refine rr_iload_n (pc := 2) dX0_mendTargets_2 rfl ?_
      refine rr_aload_n (pc := 3) dX0_mendTargets_3 rfl ?_
      refine rr_getI (pc := 4) (ji := 2) dX0_mendTargets_4 fX0_44 hc.k hc.i2 rfl ?_
      rw [hC.2.2.1, aMendN_low _ _ (by omega)]
      refine rr_icmp_ge (pc := 7) (tgt := 65) dX0_mendTargets_7 (by decide) (by unfold zR; omega) (by unfold zR; omega) (fun h7 => ?_) (fun h7 => ?_)
      · exact rr_retv (pc := 65) dX0_mendTargets_65 rfl rfl ((hq Wi hO (by show zCR Wi c (aMendN a (a 2).toNat); rw [show a 2 = i by omega]; exact hC)))
      · refine rr_aload_n (pc := 10) dX0_mendTargets_10 rfl ?_
        refine rr_iload_n (pc := 11) dX0_mendTargets_11 rfl ?_
        refine rr_iconst (n := 2) dX0_mendTargets_12 ?_
        have hwn := aMendN_wf hw i.toNat (by omega)
        have l1 := aMendN_low (a := a) i.toNat 1 (by omega)
        have hm := (hC.2.2.2.2.2.2.2.2.2.2.1 i h1 (by rw [aMendN_low _ _ (by omega)]; omega)).2.2.1
        rw [aMendN_P (q := i) (w := 2) i.toNat (by omega) (by omega) (by omega)] at hm
        have hm2 := wP i h1 (by omega)
        unfold zWfP at hm2
        refine rr_inv0 (M' := MX0_get) (k := c) (As := [_, _]) (pc := 13) dX0_mendTargets_13 lX0_81 kX0_get vX0_get hc.k (by decide) rfl (by decide) (by decide) (Nat.le_of_ble_eq_true rfl) rfl (eX0_get hc (by omega) (by omega) (by omega) (by omega) ?_)
        rw [hm]
        refine rr_istore_n (pc := 16) dX0_mendTargets_16 (by decide) ?_
        refine rr_iload_n (pc := 17) dX0_mendTargets_17 rfl ?_
        refine rr_if_eq (pc := 18) (tgt := 30) dX0_mendTargets_18 (by decide) (by unfold zR; omega) (fun h18 => ?_) (fun h18 => ?_)
        · refine rr_aload_n (pc := 30) dX0_mendTargets_30 rfl ?_
          refine rr_iload_n (pc := 31) dX0_mendTargets_31 rfl ?_
          refine rr_iload_n (pc := 32) dX0_mendTargets_32 rfl ?_
          refine rr_iconst (n := 1) dX0_mendTargets_33 ?_
          refine rr_iadd (pc := 34) dX0_mendTargets_34 ?_
          have ho := aOpen_rng (a := a) (p := i) (s := aP a i 2 + 1) (by omega) (by omega)
          refine rr_inv0 (M' := MX0_firstAllowed) (k := c) (As := [_, _]) (pc := 35) dX0_mendTargets_35 lX0_89 kX0_firstAllowed vX0_firstAllowed hc.k (by decide) rfl (by decide) (by decide) (Nat.le_of_ble_eq_true rfl) rfl (eX0_firstAllowed hc hC hwn (by omega) (by omega) (by unfold zR; omega) ?_)
          rw [aMendN_op _ (by omega)]
          refine rr_istore_n (pc := 38) dX0_mendTargets_38 (by decide) ?_
          refine rr_aload_n (pc := 39) dX0_mendTargets_39 rfl ?_
          refine rr_iload_n (pc := 40) dX0_mendTargets_40 rfl ?_
          refine rr_iconst (n := 2) dX0_mendTargets_41 ?_
          refine rr_iload_n (pc := 42) dX0_mendTargets_42 rfl ?_
          refine rr_if_ne (pc := 43) (tgt := 55) dX0_mendTargets_43 (by decide) (by unfold zR; omega) (fun h43 => ?_) (fun h43 => ?_)
          · refine rr_iload_n (pc := 55) dX0_mendTargets_55 rfl ?_
            refine rr_inv0 (M' := MX0_put) (k := c) (As := [_, _, _]) (pc := 56) dX0_mendTargets_56 lX0_68 kX0_put vX0_put hc.k (by decide) rfl (by decide) (by decide) (Nat.le_of_ble_eq_true rfl) rfl (eX0_put hc (by omega) (by omega) (by omega) (by omega) ?_)
            refine rr_iinc (pc := 59) dX0_mendTargets_59 rfl (by decide) ?_
            refine rr_goto (pc := 62) (tgt := 2) dX0_mendTargets_62 (by decide) ?_
            exact ih (i + 1) _ _ _ (by omega) (by omega) (hO.up (by omega)) (by rw [aMendN_s (v := aOpen a i (aP a i 2 + 1)) h1 (by unfold aMendT; rw [if_pos (Or.inl h18), if_neg h43])]; exact CR_P hC h1 (by unfold zPj; omega)) (by omega)
          · refine rr_aload_n (pc := 46) dX0_mendTargets_46 rfl ?_
            refine rr_iload_n (pc := 47) dX0_mendTargets_47 rfl ?_
            refine rr_iconst (n := 1) dX0_mendTargets_48 ?_
            refine rr_inv0 (M' := MX0_firstAllowed) (k := c) (As := [_, _]) (pc := 49) dX0_mendTargets_49 lX0_89 kX0_firstAllowed vX0_firstAllowed hc.k (by decide) rfl (by decide) (by decide) (Nat.le_of_ble_eq_true rfl) rfl (eX0_firstAllowed hc hC hwn (by omega) (by omega) (by unfold zR; omega) ?_)
            rw [aMendN_op _ (by omega)]
            refine rr_goto (pc := 52) (tgt := 56) dX0_mendTargets_52 (by decide) ?_
            refine rr_inv0 (M' := MX0_put) (k := c) (As := [_, _, _]) (pc := 56) dX0_mendTargets_56 lX0_68 kX0_put vX0_put hc.k (by decide) rfl (by decide) (by decide) (Nat.le_of_ble_eq_true rfl) rfl (eX0_put hc (by omega) (by omega) (by omega) (by omega) ?_)
            refine rr_iinc (pc := 59) dX0_mendTargets_59 rfl (by decide) ?_
            refine rr_goto (pc := 62) (tgt := 2) dX0_mendTargets_62 (by decide) ?_
            exact ih (i + 1) _ _ _ (by omega) (by omega) (hO.up (by omega)) (by rw [aMendN_s (v := aOpen a i 1) h1 (by unfold aMendT; rw [if_pos (Or.inl h18), if_pos h43])]; exact CR_P hC h1 (by unfold zPj; omega)) (by omega)
        · refine rr_aload_n (pc := 21) dX0_mendTargets_21 rfl ?_
          refine rr_iload_n (pc := 22) dX0_mendTargets_22 rfl ?_
          refine rr_iload_n (pc := 23) dX0_mendTargets_23 rfl ?_
          refine rr_inv0 (M' := MX0_isForbidden) (k := c) (As := [_, _]) (pc := 24) dX0_mendTargets_24 lX0_85 kX0_isForbidden vX0_isForbidden hc.k (by decide) rfl (by decide) (by decide) (Nat.le_of_ble_eq_true rfl) rfl (eX0_isForbidden hc hC hwn (by omega) (by omega) (by unfold zR; omega) ?_)
          unfold aForb
          rw [aMendN_O _ (by omega)]
          refine rr_if_eq (pc := 27) (tgt := 59) dX0_mendTargets_27 (by decide) (by split <;> (unfold zR; omega)) (fun h27 => ?_) (fun h27 => ?_)
          · refine rr_iinc (pc := 59) dX0_mendTargets_59 rfl (by decide) ?_
            refine rr_goto (pc := 62) (tgt := 2) dX0_mendTargets_62 (by decide) ?_
            have hnf : ¬ aForb a i (aP a i 2) := by unfold aForb; split at h27 <;> first | assumption | exact absurd h27 (by decide)
            exact ih (i + 1) Wi _ _ (by omega) (by omega) hO (by rw [aMendN_s (v := aP a i 2) h1 (by unfold aMendT; rw [if_neg (fun z => z.elim h18 hnf)]), show iup (aMendN a i.toNat) (58 + 17 * i + 2) (aP a i 2) = aMendN a i.toNat from by rw [← aMendN_P (a := a) (q := i) (w := 2) i.toNat (by omega) (by omega) (by omega)]; exact iup_id]; exact hC) (by omega)
          · refine rr_aload_n (pc := 30) dX0_mendTargets_30 rfl ?_
            refine rr_iload_n (pc := 31) dX0_mendTargets_31 rfl ?_
            refine rr_iload_n (pc := 32) dX0_mendTargets_32 rfl ?_
            refine rr_iconst (n := 1) dX0_mendTargets_33 ?_
            refine rr_iadd (pc := 34) dX0_mendTargets_34 ?_
            have ho := aOpen_rng (a := a) (p := i) (s := aP a i 2 + 1) (by omega) (by omega)
            refine rr_inv0 (M' := MX0_firstAllowed) (k := c) (As := [_, _]) (pc := 35) dX0_mendTargets_35 lX0_89 kX0_firstAllowed vX0_firstAllowed hc.k (by decide) rfl (by decide) (by decide) (Nat.le_of_ble_eq_true rfl) rfl (eX0_firstAllowed hc hC hwn (by omega) (by omega) (by unfold zR; omega) ?_)
            rw [aMendN_op _ (by omega)]
            refine rr_istore_n (pc := 38) dX0_mendTargets_38 (by decide) ?_
            refine rr_aload_n (pc := 39) dX0_mendTargets_39 rfl ?_
            refine rr_iload_n (pc := 40) dX0_mendTargets_40 rfl ?_
            refine rr_iconst (n := 2) dX0_mendTargets_41 ?_
            refine rr_iload_n (pc := 42) dX0_mendTargets_42 rfl ?_
            refine rr_if_ne (pc := 43) (tgt := 55) dX0_mendTargets_43 (by decide) (by unfold zR; omega) (fun h43 => ?_) (fun h43 => ?_)
            · refine rr_iload_n (pc := 55) dX0_mendTargets_55 rfl ?_
              refine rr_inv0 (M' := MX0_put) (k := c) (As := [_, _, _]) (pc := 56) dX0_mendTargets_56 lX0_68 kX0_put vX0_put hc.k (by decide) rfl (by decide) (by decide) (Nat.le_of_ble_eq_true rfl) rfl (eX0_put hc (by omega) (by omega) (by omega) (by omega) ?_)
              refine rr_iinc (pc := 59) dX0_mendTargets_59 rfl (by decide) ?_
              refine rr_goto (pc := 62) (tgt := 2) dX0_mendTargets_62 (by decide) ?_
              exact ih (i + 1) _ _ _ (by omega) (by omega) (hO.up (by omega)) (by rw [aMendN_s (v := aOpen a i (aP a i 2 + 1)) h1 (by unfold aMendT; rw [if_pos (Or.inr (by unfold aForb; split at h27 <;> first | assumption | exact absurd rfl h27)), if_neg h43])]; exact CR_P hC h1 (by unfold zPj; omega)) (by omega)
            · refine rr_aload_n (pc := 46) dX0_mendTargets_46 rfl ?_
              refine rr_iload_n (pc := 47) dX0_mendTargets_47 rfl ?_
              refine rr_iconst (n := 1) dX0_mendTargets_48 ?_
              refine rr_inv0 (M' := MX0_firstAllowed) (k := c) (As := [_, _]) (pc := 49) dX0_mendTargets_49 lX0_89 kX0_firstAllowed vX0_firstAllowed hc.k (by decide) rfl (by decide) (by decide) (Nat.le_of_ble_eq_true rfl) rfl (eX0_firstAllowed hc hC hwn (by omega) (by omega) (by unfold zR; omega) ?_)
              rw [aMendN_op _ (by omega)]
              refine rr_goto (pc := 52) (tgt := 56) dX0_mendTargets_52 (by decide) ?_
              refine rr_inv0 (M' := MX0_put) (k := c) (As := [_, _, _]) (pc := 56) dX0_mendTargets_56 lX0_68 kX0_put vX0_put hc.k (by decide) rfl (by decide) (by decide) (Nat.le_of_ble_eq_true rfl) rfl (eX0_put hc (by omega) (by omega) (by omega) (by omega) ?_)
              refine rr_iinc (pc := 59) dX0_mendTargets_59 rfl (by decide) ?_
              refine rr_goto (pc := 62) (tgt := 2) dX0_mendTargets_62 (by decide) ?_
              exact ih (i + 1) _ _ _ (by omega) (by omega) (hO.up (by omega)) (by rw [aMendN_s (v := aOpen a i 1) h1 (by unfold aMendT; rw [if_pos (Or.inr (by unfold aForb; split at h27 <;> first | assumption | exact absurd rfl h27)), if_pos h43])]; exact CR_P hC h1 (by unfold zPj; omega)) (by omega)
  refine rr_iconst (n := 0) dX0_mendTargets_0 ?_
  refine rr_istore_n (pc := 1) dX0_mendTargets_1 (by decide) ?_
  exact loop _ 0 W .null .null (by omega) (by omega) zOff.rf hR (Nat.lt_succ_self _)
theorem CR_cp {W W' : zWd} {c c2 : Nat} {a : Int → Int} (h : zCR W c2 a) (ha : a 2 ≤ 6) (e0 : ∀ j : Int, 0 ≤ j → j < 8 → W' c j = W c2 j) (e1 : ∀ j : Int, 0 ≤ j → j < 11 → W' (c + 1) j = W (c2 + 1) j) (e2 : ∀ j : Int, 0 ≤ j → j < 21 → W' (c + 2) j = W (c2 + 2) j) (e3 : ∀ j : Int, 0 ≤ j → j < 21 → W' (c + 3) j = W (c2 + 3) j) (e4 : ∀ j : Int, 0 ≤ j → j < 21 → W' (c + 4) j = W (c2 + 4) j) (e5 : ∀ j : Int, 0 ≤ j → j < 60 → W' (c + 5) j = W (c2 + 5) j) (e6 : ∀ j : Int, 0 ≤ j → j < 48 → W' (c + 6) j = W (c2 + 6) j) (e7 : ∀ j : Int, 0 ≤ j → j < 6 → W' (c + 7) j = W (c2 + 7) j) : zCR W' c a := by
  obtain ⟨r0, r1, r2, r3, r4, r5, r6, r7, rF, rS, rP, rB⟩ := h
  refine ⟨by rw [e0 0 (by omega) (by omega)]; exact r0, by rw [e0 1 (by omega) (by omega)]; exact r1, by rw [e0 2 (by omega) (by omega)]; exact r2, by rw [e0 3 (by omega) (by omega)]; exact r3, by rw [e0 4 (by omega) (by omega)]; exact r4, by rw [e0 5 (by omega) (by omega)]; exact r5, by rw [e0 6 (by omega) (by omega)]; exact r6, by rw [e0 7 (by omega) (by omega)]; exact r7, ?_, ?_, ?_, ?_⟩
  · intro r h1 h2; rw [e1 r (by omega) (by omega)]; exact rF r h1 h2
  · intro s h1 h20 h2; rw [e2 s (by omega) (by omega), e3 s (by omega) (by omega), e4 s (by omega) (by omega)]; exact rS s h1 h20 h2
  · intro q h1 h2
    obtain ⟨q0, q1, q2, q3, q4, q5, q7, q8, q9, ⟨g1, g2, g3, g4⟩, g5⟩ := rP q h1 h2
    unfold zCRP zNam
    rw [e7 q h1 (by omega), e5 _ (by omega) (by omega), e5 _ (by omega) (by omega), e5 _ (by omega) (by omega), e5 _ (by omega) (by omega), e5 _ (by omega) (by omega), e5 _ (by omega) (by omega), e5 _ (by omega) (by omega), e5 _ (by omega) (by omega), e5 _ (by omega) (by omega)]
    exact ⟨q0, q1, q2, q3, q4, q5, q7, q8, q9, ⟨g1, g2, g3, g4⟩, fun k hk0 hk1 => by rw [e6 _ (by omega) (by omega)]; exact g5 k hk0 hk1⟩
  · intro i h1 h2; rw [e6 i h1 h2]; exact rB i h1 h2
theorem zCt.ne {c c2 : Nat} (h : zCt c) (h2 : zCt c2) (hn : c ≠ c2) : c + 8 ≤ c2 ∨ c2 + 8 ≤ c := by
  obtain ⟨i, hi, rfl⟩ := h
  obtain ⟨j, hj, rfl⟩ := h2
  omega
theorem dX0_copyFrom_0 : decode cX0_copyFrom 0 = .ok (.aload_n 0, 1) := by decide +kernel
theorem dX0_copyFrom_1 : decode cX0_copyFrom 1 = .ok (.aload_n 1, 1) := by decide +kernel
theorem dX0_copyFrom_2 : decode cX0_copyFrom 2 = .ok (.getfield 37, 3) := by decide +kernel
theorem dX0_copyFrom_5 : decode cX0_copyFrom 5 = .ok (.putfield 37, 3) := by decide +kernel
theorem dX0_copyFrom_8 : decode cX0_copyFrom 8 = .ok (.aload_n 0, 1) := by decide +kernel
theorem dX0_copyFrom_9 : decode cX0_copyFrom 9 = .ok (.aload_n 1, 1) := by decide +kernel
theorem dX0_copyFrom_10 : decode cX0_copyFrom 10 = .ok (.getfield 41, 3) := by decide +kernel
theorem dX0_copyFrom_13 : decode cX0_copyFrom 13 = .ok (.putfield 41, 3) := by decide +kernel
theorem dX0_copyFrom_16 : decode cX0_copyFrom 16 = .ok (.aload_n 0, 1) := by decide +kernel
theorem dX0_copyFrom_17 : decode cX0_copyFrom 17 = .ok (.aload_n 1, 1) := by decide +kernel
theorem dX0_copyFrom_18 : decode cX0_copyFrom 18 = .ok (.getfield 44, 3) := by decide +kernel
theorem dX0_copyFrom_21 : decode cX0_copyFrom 21 = .ok (.putfield 44, 3) := by decide +kernel
theorem dX0_copyFrom_24 : decode cX0_copyFrom 24 = .ok (.aload_n 0, 1) := by decide +kernel
theorem dX0_copyFrom_25 : decode cX0_copyFrom 25 = .ok (.aload_n 1, 1) := by decide +kernel
theorem dX0_copyFrom_26 : decode cX0_copyFrom 26 = .ok (.getfield 47, 3) := by decide +kernel
theorem dX0_copyFrom_29 : decode cX0_copyFrom 29 = .ok (.putfield 47, 3) := by decide +kernel
theorem dX0_copyFrom_32 : decode cX0_copyFrom 32 = .ok (.aload_n 0, 1) := by decide +kernel
theorem dX0_copyFrom_33 : decode cX0_copyFrom 33 = .ok (.aload_n 1, 1) := by decide +kernel
theorem dX0_copyFrom_34 : decode cX0_copyFrom 34 = .ok (.getfield 50, 3) := by decide +kernel
theorem dX0_copyFrom_37 : decode cX0_copyFrom 37 = .ok (.putfield 50, 3) := by decide +kernel
theorem dX0_copyFrom_40 : decode cX0_copyFrom 40 = .ok (.aload_n 0, 1) := by decide +kernel
theorem dX0_copyFrom_41 : decode cX0_copyFrom 41 = .ok (.aload_n 1, 1) := by decide +kernel
theorem dX0_copyFrom_42 : decode cX0_copyFrom 42 = .ok (.getfield 53, 3) := by decide +kernel
theorem dX0_copyFrom_45 : decode cX0_copyFrom 45 = .ok (.putfield 53, 3) := by decide +kernel
theorem dX0_copyFrom_48 : decode cX0_copyFrom 48 = .ok (.aload_n 0, 1) := by decide +kernel
theorem dX0_copyFrom_49 : decode cX0_copyFrom 49 = .ok (.aload_n 1, 1) := by decide +kernel
theorem dX0_copyFrom_50 : decode cX0_copyFrom 50 = .ok (.getfield 56, 3) := by decide +kernel
theorem dX0_copyFrom_53 : decode cX0_copyFrom 53 = .ok (.putfield 56, 3) := by decide +kernel
theorem dX0_copyFrom_56 : decode cX0_copyFrom 56 = .ok (.aload_n 0, 1) := by decide +kernel
theorem dX0_copyFrom_57 : decode cX0_copyFrom 57 = .ok (.aload_n 1, 1) := by decide +kernel
theorem dX0_copyFrom_58 : decode cX0_copyFrom 58 = .ok (.getfield 59, 3) := by decide +kernel
theorem dX0_copyFrom_61 : decode cX0_copyFrom 61 = .ok (.putfield 59, 3) := by decide +kernel
theorem dX0_copyFrom_64 : decode cX0_copyFrom 64 = .ok (.aload_n 1, 1) := by decide +kernel
theorem dX0_copyFrom_65 : decode cX0_copyFrom 65 = .ok (.getfield 9, 3) := by decide +kernel
theorem dX0_copyFrom_68 : decode cX0_copyFrom 68 = .ok (.iconst 0, 1) := by decide +kernel
theorem dX0_copyFrom_69 : decode cX0_copyFrom 69 = .ok (.aload_n 0, 1) := by decide +kernel
theorem dX0_copyFrom_70 : decode cX0_copyFrom 70 = .ok (.getfield 9, 3) := by decide +kernel
theorem dX0_copyFrom_73 : decode cX0_copyFrom 73 = .ok (.iconst 0, 1) := by decide +kernel
theorem dX0_copyFrom_74 : decode cX0_copyFrom 74 = .ok (.aload_n 0, 1) := by decide +kernel
theorem dX0_copyFrom_75 : decode cX0_copyFrom 75 = .ok (.getfield 9, 3) := by decide +kernel
theorem dX0_copyFrom_78 : decode cX0_copyFrom 78 = .ok (.arraylength, 1) := by decide +kernel
theorem dX0_copyFrom_79 : decode cX0_copyFrom 79 = .ok (.invokestatic 62, 3) := by decide +kernel
theorem dX0_copyFrom_82 : decode cX0_copyFrom 82 = .ok (.aload_n 1, 1) := by decide +kernel
theorem dX0_copyFrom_83 : decode cX0_copyFrom 83 = .ok (.getfield 15, 3) := by decide +kernel
theorem dX0_copyFrom_86 : decode cX0_copyFrom 86 = .ok (.iconst 0, 1) := by decide +kernel
theorem dX0_copyFrom_87 : decode cX0_copyFrom 87 = .ok (.aload_n 0, 1) := by decide +kernel
theorem dX0_copyFrom_88 : decode cX0_copyFrom 88 = .ok (.getfield 15, 3) := by decide +kernel
theorem dX0_copyFrom_91 : decode cX0_copyFrom 91 = .ok (.iconst 0, 1) := by decide +kernel
theorem dX0_copyFrom_92 : decode cX0_copyFrom 92 = .ok (.aload_n 0, 1) := by decide +kernel
theorem dX0_copyFrom_93 : decode cX0_copyFrom 93 = .ok (.getfield 15, 3) := by decide +kernel
theorem dX0_copyFrom_96 : decode cX0_copyFrom 96 = .ok (.arraylength, 1) := by decide +kernel
theorem dX0_copyFrom_97 : decode cX0_copyFrom 97 = .ok (.invokestatic 62, 3) := by decide +kernel
theorem dX0_copyFrom_100 : decode cX0_copyFrom 100 = .ok (.aload_n 1, 1) := by decide +kernel
theorem dX0_copyFrom_101 : decode cX0_copyFrom 101 = .ok (.getfield 18, 3) := by decide +kernel
theorem dX0_copyFrom_104 : decode cX0_copyFrom 104 = .ok (.iconst 0, 1) := by decide +kernel
theorem dX0_copyFrom_105 : decode cX0_copyFrom 105 = .ok (.aload_n 0, 1) := by decide +kernel
theorem dX0_copyFrom_106 : decode cX0_copyFrom 106 = .ok (.getfield 18, 3) := by decide +kernel
theorem dX0_copyFrom_109 : decode cX0_copyFrom 109 = .ok (.iconst 0, 1) := by decide +kernel
theorem dX0_copyFrom_110 : decode cX0_copyFrom 110 = .ok (.aload_n 0, 1) := by decide +kernel
theorem dX0_copyFrom_111 : decode cX0_copyFrom 111 = .ok (.getfield 18, 3) := by decide +kernel
theorem dX0_copyFrom_114 : decode cX0_copyFrom 114 = .ok (.arraylength, 1) := by decide +kernel
theorem dX0_copyFrom_115 : decode cX0_copyFrom 115 = .ok (.invokestatic 62, 3) := by decide +kernel
theorem dX0_copyFrom_118 : decode cX0_copyFrom 118 = .ok (.aload_n 1, 1) := by decide +kernel
theorem dX0_copyFrom_119 : decode cX0_copyFrom 119 = .ok (.getfield 21, 3) := by decide +kernel
theorem dX0_copyFrom_122 : decode cX0_copyFrom 122 = .ok (.iconst 0, 1) := by decide +kernel
theorem dX0_copyFrom_123 : decode cX0_copyFrom 123 = .ok (.aload_n 0, 1) := by decide +kernel
theorem dX0_copyFrom_124 : decode cX0_copyFrom 124 = .ok (.getfield 21, 3) := by decide +kernel
theorem dX0_copyFrom_127 : decode cX0_copyFrom 127 = .ok (.iconst 0, 1) := by decide +kernel
theorem dX0_copyFrom_128 : decode cX0_copyFrom 128 = .ok (.aload_n 0, 1) := by decide +kernel
theorem dX0_copyFrom_129 : decode cX0_copyFrom 129 = .ok (.getfield 21, 3) := by decide +kernel
theorem dX0_copyFrom_132 : decode cX0_copyFrom 132 = .ok (.arraylength, 1) := by decide +kernel
theorem dX0_copyFrom_133 : decode cX0_copyFrom 133 = .ok (.invokestatic 62, 3) := by decide +kernel
theorem dX0_copyFrom_136 : decode cX0_copyFrom 136 = .ok (.aload_n 1, 1) := by decide +kernel
theorem dX0_copyFrom_137 : decode cX0_copyFrom 137 = .ok (.getfield 24, 3) := by decide +kernel
theorem dX0_copyFrom_140 : decode cX0_copyFrom 140 = .ok (.iconst 0, 1) := by decide +kernel
theorem dX0_copyFrom_141 : decode cX0_copyFrom 141 = .ok (.aload_n 0, 1) := by decide +kernel
theorem dX0_copyFrom_142 : decode cX0_copyFrom 142 = .ok (.getfield 24, 3) := by decide +kernel
theorem dX0_copyFrom_145 : decode cX0_copyFrom 145 = .ok (.iconst 0, 1) := by decide +kernel
theorem dX0_copyFrom_146 : decode cX0_copyFrom 146 = .ok (.aload_n 0, 1) := by decide +kernel
theorem dX0_copyFrom_147 : decode cX0_copyFrom 147 = .ok (.getfield 24, 3) := by decide +kernel
theorem dX0_copyFrom_150 : decode cX0_copyFrom 150 = .ok (.arraylength, 1) := by decide +kernel
theorem dX0_copyFrom_151 : decode cX0_copyFrom 151 = .ok (.invokestatic 62, 3) := by decide +kernel
theorem dX0_copyFrom_154 : decode cX0_copyFrom 154 = .ok (.aload_n 1, 1) := by decide +kernel
theorem dX0_copyFrom_155 : decode cX0_copyFrom 155 = .ok (.getfield 27, 3) := by decide +kernel
theorem dX0_copyFrom_158 : decode cX0_copyFrom 158 = .ok (.iconst 0, 1) := by decide +kernel
theorem dX0_copyFrom_159 : decode cX0_copyFrom 159 = .ok (.aload_n 0, 1) := by decide +kernel
theorem dX0_copyFrom_160 : decode cX0_copyFrom 160 = .ok (.getfield 27, 3) := by decide +kernel
theorem dX0_copyFrom_163 : decode cX0_copyFrom 163 = .ok (.iconst 0, 1) := by decide +kernel
theorem dX0_copyFrom_164 : decode cX0_copyFrom 164 = .ok (.aload_n 0, 1) := by decide +kernel
theorem dX0_copyFrom_165 : decode cX0_copyFrom 165 = .ok (.getfield 27, 3) := by decide +kernel
theorem dX0_copyFrom_168 : decode cX0_copyFrom 168 = .ok (.arraylength, 1) := by decide +kernel
theorem dX0_copyFrom_169 : decode cX0_copyFrom 169 = .ok (.invokestatic 62, 3) := by decide +kernel
theorem dX0_copyFrom_172 : decode cX0_copyFrom 172 = .ok (.aload_n 1, 1) := by decide +kernel
theorem dX0_copyFrom_173 : decode cX0_copyFrom 173 = .ok (.getfield 31, 3) := by decide +kernel
theorem dX0_copyFrom_176 : decode cX0_copyFrom 176 = .ok (.iconst 0, 1) := by decide +kernel
theorem dX0_copyFrom_177 : decode cX0_copyFrom 177 = .ok (.aload_n 0, 1) := by decide +kernel
theorem dX0_copyFrom_178 : decode cX0_copyFrom 178 = .ok (.getfield 31, 3) := by decide +kernel
theorem dX0_copyFrom_181 : decode cX0_copyFrom 181 = .ok (.iconst 0, 1) := by decide +kernel
theorem dX0_copyFrom_182 : decode cX0_copyFrom 182 = .ok (.aload_n 0, 1) := by decide +kernel
theorem dX0_copyFrom_183 : decode cX0_copyFrom 183 = .ok (.getfield 31, 3) := by decide +kernel
theorem dX0_copyFrom_186 : decode cX0_copyFrom 186 = .ok (.arraylength, 1) := by decide +kernel
theorem dX0_copyFrom_187 : decode cX0_copyFrom 187 = .ok (.invokestatic 62, 3) := by decide +kernel
theorem dX0_copyFrom_190 : decode cX0_copyFrom 190 = .ok (.return_, 1) := by decide +kernel
theorem eX0_copyFrom {c c2 : Nat} {W : zWd}  {Q : Option Value → zWd → Prop} {X : zX} (hc : zCt c) (hc2 : zCt c2) (hn : c ≠ c2) (hB : ∀ i : Int, 0 ≤ i → i < 48 → -128 ≤ W (c2 + 6) i ∧ W (c2 + 6) i < 128) (hq : ∀ W' : zWd, zOff c W W' → (∀ a : Int → Int, a 2 ≤ 6 → zCR W c2 a → zCR W' c a) → Q none W') : Ev MX0_copyFrom 1 0 W [.ref c, .ref c2] Q X := by
  refine ev_of (ls := [.ref c, .ref c2]) (by decide) rfl (fun _ => rfl) (fun _ => Nat.le_of_ble_eq_true rfl) (Or.inl rfl) ?_
  have hd := hc.ne hc2 hn
  refine rr_aload_n (pc := 0) dX0_copyFrom_0 rfl ?_
  refine rr_aload_n (pc := 1) dX0_copyFrom_1 rfl ?_
  refine rr_getI (pc := 2) (ji := 0) dX0_copyFrom_2 fX0_37 hc2.k hc2.i0 rfl ?_
  refine rr_put (pc := 5) (ji := 0) dX0_copyFrom_5 fX0_37 fp_0_0 hc.k hc.i0 rfl ?_
  refine rr_aload_n (pc := 8) dX0_copyFrom_8 rfl ?_
  refine rr_aload_n (pc := 9) dX0_copyFrom_9 rfl ?_
  refine rr_getI (pc := 10) (ji := 1) dX0_copyFrom_10 fX0_41 hc2.k hc2.i1 rfl ?_
  refine rr_put (pc := 13) (ji := 1) dX0_copyFrom_13 fX0_41 fp_0_1 hc.k hc.i1 rfl ?_
  refine rr_aload_n (pc := 16) dX0_copyFrom_16 rfl ?_
  refine rr_aload_n (pc := 17) dX0_copyFrom_17 rfl ?_
  refine rr_getI (pc := 18) (ji := 2) dX0_copyFrom_18 fX0_44 hc2.k hc2.i2 rfl ?_
  refine rr_put (pc := 21) (ji := 2) dX0_copyFrom_21 fX0_44 fp_0_2 hc.k hc.i2 rfl ?_
  refine rr_aload_n (pc := 24) dX0_copyFrom_24 rfl ?_
  refine rr_aload_n (pc := 25) dX0_copyFrom_25 rfl ?_
  refine rr_getI (pc := 26) (ji := 3) dX0_copyFrom_26 fX0_47 hc2.k hc2.i3 rfl ?_
  refine rr_put (pc := 29) (ji := 3) dX0_copyFrom_29 fX0_47 fp_0_3 hc.k hc.i3 rfl ?_
  refine rr_aload_n (pc := 32) dX0_copyFrom_32 rfl ?_
  refine rr_aload_n (pc := 33) dX0_copyFrom_33 rfl ?_
  refine rr_getI (pc := 34) (ji := 4) dX0_copyFrom_34 fX0_50 hc2.k hc2.i4 rfl ?_
  refine rr_put (pc := 37) (ji := 4) dX0_copyFrom_37 fX0_50 fp_0_4 hc.k hc.i4 rfl ?_
  refine rr_aload_n (pc := 40) dX0_copyFrom_40 rfl ?_
  refine rr_aload_n (pc := 41) dX0_copyFrom_41 rfl ?_
  refine rr_getI (pc := 42) (ji := 5) dX0_copyFrom_42 fX0_53 hc2.k hc2.i5 rfl ?_
  refine rr_put (pc := 45) (ji := 5) dX0_copyFrom_45 fX0_53 fp_0_5 hc.k hc.i5 rfl ?_
  refine rr_aload_n (pc := 48) dX0_copyFrom_48 rfl ?_
  refine rr_aload_n (pc := 49) dX0_copyFrom_49 rfl ?_
  refine rr_getI (pc := 50) (ji := 6) dX0_copyFrom_50 fX0_56 hc2.k hc2.i6 rfl ?_
  refine rr_put (pc := 53) (ji := 6) dX0_copyFrom_53 fX0_56 fp_0_6 hc.k hc.i6 rfl ?_
  refine rr_aload_n (pc := 56) dX0_copyFrom_56 rfl ?_
  refine rr_aload_n (pc := 57) dX0_copyFrom_57 rfl ?_
  refine rr_getI (pc := 58) (ji := 7) dX0_copyFrom_58 fX0_59 hc2.k hc2.i7 rfl ?_
  refine rr_put (pc := 61) (ji := 7) dX0_copyFrom_61 fX0_59 fp_0_7 hc.k hc.i7 rfl ?_
  refine rr_aload_n (pc := 64) dX0_copyFrom_64 rfl ?_
  refine rr_getR (pc := 65) dX0_copyFrom_65 fX0_9 hc2.k hc2.r8 ?_
  refine rr_iconst (n := 0) dX0_copyFrom_68 ?_
  refine rr_aload_n (pc := 69) dX0_copyFrom_69 rfl ?_
  refine rr_getR (pc := 70) dX0_copyFrom_70 fX0_9 hc.k hc.r8 ?_
  refine rr_iconst (n := 0) dX0_copyFrom_73 ?_
  refine rr_aload_n (pc := 74) dX0_copyFrom_74 rfl ?_
  refine rr_getR (pc := 75) dX0_copyFrom_75 fX0_9 hc.k hc.r8 ?_
  refine rr_alen (pc := 78) (ni := 11) dX0_copyFrom_78 hc.a1 (by decide) rfl ?_
  refine rr_copyI (pc := 79) dX0_copyFrom_79 lX0_62 z_ac hc2.a1 hc.a1 (by decide) (Nat.le_of_ble_eq_true rfl) rfl ?_
  refine rr_aload_n (pc := 82) dX0_copyFrom_82 rfl ?_
  refine rr_getR (pc := 83) dX0_copyFrom_83 fX0_15 hc2.k hc2.r9 ?_
  refine rr_iconst (n := 0) dX0_copyFrom_86 ?_
  refine rr_aload_n (pc := 87) dX0_copyFrom_87 rfl ?_
  refine rr_getR (pc := 88) dX0_copyFrom_88 fX0_15 hc.k hc.r9 ?_
  refine rr_iconst (n := 0) dX0_copyFrom_91 ?_
  refine rr_aload_n (pc := 92) dX0_copyFrom_92 rfl ?_
  refine rr_getR (pc := 93) dX0_copyFrom_93 fX0_15 hc.k hc.r9 ?_
  refine rr_alen (pc := 96) (ni := 21) dX0_copyFrom_96 hc.a2 (by decide) rfl ?_
  refine rr_copyI (pc := 97) dX0_copyFrom_97 lX0_62 z_ac hc2.a2 hc.a2 (by decide) (Nat.le_of_ble_eq_true rfl) rfl ?_
  refine rr_aload_n (pc := 100) dX0_copyFrom_100 rfl ?_
  refine rr_getR (pc := 101) dX0_copyFrom_101 fX0_18 hc2.k hc2.r10 ?_
  refine rr_iconst (n := 0) dX0_copyFrom_104 ?_
  refine rr_aload_n (pc := 105) dX0_copyFrom_105 rfl ?_
  refine rr_getR (pc := 106) dX0_copyFrom_106 fX0_18 hc.k hc.r10 ?_
  refine rr_iconst (n := 0) dX0_copyFrom_109 ?_
  refine rr_aload_n (pc := 110) dX0_copyFrom_110 rfl ?_
  refine rr_getR (pc := 111) dX0_copyFrom_111 fX0_18 hc.k hc.r10 ?_
  refine rr_alen (pc := 114) (ni := 21) dX0_copyFrom_114 hc.a3 (by decide) rfl ?_
  refine rr_copyI (pc := 115) dX0_copyFrom_115 lX0_62 z_ac hc2.a3 hc.a3 (by decide) (Nat.le_of_ble_eq_true rfl) rfl ?_
  refine rr_aload_n (pc := 118) dX0_copyFrom_118 rfl ?_
  refine rr_getR (pc := 119) dX0_copyFrom_119 fX0_21 hc2.k hc2.r11 ?_
  refine rr_iconst (n := 0) dX0_copyFrom_122 ?_
  refine rr_aload_n (pc := 123) dX0_copyFrom_123 rfl ?_
  refine rr_getR (pc := 124) dX0_copyFrom_124 fX0_21 hc.k hc.r11 ?_
  refine rr_iconst (n := 0) dX0_copyFrom_127 ?_
  refine rr_aload_n (pc := 128) dX0_copyFrom_128 rfl ?_
  refine rr_getR (pc := 129) dX0_copyFrom_129 fX0_21 hc.k hc.r11 ?_
  refine rr_alen (pc := 132) (ni := 21) dX0_copyFrom_132 hc.a4 (by decide) rfl ?_
  refine rr_copyI (pc := 133) dX0_copyFrom_133 lX0_62 z_ac hc2.a4 hc.a4 (by decide) (Nat.le_of_ble_eq_true rfl) rfl ?_
  refine rr_aload_n (pc := 136) dX0_copyFrom_136 rfl ?_
  refine rr_getR (pc := 137) dX0_copyFrom_137 fX0_24 hc2.k hc2.r12 ?_
  refine rr_iconst (n := 0) dX0_copyFrom_140 ?_
  refine rr_aload_n (pc := 141) dX0_copyFrom_141 rfl ?_
  refine rr_getR (pc := 142) dX0_copyFrom_142 fX0_24 hc.k hc.r12 ?_
  refine rr_iconst (n := 0) dX0_copyFrom_145 ?_
  refine rr_aload_n (pc := 146) dX0_copyFrom_146 rfl ?_
  refine rr_getR (pc := 147) dX0_copyFrom_147 fX0_24 hc.k hc.r12 ?_
  refine rr_alen (pc := 150) (ni := 60) dX0_copyFrom_150 hc.a5 (by decide) rfl ?_
  refine rr_copyI (pc := 151) dX0_copyFrom_151 lX0_62 z_ac hc2.a5 hc.a5 (by decide) (Nat.le_of_ble_eq_true rfl) rfl ?_
  refine rr_aload_n (pc := 154) dX0_copyFrom_154 rfl ?_
  refine rr_getR (pc := 155) dX0_copyFrom_155 fX0_27 hc2.k hc2.r13 ?_
  refine rr_iconst (n := 0) dX0_copyFrom_158 ?_
  refine rr_aload_n (pc := 159) dX0_copyFrom_159 rfl ?_
  refine rr_getR (pc := 160) dX0_copyFrom_160 fX0_27 hc.k hc.r13 ?_
  refine rr_iconst (n := 0) dX0_copyFrom_163 ?_
  refine rr_aload_n (pc := 164) dX0_copyFrom_164 rfl ?_
  refine rr_getR (pc := 165) dX0_copyFrom_165 fX0_27 hc.k hc.r13 ?_
  refine rr_alen (pc := 168) (ni := 48) dX0_copyFrom_168 hc.a6 (by decide) rfl ?_
  refine rr_copyB (pc := 169) dX0_copyFrom_169 lX0_62 z_ac hc2.a6 hc.a6 (fun i h0 h1 => by simp (disch := omega) only [zcpy_k, zcpy_in, zup_k, zup_i, zup_s]; exact hB i h0 h1) (by decide) (Nat.le_of_ble_eq_true rfl) rfl ?_
  refine rr_aload_n (pc := 172) dX0_copyFrom_172 rfl ?_
  refine rr_getR (pc := 173) dX0_copyFrom_173 fX0_31 hc2.k hc2.r14 ?_
  refine rr_iconst (n := 0) dX0_copyFrom_176 ?_
  refine rr_aload_n (pc := 177) dX0_copyFrom_177 rfl ?_
  refine rr_getR (pc := 178) dX0_copyFrom_178 fX0_31 hc.k hc.r14 ?_
  refine rr_iconst (n := 0) dX0_copyFrom_181 ?_
  refine rr_aload_n (pc := 182) dX0_copyFrom_182 rfl ?_
  refine rr_getR (pc := 183) dX0_copyFrom_183 fX0_31 hc.k hc.r14 ?_
  refine rr_alen (pc := 186) (ni := 6) dX0_copyFrom_186 hc.a7 (by decide) rfl ?_
  refine rr_copyI (pc := 187) dX0_copyFrom_187 lX0_62 z_ac hc2.a7 hc.a7 (by decide) (Nat.le_of_ble_eq_true rfl) rfl ?_
  exact rr_retv (pc := 190) dX0_copyFrom_190 rfl rfl (hq _ (fun k hk => by funext i; simp (disch := omega) only [zcpy_k, zcpy_in, zup_k, zup_i, zup_s]) (fun a ha2 hRa => CR_cp hRa ha2 (fun j h0 h1 => by rcases (show j = 0 ∨ j = 1 ∨ j = 2 ∨ j = 3 ∨ j = 4 ∨ j = 5 ∨ j = 6 ∨ j = 7 by omega) with rfl | rfl | rfl | rfl | rfl | rfl | rfl | rfl <;> simp (disch := omega) only [zcpy_k, zcpy_in, zup_k, zup_i, zup_s]) (fun j h0 h1 => by simp (disch := omega) only [zcpy_k, zcpy_in, zup_k, zup_i, zup_s]) (fun j h0 h1 => by simp (disch := omega) only [zcpy_k, zcpy_in, zup_k, zup_i, zup_s]) (fun j h0 h1 => by simp (disch := omega) only [zcpy_k, zcpy_in, zup_k, zup_i, zup_s]) (fun j h0 h1 => by simp (disch := omega) only [zcpy_k, zcpy_in, zup_k, zup_i, zup_s]) (fun j h0 h1 => by simp (disch := omega) only [zcpy_k, zcpy_in, zup_k, zup_i, zup_s]) (fun j h0 h1 => by simp (disch := omega) only [zcpy_k, zcpy_in, zup_k, zup_i, zup_s]) (fun j h0 h1 => by simp (disch := omega) only [zcpy_k, zcpy_in, zup_k, zup_i, zup_s])))
