theorem iup_id {a : Int → Int} {i : Int} : iup a i (a i) = a := by
  funext j; unfold iup; split
  · rename_i h; rw [h]
  · rfl
theorem aMendN_low {a : Int → Int} : ∀ (n : Nat) (j : Int), j < 58 → aMendN a n j = a j := by
  intro n
  induction n with
  | zero => intro j _; rfl
  | succ n ih => intro j hj; show iup (aMendN a n) _ _ j = a j; rw [iup_n (by omega)]; exact ih j hj
theorem aMendN_P {a : Int → Int} {q w : Int} : ∀ (n : Nat), 0 ≤ w → w < 17 → (w ≠ 2 ∨ (n : Int) ≤ q) → aP (aMendN a n) q w = aP a q w := by
  intro n
  induction n with
  | zero => intro _ _ _; rfl
  | succ n ih =>
    intro h1 h2 h3
    show aP (iup (aMendN a n) (58 + 17 * (n : Int) + 2) (aMendT a n)) q w = aP a q w
    rw [aP_up (by omega)]
    exact ih h1 h2 (by omega)
theorem aMendT_rng {a : Int → Int} {q : Int} (h0 : 0 ≤ aP a q 2) (h1 : aP a q 2 ≤ a 1) : 0 ≤ aMendT a q ∧ aMendT a q ≤ a 1 := by
  have g1 := aOpen_rng (a := a) (p := q) (s := aP a q 2 + 1) (by omega) (by omega)
  have g2 := aOpen_rng (a := a) (p := q) (s := 1) (by omega) (by omega)
  unfold aMendT
  (repeat' split) <;> omega
theorem aMendN_wf {T : Int} {a : Int → Int} (hw : zWf T a) : ∀ (n : Nat), (n : Int) ≤ a 2 → zWf T (aMendN a n) := by
  intro n
  induction n with
  | zero => intro _; exact hw
  | succ n ih =>
    intro hn
    have h9 := hw.2.2.2.2.2.2.2.2.2.2.2.2.2.2.2.2.2.1 n (by omega) (by omega)
    unfold zWfP at h9
    have h8 := aMendT_rng (a := a) (q := n) h9.2.2.2.2.1 h9.2.2.2.2.2.1
    exact WF_P (w := 2) (p := n) (ih (by omega)) (by omega) (by unfold zWr; rw [aMendN_low n 1 (by omega)]; omega)
theorem aMendN_O {a : Int → Int} {s : Int} (n : Nat) (hs : s ≤ 20) : aO (aMendN a n) s = aO a s := by
  unfold aO; rw [aMendN_low n _ (by omega)]
theorem aMendN_op {a : Int → Int} {q s : Int} (n : Nat) (h20 : a 1 ≤ 20) : aOpen (aMendN a n) q s = aOpen a q s :=
  aOpen_cg (aMendN_low n 1 (by omega)) (fun s' _ h => aMendN_O n (by omega))
theorem aMendN_s {a : Int → Int} {i v : Int} (h : 0 ≤ i) (hv : v = aMendT a i) : aMendN a (i + 1).toNat = iup (aMendN a i.toNat) (58 + 17 * i + 2) v := by
  rw [show (i + 1).toNat = i.toNat + 1 by omega, hv]
  show iup (aMendN a i.toNat) (58 + 17 * ((i.toNat : Nat) : Int) + 2) (aMendT a ((i.toNat : Nat) : Int)) = _
  rw [show ((i.toNat : Nat) : Int) = i by omega]
theorem dX0_mendTargets_0 : decode cX0_mendTargets 0 = .ok (.iconst 0, 1) := by decide +kernel
theorem dX0_mendTargets_1 : decode cX0_mendTargets 1 = .ok (.istore_n 1, 1) := by decide +kernel
theorem dX0_mendTargets_2 : decode cX0_mendTargets 2 = .ok (.iload_n 1, 1) := by decide +kernel
theorem dX0_mendTargets_3 : decode cX0_mendTargets 3 = .ok (.aload_n 0, 1) := by decide +kernel
theorem dX0_mendTargets_4 : decode cX0_mendTargets 4 = .ok (.getfield 44, 3) := by decide +kernel
theorem dX0_mendTargets_7 : decode cX0_mendTargets 7 = .ok (.if_icmp .ge 58, 3) := by decide +kernel
theorem dX0_mendTargets_10 : decode cX0_mendTargets 10 = .ok (.aload_n 0, 1) := by decide +kernel
theorem dX0_mendTargets_11 : decode cX0_mendTargets 11 = .ok (.iload_n 1, 1) := by decide +kernel
theorem dX0_mendTargets_12 : decode cX0_mendTargets 12 = .ok (.iconst 2, 1) := by decide +kernel
theorem dX0_mendTargets_13 : decode cX0_mendTargets 13 = .ok (.invokevirtual 81, 3) := by decide +kernel
theorem dX0_mendTargets_16 : decode cX0_mendTargets 16 = .ok (.istore_n 2, 1) := by decide +kernel
theorem dX0_mendTargets_17 : decode cX0_mendTargets 17 = .ok (.iload_n 2, 1) := by decide +kernel
theorem dX0_mendTargets_18 : decode cX0_mendTargets 18 = .ok (.ifCond .eq 12, 3) := by decide +kernel
theorem dX0_mendTargets_21 : decode cX0_mendTargets 21 = .ok (.aload_n 0, 1) := by decide +kernel
theorem dX0_mendTargets_22 : decode cX0_mendTargets 22 = .ok (.iload_n 1, 1) := by decide +kernel
theorem dX0_mendTargets_23 : decode cX0_mendTargets 23 = .ok (.iload_n 2, 1) := by decide +kernel
theorem dX0_mendTargets_24 : decode cX0_mendTargets 24 = .ok (.invokevirtual 85, 3) := by decide +kernel
theorem dX0_mendTargets_27 : decode cX0_mendTargets 27 = .ok (.ifCond .eq 32, 3) := by decide +kernel
theorem dX0_mendTargets_30 : decode cX0_mendTargets 30 = .ok (.aload_n 0, 1) := by decide +kernel
theorem dX0_mendTargets_31 : decode cX0_mendTargets 31 = .ok (.iload_n 1, 1) := by decide +kernel
theorem dX0_mendTargets_32 : decode cX0_mendTargets 32 = .ok (.iload_n 2, 1) := by decide +kernel
theorem dX0_mendTargets_33 : decode cX0_mendTargets 33 = .ok (.iconst 1, 1) := by decide +kernel
theorem dX0_mendTargets_34 : decode cX0_mendTargets 34 = .ok (.iadd, 1) := by decide +kernel
theorem dX0_mendTargets_35 : decode cX0_mendTargets 35 = .ok (.invokevirtual 89, 3) := by decide +kernel
theorem dX0_mendTargets_38 : decode cX0_mendTargets 38 = .ok (.istore_n 3, 1) := by decide +kernel
theorem dX0_mendTargets_39 : decode cX0_mendTargets 39 = .ok (.aload_n 0, 1) := by decide +kernel
theorem dX0_mendTargets_40 : decode cX0_mendTargets 40 = .ok (.iload_n 1, 1) := by decide +kernel
theorem dX0_mendTargets_41 : decode cX0_mendTargets 41 = .ok (.iconst 2, 1) := by decide +kernel
theorem dX0_mendTargets_42 : decode cX0_mendTargets 42 = .ok (.iload_n 3, 1) := by decide +kernel
theorem dX0_mendTargets_43 : decode cX0_mendTargets 43 = .ok (.ifCond .ne 12, 3) := by decide +kernel
theorem dX0_mendTargets_46 : decode cX0_mendTargets 46 = .ok (.aload_n 0, 1) := by decide +kernel
theorem dX0_mendTargets_47 : decode cX0_mendTargets 47 = .ok (.iload_n 1, 1) := by decide +kernel
theorem dX0_mendTargets_48 : decode cX0_mendTargets 48 = .ok (.iconst 1, 1) := by decide +kernel
theorem dX0_mendTargets_49 : decode cX0_mendTargets 49 = .ok (.invokevirtual 89, 3) := by decide +kernel
theorem dX0_mendTargets_52 : decode cX0_mendTargets 52 = .ok (.goto 4, 3) := by decide +kernel
theorem dX0_mendTargets_55 : decode cX0_mendTargets 55 = .ok (.iload_n 3, 1) := by decide +kernel
theorem dX0_mendTargets_56 : decode cX0_mendTargets 56 = .ok (.invokevirtual 68, 3) := by decide +kernel
theorem dX0_mendTargets_59 : decode cX0_mendTargets 59 = .ok (.iinc 1 1, 3) := by decide +kernel
theorem dX0_mendTargets_62 : decode cX0_mendTargets 62 = .ok (.goto (-60), 3) := by decide +kernel
theorem dX0_mendTargets_65 : decode cX0_mendTargets 65 = .ok (.return_, 1) := by decide +kernel
theorem eX0_mendTargets {c : Nat} {W : zWd} {a : Int → Int} {T : Int}  {Q : Option Value → zWd → Prop} {X : zX} (hc : zCt c) (hR : zCR W c a) (hw : zWf T a) (hq : ∀ W' : zWd, zOff c W W' → zCR W' c (aMend a) → Q none W') : Ev MX0_mendTargets 2 0 W [.ref c] Q X := by
  refine ev_of (ls := [.ref c, .null, .null, .null]) (by decide) rfl (fun _ => rfl) (fun _ => Nat.le_of_ble_eq_true rfl) (Or.inl rfl) ?_
  obtain ⟨r0, r1, r2, r3, r4, r5, r6, r7, rF, rS, rP, rB⟩ := id hR
  obtain ⟨w0, w0', wW, w1, w2, w2', w3, w3', w4, w4', w5, w5', w6, w6', w7, w7', wS, wP, wT⟩ := id hw
  have wq := zWf.sq hw
  have loop : ∀ (n : Nat) (i : Int) (Wi : zWd) (v2 v3 : Value), 0 ≤ i → i ≤ a 2 → zOff c W Wi → zCR Wi c (aMendN a i.toNat) → (a 2 - i).toNat < n → RR MX0_mendTargets 2 0 Wi 2 [.ref c, zI i, v2, v3] [] (zEnd MX0_mendTargets Q X) X := by
    intro n
    induction n with
    | zero => intro i Wi v2 v3 _ _ _ _ hm9; omega
    | succ n ih =>
      intro i Wi v2 v3 h1 h2 hO hC hm9
      refine rr_iload_n (pc := 2) dX0_mendTargets_2 rfl ?_
      refine rr_aload_n (pc := 3) dX0_mendTargets_3 rfl ?_
      refine rr_getI (pc := 4) (ji := 2) dX0_mendTargets_4 fX0_44 hc.k hc.i2 rfl ?_
      rw [hC.2.2.1, aMendN_low _ _ (by omega)]
      refine rr_icmp_ge (pc := 7) (tgt := 65) dX0_mendTargets_7 (by decide) (by unfold zR; omega) (by unfold zR; omega) (fun h7 => ?_) (fun h7 => ?_)
      · exact rr_retv (pc := 65) dX0_mendTargets_65 rfl rfl ((hq Wi hO (by show zCR Wi c (aMendN a (a 2).toNat); rw [show a 2 = i by omega]; exact hC)))
      · refine rr_aload_n (pc := 10) dX0_mendTargets_10 rfl ?_
        refine rr_iload_n (pc := 11) dX0_mendTargets_11 rfl ?_
        refine rr_iconst (n := 2) dX0_mendTargets_12 ?_
        have hwn := aMendN_wf hw i.toNat (by omega)
        have l1 := aMendN_low (a := a) i.toNat 1 (by omega)
        have hm := (hC.2.2.2.2.2.2.2.2.2.2.1 i h1 (by rw [aMendN_low _ _ (by omega)]; omega)).2.2.1
        rw [aMendN_P (q := i) (w := 2) i.toNat (by omega) (by omega) (by omega)] at hm
        have hm2 := wP i h1 (by omega)
        unfold zWfP at hm2
        refine rr_inv0 (M' := MX0_get) (k := c) (As := [_, _]) (pc := 13) dX0_mendTargets_13 lX0_81 kX0_get vX0_get hc.k (by decide) rfl (by decide) (by decide) (Nat.le_of_ble_eq_true rfl) rfl (eX0_get hc (by omega) (by omega) (by omega) (by omega) ?_)
        rw [hm]
        refine rr_istore_n (pc := 16) dX0_mendTargets_16 (by decide) ?_
        refine rr_iload_n (pc := 17) dX0_mendTargets_17 rfl ?_
        refine rr_if_eq (pc := 18) (tgt := 30) dX0_mendTargets_18 (by decide) (by unfold zR; omega) (fun h18 => ?_) (fun h18 => ?_)
        · refine rr_aload_n (pc := 30) dX0_mendTargets_30 rfl ?_
          refine rr_iload_n (pc := 31) dX0_mendTargets_31 rfl ?_
          refine rr_iload_n (pc := 32) dX0_mendTargets_32 rfl ?_
          refine rr_iconst (n := 1) dX0_mendTargets_33 ?_
          refine rr_iadd (pc := 34) dX0_mendTargets_34 ?_
          have ho := aOpen_rng (a := a) (p := i) (s := aP a i 2 + 1) (by omega) (by omega)
          refine rr_inv0 (M' := MX0_firstAllowed) (k := c) (As := [_, _]) (pc := 35) dX0_mendTargets_35 lX0_89 kX0_firstAllowed vX0_firstAllowed hc.k (by decide) rfl (by decide) (by decide) (Nat.le_of_ble_eq_true rfl) rfl (eX0_firstAllowed hc hC hwn (by omega) (by omega) (by unfold zR; omega) ?_)
          rw [aMendN_op _ (by omega)]
          refine rr_istore_n (pc := 38) dX0_mendTargets_38 (by decide) ?_
          refine rr_aload_n (pc := 39) dX0_mendTargets_39 rfl ?_
          refine rr_iload_n (pc := 40) dX0_mendTargets_40 rfl ?_
          refine rr_iconst (n := 2) dX0_mendTargets_41 ?_
          refine rr_iload_n (pc := 42) dX0_mendTargets_42 rfl ?_
          refine rr_if_ne (pc := 43) (tgt := 55) dX0_mendTargets_43 (by decide) (by unfold zR; omega) (fun h43 => ?_) (fun h43 => ?_)
          · refine rr_iload_n (pc := 55) dX0_mendTargets_55 rfl ?_
            refine rr_inv0 (M' := MX0_put) (k := c) (As := [_, _, _]) (pc := 56) dX0_mendTargets_56 lX0_68 kX0_put vX0_put hc.k (by decide) rfl (by decide) (by decide) (Nat.le_of_ble_eq_true rfl) rfl (eX0_put hc (by omega) (by omega) (by omega) (by omega) ?_)
            refine rr_iinc (pc := 59) dX0_mendTargets_59 rfl (by decide) ?_
            refine rr_goto (pc := 62) (tgt := 2) dX0_mendTargets_62 (by decide) ?_
            exact ih (i + 1) _ _ _ (by omega) (by omega) (hO.up (by omega)) (by rw [aMendN_s (v := aOpen a i (aP a i 2 + 1)) h1 (by unfold aMendT; rw [if_pos (Or.inl h18), if_neg h43])]; exact CR_P hC h1 (by unfold zPj; omega)) (by omega)
          · refine rr_aload_n (pc := 46) dX0_mendTargets_46 rfl ?_
            refine rr_iload_n (pc := 47) dX0_mendTargets_47 rfl ?_
            refine rr_iconst (n := 1) dX0_mendTargets_48 ?_
            refine rr_inv0 (M' := MX0_firstAllowed) (k := c) (As := [_, _]) (pc := 49) dX0_mendTargets_49 lX0_89 kX0_firstAllowed vX0_firstAllowed hc.k (by decide) rfl (by decide) (by decide) (Nat.le_of_ble_eq_true rfl) rfl (eX0_firstAllowed hc hC hwn (by omega) (by omega) (by unfold zR; omega) ?_)
            rw [aMendN_op _ (by omega)]
            refine rr_goto (pc := 52) (tgt := 56) dX0_mendTargets_52 (by decide) ?_
            refine rr_inv0 (M' := MX0_put) (k := c) (As := [_, _, _]) (pc := 56) dX0_mendTargets_56 lX0_68 kX0_put vX0_put hc.k (by decide) rfl (by decide) (by decide) (Nat.le_of_ble_eq_true rfl) rfl (eX0_put hc (by omega) (by omega) (by omega) (by omega) ?_)
            refine rr_iinc (pc := 59) dX0_mendTargets_59 rfl (by decide) ?_
            refine rr_goto (pc := 62) (tgt := 2) dX0_mendTargets_62 (by decide) ?_
            exact ih (i + 1) _ _ _ (by omega) (by omega) (hO.up (by omega)) (by rw [aMendN_s (v := aOpen a i 1) h1 (by unfold aMendT; rw [if_pos (Or.inl h18), if_pos h43])]; exact CR_P hC h1 (by unfold zPj; omega)) (by omega)
        · refine rr_aload_n (pc := 21) dX0_mendTargets_21 rfl ?_
          refine rr_iload_n (pc := 22) dX0_mendTargets_22 rfl ?_
          refine rr_iload_n (pc := 23) dX0_mendTargets_23 rfl ?_
          refine rr_inv0 (M' := MX0_isForbidden) (k := c) (As := [_, _]) (pc := 24) dX0_mendTargets_24 lX0_85 kX0_isForbidden vX0_isForbidden hc.k (by decide) rfl (by decide) (by decide) (Nat.le_of_ble_eq_true rfl) rfl (eX0_isForbidden hc hC hwn (by omega) (by omega) (by unfold zR; omega) ?_)
          unfold aForb
          rw [aMendN_O _ (by omega)]
          refine rr_if_eq (pc := 27) (tgt := 59) dX0_mendTargets_27 (by decide) (by split <;> (unfold zR; omega)) (fun h27 => ?_) (fun h27 => ?_)
          · refine rr_iinc (pc := 59) dX0_mendTargets_59 rfl (by decide) ?_
            refine rr_goto (pc := 62) (tgt := 2) dX0_mendTargets_62 (by decide) ?_
            have hnf : ¬ aForb a i (aP a i 2) := by unfold aForb; split at h27 <;> first | assumption | exact absurd h27 (by decide)
            exact ih (i + 1) Wi _ _ (by omega) (by omega) hO (by rw [aMendN_s (v := aP a i 2) h1 (by unfold aMendT; rw [if_neg (fun z => z.elim h18 hnf)]), show iup (aMendN a i.toNat) (58 + 17 * i + 2) (aP a i 2) = aMendN a i.toNat from by rw [← aMendN_P (a := a) (q := i) (w := 2) i.toNat (by omega) (by omega) (by omega)]; exact iup_id]; exact hC) (by omega)
          · refine rr_aload_n (pc := 30) dX0_mendTargets_30 rfl ?_
            refine rr_iload_n (pc := 31) dX0_mendTargets_31 rfl ?_
            refine rr_iload_n (pc := 32) dX0_mendTargets_32 rfl ?_
            refine rr_iconst (n := 1) dX0_mendTargets_33 ?_
            refine rr_iadd (pc := 34) dX0_mendTargets_34 ?_
            have ho := aOpen_rng (a := a) (p := i) (s := aP a i 2 + 1) (by omega) (by omega)
            refine rr_inv0 (M' := MX0_firstAllowed) (k := c) (As := [_, _]) (pc := 35) dX0_mendTargets_35 lX0_89 kX0_firstAllowed vX0_firstAllowed hc.k (by decide) rfl (by decide) (by decide) (Nat.le_of_ble_eq_true rfl) rfl (eX0_firstAllowed hc hC hwn (by omega) (by omega) (by unfold zR; omega) ?_)
            rw [aMendN_op _ (by omega)]
            refine rr_istore_n (pc := 38) dX0_mendTargets_38 (by decide) ?_
            refine rr_aload_n (pc := 39) dX0_mendTargets_39 rfl ?_
            refine rr_iload_n (pc := 40) dX0_mendTargets_40 rfl ?_
            refine rr_iconst (n := 2) dX0_mendTargets_41 ?_
            refine rr_iload_n (pc := 42) dX0_mendTargets_42 rfl ?_
            refine rr_if_ne (pc := 43) (tgt := 55) dX0_mendTargets_43 (by decide) (by unfold zR; omega) (fun h43 => ?_) (fun h43 => ?_)
            · refine rr_iload_n (pc := 55) dX0_mendTargets_55 rfl ?_
              refine rr_inv0 (M' := MX0_put) (k := c) (As := [_, _, _]) (pc := 56) dX0_mendTargets_56 lX0_68 kX0_put vX0_put hc.k (by decide) rfl (by decide) (by decide) (Nat.le_of_ble_eq_true rfl) rfl (eX0_put hc (by omega) (by omega) (by omega) (by omega) ?_)
              refine rr_iinc (pc := 59) dX0_mendTargets_59 rfl (by decide) ?_
              refine rr_goto (pc := 62) (tgt := 2) dX0_mendTargets_62 (by decide) ?_
              exact ih (i + 1) _ _ _ (by omega) (by omega) (hO.up (by omega)) (by rw [aMendN_s (v := aOpen a i (aP a i 2 + 1)) h1 (by unfold aMendT; rw [if_pos (Or.inr (by unfold aForb; split at h27 <;> first | assumption | exact absurd rfl h27)), if_neg h43])]; exact CR_P hC h1 (by unfold zPj; omega)) (by omega)
            · refine rr_aload_n (pc := 46) dX0_mendTargets_46 rfl ?_
              refine rr_iload_n (pc := 47) dX0_mendTargets_47 rfl ?_
              refine rr_iconst (n := 1) dX0_mendTargets_48 ?_
              refine rr_inv0 (M' := MX0_firstAllowed) (k := c) (As := [_, _]) (pc := 49) dX0_mendTargets_49 lX0_89 kX0_firstAllowed vX0_firstAllowed hc.k (by decide) rfl (by decide) (by decide) (Nat.le_of_ble_eq_true rfl) rfl (eX0_firstAllowed hc hC hwn (by omega) (by omega) (by unfold zR; omega) ?_)
              rw [aMendN_op _ (by omega)]
              refine rr_goto (pc := 52) (tgt := 56) dX0_mendTargets_52 (by decide) ?_
              refine rr_inv0 (M' := MX0_put) (k := c) (As := [_, _, _]) (pc := 56) dX0_mendTargets_56 lX0_68 kX0_put vX0_put hc.k (by decide) rfl (by decide) (by decide) (Nat.le_of_ble_eq_true rfl) rfl (eX0_put hc (by omega) (by omega) (by omega) (by omega) ?_)
              refine rr_iinc (pc := 59) dX0_mendTargets_59 rfl (by decide) ?_
              refine rr_goto (pc := 62) (tgt := 2) dX0_mendTargets_62 (by decide) ?_
              exact ih (i + 1) _ _ _ (by omega) (by omega) (hO.up (by omega)) (by rw [aMendN_s (v := aOpen a i 1) h1 (by unfold aMendT; rw [if_pos (Or.inr (by unfold aForb; split at h27 <;> first | assumption | exact absurd rfl h27)), if_pos h43])]; exact CR_P hC h1 (by unfold zPj; omega)) (by omega)
  refine rr_iconst (n := 0) dX0_mendTargets_0 ?_
  refine rr_istore_n (pc := 1) dX0_mendTargets_1 (by decide) ?_
  exact loop _ 0 W .null .null (by omega) (by omega) zOff.rf hR (Nat.lt_succ_self _)
theorem CR_cp {W W' : zWd} {c c2 : Nat} {a : Int → Int} (h : zCR W c2 a) (ha : a 2 ≤ 6) (e0 : ∀ j : Int, 0 ≤ j → j < 8 → W' c j = W c2 j) (e1 : ∀ j : Int, 0 ≤ j → j < 11 → W' (c + 1) j = W (c2 + 1) j) (e2 : ∀ j : Int, 0 ≤ j → j < 21 → W' (c + 2) j = W (c2 + 2) j) (e3 : ∀ j : Int, 0 ≤ j → j < 21 → W' (c + 3) j = W (c2 + 3) j) (e4 : ∀ j : Int, 0 ≤ j → j < 21 → W' (c + 4) j = W (c2 + 4) j) (e5 : ∀ j : Int, 0 ≤ j → j < 60 → W' (c + 5) j = W (c2 + 5) j) (e6 : ∀ j : Int, 0 ≤ j → j < 48 → W' (c + 6) j = W (c2 + 6) j) (e7 : ∀ j : Int, 0 ≤ j → j < 6 → W' (c + 7) j = W (c2 + 7) j) : zCR W' c a := by
  obtain ⟨r0, r1, r2, r3, r4, r5, r6, r7, rF, rS, rP, rB⟩ := h
  refine ⟨by rw [e0 0 (by omega) (by omega)]; exact r0, by rw [e0 1 (by omega) (by omega)]; exact r1, by rw [e0 2 (by omega) (by omega)]; exact r2, by rw [e0 3 (by omega) (by omega)]; exact r3, by rw [e0 4 (by omega) (by omega)]; exact r4, by rw [e0 5 (by omega) (by omega)]; exact r5, by rw [e0 6 (by omega) (by omega)]; exact r6, by rw [e0 7 (by omega) (by omega)]; exact r7, ?_, ?_, ?_, ?_⟩
  · intro r h1 h2; rw [e1 r (by omega) (by omega)]; exact rF r h1 h2
  · intro s h1 h20 h2; rw [e2 s (by omega) (by omega), e3 s (by omega) (by omega), e4 s (by omega) (by omega)]; exact rS s h1 h20 h2
  · intro q h1 h2
    obtain ⟨q0, q1, q2, q3, q4, q5, q7, q8, q9, ⟨g1, g2, g3, g4⟩, g5⟩ := rP q h1 h2
    unfold zCRP zNam
    rw [e7 q h1 (by omega), e5 _ (by omega) (by omega), e5 _ (by omega) (by omega), e5 _ (by omega) (by omega), e5 _ (by omega) (by omega), e5 _ (by omega) (by omega), e5 _ (by omega) (by omega), e5 _ (by omega) (by omega), e5 _ (by omega) (by omega), e5 _ (by omega) (by omega)]
    exact ⟨q0, q1, q2, q3, q4, q5, q7, q8, q9, ⟨g1, g2, g3, g4⟩, fun k hk0 hk1 => by rw [e6 _ (by omega) (by omega)]; exact g5 k hk0 hk1⟩
  · intro i h1 h2; rw [e6 i h1 h2]; exact rB i h1 h2
theorem zCt.ne {c c2 : Nat} (h : zCt c) (h2 : zCt c2) (hn : c ≠ c2) : c + 8 ≤ c2 ∨ c2 + 8 ≤ c := by
  obtain ⟨i, hi, rfl⟩ := h
  obtain ⟨j, hj, rfl⟩ := h2
  omega
