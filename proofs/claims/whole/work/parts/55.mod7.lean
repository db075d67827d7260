/-- the best throw -/
theorem aFault_best {T : Int} {a : Int → Int} {p : Int} (hw : zWf T a) (h1 : 1 ≤ aP a p 2) (h2 : aP a p 2 ≤ a 1) : aFault a p (aLp a (aP a p 2)) (aSd a (aP a p 2)) = 0 ∧ ∀ pw : Int, 0 ≤ pw → pw < aLp a (aP a p 2) → aFault a p pw (aSd a (aP a p 2)) ≠ 0 := by
  obtain ⟨g1, g2, g3⟩ := aR_spec hw h1 h2
  have hd := hw.2.2.2.2.2.2.1
  have hd' := hw.2.2.2.2.2.2.2.1
  have hw9 := hw.2.2.1 (aR a (aP a p 2) : Nat) (by omega) g1
  have hst := aF_step (a := a) (aR a (aP a p 2))
  have hs := aSd_rng hw h1 h2
  have hsd : aSd a (aP a p 2) = aP a p 2 - aF a (aR a (aP a p 2)) := rfl
  constructor
  · have key : aLp a (aP a p 2) + a 3 = 10 * (aR a (aP a p 2) : Int) + 1 ∨ ((aR a (aP a p 2) : Int) = 0 ∧ aLp a (aP a p 2) + a 3 = a 3 ∧ 1 ≤ a 3) := by unfold aLp; split <;> omega
    have hrow : (aLp a (aP a p 2) + a 3) / 10 = (aR a (aP a p 2) : Int) := by omega
    unfold aFault
    rw [if_neg (by omega), if_neg (by omega), if_pos]
    rw [hrow, Int.toNat_natCast]
    split <;> omega
  · intro pw p0 p1 hz
    have hlp : aLp a (aP a p 2) = 10 * (aR a (aP a p 2) : Int) + 1 - a 3 := by unfold aLp at p1 ⊢; rw [if_pos (by by_cases q : 0 < 10 * (aR a (aP a p 2) : Int) + 1 - a 3; exact q; rw [if_neg q] at p1; omega)]
    unfold aFault at hz
    by_cases q1 : pw + a 3 < 0 ∨ a 0 ≤ (pw + a 3) / 10
    · rw [if_pos q1] at hz; omega
    · rw [if_neg q1] at hz
      by_cases q2 : (pw + a 3) % 10 = 0
      · rw [if_pos q2] at hz; omega
      · rw [if_neg q2] at hz
        by_cases q3 : aF a ((pw + a 3) / 10).toNat + (if a (8 + (pw + a 3) / 10) = 2 then aSd a (aP a p 2) else 0) = aP a p 2
        · have hww := hw.2.2.1 ((pw + a 3) / 10) (by omega) (by omega)
          have hst2 := aF_step (a := a) ((pw + a 3) / 10).toNat
          rw [show ((((pw + a 3) / 10).toNat : Nat) : Int) = (pw + a 3) / 10 by omega] at hst2
          have hmo := (aF_mono hw (aR a (aP a p 2) - (((pw + a 3) / 10).toNat + 1)) (((pw + a 3) / 10).toNat + 1) (by omega)).1
          rw [show ((pw + a 3) / 10).toNat + 1 + (aR a (aP a p 2) - (((pw + a 3) / 10).toNat + 1)) = aR a (aP a p 2) by omega] at hmo
          have hle : (if a (8 + (pw + a 3) / 10) = 2 then aSd a (aP a p 2) else 0) < a (8 + (pw + a 3) / 10) := by split <;> omega
          omega
        · rw [if_neg q3] at hz; omega
theorem dX7_bestOf_0 : decode cX7_bestOf 0 = .ok (.aload_n 0, 1) := by decide +kernel
theorem dX7_bestOf_1 : decode cX7_bestOf 1 = .ok (.iload_n 1, 1) := by decide +kernel
theorem dX7_bestOf_2 : decode cX7_bestOf 2 = .ok (.iconst 2, 1) := by decide +kernel
theorem dX7_bestOf_3 : decode cX7_bestOf 3 = .ok (.invokevirtual 154, 3) := by decide +kernel
theorem dX7_bestOf_6 : decode cX7_bestOf 6 = .ok (.istore_n 2, 1) := by decide +kernel
theorem dX7_bestOf_7 : decode cX7_bestOf 7 = .ok (.iload_n 2, 1) := by decide +kernel
theorem dX7_bestOf_8 : decode cX7_bestOf 8 = .ok (.ifCond .ne 5, 3) := by decide +kernel
theorem dX7_bestOf_11 : decode cX7_bestOf 11 = .ok (.iconst (-1), 1) := by decide +kernel
theorem dX7_bestOf_12 : decode cX7_bestOf 12 = .ok (.ireturn, 1) := by decide +kernel
theorem dX7_bestOf_13 : decode cX7_bestOf 13 = .ok (.iload_n 2, 1) := by decide +kernel
theorem dX7_bestOf_14 : decode cX7_bestOf 14 = .ok (.aload_n 0, 1) := by decide +kernel
theorem dX7_bestOf_15 : decode cX7_bestOf 15 = .ok (.aload_n 0, 1) := by decide +kernel
theorem dX7_bestOf_16 : decode cX7_bestOf 16 = .ok (.iload_n 2, 1) := by decide +kernel
theorem dX7_bestOf_17 : decode cX7_bestOf 17 = .ok (.invokevirtual 245, 3) := by decide +kernel
theorem dX7_bestOf_20 : decode cX7_bestOf 20 = .ok (.invokevirtual 212, 3) := by decide +kernel
theorem dX7_bestOf_23 : decode cX7_bestOf 23 = .ok (.isub, 1) := by decide +kernel
theorem dX7_bestOf_24 : decode cX7_bestOf 24 = .ok (.istore_n 3, 1) := by decide +kernel
theorem dX7_bestOf_25 : decode cX7_bestOf 25 = .ok (.iconst 0, 1) := by decide +kernel
theorem dX7_bestOf_26 : decode cX7_bestOf 26 = .ok (.istore 4, 2) := by decide +kernel
theorem dX7_bestOf_28 : decode cX7_bestOf 28 = .ok (.iload 4, 2) := by decide +kernel
theorem dX7_bestOf_30 : decode cX7_bestOf 30 = .ok (.sipush 199, 3) := by decide +kernel
theorem dX7_bestOf_33 : decode cX7_bestOf 33 = .ok (.if_icmp .gt 27, 3) := by decide +kernel
theorem dX7_bestOf_36 : decode cX7_bestOf 36 = .ok (.aload_n 0, 1) := by decide +kernel
theorem dX7_bestOf_37 : decode cX7_bestOf 37 = .ok (.iload_n 1, 1) := by decide +kernel
theorem dX7_bestOf_38 : decode cX7_bestOf 38 = .ok (.iload 4, 2) := by decide +kernel
theorem dX7_bestOf_40 : decode cX7_bestOf 40 = .ok (.iload_n 3, 1) := by decide +kernel
theorem dX7_bestOf_41 : decode cX7_bestOf 41 = .ok (.invokevirtual 300, 3) := by decide +kernel
theorem dX7_bestOf_44 : decode cX7_bestOf 44 = .ok (.ifCond .ne 10, 3) := by decide +kernel
theorem dX7_bestOf_47 : decode cX7_bestOf 47 = .ok (.iconst 2, 1) := by decide +kernel
theorem dX7_bestOf_48 : decode cX7_bestOf 48 = .ok (.iload 4, 2) := by decide +kernel
theorem dX7_bestOf_50 : decode cX7_bestOf 50 = .ok (.imul, 1) := by decide +kernel
theorem dX7_bestOf_51 : decode cX7_bestOf 51 = .ok (.iload_n 3, 1) := by decide +kernel
theorem dX7_bestOf_52 : decode cX7_bestOf 52 = .ok (.iadd, 1) := by decide +kernel
theorem dX7_bestOf_53 : decode cX7_bestOf 53 = .ok (.ireturn, 1) := by decide +kernel
theorem dX7_bestOf_54 : decode cX7_bestOf 54 = .ok (.iinc 4 1, 3) := by decide +kernel
theorem dX7_bestOf_57 : decode cX7_bestOf 57 = .ok (.goto (-29), 3) := by decide +kernel
theorem dX7_bestOf_60 : decode cX7_bestOf 60 = .ok (.iconst (-1), 1) := by decide +kernel
theorem dX7_bestOf_61 : decode cX7_bestOf 61 = .ok (.ireturn, 1) := by decide +kernel
theorem eX7_bestOf {W : zWd} {a : Int → Int} {T : Int} {p : Int}  {Q : Option Value → zWd → Prop} {X : zX} (ha : W 117 = a) (hw : zWf T a) (hp0 : 0 ≤ p) (hp1 : p < a 2) (hq : Q (some (zI (vBest a p))) W) : Ev MX7_bestOf 2 0 W [.ref 116, zI p] Q X := by
  refine ev_of (ls := [.ref 116, zI p, .null, .null, .null]) (by decide) rfl (fun _ => rfl) (fun _ => Nat.le_of_ble_eq_true rfl) (Or.inl rfl) ?_
  subst ha
  obtain ⟨w0, w0', wW, w1, w2, w2', w3, w3', w4, w4', w5, w5', w6, w6', w7, w7', wS, wP, wT⟩ := id hw
  have wq := zWf.sq hw
  have hm2 := wP p hp0 hp1
  unfold zWfP at hm2
  refine rr_aload_n (pc := 0) dX7_bestOf_0 rfl ?_
  refine rr_iload_n (pc := 1) dX7_bestOf_1 rfl ?_
  refine rr_iconst (n := 2) dX7_bestOf_2 ?_
  refine rr_inv0 (M' := MX7_of) (k := 116) (As := [_, _]) (pc := 3) dX7_bestOf_3 lX7_154 kX7_of vX7_of zk_116 (by decide) rfl (by decide) (by decide) (Nat.le_of_ble_eq_true rfl) rfl (eX7_of (by omega) (by omega) (by omega) (by omega) ?_)
  refine rr_istore_n (pc := 6) dX7_bestOf_6 (by decide) ?_
  refine rr_iload_n (pc := 7) dX7_bestOf_7 rfl ?_
  refine rr_if_ne (pc := 8) (tgt := 13) dX7_bestOf_8 (by decide) (by unfold zR; omega) (fun h8 => ?_) (fun h8 => ?_)
  · have hb := aFault_best (p := p) hw (by omega) (by omega)
    have hs := aSd_rng (s := aP (W 117) p 2) hw (by omega) (by omega)
    have hlp := aLp_rng (s := aP (W 117) p 2) hw (by omega) (by omega)
    have hsp := aR_spec (s := aP (W 117) p 2) hw (by omega) (by omega)
    have loop : ∀ (n : Nat) (i : Int), 0 ≤ i → i ≤ aLp (W 117) (aP (W 117) p 2) → (200 - i).toNat < n → RR MX7_bestOf 2 0 W 28 [.ref 116, zI p, zI (aP (W 117) p 2), zI (aSd (W 117) (aP (W 117) p 2)), zI i] [] (zEnd MX7_bestOf Q X) X := by
      intro n
      induction n with
      | zero => intro i _ _ hm9; omega
      | succ n ih =>
        intro i h1 h2 hm9
        refine rr_iload (pc := 28) dX7_bestOf_28 rfl ?_
        refine rr_sipush (n := (199)) dX7_bestOf_30 ?_
        refine rr_icmp_gt (pc := 33) (tgt := 60) dX7_bestOf_33 (by decide) (by unfold zR; omega) (by unfold zR; omega) (fun h33 => ?_) (fun h33 => ?_)
        · exfalso
          omega
        · refine rr_aload_n (pc := 36) dX7_bestOf_36 rfl ?_
          refine rr_iload_n (pc := 37) dX7_bestOf_37 rfl ?_
          refine rr_iload (pc := 38) dX7_bestOf_38 rfl ?_
          refine rr_iload_n (pc := 40) dX7_bestOf_40 rfl ?_
          refine rr_inv0 (M' := MX7_faultOf) (k := 116) (As := [_, _, _]) (pc := 41) dX7_bestOf_41 lX7_300 kX7_faultOf vX7_faultOf zk_116 (by decide) rfl (by decide) (by decide) (Nat.le_of_ble_eq_true rfl) rfl (eX7_faultOf rfl hw hp0 hp1 h1 (by omega) hs.1 hs.2 ?_)
          have hfr := aFault_rng (a := W 117) (q := p) (pw := i) (sd := aSd (W 117) (aP (W 117) p 2))
          refine rr_if_ne (pc := 44) (tgt := 54) dX7_bestOf_44 (by decide) (by unfold zR; omega) (fun h44 => ?_) (fun h44 => ?_)
          · refine rr_iinc (pc := 54) dX7_bestOf_54 rfl (by decide) ?_
            refine rr_goto (pc := 57) (tgt := 28) dX7_bestOf_57 (by decide) ?_
            have hne : i ≠ aLp (W 117) (aP (W 117) p 2) := fun z => by rw [z] at h44; exact h44 hb.1
            exact ih (i + 1) (by omega) (by omega) (by omega)
          · refine rr_iconst (n := 2) dX7_bestOf_47 ?_
            refine rr_iload (pc := 48) dX7_bestOf_48 rfl ?_
            refine rr_imul (pc := 50) dX7_bestOf_50 ?_
            refine rr_iload_n (pc := 51) dX7_bestOf_51 rfl ?_
            refine rr_iadd (pc := 52) dX7_bestOf_52 ?_
            have hi : i = aLp (W 117) (aP (W 117) p 2) := by
              rcases Int.lt_or_le i (aLp (W 117) (aP (W 117) p 2)) with z | z
              · exact absurd (by omega) (hb.2 i h1 z)
              · omega
            exact rr_reti (pc := 53) dX7_bestOf_53 rfl rfl (by unfold vBest; rw [if_neg (by omega), hi]) rfl (hq)
    refine rr_iload_n (pc := 13) dX7_bestOf_13 rfl ?_
    refine rr_aload_n (pc := 14) dX7_bestOf_14 rfl ?_
    refine rr_aload_n (pc := 15) dX7_bestOf_15 rfl ?_
    refine rr_iload_n (pc := 16) dX7_bestOf_16 rfl ?_
    refine rr_inv0 (M' := MX7_rowOf) (k := 116) (As := [_]) (pc := 17) dX7_bestOf_17 lX7_245 kX7_rowOf vX7_rowOf zk_116 (by decide) rfl (by decide) (by decide) (Nat.le_of_ble_eq_true rfl) rfl (eX7_rowOf rfl hw (by omega) (by omega) ?_)
    refine rr_inv0 (M' := MX7_firstOf) (k := 116) (As := [_]) (pc := 20) dX7_bestOf_20 lX7_212 kX7_firstOf vX7_firstOf zk_116 (by decide) rfl (by decide) (by decide) (Nat.le_of_ble_eq_true rfl) rfl (eX7_firstOf (by omega) (by omega) ?_)
    rw [Int.toNat_natCast]
    refine rr_isub (pc := 23) dX7_bestOf_23 ?_
    refine rr_istore_n (pc := 24) dX7_bestOf_24 (by decide) ?_
    refine rr_iconst (n := 0) dX7_bestOf_25 ?_
    refine rr_istore (pc := 26) dX7_bestOf_26 (by decide) ?_
    exact loop _ 0 (by omega) hlp.1 (Nat.lt_succ_self _)
  · refine rr_iconst (n := (-1)) dX7_bestOf_11 ?_
    exact rr_reti (pc := 12) dX7_bestOf_12 rfl rfl (by unfold vBest; rw [if_pos (by omega)]) rfl (hq)
theorem dX7_owned_0 : decode cX7_owned 0 = .ok (.iconst 0, 1) := by decide +kernel
theorem dX7_owned_1 : decode cX7_owned 1 = .ok (.istore_n 2, 1) := by decide +kernel
theorem dX7_owned_2 : decode cX7_owned 2 = .ok (.iconst 1, 1) := by decide +kernel
theorem dX7_owned_3 : decode cX7_owned 3 = .ok (.istore_n 3, 1) := by decide +kernel
theorem dX7_owned_4 : decode cX7_owned 4 = .ok (.iload_n 3, 1) := by decide +kernel
theorem dX7_owned_5 : decode cX7_owned 5 = .ok (.aload_n 0, 1) := by decide +kernel
theorem dX7_owned_6 : decode cX7_owned 6 = .ok (.invokevirtual 209, 3) := by decide +kernel
theorem dX7_owned_9 : decode cX7_owned 9 = .ok (.if_icmp .gt 28, 3) := by decide +kernel
theorem dX7_owned_12 : decode cX7_owned 12 = .ok (.iload_n 2, 1) := by decide +kernel
theorem dX7_owned_13 : decode cX7_owned 13 = .ok (.aload_n 0, 1) := by decide +kernel
theorem dX7_owned_14 : decode cX7_owned 14 = .ok (.iload_n 3, 1) := by decide +kernel
theorem dX7_owned_15 : decode cX7_owned 15 = .ok (.invokevirtual 187, 3) := by decide +kernel
theorem dX7_owned_18 : decode cX7_owned 18 = .ok (.iload_n 1, 1) := by decide +kernel
theorem dX7_owned_19 : decode cX7_owned 19 = .ok (.if_icmp .ne 9, 3) := by decide +kernel
theorem dX7_owned_22 : decode cX7_owned 22 = .ok (.iconst 1, 1) := by decide +kernel
theorem dX7_owned_23 : decode cX7_owned 23 = .ok (.iload_n 3, 1) := by decide +kernel
theorem dX7_owned_24 : decode cX7_owned 24 = .ok (.ishl, 1) := by decide +kernel
theorem dX7_owned_25 : decode cX7_owned 25 = .ok (.goto 4, 3) := by decide +kernel
theorem dX7_owned_28 : decode cX7_owned 28 = .ok (.iconst 0, 1) := by decide +kernel
theorem dX7_owned_29 : decode cX7_owned 29 = .ok (.ior, 1) := by decide +kernel
theorem dX7_owned_30 : decode cX7_owned 30 = .ok (.istore_n 2, 1) := by decide +kernel
theorem dX7_owned_31 : decode cX7_owned 31 = .ok (.iinc 3 1, 3) := by decide +kernel
theorem dX7_owned_34 : decode cX7_owned 34 = .ok (.goto (-30), 3) := by decide +kernel
theorem dX7_owned_37 : decode cX7_owned 37 = .ok (.iload_n 2, 1) := by decide +kernel
theorem dX7_owned_38 : decode cX7_owned 38 = .ok (.ireturn, 1) := by decide +kernel
theorem eX7_owned {W : zWd} {a : Int → Int} {T : Int} {o : Int}  {Q : Option Value → zWd → Prop} {X : zX} (ha : W 117 = a) (hw : zWf T a) (ho : zR o) (hq : Q (some (zI (zSet (fun s => decide (aO a s = o)) (a 1).toNat : Nat))) W) : Ev MX7_owned 1 0 W [.ref 116, zI o] Q X := by
  refine ev_of (ls := [.ref 116, zI o, .null, .null]) (by decide) rfl (fun _ => rfl) (fun _ => Nat.le_of_ble_eq_true rfl) (Or.inl rfl) ?_
  subst ha
  obtain ⟨w0, w0', wW, w1, w2, w2', w3, w3', w4, w4', w5, w5', w6, w6', w7, w7', wS, wP, wT⟩ := id hw
  have wq := zWf.sq hw
  have loop : ∀ (n : Nat) (i : Int), 1 ≤ i → i ≤ W 117 1 + 1 → (W 117 1 + 1 - i).toNat < n → RR MX7_owned 1 0 W 4 [.ref 116, zI o, zI (zSet (fun s => decide (aO (W 117) s = o)) (i - 1).toNat : Nat), zI i] [] (zEnd MX7_owned Q X) X := by
    intro n
    induction n with
    | zero => intro i _ _ hm9; omega
    | succ n ih =>
      intro i h1 h2 hm9
      refine rr_iload_n (pc := 4) dX7_owned_4 rfl ?_
      refine rr_aload_n (pc := 5) dX7_owned_5 rfl ?_
      refine rr_inv0 (M' := MX7_squares) (k := 116) (As := []) (pc := 6) dX7_owned_6 lX7_209 kX7_squares vX7_squares zk_116 (by decide) rfl (by decide) (by decide) (Nat.le_of_ble_eq_true rfl) rfl (eX7_squares ?_)
      refine rr_icmp_gt (pc := 9) (tgt := 37) dX7_owned_9 (by decide) (by unfold zR; omega) (by unfold zR; omega) (fun h9 => ?_) (fun h9 => ?_)
      · refine rr_iload_n (pc := 37) dX7_owned_37 rfl ?_
        exact rr_reti (pc := 38) dX7_owned_38 rfl rfl (by rw [show (i - 1).toNat = (W 117 1).toNat by omega]) rfl (hq)
      · refine rr_iload_n (pc := 12) dX7_owned_12 rfl ?_
        refine rr_aload_n (pc := 13) dX7_owned_13 rfl ?_
        refine rr_iload_n (pc := 14) dX7_owned_14 rfl ?_
        refine rr_inv0 (M' := MX7_ownerOf) (k := 116) (As := [_]) (pc := 15) dX7_owned_15 lX7_187 kX7_ownerOf vX7_ownerOf zk_116 (by decide) rfl (by decide) (by decide) (Nat.le_of_ble_eq_true rfl) rfl (eX7_ownerOf h1 (by omega) ?_)
        have hs4 := wS i h1 (by omega)
        have e9 : i.toNat = (i - 1).toNat + 1 := by omega
        have e8 : zSet (fun s => decide (aO (W 117) s = o)) i.toNat = if decide (aO (W 117) i = o) = true then zSet (fun s => decide (aO (W 117) s = o)) (i - 1).toNat ||| 2 ^ i.toNat else zSet (fun s => decide (aO (W 117) s = o)) (i - 1).toNat := by
          rw [e9]
          show (if decide (aO (W 117) (((i - 1).toNat + 1 : Nat) : Int) = o) = true then _ else _) = _
          rw [show ((((i - 1).toNat + 1 : Nat)) : Int) = i by omega]
        refine rr_iload_n (pc := 18) dX7_owned_18 rfl ?_
        refine rr_icmp_ne (pc := 19) (tgt := 28) dX7_owned_19 (by decide) (by unfold zR; omega) ho (fun h19 => ?_) (fun h19 => ?_)
        · refine rr_iconst (n := 0) dX7_owned_28 ?_
          refine rr_eqS (show _ = [zI ((0 : Nat) : Int), zI (zSet (fun s => decide (aO (W 117) s = o)) (i - 1).toNat : Nat)] from rfl) ?_
          refine rr_ior (pc := 29) dX7_owned_29 (Nat.lt_trans (zSet_32 _ (by omega)) (by decide)) (by decide) ?_
          rw [Nat.or_zero]
          refine rr_istore_n (pc := 30) dX7_owned_30 (by decide) ?_
          refine rr_iinc (pc := 31) dX7_owned_31 rfl (by decide) ?_
          refine rr_goto (pc := 34) (tgt := 4) dX7_owned_34 (by decide) ?_
          refine rr_eqL ?_ (ih (i + 1) (by omega) (by omega) (by omega))
          rw [show (i + 1 - 1).toNat = i.toNat by omega, e8, if_neg (fun z => h19 (of_decide_eq_true z))]
          rfl
        · refine rr_iconst (n := 1) dX7_owned_22 ?_
          refine rr_iload_n (pc := 23) dX7_owned_23 rfl ?_
          refine rr_ishl1 (pc := 24) dX7_owned_24 (by omega) (by omega) ?_
          refine rr_goto (pc := 25) (tgt := 29) dX7_owned_25 (by decide) ?_
          refine rr_ior (pc := 29) dX7_owned_29 (Nat.lt_trans (zSet_32 _ (by omega)) (by decide)) (z_p32 (by omega)) ?_
          refine rr_istore_n (pc := 30) dX7_owned_30 (by decide) ?_
          refine rr_iinc (pc := 31) dX7_owned_31 rfl (by decide) ?_
          refine rr_goto (pc := 34) (tgt := 4) dX7_owned_34 (by decide) ?_
          refine rr_eqL ?_ (ih (i + 1) (by omega) (by omega) (by omega))
          rw [show (i + 1 - 1).toNat = i.toNat by omega, e8, if_pos (decide_eq_true h19)]
          rfl
  refine rr_iconst (n := 0) dX7_owned_0 ?_
  refine rr_istore_n (pc := 1) dX7_owned_1 (by decide) ?_
  refine rr_iconst (n := 1) dX7_owned_2 ?_
  refine rr_istore_n (pc := 3) dX7_owned_3 (by decide) ?_
  exact loop _ 1 (by omega) (by omega) (Nat.lt_succ_self _)
