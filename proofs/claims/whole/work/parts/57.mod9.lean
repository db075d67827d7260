theorem z_foldr {g : Nat → Nat} (c : Nat) : ∀ l : List Nat, l.foldr (fun (q : Nat) (r : Nat) => g q + r) c = l.foldr (fun (q : Nat) (r : Nat) => g q + r) 0 + c := by
  intro l
  induction l with
  | nil => exact (Nat.zero_add c).symm
  | cons x l ih => show g x + _ = g x + _ + c; rw [ih]; omega
theorem aAllN_f {a : Int → Int} (h0 : 0 ≤ a 1) (h : a 1 ≤ 20) : ∀ m : Nat, aAllN a m = (List.range m).foldr (fun (q : Nat) (r : Nat) => cN (fun s => decide (aO a s = (q : Int))) (a 1).toNat + r) 0 := by
  intro m
  induction m with
  | zero => rfl
  | succ m ih =>
    rw [List.range_succ, List.foldr_append]
    show aAllN a m + aNown a m = (List.range m).foldr _ (cN (fun s => decide (aO a s = (m : Int))) (a 1).toNat + 0)
    rw [z_foldr (g := fun q : Nat => cN (fun s => decide (aO a s = (q : Int))) (a 1).toNat), ih, aNown_c h0 h]; omega
theorem aAllN_eq {T : Int} {a : Int → Int} (hw : zWf T a) : ((aAllN a (a 2).toNat : Nat) : Int) = a 1 - (aNown a (-1) : Nat) := by
  have hsq := zWf.sq hw
  have hp := hw.2.2.2.2.1
  have h9 := cN_all (a := a) (m := (a 2).toNat) (a 1).toNat (fun s g1 g2 => by
    have := hw.2.2.2.2.2.2.2.2.2.2.2.2.2.2.2.2.1 s g1 (by omega)
    omega)
  rw [← aAllN_f (by omega) (by omega), ← aNown_c (by omega) (by omega)] at h9
  omega
theorem aAllN_le {a : Int → Int} (h : a 1 ≤ 20) : ∀ n : Nat, aAllN a n ≤ 21 * n := by
  intro n
  induction n with
  | zero => exact Nat.le_refl _
  | succ n ih => have := aNown_le a n h; show aAllN a n + aNown a n ≤ _; omega
theorem dX7_ownedAll_0 : decode cX7_ownedAll 0 = .ok (.iconst 0, 1) := by decide +kernel
theorem dX7_ownedAll_1 : decode cX7_ownedAll 1 = .ok (.istore_n 1, 1) := by decide +kernel
theorem dX7_ownedAll_2 : decode cX7_ownedAll 2 = .ok (.iconst 0, 1) := by decide +kernel
theorem dX7_ownedAll_3 : decode cX7_ownedAll 3 = .ok (.istore_n 2, 1) := by decide +kernel
theorem dX7_ownedAll_4 : decode cX7_ownedAll 4 = .ok (.iload_n 2, 1) := by decide +kernel
theorem dX7_ownedAll_5 : decode cX7_ownedAll 5 = .ok (.aload_n 0, 1) := by decide +kernel
theorem dX7_ownedAll_6 : decode cX7_ownedAll 6 = .ok (.invokevirtual 203, 3) := by decide +kernel
theorem dX7_ownedAll_9 : decode cX7_ownedAll 9 = .ok (.if_icmp .ge 20, 3) := by decide +kernel
theorem dX7_ownedAll_12 : decode cX7_ownedAll 12 = .ok (.iload_n 1, 1) := by decide +kernel
theorem dX7_ownedAll_13 : decode cX7_ownedAll 13 = .ok (.aload_n 0, 1) := by decide +kernel
theorem dX7_ownedAll_14 : decode cX7_ownedAll 14 = .ok (.iload_n 2, 1) := by decide +kernel
theorem dX7_ownedAll_15 : decode cX7_ownedAll 15 = .ok (.invokevirtual 270, 3) := by decide +kernel
theorem dX7_ownedAll_18 : decode cX7_ownedAll 18 = .ok (.invokestatic 273, 3) := by decide +kernel
theorem dX7_ownedAll_21 : decode cX7_ownedAll 21 = .ok (.iadd, 1) := by decide +kernel
theorem dX7_ownedAll_22 : decode cX7_ownedAll 22 = .ok (.istore_n 1, 1) := by decide +kernel
theorem dX7_ownedAll_23 : decode cX7_ownedAll 23 = .ok (.iinc 2 1, 3) := by decide +kernel
theorem dX7_ownedAll_26 : decode cX7_ownedAll 26 = .ok (.goto (-22), 3) := by decide +kernel
theorem dX7_ownedAll_29 : decode cX7_ownedAll 29 = .ok (.iload_n 1, 1) := by decide +kernel
theorem dX7_ownedAll_30 : decode cX7_ownedAll 30 = .ok (.ireturn, 1) := by decide +kernel
theorem eX7_ownedAll {W : zWd} {a : Int → Int} {T : Int}  {Q : Option Value → zWd → Prop} {X : zX} (ha : W 117 = a) (hw : zWf T a) (hq : Q (some (zI (a 1 - (aNown a (-1) : Nat)))) W) : Ev MX7_ownedAll 2 0 W [.ref 116] Q X := by
  refine ev_of (ls := [.ref 116, .null, .null]) (by decide) rfl (fun _ => rfl) (fun _ => Nat.le_of_ble_eq_true rfl) (Or.inl rfl) ?_
  subst ha
  obtain ⟨w0, w0', wW, w1, w2, w2', w3, w3', w4, w4', w5, w5', w6, w6', w7, w7', wS, wP, wT⟩ := id hw
  have wq := zWf.sq hw
  have loop : ∀ (n : Nat) (i : Nat), (i : Int) ≤ W 117 2 → (W 117 2).toNat - i < n → RR MX7_ownedAll 2 0 W 4 [.ref 116, zI (aAllN (W 117) i : Nat), zI (i : Int)] [] (zEnd MX7_ownedAll Q X) X := by
    intro n
    induction n with
    | zero => intro i _ hm9; omega
    | succ n ih =>
      intro i h2 hm9
      refine rr_iload_n (pc := 4) dX7_ownedAll_4 rfl ?_
      refine rr_aload_n (pc := 5) dX7_ownedAll_5 rfl ?_
      have hle := aAllN_le (a := W 117) (by omega) i
      refine rr_inv0 (M' := MX7_players) (k := 116) (As := []) (pc := 6) dX7_ownedAll_6 lX7_203 kX7_players vX7_players zk_116 (by decide) rfl (by decide) (by decide) (Nat.le_of_ble_eq_true rfl) rfl (eX7_players ?_)
      refine rr_icmp_ge (pc := 9) (tgt := 29) dX7_ownedAll_9 (by decide) (by unfold zR; omega) (by unfold zR; omega) (fun h9 => ?_) (fun h9 => ?_)
      · refine rr_iload_n (pc := 29) dX7_ownedAll_29 rfl ?_
        exact rr_reti (pc := 30) dX7_ownedAll_30 rfl rfl (by rw [← aAllN_eq hw, show (W 117 2).toNat = i by omega]) rfl (hq)
      · refine rr_iload_n (pc := 12) dX7_ownedAll_12 rfl ?_
        refine rr_aload_n (pc := 13) dX7_ownedAll_13 rfl ?_
        refine rr_iload_n (pc := 14) dX7_ownedAll_14 rfl ?_
        refine rr_inv0 (M' := MX7_owned) (k := 116) (As := [_]) (pc := 15) dX7_ownedAll_15 lX7_270 kX7_owned vX7_owned zk_116 (by decide) rfl (by decide) (by decide) (Nat.le_of_ble_eq_true rfl) rfl (eX7_owned rfl hw (by unfold zR; omega) ?_)
        refine rr_sta0 (M' := MX7_bits) (As := [_]) (pc := 18) dX7_ownedAll_18 lX7_273 kX7_bits sX7_bits (by decide) (by decide) (Nat.le_of_ble_eq_true rfl) rfl (eX7_bits (zSet_32 _ (by omega)) ?_)
        have hb9 := aNown_le (W 117) i (by omega)
        refine rr_eqS (show _ = [zI (aNown (W 117) (i : Int) : Nat), zI (aAllN (W 117) i : Nat)] from rfl) ?_
        refine rr_iadd (pc := 21) dX7_ownedAll_21 ?_
        refine rr_istore_n (pc := 22) dX7_ownedAll_22 (by decide) ?_
        refine rr_iinc (pc := 23) dX7_ownedAll_23 rfl (by decide) ?_
        refine rr_goto (pc := 26) (tgt := 4) dX7_ownedAll_26 (by decide) ?_
        refine rr_eqL ?_ (ih (i + 1) (by omega) (by omega))
        rw [show ((aAllN (W 117) (i + 1) : Nat) : Int) = (aAllN (W 117) i : Nat) + (aNown (W 117) i : Nat) from Int.natCast_add _ _, show ((i + 1 : Nat) : Int) = (i : Int) + 1 by omega]
        rfl
  refine rr_iconst (n := 0) dX7_ownedAll_0 ?_
  refine rr_istore_n (pc := 1) dX7_ownedAll_1 (by decide) ?_
  refine rr_iconst (n := 0) dX7_ownedAll_2 ?_
  refine rr_istore_n (pc := 3) dX7_ownedAll_3 (by decide) ?_
  exact loop _ 0 (by omega) (Nat.lt_succ_self _)
theorem zCnt_le (P : Nat → Bool) : ∀ n : Nat, zCnt P n ≤ n := by
  intro n
  induction n with
  | zero => exact Nat.le_refl _
  | succ n ih => unfold zCnt; split <;> omega
theorem dX7_markers_0 : decode cX7_markers 0 = .ok (.iconst 0, 1) := by decide +kernel
theorem dX7_markers_1 : decode cX7_markers 1 = .ok (.istore_n 1, 1) := by decide +kernel
theorem dX7_markers_2 : decode cX7_markers 2 = .ok (.iconst 0, 1) := by decide +kernel
theorem dX7_markers_3 : decode cX7_markers 3 = .ok (.istore_n 2, 1) := by decide +kernel
theorem dX7_markers_4 : decode cX7_markers 4 = .ok (.iload_n 2, 1) := by decide +kernel
theorem dX7_markers_5 : decode cX7_markers 5 = .ok (.aload_n 0, 1) := by decide +kernel
theorem dX7_markers_6 : decode cX7_markers 6 = .ok (.invokevirtual 203, 3) := by decide +kernel
theorem dX7_markers_9 : decode cX7_markers 9 = .ok (.if_icmp .ge 26, 3) := by decide +kernel
theorem dX7_markers_12 : decode cX7_markers 12 = .ok (.iload_n 1, 1) := by decide +kernel
theorem dX7_markers_13 : decode cX7_markers 13 = .ok (.aload_n 0, 1) := by decide +kernel
theorem dX7_markers_14 : decode cX7_markers 14 = .ok (.iload_n 2, 1) := by decide +kernel
theorem dX7_markers_15 : decode cX7_markers 15 = .ok (.iconst 5, 1) := by decide +kernel
theorem dX7_markers_16 : decode cX7_markers 16 = .ok (.invokevirtual 154, 3) := by decide +kernel
theorem dX7_markers_19 : decode cX7_markers 19 = .ok (.ifCond .le 7, 3) := by decide +kernel
theorem dX7_markers_22 : decode cX7_markers 22 = .ok (.iconst 1, 1) := by decide +kernel
theorem dX7_markers_23 : decode cX7_markers 23 = .ok (.goto 4, 3) := by decide +kernel
theorem dX7_markers_26 : decode cX7_markers 26 = .ok (.iconst 0, 1) := by decide +kernel
theorem dX7_markers_27 : decode cX7_markers 27 = .ok (.iadd, 1) := by decide +kernel
theorem dX7_markers_28 : decode cX7_markers 28 = .ok (.istore_n 1, 1) := by decide +kernel
theorem dX7_markers_29 : decode cX7_markers 29 = .ok (.iinc 2 1, 3) := by decide +kernel
theorem dX7_markers_32 : decode cX7_markers 32 = .ok (.goto (-28), 3) := by decide +kernel
theorem dX7_markers_35 : decode cX7_markers 35 = .ok (.iload_n 1, 1) := by decide +kernel
theorem dX7_markers_36 : decode cX7_markers 36 = .ok (.ireturn, 1) := by decide +kernel
theorem eX7_markers {W : zWd} {a : Int → Int} {T : Int}  {Q : Option Value → zWd → Prop} {X : zX} (ha : W 117 = a) (hw : zWf T a) (hq : Q (some (zI (zCnt (fun q : Nat => decide (aP a q 5 ≠ 0)) (a 2).toNat : Nat))) W) : Ev MX7_markers 1 0 W [.ref 116] Q X := by
  refine ev_of (ls := [.ref 116, .null, .null]) (by decide) rfl (fun _ => rfl) (fun _ => Nat.le_of_ble_eq_true rfl) (Or.inl rfl) ?_
  subst ha
  obtain ⟨w0, w0', wW, w1, w2, w2', w3, w3', w4, w4', w5, w5', w6, w6', w7, w7', wS, wP, wT⟩ := id hw
  have wq := zWf.sq hw
  have loop : ∀ (n : Nat) (i : Nat), (i : Int) ≤ W 117 2 → (W 117 2).toNat - i < n → RR MX7_markers 1 0 W 4 [.ref 116, zI (zCnt (fun q : Nat => decide (aP (W 117) q 5 ≠ 0)) i : Nat), zI (i : Int)] [] (zEnd MX7_markers Q X) X := by
    intro n
    induction n with
    | zero => intro i _ hm9; omega
    | succ n ih =>
      intro i h2 hm9
      refine rr_iload_n (pc := 4) dX7_markers_4 rfl ?_
      refine rr_aload_n (pc := 5) dX7_markers_5 rfl ?_
      have hle := zCnt_le (fun q : Nat => decide (aP (W 117) q 5 ≠ 0)) i
      refine rr_inv0 (M' := MX7_players) (k := 116) (As := []) (pc := 6) dX7_markers_6 lX7_203 kX7_players vX7_players zk_116 (by decide) rfl (by decide) (by decide) (Nat.le_of_ble_eq_true rfl) rfl (eX7_players ?_)
      refine rr_icmp_ge (pc := 9) (tgt := 35) dX7_markers_9 (by decide) (by unfold zR; omega) (by unfold zR; omega) (fun h9 => ?_) (fun h9 => ?_)
      · refine rr_iload_n (pc := 35) dX7_markers_35 rfl ?_
        exact rr_reti (pc := 36) dX7_markers_36 rfl rfl (by rw [show (W 117 2).toNat = i by omega]) rfl (hq)
      · refine rr_iload_n (pc := 12) dX7_markers_12 rfl ?_
        refine rr_aload_n (pc := 13) dX7_markers_13 rfl ?_
        refine rr_iload_n (pc := 14) dX7_markers_14 rfl ?_
        refine rr_iconst (n := 5) dX7_markers_15 ?_
        have hm2 := wP i (by omega) (by omega)
        unfold zWfP at hm2
        refine rr_inv0 (M' := MX7_of) (k := 116) (As := [_, _]) (pc := 16) dX7_markers_16 lX7_154 kX7_of vX7_of zk_116 (by decide) rfl (by decide) (by decide) (Nat.le_of_ble_eq_true rfl) rfl (eX7_of (by omega) (by omega) (by omega) (by omega) ?_)
        refine rr_if_le (pc := 19) (tgt := 26) dX7_markers_19 (by decide) (by unfold zR; omega) (fun h19 => ?_) (fun h19 => ?_)
        · refine rr_iconst (n := 0) dX7_markers_26 ?_
          refine rr_iadd (pc := 27) dX7_markers_27 ?_
          refine rr_istore_n (pc := 28) dX7_markers_28 (by decide) ?_
          refine rr_iinc (pc := 29) dX7_markers_29 rfl (by decide) ?_
          refine rr_goto (pc := 32) (tgt := 4) dX7_markers_32 (by decide) ?_
          refine rr_eqL ?_ (ih (i + 1) (by omega) (by omega))
          rw [show zCnt (fun q : Nat => decide (aP (W 117) q 5 ≠ 0)) (i + 1) = zCnt (fun q : Nat => decide (aP (W 117) q 5 ≠ 0)) i + 0 from congrArg (zCnt (fun q : Nat => decide (aP (W 117) q 5 ≠ 0)) i + ·) (if_neg (fun z => (of_decide_eq_true z) (by omega))), Int.natCast_add, show ((i + 1 : Nat) : Int) = (i : Int) + 1 by omega]
          rfl
        · refine rr_iconst (n := 1) dX7_markers_22 ?_
          refine rr_goto (pc := 23) (tgt := 27) dX7_markers_23 (by decide) ?_
          refine rr_iadd (pc := 27) dX7_markers_27 ?_
          refine rr_istore_n (pc := 28) dX7_markers_28 (by decide) ?_
          refine rr_iinc (pc := 29) dX7_markers_29 rfl (by decide) ?_
          refine rr_goto (pc := 32) (tgt := 4) dX7_markers_32 (by decide) ?_
          refine rr_eqL ?_ (ih (i + 1) (by omega) (by omega))
          rw [show zCnt (fun q : Nat => decide (aP (W 117) q 5 ≠ 0)) (i + 1) = zCnt (fun q : Nat => decide (aP (W 117) q 5 ≠ 0)) i + 1 from congrArg (zCnt (fun q : Nat => decide (aP (W 117) q 5 ≠ 0)) i + ·) (if_pos (decide_eq_true (by omega))), Int.natCast_add, show ((i + 1 : Nat) : Int) = (i : Int) + 1 by omega]
          rfl
  refine rr_iconst (n := 0) dX7_markers_0 ?_
  refine rr_istore_n (pc := 1) dX7_markers_1 (by decide) ?_
  refine rr_iconst (n := 0) dX7_markers_2 ?_
  refine rr_istore_n (pc := 3) dX7_markers_3 (by decide) ?_
  exact loop _ 0 (by omega) (Nat.lt_succ_self _)
theorem dX7_richest_0 : decode cX7_richest 0 = .ok (.iconst (-1), 1) := by decide +kernel
theorem dX7_richest_1 : decode cX7_richest 1 = .ok (.istore_n 1, 1) := by decide +kernel
theorem dX7_richest_2 : decode cX7_richest 2 = .ok (.iconst 0, 1) := by decide +kernel
theorem dX7_richest_3 : decode cX7_richest 3 = .ok (.istore_n 2, 1) := by decide +kernel
theorem dX7_richest_4 : decode cX7_richest 4 = .ok (.iconst 0, 1) := by decide +kernel
theorem dX7_richest_5 : decode cX7_richest 5 = .ok (.istore_n 3, 1) := by decide +kernel
theorem dX7_richest_6 : decode cX7_richest 6 = .ok (.iload_n 3, 1) := by decide +kernel
theorem dX7_richest_7 : decode cX7_richest 7 = .ok (.aload_n 0, 1) := by decide +kernel
theorem dX7_richest_8 : decode cX7_richest 8 = .ok (.invokevirtual 203, 3) := by decide +kernel
theorem dX7_richest_11 : decode cX7_richest 11 = .ok (.if_icmp .ge 33, 3) := by decide +kernel
theorem dX7_richest_14 : decode cX7_richest 14 = .ok (.aload_n 0, 1) := by decide +kernel
theorem dX7_richest_15 : decode cX7_richest 15 = .ok (.iload_n 3, 1) := by decide +kernel
theorem dX7_richest_16 : decode cX7_richest 16 = .ok (.invokevirtual 270, 3) := by decide +kernel
theorem dX7_richest_19 : decode cX7_richest 19 = .ok (.invokestatic 273, 3) := by decide +kernel
theorem dX7_richest_22 : decode cX7_richest 22 = .ok (.istore 4, 2) := by decide +kernel
theorem dX7_richest_24 : decode cX7_richest 24 = .ok (.iload 4, 2) := by decide +kernel
theorem dX7_richest_26 : decode cX7_richest 26 = .ok (.iload_n 2, 1) := by decide +kernel
theorem dX7_richest_27 : decode cX7_richest 27 = .ok (.if_icmp .gt 6, 3) := by decide +kernel
theorem dX7_richest_30 : decode cX7_richest 30 = .ok (.goto 8, 3) := by decide +kernel
theorem dX7_richest_33 : decode cX7_richest 33 = .ok (.iload 4, 2) := by decide +kernel
theorem dX7_richest_35 : decode cX7_richest 35 = .ok (.istore_n 2, 1) := by decide +kernel
theorem dX7_richest_36 : decode cX7_richest 36 = .ok (.iload_n 3, 1) := by decide +kernel
theorem dX7_richest_37 : decode cX7_richest 37 = .ok (.istore_n 1, 1) := by decide +kernel
theorem dX7_richest_38 : decode cX7_richest 38 = .ok (.iinc 3 1, 3) := by decide +kernel
theorem dX7_richest_41 : decode cX7_richest 41 = .ok (.goto (-35), 3) := by decide +kernel
theorem dX7_richest_44 : decode cX7_richest 44 = .ok (.iload_n 1, 1) := by decide +kernel
theorem dX7_richest_45 : decode cX7_richest 45 = .ok (.ireturn, 1) := by decide +kernel
theorem eX7_richest {W : zWd} {a : Int → Int} {T : Int}  {Q : Option Value → zWd → Prop} {X : zX} (ha : W 117 = a) (hw : zWf T a) (hq : Q (some (zI (aRich a (a 2).toNat).1)) W) : Ev MX7_richest 2 0 W [.ref 116] Q X := by
  refine ev_of (ls := [.ref 116, .null, .null, .null, .null]) (by decide) rfl (fun _ => rfl) (fun _ => Nat.le_of_ble_eq_true rfl) (Or.inl rfl) ?_
  subst ha
  obtain ⟨w0, w0', wW, w1, w2, w2', w3, w3', w4, w4', w5, w5', w6, w6', w7, w7', wS, wP, wT⟩ := id hw
  have wq := zWf.sq hw
  have loop : ∀ (n : Nat) (i : Nat) (x4 : Value), (i : Int) ≤ W 117 2 → (W 117 2).toNat - i < n → RR MX7_richest 2 0 W 6 [.ref 116, zI (aRich (W 117) i).1, zI (aRich (W 117) i).2, zI (i : Int), x4] [] (zEnd MX7_richest Q X) X := by
    intro n
    induction n with
    | zero => intro i x4 _ hm9; omega
    | succ n ih =>
      intro i x4 h2 hm9
      refine rr_iload_n (pc := 6) dX7_richest_6 rfl ?_
      refine rr_aload_n (pc := 7) dX7_richest_7 rfl ?_
      have hrl := aRich_le (a := W 117) (by omega) i
      refine rr_inv0 (M' := MX7_players) (k := 116) (As := []) (pc := 8) dX7_richest_8 lX7_203 kX7_players vX7_players zk_116 (by decide) rfl (by decide) (by decide) (Nat.le_of_ble_eq_true rfl) rfl (eX7_players ?_)
      refine rr_icmp_ge (pc := 11) (tgt := 44) dX7_richest_11 (by decide) (by unfold zR; omega) (by unfold zR; omega) (fun h11 => ?_) (fun h11 => ?_)
      · refine rr_iload_n (pc := 44) dX7_richest_44 rfl ?_
        exact rr_reti (pc := 45) dX7_richest_45 rfl rfl (by rw [show (W 117 2).toNat = i by omega]) rfl (hq)
      · refine rr_aload_n (pc := 14) dX7_richest_14 rfl ?_
        refine rr_iload_n (pc := 15) dX7_richest_15 rfl ?_
        refine rr_inv0 (M' := MX7_owned) (k := 116) (As := [_]) (pc := 16) dX7_richest_16 lX7_270 kX7_owned vX7_owned zk_116 (by decide) rfl (by decide) (by decide) (Nat.le_of_ble_eq_true rfl) rfl (eX7_owned rfl hw (by unfold zR; omega) ?_)
        refine rr_sta0 (M' := MX7_bits) (As := [_]) (pc := 19) dX7_richest_19 lX7_273 kX7_bits sX7_bits (by decide) (by decide) (Nat.le_of_ble_eq_true rfl) rfl (eX7_bits (zSet_32 _ (by omega)) ?_)
        have hb9 := aNown_le (W 117) i (by omega)
        refine rr_eqS (show _ = [zI (aNown (W 117) (i : Int) : Nat)] from rfl) ?_
        refine rr_istore (pc := 22) dX7_richest_22 (by decide) ?_
        refine rr_iload (pc := 24) dX7_richest_24 rfl ?_
        refine rr_iload_n (pc := 26) dX7_richest_26 rfl ?_
        refine rr_icmp_gt (pc := 27) (tgt := 33) dX7_richest_27 (by decide) (by unfold zR; omega) (by unfold zR; omega) (fun h27 => ?_) (fun h27 => ?_)
        · refine rr_iload (pc := 33) dX7_richest_33 rfl ?_
          refine rr_istore_n (pc := 35) dX7_richest_35 (by decide) ?_
          refine rr_iload_n (pc := 36) dX7_richest_36 rfl ?_
          refine rr_istore_n (pc := 37) dX7_richest_37 (by decide) ?_
          refine rr_iinc (pc := 38) dX7_richest_38 rfl (by decide) ?_
          refine rr_goto (pc := 41) (tgt := 6) dX7_richest_41 (by decide) ?_
          refine rr_eqL ?_ (ih (i + 1) (zI (aNown (W 117) (i : Int) : Nat)) (by omega) (by omega))
          rw [show aRich (W 117) (i + 1) = ((i : Int), (aNown (W 117) i : Int)) from if_pos (by omega), show ((i + 1 : Nat) : Int) = (i : Int) + 1 by omega]
          rfl
        · refine rr_goto (pc := 30) (tgt := 38) dX7_richest_30 (by decide) ?_
          refine rr_iinc (pc := 38) dX7_richest_38 rfl (by decide) ?_
          refine rr_goto (pc := 41) (tgt := 6) dX7_richest_41 (by decide) ?_
          refine rr_eqL ?_ (ih (i + 1) (zI (aNown (W 117) (i : Int) : Nat)) (by omega) (by omega))
          rw [show aRich (W 117) (i + 1) = aRich (W 117) i from if_neg (by omega), show ((i + 1 : Nat) : Int) = (i : Int) + 1 by omega]
          rfl
  refine rr_iconst (n := (-1)) dX7_richest_0 ?_
  refine rr_istore_n (pc := 1) dX7_richest_1 (by decide) ?_
  refine rr_iconst (n := 0) dX7_richest_2 ?_
  refine rr_istore_n (pc := 3) dX7_richest_3 (by decide) ?_
  refine rr_iconst (n := 0) dX7_richest_4 ?_
  refine rr_istore_n (pc := 5) dX7_richest_5 (by decide) ?_
  exact loop _ 0 _ (by omega) (Nat.lt_succ_self _)
theorem dX7_markersOn_0 : decode cX7_markersOn 0 = .ok (.iconst 0, 1) := by decide +kernel
theorem dX7_markersOn_1 : decode cX7_markersOn 1 = .ok (.istore_n 2, 1) := by decide +kernel
theorem dX7_markersOn_2 : decode cX7_markersOn 2 = .ok (.iconst 0, 1) := by decide +kernel
theorem dX7_markersOn_3 : decode cX7_markersOn 3 = .ok (.istore_n 3, 1) := by decide +kernel
theorem dX7_markersOn_4 : decode cX7_markersOn 4 = .ok (.iload_n 3, 1) := by decide +kernel
theorem dX7_markersOn_5 : decode cX7_markersOn 5 = .ok (.aload_n 0, 1) := by decide +kernel
theorem dX7_markersOn_6 : decode cX7_markersOn 6 = .ok (.invokevirtual 203, 3) := by decide +kernel
theorem dX7_markersOn_9 : decode cX7_markersOn 9 = .ok (.if_icmp .ge 29, 3) := by decide +kernel
theorem dX7_markersOn_12 : decode cX7_markersOn 12 = .ok (.iload_n 2, 1) := by decide +kernel
theorem dX7_markersOn_13 : decode cX7_markersOn 13 = .ok (.aload_n 0, 1) := by decide +kernel
theorem dX7_markersOn_14 : decode cX7_markersOn 14 = .ok (.iload_n 3, 1) := by decide +kernel
theorem dX7_markersOn_15 : decode cX7_markersOn 15 = .ok (.iconst 5, 1) := by decide +kernel
theorem dX7_markersOn_16 : decode cX7_markersOn 16 = .ok (.invokevirtual 154, 3) := by decide +kernel
theorem dX7_markersOn_19 : decode cX7_markersOn 19 = .ok (.iload_n 1, 1) := by decide +kernel
theorem dX7_markersOn_20 : decode cX7_markersOn 20 = .ok (.if_icmp .ne 9, 3) := by decide +kernel
theorem dX7_markersOn_23 : decode cX7_markersOn 23 = .ok (.iconst 1, 1) := by decide +kernel
theorem dX7_markersOn_24 : decode cX7_markersOn 24 = .ok (.iload_n 3, 1) := by decide +kernel
theorem dX7_markersOn_25 : decode cX7_markersOn 25 = .ok (.ishl, 1) := by decide +kernel
theorem dX7_markersOn_26 : decode cX7_markersOn 26 = .ok (.goto 4, 3) := by decide +kernel
theorem dX7_markersOn_29 : decode cX7_markersOn 29 = .ok (.iconst 0, 1) := by decide +kernel
theorem dX7_markersOn_30 : decode cX7_markersOn 30 = .ok (.ior, 1) := by decide +kernel
theorem dX7_markersOn_31 : decode cX7_markersOn 31 = .ok (.istore_n 2, 1) := by decide +kernel
theorem dX7_markersOn_32 : decode cX7_markersOn 32 = .ok (.iinc 3 1, 3) := by decide +kernel
theorem dX7_markersOn_35 : decode cX7_markersOn 35 = .ok (.goto (-31), 3) := by decide +kernel
theorem dX7_markersOn_38 : decode cX7_markersOn 38 = .ok (.iload_n 2, 1) := by decide +kernel
theorem dX7_markersOn_39 : decode cX7_markersOn 39 = .ok (.ireturn, 1) := by decide +kernel
theorem eX7_markersOn {W : zWd} {a : Int → Int} {T : Int} {s : Int}  {Q : Option Value → zWd → Prop} {X : zX} (ha : W 117 = a) (hw : zWf T a) (hz : zR s) (hq : Q (some (zI (zSet0 (fun q : Nat => decide (aP a q 5 = s)) (a 2).toNat : Nat))) W) : Ev MX7_markersOn 1 0 W [.ref 116, zI s] Q X := by
  refine ev_of (ls := [.ref 116, zI s, .null, .null]) (by decide) rfl (fun _ => rfl) (fun _ => Nat.le_of_ble_eq_true rfl) (Or.inl rfl) ?_
  subst ha
  obtain ⟨w0, w0', wW, w1, w2, w2', w3, w3', w4, w4', w5, w5', w6, w6', w7, w7', wS, wP, wT⟩ := id hw
  have wq := zWf.sq hw
  have loop : ∀ (n : Nat) (i : Nat), (i : Int) ≤ W 117 2 → (W 117 2).toNat - i < n → RR MX7_markersOn 1 0 W 4 [.ref 116, zI s, zI (zSet0 (fun q : Nat => decide (aP (W 117) q 5 = s)) i : Nat), zI (i : Int)] [] (zEnd MX7_markersOn Q X) X := by
    intro n
    induction n with
    | zero => intro i _ hm9; omega
    | succ n ih =>
      intro i h2 hm9
      refine rr_iload_n (pc := 4) dX7_markersOn_4 rfl ?_
      refine rr_aload_n (pc := 5) dX7_markersOn_5 rfl ?_
      refine rr_inv0 (M' := MX7_players) (k := 116) (As := []) (pc := 6) dX7_markersOn_6 lX7_203 kX7_players vX7_players zk_116 (by decide) rfl (by decide) (by decide) (Nat.le_of_ble_eq_true rfl) rfl (eX7_players ?_)
      refine rr_icmp_ge (pc := 9) (tgt := 38) dX7_markersOn_9 (by decide) (by unfold zR; omega) (by unfold zR; omega) (fun h9 => ?_) (fun h9 => ?_)
      · refine rr_iload_n (pc := 38) dX7_markersOn_38 rfl ?_
        exact rr_reti (pc := 39) dX7_markersOn_39 rfl rfl (by rw [show (W 117 2).toNat = i by omega]) rfl (hq)
      · refine rr_iload_n (pc := 12) dX7_markersOn_12 rfl ?_
        refine rr_aload_n (pc := 13) dX7_markersOn_13 rfl ?_
        refine rr_iload_n (pc := 14) dX7_markersOn_14 rfl ?_
        refine rr_iconst (n := 5) dX7_markersOn_15 ?_
        have hm2 := wP i (by omega) (by omega)
        unfold zWfP at hm2
        refine rr_inv0 (M' := MX7_of) (k := 116) (As := [_, _]) (pc := 16) dX7_markersOn_16 lX7_154 kX7_of vX7_of zk_116 (by decide) rfl (by decide) (by decide) (Nat.le_of_ble_eq_true rfl) rfl (eX7_of (by omega) (by omega) (by omega) (by omega) ?_)
        refine rr_iload_n (pc := 19) dX7_markersOn_19 rfl ?_
        refine rr_icmp_ne (pc := 20) (tgt := 29) dX7_markersOn_20 (by decide) (by unfold zR; omega) hz (fun h20 => ?_) (fun h20 => ?_)
        · refine rr_iconst (n := 0) dX7_markersOn_29 ?_
          refine rr_eqS (show _ = [zI ((0 : Nat) : Int), zI (zSet0 (fun q : Nat => decide (aP (W 117) q 5 = s)) i : Nat)] from rfl) ?_
          refine rr_ior (pc := 30) dX7_markersOn_30 (Nat.lt_trans (zSet0_32 _ (by omega)) (by decide)) (by decide) ?_
          rw [Nat.or_zero]
          refine rr_istore_n (pc := 31) dX7_markersOn_31 (by decide) ?_
          refine rr_iinc (pc := 32) dX7_markersOn_32 rfl (by decide) ?_
          refine rr_goto (pc := 35) (tgt := 4) dX7_markersOn_35 (by decide) ?_
          refine rr_eqL ?_ (ih (i + 1) (by omega) (by omega))
          rw [show zSet0 (fun q : Nat => decide (aP (W 117) q 5 = s)) (i + 1) = zSet0 (fun q : Nat => decide (aP (W 117) q 5 = s)) i from if_neg (fun z => h20 (of_decide_eq_true z)), show ((i + 1 : Nat) : Int) = (i : Int) + 1 by omega]
          rfl
        · refine rr_iconst (n := 1) dX7_markersOn_23 ?_
          refine rr_iload_n (pc := 24) dX7_markersOn_24 rfl ?_
          refine rr_ishl1 (pc := 25) dX7_markersOn_25 (by omega) (by omega) ?_
          refine rr_goto (pc := 26) (tgt := 30) dX7_markersOn_26 (by decide) ?_
          refine rr_ior (pc := 30) dX7_markersOn_30 (Nat.lt_trans (zSet0_32 _ (by omega)) (by decide)) (z_p32 (by omega)) ?_
          rw [Int.toNat_natCast]
          refine rr_istore_n (pc := 31) dX7_markersOn_31 (by decide) ?_
          refine rr_iinc (pc := 32) dX7_markersOn_32 rfl (by decide) ?_
          refine rr_goto (pc := 35) (tgt := 4) dX7_markersOn_35 (by decide) ?_
          refine rr_eqL ?_ (ih (i + 1) (by omega) (by omega))
          rw [show zSet0 (fun q : Nat => decide (aP (W 117) q 5 = s)) (i + 1) = zSet0 (fun q : Nat => decide (aP (W 117) q 5 = s)) i ||| 2 ^ i from if_pos (decide_eq_true h20), show ((i + 1 : Nat) : Int) = (i : Int) + 1 by omega]
          rfl
  refine rr_iconst (n := 0) dX7_markersOn_0 ?_
  refine rr_istore_n (pc := 1) dX7_markersOn_1 (by decide) ?_
  refine rr_iconst (n := 0) dX7_markersOn_2 ?_
  refine rr_istore_n (pc := 3) dX7_markersOn_3 (by decide) ?_
  exact loop _ 0 (by omega) (Nat.lt_succ_self _)
theorem dX7_isRowOf_0 : decode cX7_isRowOf 0 = .ok (.iload_n 1, 1) := by decide +kernel
theorem dX7_isRowOf_1 : decode cX7_isRowOf 1 = .ok (.iconst 0, 1) := by decide +kernel
theorem dX7_isRowOf_2 : decode cX7_isRowOf 2 = .ok (.aload_n 0, 1) := by decide +kernel
theorem dX7_isRowOf_3 : decode cX7_isRowOf 3 = .ok (.getfield 7, 3) := by decide +kernel
theorem dX7_isRowOf_6 : decode cX7_isRowOf 6 = .ok (.iconst 0, 1) := by decide +kernel
theorem dX7_isRowOf_7 : decode cX7_isRowOf 7 = .ok (.iaload, 1) := by decide +kernel
theorem dX7_isRowOf_8 : decode cX7_isRowOf 8 = .ok (.iconst 1, 1) := by decide +kernel
theorem dX7_isRowOf_9 : decode cX7_isRowOf 9 = .ok (.isub, 1) := by decide +kernel
theorem dX7_isRowOf_10 : decode cX7_isRowOf 10 = .ok (.invokestatic 69, 3) := by decide +kernel
theorem dX7_isRowOf_13 : decode cX7_isRowOf 13 = .ok (.ireturn, 1) := by decide +kernel
theorem eX7_isRowOf {W : zWd} {a : Int → Int} {T : Int} {r : Int}  {Q : Option Value → zWd → Prop} {X : zX} (ha : W 117 = a) (hw : zWf T a) (hz : zR r) (hq : Q (some (zI (if 0 ≤ r ∧ r < a 0 then 1 else 0))) W) : Ev MX7_isRowOf 1 0 W [.ref 116, zI r] Q X := by
  refine ev_of (ls := [.ref 116, zI r]) (by decide) rfl (fun _ => rfl) (fun _ => Nat.le_of_ble_eq_true rfl) (Or.inl rfl) ?_
  subst ha
  obtain ⟨w0, w0', wW, w1, w2, w2', w3, w3', w4, w4', w5, w5', w6, w6', w7, w7', wS, wP, wT⟩ := id hw
  have wq := zWf.sq hw
  refine rr_iload_n (pc := 0) dX7_isRowOf_0 rfl ?_
  refine rr_iconst (n := 0) dX7_isRowOf_1 ?_
  refine rr_aload_n (pc := 2) dX7_isRowOf_2 rfl ?_
  refine rr_getR (pc := 3) dX7_isRowOf_3 fX7_7 zk_116 zr_116_0 ?_
  refine rr_iconst (n := 0) dX7_isRowOf_6 ?_
  refine rr_iald (pc := 7) dX7_isRowOf_7 zk_117 (by omega) (by omega) ?_
  refine rr_iconst (n := 1) dX7_isRowOf_8 ?_
  refine rr_isub (pc := 9) dX7_isRowOf_9 ?_
  refine rr_sta0 (M' := MX7_isIn) (As := [_, _, _]) (pc := 10) dX7_isRowOf_10 lX7_69 kX7_isIn sX7_isIn (by decide) (by decide) (Nat.le_of_ble_eq_true rfl) rfl (eX7_isIn hz (by unfold zR; omega) (by unfold zR; omega) ?_)
  exact rr_reti (pc := 13) dX7_isRowOf_13 rfl z_nb (by by_cases q : 0 ≤ r ∧ r < W 117 0; rw [if_pos q, if_pos (by omega)]; rw [if_neg q, if_neg (by omega)]) rfl (hq)
