theorem dX0_footingOf_0 : decode cX0_footingOf 0 = .ok (.iconst 1, 1) := by decide +kernel
theorem dX0_footingOf_1 : decode cX0_footingOf 1 = .ok (.aload_n 0, 1) := by decide +kernel
theorem dX0_footingOf_2 : decode cX0_footingOf 2 = .ok (.getfield 9, 3) := by decide +kernel
theorem dX0_footingOf_5 : decode cX0_footingOf 5 = .ok (.iload_n 1, 1) := by decide +kernel
theorem dX0_footingOf_6 : decode cX0_footingOf 6 = .ok (.iconst 1, 1) := by decide +kernel
theorem dX0_footingOf_7 : decode cX0_footingOf 7 = .ok (.iadd, 1) := by decide +kernel
theorem dX0_footingOf_8 : decode cX0_footingOf 8 = .ok (.iaload, 1) := by decide +kernel
theorem dX0_footingOf_9 : decode cX0_footingOf 9 = .ok (.ishl, 1) := by decide +kernel
theorem dX0_footingOf_10 : decode cX0_footingOf 10 = .ok (.iconst 1, 1) := by decide +kernel
theorem dX0_footingOf_11 : decode cX0_footingOf 11 = .ok (.aload_n 0, 1) := by decide +kernel
theorem dX0_footingOf_12 : decode cX0_footingOf 12 = .ok (.getfield 9, 3) := by decide +kernel
theorem dX0_footingOf_15 : decode cX0_footingOf 15 = .ok (.iload_n 1, 1) := by decide +kernel
theorem dX0_footingOf_16 : decode cX0_footingOf 16 = .ok (.iaload, 1) := by decide +kernel
theorem dX0_footingOf_17 : decode cX0_footingOf 17 = .ok (.ishl, 1) := by decide +kernel
theorem dX0_footingOf_18 : decode cX0_footingOf 18 = .ok (.isub, 1) := by decide +kernel
theorem dX0_footingOf_19 : decode cX0_footingOf 19 = .ok (.istore 4, 2) := by decide +kernel
theorem dX0_footingOf_21 : decode cX0_footingOf 21 = .ok (.iload 4, 2) := by decide +kernel
theorem dX0_footingOf_23 : decode cX0_footingOf 23 = .ok (.iload_n 2, 1) := by decide +kernel
theorem dX0_footingOf_24 : decode cX0_footingOf 24 = .ok (.iand, 1) := by decide +kernel
theorem dX0_footingOf_25 : decode cX0_footingOf 25 = .ok (.istore 5, 2) := by decide +kernel
theorem dX0_footingOf_27 : decode cX0_footingOf 27 = .ok (.iload 5, 2) := by decide +kernel
theorem dX0_footingOf_29 : decode cX0_footingOf 29 = .ok (.ifCond .ne 5, 3) := by decide +kernel
theorem dX0_footingOf_32 : decode cX0_footingOf 32 = .ok (.iconst 0, 1) := by decide +kernel
theorem dX0_footingOf_33 : decode cX0_footingOf 33 = .ok (.ireturn, 1) := by decide +kernel
theorem dX0_footingOf_34 : decode cX0_footingOf 34 = .ok (.iload 5, 2) := by decide +kernel
theorem dX0_footingOf_36 : decode cX0_footingOf 36 = .ok (.invokestatic 76, 3) := by decide +kernel
theorem dX0_footingOf_39 : decode cX0_footingOf 39 = .ok (.iconst 2, 1) := by decide +kernel
theorem dX0_footingOf_40 : decode cX0_footingOf 40 = .ok (.if_icmp .eq 10, 3) := by decide +kernel
theorem dX0_footingOf_43 : decode cX0_footingOf 43 = .ok (.iload 5, 2) := by decide +kernel
theorem dX0_footingOf_45 : decode cX0_footingOf 45 = .ok (.iload_n 3, 1) := by decide +kernel
theorem dX0_footingOf_46 : decode cX0_footingOf 46 = .ok (.iand, 1) := by decide +kernel
theorem dX0_footingOf_47 : decode cX0_footingOf 47 = .ok (.ifCond .eq 7, 3) := by decide +kernel
theorem dX0_footingOf_50 : decode cX0_footingOf 50 = .ok (.iconst 2, 1) := by decide +kernel
theorem dX0_footingOf_51 : decode cX0_footingOf 51 = .ok (.goto 4, 3) := by decide +kernel
theorem dX0_footingOf_54 : decode cX0_footingOf 54 = .ok (.iconst 1, 1) := by decide +kernel
theorem dX0_footingOf_55 : decode cX0_footingOf 55 = .ok (.ireturn, 1) := by decide +kernel
theorem eX0_footingOf {c : Nat} {W : zWd} {a : Int → Int} {T : Int} {r : Int} {u o : Nat} {Q : Option Value → zWd → Prop} {X : zX} (hc : zCt c) (hR : zCR W c a) (hw : zWf T a) (h0 : 0 ≤ r) (h1 : r < a 0) (hu : u < 2097152) (ho : o < 2097152) (hq : Q (some (zI (zFo (aF a r.toNat).toNat (a (8 + r)) (fun i => u.testBit i) (fun i => o.testBit i)))) W) : Ev MX0_footingOf 1 0 W [.ref c, zI r, zI (u : Int), zI (o : Int)] Q X := by
  refine ev_of (ls := [.ref c, zI r, zI (u : Int), zI (o : Int), .null, .null]) (by decide) rfl (fun _ => rfl) (fun _ => Nat.le_of_ble_eq_true rfl) (Or.inl rfl) ?_
  obtain ⟨r0, r1, r2, r3, r4, r5, r6, r7, rF, rS, rP, rB⟩ := id hR
  obtain ⟨w0, w0', wW, w1, w2, w2', w3, w3', w4, w4', w5, w5', w6, w6', w7, w7', wS, wP, wT⟩ := id hw
  have wq := zWf.sq hw
  have e0 : W (c + 1) r = aF a r.toNat := by
    have h9 := rF r.toNat (by omega) (by omega)
    rw [show ((r.toNat : Nat) : Int) = r by omega] at h9; exact h9
  have e1 : W (c + 1) (r + 1) = aF a (r.toNat + 1) := by
    have h9 := rF (r.toNat + 1) (by omega) (by omega)
    rw [show ((r.toNat + 1 : Nat) : Int) = r + 1 by omega] at h9; exact h9
  have hf := aF_lo hw (r := r.toNat) (by omega)
  have hf1 := aF_lo hw (r := r.toNat + 1) (by omega)
  have hf2 := aF_le hw (r := r.toNat + 1) (by omega)
  have hst := aF_step (a := a) r.toNat
  rw [show ((r.toNat : Nat) : Int) = r by omega] at hst
  have hww := wW r h0 h1
  have hs := zFo_spec (f := (aF a r.toNat).toNat) (u := u) (o := o) hww (by omega) (by omega)
  refine rr_iconst (n := 1) dX0_footingOf_0 ?_
  refine rr_aload_n (pc := 1) dX0_footingOf_1 rfl ?_
  refine rr_getR (pc := 2) dX0_footingOf_2 fX0_9 hc.k hc.r8 ?_
  refine rr_iload_n (pc := 5) dX0_footingOf_5 rfl ?_
  refine rr_iconst (n := 1) dX0_footingOf_6 ?_
  refine rr_iadd (pc := 7) dX0_footingOf_7 ?_
  refine rr_iald (pc := 8) dX0_footingOf_8 hc.a1 (by omega) (by omega) ?_
  rw [e1]
  refine rr_ishl1 (pc := 9) dX0_footingOf_9 (by omega) (by omega) ?_
  refine rr_iconst (n := 1) dX0_footingOf_10 ?_
  refine rr_aload_n (pc := 11) dX0_footingOf_11 rfl ?_
  refine rr_getR (pc := 12) dX0_footingOf_12 fX0_9 hc.k hc.r8 ?_
  refine rr_iload_n (pc := 15) dX0_footingOf_15 rfl ?_
  refine rr_iald (pc := 16) dX0_footingOf_16 hc.a1 (by omega) (by omega) ?_
  rw [e0]
  refine rr_ishl1 (pc := 17) dX0_footingOf_17 (by omega) (by omega) ?_
  refine rr_isub (pc := 18) dX0_footingOf_18 ?_
  rw [show aF a (r.toNat + 1) = ((aF a r.toNat).toNat : Int) + a (8 + r) by rw [aF_step, show ((r.toNat : Nat) : Int) = r by omega]; omega, zRow_sub (by omega) (by omega)]
  refine rr_istore (pc := 19) dX0_footingOf_19 (by decide) ?_
  refine rr_iload (pc := 21) dX0_footingOf_21 rfl ?_
  refine rr_iload_n (pc := 23) dX0_footingOf_23 rfl ?_
  refine rr_iand (pc := 24) (m := zRow (aF a r.toNat).toNat (a (8 + r))) (n := u) dX0_footingOf_24 (Nat.lt_trans (zRow_lt (by omega)) (by decide)) (by omega) ?_
  have hx : zRow (aF a r.toNat).toNat (a (8 + r)) &&& u < 2097152 := Nat.lt_of_le_of_lt Nat.and_le_right hu
  generalize hX : zRow (aF a r.toNat).toNat (a (8 + r)) &&& u = x at hx hs ⊢
  refine rr_istore (pc := 25) dX0_footingOf_25 (by decide) ?_
  refine rr_iload (pc := 27) dX0_footingOf_27 rfl ?_
  refine rr_if_ne (pc := 29) (tgt := 34) dX0_footingOf_29 (by decide) (by unfold zR; omega) (fun h29 => ?_) (fun h29 => ?_)
  · refine rr_iload (pc := 34) dX0_footingOf_34 rfl ?_
    refine rr_sta0 (M' := MJ6_bitCount_0f7a4) (As := [_]) (pc := 36) dX0_footingOf_36 lX0_76 kJ6_bitCount_0f7a4 sJ6_bitCount_0f7a4 (by decide) (by decide) (Nat.le_of_ble_eq_true rfl) rfl (eJ6_bitCount hx ?_)
    have hpc : zPc x ≤ 63 := Nat.and_le_right
    refine rr_iconst (n := 2) dX0_footingOf_39 ?_
    refine rr_icmp_eq (pc := 40) (tgt := 50) dX0_footingOf_40 (by decide) (by unfold zR; omega) (by unfold zR; omega) (fun h40 => ?_) (fun h40 => ?_)
    · refine rr_iconst (n := 2) dX0_footingOf_50 ?_
      refine rr_goto (pc := 51) (tgt := 55) dX0_footingOf_51 (by decide) ?_
      exact rr_reti (pc := 55) dX0_footingOf_55 rfl rfl (by rw [hs, if_neg (by omega)]; first | rw [if_pos (Or.inl (by omega))] | rw [if_pos (Or.inr (by omega))] | rw [if_neg (by omega)]) rfl (hq)
    · refine rr_iload (pc := 43) dX0_footingOf_43 rfl ?_
      refine rr_iload_n (pc := 45) dX0_footingOf_45 rfl ?_
      have hxo : x &&& o < 2097152 := Nat.lt_of_le_of_lt Nat.and_le_left hx
      refine rr_iand (pc := 46) dX0_footingOf_46 (by omega) (by omega) ?_
      refine rr_if_eq (pc := 47) (tgt := 54) dX0_footingOf_47 (by decide) (by unfold zR; omega) (fun h47 => ?_) (fun h47 => ?_)
      · refine rr_iconst (n := 1) dX0_footingOf_54 ?_
        exact rr_reti (pc := 55) dX0_footingOf_55 rfl rfl (by rw [hs, if_neg (by omega)]; first | rw [if_pos (Or.inl (by omega))] | rw [if_pos (Or.inr (by omega))] | rw [if_neg (by omega)]) rfl (hq)
      · refine rr_iconst (n := 2) dX0_footingOf_50 ?_
        refine rr_goto (pc := 51) (tgt := 55) dX0_footingOf_51 (by decide) ?_
        exact rr_reti (pc := 55) dX0_footingOf_55 rfl rfl (by rw [hs, if_neg (by omega)]; first | rw [if_pos (Or.inl (by omega))] | rw [if_pos (Or.inr (by omega))] | rw [if_neg (by omega)]) rfl (hq)
  · refine rr_iconst (n := 0) dX0_footingOf_32 ?_
    exact rr_reti (pc := 33) dX0_footingOf_33 rfl rfl (by rw [hs, if_pos (by omega)]) rfl (hq)
theorem dX0_firstAllowed_0 : decode cX0_firstAllowed 0 = .ok (.iload_n 2, 1) := by decide +kernel
theorem dX0_firstAllowed_1 : decode cX0_firstAllowed 1 = .ok (.istore_n 3, 1) := by decide +kernel
theorem dX0_firstAllowed_2 : decode cX0_firstAllowed 2 = .ok (.iload_n 3, 1) := by decide +kernel
theorem dX0_firstAllowed_3 : decode cX0_firstAllowed 3 = .ok (.aload_n 0, 1) := by decide +kernel
theorem dX0_firstAllowed_4 : decode cX0_firstAllowed 4 = .ok (.getfield 41, 3) := by decide +kernel
theorem dX0_firstAllowed_7 : decode cX0_firstAllowed 7 = .ok (.if_icmp .gt 20, 3) := by decide +kernel
theorem dX0_firstAllowed_10 : decode cX0_firstAllowed 10 = .ok (.aload_n 0, 1) := by decide +kernel
theorem dX0_firstAllowed_11 : decode cX0_firstAllowed 11 = .ok (.iload_n 1, 1) := by decide +kernel
theorem dX0_firstAllowed_12 : decode cX0_firstAllowed 12 = .ok (.iload_n 3, 1) := by decide +kernel
theorem dX0_firstAllowed_13 : decode cX0_firstAllowed 13 = .ok (.invokevirtual 85, 3) := by decide +kernel
theorem dX0_firstAllowed_16 : decode cX0_firstAllowed 16 = .ok (.ifCond .ne 5, 3) := by decide +kernel
theorem dX0_firstAllowed_19 : decode cX0_firstAllowed 19 = .ok (.iload_n 3, 1) := by decide +kernel
theorem dX0_firstAllowed_20 : decode cX0_firstAllowed 20 = .ok (.ireturn, 1) := by decide +kernel
theorem dX0_firstAllowed_21 : decode cX0_firstAllowed 21 = .ok (.iinc 3 1, 3) := by decide +kernel
theorem dX0_firstAllowed_24 : decode cX0_firstAllowed 24 = .ok (.goto (-22), 3) := by decide +kernel
theorem dX0_firstAllowed_27 : decode cX0_firstAllowed 27 = .ok (.iconst 0, 1) := by decide +kernel
theorem dX0_firstAllowed_28 : decode cX0_firstAllowed 28 = .ok (.ireturn, 1) := by decide +kernel
theorem eX0_firstAllowed {c : Nat} {W : zWd} {a : Int → Int} {T : Int} {q s : Int} {Q : Option Value → zWd → Prop} {X : zX} (hc : zCt c) (hR : zCR W c a) (hw : zWf T a) (h0 : 1 ≤ s) (hs1 : s ≤ a 1 + 1) (hq0 : zR q) (hq : Q (some (zI (aOpen a q s))) W) : Ev MX0_firstAllowed 1 0 W [.ref c, zI q, zI s] Q X := by
  refine ev_of (ls := [.ref c, zI q, zI s, .null]) (by decide) rfl (fun _ => rfl) (fun _ => Nat.le_of_ble_eq_true rfl) (Or.inl rfl) ?_
  obtain ⟨r0, r1, r2, r3, r4, r5, r6, r7, rF, rS, rP, rB⟩ := id hR
  obtain ⟨w0, w0', wW, w1, w2, w2', w3, w3', w4, w4', w5, w5', w6, w6', w7, w7', wS, wP, wT⟩ := id hw
  have wq := zWf.sq hw
  have loop : ∀ (n : Nat) (i : Int), s ≤ i → i ≤ a 1 + 1 → aOpen a q s = aOpen a q i → (a 1 + 1 - i).toNat < n → RR MX0_firstAllowed 1 0 W 2 [.ref c, zI q, zI s, zI i] [] (zEnd MX0_firstAllowed Q X) X := by
    intro n
    induction n with
    | zero => intro i _ _ _ hm9; omega
    | succ n ih =>
      intro i h1 h2 h3 hm9
      refine rr_iload_n (pc := 2) dX0_firstAllowed_2 rfl ?_
      refine rr_aload_n (pc := 3) dX0_firstAllowed_3 rfl ?_
      refine rr_getI (pc := 4) (ji := 1) dX0_firstAllowed_4 fX0_41 hc.k hc.i1 rfl ?_
      refine rr_icmp_gt (pc := 7) (tgt := 27) dX0_firstAllowed_7 (by decide) (by unfold zR; omega) (by unfold zR; omega) (fun h7 => ?_) (fun h7 => ?_)
      · refine rr_iconst (n := 0) dX0_firstAllowed_27 ?_
        exact rr_reti (pc := 28) dX0_firstAllowed_28 rfl rfl (by rw [h3, aOpen_end (by omega)]) rfl (hq)
      · refine rr_aload_n (pc := 10) dX0_firstAllowed_10 rfl ?_
        refine rr_iload_n (pc := 11) dX0_firstAllowed_11 rfl ?_
        refine rr_iload_n (pc := 12) dX0_firstAllowed_12 rfl ?_
        refine rr_inv0 (M' := MX0_isForbidden) (k := c) (As := [_, _]) (pc := 13) dX0_firstAllowed_13 lX0_85 kX0_isForbidden vX0_isForbidden hc.k (by decide) rfl (by decide) (by decide) (Nat.le_of_ble_eq_true rfl) rfl (eX0_isForbidden hc hR hw (by omega) (by omega) hq0 ?_)
        refine rr_if_ne (pc := 16) (tgt := 21) dX0_firstAllowed_16 (by decide) (by split <;> (unfold zR; omega)) (fun h16 => ?_) (fun h16 => ?_)
        · refine rr_iinc (pc := 21) dX0_firstAllowed_21 rfl (by decide) ?_
          refine rr_goto (pc := 24) (tgt := 2) dX0_firstAllowed_24 (by decide) ?_
          rw [aOpen_step (show i ≤ a 1 by omega)] at h3
          have hfo : aForb a q i := by by_cases z : aForb a q i; exact z; rw [if_neg z] at h16; exact absurd rfl h16
          rw [if_pos hfo] at h3
          exact ih (i + 1) (by omega) (by omega) h3 (by omega)
        · refine rr_iload_n (pc := 19) dX0_firstAllowed_19 rfl ?_
          exact rr_reti (pc := 20) dX0_firstAllowed_20 rfl rfl (by rw [h3, aOpen_step (show i ≤ a 1 by omega)]; split at h16 <;> first | (rw [if_neg (by assumption)]) | exact absurd h16 (by decide)) rfl (hq)
  refine rr_iload_n (pc := 0) dX0_firstAllowed_0 rfl ?_
  refine rr_istore_n (pc := 1) dX0_firstAllowed_1 (by decide) ?_
  exact loop _ s (by omega) (by omega) rfl (Nat.lt_succ_self _)
theorem dX0_leastPower_0 : decode cX0_leastPower 0 = .ok (.iconst 0, 1) := by decide +kernel
theorem dX0_leastPower_1 : decode cX0_leastPower 1 = .ok (.bipush 10, 2) := by decide +kernel
theorem dX0_leastPower_3 : decode cX0_leastPower 3 = .ok (.aload_n 0, 1) := by decide +kernel
theorem dX0_leastPower_4 : decode cX0_leastPower 4 = .ok (.getfield 15, 3) := by decide +kernel
theorem dX0_leastPower_7 : decode cX0_leastPower 7 = .ok (.iload_n 1, 1) := by decide +kernel
theorem dX0_leastPower_8 : decode cX0_leastPower 8 = .ok (.iaload, 1) := by decide +kernel
theorem dX0_leastPower_9 : decode cX0_leastPower 9 = .ok (.imul, 1) := by decide +kernel
theorem dX0_leastPower_10 : decode cX0_leastPower 10 = .ok (.iconst 1, 1) := by decide +kernel
theorem dX0_leastPower_11 : decode cX0_leastPower 11 = .ok (.iadd, 1) := by decide +kernel
theorem dX0_leastPower_12 : decode cX0_leastPower 12 = .ok (.aload_n 0, 1) := by decide +kernel
theorem dX0_leastPower_13 : decode cX0_leastPower 13 = .ok (.getfield 47, 3) := by decide +kernel
theorem dX0_leastPower_16 : decode cX0_leastPower 16 = .ok (.isub, 1) := by decide +kernel
theorem dX0_leastPower_17 : decode cX0_leastPower 17 = .ok (.invokestatic 95, 3) := by decide +kernel
theorem dX0_leastPower_20 : decode cX0_leastPower 20 = .ok (.ireturn, 1) := by decide +kernel
theorem eX0_leastPower {c : Nat} {W : zWd} {a : Int → Int} {T : Int} {s : Int} {Q : Option Value → zWd → Prop} {X : zX} (hc : zCt c) (hR : zCR W c a) (hw : zWf T a) (h0 : 1 ≤ s) (h1 : s ≤ a 1) (hq : Q (some (zI (if 0 < 10 * (aR a s : Int) + 1 - a 3 then 10 * (aR a s : Int) + 1 - a 3 else 0))) W) : Ev MX0_leastPower 1 0 W [.ref c, zI s] Q X := by
  refine ev_of (ls := [.ref c, zI s]) (by decide) rfl (fun _ => rfl) (fun _ => Nat.le_of_ble_eq_true rfl) (Or.inl rfl) ?_
  obtain ⟨r0, r1, r2, r3, r4, r5, r6, r7, rF, rS, rP, rB⟩ := id hR
  obtain ⟨w0, w0', wW, w1, w2, w2', w3, w3', w4, w4', w5, w5', w6, w6', w7, w7', wS, wP, wT⟩ := id hw
  have wq := zWf.sq hw
  have hr := aR_spec hw h0 h1
  have hs1 := (rS s h0 (by omega) h1).1
  refine rr_iconst (n := 0) dX0_leastPower_0 ?_
  refine rr_bipush (n := (10)) dX0_leastPower_1 ?_
  refine rr_aload_n (pc := 3) dX0_leastPower_3 rfl ?_
  refine rr_getR (pc := 4) dX0_leastPower_4 fX0_15 hc.k hc.r9 ?_
  refine rr_iload_n (pc := 7) dX0_leastPower_7 rfl ?_
  refine rr_iald (pc := 8) dX0_leastPower_8 hc.a2 (by omega) (by omega) ?_
  rw [hs1]
  refine rr_imul (pc := 9) dX0_leastPower_9 ?_
  refine rr_iconst (n := 1) dX0_leastPower_10 ?_
  refine rr_iadd (pc := 11) dX0_leastPower_11 ?_
  refine rr_aload_n (pc := 12) dX0_leastPower_12 rfl ?_
  refine rr_getI (pc := 13) (ji := 3) dX0_leastPower_13 fX0_47 hc.k hc.i3 rfl ?_
  rw [r3]
  refine rr_isub (pc := 16) dX0_leastPower_16 ?_
  refine rr_max (pc := 17) dX0_leastPower_17 lX0_95 z_mmax (by unfold zR; omega) (by unfold zR; omega) (by decide) (Nat.le_of_ble_eq_true rfl) ?_
  exact rr_reti (pc := 20) dX0_leastPower_20 rfl rfl rfl rfl (hq)
theorem dX0_faultOfThrow_0 : decode cX0_faultOfThrow 0 = .ok (.iload_n 2, 1) := by decide +kernel
theorem dX0_faultOfThrow_1 : decode cX0_faultOfThrow 1 = .ok (.aload_n 0, 1) := by decide +kernel
theorem dX0_faultOfThrow_2 : decode cX0_faultOfThrow 2 = .ok (.getfield 47, 3) := by decide +kernel
theorem dX0_faultOfThrow_5 : decode cX0_faultOfThrow 5 = .ok (.iadd, 1) := by decide +kernel
theorem dX0_faultOfThrow_6 : decode cX0_faultOfThrow 6 = .ok (.istore 4, 2) := by decide +kernel
theorem dX0_faultOfThrow_8 : decode cX0_faultOfThrow 8 = .ok (.iload 4, 2) := by decide +kernel
theorem dX0_faultOfThrow_10 : decode cX0_faultOfThrow 10 = .ok (.bipush 10, 2) := by decide +kernel
theorem dX0_faultOfThrow_12 : decode cX0_faultOfThrow 12 = .ok (.idiv, 1) := by decide +kernel
theorem dX0_faultOfThrow_13 : decode cX0_faultOfThrow 13 = .ok (.istore 5, 2) := by decide +kernel
theorem dX0_faultOfThrow_15 : decode cX0_faultOfThrow 15 = .ok (.iload 4, 2) := by decide +kernel
theorem dX0_faultOfThrow_17 : decode cX0_faultOfThrow 17 = .ok (.ifCond .lt 12, 3) := by decide +kernel
theorem dX0_faultOfThrow_20 : decode cX0_faultOfThrow 20 = .ok (.iload 5, 2) := by decide +kernel
theorem dX0_faultOfThrow_22 : decode cX0_faultOfThrow 22 = .ok (.aload_n 0, 1) := by decide +kernel
theorem dX0_faultOfThrow_23 : decode cX0_faultOfThrow 23 = .ok (.getfield 37, 3) := by decide +kernel
theorem dX0_faultOfThrow_26 : decode cX0_faultOfThrow 26 = .ok (.if_icmp .lt 5, 3) := by decide +kernel
theorem dX0_faultOfThrow_29 : decode cX0_faultOfThrow 29 = .ok (.iconst 1, 1) := by decide +kernel
theorem dX0_faultOfThrow_30 : decode cX0_faultOfThrow 30 = .ok (.ireturn, 1) := by decide +kernel
theorem dX0_faultOfThrow_31 : decode cX0_faultOfThrow 31 = .ok (.iload 4, 2) := by decide +kernel
theorem dX0_faultOfThrow_33 : decode cX0_faultOfThrow 33 = .ok (.bipush 10, 2) := by decide +kernel
theorem dX0_faultOfThrow_35 : decode cX0_faultOfThrow 35 = .ok (.irem, 1) := by decide +kernel
theorem dX0_faultOfThrow_36 : decode cX0_faultOfThrow 36 = .ok (.ifCond .ne 5, 3) := by decide +kernel
theorem dX0_faultOfThrow_39 : decode cX0_faultOfThrow 39 = .ok (.iconst 2, 1) := by decide +kernel
theorem dX0_faultOfThrow_40 : decode cX0_faultOfThrow 40 = .ok (.ireturn, 1) := by decide +kernel
theorem dX0_faultOfThrow_41 : decode cX0_faultOfThrow 41 = .ok (.aload_n 0, 1) := by decide +kernel
theorem dX0_faultOfThrow_42 : decode cX0_faultOfThrow 42 = .ok (.getfield 9, 3) := by decide +kernel
theorem dX0_faultOfThrow_45 : decode cX0_faultOfThrow 45 = .ok (.iload 5, 2) := by decide +kernel
theorem dX0_faultOfThrow_47 : decode cX0_faultOfThrow 47 = .ok (.iaload, 1) := by decide +kernel
theorem dX0_faultOfThrow_48 : decode cX0_faultOfThrow 48 = .ok (.aload_n 0, 1) := by decide +kernel
theorem dX0_faultOfThrow_49 : decode cX0_faultOfThrow 49 = .ok (.iload 5, 2) := by decide +kernel
theorem dX0_faultOfThrow_51 : decode cX0_faultOfThrow 51 = .ok (.invokevirtual 92, 3) := by decide +kernel
theorem dX0_faultOfThrow_54 : decode cX0_faultOfThrow 54 = .ok (.iconst 2, 1) := by decide +kernel
theorem dX0_faultOfThrow_55 : decode cX0_faultOfThrow 55 = .ok (.if_icmp .ne 7, 3) := by decide +kernel
theorem dX0_faultOfThrow_58 : decode cX0_faultOfThrow 58 = .ok (.iload_n 3, 1) := by decide +kernel
theorem dX0_faultOfThrow_59 : decode cX0_faultOfThrow 59 = .ok (.goto 4, 3) := by decide +kernel
theorem dX0_faultOfThrow_62 : decode cX0_faultOfThrow 62 = .ok (.iconst 0, 1) := by decide +kernel
theorem dX0_faultOfThrow_63 : decode cX0_faultOfThrow 63 = .ok (.iadd, 1) := by decide +kernel
theorem dX0_faultOfThrow_64 : decode cX0_faultOfThrow 64 = .ok (.istore 6, 2) := by decide +kernel
theorem dX0_faultOfThrow_66 : decode cX0_faultOfThrow 66 = .ok (.iload 6, 2) := by decide +kernel
theorem dX0_faultOfThrow_68 : decode cX0_faultOfThrow 68 = .ok (.aload_n 0, 1) := by decide +kernel
theorem dX0_faultOfThrow_69 : decode cX0_faultOfThrow 69 = .ok (.iload_n 1, 1) := by decide +kernel
theorem dX0_faultOfThrow_70 : decode cX0_faultOfThrow 70 = .ok (.iconst 2, 1) := by decide +kernel
theorem dX0_faultOfThrow_71 : decode cX0_faultOfThrow 71 = .ok (.invokevirtual 81, 3) := by decide +kernel
theorem dX0_faultOfThrow_74 : decode cX0_faultOfThrow 74 = .ok (.if_icmp .ne 7, 3) := by decide +kernel
theorem dX0_faultOfThrow_77 : decode cX0_faultOfThrow 77 = .ok (.iconst 0, 1) := by decide +kernel
theorem dX0_faultOfThrow_78 : decode cX0_faultOfThrow 78 = .ok (.goto 4, 3) := by decide +kernel
theorem dX0_faultOfThrow_81 : decode cX0_faultOfThrow 81 = .ok (.iconst 3, 1) := by decide +kernel
theorem dX0_faultOfThrow_82 : decode cX0_faultOfThrow 82 = .ok (.ireturn, 1) := by decide +kernel
theorem eX0_faultOfThrow {c : Nat} {W : zWd} {a : Int → Int} {T : Int} {q pw sd : Int} {Q : Option Value → zWd → Prop} {X : zX} (hc : zCt c) (hR : zCR W c a) (hw : zWf T a) (hq1 : 0 ≤ q) (hq2 : q < a 2) (hp0 : 0 ≤ pw) (hp1 : pw ≤ 199) (hd0 : 0 ≤ sd) (hd1 : sd ≤ 1) (hq : Q (some (zI (aFault a q pw sd))) W) : Ev MX0_faultOfThrow 1 0 W [.ref c, zI q, zI pw, zI sd] Q X := by
  refine ev_of (ls := [.ref c, zI q, zI pw, zI sd, .null, .null, .null]) (by decide) rfl (fun _ => rfl) (fun _ => Nat.le_of_ble_eq_true rfl) (Or.inl rfl) ?_
  obtain ⟨r0, r1, r2, r3, r4, r5, r6, r7, rF, rS, rP, rB⟩ := id hR
  obtain ⟨w0, w0', wW, w1, w2, w2', w3, w3', w4, w4', w5, w5', w6, w6', w7, w7', wS, wP, wT⟩ := id hw
  have wq := zWf.sq hw
  refine rr_iload_n (pc := 0) dX0_faultOfThrow_0 rfl ?_
  refine rr_aload_n (pc := 1) dX0_faultOfThrow_1 rfl ?_
  refine rr_getI (pc := 2) (ji := 3) dX0_faultOfThrow_2 fX0_47 hc.k hc.i3 rfl ?_
  rw [r3]
  refine rr_iadd (pc := 5) dX0_faultOfThrow_5 ?_
  refine rr_istore (pc := 6) dX0_faultOfThrow_6 (by decide) ?_
  refine rr_iload (pc := 8) dX0_faultOfThrow_8 rfl ?_
  refine rr_bipush (n := (10)) dX0_faultOfThrow_10 ?_
  by_cases hneg : pw + a 3 < 0
  · refine rr_idivx (pc := 12) dX0_faultOfThrow_12 (by decide) (by unfold zR; omega) (fun z hz => ?_)
    refine rr_istore (pc := 13) dX0_faultOfThrow_13 (by decide) ?_
    refine rr_iload (pc := 15) dX0_faultOfThrow_15 rfl ?_
    refine rr_if_lt (pc := 17) (tgt := 29) dX0_faultOfThrow_17 (by decide) (by unfold zR; omega) (fun h17 => ?_) (fun h17 => ?_)
    · refine rr_iconst (n := 1) dX0_faultOfThrow_29 ?_
      exact rr_reti (pc := 30) dX0_faultOfThrow_30 rfl rfl (by unfold aFault; rw [if_pos (Or.inl hneg)]) rfl hq
    · omega
  refine rr_idiv (pc := 12) dX0_faultOfThrow_12 (by omega) (by omega) (by omega) (by omega) ?_
  refine rr_istore (pc := 13) dX0_faultOfThrow_13 (by decide) ?_
  refine rr_iload (pc := 15) dX0_faultOfThrow_15 rfl ?_
  refine rr_if_lt (pc := 17) (tgt := 29) dX0_faultOfThrow_17 (by decide) (by unfold zR; omega) (fun h17 => ?_) (fun h17 => ?_)
  · omega
  · refine rr_iload (pc := 20) dX0_faultOfThrow_20 rfl ?_
    refine rr_aload_n (pc := 22) dX0_faultOfThrow_22 rfl ?_
    refine rr_getI (pc := 23) (ji := 0) dX0_faultOfThrow_23 fX0_37 hc.k hc.i0 rfl ?_
    rw [r0]
    refine rr_icmp_lt (pc := 26) (tgt := 31) dX0_faultOfThrow_26 (by decide) (by unfold zR; omega) (by unfold zR; omega) (fun h26 => ?_) (fun h26 => ?_)
    · refine rr_iload (pc := 31) dX0_faultOfThrow_31 rfl ?_
      refine rr_bipush (n := (10)) dX0_faultOfThrow_33 ?_
      refine rr_irem (pc := 35) dX0_faultOfThrow_35 (by omega) (by omega) (by omega) (by omega) ?_
      refine rr_if_ne (pc := 36) (tgt := 41) dX0_faultOfThrow_36 (by decide) (by unfold zR; omega) (fun h36 => ?_) (fun h36 => ?_)
      · have hdiv : 0 ≤ (pw + a 3) / 10 ∧ (pw + a 3) / 10 < a 0 := by omega
        have e0 : W (c + 1) ((pw + a 3) / 10) = aF a ((pw + a 3) / 10).toNat := by
          have h9 := rF ((pw + a 3) / 10).toNat (by omega) (by omega)
          rw [show ((((pw + a 3) / 10).toNat : Nat) : Int) = (pw + a 3) / 10 by omega] at h9; exact h9
        have e1 : W (c + 1) ((pw + a 3) / 10 + 1) = aF a ((pw + a 3) / 10).toNat + a (8 + (pw + a 3) / 10) := by
          have h9 := rF (((pw + a 3) / 10).toNat + 1) (by omega) (by omega)
          rw [show ((((pw + a 3) / 10).toNat + 1 : Nat) : Int) = (pw + a 3) / 10 + 1 by omega, aF_step, show ((((pw + a 3) / 10).toNat : Nat) : Int) = (pw + a 3) / 10 by omega] at h9; exact h9
        have hf := aF_lo hw (r := ((pw + a 3) / 10).toNat) (by omega)
        have hww := wW _ hdiv.1 hdiv.2
        refine rr_aload_n (pc := 41) dX0_faultOfThrow_41 rfl ?_
        refine rr_getR (pc := 42) dX0_faultOfThrow_42 fX0_9 hc.k hc.r8 ?_
        refine rr_iload (pc := 45) dX0_faultOfThrow_45 rfl ?_
        refine rr_iald (pc := 47) dX0_faultOfThrow_47 hc.a1 (by omega) (by omega) ?_
        rw [e0]
        refine rr_aload_n (pc := 48) dX0_faultOfThrow_48 rfl ?_
        refine rr_iload (pc := 49) dX0_faultOfThrow_49 rfl ?_
        refine rr_inv0 (M' := MX0_widthOf) (k := c) (As := [_]) (pc := 51) dX0_faultOfThrow_51 lX0_92 kX0_widthOf vX0_widthOf hc.k (by decide) rfl (by decide) (by decide) (Nat.le_of_ble_eq_true rfl) rfl (eX0_widthOf hc (by omega) (by omega) ?_)
        rw [e1, e0]
        refine rr_iconst (n := 2) dX0_faultOfThrow_54 ?_
        refine rr_icmp_ne (pc := 55) (tgt := 62) dX0_faultOfThrow_55 (by decide) (by unfold zR; omega) (by unfold zR; omega) (fun h55 => ?_) (fun h55 => ?_)
        · refine rr_iconst (n := 0) dX0_faultOfThrow_62 ?_
          refine rr_iadd (pc := 63) dX0_faultOfThrow_63 ?_
          refine rr_istore (pc := 64) dX0_faultOfThrow_64 (by decide) ?_
          refine rr_iload (pc := 66) dX0_faultOfThrow_66 rfl ?_
          refine rr_aload_n (pc := 68) dX0_faultOfThrow_68 rfl ?_
          refine rr_iload_n (pc := 69) dX0_faultOfThrow_69 rfl ?_
          refine rr_iconst (n := 2) dX0_faultOfThrow_70 ?_
          refine rr_inv0 (M' := MX0_get) (k := c) (As := [_, _]) (pc := 71) dX0_faultOfThrow_71 lX0_81 kX0_get vX0_get hc.k (by decide) rfl (by decide) (by decide) (Nat.le_of_ble_eq_true rfl) rfl (eX0_get hc (by omega) (by omega) (by omega) (by omega) ?_)
          have hm := (rP q hq1 hq2).2.2.1
          have hm2 := wP q hq1 hq2
          unfold zWfP at hm2
          rw [hm]
          refine rr_icmp_ne (pc := 74) (tgt := 81) dX0_faultOfThrow_74 (by decide) (by unfold zR; omega) (by unfold zR; omega) (fun h74 => ?_) (fun h74 => ?_)
          · refine rr_iconst (n := 3) dX0_faultOfThrow_81 ?_
            exact rr_reti (pc := 82) dX0_faultOfThrow_82 rfl rfl (by unfold aFault; rw [if_neg (by omega), if_neg (by omega)]; first | (rw [if_pos (show a (8 + (pw + a 3) / 10) = 2 by omega), if_pos (by omega)]) | (rw [if_pos (show a (8 + (pw + a 3) / 10) = 2 by omega), if_neg (by omega)]) | (rw [if_neg (show ¬ a (8 + (pw + a 3) / 10) = 2 by omega), if_pos (by omega)]) | (rw [if_neg (show ¬ a (8 + (pw + a 3) / 10) = 2 by omega), if_neg (by omega)])) rfl (hq)
          · refine rr_iconst (n := 0) dX0_faultOfThrow_77 ?_
            refine rr_goto (pc := 78) (tgt := 82) dX0_faultOfThrow_78 (by decide) ?_
            exact rr_reti (pc := 82) dX0_faultOfThrow_82 rfl rfl (by unfold aFault; rw [if_neg (by omega), if_neg (by omega)]; first | (rw [if_pos (show a (8 + (pw + a 3) / 10) = 2 by omega), if_pos (by omega)]) | (rw [if_pos (show a (8 + (pw + a 3) / 10) = 2 by omega), if_neg (by omega)]) | (rw [if_neg (show ¬ a (8 + (pw + a 3) / 10) = 2 by omega), if_pos (by omega)]) | (rw [if_neg (show ¬ a (8 + (pw + a 3) / 10) = 2 by omega), if_neg (by omega)])) rfl (hq)
        · refine rr_iload_n (pc := 58) dX0_faultOfThrow_58 rfl ?_
          refine rr_goto (pc := 59) (tgt := 63) dX0_faultOfThrow_59 (by decide) ?_
          refine rr_iadd (pc := 63) dX0_faultOfThrow_63 ?_
          refine rr_istore (pc := 64) dX0_faultOfThrow_64 (by decide) ?_
          refine rr_iload (pc := 66) dX0_faultOfThrow_66 rfl ?_
          refine rr_aload_n (pc := 68) dX0_faultOfThrow_68 rfl ?_
          refine rr_iload_n (pc := 69) dX0_faultOfThrow_69 rfl ?_
          refine rr_iconst (n := 2) dX0_faultOfThrow_70 ?_
          refine rr_inv0 (M' := MX0_get) (k := c) (As := [_, _]) (pc := 71) dX0_faultOfThrow_71 lX0_81 kX0_get vX0_get hc.k (by decide) rfl (by decide) (by decide) (Nat.le_of_ble_eq_true rfl) rfl (eX0_get hc (by omega) (by omega) (by omega) (by omega) ?_)
          have hm := (rP q hq1 hq2).2.2.1
          have hm2 := wP q hq1 hq2
          unfold zWfP at hm2
          rw [hm]
          refine rr_icmp_ne (pc := 74) (tgt := 81) dX0_faultOfThrow_74 (by decide) (by unfold zR; omega) (by unfold zR; omega) (fun h74 => ?_) (fun h74 => ?_)
          · refine rr_iconst (n := 3) dX0_faultOfThrow_81 ?_
            exact rr_reti (pc := 82) dX0_faultOfThrow_82 rfl rfl (by unfold aFault; rw [if_neg (by omega), if_neg (by omega)]; first | (rw [if_pos (show a (8 + (pw + a 3) / 10) = 2 by omega), if_pos (by omega)]) | (rw [if_pos (show a (8 + (pw + a 3) / 10) = 2 by omega), if_neg (by omega)]) | (rw [if_neg (show ¬ a (8 + (pw + a 3) / 10) = 2 by omega), if_pos (by omega)]) | (rw [if_neg (show ¬ a (8 + (pw + a 3) / 10) = 2 by omega), if_neg (by omega)])) rfl (hq)
          · refine rr_iconst (n := 0) dX0_faultOfThrow_77 ?_
            refine rr_goto (pc := 78) (tgt := 82) dX0_faultOfThrow_78 (by decide) ?_
            exact rr_reti (pc := 82) dX0_faultOfThrow_82 rfl rfl (by unfold aFault; rw [if_neg (by omega), if_neg (by omega)]; first | (rw [if_pos (show a (8 + (pw + a 3) / 10) = 2 by omega), if_pos (by omega)]) | (rw [if_pos (show a (8 + (pw + a 3) / 10) = 2 by omega), if_neg (by omega)]) | (rw [if_neg (show ¬ a (8 + (pw + a 3) / 10) = 2 by omega), if_pos (by omega)]) | (rw [if_neg (show ¬ a (8 + (pw + a 3) / 10) = 2 by omega), if_neg (by omega)])) rfl (hq)
      · refine rr_iconst (n := 2) dX0_faultOfThrow_39 ?_
        exact rr_reti (pc := 40) dX0_faultOfThrow_40 rfl rfl (by unfold aFault; rw [if_neg (by omega), if_pos (by omega)]) rfl (hq)
    · refine rr_iconst (n := 1) dX0_faultOfThrow_29 ?_
      exact rr_reti (pc := 30) dX0_faultOfThrow_30 rfl rfl (by unfold aFault; rw [if_pos (Or.inr (by omega))]) rfl (hq)
