theorem zOfl.a {W W' : zWd} (h : zOfl W W') : W' 117 = W 117 := h.1 117 (by decide) (by decide) (by decide) (by decide)
theorem aCost_R {a : Int → Int} {q tg bk : Int} {rc : Nat} : -1 ≤ aCost a q tg rc bk ∧ aCost a q tg rc bk < 1000000 := by
  unfold aCost
  split
  · omega
  · exact zWc_rng
def aFw (a : Int → Int) (q tg : Int) (rc : Nat) : Int := if tg = 0 then -1 else if aCost a q tg rc 0 = -1 then 4 else if aCost a q tg rc 1 = -1 then 5 else 0
theorem aFw_R {a : Int → Int} {q tg : Int} {rc : Nat} : -1 ≤ aFw a q tg rc ∧ aFw a q tg rc ≤ 5 := by
  unfold aFw
  split
  · omega
  · split
    · omega
    · split <;> omega
theorem dX7_faultWith_0 : decode cX7_faultWith 0 = .ok (.iload_n 2, 1) := by decide +kernel
theorem dX7_faultWith_1 : decode cX7_faultWith 1 = .ok (.ifCond .ne 5, 3) := by decide +kernel
theorem dX7_faultWith_4 : decode cX7_faultWith 4 = .ok (.iconst (-1), 1) := by decide +kernel
theorem dX7_faultWith_5 : decode cX7_faultWith 5 = .ok (.ireturn, 1) := by decide +kernel
theorem dX7_faultWith_6 : decode cX7_faultWith 6 = .ok (.aload_n 0, 1) := by decide +kernel
theorem dX7_faultWith_7 : decode cX7_faultWith 7 = .ok (.iload_n 1, 1) := by decide +kernel
theorem dX7_faultWith_8 : decode cX7_faultWith 8 = .ok (.iload_n 2, 1) := by decide +kernel
theorem dX7_faultWith_9 : decode cX7_faultWith 9 = .ok (.iload_n 3, 1) := by decide +kernel
theorem dX7_faultWith_10 : decode cX7_faultWith 10 = .ok (.iconst 0, 1) := by decide +kernel
theorem dX7_faultWith_11 : decode cX7_faultWith 11 = .ok (.invokevirtual 263, 3) := by decide +kernel
theorem dX7_faultWith_14 : decode cX7_faultWith 14 = .ok (.iconst (-1), 1) := by decide +kernel
theorem dX7_faultWith_15 : decode cX7_faultWith 15 = .ok (.if_icmp .ne 7, 3) := by decide +kernel
theorem dX7_faultWith_18 : decode cX7_faultWith 18 = .ok (.iconst 4, 1) := by decide +kernel
theorem dX7_faultWith_19 : decode cX7_faultWith 19 = .ok (.goto 20, 3) := by decide +kernel
theorem dX7_faultWith_22 : decode cX7_faultWith 22 = .ok (.aload_n 0, 1) := by decide +kernel
theorem dX7_faultWith_23 : decode cX7_faultWith 23 = .ok (.iload_n 1, 1) := by decide +kernel
theorem dX7_faultWith_24 : decode cX7_faultWith 24 = .ok (.iload_n 2, 1) := by decide +kernel
theorem dX7_faultWith_25 : decode cX7_faultWith 25 = .ok (.iload_n 3, 1) := by decide +kernel
theorem dX7_faultWith_26 : decode cX7_faultWith 26 = .ok (.iconst 1, 1) := by decide +kernel
theorem dX7_faultWith_27 : decode cX7_faultWith 27 = .ok (.invokevirtual 263, 3) := by decide +kernel
theorem dX7_faultWith_30 : decode cX7_faultWith 30 = .ok (.iconst (-1), 1) := by decide +kernel
theorem dX7_faultWith_31 : decode cX7_faultWith 31 = .ok (.if_icmp .ne 7, 3) := by decide +kernel
theorem dX7_faultWith_34 : decode cX7_faultWith 34 = .ok (.iconst 5, 1) := by decide +kernel
theorem dX7_faultWith_35 : decode cX7_faultWith 35 = .ok (.goto 4, 3) := by decide +kernel
theorem dX7_faultWith_38 : decode cX7_faultWith 38 = .ok (.iconst 0, 1) := by decide +kernel
theorem dX7_faultWith_39 : decode cX7_faultWith 39 = .ok (.ireturn, 1) := by decide +kernel
theorem eX7_faultWith {W : zWd} {a : Int → Int} {T : Int} {p : Int} {tg : Int} {rc : Nat} {Q : Option Value → zWd → Prop} {X : zX} (ha : W 117 = a) (hw : zWf T a) (hp0 : 0 ≤ p) (hp1 : p < a 2) (ht0 : 0 ≤ tg) (ht1 : tg ≤ a 1) (hr1 : 1 ≤ rc) (hr4 : rc ≤ 4) (hq : ∀ W' : zWd, zOfl W W' → Q (some (zI (aFw a p tg rc))) W') : Ev MX7_faultWith 5 0 W [.ref 116, zI p, zI tg, zI (rc : Int)] Q X := by
  refine ev_of (ls := [.ref 116, zI p, zI tg, zI (rc : Int)]) (by decide) rfl (fun _ => rfl) (fun _ => Nat.le_of_ble_eq_true rfl) (Or.inl rfl) ?_
  obtain ⟨w0, w0', wW, w1, w2, w2', w3, w3', w4, w4', w5, w5', w6, w6', w7, w7', wS, wP, wT⟩ := id hw
  have wq := zWf.sq hw
  refine rr_iload_n (pc := 0) dX7_faultWith_0 rfl ?_
  refine rr_if_ne (pc := 1) (tgt := 6) dX7_faultWith_1 (by decide) (by unfold zR; omega) (fun h1 => ?_) (fun h1 => ?_)
  · refine rr_aload_n (pc := 6) dX7_faultWith_6 rfl ?_
    refine rr_iload_n (pc := 7) dX7_faultWith_7 rfl ?_
    refine rr_iload_n (pc := 8) dX7_faultWith_8 rfl ?_
    refine rr_iload_n (pc := 9) dX7_faultWith_9 rfl ?_
    refine rr_iconst (n := 0) dX7_faultWith_10 ?_
    refine rr_inv0 (M' := MX7_lays) (k := 116) (As := [_, _, _, _]) (pc := 11) dX7_faultWith_11 lX7_263 kX7_lays vX7_lays zk_116 (by decide) rfl (by decide) (by decide) (Nat.le_of_ble_eq_true rfl) rfl (eX7_lays ha hw hp0 hp1 (by omega) ht1 hr1 hr4 (Or.inl rfl) (fun W1 o1 l1 => ?_))
    have c0 := @aCost_R a p tg 0 rc
    refine rr_iconst (n := (-1)) dX7_faultWith_14 ?_
    refine rr_icmp_ne (pc := 15) (tgt := 22) dX7_faultWith_15 (by decide) (by unfold zR; omega) (by unfold zR; omega) (fun h15 => ?_) (fun h15 => ?_)
    · refine rr_aload_n (pc := 22) dX7_faultWith_22 rfl ?_
      refine rr_iload_n (pc := 23) dX7_faultWith_23 rfl ?_
      refine rr_iload_n (pc := 24) dX7_faultWith_24 rfl ?_
      refine rr_iload_n (pc := 25) dX7_faultWith_25 rfl ?_
      refine rr_iconst (n := 1) dX7_faultWith_26 ?_
      refine rr_inv0 (M' := MX7_lays) (k := 116) (As := [_, _, _, _]) (pc := 27) dX7_faultWith_27 lX7_263 kX7_lays vX7_lays zk_116 (by decide) rfl (by decide) (by decide) (Nat.le_of_ble_eq_true rfl) rfl (eX7_lays (o1.a.trans ha) hw hp0 hp1 (by omega) ht1 hr1 hr4 (Or.inr rfl) (fun W2 o2 l2 => ?_))
      have c1 := @aCost_R a p tg 1 rc
      refine rr_iconst (n := (-1)) dX7_faultWith_30 ?_
      refine rr_icmp_ne (pc := 31) (tgt := 38) dX7_faultWith_31 (by decide) (by unfold zR; omega) (by unfold zR; omega) (fun h31 => ?_) (fun h31 => ?_)
      · refine rr_iconst (n := 0) dX7_faultWith_38 ?_
        exact rr_reti (pc := 39) dX7_faultWith_39 rfl rfl (by unfold aFw; rw [if_neg (by omega), if_neg h15, if_neg h31]) rfl (hq W2 (o1.tr o2))
      · refine rr_iconst (n := 5) dX7_faultWith_34 ?_
        refine rr_goto (pc := 35) (tgt := 39) dX7_faultWith_35 (by decide) ?_
        exact rr_reti (pc := 39) dX7_faultWith_39 rfl rfl (by unfold aFw; rw [if_neg (by omega), if_neg h15, if_pos h31]) rfl (hq W2 (o1.tr o2))
    · refine rr_iconst (n := 4) dX7_faultWith_18 ?_
      refine rr_goto (pc := 19) (tgt := 39) dX7_faultWith_19 (by decide) ?_
      exact rr_reti (pc := 39) dX7_faultWith_39 rfl rfl (by unfold aFw; rw [if_neg (by omega), if_pos h15]) rfl (hq W1 o1)
  · refine rr_iconst (n := (-1)) dX7_faultWith_4 ?_
    exact rr_reti (pc := 5) dX7_faultWith_5 rfl rfl (if_pos (by omega)).symm rfl (hq W zOfl.rf)
theorem dX7_hopFaultOf_0 : decode cX7_hopFaultOf 0 = .ok (.aload_n 0, 1) := by decide +kernel
theorem dX7_hopFaultOf_1 : decode cX7_hopFaultOf 1 = .ok (.iload_n 1, 1) := by decide +kernel
theorem dX7_hopFaultOf_2 : decode cX7_hopFaultOf 2 = .ok (.aload_n 0, 1) := by decide +kernel
theorem dX7_hopFaultOf_3 : decode cX7_hopFaultOf 3 = .ok (.iload_n 1, 1) := by decide +kernel
theorem dX7_hopFaultOf_4 : decode cX7_hopFaultOf 4 = .ok (.iconst 2, 1) := by decide +kernel
theorem dX7_hopFaultOf_5 : decode cX7_hopFaultOf 5 = .ok (.invokevirtual 154, 3) := by decide +kernel
theorem dX7_hopFaultOf_8 : decode cX7_hopFaultOf 8 = .ok (.aload_n 0, 1) := by decide +kernel
theorem dX7_hopFaultOf_9 : decode cX7_hopFaultOf 9 = .ok (.iload_n 1, 1) := by decide +kernel
theorem dX7_hopFaultOf_10 : decode cX7_hopFaultOf 10 = .ok (.iconst 0, 1) := by decide +kernel
theorem dX7_hopFaultOf_11 : decode cX7_hopFaultOf 11 = .ok (.invokevirtual 154, 3) := by decide +kernel
theorem dX7_hopFaultOf_14 : decode cX7_hopFaultOf 14 = .ok (.invokevirtual 267, 3) := by decide +kernel
theorem dX7_hopFaultOf_17 : decode cX7_hopFaultOf 17 = .ok (.ireturn, 1) := by decide +kernel
theorem eX7_hopFaultOf {W : zWd} {a : Int → Int} {T : Int} {p : Int}  {Q : Option Value → zWd → Prop} {X : zX} (ha : W 117 = a) (hw : zWf T a) (hp0 : 0 ≤ p) (hp1 : p < a 2) (hq : ∀ W' : zWd, zOfl W W' → Q (some (zI (aHopF a p))) W') : Ev MX7_hopFaultOf 6 0 W [.ref 116, zI p] Q X := by
  refine ev_of (ls := [.ref 116, zI p]) (by decide) rfl (fun _ => rfl) (fun _ => Nat.le_of_ble_eq_true rfl) (Or.inl rfl) ?_
  obtain ⟨w0, w0', wW, w1, w2, w2', w3, w3', w4, w4', w5, w5', w6, w6', w7, w7', wS, wP, wT⟩ := id hw
  have wq := zWf.sq hw
  have hm2 := wP p hp0 hp1
  unfold zWfP at hm2
  refine rr_aload_n (pc := 0) dX7_hopFaultOf_0 rfl ?_
  refine rr_iload_n (pc := 1) dX7_hopFaultOf_1 rfl ?_
  refine rr_aload_n (pc := 2) dX7_hopFaultOf_2 rfl ?_
  refine rr_iload_n (pc := 3) dX7_hopFaultOf_3 rfl ?_
  refine rr_iconst (n := 2) dX7_hopFaultOf_4 ?_
  refine rr_inv0 (M' := MX7_of) (k := 116) (As := [_, _]) (pc := 5) dX7_hopFaultOf_5 lX7_154 kX7_of vX7_of zk_116 (by decide) rfl (by decide) (by decide) (Nat.le_of_ble_eq_true rfl) rfl (eX7_of (by omega) (by omega) (by omega) (by omega) ?_)
  rw [ha]
  refine rr_aload_n (pc := 8) dX7_hopFaultOf_8 rfl ?_
  refine rr_iload_n (pc := 9) dX7_hopFaultOf_9 rfl ?_
  refine rr_iconst (n := 0) dX7_hopFaultOf_10 ?_
  refine rr_inv0 (M' := MX7_of) (k := 116) (As := [_, _]) (pc := 11) dX7_hopFaultOf_11 lX7_154 kX7_of vX7_of zk_116 (by decide) rfl (by decide) (by decide) (Nat.le_of_ble_eq_true rfl) rfl (eX7_of (by omega) (by omega) (by omega) (by omega) ?_)
  rw [ha, (aRc_rng hw hp0 hp1).2.2]
  have hrr := aRc_rng hw hp0 hp1
  refine rr_inv0 (M' := MX7_faultWith) (k := 116) (As := [_, _, _]) (pc := 14) dX7_hopFaultOf_14 lX7_267 kX7_faultWith vX7_faultWith zk_116 (by decide) rfl (by decide) (by decide) (Nat.le_of_ble_eq_true rfl) rfl (eX7_faultWith ha hw hp0 hp1 (by omega) (by omega) hrr.1 hrr.2.1 (fun W1 o1 => ?_))
  exact rr_reti (pc := 17) dX7_hopFaultOf_17 rfl rfl rfl rfl (hq W1 o1)
theorem dX7_costOf_0 : decode cX7_costOf 0 = .ok (.aload_n 0, 1) := by decide +kernel
theorem dX7_costOf_1 : decode cX7_costOf 1 = .ok (.iconst 0, 1) := by decide +kernel
theorem dX7_costOf_2 : decode cX7_costOf 2 = .ok (.putfield 260, 3) := by decide +kernel
theorem dX7_costOf_5 : decode cX7_costOf 5 = .ok (.aload_n 0, 1) := by decide +kernel
theorem dX7_costOf_6 : decode cX7_costOf 6 = .ok (.iload_n 1, 1) := by decide +kernel
theorem dX7_costOf_7 : decode cX7_costOf 7 = .ok (.iconst 2, 1) := by decide +kernel
theorem dX7_costOf_8 : decode cX7_costOf 8 = .ok (.invokevirtual 154, 3) := by decide +kernel
theorem dX7_costOf_11 : decode cX7_costOf 11 = .ok (.ifCond .ne 7, 3) := by decide +kernel
theorem dX7_costOf_14 : decode cX7_costOf 14 = .ok (.iconst (-1), 1) := by decide +kernel
theorem dX7_costOf_15 : decode cX7_costOf 15 = .ok (.goto 21, 3) := by decide +kernel
theorem dX7_costOf_18 : decode cX7_costOf 18 = .ok (.aload_n 0, 1) := by decide +kernel
theorem dX7_costOf_19 : decode cX7_costOf 19 = .ok (.iload_n 1, 1) := by decide +kernel
theorem dX7_costOf_20 : decode cX7_costOf 20 = .ok (.aload_n 0, 1) := by decide +kernel
theorem dX7_costOf_21 : decode cX7_costOf 21 = .ok (.iload_n 1, 1) := by decide +kernel
theorem dX7_costOf_22 : decode cX7_costOf 22 = .ok (.iconst 2, 1) := by decide +kernel
theorem dX7_costOf_23 : decode cX7_costOf 23 = .ok (.invokevirtual 154, 3) := by decide +kernel
theorem dX7_costOf_26 : decode cX7_costOf 26 = .ok (.aload_n 0, 1) := by decide +kernel
theorem dX7_costOf_27 : decode cX7_costOf 27 = .ok (.iload_n 1, 1) := by decide +kernel
theorem dX7_costOf_28 : decode cX7_costOf 28 = .ok (.iconst 0, 1) := by decide +kernel
theorem dX7_costOf_29 : decode cX7_costOf 29 = .ok (.invokevirtual 154, 3) := by decide +kernel
theorem dX7_costOf_32 : decode cX7_costOf 32 = .ok (.iload_n 2, 1) := by decide +kernel
theorem dX7_costOf_33 : decode cX7_costOf 33 = .ok (.invokevirtual 263, 3) := by decide +kernel
theorem dX7_costOf_36 : decode cX7_costOf 36 = .ok (.ireturn, 1) := by decide +kernel
theorem eX7_costOf {W : zWd} {a : Int → Int} {T : Int} {p : Int} {b : Int} {Q : Option Value → zWd → Prop} {X : zX} (ha : W 117 = a) (hw : zWf T a) (hp0 : 0 ≤ p) (hp1 : p < a 2) (hb : b = 0 ∨ b = 1) (hq : ∀ W' : zWd, zOfl W W' → zLy W' (aWay a p (aP a p 2) (aRc a p) b) → Q (some (zI (aCost a p (aP a p 2) (aRc a p) b))) W') : Ev MX7_costOf 5 0 W [.ref 116, zI p, zI b] Q X := by
  refine ev_of (ls := [.ref 116, zI p, zI b]) (by decide) rfl (fun _ => rfl) (fun _ => Nat.le_of_ble_eq_true rfl) (Or.inl rfl) ?_
  obtain ⟨w0, w0', wW, w1, w2, w2', w3, w3', w4, w4', w5, w5', w6, w6', w7, w7', wS, wP, wT⟩ := id hw
  have wq := zWf.sq hw
  have hm2 := wP p hp0 hp1
  unfold zWfP at hm2
  refine rr_aload_n (pc := 0) dX7_costOf_0 rfl ?_
  refine rr_iconst (n := 0) dX7_costOf_1 ?_
  refine rr_put (pc := 2) (ji := 21) dX7_costOf_2 fX7_260 fp_7_21 zk_116 zr_116_21 rfl ?_
  have o0 : zOfl W (zup W 116 21 0) := zOfl.rf.up6 (by omega)
  have z0 : zup W 116 21 0 116 21 = 0 := zup_s
  have ha0 : zup W 116 21 0 117 = a := o0.a.trans ha
  generalize zup W 116 21 0 = W0 at o0 z0 ha0 ⊢
  have hrr := aRc_rng hw hp0 hp1
  refine rr_aload_n (pc := 5) dX7_costOf_5 rfl ?_
  refine rr_iload_n (pc := 6) dX7_costOf_6 rfl ?_
  refine rr_iconst (n := 2) dX7_costOf_7 ?_
  refine rr_inv0 (M' := MX7_of) (k := 116) (As := [_, _]) (pc := 8) dX7_costOf_8 lX7_154 kX7_of vX7_of zk_116 (by decide) rfl (by decide) (by decide) (Nat.le_of_ble_eq_true rfl) rfl (eX7_of (by omega) (by omega) (by omega) (by omega) ?_)
  rw [ha0]
  refine rr_if_ne (pc := 11) (tgt := 18) dX7_costOf_11 (by decide) (by unfold zR; omega) (fun h11 => ?_) (fun h11 => ?_)
  · refine rr_aload_n (pc := 18) dX7_costOf_18 rfl ?_
    refine rr_iload_n (pc := 19) dX7_costOf_19 rfl ?_
    refine rr_aload_n (pc := 20) dX7_costOf_20 rfl ?_
    refine rr_iload_n (pc := 21) dX7_costOf_21 rfl ?_
    refine rr_iconst (n := 2) dX7_costOf_22 ?_
    refine rr_inv0 (M' := MX7_of) (k := 116) (As := [_, _]) (pc := 23) dX7_costOf_23 lX7_154 kX7_of vX7_of zk_116 (by decide) rfl (by decide) (by decide) (Nat.le_of_ble_eq_true rfl) rfl (eX7_of (by omega) (by omega) (by omega) (by omega) ?_)
    rw [ha0]
    refine rr_aload_n (pc := 26) dX7_costOf_26 rfl ?_
    refine rr_iload_n (pc := 27) dX7_costOf_27 rfl ?_
    refine rr_iconst (n := 0) dX7_costOf_28 ?_
    refine rr_inv0 (M' := MX7_of) (k := 116) (As := [_, _]) (pc := 29) dX7_costOf_29 lX7_154 kX7_of vX7_of zk_116 (by decide) rfl (by decide) (by decide) (Nat.le_of_ble_eq_true rfl) rfl (eX7_of (by omega) (by omega) (by omega) (by omega) ?_)
    rw [ha0, hrr.2.2]
    refine rr_iload_n (pc := 32) dX7_costOf_32 rfl ?_
    refine rr_inv0 (M' := MX7_lays) (k := 116) (As := [_, _, _, _]) (pc := 33) dX7_costOf_33 lX7_263 kX7_lays vX7_lays zk_116 (by decide) rfl (by decide) (by decide) (Nat.le_of_ble_eq_true rfl) rfl (eX7_lays ha0 hw hp0 hp1 (by omega) (by omega) hrr.1 hrr.2.1 hb (fun W1 o1 l1 => ?_))
    exact rr_reti (pc := 36) dX7_costOf_36 rfl rfl rfl rfl (hq W1 (o0.tr o1) l1)
  · refine rr_iconst (n := (-1)) dX7_costOf_14 ?_
    refine rr_goto (pc := 15) (tgt := 36) dX7_costOf_15 (by decide) ?_
    have hz : aP a p 2 = 0 := by omega
    exact rr_reti (pc := 36) dX7_costOf_36 rfl rfl (by rw [hz]; exact (if_pos (by omega)).symm) rfl (hq W0 o0 (by rw [hz, show aWay a p 0 (aRc a p) b = [] from if_pos (by omega)]; exact ⟨z0, fun i hi => by cases hi⟩))
theorem aPlC_s {a : Int → Int} {q i : Int} (h : 1 ≤ i) : aPlC a q i.toNat = aPlC a q (i - 1).toNat + (if ¬ aForb a q i ∧ ¬ (aCost a q i (aRc a q) 0 = -1 ∨ aCost a q i (aRc a q) 1 = -1) then 1 else 0) := by
  rw [show i.toNat = (i - 1).toNat + 1 by omega]
  show aPlC a q (i - 1).toNat + (if ¬ aForb a q ((((i - 1).toNat : Nat) : Int) + 1) ∧ _ then 1 else 0) = _
  rw [show (((i - 1).toNat : Nat) : Int) + 1 = i by omega]
theorem aFw_0 {a : Int → Int} {q i : Int} {rc : Nat} (h : 1 ≤ i) : aFw a q i rc = 0 ↔ ¬ (aCost a q i rc 0 = -1 ∨ aCost a q i rc 1 = -1) := by
  unfold aFw
  rw [if_neg (by omega)]
  by_cases h0 : aCost a q i rc 0 = -1
  · rw [if_pos h0]; exact ⟨fun z => by omega, fun z => absurd (Or.inl h0) z⟩
  · rw [if_neg h0]
    by_cases h1 : aCost a q i rc 1 = -1
    · rw [if_pos h1]; exact ⟨fun z => by omega, fun z => absurd (Or.inr h1) z⟩
    · rw [if_neg h1]; exact ⟨fun _ z => z.elim h0 h1, fun _ => rfl⟩
theorem dX7_playableOf_0 : decode cX7_playableOf 0 = .ok (.iconst 0, 1) := by decide +kernel
theorem dX7_playableOf_1 : decode cX7_playableOf 1 = .ok (.istore_n 2, 1) := by decide +kernel
theorem dX7_playableOf_2 : decode cX7_playableOf 2 = .ok (.iconst 1, 1) := by decide +kernel
theorem dX7_playableOf_3 : decode cX7_playableOf 3 = .ok (.istore_n 3, 1) := by decide +kernel
theorem dX7_playableOf_4 : decode cX7_playableOf 4 = .ok (.iload_n 3, 1) := by decide +kernel
theorem dX7_playableOf_5 : decode cX7_playableOf 5 = .ok (.aload_n 0, 1) := by decide +kernel
theorem dX7_playableOf_6 : decode cX7_playableOf 6 = .ok (.invokevirtual 209, 3) := by decide +kernel
theorem dX7_playableOf_9 : decode cX7_playableOf 9 = .ok (.if_icmp .gt 41, 3) := by decide +kernel
theorem dX7_playableOf_12 : decode cX7_playableOf 12 = .ok (.iload_n 2, 1) := by decide +kernel
theorem dX7_playableOf_13 : decode cX7_playableOf 13 = .ok (.aload_n 0, 1) := by decide +kernel
theorem dX7_playableOf_14 : decode cX7_playableOf 14 = .ok (.iload_n 1, 1) := by decide +kernel
theorem dX7_playableOf_15 : decode cX7_playableOf 15 = .ok (.iload_n 3, 1) := by decide +kernel
theorem dX7_playableOf_16 : decode cX7_playableOf 16 = .ok (.invokevirtual 215, 3) := by decide +kernel
theorem dX7_playableOf_19 : decode cX7_playableOf 19 = .ok (.ifCond .ne 22, 3) := by decide +kernel
theorem dX7_playableOf_22 : decode cX7_playableOf 22 = .ok (.aload_n 0, 1) := by decide +kernel
theorem dX7_playableOf_23 : decode cX7_playableOf 23 = .ok (.iload_n 1, 1) := by decide +kernel
theorem dX7_playableOf_24 : decode cX7_playableOf 24 = .ok (.iload_n 3, 1) := by decide +kernel
theorem dX7_playableOf_25 : decode cX7_playableOf 25 = .ok (.aload_n 0, 1) := by decide +kernel
theorem dX7_playableOf_26 : decode cX7_playableOf 26 = .ok (.iload_n 1, 1) := by decide +kernel
theorem dX7_playableOf_27 : decode cX7_playableOf 27 = .ok (.iconst 0, 1) := by decide +kernel
theorem dX7_playableOf_28 : decode cX7_playableOf 28 = .ok (.invokevirtual 154, 3) := by decide +kernel
theorem dX7_playableOf_31 : decode cX7_playableOf 31 = .ok (.invokevirtual 267, 3) := by decide +kernel
theorem dX7_playableOf_34 : decode cX7_playableOf 34 = .ok (.ifCond .ne 7, 3) := by decide +kernel
theorem dX7_playableOf_37 : decode cX7_playableOf 37 = .ok (.iconst 1, 1) := by decide +kernel
theorem dX7_playableOf_38 : decode cX7_playableOf 38 = .ok (.goto 4, 3) := by decide +kernel
theorem dX7_playableOf_41 : decode cX7_playableOf 41 = .ok (.iconst 0, 1) := by decide +kernel
theorem dX7_playableOf_42 : decode cX7_playableOf 42 = .ok (.iadd, 1) := by decide +kernel
theorem dX7_playableOf_43 : decode cX7_playableOf 43 = .ok (.istore_n 2, 1) := by decide +kernel
theorem dX7_playableOf_44 : decode cX7_playableOf 44 = .ok (.iinc 3 1, 3) := by decide +kernel
theorem dX7_playableOf_47 : decode cX7_playableOf 47 = .ok (.goto (-43), 3) := by decide +kernel
theorem dX7_playableOf_50 : decode cX7_playableOf 50 = .ok (.iload_n 2, 1) := by decide +kernel
theorem dX7_playableOf_51 : decode cX7_playableOf 51 = .ok (.ireturn, 1) := by decide +kernel
theorem eX7_playableOf {W : zWd} {a : Int → Int} {T : Int} {p : Int}  {Q : Option Value → zWd → Prop} {X : zX} (ha : W 117 = a) (hw : zWf T a) (hp0 : 0 ≤ p) (hp1 : p < a 2) (hq : ∀ W' : zWd, zOfl W W' → Q (some (zI (aPlay a p))) W') : Ev MX7_playableOf 6 0 W [.ref 116, zI p] Q X := by
  refine ev_of (ls := [.ref 116, zI p, .null, .null]) (by decide) rfl (fun _ => rfl) (fun _ => Nat.le_of_ble_eq_true rfl) (Or.inl rfl) ?_
  obtain ⟨w0, w0', wW, w1, w2, w2', w3, w3', w4, w4', w5, w5', w6, w6', w7, w7', wS, wP, wT⟩ := id hw
  have wq := zWf.sq hw
  have hm2 := wP p hp0 hp1
  unfold zWfP at hm2
  have hrr := aRc_rng hw hp0 hp1
  have loop : ∀ (n : Nat) (i : Int) (Wi : zWd), 1 ≤ i → i ≤ a 1 + 1 → zOfl W Wi → (a 1 + 1 - i).toNat < n → RR MX7_playableOf 6 0 Wi 4 [.ref 116, zI p, zI (aPlC a p (i - 1).toNat), zI i] [] (zEnd MX7_playableOf Q X) X := by
    intro n
    induction n with
    | zero => intro i Wi _ _ _ hm9; omega
    | succ n ih =>
      intro i Wi h1 h2 hO hm9
      have ea : Wi 117 = a := hO.a.trans ha
      have hpr := aPlC_rng a p (i - 1).toNat
      refine rr_iload_n (pc := 4) dX7_playableOf_4 rfl ?_
      refine rr_aload_n (pc := 5) dX7_playableOf_5 rfl ?_
      refine rr_inv0 (M' := MX7_squares) (k := 116) (As := []) (pc := 6) dX7_playableOf_6 lX7_209 kX7_squares vX7_squares zk_116 (by decide) rfl (by decide) (by decide) (Nat.le_of_ble_eq_true rfl) rfl (eX7_squares ?_)
      rw [ea]
      refine rr_icmp_gt (pc := 9) (tgt := 50) dX7_playableOf_9 (by decide) (by unfold zR; omega) (by unfold zR; omega) (fun h9 => ?_) (fun h9 => ?_)
      · refine rr_iload_n (pc := 50) dX7_playableOf_50 rfl ?_
        exact rr_reti (pc := 51) dX7_playableOf_51 rfl rfl (by unfold aPlay; rw [show (i - 1).toNat = (a 1).toNat by omega]) rfl (hq Wi hO)
      · refine rr_iload_n (pc := 12) dX7_playableOf_12 rfl ?_
        refine rr_aload_n (pc := 13) dX7_playableOf_13 rfl ?_
        refine rr_iload_n (pc := 14) dX7_playableOf_14 rfl ?_
        refine rr_iload_n (pc := 15) dX7_playableOf_15 rfl ?_
        refine rr_inv0 (M' := MX7_isForbidden) (k := 116) (As := [_, _]) (pc := 16) dX7_playableOf_16 lX7_215 kX7_isForbidden vX7_isForbidden zk_116 (by decide) rfl (by decide) (by decide) (Nat.le_of_ble_eq_true rfl) rfl (eX7_isForbidden ea hw (by omega) (by omega) (by unfold zR; omega) ?_)
        refine rr_if_ne (pc := 19) (tgt := 41) dX7_playableOf_19 (by decide) (by split <;> (unfold zR; omega)) (fun h19 => ?_) (fun h19 => ?_)
        · refine rr_iconst (n := 0) dX7_playableOf_41 ?_
          refine rr_iadd (pc := 42) dX7_playableOf_42 ?_
          refine rr_istore_n (pc := 43) dX7_playableOf_43 (by decide) ?_
          refine rr_iinc (pc := 44) dX7_playableOf_44 rfl (by decide) ?_
          refine rr_goto (pc := 47) (tgt := 4) dX7_playableOf_47 (by decide) ?_
          refine rr_eqL ?_ (ih (i + 1) Wi (by omega) (by omega) hO (by omega))
          rw [show (i + 1 - 1).toNat = i.toNat by omega, aPlC_s h1, if_neg (fun z => z.1 (z_i10n h19))]
          rfl
        · refine rr_aload_n (pc := 22) dX7_playableOf_22 rfl ?_
          refine rr_iload_n (pc := 23) dX7_playableOf_23 rfl ?_
          refine rr_iload_n (pc := 24) dX7_playableOf_24 rfl ?_
          refine rr_aload_n (pc := 25) dX7_playableOf_25 rfl ?_
          refine rr_iload_n (pc := 26) dX7_playableOf_26 rfl ?_
          refine rr_iconst (n := 0) dX7_playableOf_27 ?_
          refine rr_inv0 (M' := MX7_of) (k := 116) (As := [_, _]) (pc := 28) dX7_playableOf_28 lX7_154 kX7_of vX7_of zk_116 (by decide) rfl (by decide) (by decide) (Nat.le_of_ble_eq_true rfl) rfl (eX7_of (by omega) (by omega) (by omega) (by omega) ?_)
          rw [ea, hrr.2.2]
          refine rr_inv0 (M' := MX7_faultWith) (k := 116) (As := [_, _, _]) (pc := 31) dX7_playableOf_31 lX7_267 kX7_faultWith vX7_faultWith zk_116 (by decide) rfl (by decide) (by decide) (Nat.le_of_ble_eq_true rfl) rfl (eX7_faultWith ea hw hp0 hp1 (by omega) (by omega) hrr.1 hrr.2.1 (fun W1 o1 => ?_))
          have hfw := @aFw_R a p i (aRc a p)
          refine rr_if_ne (pc := 34) (tgt := 41) dX7_playableOf_34 (by decide) (by unfold zR; omega) (fun h34 => ?_) (fun h34 => ?_)
          · refine rr_iconst (n := 0) dX7_playableOf_41 ?_
            refine rr_iadd (pc := 42) dX7_playableOf_42 ?_
            refine rr_istore_n (pc := 43) dX7_playableOf_43 (by decide) ?_
            refine rr_iinc (pc := 44) dX7_playableOf_44 rfl (by decide) ?_
            refine rr_goto (pc := 47) (tgt := 4) dX7_playableOf_47 (by decide) ?_
            refine rr_eqL ?_ (ih (i + 1) W1 (by omega) (by omega) (hO.tr o1) (by omega))
            rw [show (i + 1 - 1).toNat = i.toNat by omega, aPlC_s h1, if_neg (fun z => h34 ((aFw_0 h1).mpr z.2))]
            rfl
          · refine rr_iconst (n := 1) dX7_playableOf_37 ?_
            refine rr_goto (pc := 38) (tgt := 42) dX7_playableOf_38 (by decide) ?_
            refine rr_iadd (pc := 42) dX7_playableOf_42 ?_
            refine rr_istore_n (pc := 43) dX7_playableOf_43 (by decide) ?_
            refine rr_iinc (pc := 44) dX7_playableOf_44 rfl (by decide) ?_
            refine rr_goto (pc := 47) (tgt := 4) dX7_playableOf_47 (by decide) ?_
            refine rr_eqL ?_ (ih (i + 1) W1 (by omega) (by omega) (hO.tr o1) (by omega))
            rw [show (i + 1 - 1).toNat = i.toNat by omega, aPlC_s h1, if_pos ⟨z_i10 (by omega), (aFw_0 h1).mp (by omega)⟩]
            rfl
  refine rr_iconst (n := 0) dX7_playableOf_0 ?_
  refine rr_istore_n (pc := 1) dX7_playableOf_1 (by decide) ?_
  refine rr_iconst (n := 1) dX7_playableOf_2 ?_
  refine rr_istore_n (pc := 3) dX7_playableOf_3 (by decide) ?_
  exact loop _ 1 W (by omega) (by omega) zOfl.rf (Nat.lt_succ_self _)
theorem dX7_isThrow_0 : decode cX7_isThrow 0 = .ok (.iload_n 0, 1) := by decide +kernel
theorem dX7_isThrow_1 : decode cX7_isThrow 1 = .ok (.iconst 0, 1) := by decide +kernel
theorem dX7_isThrow_2 : decode cX7_isThrow 2 = .ok (.sipush 199, 3) := by decide +kernel
theorem dX7_isThrow_5 : decode cX7_isThrow 5 = .ok (.invokestatic 69, 3) := by decide +kernel
theorem dX7_isThrow_8 : decode cX7_isThrow 8 = .ok (.ifCond .eq 16, 3) := by decide +kernel
theorem dX7_isThrow_11 : decode cX7_isThrow 11 = .ok (.iload_n 1, 1) := by decide +kernel
theorem dX7_isThrow_12 : decode cX7_isThrow 12 = .ok (.iconst 0, 1) := by decide +kernel
theorem dX7_isThrow_13 : decode cX7_isThrow 13 = .ok (.iconst 1, 1) := by decide +kernel
theorem dX7_isThrow_14 : decode cX7_isThrow 14 = .ok (.invokestatic 69, 3) := by decide +kernel
theorem dX7_isThrow_17 : decode cX7_isThrow 17 = .ok (.ifCond .eq 7, 3) := by decide +kernel
theorem dX7_isThrow_20 : decode cX7_isThrow 20 = .ok (.iconst 1, 1) := by decide +kernel
theorem dX7_isThrow_21 : decode cX7_isThrow 21 = .ok (.goto 4, 3) := by decide +kernel
theorem dX7_isThrow_24 : decode cX7_isThrow 24 = .ok (.iconst 0, 1) := by decide +kernel
theorem dX7_isThrow_25 : decode cX7_isThrow 25 = .ok (.ireturn, 1) := by decide +kernel
theorem eX7_isThrow {W : zWd} {r s : Int} {Q : Option Value → zWd → Prop} {X : zX} (hz : zR r) (hz2 : zR s) (hq : Q (some (zI (if 0 ≤ r ∧ r ≤ 199 ∧ 0 ≤ s ∧ s ≤ 1 then 1 else 0))) W) : Ev MX7_isThrow 1 0 W [zI r, zI s] Q X := by
  refine ev_of (ls := [zI r, zI s]) (by decide) rfl (fun _ => rfl) (fun _ => Nat.le_of_ble_eq_true rfl) (Or.inl rfl) ?_
  refine rr_iload_n (pc := 0) dX7_isThrow_0 rfl ?_
  refine rr_iconst (n := 0) dX7_isThrow_1 ?_
  refine rr_sipush (n := (199)) dX7_isThrow_2 ?_
  refine rr_sta0 (M' := MX7_isIn) (As := [_, _, _]) (pc := 5) dX7_isThrow_5 lX7_69 kX7_isIn sX7_isIn (by decide) (by decide) (Nat.le_of_ble_eq_true rfl) rfl (eX7_isIn hz (by unfold zR; omega) (by unfold zR; omega) ?_)
  refine rr_if_eq (pc := 8) (tgt := 24) dX7_isThrow_8 (by decide) (by split <;> (unfold zR; omega)) (fun h8 => ?_) (fun h8 => ?_)
  · refine rr_iconst (n := 0) dX7_isThrow_24 ?_
    exact rr_reti (pc := 25) dX7_isThrow_25 rfl rfl (if_neg (fun z => (z_i10 h8) ⟨z.1, z.2.1⟩)).symm rfl (hq)
  · refine rr_iload_n (pc := 11) dX7_isThrow_11 rfl ?_
    refine rr_iconst (n := 0) dX7_isThrow_12 ?_
    refine rr_iconst (n := 1) dX7_isThrow_13 ?_
    refine rr_sta0 (M' := MX7_isIn) (As := [_, _, _]) (pc := 14) dX7_isThrow_14 lX7_69 kX7_isIn sX7_isIn (by decide) (by decide) (Nat.le_of_ble_eq_true rfl) rfl (eX7_isIn hz2 (by unfold zR; omega) (by unfold zR; omega) ?_)
    refine rr_if_eq (pc := 17) (tgt := 24) dX7_isThrow_17 (by decide) (by split <;> (unfold zR; omega)) (fun h17 => ?_) (fun h17 => ?_)
    · refine rr_iconst (n := 0) dX7_isThrow_24 ?_
      exact rr_reti (pc := 25) dX7_isThrow_25 rfl rfl (if_neg (fun z => (z_i10 h17) z.2.2)).symm rfl (hq)
    · refine rr_iconst (n := 1) dX7_isThrow_20 ?_
      refine rr_goto (pc := 21) (tgt := 25) dX7_isThrow_21 (by decide) ?_
      exact rr_reti (pc := 25) dX7_isThrow_25 rfl rfl (if_pos ⟨(z_i10n h8).1, (z_i10n h8).2, z_i10n h17⟩).symm rfl (hq)
theorem dX7_faultOf_0 : decode cX7_faultOf 0 = .ok (.iload_n 2, 1) := by decide +kernel
theorem dX7_faultOf_1 : decode cX7_faultOf 1 = .ok (.aload_n 0, 1) := by decide +kernel
theorem dX7_faultOf_2 : decode cX7_faultOf 2 = .ok (.getfield 7, 3) := by decide +kernel
theorem dX7_faultOf_5 : decode cX7_faultOf 5 = .ok (.iconst 3, 1) := by decide +kernel
theorem dX7_faultOf_6 : decode cX7_faultOf 6 = .ok (.iaload, 1) := by decide +kernel
theorem dX7_faultOf_7 : decode cX7_faultOf 7 = .ok (.iadd, 1) := by decide +kernel
theorem dX7_faultOf_8 : decode cX7_faultOf 8 = .ok (.istore 4, 2) := by decide +kernel
theorem dX7_faultOf_10 : decode cX7_faultOf 10 = .ok (.iload 4, 2) := by decide +kernel
theorem dX7_faultOf_12 : decode cX7_faultOf 12 = .ok (.ifCond .lt 17, 3) := by decide +kernel
theorem dX7_faultOf_15 : decode cX7_faultOf 15 = .ok (.iload 4, 2) := by decide +kernel
theorem dX7_faultOf_17 : decode cX7_faultOf 17 = .ok (.bipush 10, 2) := by decide +kernel
theorem dX7_faultOf_19 : decode cX7_faultOf 19 = .ok (.idiv, 1) := by decide +kernel
theorem dX7_faultOf_20 : decode cX7_faultOf 20 = .ok (.aload_n 0, 1) := by decide +kernel
theorem dX7_faultOf_21 : decode cX7_faultOf 21 = .ok (.getfield 7, 3) := by decide +kernel
theorem dX7_faultOf_24 : decode cX7_faultOf 24 = .ok (.iconst 0, 1) := by decide +kernel
theorem dX7_faultOf_25 : decode cX7_faultOf 25 = .ok (.iaload, 1) := by decide +kernel
theorem dX7_faultOf_26 : decode cX7_faultOf 26 = .ok (.if_icmp .lt 5, 3) := by decide +kernel
theorem dX7_faultOf_29 : decode cX7_faultOf 29 = .ok (.iconst 1, 1) := by decide +kernel
theorem dX7_faultOf_30 : decode cX7_faultOf 30 = .ok (.ireturn, 1) := by decide +kernel
theorem dX7_faultOf_31 : decode cX7_faultOf 31 = .ok (.iload 4, 2) := by decide +kernel
theorem dX7_faultOf_33 : decode cX7_faultOf 33 = .ok (.bipush 10, 2) := by decide +kernel
theorem dX7_faultOf_35 : decode cX7_faultOf 35 = .ok (.irem, 1) := by decide +kernel
theorem dX7_faultOf_36 : decode cX7_faultOf 36 = .ok (.ifCond .ne 5, 3) := by decide +kernel
theorem dX7_faultOf_39 : decode cX7_faultOf 39 = .ok (.iconst 2, 1) := by decide +kernel
theorem dX7_faultOf_40 : decode cX7_faultOf 40 = .ok (.ireturn, 1) := by decide +kernel
theorem dX7_faultOf_41 : decode cX7_faultOf 41 = .ok (.iload 4, 2) := by decide +kernel
theorem dX7_faultOf_43 : decode cX7_faultOf 43 = .ok (.bipush 10, 2) := by decide +kernel
theorem dX7_faultOf_45 : decode cX7_faultOf 45 = .ok (.idiv, 1) := by decide +kernel
theorem dX7_faultOf_46 : decode cX7_faultOf 46 = .ok (.istore 5, 2) := by decide +kernel
theorem dX7_faultOf_48 : decode cX7_faultOf 48 = .ok (.aload_n 0, 1) := by decide +kernel
theorem dX7_faultOf_49 : decode cX7_faultOf 49 = .ok (.iload 5, 2) := by decide +kernel
theorem dX7_faultOf_51 : decode cX7_faultOf 51 = .ok (.invokevirtual 212, 3) := by decide +kernel
theorem dX7_faultOf_54 : decode cX7_faultOf 54 = .ok (.aload_n 0, 1) := by decide +kernel
theorem dX7_faultOf_55 : decode cX7_faultOf 55 = .ok (.getfield 7, 3) := by decide +kernel
theorem dX7_faultOf_58 : decode cX7_faultOf 58 = .ok (.bipush 8, 2) := by decide +kernel
theorem dX7_faultOf_60 : decode cX7_faultOf 60 = .ok (.iload 5, 2) := by decide +kernel
theorem dX7_faultOf_62 : decode cX7_faultOf 62 = .ok (.iadd, 1) := by decide +kernel
theorem dX7_faultOf_63 : decode cX7_faultOf 63 = .ok (.iaload, 1) := by decide +kernel
theorem dX7_faultOf_64 : decode cX7_faultOf 64 = .ok (.iconst 2, 1) := by decide +kernel
theorem dX7_faultOf_65 : decode cX7_faultOf 65 = .ok (.if_icmp .ne 7, 3) := by decide +kernel
theorem dX7_faultOf_68 : decode cX7_faultOf 68 = .ok (.iload_n 3, 1) := by decide +kernel
theorem dX7_faultOf_69 : decode cX7_faultOf 69 = .ok (.goto 4, 3) := by decide +kernel
theorem dX7_faultOf_72 : decode cX7_faultOf 72 = .ok (.iconst 0, 1) := by decide +kernel
theorem dX7_faultOf_73 : decode cX7_faultOf 73 = .ok (.iadd, 1) := by decide +kernel
theorem dX7_faultOf_74 : decode cX7_faultOf 74 = .ok (.istore 6, 2) := by decide +kernel
theorem dX7_faultOf_76 : decode cX7_faultOf 76 = .ok (.iload 6, 2) := by decide +kernel
theorem dX7_faultOf_78 : decode cX7_faultOf 78 = .ok (.aload_n 0, 1) := by decide +kernel
theorem dX7_faultOf_79 : decode cX7_faultOf 79 = .ok (.iload_n 1, 1) := by decide +kernel
theorem dX7_faultOf_80 : decode cX7_faultOf 80 = .ok (.iconst 2, 1) := by decide +kernel
theorem dX7_faultOf_81 : decode cX7_faultOf 81 = .ok (.invokevirtual 154, 3) := by decide +kernel
theorem dX7_faultOf_84 : decode cX7_faultOf 84 = .ok (.if_icmp .ne 7, 3) := by decide +kernel
theorem dX7_faultOf_87 : decode cX7_faultOf 87 = .ok (.iconst 0, 1) := by decide +kernel
theorem dX7_faultOf_88 : decode cX7_faultOf 88 = .ok (.goto 4, 3) := by decide +kernel
theorem dX7_faultOf_91 : decode cX7_faultOf 91 = .ok (.iconst 3, 1) := by decide +kernel
theorem dX7_faultOf_92 : decode cX7_faultOf 92 = .ok (.ireturn, 1) := by decide +kernel
theorem eX7_faultOf {W : zWd} {a : Int → Int} {T : Int} {p : Int} {r s : Int} {Q : Option Value → zWd → Prop} {X : zX} (ha : W 117 = a) (hw : zWf T a) (hp0 : 0 ≤ p) (hp1 : p < a 2) (h0 : 0 ≤ r) (h1 : r ≤ 199) (g0 : 0 ≤ s) (g1 : s ≤ 1) (hq : Q (some (zI (aFault a p r s))) W) : Ev MX7_faultOf 1 0 W [.ref 116, zI p, zI r, zI s] Q X := by
  refine ev_of (ls := [.ref 116, zI p, zI r, zI s, .null, .null, .null]) (by decide) rfl (fun _ => rfl) (fun _ => Nat.le_of_ble_eq_true rfl) (Or.inl rfl) ?_
  obtain ⟨w0, w0', wW, w1, w2, w2', w3, w3', w4, w4', w5, w5', w6, w6', w7, w7', wS, wP, wT⟩ := id hw
  have wq := zWf.sq hw
  have hm2 := wP p hp0 hp1
  unfold zWfP at hm2
  refine rr_iload_n (pc := 0) dX7_faultOf_0 rfl ?_
  refine rr_aload_n (pc := 1) dX7_faultOf_1 rfl ?_
  refine rr_getR (pc := 2) dX7_faultOf_2 fX7_7 zk_116 zr_116_0 ?_
  refine rr_iconst (n := 3) dX7_faultOf_5 ?_
  refine rr_iald (pc := 6) dX7_faultOf_6 zk_117 (by omega) (by omega) ?_
  rw [ha]
  refine rr_iadd (pc := 7) dX7_faultOf_7 ?_
  refine rr_istore (pc := 8) dX7_faultOf_8 (by decide) ?_
  refine rr_iload (pc := 10) dX7_faultOf_10 rfl ?_
  refine rr_if_lt (pc := 12) (tgt := 29) dX7_faultOf_12 (by decide) (by unfold zR; omega) (fun h12 => ?_) (fun h12 => ?_)
  · refine rr_iconst (n := 1) dX7_faultOf_29 ?_
    exact rr_reti (pc := 30) dX7_faultOf_30 rfl rfl (if_pos (by omega)).symm rfl (hq)
  · refine rr_iload (pc := 15) dX7_faultOf_15 rfl ?_
    refine rr_bipush (n := (10)) dX7_faultOf_17 ?_
    refine rr_idiv (pc := 19) dX7_faultOf_19 (by omega) (by omega) (by omega) (by omega) ?_
    refine rr_aload_n (pc := 20) dX7_faultOf_20 rfl ?_
    refine rr_getR (pc := 21) dX7_faultOf_21 fX7_7 zk_116 zr_116_0 ?_
    refine rr_iconst (n := 0) dX7_faultOf_24 ?_
    refine rr_iald (pc := 25) dX7_faultOf_25 zk_117 (by omega) (by omega) ?_
    rw [ha]
    refine rr_icmp_lt (pc := 26) (tgt := 31) dX7_faultOf_26 (by decide) (by unfold zR; omega) (by unfold zR; omega) (fun h26 => ?_) (fun h26 => ?_)
    · refine rr_iload (pc := 31) dX7_faultOf_31 rfl ?_
      refine rr_bipush (n := (10)) dX7_faultOf_33 ?_
      refine rr_irem (pc := 35) dX7_faultOf_35 (by omega) (by omega) (by omega) (by omega) ?_
      refine rr_if_ne (pc := 36) (tgt := 41) dX7_faultOf_36 (by decide) (by unfold zR; omega) (fun h36 => ?_) (fun h36 => ?_)
      · refine rr_iload (pc := 41) dX7_faultOf_41 rfl ?_
        refine rr_bipush (n := (10)) dX7_faultOf_43 ?_
        refine rr_idiv (pc := 45) dX7_faultOf_45 (by omega) (by omega) (by omega) (by omega) ?_
        refine rr_istore (pc := 46) dX7_faultOf_46 (by decide) ?_
        refine rr_aload_n (pc := 48) dX7_faultOf_48 rfl ?_
        refine rr_iload (pc := 49) dX7_faultOf_49 rfl ?_
        refine rr_inv0 (M' := MX7_firstOf) (k := 116) (As := [_]) (pc := 51) dX7_faultOf_51 lX7_212 kX7_firstOf vX7_firstOf zk_116 (by decide) rfl (by decide) (by decide) (Nat.le_of_ble_eq_true rfl) rfl (eX7_firstOf (by omega) (by omega) ?_)
        rw [ha]
        have hfl := aF_lo hw (r := ((r + a 3) / 10).toNat) (by omega)
        have hww := wW ((r + a 3) / 10) (by omega) (by omega)
        refine rr_aload_n (pc := 54) dX7_faultOf_54 rfl ?_
        refine rr_getR (pc := 55) dX7_faultOf_55 fX7_7 zk_116 zr_116_0 ?_
        refine rr_bipush (n := (8)) dX7_faultOf_58 ?_
        refine rr_iload (pc := 60) dX7_faultOf_60 rfl ?_
        refine rr_iadd (pc := 62) dX7_faultOf_62 ?_
        refine rr_iald (pc := 63) dX7_faultOf_63 zk_117 (by omega) (by omega) ?_
        rw [ha]
        refine rr_iconst (n := 2) dX7_faultOf_64 ?_
        refine rr_icmp_ne (pc := 65) (tgt := 72) dX7_faultOf_65 (by decide) (by unfold zR; omega) (by unfold zR; omega) (fun h65 => ?_) (fun h65 => ?_)
        · refine rr_iconst (n := 0) dX7_faultOf_72 ?_
          refine rr_iadd (pc := 73) dX7_faultOf_73 ?_
          refine rr_istore (pc := 74) dX7_faultOf_74 (by decide) ?_
          refine rr_iload (pc := 76) dX7_faultOf_76 rfl ?_
          refine rr_aload_n (pc := 78) dX7_faultOf_78 rfl ?_
          refine rr_iload_n (pc := 79) dX7_faultOf_79 rfl ?_
          refine rr_iconst (n := 2) dX7_faultOf_80 ?_
          refine rr_inv0 (M' := MX7_of) (k := 116) (As := [_, _]) (pc := 81) dX7_faultOf_81 lX7_154 kX7_of vX7_of zk_116 (by decide) rfl (by decide) (by decide) (Nat.le_of_ble_eq_true rfl) rfl (eX7_of (by omega) (by omega) (by omega) (by omega) ?_)
          rw [ha]
          refine rr_icmp_ne (pc := 84) (tgt := 91) dX7_faultOf_84 (by decide) (by unfold zR; omega) (by unfold zR; omega) (fun h84 => ?_) (fun h84 => ?_)
          · refine rr_iconst (n := 3) dX7_faultOf_91 ?_
            exact rr_reti (pc := 92) dX7_faultOf_92 rfl rfl (by unfold aFault; rw [if_neg (by omega), if_neg (by omega), if_neg h65, if_neg (by omega)]) rfl (hq)
          · refine rr_iconst (n := 0) dX7_faultOf_87 ?_
            refine rr_goto (pc := 88) (tgt := 92) dX7_faultOf_88 (by decide) ?_
            exact rr_reti (pc := 92) dX7_faultOf_92 rfl rfl (by unfold aFault; rw [if_neg (by omega), if_neg (by omega), if_neg h65, if_pos (by omega)]) rfl (hq)
        · refine rr_iload_n (pc := 68) dX7_faultOf_68 rfl ?_
          refine rr_goto (pc := 69) (tgt := 73) dX7_faultOf_69 (by decide) ?_
          refine rr_iadd (pc := 73) dX7_faultOf_73 ?_
          refine rr_istore (pc := 74) dX7_faultOf_74 (by decide) ?_
          refine rr_iload (pc := 76) dX7_faultOf_76 rfl ?_
          refine rr_aload_n (pc := 78) dX7_faultOf_78 rfl ?_
          refine rr_iload_n (pc := 79) dX7_faultOf_79 rfl ?_
          refine rr_iconst (n := 2) dX7_faultOf_80 ?_
          refine rr_inv0 (M' := MX7_of) (k := 116) (As := [_, _]) (pc := 81) dX7_faultOf_81 lX7_154 kX7_of vX7_of zk_116 (by decide) rfl (by decide) (by decide) (Nat.le_of_ble_eq_true rfl) rfl (eX7_of (by omega) (by omega) (by omega) (by omega) ?_)
          rw [ha]
          refine rr_icmp_ne (pc := 84) (tgt := 91) dX7_faultOf_84 (by decide) (by unfold zR; omega) (by unfold zR; omega) (fun h84 => ?_) (fun h84 => ?_)
          · refine rr_iconst (n := 3) dX7_faultOf_91 ?_
            exact rr_reti (pc := 92) dX7_faultOf_92 rfl rfl (by unfold aFault; rw [if_neg (by omega), if_neg (by omega), if_pos h65, if_neg (by omega)]) rfl (hq)
          · refine rr_iconst (n := 0) dX7_faultOf_87 ?_
            refine rr_goto (pc := 88) (tgt := 92) dX7_faultOf_88 (by decide) ?_
            exact rr_reti (pc := 92) dX7_faultOf_92 rfl rfl (by unfold aFault; rw [if_neg (by omega), if_neg (by omega), if_pos h65, if_pos (by omega)]) rfl (hq)
      · refine rr_iconst (n := 2) dX7_faultOf_39 ?_
        exact rr_reti (pc := 40) dX7_faultOf_40 rfl rfl (by unfold aFault; rw [if_neg (by omega), if_pos (by omega)]) rfl (hq)
    · refine rr_iconst (n := 1) dX7_faultOf_29 ?_
      exact rr_reti (pc := 30) dX7_faultOf_30 rfl rfl (if_pos (by omega)).symm rfl (hq)
