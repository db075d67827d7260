def zByt (W : zWd) : Prop := ∀ i : Int, 0 ≤ i → i < 48 → -128 ≤ W (8 + 6) i ∧ W (8 + 6) i < 128
theorem zCR.by8 {W : zWd} {a : Int → Int} (h : zCR W 8 a) : zByt W := h.2.2.2.2.2.2.2.2.2.2.2
theorem zWc_R {F : Nat → Int} {L must rc bal : Nat} : zR (zWc F L must rc bal) := by
  have := zWc_rng (F := F) (L := L) (must := must) (rc := rc) (bal := bal)
  unfold zR; omega
theorem aHopF_R {a : Int → Int} {q : Int} : -1 ≤ aHopF a q ∧ aHopF a q ≤ 5 := by
  unfold aHopF
  split
  · omega
  · split
    · omega
    · split <;> omega
theorem aRc_rng {T : Int} {a : Int → Int} {p : Int} (hw : zWf T a) (h0 : 0 ≤ p) (h1 : p < a 2) : 1 ≤ aRc a p ∧ aRc a p ≤ 4 ∧ aP a p 0 = ((aRc a p : Nat) : Int) := by
  have hm2 := hw.2.2.2.2.2.2.2.2.2.2.2.2.2.2.2.2.2.1 p h0 h1
  unfold zWfP at hm2
  unfold aRc; omega
def vPlace (a : Int → Int) (p b h : Int) : Int := if h < ((aWay a p (aP a p 2) (aRc a p) b).length : Int) then (if zRa b (a 0 + 1) ((aWay a p (aP a p 2) (aRc a p) b).getD h.toNat 0 : Nat) < 0 then -100 else zRa b (a 0 + 1) ((aWay a p (aP a p 2) (aRc a p) b).getD h.toNat 0 : Nat)) else -1
def aLr (a : Int → Int) (p : Int) : Nat → Nat → Int
  | 0, _ => -1
  | n + 1, r => if aCost a p (aP a p 2) r 0 = -1 ∨ aCost a p (aP a p 2) r 1 = -1 then aLr a p n (r + 1) else r
theorem dX6_hopFault_0 : decode cX6_hopFault 0 = .ok (.aload_n 0, 1) := by decide +kernel
theorem dX6_hopFault_1 : decode cX6_hopFault 1 = .ok (.iload_n 1, 1) := by decide +kernel
theorem dX6_hopFault_2 : decode cX6_hopFault 2 = .ok (.invokevirtual 139, 3) := by decide +kernel
theorem dX6_hopFault_5 : decode cX6_hopFault 5 = .ok (.aload_n 0, 1) := by decide +kernel
theorem dX6_hopFault_6 : decode cX6_hopFault 6 = .ok (.getfield 22, 3) := by decide +kernel
theorem dX6_hopFault_9 : decode cX6_hopFault 9 = .ok (.aload_n 0, 1) := by decide +kernel
theorem dX6_hopFault_10 : decode cX6_hopFault 10 = .ok (.getfield 12, 3) := by decide +kernel
theorem dX6_hopFault_13 : decode cX6_hopFault 13 = .ok (.iload_n 1, 1) := by decide +kernel
theorem dX6_hopFault_14 : decode cX6_hopFault 14 = .ok (.invokevirtual 201, 3) := by decide +kernel
theorem dX6_hopFault_17 : decode cX6_hopFault 17 = .ok (.ireturn, 1) := by decide +kernel
theorem eX6_hopFault {W : zWd} {a : Int → Int} {T : Int} {p : Int} {Q : Option Value → zWd → Prop} {X : zX} (hR : zCR W 0 a) (hw : zWf T a) (hg : zGm W) (hz : zR p) (hq : 0 ≤ p → p < a 2 → ∀ W' : zWd, zOffg W W' → zGm W' → Q (some (zI (aHopF a p))) W') (hx : ¬ (0 ≤ p ∧ p < a 2) → X "java/lang/IndexOutOfBoundsException" W) : Ev MX6_hopFault 8 1 W [.ref 96, zI p] Q X := by
  refine ev_of (ls := [.ref 96, zI p]) (by decide) rfl (fun _ => rfl) (fun _ => Nat.le_of_ble_eq_true rfl) (Or.inr (by decide)) ?_
  obtain ⟨r0, r1, r2, r3, r4, r5, r6, r7, rF, rS, rP, rB⟩ := id hR
  obtain ⟨w0, w0', wW, w1, w2, w2', w3, w3', w4, w4', w5, w5', w6, w6', w7, w7', wS, wP, wT⟩ := id hw
  have wq := zWf.sq hw
  have hn0 : zR (W 0 0) := by unfold zR; omega
  have hn1 : zR (W 0 1) := by unfold zR; omega
  have hn2 : zR (W 0 2) := by unfold zR; omega
  refine rr_aload_n (pc := 0) dX6_hopFault_0 rfl ?_
  refine rr_iload_n (pc := 1) dX6_hopFault_1 rfl ?_
  refine rr_inv (M' := MX6_checkPlayer) (k := 96) (As := [_]) (t' := 1) (pc := 2) dX6_hopFault_2 lX6_139 kX6_checkPlayer vX6_checkPlayer zk_96 (by decide) rfl (by decide) (by decide) (by decide) (Nat.le_of_ble_eq_true rfl) rfl (eX6_checkPlayer hz hn2 (fun k0 k1 => ?_) (fun k => hx (by omega)))
  rw [r2] at k1
  refine rr_aload_n (pc := 5) dX6_hopFault_5 rfl ?_
  refine rr_getR (pc := 6) dX6_hopFault_6 fX6_22 zk_96 zr_96_2 ?_
  refine rr_aload_n (pc := 9) dX6_hopFault_9 rfl ?_
  refine rr_getR (pc := 10) dX6_hopFault_10 fX6_12 zk_96 zr_96_0 ?_
  refine rr_iload_n (pc := 13) dX6_hopFault_13 rfl ?_
  refine rr_invN (M' := MX1_faultOfHops) (k := 97) (As := [_, _]) (pc := 14) dX6_hopFault_14 lX6_201 kX1_faultOfHops vX1_faultOfHops zk_97 (by decide) rfl (by decide) (by decide) (Nat.le_of_ble_eq_true rfl) rfl (eX1_faultOfHops zCt_0 hR hw hg k0 k1 (fun W1 o1 g1 l1 => ?_))
  exact rr_reti (pc := 17) dX6_hopFault_17 rfl rfl rfl rfl (hq k0 k1 W1 o1 g1)
theorem dX6_cost_0 : decode cX6_cost 0 = .ok (.aload_n 0, 1) := by decide +kernel
theorem dX6_cost_1 : decode cX6_cost 1 = .ok (.iload_n 1, 1) := by decide +kernel
theorem dX6_cost_2 : decode cX6_cost 2 = .ok (.invokevirtual 139, 3) := by decide +kernel
theorem dX6_cost_5 : decode cX6_cost 5 = .ok (.aload_n 0, 1) := by decide +kernel
theorem dX6_cost_6 : decode cX6_cost 6 = .ok (.getfield 22, 3) := by decide +kernel
theorem dX6_cost_9 : decode cX6_cost 9 = .ok (.aload_n 0, 1) := by decide +kernel
theorem dX6_cost_10 : decode cX6_cost 10 = .ok (.getfield 12, 3) := by decide +kernel
theorem dX6_cost_13 : decode cX6_cost 13 = .ok (.iload_n 1, 1) := by decide +kernel
theorem dX6_cost_14 : decode cX6_cost 14 = .ok (.iload_n 2, 1) := by decide +kernel
theorem dX6_cost_15 : decode cX6_cost 15 = .ok (.invokevirtual 205, 3) := by decide +kernel
theorem dX6_cost_18 : decode cX6_cost 18 = .ok (.astore_n 3, 1) := by decide +kernel
theorem dX6_cost_19 : decode cX6_cost 19 = .ok (.aload_n 3, 1) := by decide +kernel
theorem dX6_cost_20 : decode cX6_cost 20 = .ok (.getfield 209, 3) := by decide +kernel
theorem dX6_cost_23 : decode cX6_cost 23 = .ok (.ireturn, 1) := by decide +kernel
theorem eX6_cost {W : zWd} {a : Int → Int} {T : Int} {p b : Int} {Q : Option Value → zWd → Prop} {X : zX} (hR : zCR W 0 a) (hw : zWf T a) (hg : zGm W) (hz : zR p) (hb : b = 0 ∨ b = 1) (hq : 0 ≤ p → p < a 2 → ∀ W' : zWd, zOffg W W' → zGm W' → Q (some (zI (aCost a p (aP a p 2) (aRc a p) b))) W') (hx : ¬ (0 ≤ p ∧ p < a 2) → X "java/lang/IndexOutOfBoundsException" W) : Ev MX6_cost 8 1 W [.ref 96, zI p, zI b] Q X := by
  refine ev_of (ls := [.ref 96, zI p, zI b, .null]) (by decide) rfl (fun _ => rfl) (fun _ => Nat.le_of_ble_eq_true rfl) (Or.inr (by decide)) ?_
  obtain ⟨r0, r1, r2, r3, r4, r5, r6, r7, rF, rS, rP, rB⟩ := id hR
  obtain ⟨w0, w0', wW, w1, w2, w2', w3, w3', w4, w4', w5, w5', w6, w6', w7, w7', wS, wP, wT⟩ := id hw
  have wq := zWf.sq hw
  have hn0 : zR (W 0 0) := by unfold zR; omega
  have hn1 : zR (W 0 1) := by unfold zR; omega
  have hn2 : zR (W 0 2) := by unfold zR; omega
  obtain ⟨w, hbw, hw9⟩ : ∃ w : Nat, ((b = 0 ∧ w = 98) ∨ (b = 1 ∧ w = 103)) ∧ zWy w := by
    rcases hb with h | h
    · exact ⟨98, Or.inl ⟨h, rfl⟩, Or.inl rfl⟩
    · exact ⟨103, Or.inr ⟨h, rfl⟩, Or.inr rfl⟩
  refine rr_aload_n (pc := 0) dX6_cost_0 rfl ?_
  refine rr_iload_n (pc := 1) dX6_cost_1 rfl ?_
  refine rr_inv (M' := MX6_checkPlayer) (k := 96) (As := [_]) (t' := 1) (pc := 2) dX6_cost_2 lX6_139 kX6_checkPlayer vX6_checkPlayer zk_96 (by decide) rfl (by decide) (by decide) (by decide) (Nat.le_of_ble_eq_true rfl) rfl (eX6_checkPlayer hz hn2 (fun k0 k1 => ?_) (fun k => hx (by omega)))
  rw [r2] at k1
  refine rr_aload_n (pc := 5) dX6_cost_5 rfl ?_
  refine rr_getR (pc := 6) dX6_cost_6 fX6_22 zk_96 zr_96_2 ?_
  refine rr_aload_n (pc := 9) dX6_cost_9 rfl ?_
  refine rr_getR (pc := 10) dX6_cost_10 fX6_12 zk_96 zr_96_0 ?_
  refine rr_iload_n (pc := 13) dX6_cost_13 rfl ?_
  refine rr_iload_n (pc := 14) dX6_cost_14 rfl ?_
  refine rr_invN (M' := MX1_ownWay) (k := 97) (As := [_, _, _]) (pc := 15) dX6_cost_15 lX6_205 kX1_ownWay vX1_ownWay zk_97 (by decide) rfl (by decide) (by decide) (Nat.le_of_ble_eq_true rfl) rfl (eX1_ownWay (w := w) zCt_0 hR hw hg k0 k1 hbw (fun W1 o1 g1 l1 => ?_))
  refine rr_astore_n (pc := 18) dX6_cost_18 (by decide) ?_
  refine rr_aload_n (pc := 19) dX6_cost_19 rfl ?_
  refine rr_getI (pc := 20) (ji := 1) dX6_cost_20 fX6_209 hw9.k hw9.i1 rfl ?_
  rw [l1.1]
  exact rr_reti (pc := 23) dX6_cost_23 rfl rfl rfl rfl (hq k0 k1 W1 o1 g1)
theorem dX6_place_0 : decode cX6_place 0 = .ok (.aload_n 0, 1) := by decide +kernel
theorem dX6_place_1 : decode cX6_place 1 = .ok (.iload_n 1, 1) := by decide +kernel
theorem dX6_place_2 : decode cX6_place 2 = .ok (.invokevirtual 139, 3) := by decide +kernel
theorem dX6_place_5 : decode cX6_place 5 = .ok (.iload_n 3, 1) := by decide +kernel
theorem dX6_place_6 : decode cX6_place 6 = .ok (.ifCond .ge 13, 3) := by decide +kernel
theorem dX6_place_9 : decode cX6_place 9 = .ok (.new 214, 3) := by decide +kernel
theorem dX6_place_12 : decode cX6_place 12 = .ok (.dup, 1) := by decide +kernel
theorem dX6_place_13 : decode cX6_place 13 = .ok (.ldc 216, 2) := by decide +kernel
theorem dX6_place_15 : decode cX6_place 15 = .ok (.invokespecial 218, 3) := by decide +kernel
theorem dX6_place_18 : decode cX6_place 18 = .ok (.athrow, 1) := by decide +kernel
theorem dX6_place_19 : decode cX6_place 19 = .ok (.aload_n 0, 1) := by decide +kernel
theorem dX6_place_20 : decode cX6_place 20 = .ok (.getfield 22, 3) := by decide +kernel
theorem dX6_place_23 : decode cX6_place 23 = .ok (.aload_n 0, 1) := by decide +kernel
theorem dX6_place_24 : decode cX6_place 24 = .ok (.getfield 12, 3) := by decide +kernel
theorem dX6_place_27 : decode cX6_place 27 = .ok (.iload_n 1, 1) := by decide +kernel
theorem dX6_place_28 : decode cX6_place 28 = .ok (.iload_n 2, 1) := by decide +kernel
theorem dX6_place_29 : decode cX6_place 29 = .ok (.invokevirtual 205, 3) := by decide +kernel
theorem dX6_place_32 : decode cX6_place 32 = .ok (.astore 4, 2) := by decide +kernel
theorem dX6_place_34 : decode cX6_place 34 = .ok (.iload_n 3, 1) := by decide +kernel
theorem dX6_place_35 : decode cX6_place 35 = .ok (.aload 4, 2) := by decide +kernel
theorem dX6_place_37 : decode cX6_place 37 = .ok (.getfield 219, 3) := by decide +kernel
theorem dX6_place_40 : decode cX6_place 40 = .ok (.if_icmp .lt 5, 3) := by decide +kernel
theorem dX6_place_43 : decode cX6_place 43 = .ok (.iconst (-1), 1) := by decide +kernel
theorem dX6_place_44 : decode cX6_place 44 = .ok (.ireturn, 1) := by decide +kernel
theorem dX6_place_45 : decode cX6_place 45 = .ok (.aload 4, 2) := by decide +kernel
theorem dX6_place_47 : decode cX6_place 47 = .ok (.getfield 220, 3) := by decide +kernel
theorem dX6_place_50 : decode cX6_place 50 = .ok (.iload_n 3, 1) := by decide +kernel
theorem dX6_place_51 : decode cX6_place 51 = .ok (.iaload, 1) := by decide +kernel
theorem dX6_place_52 : decode cX6_place 52 = .ok (.istore 5, 2) := by decide +kernel
theorem dX6_place_54 : decode cX6_place 54 = .ok (.iload 5, 2) := by decide +kernel
theorem dX6_place_56 : decode cX6_place 56 = .ok (.ifCond .ge 8, 3) := by decide +kernel
theorem dX6_place_59 : decode cX6_place 59 = .ok (.bipush (-100), 2) := by decide +kernel
theorem dX6_place_61 : decode cX6_place 61 = .ok (.goto 5, 3) := by decide +kernel
theorem dX6_place_64 : decode cX6_place 64 = .ok (.iload 5, 2) := by decide +kernel
theorem dX6_place_66 : decode cX6_place 66 = .ok (.ireturn, 1) := by decide +kernel
theorem eX6_place {W : zWd} {a : Int → Int} {T : Int} {p b h : Int} {Q : Option Value → zWd → Prop} {X : zX} (hR : zCR W 0 a) (hw : zWf T a) (hg : zGm W) (hz : zR p) (hz2 : zR h) (hb : b = 0 ∨ b = 1) (hq : 0 ≤ p → p < a 2 → 0 ≤ h → ∀ W' : zWd, zOffg W W' → zGm W' → Q (some (zI (vPlace a p b h))) W') (hx : ¬ (0 ≤ p ∧ p < a 2 ∧ 0 ≤ h) → X "java/lang/IndexOutOfBoundsException" W) : Ev MX6_place 8 2 W [.ref 96, zI p, zI b, zI h] Q X := by
  refine ev_of (ls := [.ref 96, zI p, zI b, zI h, .null, .null]) (by decide) rfl (fun _ => rfl) (fun _ => Nat.le_of_ble_eq_true rfl) (Or.inr (by decide)) ?_
  obtain ⟨r0, r1, r2, r3, r4, r5, r6, r7, rF, rS, rP, rB⟩ := id hR
  obtain ⟨w0, w0', wW, w1, w2, w2', w3, w3', w4, w4', w5, w5', w6, w6', w7, w7', wS, wP, wT⟩ := id hw
  have wq := zWf.sq hw
  have hn0 : zR (W 0 0) := by unfold zR; omega
  have hn1 : zR (W 0 1) := by unfold zR; omega
  have hn2 : zR (W 0 2) := by unfold zR; omega
  obtain ⟨w, hbw, hw9⟩ : ∃ w : Nat, ((b = 0 ∧ w = 98) ∨ (b = 1 ∧ w = 103)) ∧ zWy w := by
    rcases hb with h | h
    · exact ⟨98, Or.inl ⟨h, rfl⟩, Or.inl rfl⟩
    · exact ⟨103, Or.inr ⟨h, rfl⟩, Or.inr rfl⟩
  refine rr_aload_n (pc := 0) dX6_place_0 rfl ?_
  refine rr_iload_n (pc := 1) dX6_place_1 rfl ?_
  refine rr_inv (M' := MX6_checkPlayer) (k := 96) (As := [_]) (t' := 1) (pc := 2) dX6_place_2 lX6_139 kX6_checkPlayer vX6_checkPlayer zk_96 (by decide) rfl (by decide) (by decide) (by decide) (Nat.le_of_ble_eq_true rfl) rfl (eX6_checkPlayer hz hn2 (fun k0 k1 => ?_) (fun k => hx (by omega)))
  rw [r2] at k1
  refine rr_iload_n (pc := 5) dX6_place_5 rfl ?_
  refine rr_if_ge (pc := 6) (tgt := 19) dX6_place_6 (by decide) hz2 (fun h6 => ?_) (fun h6 => ?_)
  · refine rr_aload_n (pc := 19) dX6_place_19 rfl ?_
    refine rr_getR (pc := 20) dX6_place_20 fX6_22 zk_96 zr_96_2 ?_
    refine rr_aload_n (pc := 23) dX6_place_23 rfl ?_
    refine rr_getR (pc := 24) dX6_place_24 fX6_12 zk_96 zr_96_0 ?_
    refine rr_iload_n (pc := 27) dX6_place_27 rfl ?_
    refine rr_iload_n (pc := 28) dX6_place_28 rfl ?_
    refine rr_invN (M' := MX1_ownWay) (k := 97) (As := [_, _, _]) (pc := 29) dX6_place_29 lX6_205 kX1_ownWay vX1_ownWay zk_97 (by decide) rfl (by decide) (by decide) (Nat.le_of_ble_eq_true rfl) rfl (eX1_ownWay (w := w) zCt_0 hR hw hg k0 k1 hbw (fun W1 o1 g1 l1 => ?_))
    have hln := aWay_len (a := a) (q := p) (tg := aP a p 2) (rc := aRc a p) (bk := b) (by omega) (by omega)
    refine rr_astore (pc := 32) dX6_place_32 (by decide) ?_
    refine rr_iload_n (pc := 34) dX6_place_34 rfl ?_
    refine rr_aload (pc := 35) dX6_place_35 rfl ?_
    refine rr_getI (pc := 37) (ji := 2) dX6_place_37 fX6_219 hw9.k hw9.i2 rfl ?_
    rw [l1.2.1]
    refine rr_icmp_lt (pc := 40) (tgt := 45) dX6_place_40 (by decide) hz2 (by unfold zR; omega) (fun h40 => ?_) (fun h40 => ?_)
    · refine rr_aload (pc := 45) dX6_place_45 rfl ?_
      refine rr_getR (pc := 47) dX6_place_47 fX6_220 hw9.k hw9.r3 ?_
      refine rr_iload_n (pc := 50) dX6_place_50 rfl ?_
      refine rr_iald (pc := 51) dX6_place_51 hw9.a1 (by omega) (by omega) ?_
      have hrw := l1.2.2 h.toNat (by omega)
      rw [show ((h.toNat : Nat) : Int) = h by omega] at hrw
      have hrr : zR (zRa b (a 0 + 1) ((aWay a p (aP a p 2) (aRc a p) b).getD h.toNat 0 : Nat)) := by
        have h9 := aWay_R (a := a) (q := p) (tg := aP a p 2) (rc := aRc a p) (bk := b) (by omega) (by omega) h.toNat (by rw [aRows_len]; omega)
        unfold aRows at h9; rw [z_mapD (by omega)] at h9; exact h9
      rw [hrw]
      refine rr_istore (pc := 52) dX6_place_52 (by decide) ?_
      refine rr_iload (pc := 54) dX6_place_54 rfl ?_
      refine rr_if_ge (pc := 56) (tgt := 64) dX6_place_56 (by decide) hrr (fun h56 => ?_) (fun h56 => ?_)
      · refine rr_iload (pc := 64) dX6_place_64 rfl ?_
        exact rr_reti (pc := 66) dX6_place_66 rfl rfl (by unfold vPlace; rw [if_pos h40, if_neg (by omega)]) rfl (hq k0 k1 (by omega) W1 o1 g1)
      · refine rr_bipush (n := (-100)) dX6_place_59 ?_
        refine rr_goto (pc := 61) (tgt := 66) dX6_place_61 (by decide) ?_
        exact rr_reti (pc := 66) dX6_place_66 rfl rfl (by unfold vPlace; rw [if_pos h40, if_pos (by omega)]) rfl (hq k0 k1 (by omega) W1 o1 g1)
    · refine rr_iconst (n := (-1)) dX6_place_43 ?_
      exact rr_reti (pc := 44) dX6_place_44 rfl rfl (by unfold vPlace; rw [if_neg (by omega)]) rfl (hq k0 k1 (by omega) W1 o1 g1)
  · exact rr_thr (by decide) tX6_place_9 (hx (by omega))
theorem dX6_leastReach_0 : decode cX6_leastReach 0 = .ok (.aload_n 0, 1) := by decide +kernel
theorem dX6_leastReach_1 : decode cX6_leastReach 1 = .ok (.iload_n 1, 1) := by decide +kernel
theorem dX6_leastReach_2 : decode cX6_leastReach 2 = .ok (.invokevirtual 139, 3) := by decide +kernel
theorem dX6_leastReach_5 : decode cX6_leastReach 5 = .ok (.aload_n 0, 1) := by decide +kernel
theorem dX6_leastReach_6 : decode cX6_leastReach 6 = .ok (.getfield 12, 3) := by decide +kernel
theorem dX6_leastReach_9 : decode cX6_leastReach 9 = .ok (.iload_n 1, 1) := by decide +kernel
theorem dX6_leastReach_10 : decode cX6_leastReach 10 = .ok (.iconst 2, 1) := by decide +kernel
theorem dX6_leastReach_11 : decode cX6_leastReach 11 = .ok (.invokevirtual 147, 3) := by decide +kernel
theorem dX6_leastReach_14 : decode cX6_leastReach 14 = .ok (.istore_n 2, 1) := by decide +kernel
theorem dX6_leastReach_15 : decode cX6_leastReach 15 = .ok (.iconst 1, 1) := by decide +kernel
theorem dX6_leastReach_16 : decode cX6_leastReach 16 = .ok (.istore_n 3, 1) := by decide +kernel
theorem dX6_leastReach_17 : decode cX6_leastReach 17 = .ok (.iload_n 3, 1) := by decide +kernel
theorem dX6_leastReach_18 : decode cX6_leastReach 18 = .ok (.iconst 4, 1) := by decide +kernel
theorem dX6_leastReach_19 : decode cX6_leastReach 19 = .ok (.if_icmp .gt 28, 3) := by decide +kernel
theorem dX6_leastReach_22 : decode cX6_leastReach 22 = .ok (.aload_n 0, 1) := by decide +kernel
theorem dX6_leastReach_23 : decode cX6_leastReach 23 = .ok (.getfield 22, 3) := by decide +kernel
theorem dX6_leastReach_26 : decode cX6_leastReach 26 = .ok (.aload_n 0, 1) := by decide +kernel
theorem dX6_leastReach_27 : decode cX6_leastReach 27 = .ok (.getfield 12, 3) := by decide +kernel
theorem dX6_leastReach_30 : decode cX6_leastReach 30 = .ok (.iload_n 1, 1) := by decide +kernel
theorem dX6_leastReach_31 : decode cX6_leastReach 31 = .ok (.iload_n 2, 1) := by decide +kernel
theorem dX6_leastReach_32 : decode cX6_leastReach 32 = .ok (.iload_n 3, 1) := by decide +kernel
theorem dX6_leastReach_33 : decode cX6_leastReach 33 = .ok (.invokevirtual 222, 3) := by decide +kernel
theorem dX6_leastReach_36 : decode cX6_leastReach 36 = .ok (.ifCond .eq 5, 3) := by decide +kernel
theorem dX6_leastReach_39 : decode cX6_leastReach 39 = .ok (.iload_n 3, 1) := by decide +kernel
theorem dX6_leastReach_40 : decode cX6_leastReach 40 = .ok (.ireturn, 1) := by decide +kernel
theorem dX6_leastReach_41 : decode cX6_leastReach 41 = .ok (.iinc 3 1, 3) := by decide +kernel
theorem dX6_leastReach_44 : decode cX6_leastReach 44 = .ok (.goto (-27), 3) := by decide +kernel
theorem dX6_leastReach_47 : decode cX6_leastReach 47 = .ok (.iconst (-1), 1) := by decide +kernel
theorem dX6_leastReach_48 : decode cX6_leastReach 48 = .ok (.ireturn, 1) := by decide +kernel
theorem eX6_leastReach {W : zWd} {a : Int → Int} {T : Int} {p : Int} {Q : Option Value → zWd → Prop} {X : zX} (hR : zCR W 0 a) (hw : zWf T a) (hg : zGm W) (hz : zR p) (hq : 0 ≤ p → p < a 2 → ∀ W' : zWd, zOffg W W' → zGm W' → Q (some (zI (aLr a p 4 1))) W') (hx : ¬ (0 ≤ p ∧ p < a 2) → X "java/lang/IndexOutOfBoundsException" W) : Ev MX6_leastReach 8 1 W [.ref 96, zI p] Q X := by
  refine ev_of (ls := [.ref 96, zI p, .null, .null]) (by decide) rfl (fun _ => rfl) (fun _ => Nat.le_of_ble_eq_true rfl) (Or.inr (by decide)) ?_
  obtain ⟨r0, r1, r2, r3, r4, r5, r6, r7, rF, rS, rP, rB⟩ := id hR
  obtain ⟨w0, w0', wW, w1, w2, w2', w3, w3', w4, w4', w5, w5', w6, w6', w7, w7', wS, wP, wT⟩ := id hw
  have wq := zWf.sq hw
  have hn0 : zR (W 0 0) := by unfold zR; omega
  have hn1 : zR (W 0 1) := by unfold zR; omega
  have hn2 : zR (W 0 2) := by unfold zR; omega
  refine rr_aload_n (pc := 0) dX6_leastReach_0 rfl ?_
  refine rr_iload_n (pc := 1) dX6_leastReach_1 rfl ?_
  refine rr_inv (M' := MX6_checkPlayer) (k := 96) (As := [_]) (t' := 1) (pc := 2) dX6_leastReach_2 lX6_139 kX6_checkPlayer vX6_checkPlayer zk_96 (by decide) rfl (by decide) (by decide) (by decide) (Nat.le_of_ble_eq_true rfl) rfl (eX6_checkPlayer hz hn2 (fun k0 k1 => ?_) (fun k => hx (by omega)))
  rw [r2] at k1
  have hm := rP p k0 k1
  have hm2 := wP p k0 k1
  unfold zWfP at hm2
  refine rr_aload_n (pc := 5) dX6_leastReach_5 rfl ?_
  refine rr_getR (pc := 6) dX6_leastReach_6 fX6_12 zk_96 zr_96_0 ?_
  refine rr_iload_n (pc := 9) dX6_leastReach_9 rfl ?_
  refine rr_iconst (n := 2) dX6_leastReach_10 ?_
  refine rr_invN (M' := MX0_get) (k := 0) (As := [_, _]) (pc := 11) dX6_leastReach_11 lX6_147 kX0_get vX0_get zCt_0.k (by decide) rfl (by decide) (by decide) (Nat.le_of_ble_eq_true rfl) rfl (eX0_get zCt_0 (by omega) (by omega) (by omega) (by omega) ?_)
  rw [hm.2.2.1]
  refine rr_istore_n (pc := 14) dX6_leastReach_14 (by decide) ?_
  refine rr_iconst (n := 1) dX6_leastReach_15 ?_
  refine rr_istore_n (pc := 16) dX6_leastReach_16 (by decide) ?_
  have loop : ∀ (n : Nat) (r : Nat) (Wi : zWd), 1 ≤ r → r ≤ 5 → zOffg W Wi → zGm Wi → aLr a p (5 - r) r = aLr a p 4 1 → 5 - r < n → RR MX6_leastReach 8 (1 - 1) Wi 17 [.ref 96, zI p, zI (aP a p 2), zI (r : Int)] [] (zEnd MX6_leastReach Q X) X := by
    intro n
    induction n with
    | zero => intro r Wi _ _ _ _ _ hm9; omega
    | succ n ih =>
      intro r Wi h1 h2 hO hG hL hm9
      refine rr_iload_n (pc := 17) dX6_leastReach_17 rfl ?_
      refine rr_iconst (n := 4) dX6_leastReach_18 ?_
      refine rr_icmp_gt (pc := 19) (tgt := 47) dX6_leastReach_19 (by decide) (by unfold zR; omega) (by unfold zR; omega) (fun h19 => ?_) (fun h19 => ?_)
      · refine rr_iconst (n := (-1)) dX6_leastReach_47 ?_
        rw [show 5 - r = 0 by omega] at hL
        exact rr_reti (pc := 48) dX6_leastReach_48 rfl rfl hL rfl (hq k0 k1 Wi hO hG)
      · rw [show 5 - r = (5 - (r + 1)) + 1 by omega] at hL
        unfold aLr at hL
        refine rr_aload_n (pc := 22) dX6_leastReach_22 rfl ?_
        refine rr_getR (pc := 23) dX6_leastReach_23 fX6_22 zk_96 zr_96_2 ?_
        refine rr_aload_n (pc := 26) dX6_leastReach_26 rfl ?_
        refine rr_getR (pc := 27) dX6_leastReach_27 fX6_12 zk_96 zr_96_0 ?_
        refine rr_iload_n (pc := 30) dX6_leastReach_30 rfl ?_
        refine rr_iload_n (pc := 31) dX6_leastReach_31 rfl ?_
        refine rr_iload_n (pc := 32) dX6_leastReach_32 rfl ?_
        refine rr_invN (M' := MX1_hasBothWays) (k := 97) (As := [_, _, _, _]) (pc := 33) dX6_leastReach_33 lX6_222 kX1_hasBothWays vX1_hasBothWays zk_97 (by decide) rfl (by decide) (by decide) (Nat.le_of_ble_eq_true rfl) rfl (eX1_hasBothWays zCt_0 (hR.g zCt_0 hO) hw hG k0 k1 (by unfold zR; omega) (by omega) (by omega) (fun W1 o1 g1 => ?_))
        refine rr_if_eq (pc := 36) (tgt := 41) dX6_leastReach_36 (by decide) (by split <;> (unfold zR; omega)) (fun h36 => ?_) (fun h36 => ?_)
        · refine rr_iinc (pc := 41) dX6_leastReach_41 rfl (by decide) ?_
          refine rr_goto (pc := 44) (tgt := 17) dX6_leastReach_44 (by decide) ?_
          rw [if_pos (z_i01 h36)] at hL
          exact ih (r + 1) W1 (by omega) (by omega) (hO.tr o1) g1 hL (by omega)
        · refine rr_iload_n (pc := 39) dX6_leastReach_39 rfl ?_
          rw [if_neg (z_i01n h36)] at hL
          exact rr_reti (pc := 40) dX6_leastReach_40 rfl rfl hL rfl (hq k0 k1 W1 (hO.tr o1) g1)
  exact loop _ 1 W (by omega) (by omega) zOffg.rf hg rfl (Nat.lt_succ_self _)
theorem dX6_playable_0 : decode cX6_playable 0 = .ok (.aload_n 0, 1) := by decide +kernel
theorem dX6_playable_1 : decode cX6_playable 1 = .ok (.iload_n 1, 1) := by decide +kernel
theorem dX6_playable_2 : decode cX6_playable 2 = .ok (.invokevirtual 139, 3) := by decide +kernel
theorem dX6_playable_5 : decode cX6_playable 5 = .ok (.aload_n 0, 1) := by decide +kernel
theorem dX6_playable_6 : decode cX6_playable 6 = .ok (.getfield 22, 3) := by decide +kernel
theorem dX6_playable_9 : decode cX6_playable 9 = .ok (.aload_n 0, 1) := by decide +kernel
theorem dX6_playable_10 : decode cX6_playable 10 = .ok (.getfield 12, 3) := by decide +kernel
theorem dX6_playable_13 : decode cX6_playable 13 = .ok (.iload_n 1, 1) := by decide +kernel
theorem dX6_playable_14 : decode cX6_playable 14 = .ok (.invokevirtual 226, 3) := by decide +kernel
theorem dX6_playable_17 : decode cX6_playable 17 = .ok (.ireturn, 1) := by decide +kernel
theorem eX6_playable {W : zWd} {a : Int → Int} {T : Int} {p : Int} {Q : Option Value → zWd → Prop} {X : zX} (hR : zCR W 0 a) (hw : zWf T a) (hg : zGm W) (hz : zR p) (hq : 0 ≤ p → p < a 2 → ∀ W' : zWd, zOffg W W' → zGm W' → Q (some (zI (aPlay a p))) W') (hx : ¬ (0 ≤ p ∧ p < a 2) → X "java/lang/IndexOutOfBoundsException" W) : Ev MX6_playable 8 1 W [.ref 96, zI p] Q X := by
  refine ev_of (ls := [.ref 96, zI p]) (by decide) rfl (fun _ => rfl) (fun _ => Nat.le_of_ble_eq_true rfl) (Or.inr (by decide)) ?_
  obtain ⟨r0, r1, r2, r3, r4, r5, r6, r7, rF, rS, rP, rB⟩ := id hR
  obtain ⟨w0, w0', wW, w1, w2, w2', w3, w3', w4, w4', w5, w5', w6, w6', w7, w7', wS, wP, wT⟩ := id hw
  have wq := zWf.sq hw
  have hn0 : zR (W 0 0) := by unfold zR; omega
  have hn1 : zR (W 0 1) := by unfold zR; omega
  have hn2 : zR (W 0 2) := by unfold zR; omega
  refine rr_aload_n (pc := 0) dX6_playable_0 rfl ?_
  refine rr_iload_n (pc := 1) dX6_playable_1 rfl ?_
  refine rr_inv (M' := MX6_checkPlayer) (k := 96) (As := [_]) (t' := 1) (pc := 2) dX6_playable_2 lX6_139 kX6_checkPlayer vX6_checkPlayer zk_96 (by decide) rfl (by decide) (by decide) (by decide) (Nat.le_of_ble_eq_true rfl) rfl (eX6_checkPlayer hz hn2 (fun k0 k1 => ?_) (fun k => hx (by omega)))
  rw [r2] at k1
  refine rr_aload_n (pc := 5) dX6_playable_5 rfl ?_
  refine rr_getR (pc := 6) dX6_playable_6 fX6_22 zk_96 zr_96_2 ?_
  refine rr_aload_n (pc := 9) dX6_playable_9 rfl ?_
  refine rr_getR (pc := 10) dX6_playable_10 fX6_12 zk_96 zr_96_0 ?_
  refine rr_iload_n (pc := 13) dX6_playable_13 rfl ?_
  refine rr_invN (M' := MX1_playableSquares) (k := 97) (As := [_, _]) (pc := 14) dX6_playable_14 lX6_226 kX1_playableSquares vX1_playableSquares zk_97 (by decide) rfl (by decide) (by decide) (Nat.le_of_ble_eq_true rfl) rfl (eX1_playableSquares zCt_0 hR hw hg k0 k1 (fun W1 o1 g1 => ?_))
  exact rr_reti (pc := 17) dX6_playable_17 rfl rfl rfl rfl (hq k0 k1 W1 o1 g1)
def aClm (a : Int → Int) (s p : Int) : Int → Int := iup a (18 + 2 * (s - 1) + (0 : Nat)) (p + 1)
def aBc (a : Int → Int) (p : Int) : Nat → Int × Int
  | 0 => (-1, 0)
  | n + 1 => if aO a ((n : Int) + 1) = -1 ∧ ((aBc a p n).1 = -1 ∨ aOth (aClm a ((n : Int) + 1) p) p (a 2).toNat < (aBc a p n).2) then ((n : Int) + 1, aOth (aClm a ((n : Int) + 1) p) p (a 2).toNat) else aBc a p n
theorem aBc_rng {a : Int → Int} {p : Int} (h : a 1 ≤ 20) : ∀ n : Nat, n ≤ 20 → -1 ≤ (aBc a p n).1 ∧ (aBc a p n).1 ≤ n ∧ 0 ≤ (aBc a p n).2 ∧ (aBc a p n).2 ≤ 20 * (a 2).toNat := by
  intro n
  induction n with
  | zero => intro _; exact ⟨Int.le_refl _, by show (-1 : Int) ≤ 0; omega, Int.le_refl _, by show (0 : Int) ≤ _; omega⟩
  | succ n ih =>
    intro hn
    have ih := ih (by omega)
    have h2 := aOth_rng (a := aClm a ((n : Int) + 1) p) (q := p) (by unfold aClm; rw [iup_n (by omega)]; exact h) (a 2).toNat
    unfold aBc
    split
    · exact ⟨by show (-1 : Int) ≤ (n : Int) + 1; omega, by show (n : Int) + 1 ≤ _; omega, h2.1, h2.2⟩
    · omega
theorem aClm_back {a : Int → Int} {s v : Int} (h : aO a s = -1) : iup (iup a (18 + 2 * (s - 1) + (0 : Nat)) v) (18 + 2 * (s - 1) + (0 : Nat)) (-1 + 1) = a := by
  funext j
  unfold iup
  by_cases q : j = 18 + 2 * (s - 1) + (0 : Nat)
  · rw [if_pos q]; subst q; unfold aO at h
    rw [show 18 + 2 * (s - 1) + ((0 : Nat) : Int) = 18 + 2 * (s - 1) by omega]; omega
  · rw [if_neg q, if_neg q]
theorem zOffg.q {c : Nat} {W W' : zWd} (h : zOffg W W') : zOffp c W W' := fun k _ g2 => h k g2
theorem zOffp.g {c c2 : Nat} {W W' : zWd} {a : Int → Int} (h : zOffp c W W') (hc2 : zCt c2) (hn : c + 8 ≤ c2 ∨ c2 + 8 ≤ c) (hR : zCR W c2 a) : zCR W' c2 a := CR_off hR (fun k g1 g2 => h k (by omega) (by have := hc2.lt; omega))
theorem dX6_bestClaim_0 : decode cX6_bestClaim 0 = .ok (.aload_n 0, 1) := by decide +kernel
theorem dX6_bestClaim_1 : decode cX6_bestClaim 1 = .ok (.iload_n 1, 1) := by decide +kernel
theorem dX6_bestClaim_2 : decode cX6_bestClaim 2 = .ok (.invokevirtual 139, 3) := by decide +kernel
theorem dX6_bestClaim_5 : decode cX6_bestClaim 5 = .ok (.aload_n 0, 1) := by decide +kernel
theorem dX6_bestClaim_6 : decode cX6_bestClaim 6 = .ok (.getfield 16, 3) := by decide +kernel
theorem dX6_bestClaim_9 : decode cX6_bestClaim 9 = .ok (.aload_n 0, 1) := by decide +kernel
theorem dX6_bestClaim_10 : decode cX6_bestClaim 10 = .ok (.getfield 12, 3) := by decide +kernel
theorem dX6_bestClaim_13 : decode cX6_bestClaim 13 = .ok (.invokevirtual 94, 3) := by decide +kernel
theorem dX6_bestClaim_16 : decode cX6_bestClaim 16 = .ok (.iconst (-1), 1) := by decide +kernel
theorem dX6_bestClaim_17 : decode cX6_bestClaim 17 = .ok (.istore_n 2, 1) := by decide +kernel
theorem dX6_bestClaim_18 : decode cX6_bestClaim 18 = .ok (.iconst 0, 1) := by decide +kernel
theorem dX6_bestClaim_19 : decode cX6_bestClaim 19 = .ok (.istore_n 3, 1) := by decide +kernel
theorem dX6_bestClaim_20 : decode cX6_bestClaim 20 = .ok (.iconst 1, 1) := by decide +kernel
theorem dX6_bestClaim_21 : decode cX6_bestClaim 21 = .ok (.istore 4, 2) := by decide +kernel
theorem dX6_bestClaim_23 : decode cX6_bestClaim 23 = .ok (.iload 4, 2) := by decide +kernel
theorem dX6_bestClaim_25 : decode cX6_bestClaim 25 = .ok (.aload_n 0, 1) := by decide +kernel
theorem dX6_bestClaim_26 : decode cX6_bestClaim 26 = .ok (.getfield 16, 3) := by decide +kernel
theorem dX6_bestClaim_29 : decode cX6_bestClaim 29 = .ok (.getfield 97, 3) := by decide +kernel
theorem dX6_bestClaim_32 : decode cX6_bestClaim 32 = .ok (.if_icmp .gt 76, 3) := by decide +kernel
theorem dX6_bestClaim_35 : decode cX6_bestClaim 35 = .ok (.aload_n 0, 1) := by decide +kernel
theorem dX6_bestClaim_36 : decode cX6_bestClaim 36 = .ok (.getfield 16, 3) := by decide +kernel
theorem dX6_bestClaim_39 : decode cX6_bestClaim 39 = .ok (.getfield 161, 3) := by decide +kernel
theorem dX6_bestClaim_42 : decode cX6_bestClaim 42 = .ok (.iload 4, 2) := by decide +kernel
theorem dX6_bestClaim_44 : decode cX6_bestClaim 44 = .ok (.iaload, 1) := by decide +kernel
theorem dX6_bestClaim_45 : decode cX6_bestClaim 45 = .ok (.iconst (-1), 1) := by decide +kernel
theorem dX6_bestClaim_46 : decode cX6_bestClaim 46 = .ok (.if_icmp .ne 56, 3) := by decide +kernel
theorem dX6_bestClaim_49 : decode cX6_bestClaim 49 = .ok (.aload_n 0, 1) := by decide +kernel
theorem dX6_bestClaim_50 : decode cX6_bestClaim 50 = .ok (.getfield 16, 3) := by decide +kernel
theorem dX6_bestClaim_53 : decode cX6_bestClaim 53 = .ok (.getfield 161, 3) := by decide +kernel
theorem dX6_bestClaim_56 : decode cX6_bestClaim 56 = .ok (.iload 4, 2) := by decide +kernel
theorem dX6_bestClaim_58 : decode cX6_bestClaim 58 = .ok (.iload_n 1, 1) := by decide +kernel
theorem dX6_bestClaim_59 : decode cX6_bestClaim 59 = .ok (.iastore, 1) := by decide +kernel
theorem dX6_bestClaim_60 : decode cX6_bestClaim 60 = .ok (.aload_n 0, 1) := by decide +kernel
theorem dX6_bestClaim_61 : decode cX6_bestClaim 61 = .ok (.getfield 22, 3) := by decide +kernel
theorem dX6_bestClaim_64 : decode cX6_bestClaim 64 = .ok (.aload_n 0, 1) := by decide +kernel
theorem dX6_bestClaim_65 : decode cX6_bestClaim 65 = .ok (.getfield 16, 3) := by decide +kernel
theorem dX6_bestClaim_68 : decode cX6_bestClaim 68 = .ok (.iload_n 1, 1) := by decide +kernel
theorem dX6_bestClaim_69 : decode cX6_bestClaim 69 = .ok (.invokevirtual 229, 3) := by decide +kernel
theorem dX6_bestClaim_72 : decode cX6_bestClaim 72 = .ok (.istore 5, 2) := by decide +kernel
theorem dX6_bestClaim_74 : decode cX6_bestClaim 74 = .ok (.aload_n 0, 1) := by decide +kernel
theorem dX6_bestClaim_75 : decode cX6_bestClaim 75 = .ok (.getfield 16, 3) := by decide +kernel
theorem dX6_bestClaim_78 : decode cX6_bestClaim 78 = .ok (.getfield 161, 3) := by decide +kernel
theorem dX6_bestClaim_81 : decode cX6_bestClaim 81 = .ok (.iload 4, 2) := by decide +kernel
theorem dX6_bestClaim_83 : decode cX6_bestClaim 83 = .ok (.iconst (-1), 1) := by decide +kernel
theorem dX6_bestClaim_84 : decode cX6_bestClaim 84 = .ok (.iastore, 1) := by decide +kernel
theorem dX6_bestClaim_85 : decode cX6_bestClaim 85 = .ok (.iload_n 2, 1) := by decide +kernel
theorem dX6_bestClaim_86 : decode cX6_bestClaim 86 = .ok (.iconst (-1), 1) := by decide +kernel
theorem dX6_bestClaim_87 : decode cX6_bestClaim 87 = .ok (.if_icmp .eq 9, 3) := by decide +kernel
theorem dX6_bestClaim_90 : decode cX6_bestClaim 90 = .ok (.iload 5, 2) := by decide +kernel
theorem dX6_bestClaim_92 : decode cX6_bestClaim 92 = .ok (.iload_n 3, 1) := by decide +kernel
theorem dX6_bestClaim_93 : decode cX6_bestClaim 93 = .ok (.if_icmp .ge 9, 3) := by decide +kernel
theorem dX6_bestClaim_96 : decode cX6_bestClaim 96 = .ok (.iload 4, 2) := by decide +kernel
theorem dX6_bestClaim_98 : decode cX6_bestClaim 98 = .ok (.istore_n 2, 1) := by decide +kernel
theorem dX6_bestClaim_99 : decode cX6_bestClaim 99 = .ok (.iload 5, 2) := by decide +kernel
theorem dX6_bestClaim_101 : decode cX6_bestClaim 101 = .ok (.istore_n 3, 1) := by decide +kernel
theorem dX6_bestClaim_102 : decode cX6_bestClaim 102 = .ok (.iinc 4 1, 3) := by decide +kernel
theorem dX6_bestClaim_105 : decode cX6_bestClaim 105 = .ok (.goto (-82), 3) := by decide +kernel
theorem dX6_bestClaim_108 : decode cX6_bestClaim 108 = .ok (.iload_n 2, 1) := by decide +kernel
theorem dX6_bestClaim_109 : decode cX6_bestClaim 109 = .ok (.ireturn, 1) := by decide +kernel
theorem eX6_bestClaim {W : zWd} {a : Int → Int} {T : Int} {p : Int} {Q : Option Value → zWd → Prop} {X : zX} (hR : zCR W 0 a) (hw : zWf T a) (hg : zGm W) (hz : zR p) (hq : 0 ≤ p → p < a 2 → ∀ W' : zWd, zOffp 8 W W' → zGm W' → zByt W' → Q (some (zI ((aBc a p (a 1).toNat).1))) W') (hx : ¬ (0 ≤ p ∧ p < a 2) → X "java/lang/IndexOutOfBoundsException" W) : Ev MX6_bestClaim 8 1 W [.ref 96, zI p] Q X := by
  refine ev_of (ls := [.ref 96, zI p, .null, .null, .null, .null]) (by decide) rfl (fun _ => rfl) (fun _ => Nat.le_of_ble_eq_true rfl) (Or.inr (by decide)) ?_
  obtain ⟨r0, r1, r2, r3, r4, r5, r6, r7, rF, rS, rP, rB⟩ := id hR
  obtain ⟨w0, w0', wW, w1, w2, w2', w3, w3', w4, w4', w5, w5', w6, w6', w7, w7', wS, wP, wT⟩ := id hw
  have wq := zWf.sq hw
  have hn0 : zR (W 0 0) := by unfold zR; omega
  have hn1 : zR (W 0 1) := by unfold zR; omega
  have hn2 : zR (W 0 2) := by unfold zR; omega
  refine rr_aload_n (pc := 0) dX6_bestClaim_0 rfl ?_
  refine rr_iload_n (pc := 1) dX6_bestClaim_1 rfl ?_
  refine rr_inv (M' := MX6_checkPlayer) (k := 96) (As := [_]) (t' := 1) (pc := 2) dX6_bestClaim_2 lX6_139 kX6_checkPlayer vX6_checkPlayer zk_96 (by decide) rfl (by decide) (by decide) (by decide) (Nat.le_of_ble_eq_true rfl) rfl (eX6_checkPlayer hz hn2 (fun k0 k1 => ?_) (fun k => hx (by omega)))
  rw [r2] at k1
  refine rr_aload_n (pc := 5) dX6_bestClaim_5 rfl ?_
  refine rr_getR (pc := 6) dX6_bestClaim_6 fX6_16 zk_96 zr_96_1 ?_
  refine rr_aload_n (pc := 9) dX6_bestClaim_9 rfl ?_
  refine rr_getR (pc := 10) dX6_bestClaim_10 fX6_12 zk_96 zr_96_0 ?_
  refine rr_invN (M' := MX0_copyFrom) (k := 8) (As := [_]) (pc := 13) dX6_bestClaim_13 lX6_94 kX0_copyFrom vX0_copyFrom zCt_8.k (by decide) rfl (by decide) (by decide) (Nat.le_of_ble_eq_true rfl) rfl (eX0_copyFrom zCt_8 zCt_0 (by decide) rB (fun W0 o0 c0 => ?_))
  have c0 := c0 a (by omega) hR
  have g0 := hg.c zCt_8 o0
  refine rr_iconst (n := (-1)) dX6_bestClaim_16 ?_
  refine rr_istore_n (pc := 17) dX6_bestClaim_17 (by decide) ?_
  refine rr_iconst (n := 0) dX6_bestClaim_18 ?_
  refine rr_istore_n (pc := 19) dX6_bestClaim_19 (by decide) ?_
  refine rr_iconst (n := 1) dX6_bestClaim_20 ?_
  refine rr_istore (pc := 21) dX6_bestClaim_21 (by decide) ?_
  have loop : ∀ (n : Nat) (i : Int) (Wi : zWd) (x5 : Value), 1 ≤ i → i ≤ a 1 + 1 → zOffp 8 W Wi → zGm Wi → zCR Wi 8 a → (a 1 + 1 - i).toNat < n → RR MX6_bestClaim 8 (1 - 1) Wi 23 [.ref 96, zI p, zI (aBc a p (i - 1).toNat).1, zI (aBc a p (i - 1).toNat).2, zI i, x5] [] (zEnd MX6_bestClaim Q X) X := by
    intro n
    induction n with
    | zero => intro i Wi x5 _ _ _ _ _ hm9; omega
    | succ n ih =>
      intro i Wi x5 h1 h2 hO hG hC hm9
      obtain ⟨q0, q1, q2, q3, q4, q5, q6, q7, qF, qS, qP, qB⟩ := id hC
      have hbr := aBc_rng (a := a) (p := p) wq.2 (i - 1).toNat (by omega)
      refine rr_iload (pc := 23) dX6_bestClaim_23 rfl ?_
      refine rr_aload_n (pc := 25) dX6_bestClaim_25 rfl ?_
      refine rr_getR (pc := 26) dX6_bestClaim_26 fX6_16 zk_96 zr_96_1 ?_
      refine rr_getI (pc := 29) (ji := 1) dX6_bestClaim_29 fX6_97 zCt_8.k zCt_8.i1 rfl ?_
      rw [q1]
      refine rr_icmp_gt (pc := 32) (tgt := 108) dX6_bestClaim_32 (by decide) (by unfold zR; omega) (by unfold zR; omega) (fun h32 => ?_) (fun h32 => ?_)
      · refine rr_iload_n (pc := 108) dX6_bestClaim_108 rfl ?_
        exact rr_reti (pc := 109) dX6_bestClaim_109 rfl rfl (by rw [show (i - 1).toNat = (a 1).toNat by omega]) rfl (hq k0 k1 Wi hO hG hC.by8)
      · refine rr_aload_n (pc := 35) dX6_bestClaim_35 rfl ?_
        refine rr_getR (pc := 36) dX6_bestClaim_36 fX6_16 zk_96 zr_96_1 ?_
        refine rr_getR (pc := 39) dX6_bestClaim_39 fX6_161 zCt_8.k zCt_8.r10 ?_
        refine rr_iload (pc := 42) dX6_bestClaim_42 rfl ?_
        have hs3 := (qS i h1 (by omega) (by omega)).2.1
        have hs4 := wS i h1 (by omega)
        refine rr_iald (pc := 44) dX6_bestClaim_44 zCt_8.a3 (by omega) (by omega) ?_
        rw [hs3]
        refine rr_iconst (n := (-1)) dX6_bestClaim_45 ?_
        refine rr_icmp_ne (pc := 46) (tgt := 102) dX6_bestClaim_46 (by decide) (by unfold zR; omega) (by unfold zR; omega) (fun h46 => ?_) (fun h46 => ?_)
        · refine rr_iinc (pc := 102) dX6_bestClaim_102 rfl (by decide) ?_
          refine rr_goto (pc := 105) (tgt := 23) dX6_bestClaim_105 (by decide) ?_
          have g9 := ih (i + 1) Wi x5 (by omega) (by omega) hO hG hC (by omega)
          rw [show (i + 1 - 1).toNat = (i - 1).toNat + 1 by omega] at g9
          unfold aBc at g9
          rw [show (((i - 1).toNat : Nat) : Int) + 1 = i by omega, if_neg (fun z => h46 z.1)] at g9
          exact g9
        · refine rr_aload_n (pc := 49) dX6_bestClaim_49 rfl ?_
          refine rr_getR (pc := 50) dX6_bestClaim_50 fX6_16 zk_96 zr_96_1 ?_
          refine rr_getR (pc := 53) dX6_bestClaim_53 fX6_161 zCt_8.k zCt_8.r10 ?_
          refine rr_iload (pc := 56) dX6_bestClaim_56 rfl ?_
          refine rr_iload_n (pc := 58) dX6_bestClaim_58 rfl ?_
          refine rr_iast (pc := 59) dX6_bestClaim_59 zCt_8.a3 (by omega) (by omega) ?_
          have c1 := CR_S (o := 0) (v := p) hC h1 (by omega) (Or.inl rfl)
          rw [if_pos rfl] at c1
          have c1 : zCR (zup Wi (8 + 3) i p) 8 (aClm a i p) := c1
          have f1 : zWf T (aClm a i p) := WF_S (o := 0) hw h1 (by omega) (Or.inl ⟨rfl, by omega, by omega⟩)
          have o1 : zOff 8 Wi (zup Wi (8 + 3) i p) := zOff.rf.up (by omega)
          have g1 := hG.c zCt_8 o1
          have e12 : aClm a i p 2 = a 2 ∧ aClm a i p 1 = a 1 := ⟨iup_n (by omega), iup_n (by omega)⟩
          generalize zup Wi (8 + 3) i p = W1 at c1 o1 g1 ⊢
          refine rr_aload_n (pc := 60) dX6_bestClaim_60 rfl ?_
          refine rr_getR (pc := 61) dX6_bestClaim_61 fX6_22 zk_96 zr_96_2 ?_
          refine rr_aload_n (pc := 64) dX6_bestClaim_64 rfl ?_
          refine rr_getR (pc := 65) dX6_bestClaim_65 fX6_16 zk_96 zr_96_1 ?_
          refine rr_iload_n (pc := 68) dX6_bestClaim_68 rfl ?_
          refine rr_invN (M' := MX1_playableByOthers) (k := 97) (As := [_, _]) (pc := 69) dX6_bestClaim_69 lX6_229 kX1_playableByOthers vX1_playableByOthers zk_97 (by decide) rfl (by decide) (by decide) (Nat.le_of_ble_eq_true rfl) rfl (eX1_playableByOthers zCt_8 c1 f1 g1 k0 (by rw [e12.1]; exact k1) (fun W2 o2 g2 => ?_))
          rw [e12.1]
          have hrg := aOth_rng (a := aClm a i p) (q := p) (by rw [e12.2]; exact wq.2) (a 2).toNat
          refine rr_istore (pc := 72) dX6_bestClaim_72 (by decide) ?_
          refine rr_aload_n (pc := 74) dX6_bestClaim_74 rfl ?_
          refine rr_getR (pc := 75) dX6_bestClaim_75 fX6_16 zk_96 zr_96_1 ?_
          refine rr_getR (pc := 78) dX6_bestClaim_78 fX6_161 zCt_8.k zCt_8.r10 ?_
          refine rr_iload (pc := 81) dX6_bestClaim_81 rfl ?_
          refine rr_iconst (n := (-1)) dX6_bestClaim_83 ?_
          refine rr_iast (pc := 84) dX6_bestClaim_84 zCt_8.a3 (by omega) (by omega) ?_
          have c3 := CR_S (o := 0) (v := -1) (c1.g zCt_8 o2) h1 (by omega) (Or.inl rfl)
          rw [if_pos rfl] at c3
          have c3 : zCR (zup W2 (8 + 3) i (-1)) 8 a := by
            have h9 := aClm_back (v := p + 1) (show aO a i = -1 by omega)
            have h8 : iup (aClm a i p) (18 + 2 * (i - 1) + (0 : Nat)) (-1 + 1) = a := h9
            rw [h8] at c3; exact c3
          have o3 : zOff 8 W2 (zup W2 (8 + 3) i (-1)) := zOff.rf.up (by omega)
          have g3 := g2.c zCt_8 o3
          have o4 : zOffp 8 W (zup W2 (8 + 3) i (-1)) := ((hO.tr o1.p).tr o2.p).tr o3.p
          generalize zup W2 (8 + 3) i (-1) = W3 at c3 g3 o4 ⊢
          refine rr_iload_n (pc := 85) dX6_bestClaim_85 rfl ?_
          refine rr_iconst (n := (-1)) dX6_bestClaim_86 ?_
          refine rr_icmp_eq (pc := 87) (tgt := 96) dX6_bestClaim_87 (by decide) (by unfold zR; omega) (by unfold zR; omega) (fun h87 => ?_) (fun h87 => ?_)
          · refine rr_iload (pc := 96) dX6_bestClaim_96 rfl ?_
            refine rr_istore_n (pc := 98) dX6_bestClaim_98 (by decide) ?_
            refine rr_iload (pc := 99) dX6_bestClaim_99 rfl ?_
            refine rr_istore_n (pc := 101) dX6_bestClaim_101 (by decide) ?_
            refine rr_iinc (pc := 102) dX6_bestClaim_102 rfl (by decide) ?_
            refine rr_goto (pc := 105) (tgt := 23) dX6_bestClaim_105 (by decide) ?_
            have g9 := ih (i + 1) W3 (zI (aOth (aClm a i p) p (a 2).toNat)) (by omega) (by omega) o4 g3 c3 (by omega)
            rw [show (i + 1 - 1).toNat = (i - 1).toNat + 1 by omega] at g9
            unfold aBc at g9
            rw [show (((i - 1).toNat : Nat) : Int) + 1 = i by omega, if_pos ⟨by omega, Or.inl (by omega)⟩] at g9
            exact g9
          · refine rr_iload (pc := 90) dX6_bestClaim_90 rfl ?_
            refine rr_iload_n (pc := 92) dX6_bestClaim_92 rfl ?_
            refine rr_icmp_ge (pc := 93) (tgt := 102) dX6_bestClaim_93 (by decide) (by unfold zR; omega) (by unfold zR; omega) (fun h93 => ?_) (fun h93 => ?_)
            · refine rr_iinc (pc := 102) dX6_bestClaim_102 rfl (by decide) ?_
              refine rr_goto (pc := 105) (tgt := 23) dX6_bestClaim_105 (by decide) ?_
              have g9 := ih (i + 1) W3 (zI (aOth (aClm a i p) p (a 2).toNat)) (by omega) (by omega) o4 g3 c3 (by omega)
              rw [show (i + 1 - 1).toNat = (i - 1).toNat + 1 by omega] at g9
              unfold aBc at g9
              rw [show (((i - 1).toNat : Nat) : Int) + 1 = i by omega, if_neg (fun z => by omega)] at g9
              exact g9
            · refine rr_iload (pc := 96) dX6_bestClaim_96 rfl ?_
              refine rr_istore_n (pc := 98) dX6_bestClaim_98 (by decide) ?_
              refine rr_iload (pc := 99) dX6_bestClaim_99 rfl ?_
              refine rr_istore_n (pc := 101) dX6_bestClaim_101 (by decide) ?_
              refine rr_iinc (pc := 102) dX6_bestClaim_102 rfl (by decide) ?_
              refine rr_goto (pc := 105) (tgt := 23) dX6_bestClaim_105 (by decide) ?_
              have g9 := ih (i + 1) W3 (zI (aOth (aClm a i p) p (a 2).toNat)) (by omega) (by omega) o4 g3 c3 (by omega)
              rw [show (i + 1 - 1).toNat = (i - 1).toNat + 1 by omega] at g9
              unfold aBc at g9
              rw [show (((i - 1).toNat : Nat) : Int) + 1 = i by omega, if_pos ⟨by omega, Or.inr (by omega)⟩] at g9
              exact g9
  exact loop _ 1 W0 _ (by omega) (by omega) o0.p g0 c0 (Nat.lt_succ_self _)
theorem dX6_turnsToCrown_0 : decode cX6_turnsToCrown 0 = .ok (.aload_n 0, 1) := by decide +kernel
theorem dX6_turnsToCrown_1 : decode cX6_turnsToCrown 1 = .ok (.iload_n 1, 1) := by decide +kernel
theorem dX6_turnsToCrown_2 : decode cX6_turnsToCrown 2 = .ok (.invokevirtual 139, 3) := by decide +kernel
theorem dX6_turnsToCrown_5 : decode cX6_turnsToCrown 5 = .ok (.aload_n 0, 1) := by decide +kernel
theorem dX6_turnsToCrown_6 : decode cX6_turnsToCrown 6 = .ok (.getfield 16, 3) := by decide +kernel
theorem dX6_turnsToCrown_9 : decode cX6_turnsToCrown 9 = .ok (.aload_n 0, 1) := by decide +kernel
theorem dX6_turnsToCrown_10 : decode cX6_turnsToCrown 10 = .ok (.getfield 12, 3) := by decide +kernel
theorem dX6_turnsToCrown_13 : decode cX6_turnsToCrown 13 = .ok (.invokevirtual 94, 3) := by decide +kernel
theorem dX6_turnsToCrown_16 : decode cX6_turnsToCrown 16 = .ok (.aload_n 0, 1) := by decide +kernel
theorem dX6_turnsToCrown_17 : decode cX6_turnsToCrown 17 = .ok (.getfield 22, 3) := by decide +kernel
theorem dX6_turnsToCrown_20 : decode cX6_turnsToCrown 20 = .ok (.aload_n 0, 1) := by decide +kernel
theorem dX6_turnsToCrown_21 : decode cX6_turnsToCrown 21 = .ok (.getfield 16, 3) := by decide +kernel
theorem dX6_turnsToCrown_24 : decode cX6_turnsToCrown 24 = .ok (.iload_n 1, 1) := by decide +kernel
theorem dX6_turnsToCrown_25 : decode cX6_turnsToCrown 25 = .ok (.invokevirtual 232, 3) := by decide +kernel
theorem dX6_turnsToCrown_28 : decode cX6_turnsToCrown 28 = .ok (.ireturn, 1) := by decide +kernel
theorem eX6_turnsToCrown {W : zWd} {a : Int → Int} {T : Int} {p : Int} {Q : Option Value → zWd → Prop} {X : zX} (hR : zCR W 0 a) (hw : zWf T a) (hg : zGm W) (hT : T + 7826 ≤ 100000000) (hz : zR p) (hq : 0 ≤ p → p < a 2 → ∀ W' : zWd, zOffp 8 W W' → zGm W' → zByt W' → Q (some (zI ((aUnt p 300 1 a).1))) W') (hx : ¬ (0 ≤ p ∧ p < a 2) → X "java/lang/IndexOutOfBoundsException" W) : Ev MX6_turnsToCrown 8 1 W [.ref 96, zI p] Q X := by
  refine ev_of (ls := [.ref 96, zI p]) (by decide) rfl (fun _ => rfl) (fun _ => Nat.le_of_ble_eq_true rfl) (Or.inr (by decide)) ?_
  obtain ⟨r0, r1, r2, r3, r4, r5, r6, r7, rF, rS, rP, rB⟩ := id hR
  obtain ⟨w0, w0', wW, w1, w2, w2', w3, w3', w4, w4', w5, w5', w6, w6', w7, w7', wS, wP, wT⟩ := id hw
  have wq := zWf.sq hw
  have hn0 : zR (W 0 0) := by unfold zR; omega
  have hn1 : zR (W 0 1) := by unfold zR; omega
  have hn2 : zR (W 0 2) := by unfold zR; omega
  refine rr_aload_n (pc := 0) dX6_turnsToCrown_0 rfl ?_
  refine rr_iload_n (pc := 1) dX6_turnsToCrown_1 rfl ?_
  refine rr_inv (M' := MX6_checkPlayer) (k := 96) (As := [_]) (t' := 1) (pc := 2) dX6_turnsToCrown_2 lX6_139 kX6_checkPlayer vX6_checkPlayer zk_96 (by decide) rfl (by decide) (by decide) (by decide) (Nat.le_of_ble_eq_true rfl) rfl (eX6_checkPlayer hz hn2 (fun k0 k1 => ?_) (fun k => hx (by omega)))
  rw [r2] at k1
  refine rr_aload_n (pc := 5) dX6_turnsToCrown_5 rfl ?_
  refine rr_getR (pc := 6) dX6_turnsToCrown_6 fX6_16 zk_96 zr_96_1 ?_
  refine rr_aload_n (pc := 9) dX6_turnsToCrown_9 rfl ?_
  refine rr_getR (pc := 10) dX6_turnsToCrown_10 fX6_12 zk_96 zr_96_0 ?_
  refine rr_invN (M' := MX0_copyFrom) (k := 8) (As := [_]) (pc := 13) dX6_turnsToCrown_13 lX6_94 kX0_copyFrom vX0_copyFrom zCt_8.k (by decide) rfl (by decide) (by decide) (Nat.le_of_ble_eq_true rfl) rfl (eX0_copyFrom zCt_8 zCt_0 (by decide) rB (fun W0 o0 c0 => ?_))
  have c0 := c0 a (by omega) hR
  have g0 := hg.c zCt_8 o0
  refine rr_aload_n (pc := 16) dX6_turnsToCrown_16 rfl ?_
  refine rr_getR (pc := 17) dX6_turnsToCrown_17 fX6_22 zk_96 zr_96_2 ?_
  refine rr_aload_n (pc := 20) dX6_turnsToCrown_20 rfl ?_
  refine rr_getR (pc := 21) dX6_turnsToCrown_21 fX6_16 zk_96 zr_96_1 ?_
  refine rr_iload_n (pc := 24) dX6_turnsToCrown_24 rfl ?_
  refine rr_invN (M' := MX1_playUntilCrown) (k := 97) (As := [_, _]) (pc := 25) dX6_turnsToCrown_25 lX6_232 kX1_playUntilCrown vX1_playUntilCrown zk_97 (by decide) rfl (by decide) (by decide) (Nat.le_of_ble_eq_true rfl) rfl (eX1_playUntilCrown zCt_8 c0 hw g0 hT hz (fun W1 o1 g1 c1 => ?_))
  exact rr_reti (pc := 28) dX6_turnsToCrown_28 rfl rfl rfl rfl (hq k0 k1 W1 (o0.p.tr o1) g1 c1.by8)
def vFirst (a : Int → Int) : Int := if (aUnt (-1) 300 1 a).1 = -1 then -1 else if (aUnt (-1) 300 1 a).2 4 = 0 then a 2 - 1 else (aUnt (-1) 300 1 a).2 4 - 1
theorem aUnt_rng {w : Int} : ∀ (n : Nat) (i : Int) (a : Int → Int), 0 ≤ i → i + n ≤ 1000 → -1 ≤ (aUnt w n i a).1 ∧ (aUnt w n i a).1 ≤ 1000 := by
  intro n
  induction n with
  | zero => intro i a _ _; exact ⟨Int.le_refl _, by show (-1 : Int) ≤ 1000; omega⟩
  | succ n ih =>
    intro i a h1 h2
    unfold aUnt
    split
    · exact ⟨by show (-1 : Int) ≤ i; omega, by show i ≤ 1000; omega⟩
    · exact ih _ _ (by omega) (by omega)
theorem aUnt_2 {w : Int} : ∀ (n : Nat) (i T : Int) (a : Int → Int), zWf T a → T + 26 * n ≤ 100000000 → (aUnt w n i a).2 2 = a 2 := by
  intro n
  induction n with
  | zero => intro i T a _ _; rfl
  | succ n ih =>
    intro i T a hw hT
    have e : aNext a 2 = a 2 := aTurn_n hw (by omega) (by omega) (by omega) (by omega) (by omega) (by omega)
    unfold aUnt
    split
    · exact e
    · rw [ih _ _ _ (aNext_wf hw (by omega)) (by omega)]; exact e
theorem dX6_firstThrough_0 : decode cX6_firstThrough 0 = .ok (.aload_n 0, 1) := by decide +kernel
theorem dX6_firstThrough_1 : decode cX6_firstThrough 1 = .ok (.getfield 16, 3) := by decide +kernel
theorem dX6_firstThrough_4 : decode cX6_firstThrough 4 = .ok (.aload_n 0, 1) := by decide +kernel
theorem dX6_firstThrough_5 : decode cX6_firstThrough 5 = .ok (.getfield 12, 3) := by decide +kernel
theorem dX6_firstThrough_8 : decode cX6_firstThrough 8 = .ok (.invokevirtual 94, 3) := by decide +kernel
theorem dX6_firstThrough_11 : decode cX6_firstThrough 11 = .ok (.aload_n 0, 1) := by decide +kernel
theorem dX6_firstThrough_12 : decode cX6_firstThrough 12 = .ok (.getfield 22, 3) := by decide +kernel
theorem dX6_firstThrough_15 : decode cX6_firstThrough 15 = .ok (.aload_n 0, 1) := by decide +kernel
theorem dX6_firstThrough_16 : decode cX6_firstThrough 16 = .ok (.getfield 16, 3) := by decide +kernel
theorem dX6_firstThrough_19 : decode cX6_firstThrough 19 = .ok (.iconst (-1), 1) := by decide +kernel
theorem dX6_firstThrough_20 : decode cX6_firstThrough 20 = .ok (.invokevirtual 232, 3) := by decide +kernel
theorem dX6_firstThrough_23 : decode cX6_firstThrough 23 = .ok (.iconst (-1), 1) := by decide +kernel
theorem dX6_firstThrough_24 : decode cX6_firstThrough 24 = .ok (.if_icmp .ne 5, 3) := by decide +kernel
theorem dX6_firstThrough_27 : decode cX6_firstThrough 27 = .ok (.iconst (-1), 1) := by decide +kernel
theorem dX6_firstThrough_28 : decode cX6_firstThrough 28 = .ok (.ireturn, 1) := by decide +kernel
theorem dX6_firstThrough_29 : decode cX6_firstThrough 29 = .ok (.aload_n 0, 1) := by decide +kernel
theorem dX6_firstThrough_30 : decode cX6_firstThrough 30 = .ok (.getfield 16, 3) := by decide +kernel
theorem dX6_firstThrough_33 : decode cX6_firstThrough 33 = .ok (.getfield 112, 3) := by decide +kernel
theorem dX6_firstThrough_36 : decode cX6_firstThrough 36 = .ok (.ifCond .ne 15, 3) := by decide +kernel
theorem dX6_firstThrough_39 : decode cX6_firstThrough 39 = .ok (.aload_n 0, 1) := by decide +kernel
theorem dX6_firstThrough_40 : decode cX6_firstThrough 40 = .ok (.getfield 16, 3) := by decide +kernel
theorem dX6_firstThrough_43 : decode cX6_firstThrough 43 = .ok (.getfield 106, 3) := by decide +kernel
theorem dX6_firstThrough_46 : decode cX6_firstThrough 46 = .ok (.iconst 1, 1) := by decide +kernel
theorem dX6_firstThrough_47 : decode cX6_firstThrough 47 = .ok (.isub, 1) := by decide +kernel
theorem dX6_firstThrough_48 : decode cX6_firstThrough 48 = .ok (.goto 12, 3) := by decide +kernel
theorem dX6_firstThrough_51 : decode cX6_firstThrough 51 = .ok (.aload_n 0, 1) := by decide +kernel
theorem dX6_firstThrough_52 : decode cX6_firstThrough 52 = .ok (.getfield 16, 3) := by decide +kernel
theorem dX6_firstThrough_55 : decode cX6_firstThrough 55 = .ok (.getfield 112, 3) := by decide +kernel
theorem dX6_firstThrough_58 : decode cX6_firstThrough 58 = .ok (.iconst 1, 1) := by decide +kernel
theorem dX6_firstThrough_59 : decode cX6_firstThrough 59 = .ok (.isub, 1) := by decide +kernel
theorem dX6_firstThrough_60 : decode cX6_firstThrough 60 = .ok (.ireturn, 1) := by decide +kernel
theorem eX6_firstThrough {W : zWd} {a : Int → Int} {T : Int}  {Q : Option Value → zWd → Prop} {X : zX} (hR : zCR W 0 a) (hw : zWf T a) (hg : zGm W) (hT : T + 7826 ≤ 100000000) (hq : ∀ W' : zWd, zOffp 8 W W' → zGm W' → zByt W' → Q (some (zI (vFirst a))) W') : Ev MX6_firstThrough 7 0 W [.ref 96] Q X := by
  refine ev_of (ls := [.ref 96]) (by decide) rfl (fun _ => rfl) (fun _ => Nat.le_of_ble_eq_true rfl) (Or.inl rfl) ?_
  obtain ⟨r0, r1, r2, r3, r4, r5, r6, r7, rF, rS, rP, rB⟩ := id hR
  obtain ⟨w0, w0', wW, w1, w2, w2', w3, w3', w4, w4', w5, w5', w6, w6', w7, w7', wS, wP, wT⟩ := id hw
  have wq := zWf.sq hw
  refine rr_aload_n (pc := 0) dX6_firstThrough_0 rfl ?_
  refine rr_getR (pc := 1) dX6_firstThrough_1 fX6_16 zk_96 zr_96_1 ?_
  refine rr_aload_n (pc := 4) dX6_firstThrough_4 rfl ?_
  refine rr_getR (pc := 5) dX6_firstThrough_5 fX6_12 zk_96 zr_96_0 ?_
  refine rr_invN (M' := MX0_copyFrom) (k := 8) (As := [_]) (pc := 8) dX6_firstThrough_8 lX6_94 kX0_copyFrom vX0_copyFrom zCt_8.k (by decide) rfl (by decide) (by decide) (Nat.le_of_ble_eq_true rfl) rfl (eX0_copyFrom zCt_8 zCt_0 (by decide) rB (fun W0 o0 c0 => ?_))
  have c0 := c0 a (by omega) hR
  have g0 := hg.c zCt_8 o0
  refine rr_aload_n (pc := 11) dX6_firstThrough_11 rfl ?_
  refine rr_getR (pc := 12) dX6_firstThrough_12 fX6_22 zk_96 zr_96_2 ?_
  refine rr_aload_n (pc := 15) dX6_firstThrough_15 rfl ?_
  refine rr_getR (pc := 16) dX6_firstThrough_16 fX6_16 zk_96 zr_96_1 ?_
  refine rr_iconst (n := (-1)) dX6_firstThrough_19 ?_
  refine rr_invN (M' := MX1_playUntilCrown) (k := 97) (As := [_, _]) (pc := 20) dX6_firstThrough_20 lX6_232 kX1_playUntilCrown vX1_playUntilCrown zk_97 (by decide) rfl (by decide) (by decide) (Nat.le_of_ble_eq_true rfl) rfl (eX1_playUntilCrown zCt_8 c0 hw g0 hT (by unfold zR; omega) (fun W1 o1 g1 c1 => ?_))
  have hrg := aUnt_rng (w := -1) 300 1 a (by omega) (by omega)
  have f1 := aUnt_wf (w := -1) 300 1 T a hw (by omega)
  have e2 := aUnt_2 (w := -1) 300 1 T a hw (by omega)
  have s4 := f1.2.2.2.2.2.2.2.2.1
  have s4' := f1.2.2.2.2.2.2.2.2.2.1
  have d2 := c1.2.2.1
  have d4 := c1.2.2.2.2.1
  rw [e2] at d2 s4'
  refine rr_iconst (n := (-1)) dX6_firstThrough_23 ?_
  refine rr_icmp_ne (pc := 24) (tgt := 29) dX6_firstThrough_24 (by decide) (by unfold zR; omega) (by unfold zR; omega) (fun h24 => ?_) (fun h24 => ?_)
  · refine rr_aload_n (pc := 29) dX6_firstThrough_29 rfl ?_
    refine rr_getR (pc := 30) dX6_firstThrough_30 fX6_16 zk_96 zr_96_1 ?_
    refine rr_getI (pc := 33) (ji := 4) dX6_firstThrough_33 fX6_112 zCt_8.k zCt_8.i4 rfl ?_
    rw [d4]
    refine rr_if_ne (pc := 36) (tgt := 51) dX6_firstThrough_36 (by decide) (by unfold zR; omega) (fun h36 => ?_) (fun h36 => ?_)
    · refine rr_aload_n (pc := 51) dX6_firstThrough_51 rfl ?_
      refine rr_getR (pc := 52) dX6_firstThrough_52 fX6_16 zk_96 zr_96_1 ?_
      refine rr_getI (pc := 55) (ji := 4) dX6_firstThrough_55 fX6_112 zCt_8.k zCt_8.i4 rfl ?_
      rw [d4]
      refine rr_iconst (n := 1) dX6_firstThrough_58 ?_
      refine rr_isub (pc := 59) dX6_firstThrough_59 ?_
      exact rr_reti (pc := 60) dX6_firstThrough_60 rfl rfl (by unfold vFirst; rw [if_neg h24, if_neg (by omega)]) rfl (hq W1 (o0.p.tr o1) g1 c1.by8)
    · refine rr_aload_n (pc := 39) dX6_firstThrough_39 rfl ?_
      refine rr_getR (pc := 40) dX6_firstThrough_40 fX6_16 zk_96 zr_96_1 ?_
      refine rr_getI (pc := 43) (ji := 2) dX6_firstThrough_43 fX6_106 zCt_8.k zCt_8.i2 rfl ?_
      rw [d2]
      refine rr_iconst (n := 1) dX6_firstThrough_46 ?_
      refine rr_isub (pc := 47) dX6_firstThrough_47 ?_
      refine rr_goto (pc := 48) (tgt := 60) dX6_firstThrough_48 (by decide) ?_
      exact rr_reti (pc := 60) dX6_firstThrough_60 rfl rfl (by unfold vFirst; rw [if_neg h24, if_pos (by omega)]) rfl (hq W1 (o0.p.tr o1) g1 c1.by8)
  · refine rr_iconst (n := (-1)) dX6_firstThrough_27 ?_
    exact rr_reti (pc := 28) dX6_firstThrough_28 rfl rfl (by unfold vFirst; rw [if_pos h24]) rfl (hq W1 (o0.p.tr o1) g1 c1.by8)
