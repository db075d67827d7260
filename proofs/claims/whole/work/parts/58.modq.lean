def zOfQ (W W' : zWd) : Prop := (∀ k : Nat, k ≠ 116 → k ≠ 124 → k ≠ 125 → k ≠ 126 → W' k = W k) ∧ ∀ j : Int, j ≠ 7 → j ≠ 20 → j ≠ 21 → W' 116 j = W 116 j
theorem zOfQ.rf {W : zWd} : zOfQ W W := ⟨fun _ _ _ _ _ => rfl, fun _ _ _ _ => rfl⟩
theorem zOfQ.tr {W W' W'' : zWd} (h : zOfQ W W') (h2 : zOfQ W' W'') : zOfQ W W'' := ⟨fun k g1 g2 g3 g4 => (h2.1 k g1 g2 g3 g4).trans (h.1 k g1 g2 g3 g4), fun j g1 g2 g3 => (h2.2 j g1 g2 g3).trans (h.2 j g1 g2 g3)⟩
theorem zOfl.Q {W W' : zWd} (h : zOfl W W') : zOfQ W W' := ⟨h.1, fun j _ g2 g3 => h.2 j g2 g3⟩
theorem zOfQ.t {W : zWd} {v : Int} : zOfQ W (zup W 116 7 v) := ⟨fun k g1 _ _ _ => zup_other k g1, fun j g1 _ _ => zup_i g1⟩
theorem zOfQ.a {W W' : zWd} (h : zOfQ W W') : W' 117 = W 117 := h.1 117 (by decide) (by decide) (by decide) (by decide)
theorem zOfl.t7 {W W' : zWd} (h : zOfl W W') : W' 116 7 = W 116 7 := h.2 7 (by decide) (by decide)
theorem dX7_bestThrow_0 : decode cX7_bestThrow 0 = .ok (.aload_n 0, 1) := by decide +kernel
theorem dX7_bestThrow_1 : decode cX7_bestThrow 1 = .ok (.aload_n 0, 1) := by decide +kernel
theorem dX7_bestThrow_2 : decode cX7_bestThrow 2 = .ok (.iload_n 1, 1) := by decide +kernel
theorem dX7_bestThrow_3 : decode cX7_bestThrow 3 = .ok (.invokevirtual 285, 3) := by decide +kernel
theorem dX7_bestThrow_6 : decode cX7_bestThrow 6 = .ok (.ifCond .eq 7, 3) := by decide +kernel
theorem dX7_bestThrow_9 : decode cX7_bestThrow 9 = .ok (.iconst 0, 1) := by decide +kernel
theorem dX7_bestThrow_10 : decode cX7_bestThrow 10 = .ok (.goto 4, 3) := by decide +kernel
theorem dX7_bestThrow_13 : decode cX7_bestThrow 13 = .ok (.iconst 1, 1) := by decide +kernel
theorem dX7_bestThrow_14 : decode cX7_bestThrow 14 = .ok (.putfield 59, 3) := by decide +kernel
theorem dX7_bestThrow_17 : decode cX7_bestThrow 17 = .ok (.aload_n 0, 1) := by decide +kernel
theorem dX7_bestThrow_18 : decode cX7_bestThrow 18 = .ok (.getfield 59, 3) := by decide +kernel
theorem dX7_bestThrow_21 : decode cX7_bestThrow 21 = .ok (.ifCond .le 7, 3) := by decide +kernel
theorem dX7_bestThrow_24 : decode cX7_bestThrow 24 = .ok (.iconst 0, 1) := by decide +kernel
theorem dX7_bestThrow_25 : decode cX7_bestThrow 25 = .ok (.goto 8, 3) := by decide +kernel
theorem dX7_bestThrow_28 : decode cX7_bestThrow 28 = .ok (.aload_n 0, 1) := by decide +kernel
theorem dX7_bestThrow_29 : decode cX7_bestThrow 29 = .ok (.iload_n 1, 1) := by decide +kernel
theorem dX7_bestThrow_30 : decode cX7_bestThrow 30 = .ok (.invokevirtual 303, 3) := by decide +kernel
theorem dX7_bestThrow_33 : decode cX7_bestThrow 33 = .ok (.ireturn, 1) := by decide +kernel
theorem eX7_bestThrow {W : zWd} {a : Int → Int} {T : Int} {p : Int}  {Q : Option Value → zWd → Prop} {X : zX} (ha : W 117 = a) (hw : zWf T a) (hz : zR p) (hq : 0 ≤ p ∧ p < a 2 → ∀ W' : zWd, zOfQ W W' → W' 116 7 = 0 → Q (some (zI (vBest a p))) W') (hq1 : ¬ (0 ≤ p ∧ p < a 2) → ∀ W' : zWd, zOfQ W W' → W' 116 7 = 1 → Q (some (zI 0)) W')  : Ev MX7_bestThrow 3 0 W [.ref 116, zI p] Q X := by
  refine ev_of (ls := [.ref 116, zI p]) (by decide) rfl (fun _ => rfl) (fun _ => Nat.le_of_ble_eq_true rfl) (Or.inl rfl) ?_
  obtain ⟨w0, w0', wW, w1, w2, w2', w3, w3', w4, w4', w5, w5', w6, w6', w7, w7', wS, wP, wT⟩ := id hw
  have wq := zWf.sq hw
  have hn2 : a 2 ≤ 6 := w2'
  refine rr_aload_n (pc := 0) dX7_bestThrow_0 rfl ?_
  refine rr_aload_n (pc := 1) dX7_bestThrow_1 rfl ?_
  refine rr_iload_n (pc := 2) dX7_bestThrow_2 rfl ?_
  refine rr_inv0 (M' := MX7_isPlayer) (k := 116) (As := [_]) (pc := 3) dX7_bestThrow_3 lX7_285 kX7_isPlayer vX7_isPlayer zk_116 (by decide) rfl (by decide) (by decide) (Nat.le_of_ble_eq_true rfl) rfl (eX7_isPlayer ha hw hz ?_)
  refine rr_if_eq (pc := 6) (tgt := 13) dX7_bestThrow_6 (by decide) (by split <;> (unfold zR; omega)) (fun h6 => ?_) (fun h6 => ?_)
  · refine rr_iconst (n := 1) dX7_bestThrow_13 ?_
    have hnp := z_i10 h6
    refine rr_put (pc := 14) (ji := 7) dX7_bestThrow_14 fX7_59 fp_7_7 zk_116 zr_116_7 rfl ?_
    have o1 : zOfQ W (zup W 116 7 1) := zOfQ.t
    have t1 : zup W 116 7 1 116 7 = 1 := zup_s
    have a1 : zup W 116 7 1 117 = a := o1.a.trans ha
    generalize zup W 116 7 1 = W1 at o1 t1 a1 ⊢
    refine rr_aload_n (pc := 17) dX7_bestThrow_17 rfl ?_
    refine rr_getI (pc := 18) (ji := 7) dX7_bestThrow_18 fX7_59 zk_116 zr_116_7 rfl ?_
    rw [t1]
    refine rr_if_le (pc := 21) (tgt := 28) dX7_bestThrow_21 (by decide) (by unfold zR; omega) (fun h21 => ?_) (fun h21 => ?_)
    · omega
    · refine rr_iconst (n := 0) dX7_bestThrow_24 ?_
      refine rr_goto (pc := 25) (tgt := 33) dX7_bestThrow_25 (by decide) ?_
      exact rr_reti (pc := 33) dX7_bestThrow_33 rfl rfl rfl rfl (hq1 hnp W1 o1 t1)
  · refine rr_iconst (n := 0) dX7_bestThrow_9 ?_
    refine rr_goto (pc := 10) (tgt := 14) dX7_bestThrow_10 (by decide) ?_
    have hpl := z_i10n h6
    refine rr_put (pc := 14) (ji := 7) dX7_bestThrow_14 fX7_59 fp_7_7 zk_116 zr_116_7 rfl ?_
    have o1 : zOfQ W (zup W 116 7 0) := zOfQ.t
    have t1 : zup W 116 7 0 116 7 = 0 := zup_s
    have a1 : zup W 116 7 0 117 = a := o1.a.trans ha
    generalize zup W 116 7 0 = W1 at o1 t1 a1 ⊢
    refine rr_aload_n (pc := 17) dX7_bestThrow_17 rfl ?_
    refine rr_getI (pc := 18) (ji := 7) dX7_bestThrow_18 fX7_59 zk_116 zr_116_7 rfl ?_
    rw [t1]
    refine rr_if_le (pc := 21) (tgt := 28) dX7_bestThrow_21 (by decide) (by unfold zR; omega) (fun h21 => ?_) (fun h21 => ?_)
    · refine rr_aload_n (pc := 28) dX7_bestThrow_28 rfl ?_
      refine rr_iload_n (pc := 29) dX7_bestThrow_29 rfl ?_
      have hp0 := hpl.1
      have hp1 := hpl.2
      refine rr_inv0 (M' := MX7_bestOf) (k := 116) (As := [_]) (pc := 30) dX7_bestThrow_30 lX7_303 kX7_bestOf vX7_bestOf zk_116 (by decide) rfl (by decide) (by decide) (Nat.le_of_ble_eq_true rfl) rfl (eX7_bestOf a1 hw hp0 hp1 ?_)
      exact rr_reti (pc := 33) dX7_bestThrow_33 rfl rfl rfl rfl (hq hpl W1 o1 t1)
    · omega
theorem dX7_hopFault_0 : decode cX7_hopFault 0 = .ok (.aload_n 0, 1) := by decide +kernel
theorem dX7_hopFault_1 : decode cX7_hopFault 1 = .ok (.aload_n 0, 1) := by decide +kernel
theorem dX7_hopFault_2 : decode cX7_hopFault 2 = .ok (.iload_n 1, 1) := by decide +kernel
theorem dX7_hopFault_3 : decode cX7_hopFault 3 = .ok (.invokevirtual 285, 3) := by decide +kernel
theorem dX7_hopFault_6 : decode cX7_hopFault 6 = .ok (.ifCond .eq 7, 3) := by decide +kernel
theorem dX7_hopFault_9 : decode cX7_hopFault 9 = .ok (.iconst 0, 1) := by decide +kernel
theorem dX7_hopFault_10 : decode cX7_hopFault 10 = .ok (.goto 4, 3) := by decide +kernel
theorem dX7_hopFault_13 : decode cX7_hopFault 13 = .ok (.iconst 1, 1) := by decide +kernel
theorem dX7_hopFault_14 : decode cX7_hopFault 14 = .ok (.putfield 59, 3) := by decide +kernel
theorem dX7_hopFault_17 : decode cX7_hopFault 17 = .ok (.aload_n 0, 1) := by decide +kernel
theorem dX7_hopFault_18 : decode cX7_hopFault 18 = .ok (.getfield 59, 3) := by decide +kernel
theorem dX7_hopFault_21 : decode cX7_hopFault 21 = .ok (.ifCond .le 7, 3) := by decide +kernel
theorem dX7_hopFault_24 : decode cX7_hopFault 24 = .ok (.iconst 0, 1) := by decide +kernel
theorem dX7_hopFault_25 : decode cX7_hopFault 25 = .ok (.goto 8, 3) := by decide +kernel
theorem dX7_hopFault_28 : decode cX7_hopFault 28 = .ok (.aload_n 0, 1) := by decide +kernel
theorem dX7_hopFault_29 : decode cX7_hopFault 29 = .ok (.iload_n 1, 1) := by decide +kernel
theorem dX7_hopFault_30 : decode cX7_hopFault 30 = .ok (.invokevirtual 306, 3) := by decide +kernel
theorem dX7_hopFault_33 : decode cX7_hopFault 33 = .ok (.ireturn, 1) := by decide +kernel
theorem eX7_hopFault {W : zWd} {a : Int → Int} {T : Int} {p : Int}  {Q : Option Value → zWd → Prop} {X : zX} (ha : W 117 = a) (hw : zWf T a) (hz : zR p) (hq : 0 ≤ p ∧ p < a 2 → ∀ W' : zWd, zOfQ W W' → W' 116 7 = 0 → Q (some (zI (aHopF a p))) W') (hq1 : ¬ (0 ≤ p ∧ p < a 2) → ∀ W' : zWd, zOfQ W W' → W' 116 7 = 1 → Q (some (zI 0)) W')  : Ev MX7_hopFault 7 0 W [.ref 116, zI p] Q X := by
  refine ev_of (ls := [.ref 116, zI p]) (by decide) rfl (fun _ => rfl) (fun _ => Nat.le_of_ble_eq_true rfl) (Or.inl rfl) ?_
  obtain ⟨w0, w0', wW, w1, w2, w2', w3, w3', w4, w4', w5, w5', w6, w6', w7, w7', wS, wP, wT⟩ := id hw
  have wq := zWf.sq hw
  have hn2 : a 2 ≤ 6 := w2'
  refine rr_aload_n (pc := 0) dX7_hopFault_0 rfl ?_
  refine rr_aload_n (pc := 1) dX7_hopFault_1 rfl ?_
  refine rr_iload_n (pc := 2) dX7_hopFault_2 rfl ?_
  refine rr_inv0 (M' := MX7_isPlayer) (k := 116) (As := [_]) (pc := 3) dX7_hopFault_3 lX7_285 kX7_isPlayer vX7_isPlayer zk_116 (by decide) rfl (by decide) (by decide) (Nat.le_of_ble_eq_true rfl) rfl (eX7_isPlayer ha hw hz ?_)
  refine rr_if_eq (pc := 6) (tgt := 13) dX7_hopFault_6 (by decide) (by split <;> (unfold zR; omega)) (fun h6 => ?_) (fun h6 => ?_)
  · refine rr_iconst (n := 1) dX7_hopFault_13 ?_
    have hnp := z_i10 h6
    refine rr_put (pc := 14) (ji := 7) dX7_hopFault_14 fX7_59 fp_7_7 zk_116 zr_116_7 rfl ?_
    have o1 : zOfQ W (zup W 116 7 1) := zOfQ.t
    have t1 : zup W 116 7 1 116 7 = 1 := zup_s
    have a1 : zup W 116 7 1 117 = a := o1.a.trans ha
    generalize zup W 116 7 1 = W1 at o1 t1 a1 ⊢
    refine rr_aload_n (pc := 17) dX7_hopFault_17 rfl ?_
    refine rr_getI (pc := 18) (ji := 7) dX7_hopFault_18 fX7_59 zk_116 zr_116_7 rfl ?_
    rw [t1]
    refine rr_if_le (pc := 21) (tgt := 28) dX7_hopFault_21 (by decide) (by unfold zR; omega) (fun h21 => ?_) (fun h21 => ?_)
    · omega
    · refine rr_iconst (n := 0) dX7_hopFault_24 ?_
      refine rr_goto (pc := 25) (tgt := 33) dX7_hopFault_25 (by decide) ?_
      exact rr_reti (pc := 33) dX7_hopFault_33 rfl rfl rfl rfl (hq1 hnp W1 o1 t1)
  · refine rr_iconst (n := 0) dX7_hopFault_9 ?_
    refine rr_goto (pc := 10) (tgt := 14) dX7_hopFault_10 (by decide) ?_
    have hpl := z_i10n h6
    refine rr_put (pc := 14) (ji := 7) dX7_hopFault_14 fX7_59 fp_7_7 zk_116 zr_116_7 rfl ?_
    have o1 : zOfQ W (zup W 116 7 0) := zOfQ.t
    have t1 : zup W 116 7 0 116 7 = 0 := zup_s
    have a1 : zup W 116 7 0 117 = a := o1.a.trans ha
    generalize zup W 116 7 0 = W1 at o1 t1 a1 ⊢
    refine rr_aload_n (pc := 17) dX7_hopFault_17 rfl ?_
    refine rr_getI (pc := 18) (ji := 7) dX7_hopFault_18 fX7_59 zk_116 zr_116_7 rfl ?_
    rw [t1]
    refine rr_if_le (pc := 21) (tgt := 28) dX7_hopFault_21 (by decide) (by unfold zR; omega) (fun h21 => ?_) (fun h21 => ?_)
    · refine rr_aload_n (pc := 28) dX7_hopFault_28 rfl ?_
      refine rr_iload_n (pc := 29) dX7_hopFault_29 rfl ?_
      have hp0 := hpl.1
      have hp1 := hpl.2
      refine rr_inv0 (M' := MX7_hopFaultOf) (k := 116) (As := [_]) (pc := 30) dX7_hopFault_30 lX7_306 kX7_hopFaultOf vX7_hopFaultOf zk_116 (by decide) rfl (by decide) (by decide) (Nat.le_of_ble_eq_true rfl) rfl (eX7_hopFaultOf a1 hw hp0 hp1 (fun W2 o2 => ?_))
      exact rr_reti (pc := 33) dX7_hopFault_33 rfl rfl rfl rfl (hq hpl W2 (o1.tr o2.Q) (o2.t7.trans t1))
    · omega
theorem dX7_cost_0 : decode cX7_cost 0 = .ok (.aload_n 0, 1) := by decide +kernel
theorem dX7_cost_1 : decode cX7_cost 1 = .ok (.aload_n 0, 1) := by decide +kernel
theorem dX7_cost_2 : decode cX7_cost 2 = .ok (.iload_n 1, 1) := by decide +kernel
theorem dX7_cost_3 : decode cX7_cost 3 = .ok (.invokevirtual 285, 3) := by decide +kernel
theorem dX7_cost_6 : decode cX7_cost 6 = .ok (.ifCond .eq 7, 3) := by decide +kernel
theorem dX7_cost_9 : decode cX7_cost 9 = .ok (.iconst 0, 1) := by decide +kernel
theorem dX7_cost_10 : decode cX7_cost 10 = .ok (.goto 4, 3) := by decide +kernel
theorem dX7_cost_13 : decode cX7_cost 13 = .ok (.iconst 1, 1) := by decide +kernel
theorem dX7_cost_14 : decode cX7_cost 14 = .ok (.putfield 59, 3) := by decide +kernel
theorem dX7_cost_17 : decode cX7_cost 17 = .ok (.aload_n 0, 1) := by decide +kernel
theorem dX7_cost_18 : decode cX7_cost 18 = .ok (.getfield 59, 3) := by decide +kernel
theorem dX7_cost_21 : decode cX7_cost 21 = .ok (.ifCond .le 7, 3) := by decide +kernel
theorem dX7_cost_24 : decode cX7_cost 24 = .ok (.iconst 0, 1) := by decide +kernel
theorem dX7_cost_25 : decode cX7_cost 25 = .ok (.goto 9, 3) := by decide +kernel
theorem dX7_cost_28 : decode cX7_cost 28 = .ok (.aload_n 0, 1) := by decide +kernel
theorem dX7_cost_29 : decode cX7_cost 29 = .ok (.iload_n 1, 1) := by decide +kernel
theorem dX7_cost_30 : decode cX7_cost 30 = .ok (.iload_n 2, 1) := by decide +kernel
theorem dX7_cost_31 : decode cX7_cost 31 = .ok (.invokevirtual 309, 3) := by decide +kernel
theorem dX7_cost_34 : decode cX7_cost 34 = .ok (.ireturn, 1) := by decide +kernel
theorem eX7_cost {W : zWd} {a : Int → Int} {T : Int} {p : Int} {b : Int} {Q : Option Value → zWd → Prop} {X : zX} (ha : W 117 = a) (hw : zWf T a) (hz : zR p) (hb : b = 0 ∨ b = 1) (hq : 0 ≤ p ∧ p < a 2 → ∀ W' : zWd, zOfQ W W' → W' 116 7 = 0 → Q (some (zI (aCost a p (aP a p 2) (aRc a p) b))) W') (hq1 : ¬ (0 ≤ p ∧ p < a 2) → ∀ W' : zWd, zOfQ W W' → W' 116 7 = 1 → Q (some (zI 0)) W')  : Ev MX7_cost 6 0 W [.ref 116, zI p, zI b] Q X := by
  refine ev_of (ls := [.ref 116, zI p, zI b]) (by decide) rfl (fun _ => rfl) (fun _ => Nat.le_of_ble_eq_true rfl) (Or.inl rfl) ?_
  obtain ⟨w0, w0', wW, w1, w2, w2', w3, w3', w4, w4', w5, w5', w6, w6', w7, w7', wS, wP, wT⟩ := id hw
  have wq := zWf.sq hw
  have hn2 : a 2 ≤ 6 := w2'
  refine rr_aload_n (pc := 0) dX7_cost_0 rfl ?_
  refine rr_aload_n (pc := 1) dX7_cost_1 rfl ?_
  refine rr_iload_n (pc := 2) dX7_cost_2 rfl ?_
  refine rr_inv0 (M' := MX7_isPlayer) (k := 116) (As := [_]) (pc := 3) dX7_cost_3 lX7_285 kX7_isPlayer vX7_isPlayer zk_116 (by decide) rfl (by decide) (by decide) (Nat.le_of_ble_eq_true rfl) rfl (eX7_isPlayer ha hw hz ?_)
  refine rr_if_eq (pc := 6) (tgt := 13) dX7_cost_6 (by decide) (by split <;> (unfold zR; omega)) (fun h6 => ?_) (fun h6 => ?_)
  · refine rr_iconst (n := 1) dX7_cost_13 ?_
    have hnp := z_i10 h6
    refine rr_put (pc := 14) (ji := 7) dX7_cost_14 fX7_59 fp_7_7 zk_116 zr_116_7 rfl ?_
    have o1 : zOfQ W (zup W 116 7 1) := zOfQ.t
    have t1 : zup W 116 7 1 116 7 = 1 := zup_s
    have a1 : zup W 116 7 1 117 = a := o1.a.trans ha
    generalize zup W 116 7 1 = W1 at o1 t1 a1 ⊢
    refine rr_aload_n (pc := 17) dX7_cost_17 rfl ?_
    refine rr_getI (pc := 18) (ji := 7) dX7_cost_18 fX7_59 zk_116 zr_116_7 rfl ?_
    rw [t1]
    refine rr_if_le (pc := 21) (tgt := 28) dX7_cost_21 (by decide) (by unfold zR; omega) (fun h21 => ?_) (fun h21 => ?_)
    · omega
    · refine rr_iconst (n := 0) dX7_cost_24 ?_
      refine rr_goto (pc := 25) (tgt := 34) dX7_cost_25 (by decide) ?_
      exact rr_reti (pc := 34) dX7_cost_34 rfl rfl rfl rfl (hq1 hnp W1 o1 t1)
  · refine rr_iconst (n := 0) dX7_cost_9 ?_
    refine rr_goto (pc := 10) (tgt := 14) dX7_cost_10 (by decide) ?_
    have hpl := z_i10n h6
    refine rr_put (pc := 14) (ji := 7) dX7_cost_14 fX7_59 fp_7_7 zk_116 zr_116_7 rfl ?_
    have o1 : zOfQ W (zup W 116 7 0) := zOfQ.t
    have t1 : zup W 116 7 0 116 7 = 0 := zup_s
    have a1 : zup W 116 7 0 117 = a := o1.a.trans ha
    generalize zup W 116 7 0 = W1 at o1 t1 a1 ⊢
    refine rr_aload_n (pc := 17) dX7_cost_17 rfl ?_
    refine rr_getI (pc := 18) (ji := 7) dX7_cost_18 fX7_59 zk_116 zr_116_7 rfl ?_
    rw [t1]
    refine rr_if_le (pc := 21) (tgt := 28) dX7_cost_21 (by decide) (by unfold zR; omega) (fun h21 => ?_) (fun h21 => ?_)
    · refine rr_aload_n (pc := 28) dX7_cost_28 rfl ?_
      refine rr_iload_n (pc := 29) dX7_cost_29 rfl ?_
      refine rr_iload_n (pc := 30) dX7_cost_30 rfl ?_
      have hp0 := hpl.1
      have hp1 := hpl.2
      refine rr_inv0 (M' := MX7_costOf) (k := 116) (As := [_, _]) (pc := 31) dX7_cost_31 lX7_309 kX7_costOf vX7_costOf zk_116 (by decide) rfl (by decide) (by decide) (Nat.le_of_ble_eq_true rfl) rfl (eX7_costOf a1 hw hp0 hp1 hb (fun W2 o2 l2 => ?_))
      exact rr_reti (pc := 34) dX7_cost_34 rfl rfl rfl rfl (hq hpl W2 (o1.tr o2.Q) (o2.t7.trans t1))
    · omega
theorem dX7_playable_0 : decode cX7_playable 0 = .ok (.aload_n 0, 1) := by decide +kernel
theorem dX7_playable_1 : decode cX7_playable 1 = .ok (.aload_n 0, 1) := by decide +kernel
theorem dX7_playable_2 : decode cX7_playable 2 = .ok (.iload_n 1, 1) := by decide +kernel
theorem dX7_playable_3 : decode cX7_playable 3 = .ok (.invokevirtual 285, 3) := by decide +kernel
theorem dX7_playable_6 : decode cX7_playable 6 = .ok (.ifCond .eq 7, 3) := by decide +kernel
theorem dX7_playable_9 : decode cX7_playable 9 = .ok (.iconst 0, 1) := by decide +kernel
theorem dX7_playable_10 : decode cX7_playable 10 = .ok (.goto 4, 3) := by decide +kernel
theorem dX7_playable_13 : decode cX7_playable 13 = .ok (.iconst 1, 1) := by decide +kernel
theorem dX7_playable_14 : decode cX7_playable 14 = .ok (.putfield 59, 3) := by decide +kernel
theorem dX7_playable_17 : decode cX7_playable 17 = .ok (.aload_n 0, 1) := by decide +kernel
theorem dX7_playable_18 : decode cX7_playable 18 = .ok (.getfield 59, 3) := by decide +kernel
theorem dX7_playable_21 : decode cX7_playable 21 = .ok (.ifCond .le 7, 3) := by decide +kernel
theorem dX7_playable_24 : decode cX7_playable 24 = .ok (.iconst 0, 1) := by decide +kernel
theorem dX7_playable_25 : decode cX7_playable 25 = .ok (.goto 8, 3) := by decide +kernel
theorem dX7_playable_28 : decode cX7_playable 28 = .ok (.aload_n 0, 1) := by decide +kernel
theorem dX7_playable_29 : decode cX7_playable 29 = .ok (.iload_n 1, 1) := by decide +kernel
theorem dX7_playable_30 : decode cX7_playable 30 = .ok (.invokevirtual 312, 3) := by decide +kernel
theorem dX7_playable_33 : decode cX7_playable 33 = .ok (.ireturn, 1) := by decide +kernel
theorem eX7_playable {W : zWd} {a : Int → Int} {T : Int} {p : Int}  {Q : Option Value → zWd → Prop} {X : zX} (ha : W 117 = a) (hw : zWf T a) (hz : zR p) (hq : 0 ≤ p ∧ p < a 2 → ∀ W' : zWd, zOfQ W W' → W' 116 7 = 0 → Q (some (zI (aPlay a p))) W') (hq1 : ¬ (0 ≤ p ∧ p < a 2) → ∀ W' : zWd, zOfQ W W' → W' 116 7 = 1 → Q (some (zI 0)) W')  : Ev MX7_playable 7 0 W [.ref 116, zI p] Q X := by
  refine ev_of (ls := [.ref 116, zI p]) (by decide) rfl (fun _ => rfl) (fun _ => Nat.le_of_ble_eq_true rfl) (Or.inl rfl) ?_
  obtain ⟨w0, w0', wW, w1, w2, w2', w3, w3', w4, w4', w5, w5', w6, w6', w7, w7', wS, wP, wT⟩ := id hw
  have wq := zWf.sq hw
  have hn2 : a 2 ≤ 6 := w2'
  refine rr_aload_n (pc := 0) dX7_playable_0 rfl ?_
  refine rr_aload_n (pc := 1) dX7_playable_1 rfl ?_
  refine rr_iload_n (pc := 2) dX7_playable_2 rfl ?_
  refine rr_inv0 (M' := MX7_isPlayer) (k := 116) (As := [_]) (pc := 3) dX7_playable_3 lX7_285 kX7_isPlayer vX7_isPlayer zk_116 (by decide) rfl (by decide) (by decide) (Nat.le_of_ble_eq_true rfl) rfl (eX7_isPlayer ha hw hz ?_)
  refine rr_if_eq (pc := 6) (tgt := 13) dX7_playable_6 (by decide) (by split <;> (unfold zR; omega)) (fun h6 => ?_) (fun h6 => ?_)
  · refine rr_iconst (n := 1) dX7_playable_13 ?_
    have hnp := z_i10 h6
    refine rr_put (pc := 14) (ji := 7) dX7_playable_14 fX7_59 fp_7_7 zk_116 zr_116_7 rfl ?_
    have o1 : zOfQ W (zup W 116 7 1) := zOfQ.t
    have t1 : zup W 116 7 1 116 7 = 1 := zup_s
    have a1 : zup W 116 7 1 117 = a := o1.a.trans ha
    generalize zup W 116 7 1 = W1 at o1 t1 a1 ⊢
    refine rr_aload_n (pc := 17) dX7_playable_17 rfl ?_
    refine rr_getI (pc := 18) (ji := 7) dX7_playable_18 fX7_59 zk_116 zr_116_7 rfl ?_
    rw [t1]
    refine rr_if_le (pc := 21) (tgt := 28) dX7_playable_21 (by decide) (by unfold zR; omega) (fun h21 => ?_) (fun h21 => ?_)
    · omega
    · refine rr_iconst (n := 0) dX7_playable_24 ?_
      refine rr_goto (pc := 25) (tgt := 33) dX7_playable_25 (by decide) ?_
      exact rr_reti (pc := 33) dX7_playable_33 rfl rfl rfl rfl (hq1 hnp W1 o1 t1)
  · refine rr_iconst (n := 0) dX7_playable_9 ?_
    refine rr_goto (pc := 10) (tgt := 14) dX7_playable_10 (by decide) ?_
    have hpl := z_i10n h6
    refine rr_put (pc := 14) (ji := 7) dX7_playable_14 fX7_59 fp_7_7 zk_116 zr_116_7 rfl ?_
    have o1 : zOfQ W (zup W 116 7 0) := zOfQ.t
    have t1 : zup W 116 7 0 116 7 = 0 := zup_s
    have a1 : zup W 116 7 0 117 = a := o1.a.trans ha
    generalize zup W 116 7 0 = W1 at o1 t1 a1 ⊢
    refine rr_aload_n (pc := 17) dX7_playable_17 rfl ?_
    refine rr_getI (pc := 18) (ji := 7) dX7_playable_18 fX7_59 zk_116 zr_116_7 rfl ?_
    rw [t1]
    refine rr_if_le (pc := 21) (tgt := 28) dX7_playable_21 (by decide) (by unfold zR; omega) (fun h21 => ?_) (fun h21 => ?_)
    · refine rr_aload_n (pc := 28) dX7_playable_28 rfl ?_
      refine rr_iload_n (pc := 29) dX7_playable_29 rfl ?_
      have hp0 := hpl.1
      have hp1 := hpl.2
      refine rr_inv0 (M' := MX7_playableOf) (k := 116) (As := [_]) (pc := 30) dX7_playable_30 lX7_312 kX7_playableOf vX7_playableOf zk_116 (by decide) rfl (by decide) (by decide) (Nat.le_of_ble_eq_true rfl) rfl (eX7_playableOf a1 hw hp0 hp1 (fun W2 o2 => ?_))
      exact rr_reti (pc := 33) dX7_playable_33 rfl rfl rfl rfl (hq hpl W2 (o1.tr o2.Q) (o2.t7.trans t1))
    · omega
theorem aFw_R0 {a : Int → Int} {q tg : Int} {rc : Nat} (h : 0 ≤ tg) : aFw a q tg rc = 0 ↔ ¬ (aCost a q tg rc 0 = -1 ∨ aCost a q tg rc 1 = -1) := by
  by_cases z : tg = 0
  · subst z
    unfold aFw
    rw [if_pos rfl]
    exact ⟨fun y => by omega, fun y => absurd (Or.inl aCost_0) y⟩
  · exact aFw_0 (by omega)
theorem dX7_leastReach_0 : decode cX7_leastReach 0 = .ok (.aload_n 0, 1) := by decide +kernel
theorem dX7_leastReach_1 : decode cX7_leastReach 1 = .ok (.aload_n 0, 1) := by decide +kernel
theorem dX7_leastReach_2 : decode cX7_leastReach 2 = .ok (.iload_n 1, 1) := by decide +kernel
theorem dX7_leastReach_3 : decode cX7_leastReach 3 = .ok (.invokevirtual 285, 3) := by decide +kernel
theorem dX7_leastReach_6 : decode cX7_leastReach 6 = .ok (.ifCond .eq 7, 3) := by decide +kernel
theorem dX7_leastReach_9 : decode cX7_leastReach 9 = .ok (.iconst 0, 1) := by decide +kernel
theorem dX7_leastReach_10 : decode cX7_leastReach 10 = .ok (.goto 4, 3) := by decide +kernel
theorem dX7_leastReach_13 : decode cX7_leastReach 13 = .ok (.iconst 1, 1) := by decide +kernel
theorem dX7_leastReach_14 : decode cX7_leastReach 14 = .ok (.putfield 59, 3) := by decide +kernel
theorem dX7_leastReach_17 : decode cX7_leastReach 17 = .ok (.aload_n 0, 1) := by decide +kernel
theorem dX7_leastReach_18 : decode cX7_leastReach 18 = .ok (.getfield 59, 3) := by decide +kernel
theorem dX7_leastReach_21 : decode cX7_leastReach 21 = .ok (.ifCond .le 5, 3) := by decide +kernel
theorem dX7_leastReach_24 : decode cX7_leastReach 24 = .ok (.iconst 0, 1) := by decide +kernel
theorem dX7_leastReach_25 : decode cX7_leastReach 25 = .ok (.ireturn, 1) := by decide +kernel
theorem dX7_leastReach_26 : decode cX7_leastReach 26 = .ok (.iconst 1, 1) := by decide +kernel
theorem dX7_leastReach_27 : decode cX7_leastReach 27 = .ok (.istore_n 2, 1) := by decide +kernel
theorem dX7_leastReach_28 : decode cX7_leastReach 28 = .ok (.iload_n 2, 1) := by decide +kernel
theorem dX7_leastReach_29 : decode cX7_leastReach 29 = .ok (.iconst 5, 1) := by decide +kernel
theorem dX7_leastReach_30 : decode cX7_leastReach 30 = .ok (.if_icmp .ge 26, 3) := by decide +kernel
theorem dX7_leastReach_33 : decode cX7_leastReach 33 = .ok (.aload_n 0, 1) := by decide +kernel
theorem dX7_leastReach_34 : decode cX7_leastReach 34 = .ok (.iload_n 1, 1) := by decide +kernel
theorem dX7_leastReach_35 : decode cX7_leastReach 35 = .ok (.aload_n 0, 1) := by decide +kernel
theorem dX7_leastReach_36 : decode cX7_leastReach 36 = .ok (.iload_n 1, 1) := by decide +kernel
theorem dX7_leastReach_37 : decode cX7_leastReach 37 = .ok (.iconst 2, 1) := by decide +kernel
theorem dX7_leastReach_38 : decode cX7_leastReach 38 = .ok (.invokevirtual 154, 3) := by decide +kernel
theorem dX7_leastReach_41 : decode cX7_leastReach 41 = .ok (.iload_n 2, 1) := by decide +kernel
theorem dX7_leastReach_42 : decode cX7_leastReach 42 = .ok (.invokevirtual 267, 3) := by decide +kernel
theorem dX7_leastReach_45 : decode cX7_leastReach 45 = .ok (.ifCond .ne 5, 3) := by decide +kernel
theorem dX7_leastReach_48 : decode cX7_leastReach 48 = .ok (.iload_n 2, 1) := by decide +kernel
theorem dX7_leastReach_49 : decode cX7_leastReach 49 = .ok (.ireturn, 1) := by decide +kernel
theorem dX7_leastReach_50 : decode cX7_leastReach 50 = .ok (.iinc 2 1, 3) := by decide +kernel
theorem dX7_leastReach_53 : decode cX7_leastReach 53 = .ok (.goto (-25), 3) := by decide +kernel
theorem dX7_leastReach_56 : decode cX7_leastReach 56 = .ok (.iconst (-1), 1) := by decide +kernel
theorem dX7_leastReach_57 : decode cX7_leastReach 57 = .ok (.ireturn, 1) := by decide +kernel
theorem eX7_leastReach {W : zWd} {a : Int → Int} {T : Int} {p : Int}  {Q : Option Value → zWd → Prop} {X : zX} (ha : W 117 = a) (hw : zWf T a) (hz : zR p) (hq : 0 ≤ p ∧ p < a 2 → ∀ W' : zWd, zOfQ W W' → W' 116 7 = 0 → Q (some (zI (aLr a p 4 1))) W') (hq1 : ¬ (0 ≤ p ∧ p < a 2) → ∀ W' : zWd, zOfQ W W' → W' 116 7 = 1 → Q (some (zI 0)) W')  : Ev MX7_leastReach 6 0 W [.ref 116, zI p] Q X := by
  refine ev_of (ls := [.ref 116, zI p, .null]) (by decide) rfl (fun _ => rfl) (fun _ => Nat.le_of_ble_eq_true rfl) (Or.inl rfl) ?_
  obtain ⟨w0, w0', wW, w1, w2, w2', w3, w3', w4, w4', w5, w5', w6, w6', w7, w7', wS, wP, wT⟩ := id hw
  have wq := zWf.sq hw
  have hn2 : a 2 ≤ 6 := w2'
  refine rr_aload_n (pc := 0) dX7_leastReach_0 rfl ?_
  refine rr_aload_n (pc := 1) dX7_leastReach_1 rfl ?_
  refine rr_iload_n (pc := 2) dX7_leastReach_2 rfl ?_
  refine rr_inv0 (M' := MX7_isPlayer) (k := 116) (As := [_]) (pc := 3) dX7_leastReach_3 lX7_285 kX7_isPlayer vX7_isPlayer zk_116 (by decide) rfl (by decide) (by decide) (Nat.le_of_ble_eq_true rfl) rfl (eX7_isPlayer ha hw hz ?_)
  refine rr_if_eq (pc := 6) (tgt := 13) dX7_leastReach_6 (by decide) (by split <;> (unfold zR; omega)) (fun h6 => ?_) (fun h6 => ?_)
  · refine rr_iconst (n := 1) dX7_leastReach_13 ?_
    have hnp := z_i10 h6
    refine rr_put (pc := 14) (ji := 7) dX7_leastReach_14 fX7_59 fp_7_7 zk_116 zr_116_7 rfl ?_
    have o1 : zOfQ W (zup W 116 7 1) := zOfQ.t
    have t1 : zup W 116 7 1 116 7 = 1 := zup_s
    have a1 : zup W 116 7 1 117 = a := o1.a.trans ha
    generalize zup W 116 7 1 = W1 at o1 t1 a1 ⊢
    refine rr_aload_n (pc := 17) dX7_leastReach_17 rfl ?_
    refine rr_getI (pc := 18) (ji := 7) dX7_leastReach_18 fX7_59 zk_116 zr_116_7 rfl ?_
    rw [t1]
    refine rr_if_le (pc := 21) (tgt := 26) dX7_leastReach_21 (by decide) (by unfold zR; omega) (fun h21 => ?_) (fun h21 => ?_)
    · omega
    · refine rr_iconst (n := 0) dX7_leastReach_24 ?_
      exact rr_reti (pc := 25) dX7_leastReach_25 rfl rfl rfl rfl (hq1 hnp W1 o1 t1)
  · refine rr_iconst (n := 0) dX7_leastReach_9 ?_
    refine rr_goto (pc := 10) (tgt := 14) dX7_leastReach_10 (by decide) ?_
    have hpl := z_i10n h6
    refine rr_put (pc := 14) (ji := 7) dX7_leastReach_14 fX7_59 fp_7_7 zk_116 zr_116_7 rfl ?_
    have o1 : zOfQ W (zup W 116 7 0) := zOfQ.t
    have t1 : zup W 116 7 0 116 7 = 0 := zup_s
    have a1 : zup W 116 7 0 117 = a := o1.a.trans ha
    generalize zup W 116 7 0 = W1 at o1 t1 a1 ⊢
    refine rr_aload_n (pc := 17) dX7_leastReach_17 rfl ?_
    refine rr_getI (pc := 18) (ji := 7) dX7_leastReach_18 fX7_59 zk_116 zr_116_7 rfl ?_
    rw [t1]
    refine rr_if_le (pc := 21) (tgt := 26) dX7_leastReach_21 (by decide) (by unfold zR; omega) (fun h21 => ?_) (fun h21 => ?_)
    · refine rr_iconst (n := 1) dX7_leastReach_26 ?_
      refine rr_istore_n (pc := 27) dX7_leastReach_27 (by decide) ?_
      have hp0 := hpl.1
      have hp1 := hpl.2
      have hm2 := wP p hp0 hp1
      unfold zWfP at hm2
      have loop : ∀ (n : Nat) (r : Nat) (Wi : zWd), 1 ≤ r → r ≤ 5 → zOfQ W Wi → Wi 116 7 = 0 → aLr a p (5 - r) r = aLr a p 4 1 → 5 - r < n → RR MX7_leastReach 6 0 Wi 28 [.ref 116, zI p, zI (r : Int)] [] (zEnd MX7_leastReach Q X) X := by
        intro n
        induction n with
        | zero => intro r Wi _ _ _ _ _ hm9; omega
        | succ n ih =>
          intro r Wi h1 h2 hO hT hL hm9
          refine rr_iload_n (pc := 28) dX7_leastReach_28 rfl ?_
          refine rr_iconst (n := 5) dX7_leastReach_29 ?_
          refine rr_icmp_ge (pc := 30) (tgt := 56) dX7_leastReach_30 (by decide) (by unfold zR; omega) (by unfold zR; omega) (fun h30 => ?_) (fun h30 => ?_)
          · refine rr_iconst (n := (-1)) dX7_leastReach_56 ?_
            rw [show 5 - r = 0 by omega] at hL
            exact rr_reti (pc := 57) dX7_leastReach_57 rfl rfl hL rfl (hq hpl Wi hO hT)
          · refine rr_aload_n (pc := 33) dX7_leastReach_33 rfl ?_
            refine rr_iload_n (pc := 34) dX7_leastReach_34 rfl ?_
            refine rr_aload_n (pc := 35) dX7_leastReach_35 rfl ?_
            refine rr_iload_n (pc := 36) dX7_leastReach_36 rfl ?_
            refine rr_iconst (n := 2) dX7_leastReach_37 ?_
            have ea : Wi 117 = a := hO.a.trans ha
            refine rr_inv0 (M' := MX7_of) (k := 116) (As := [_, _]) (pc := 38) dX7_leastReach_38 lX7_154 kX7_of vX7_of zk_116 (by decide) rfl (by decide) (by decide) (Nat.le_of_ble_eq_true rfl) rfl (eX7_of (by omega) (by omega) (by omega) (by omega) ?_)
            rw [ea]
            refine rr_iload_n (pc := 41) dX7_leastReach_41 rfl ?_
            refine rr_inv0 (M' := MX7_faultWith) (k := 116) (As := [_, _, _]) (pc := 42) dX7_leastReach_42 lX7_267 kX7_faultWith vX7_faultWith zk_116 (by decide) rfl (by decide) (by decide) (Nat.le_of_ble_eq_true rfl) rfl (eX7_faultWith ea hw hp0 hp1 (by omega) (by omega) (by omega) (by omega) (fun W2 o2 => ?_))
            have hfw := @aFw_R a p (aP a p 2) r
            have hf0 := @aFw_R0 a p (aP a p 2) r (by omega)
            rw [show 5 - r = (5 - (r + 1)) + 1 by omega] at hL
            unfold aLr at hL
            refine rr_if_ne (pc := 45) (tgt := 50) dX7_leastReach_45 (by decide) (by unfold zR; omega) (fun h45 => ?_) (fun h45 => ?_)
            · refine rr_iinc (pc := 50) dX7_leastReach_50 rfl (by decide) ?_
              refine rr_goto (pc := 53) (tgt := 28) dX7_leastReach_53 (by decide) ?_
              rw [if_pos (Classical.byContradiction fun z => h45 (hf0.mpr z))] at hL
              exact ih (r + 1) W2 (by omega) (by omega) (hO.tr o2.Q) (o2.t7.trans hT) hL (by omega)
            · refine rr_iload_n (pc := 48) dX7_leastReach_48 rfl ?_
              rw [if_neg (hf0.mp (by omega))] at hL
              exact rr_reti (pc := 49) dX7_leastReach_49 rfl rfl hL rfl (hq hpl W2 (hO.tr o2.Q) (o2.t7.trans hT))
      exact loop _ 1 W1 (by omega) (by omega) o1 t1 rfl (Nat.lt_succ_self _)
    · omega
